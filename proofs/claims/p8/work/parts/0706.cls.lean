theorem ggX0_setWave_X0_mayBe : GoodIn wsX0_setWave wsX0_mayBe := gi_sub (fun w h => List.mem_cons_of_mem _ (List.mem_append_left _ (List.mem_append_left _ (List.mem_append_left _ (List.mem_append_right _ (List.mem_append_left _ h)))))) gd_wsX0_mayBe
set_option maxRecDepth 20000 in
theorem gX0_setWave_X0_mayBe : GoodIn wsX0_setWave (wsV RX0 71 RX0 yX0_mayBe wsX0_mayBe) := goodIn_app (goodIn_r _ [2, 3, 4, 5] (by decide +kernel) (by decide +kernel)) ggX0_setWave_X0_mayBe
theorem ggX0_setWave_J6_bitCount_0f7a4 : GoodIn wsX0_setWave wsJ6_bitCount_0f7a4 := gi_sub (fun w h => List.mem_cons_of_mem _ (List.mem_append_left _ (List.mem_append_left _ (List.mem_append_left _ (List.mem_append_right _ (List.mem_append_right _ h)))))) gd_wsJ6_bitCount_0f7a4
set_option maxRecDepth 20000 in
theorem gX0_setWave_J6_bitCount_0f7a4 : GoodIn wsX0_setWave (va_wsS RX0 75 yJ6_bitCount_0f7a4 wsJ6_bitCount_0f7a4) := goodIn_app (goodIn_of _ (by decide +kernel)) ggX0_setWave_J6_bitCount_0f7a4
theorem dX0_setWave_0 : decode cX0_setWave 0 = .ok (.aload_n 0, 1) := dc1_42 (by decide +kernel)
theorem dX0_setWave_1 : decode cX0_setWave 1 = .ok (.getfield 27, 3) := dcw_180 (by decide +kernel)
theorem dX0_setWave_4 : decode cX0_setWave 4 = .ok (.iconst 0, 1) := dc1_3 (by decide +kernel)
theorem dX0_setWave_5 : decode cX0_setWave 5 = .ok (.iload_n 2, 1) := dc1_28 (by decide +kernel)
theorem dX0_setWave_6 : decode cX0_setWave 6 = .ok (.iastore, 1) := dc1_79 (by decide +kernel)
theorem dX0_setWave_7 : decode cX0_setWave 7 = .ok (.aload_n 0, 1) := dc1_42 (by decide +kernel)
theorem dX0_setWave_8 : decode cX0_setWave 8 = .ok (.getfield 27, 3) := dcw_180 (by decide +kernel)
theorem dX0_setWave_11 : decode cX0_setWave 11 = .ok (.iconst 4, 1) := dc1_7 (by decide +kernel)
theorem dX0_setWave_12 : decode cX0_setWave 12 = .ok (.aload_n 0, 1) := dc1_42 (by decide +kernel)
theorem dX0_setWave_13 : decode cX0_setWave 13 = .ok (.aload_n 1, 1) := dc1_43 (by decide +kernel)
theorem dX0_setWave_14 : decode cX0_setWave 14 = .ok (.iload_n 2, 1) := dc1_28 (by decide +kernel)
theorem dX0_setWave_15 : decode cX0_setWave 15 = .ok (.invokevirtual 71, 3) := dcw_182 (by decide +kernel)
theorem dX0_setWave_18 : decode cX0_setWave 18 = .ok (.invokestatic 75, 3) := dcw_184 (by decide +kernel)
theorem dX0_setWave_21 : decode cX0_setWave 21 = .ok (.iastore, 1) := dc1_79 (by decide +kernel)
theorem dX0_setWave_22 : decode cX0_setWave 22 = .ok (.aload_n 0, 1) := dc1_42 (by decide +kernel)
theorem dX0_setWave_23 : decode cX0_setWave 23 = .ok (.getfield 27, 3) := dcw_180 (by decide +kernel)
theorem dX0_setWave_26 : decode cX0_setWave 26 = .ok (.bipush 7, 2) := dcb_16 (n := 7) (by decide +kernel)
theorem dX0_setWave_28 : decode cX0_setWave 28 = .ok (.aload_n 1, 1) := dc1_43 (by decide +kernel)
theorem dX0_setWave_29 : decode cX0_setWave 29 = .ok (.getfield 36, 3) := dcw_180 (by decide +kernel)
theorem dX0_setWave_32 : decode cX0_setWave 32 = .ok (.iload_n 2, 1) := dc1_28 (by decide +kernel)
theorem dX0_setWave_33 : decode cX0_setWave 33 = .ok (.iaload, 1) := dc1_46 (by decide +kernel)
theorem dX0_setWave_34 : decode cX0_setWave 34 = .ok (.invokestatic 75, 3) := dcw_184 (by decide +kernel)
theorem dX0_setWave_37 : decode cX0_setWave 37 = .ok (.iastore, 1) := dc1_79 (by decide +kernel)
theorem dX0_setWave_38 : decode cX0_setWave 38 = .ok (.return_, 1) := dc1_177 (by decide +kernel)
theorem ggX1_putNumber_X1_put : GoodIn wsX1_putNumber wsX1_put := gi_sub (fun w h => List.mem_cons_of_mem _ (List.mem_append_left _ (List.mem_append_right _ h))) gd_wsX1_put
set_option maxRecDepth 20000 in
theorem gX1_putNumber_X1_put : GoodIn wsX1_putNumber (wsV RX1 60 RX1 yX1_put wsX1_put) := goodIn_app (goodIn_r _ [1, 2, 3, 4] (by decide +kernel) (by decide +kernel)) ggX1_putNumber_X1_put
theorem dX1_putNumber_0 : decode cX1_putNumber 0 = .ok (.aload_n 0, 1) := dc1_42 (by decide +kernel)
theorem dX1_putNumber_1 : decode cX1_putNumber 1 = .ok (.iload_n 1, 1) := dc1_27 (by decide +kernel)
theorem dX1_putNumber_2 : decode cX1_putNumber 2 = .ok (.invokevirtual 60, 3) := dcw_182 (by decide +kernel)
theorem dX1_putNumber_5 : decode cX1_putNumber 5 = .ok (.return_, 1) := dc1_177 (by decide +kernel)
theorem ggX1_putVar_X1_put : GoodIn wsX1_putVar wsX1_put := gi_sub (fun w h => List.mem_cons_of_mem _ (List.mem_append_left _ (List.mem_append_right _ h))) gd_wsX1_put
set_option maxRecDepth 20000 in
theorem gX1_putVar_X1_put : GoodIn wsX1_putVar (wsV RX1 60 RX1 yX1_put wsX1_put) := goodIn_app (goodIn_r _ [1, 2, 3, 4] (by decide +kernel) (by decide +kernel)) ggX1_putVar_X1_put
theorem dX1_putVar_0 : decode cX1_putVar 0 = .ok (.aload_n 0, 1) := dc1_42 (by decide +kernel)
theorem dX1_putVar_1 : decode cX1_putVar 1 = .ok (.iconst (-1), 1) := dc1_2 (by decide +kernel)
theorem dX1_putVar_2 : decode cX1_putVar 2 = .ok (.iload_n 1, 1) := dc1_27 (by decide +kernel)
theorem dX1_putVar_3 : decode cX1_putVar 3 = .ok (.isub, 1) := dc1_100 (by decide +kernel)
theorem dX1_putVar_4 : decode cX1_putVar 4 = .ok (.invokevirtual 60, 3) := dcw_182 (by decide +kernel)
theorem dX1_putVar_7 : decode cX1_putVar 7 = .ok (.return_, 1) := dc1_177 (by decide +kernel)
theorem ggX1_putSign_X1_put : GoodIn wsX1_putSign wsX1_put := gi_sub (fun w h => List.mem_cons_of_mem _ (List.mem_append_left _ (List.mem_append_right _ h))) gd_wsX1_put
set_option maxRecDepth 20000 in
theorem gX1_putSign_X1_put : GoodIn wsX1_putSign (wsV RX1 60 RX1 yX1_put wsX1_put) := goodIn_app (goodIn_r _ [1, 2, 3, 4] (by decide +kernel) (by decide +kernel)) ggX1_putSign_X1_put
theorem dX1_putSign_0 : decode cX1_putSign 0 = .ok (.aload_n 0, 1) := dc1_42 (by decide +kernel)
theorem dX1_putSign_1 : decode cX1_putSign 1 = .ok (.iload_n 1, 1) := dc1_27 (by decide +kernel)
theorem dX1_putSign_2 : decode cX1_putSign 2 = .ok (.ineg, 1) := dc1_116 (by decide +kernel)
theorem dX1_putSign_3 : decode cX1_putSign 3 = .ok (.invokevirtual 60, 3) := dcw_182 (by decide +kernel)
theorem dX1_putSign_6 : decode cX1_putSign 6 = .ok (.return_, 1) := dc1_177 (by decide +kernel)
theorem ggX1_partValue_X1_joined : GoodIn wsX1_partValue wsX1_joined := gi_sub (fun w h => List.mem_cons_of_mem _ (List.mem_append_left _ (List.mem_append_right _ h))) gd_wsX1_joined
set_option maxRecDepth 20000 in
theorem gX1_partValue_X1_joined : GoodIn wsX1_partValue (wsV RX1 71 RX1 yX1_joined wsX1_joined) := goodIn_app (goodIn_r _ [6, 7, 8, 9] (by decide +kernel) (by decide +kernel)) ggX1_partValue_X1_joined
theorem dX1_partValue_0 : decode cX1_partValue 0 = .ok (.iload_n 2, 1) := dc1_28 (by decide +kernel)
theorem dX1_partValue_1 : decode cX1_partValue 1 = .ok (.ifCond .lt 9, 3) := dcs_155 (n := 9) (by decide +kernel)
theorem dX1_partValue_4 : decode cX1_partValue 4 = .ok (.iload_n 2, 1) := dc1_28 (by decide +kernel)
theorem dX1_partValue_5 : decode cX1_partValue 5 = .ok (.bipush 13, 2) := dcb_16 (n := 13) (by decide +kernel)
theorem dX1_partValue_7 : decode cX1_partValue 7 = .ok (.if_icmp .lt 5, 3) := dcs_161 (n := 5) (by decide +kernel)
theorem dX1_partValue_10 : decode cX1_partValue 10 = .ok (.iconst 0, 1) := dc1_3 (by decide +kernel)
theorem dX1_partValue_11 : decode cX1_partValue 11 = .ok (.ireturn, 1) := dc1_172 (by decide +kernel)
theorem dX1_partValue_12 : decode cX1_partValue 12 = .ok (.iload_n 1, 1) := dc1_27 (by decide +kernel)
theorem dX1_partValue_13 : decode cX1_partValue 13 = .ok (.bipush 13, 2) := dcb_16 (n := 13) (by decide +kernel)
theorem dX1_partValue_15 : decode cX1_partValue 15 = .ok (.imul, 1) := dc1_104 (by decide +kernel)
theorem dX1_partValue_16 : decode cX1_partValue 16 = .ok (.iload_n 2, 1) := dc1_28 (by decide +kernel)
theorem dX1_partValue_17 : decode cX1_partValue 17 = .ok (.iadd, 1) := dc1_96 (by decide +kernel)
theorem dX1_partValue_18 : decode cX1_partValue 18 = .ok (.istore_n 3, 1) := dc1_62 (by decide +kernel)
theorem dX1_partValue_19 : decode cX1_partValue 19 = .ok (.aload_n 0, 1) := dc1_42 (by decide +kernel)
theorem dX1_partValue_20 : decode cX1_partValue 20 = .ok (.getfield 19, 3) := dcw_180 (by decide +kernel)
theorem dX1_partValue_23 : decode cX1_partValue 23 = .ok (.iload_n 3, 1) := dc1_29 (by decide +kernel)
theorem dX1_partValue_24 : decode cX1_partValue 24 = .ok (.iaload, 1) := dc1_46 (by decide +kernel)
theorem dX1_partValue_25 : decode cX1_partValue 25 = .ok (.istore 4, 2) := dcu_54 (by decide +kernel)
theorem dX1_partValue_27 : decode cX1_partValue 27 = .ok (.iconst 0, 1) := dc1_3 (by decide +kernel)
theorem dX1_partValue_28 : decode cX1_partValue 28 = .ok (.istore 5, 2) := dcu_54 (by decide +kernel)
theorem dX1_partValue_30 : decode cX1_partValue 30 = .ok (.iload_n 2, 1) := dc1_28 (by decide +kernel)
theorem dX1_partValue_31 : decode cX1_partValue 31 = .ok (.ifCond .ne 12, 3) := dcs_154 (n := 12) (by decide +kernel)
theorem dX1_partValue_34 : decode cX1_partValue 34 = .ok (.aload_n 0, 1) := dc1_42 (by decide +kernel)
theorem dX1_partValue_35 : decode cX1_partValue 35 = .ok (.getfield 22, 3) := dcw_180 (by decide +kernel)
theorem dX1_partValue_38 : decode cX1_partValue 38 = .ok (.iload_n 1, 1) := dc1_27 (by decide +kernel)
theorem dX1_partValue_39 : decode cX1_partValue 39 = .ok (.iaload, 1) := dc1_46 (by decide +kernel)
theorem dX1_partValue_40 : decode cX1_partValue 40 = .ok (.goto 11, 3) := dcs_167 (n := 11) (by decide +kernel)
theorem dX1_partValue_43 : decode cX1_partValue 43 = .ok (.aload_n 0, 1) := dc1_42 (by decide +kernel)
theorem dX1_partValue_44 : decode cX1_partValue 44 = .ok (.getfield 19, 3) := dcw_180 (by decide +kernel)
theorem dX1_partValue_47 : decode cX1_partValue 47 = .ok (.iload_n 3, 1) := dc1_29 (by decide +kernel)
theorem dX1_partValue_48 : decode cX1_partValue 48 = .ok (.iconst 1, 1) := dc1_4 (by decide +kernel)
theorem dX1_partValue_49 : decode cX1_partValue 49 = .ok (.isub, 1) := dc1_100 (by decide +kernel)
theorem dX1_partValue_50 : decode cX1_partValue 50 = .ok (.iaload, 1) := dc1_46 (by decide +kernel)
theorem dX1_partValue_51 : decode cX1_partValue 51 = .ok (.istore 6, 2) := dcu_54 (by decide +kernel)
theorem dX1_partValue_53 : decode cX1_partValue 53 = .ok (.iload 6, 2) := dcu_21 (by decide +kernel)
theorem dX1_partValue_55 : decode cX1_partValue 55 = .ok (.iload 4, 2) := dcu_21 (by decide +kernel)
theorem dX1_partValue_57 : decode cX1_partValue 57 = .ok (.if_icmp .ge 105, 3) := dcs_162 (n := 105) (by decide +kernel)
theorem dX1_partValue_60 : decode cX1_partValue 60 = .ok (.aload_n 0, 1) := dc1_42 (by decide +kernel)
theorem dX1_partValue_61 : decode cX1_partValue 61 = .ok (.getfield 15, 3) := dcw_180 (by decide +kernel)
theorem dX1_partValue_64 : decode cX1_partValue 64 = .ok (.iload 6, 2) := dcu_21 (by decide +kernel)
theorem dX1_partValue_66 : decode cX1_partValue 66 = .ok (.iaload, 1) := dc1_46 (by decide +kernel)
theorem dX1_partValue_67 : decode cX1_partValue 67 = .ok (.istore 7, 2) := dcu_54 (by decide +kernel)
theorem dX1_partValue_69 : decode cX1_partValue 69 = .ok (.iload 7, 2) := dcu_21 (by decide +kernel)
theorem dX1_partValue_71 : decode cX1_partValue 71 = .ok (.bipush (-9), 2) := dcb_16 (n := 247) (by decide +kernel)
theorem dX1_partValue_73 : decode cX1_partValue 73 = .ok (.if_icmp .lt 42, 3) := dcs_161 (n := 42) (by decide +kernel)
theorem dX1_partValue_76 : decode cX1_partValue 76 = .ok (.iload 5, 2) := dcu_21 (by decide +kernel)
theorem dX1_partValue_78 : decode cX1_partValue 78 = .ok (.bipush 16, 2) := dcb_16 (n := 16) (by decide +kernel)
theorem dX1_partValue_80 : decode cX1_partValue 80 = .ok (.if_icmp .ge 35, 3) := dcs_162 (n := 35) (by decide +kernel)
theorem dX1_partValue_83 : decode cX1_partValue 83 = .ok (.aload_n 0, 1) := dc1_42 (by decide +kernel)
theorem dX1_partValue_84 : decode cX1_partValue 84 = .ok (.getfield 31, 3) := dcw_180 (by decide +kernel)
theorem dX1_partValue_87 : decode cX1_partValue 87 = .ok (.iload 5, 2) := dcu_21 (by decide +kernel)
theorem dX1_partValue_89 : decode cX1_partValue 89 = .ok (.iload 7, 2) := dcu_21 (by decide +kernel)
theorem dX1_partValue_91 : decode cX1_partValue 91 = .ok (.ifCond .lt 8, 3) := dcs_155 (n := 8) (by decide +kernel)
theorem dX1_partValue_94 : decode cX1_partValue 94 = .ok (.iload 7, 2) := dcu_21 (by decide +kernel)
theorem dX1_partValue_96 : decode cX1_partValue 96 = .ok (.goto 12, 3) := dcs_167 (n := 12) (by decide +kernel)
theorem dX1_partValue_99 : decode cX1_partValue 99 = .ok (.aload_n 0, 1) := dc1_42 (by decide +kernel)
theorem dX1_partValue_100 : decode cX1_partValue 100 = .ok (.getfield 28, 3) := dcw_180 (by decide +kernel)
theorem dX1_partValue_103 : decode cX1_partValue 103 = .ok (.iconst (-1), 1) := dc1_2 (by decide +kernel)
theorem dX1_partValue_104 : decode cX1_partValue 104 = .ok (.iload 7, 2) := dcu_21 (by decide +kernel)
theorem dX1_partValue_106 : decode cX1_partValue 106 = .ok (.isub, 1) := dc1_100 (by decide +kernel)
theorem dX1_partValue_107 : decode cX1_partValue 107 = .ok (.iaload, 1) := dc1_46 (by decide +kernel)
theorem dX1_partValue_108 : decode cX1_partValue 108 = .ok (.iastore, 1) := dc1_79 (by decide +kernel)
theorem dX1_partValue_109 : decode cX1_partValue 109 = .ok (.iinc 5 1, 3) := dc_iinc (m := 1) (by decide +kernel)
theorem dX1_partValue_112 : decode cX1_partValue 112 = .ok (.goto 44, 3) := dcs_167 (n := 44) (by decide +kernel)
theorem dX1_partValue_115 : decode cX1_partValue 115 = .ok (.iload 5, 2) := dcu_21 (by decide +kernel)
theorem dX1_partValue_117 : decode cX1_partValue 117 = .ok (.iconst 2, 1) := dc1_5 (by decide +kernel)
theorem dX1_partValue_118 : decode cX1_partValue 118 = .ok (.if_icmp .lt 38, 3) := dcs_161 (n := 38) (by decide +kernel)
theorem dX1_partValue_121 : decode cX1_partValue 121 = .ok (.iinc 5 (-1), 3) := dc_iinc (m := 255) (by decide +kernel)
theorem dX1_partValue_124 : decode cX1_partValue 124 = .ok (.aload_n 0, 1) := dc1_42 (by decide +kernel)
theorem dX1_partValue_125 : decode cX1_partValue 125 = .ok (.getfield 31, 3) := dcw_180 (by decide +kernel)
theorem dX1_partValue_128 : decode cX1_partValue 128 = .ok (.iload 5, 2) := dcu_21 (by decide +kernel)
theorem dX1_partValue_130 : decode cX1_partValue 130 = .ok (.iconst 1, 1) := dc1_4 (by decide +kernel)
theorem dX1_partValue_131 : decode cX1_partValue 131 = .ok (.isub, 1) := dc1_100 (by decide +kernel)
theorem dX1_partValue_132 : decode cX1_partValue 132 = .ok (.aload_n 0, 1) := dc1_42 (by decide +kernel)
theorem dX1_partValue_133 : decode cX1_partValue 133 = .ok (.iload 7, 2) := dcu_21 (by decide +kernel)
theorem dX1_partValue_135 : decode cX1_partValue 135 = .ok (.ineg, 1) := dc1_116 (by decide +kernel)
theorem dX1_partValue_136 : decode cX1_partValue 136 = .ok (.aload_n 0, 1) := dc1_42 (by decide +kernel)
theorem dX1_partValue_137 : decode cX1_partValue 137 = .ok (.getfield 31, 3) := dcw_180 (by decide +kernel)
theorem dX1_partValue_140 : decode cX1_partValue 140 = .ok (.iload 5, 2) := dcu_21 (by decide +kernel)
theorem dX1_partValue_142 : decode cX1_partValue 142 = .ok (.iconst 1, 1) := dc1_4 (by decide +kernel)
theorem dX1_partValue_143 : decode cX1_partValue 143 = .ok (.isub, 1) := dc1_100 (by decide +kernel)
theorem dX1_partValue_144 : decode cX1_partValue 144 = .ok (.iaload, 1) := dc1_46 (by decide +kernel)
theorem dX1_partValue_145 : decode cX1_partValue 145 = .ok (.aload_n 0, 1) := dc1_42 (by decide +kernel)
theorem dX1_partValue_146 : decode cX1_partValue 146 = .ok (.getfield 31, 3) := dcw_180 (by decide +kernel)
theorem dX1_partValue_149 : decode cX1_partValue 149 = .ok (.iload 5, 2) := dcu_21 (by decide +kernel)
theorem dX1_partValue_151 : decode cX1_partValue 151 = .ok (.iaload, 1) := dc1_46 (by decide +kernel)
theorem dX1_partValue_152 : decode cX1_partValue 152 = .ok (.invokevirtual 71, 3) := dcw_182 (by decide +kernel)
theorem dX1_partValue_155 : decode cX1_partValue 155 = .ok (.iastore, 1) := dc1_79 (by decide +kernel)
theorem dX1_partValue_156 : decode cX1_partValue 156 = .ok (.iinc 6 1, 3) := dc_iinc (m := 1) (by decide +kernel)
theorem dX1_partValue_159 : decode cX1_partValue 159 = .ok (.goto (-106), 3) := dcs_167 (n := 65430) (by decide +kernel)
theorem dX1_partValue_162 : decode cX1_partValue 162 = .ok (.aload_n 0, 1) := dc1_42 (by decide +kernel)
theorem dX1_partValue_163 : decode cX1_partValue 163 = .ok (.getfield 31, 3) := dcw_180 (by decide +kernel)
theorem dX1_partValue_166 : decode cX1_partValue 166 = .ok (.iconst 0, 1) := dc1_3 (by decide +kernel)
theorem dX1_partValue_167 : decode cX1_partValue 167 = .ok (.iaload, 1) := dc1_46 (by decide +kernel)
theorem dX1_partValue_168 : decode cX1_partValue 168 = .ok (.ireturn, 1) := dc1_172 (by decide +kernel)
theorem ggX2_mayCount_X0_mayBe : GoodIn wsX2_mayCount wsX0_mayBe := gi_sub (fun w h => List.mem_cons_of_mem _ (List.mem_append_left _ (List.mem_append_left _ (List.mem_append_left _ (List.mem_append_left _ (List.mem_append_right _ (List.mem_append_left _ h))))))) gd_wsX0_mayBe
set_option maxRecDepth 20000 in
theorem gX2_mayCount_X0_mayBe_n32 : GoodIn wsX2_mayCount (wsX0_mayBe) := ggX2_mayCount_X0_mayBe
theorem ggX2_mayCount_J6_bitCount_0f7a4 : GoodIn wsX2_mayCount wsJ6_bitCount_0f7a4 := gi_sub (fun w h => List.mem_cons_of_mem _ (List.mem_append_left _ (List.mem_append_left _ (List.mem_append_left _ (List.mem_append_left _ (List.mem_append_right _ (List.mem_append_right _ h))))))) gd_wsJ6_bitCount_0f7a4
set_option maxRecDepth 20000 in
theorem gX2_mayCount_J6_bitCount_0f7a4 : GoodIn wsX2_mayCount (va_wsS RX2 38 yJ6_bitCount_0f7a4 wsJ6_bitCount_0f7a4) := goodIn_app (goodIn_of _ (by decide +kernel)) ggX2_mayCount_J6_bitCount_0f7a4
theorem dX2_mayCount_0 : decode cX2_mayCount 0 = .ok (.aload_n 0, 1) := dc1_42 (by decide +kernel)
theorem dX2_mayCount_1 : decode cX2_mayCount 1 = .ok (.getfield 28, 3) := dcw_180 (by decide +kernel)
theorem dX2_mayCount_4 : decode cX2_mayCount 4 = .ok (.aload_n 1, 1) := dc1_43 (by decide +kernel)
theorem dX2_mayCount_5 : decode cX2_mayCount 5 = .ok (.iload_n 2, 1) := dc1_28 (by decide +kernel)
theorem dX2_mayCount_6 : decode cX2_mayCount 6 = .ok (.invokevirtual 32, 3) := dcw_182 (by decide +kernel)
theorem dX2_mayCount_9 : decode cX2_mayCount 9 = .ok (.invokestatic 38, 3) := dcw_184 (by decide +kernel)
theorem dX2_mayCount_12 : decode cX2_mayCount 12 = .ok (.ireturn, 1) := dc1_172 (by decide +kernel)
theorem ggX2_caseCount_X2_mayCount : GoodIn wsX2_caseCount wsX2_mayCount := gi_sub (fun w h => List.mem_cons_of_mem _ (List.mem_append_left _ (List.mem_append_left _ (List.mem_append_left _ (List.mem_append_left _ (List.mem_append_right _ h)))))) gd_wsX2_mayCount
set_option maxRecDepth 20000 in
theorem gX2_caseCount_X2_mayCount : GoodIn wsX2_caseCount (wsV RX2 50 RX2 yX2_mayCount wsX2_mayCount) := goodIn_app (goodIn_r _ [2, 3, 4, 5] (by decide +kernel) (by decide +kernel)) ggX2_caseCount_X2_mayCount
theorem dX2_caseCount_0 : decode cX2_caseCount 0 = .ok (.iconst 1, 1) := dc1_4 (by decide +kernel)
theorem dX2_caseCount_1 : decode cX2_caseCount 1 = .ok (.istore_n 2, 1) := dc1_61 (by decide +kernel)
theorem dX2_caseCount_2 : decode cX2_caseCount 2 = .ok (.iconst 0, 1) := dc1_3 (by decide +kernel)
theorem dX2_caseCount_3 : decode cX2_caseCount 3 = .ok (.istore_n 3, 1) := dc1_62 (by decide +kernel)
theorem dX2_caseCount_4 : decode cX2_caseCount 4 = .ok (.iload_n 3, 1) := dc1_29 (by decide +kernel)
theorem dX2_caseCount_5 : decode cX2_caseCount 5 = .ok (.aload_n 0, 1) := dc1_42 (by decide +kernel)
theorem dX2_caseCount_6 : decode cX2_caseCount 6 = .ok (.getfield 24, 3) := dcw_180 (by decide +kernel)
theorem dX2_caseCount_9 : decode cX2_caseCount 9 = .ok (.getfield 44, 3) := dcw_180 (by decide +kernel)
theorem dX2_caseCount_12 : decode cX2_caseCount 12 = .ok (.if_icmp .ge 18, 3) := dcs_162 (n := 18) (by decide +kernel)
theorem dX2_caseCount_15 : decode cX2_caseCount 15 = .ok (.iload_n 2, 1) := dc1_28 (by decide +kernel)
theorem dX2_caseCount_16 : decode cX2_caseCount 16 = .ok (.aload_n 0, 1) := dc1_42 (by decide +kernel)
theorem dX2_caseCount_17 : decode cX2_caseCount 17 = .ok (.aload_n 1, 1) := dc1_43 (by decide +kernel)
theorem dX2_caseCount_18 : decode cX2_caseCount 18 = .ok (.iload_n 3, 1) := dc1_29 (by decide +kernel)
theorem dX2_caseCount_19 : decode cX2_caseCount 19 = .ok (.invokevirtual 50, 3) := dcw_182 (by decide +kernel)
theorem dX2_caseCount_22 : decode cX2_caseCount 22 = .ok (.imul, 1) := dc1_104 (by decide +kernel)
theorem dX2_caseCount_23 : decode cX2_caseCount 23 = .ok (.istore_n 2, 1) := dc1_61 (by decide +kernel)
theorem dX2_caseCount_24 : decode cX2_caseCount 24 = .ok (.iinc 3 1, 3) := dc_iinc (m := 1) (by decide +kernel)
theorem dX2_caseCount_27 : decode cX2_caseCount 27 = .ok (.goto (-23), 3) := dcs_167 (n := 65513) (by decide +kernel)
theorem dX2_caseCount_30 : decode cX2_caseCount 30 = .ok (.iload_n 2, 1) := dc1_28 (by decide +kernel)
theorem dX2_caseCount_31 : decode cX2_caseCount 31 = .ok (.ireturn, 1) := dc1_172 (by decide +kernel)
theorem ggX2_oddsIfMay_X0_mayBe : GoodIn wsX2_oddsIfMay wsX0_mayBe := gi_sub (fun w h => List.mem_cons_of_mem _ (List.mem_append_left _ (List.mem_append_left _ (List.mem_append_left _ (List.mem_append_left _ (List.mem_append_right _ (List.mem_append_left _ h))))))) gd_wsX0_mayBe
set_option maxRecDepth 20000 in
theorem gX2_oddsIfMay_X0_mayBe_n32 : GoodIn wsX2_oddsIfMay (wsX0_mayBe) := ggX2_oddsIfMay_X0_mayBe
theorem ggX2_oddsIfMay_X10_has : GoodIn wsX2_oddsIfMay wsX10_has := gi_sub (fun w h => List.mem_cons_of_mem _ (List.mem_append_left _ (List.mem_append_left _ (List.mem_append_left _ (List.mem_append_left _ (List.mem_append_right _ (List.mem_append_right _ (List.mem_append_left _ h)))))))) gd_wsX10_has
set_option maxRecDepth 20000 in
theorem gX2_oddsIfMay_X10_has_n57 : GoodIn wsX2_oddsIfMay (wsX10_has) := ggX2_oddsIfMay_X10_has
theorem ggX2_oddsIfMay_X5_oddsAt : GoodIn wsX2_oddsIfMay wsX5_oddsAt := gi_sub (fun w h => List.mem_cons_of_mem _ (List.mem_append_left _ (List.mem_append_left _ (List.mem_append_left _ (List.mem_append_left _ (List.mem_append_right _ (List.mem_append_right _ (List.mem_append_right _ h)))))))) gd_wsX5_oddsAt
set_option maxRecDepth 20000 in
theorem gX2_oddsIfMay_X5_oddsAt_n61 : GoodIn wsX2_oddsIfMay (wsX5_oddsAt) := ggX2_oddsIfMay_X5_oddsAt
theorem dX2_oddsIfMay_0 : decode cX2_oddsIfMay 0 = .ok (.aload_n 0, 1) := dc1_42 (by decide +kernel)
theorem dX2_oddsIfMay_1 : decode cX2_oddsIfMay 1 = .ok (.getfield 28, 3) := dcw_180 (by decide +kernel)
theorem dX2_oddsIfMay_4 : decode cX2_oddsIfMay 4 = .ok (.aload_n 1, 1) := dc1_43 (by decide +kernel)
theorem dX2_oddsIfMay_5 : decode cX2_oddsIfMay 5 = .ok (.iload_n 2, 1) := dc1_28 (by decide +kernel)
theorem dX2_oddsIfMay_6 : decode cX2_oddsIfMay 6 = .ok (.invokevirtual 32, 3) := dcw_182 (by decide +kernel)
theorem dX2_oddsIfMay_9 : decode cX2_oddsIfMay 9 = .ok (.iload_n 3, 1) := dc1_29 (by decide +kernel)
theorem dX2_oddsIfMay_10 : decode cX2_oddsIfMay 10 = .ok (.invokestatic 57, 3) := dcw_184 (by decide +kernel)
theorem dX2_oddsIfMay_13 : decode cX2_oddsIfMay 13 = .ok (.ifCond .eq 15, 3) := dcs_153 (n := 15) (by decide +kernel)
theorem dX2_oddsIfMay_16 : decode cX2_oddsIfMay 16 = .ok (.aload_n 0, 1) := dc1_42 (by decide +kernel)
theorem dX2_oddsIfMay_17 : decode cX2_oddsIfMay 17 = .ok (.getfield 24, 3) := dcw_180 (by decide +kernel)
theorem dX2_oddsIfMay_20 : decode cX2_oddsIfMay 20 = .ok (.iload_n 2, 1) := dc1_28 (by decide +kernel)
theorem dX2_oddsIfMay_21 : decode cX2_oddsIfMay 21 = .ok (.iload_n 3, 1) := dc1_29 (by decide +kernel)
theorem dX2_oddsIfMay_22 : decode cX2_oddsIfMay 22 = .ok (.invokevirtual 61, 3) := dcw_182 (by decide +kernel)
theorem dX2_oddsIfMay_25 : decode cX2_oddsIfMay 25 = .ok (.goto 4, 3) := dcs_167 (n := 4) (by decide +kernel)
theorem dX2_oddsIfMay_28 : decode cX2_oddsIfMay 28 = .ok (.iconst 0, 1) := dc1_3 (by decide +kernel)
theorem dX2_oddsIfMay_29 : decode cX2_oddsIfMay 29 = .ok (.ireturn, 1) := dc1_172 (by decide +kernel)
theorem ggX2_oddsOf_X10_thingIn : GoodIn wsX2_oddsOf wsX10_thingIn := gi_sub (fun w h => List.mem_cons_of_mem _ (List.mem_append_left _ (List.mem_append_left _ (List.mem_append_left _ (List.mem_append_left _ (List.mem_append_right _ (List.mem_append_left _ h))))))) gd_wsX10_thingIn
set_option maxRecDepth 20000 in
theorem gX2_oddsOf_X10_thingIn_n65 : GoodIn wsX2_oddsOf (wsX10_thingIn) := ggX2_oddsOf_X10_thingIn
theorem ggX2_oddsOf_X2_oddsIfMay : GoodIn wsX2_oddsOf wsX2_oddsIfMay := gi_sub (fun w h => List.mem_cons_of_mem _ (List.mem_append_left _ (List.mem_append_left _ (List.mem_append_left _ (List.mem_append_left _ (List.mem_append_right _ (List.mem_append_right _ h))))))) gd_wsX2_oddsIfMay
set_option maxRecDepth 20000 in
theorem gX2_oddsOf_X2_oddsIfMay : GoodIn wsX2_oddsOf (wsV RX2 53 RX2 yX2_oddsIfMay wsX2_oddsIfMay) := goodIn_app (goodIn_r _ [4, 5, 6, 7] (by decide +kernel) (by decide +kernel)) ggX2_oddsOf_X2_oddsIfMay
theorem dX2_oddsOf_0 : decode cX2_oddsOf 0 = .ok (.iconst 1, 1) := dc1_4 (by decide +kernel)
theorem dX2_oddsOf_1 : decode cX2_oddsOf 1 = .ok (.istore_n 3, 1) := dc1_62 (by decide +kernel)
theorem dX2_oddsOf_2 : decode cX2_oddsOf 2 = .ok (.iconst 0, 1) := dc1_3 (by decide +kernel)
theorem dX2_oddsOf_3 : decode cX2_oddsOf 3 = .ok (.istore 4, 2) := dcu_54 (by decide +kernel)
theorem dX2_oddsOf_5 : decode cX2_oddsOf 5 = .ok (.iload 4, 2) := dcu_21 (by decide +kernel)
theorem dX2_oddsOf_7 : decode cX2_oddsOf 7 = .ok (.aload_n 0, 1) := dc1_42 (by decide +kernel)
theorem dX2_oddsOf_8 : decode cX2_oddsOf 8 = .ok (.getfield 24, 3) := dcw_180 (by decide +kernel)
theorem dX2_oddsOf_11 : decode cX2_oddsOf 11 = .ok (.getfield 44, 3) := dcw_180 (by decide +kernel)
theorem dX2_oddsOf_14 : decode cX2_oddsOf 14 = .ok (.if_icmp .ge 25, 3) := dcs_162 (n := 25) (by decide +kernel)
theorem dX2_oddsOf_17 : decode cX2_oddsOf 17 = .ok (.iload_n 3, 1) := dc1_29 (by decide +kernel)
theorem dX2_oddsOf_18 : decode cX2_oddsOf 18 = .ok (.aload_n 0, 1) := dc1_42 (by decide +kernel)
theorem dX2_oddsOf_19 : decode cX2_oddsOf 19 = .ok (.aload_n 1, 1) := dc1_43 (by decide +kernel)
theorem dX2_oddsOf_20 : decode cX2_oddsOf 20 = .ok (.iload 4, 2) := dcu_21 (by decide +kernel)
theorem dX2_oddsOf_22 : decode cX2_oddsOf 22 = .ok (.iload_n 2, 1) := dc1_28 (by decide +kernel)
theorem dX2_oddsOf_23 : decode cX2_oddsOf 23 = .ok (.iload 4, 2) := dcu_21 (by decide +kernel)
theorem dX2_oddsOf_25 : decode cX2_oddsOf 25 = .ok (.invokestatic 65, 3) := dcw_184 (by decide +kernel)
theorem dX2_oddsOf_28 : decode cX2_oddsOf 28 = .ok (.invokevirtual 53, 3) := dcw_182 (by decide +kernel)
theorem dX2_oddsOf_31 : decode cX2_oddsOf 31 = .ok (.imul, 1) := dc1_104 (by decide +kernel)
theorem dX2_oddsOf_32 : decode cX2_oddsOf 32 = .ok (.istore_n 3, 1) := dc1_62 (by decide +kernel)
theorem dX2_oddsOf_33 : decode cX2_oddsOf 33 = .ok (.iinc 4 1, 3) := dc_iinc (m := 1) (by decide +kernel)
theorem dX2_oddsOf_36 : decode cX2_oddsOf 36 = .ok (.goto (-31), 3) := dcs_167 (n := 65505) (by decide +kernel)
theorem dX2_oddsOf_39 : decode cX2_oddsOf 39 = .ok (.iload_n 3, 1) := dc1_29 (by decide +kernel)
theorem dX2_oddsOf_40 : decode cX2_oddsOf 40 = .ok (.ireturn, 1) := dc1_172 (by decide +kernel)
theorem ggX2_goesAtMost_X2_mayCount : GoodIn wsX2_goesAtMost wsX2_mayCount := gi_sub (fun w h => List.mem_cons_of_mem _ (List.mem_append_left _ (List.mem_append_left _ (List.mem_append_left _ (List.mem_append_left _ (List.mem_append_right _ h)))))) gd_wsX2_mayCount
set_option maxRecDepth 20000 in
theorem gX2_goesAtMost_X2_mayCount : GoodIn wsX2_goesAtMost (wsV RX2 50 RX2 yX2_mayCount wsX2_mayCount) := goodIn_app (goodIn_r _ [2, 3, 4, 5] (by decide +kernel) (by decide +kernel)) ggX2_goesAtMost_X2_mayCount
theorem dX2_goesAtMost_0 : decode cX2_goesAtMost 0 = .ok (.iconst 1, 1) := dc1_4 (by decide +kernel)
theorem dX2_goesAtMost_1 : decode cX2_goesAtMost 1 = .ok (.istore_n 2, 1) := dc1_61 (by decide +kernel)
theorem dX2_goesAtMost_2 : decode cX2_goesAtMost 2 = .ok (.iconst 0, 1) := dc1_3 (by decide +kernel)
theorem dX2_goesAtMost_3 : decode cX2_goesAtMost 3 = .ok (.istore_n 3, 1) := dc1_62 (by decide +kernel)
theorem dX2_goesAtMost_4 : decode cX2_goesAtMost 4 = .ok (.iload_n 3, 1) := dc1_29 (by decide +kernel)
theorem dX2_goesAtMost_5 : decode cX2_goesAtMost 5 = .ok (.aload_n 0, 1) := dc1_42 (by decide +kernel)
theorem dX2_goesAtMost_6 : decode cX2_goesAtMost 6 = .ok (.getfield 24, 3) := dcw_180 (by decide +kernel)
theorem dX2_goesAtMost_9 : decode cX2_goesAtMost 9 = .ok (.getfield 44, 3) := dcw_180 (by decide +kernel)
theorem dX2_goesAtMost_12 : decode cX2_goesAtMost 12 = .ok (.if_icmp .ge 20, 3) := dcs_162 (n := 20) (by decide +kernel)
theorem dX2_goesAtMost_15 : decode cX2_goesAtMost 15 = .ok (.iload_n 2, 1) := dc1_28 (by decide +kernel)
theorem dX2_goesAtMost_16 : decode cX2_goesAtMost 16 = .ok (.aload_n 0, 1) := dc1_42 (by decide +kernel)
theorem dX2_goesAtMost_17 : decode cX2_goesAtMost 17 = .ok (.aload_n 1, 1) := dc1_43 (by decide +kernel)
theorem dX2_goesAtMost_18 : decode cX2_goesAtMost 18 = .ok (.iload_n 3, 1) := dc1_29 (by decide +kernel)
theorem dX2_goesAtMost_19 : decode cX2_goesAtMost 19 = .ok (.invokevirtual 50, 3) := dcw_182 (by decide +kernel)
theorem dX2_goesAtMost_22 : decode cX2_goesAtMost 22 = .ok (.iconst 1, 1) := dc1_4 (by decide +kernel)
theorem dX2_goesAtMost_23 : decode cX2_goesAtMost 23 = .ok (.isub, 1) := dc1_100 (by decide +kernel)
theorem dX2_goesAtMost_24 : decode cX2_goesAtMost 24 = .ok (.iadd, 1) := dc1_96 (by decide +kernel)
theorem dX2_goesAtMost_25 : decode cX2_goesAtMost 25 = .ok (.istore_n 2, 1) := dc1_61 (by decide +kernel)
theorem dX2_goesAtMost_26 : decode cX2_goesAtMost 26 = .ok (.iinc 3 1, 3) := dc_iinc (m := 1) (by decide +kernel)
theorem dX2_goesAtMost_29 : decode cX2_goesAtMost 29 = .ok (.goto (-25), 3) := dcs_167 (n := 65511) (by decide +kernel)
theorem dX2_goesAtMost_32 : decode cX2_goesAtMost 32 = .ok (.iload_n 2, 1) := dc1_28 (by decide +kernel)
theorem dX2_goesAtMost_33 : decode cX2_goesAtMost 33 = .ok (.ireturn, 1) := dc1_172 (by decide +kernel)
theorem LX0_setWave_27 : Cond.fieldLink RX0 27 "GuessFerry$Crossing" "vars" "[I" ∈ wsX0_setWave := by decide +kernel
theorem inX0_setWave_X0 : ∀ w ∈ u_ws RX0 TX0 2, w ∈ wsX0_setWave := by decide +kernel
theorem inX0_setWave_X6 : ∀ w ∈ u_ws RX6 TX6 7, w ∈ wsX0_setWave := by decide +kernel
set_option maxHeartbeats 4000000 in
set_option maxRecDepth 100000 in
theorem bkX0_setWave {l : Launch} {dC : Nat → ClassId} {dI : Nat → Nat → Nat} {cB cI cJ cZ cS : ClassId} {a b : Nat → Nat} {as : List Value} {s' : JS} (s : JS) (x2 : Int32) (hB : kX0_setWave s x2 = some s') : BlkV l yX0_setWave wsX0_setWave ({ frames := 1, cells := 0, slots := 0, locals := 22 }) cX0_setWave 3 none (dC, dI) (tysA cB cI cJ cZ cS) as 0 (wJ cB cI cJ cZ cS a b s) [(0, .ref (a 35)), (1, .ref (b 0)), (2, .int x2)] [] (fun u => u = (wJ cB cI cJ cZ cS a b s')) := by
  intro p e s0 m below meth c A E H locs ls hP hD hS hl
  obtain ⟨C, hr, hlocks, hA, hK, hN⟩ := id E
  obtain ⟨hx, hb, hml, hown, hts⟩ := id C
  unfold kX0_setWave at hB
  refine lv_aload_n hx hb dX0_setWave_0 rfl (lv_at hl 0 rfl) ?_
  refine q_get (v := .ref (a 13)) C inX0_setWave_X0 hK hP 41 rfl rfl 1 (by decide) rfl LX0_setWave_27 rfl dX0_setWave_1 ?_
  refine lv_iconst (v := 0) hx hb dX0_setWave_4 (by decide) ?_
  refine lv_iload_n hx hb dX0_setWave_5 rfl (lv_at hl 2 rfl) ?_
  obtain ⟨s1, hs2, hB⟩ := letS_inv hB
  refine q_iast (f2 := (upd (s.k.f 13) 0 x2)) (w2 := (wJ cB cI cJ cZ cS a b s1)) C hK hP hD hS 19 1 rfl rfl (vp_lit (by decide +kernel)) dX0_setWave_6 rfl (by subst hs2; rfl) (fun H locs hP hD hS => ?_)
  refine lv_aload_n hx hb dX0_setWave_7 rfl (lv_at hl 0 rfl) ?_
  refine q_get (v := .ref (a 13)) C inX0_setWave_X0 hK hP 41 rfl rfl 1 (by decide) rfl LX0_setWave_27 rfl dX0_setWave_8 ?_
  refine lv_iconst (v := 4) hx hb dX0_setWave_11 (by decide) ?_
  refine lv_aload_n hx hb dX0_setWave_12 rfl (lv_at hl 0 rfl) ?_
  refine lv_aload_n hx hb dX0_setWave_13 rfl (lv_at hl 1 rfl) ?_
  refine lv_iload_n hx hb dX0_setWave_14 rfl (lv_at hl 2 rfl) ?_
  obtain ⟨q_, s3, hc, hB⟩ := bindI_inv hB
  refine q_goiF (va_runV (As := [.ref (b 0), .int x2]) (rest := [.int 4, .ref (a 13)]) C (ckX0_mayBe hc _) (cwV 2 hts gX0_setWave_X0_mayBe rfl rfl rfl (by decide +kernel) ⟨Nat.le_of_ble_eq_true rfl, Nat.le_of_ble_eq_true rfl⟩) (q_preV hK hP (ci := 0) (q0 := 41) rfl rfl rfl (q_preF hN hK hP hD)) rfl rfl hl.1 rfl (lv_room (Nat.le_of_ble_eq_true rfl)) dX0_setWave_15 ⟨Nat.le_of_ble_eq_true rfl, Nat.le_of_ble_eq_true rfl⟩) hD hS hA (fun r4 w1 H locs hw hP hD hS => ?_)
  obtain ⟨hq_, hw⟩ := hw; subst hw; subst hq_
  obtain ⟨q_, hc, hB⟩ := bindP_inv hB
  refine q_goi0 (va_runS (As := [.int r4]) (rest := [.int 4, .ref (a 13)]) C (ckJ6_bitCount_0f7a4 hc _) (va_cwS 1 hts gX0_setWave_J6_bitCount_0f7a4 rfl rfl rfl (by decide +kernel) ⟨Nat.le_of_ble_eq_true rfl, Nat.le_of_ble_eq_true rfl⟩) (q_pre0 hN hK) rfl rfl hl.1 rfl (lv_room (Nat.le_of_ble_eq_true rfl)) dX0_setWave_18 ⟨Nat.le_of_ble_eq_true rfl, Nat.le_of_ble_eq_true rfl⟩) hP hD hS hA (fun r5 w1 H locs hw hP hS => ?_)
  subst hw
  obtain ⟨s6, hs7, hB⟩ := letS_inv hB
  refine q_iast (f2 := (upd (s3.k.f 13) 4 r5)) (w2 := (wJ cB cI cJ cZ cS a b s6)) C hK hP hD hS 19 1 rfl rfl (vp_lit (by decide +kernel)) dX0_setWave_21 rfl (by subst hs7; rfl) (fun H locs hP hD hS => ?_)
  refine lv_aload_n hx hb dX0_setWave_22 rfl (lv_at hl 0 rfl) ?_
  refine q_get (v := .ref (a 13)) C inX0_setWave_X0 hK hP 41 rfl rfl 1 (by decide) rfl LX0_setWave_27 rfl dX0_setWave_23 ?_
  refine lv_bipush (v := 7) hx hb dX0_setWave_26 (by decide) ?_
  refine lv_aload_n hx hb dX0_setWave_28 rfl (lv_at hl 1 rfl) ?_
  refine q_getN (v := .ref (b 2)) C hN inX0_setWave_X6 hK hP 0 rfl rfl 1 (by decide) rfl nwF_X0_36 rfl dX0_setWave_29 ?_
  refine lv_iload_n hx hb dX0_setWave_32 rfl (lv_at hl 2 rfl) ?_
  obtain ⟨g8, hB⟩ := guard_inv hB
  refine q_iald (x := ((s6.d.f 1) (Int32.toNatClampNeg x2))) C hK hP 2 1 rfl rfl (vpb_in g8) dX0_setWave_33 rfl ?_
  obtain ⟨q_, hc, hB⟩ := bindP_inv hB
  refine q_goi0 (va_runS (As := [.int ((s6.d.f 1) (Int32.toNatClampNeg x2))]) (rest := [.int 7, .ref (a 13)]) C (ckJ6_bitCount_0f7a4 hc _) (va_cwS 1 hts gX0_setWave_J6_bitCount_0f7a4 rfl rfl rfl (by decide +kernel) ⟨Nat.le_of_ble_eq_true rfl, Nat.le_of_ble_eq_true rfl⟩) (q_pre0 hN hK) rfl rfl hl.1 rfl (lv_room (Nat.le_of_ble_eq_true rfl)) dX0_setWave_34 ⟨Nat.le_of_ble_eq_true rfl, Nat.le_of_ble_eq_true rfl⟩) hP hD hS hA (fun r9 w1 H locs hw hP hS => ?_)
  subst hw
  obtain ⟨s10, hs11, hB⟩ := letS_inv hB
  refine q_iast (f2 := (upd (s6.k.f 13) 7 r9)) (w2 := (wJ cB cI cJ cZ cS a b s10)) C hK hP hD hS 19 1 rfl rfl (vp_lit (by decide +kernel)) dX0_setWave_37 rfl (by subst hs11; rfl) (fun H locs hP hD hS => ?_)
  exact q_vret C hr hlocks hK hP hD hS (Nat.le_of_ble_eq_true rfl) (Nat.le_of_ble_eq_true rfl) dX0_setWave_38 (by cases hB; rfl)
theorem ckX0_setWave {l : Launch} {dC : Nat → ClassId} {dI : Nat → Nat → Nat} {cB cI cJ cZ cS : ClassId} {a b : Nat → Nat} {s' : JS} {s : JS} {x2 : Int32} (hB : kX0_setWave s x2 = some s') : CV l yX0_setWave wsX0_setWave ({ frames := 1, cells := 0, slots := 0, locals := 22 }) (dC, dI) (tysA cB cI cJ cZ cS) (wJ cB cI cJ cZ cS a b s) [.ref (a 35), .ref (b 0), .int x2] (fun u => u = (wJ cB cI cJ cZ cS a b s')) :=
  CV_of (cc := cX0_setWave) (maxL := 3) (ret := none) (by decide) rfl (Nat.le_of_ble_eq_true rfl) (bkX0_setWave _ _ hB)
set_option maxHeartbeats 4000000 in
set_option maxRecDepth 100000 in
theorem bkX1_putNumber {l : Launch} {dC : Nat → ClassId} {dI : Nat → Nat → Nat} {cB cI cJ cZ cS : ClassId} {a : Nat → Nat} {as : List Value} {s' : KS} (s : KS) (x1 : Int32) (hB : kX1_putNumber s x1 = some s') : BlkV l yX1_putNumber wsX1_putNumber ({ frames := 1, cells := 0, slots := 0, locals := 21 }) cX1_putNumber 2 none (dC, dI) (tysA cB cI cJ cZ cS) as 0 (wK cB cI cJ cZ cS a s) [(0, .ref (a 21)), (1, .int x1)] [] (fun u => u = (wK cB cI cJ cZ cS a s')) := by
  intro p e s0 m below meth c A E H locs ls hP hD hS hl
  obtain ⟨C, hr, hlocks, hA, hK, hN⟩ := id E
  obtain ⟨hx, hb, hml, hown, hts⟩ := id C
  unfold kX1_putNumber at hB
  refine lv_aload_n hx hb dX1_putNumber_0 rfl (lv_at hl 0 rfl) ?_
  refine lv_iload_n hx hb dX1_putNumber_1 rfl (lv_at hl 1 rfl) ?_
  obtain ⟨s1, hc, hB⟩ := bindP_inv hB
  refine q_govF (va_runV (As := [.int x1]) (rest := []) C (ckX1_put hc _) (cwV 1 hts gX1_putNumber_X1_put rfl rfl rfl (by decide +kernel) ⟨Nat.le_of_ble_eq_true rfl, Nat.le_of_ble_eq_true rfl⟩) (q_preV hK hP (ci := 1) (q0 := 21) rfl rfl rfl (q_preF hN hK hP hD)) rfl rfl hl.1 rfl (lv_room (Nat.le_of_ble_eq_true rfl)) dX1_putNumber_2 ⟨Nat.le_of_ble_eq_true rfl, Nat.le_of_ble_eq_true rfl⟩) hD hS hA (fun w1 H locs hw hP hD hS => ?_)
  subst hw
  exact q_vret C hr hlocks hK hP hD hS (Nat.le_of_ble_eq_true rfl) (Nat.le_of_ble_eq_true rfl) dX1_putNumber_5 (by cases hB; rfl)
theorem ckX1_putNumber {l : Launch} {dC : Nat → ClassId} {dI : Nat → Nat → Nat} {cB cI cJ cZ cS : ClassId} {a : Nat → Nat} {s' : KS} {s : KS} {x1 : Int32} (hB : kX1_putNumber s x1 = some s') : CV l yX1_putNumber wsX1_putNumber ({ frames := 1, cells := 0, slots := 0, locals := 21 }) (dC, dI) (tysA cB cI cJ cZ cS) (wK cB cI cJ cZ cS a s) [.ref (a 21), .int x1] (fun u => u = (wK cB cI cJ cZ cS a s')) :=
  CV_of (cc := cX1_putNumber) (maxL := 2) (ret := none) (by decide) rfl (Nat.le_of_ble_eq_true rfl) (bkX1_putNumber _ _ hB)
set_option maxHeartbeats 4000000 in
set_option maxRecDepth 100000 in
theorem bkX1_putVar {l : Launch} {dC : Nat → ClassId} {dI : Nat → Nat → Nat} {cB cI cJ cZ cS : ClassId} {a : Nat → Nat} {as : List Value} {s' : KS} (s : KS) (x1 : Int32) (hB : kX1_putVar s x1 = some s') : BlkV l yX1_putVar wsX1_putVar ({ frames := 1, cells := 0, slots := 0, locals := 21 }) cX1_putVar 2 none (dC, dI) (tysA cB cI cJ cZ cS) as 0 (wK cB cI cJ cZ cS a s) [(0, .ref (a 21)), (1, .int x1)] [] (fun u => u = (wK cB cI cJ cZ cS a s')) := by
  intro p e s0 m below meth c A E H locs ls hP hD hS hl
  obtain ⟨C, hr, hlocks, hA, hK, hN⟩ := id E
  obtain ⟨hx, hb, hml, hown, hts⟩ := id C
  unfold kX1_putVar at hB
  refine lv_aload_n hx hb dX1_putVar_0 rfl (lv_at hl 0 rfl) ?_
  refine lv_iconst (v := (-1)) hx hb dX1_putVar_1 (by decide) ?_
  refine lv_iload_n hx hb dX1_putVar_2 rfl (lv_at hl 1 rfl) ?_
  refine lv_isub hx hb dX1_putVar_3 ?_
  obtain ⟨s1, hc, hB⟩ := bindP_inv hB
  refine q_govF (va_runV (As := [.int ((-1) - x1)]) (rest := []) C (ckX1_put hc _) (cwV 1 hts gX1_putVar_X1_put rfl rfl rfl (by decide +kernel) ⟨Nat.le_of_ble_eq_true rfl, Nat.le_of_ble_eq_true rfl⟩) (q_preV hK hP (ci := 1) (q0 := 21) rfl rfl rfl (q_preF hN hK hP hD)) rfl rfl hl.1 rfl (lv_room (Nat.le_of_ble_eq_true rfl)) dX1_putVar_4 ⟨Nat.le_of_ble_eq_true rfl, Nat.le_of_ble_eq_true rfl⟩) hD hS hA (fun w1 H locs hw hP hD hS => ?_)
  subst hw
  exact q_vret C hr hlocks hK hP hD hS (Nat.le_of_ble_eq_true rfl) (Nat.le_of_ble_eq_true rfl) dX1_putVar_7 (by cases hB; rfl)
theorem ckX1_putVar {l : Launch} {dC : Nat → ClassId} {dI : Nat → Nat → Nat} {cB cI cJ cZ cS : ClassId} {a : Nat → Nat} {s' : KS} {s : KS} {x1 : Int32} (hB : kX1_putVar s x1 = some s') : CV l yX1_putVar wsX1_putVar ({ frames := 1, cells := 0, slots := 0, locals := 21 }) (dC, dI) (tysA cB cI cJ cZ cS) (wK cB cI cJ cZ cS a s) [.ref (a 21), .int x1] (fun u => u = (wK cB cI cJ cZ cS a s')) :=
  CV_of (cc := cX1_putVar) (maxL := 2) (ret := none) (by decide) rfl (Nat.le_of_ble_eq_true rfl) (bkX1_putVar _ _ hB)
set_option maxHeartbeats 4000000 in
set_option maxRecDepth 100000 in
theorem bkX1_putSign {l : Launch} {dC : Nat → ClassId} {dI : Nat → Nat → Nat} {cB cI cJ cZ cS : ClassId} {a : Nat → Nat} {as : List Value} {s' : KS} (s : KS) (x1 : Int32) (hB : kX1_putSign s x1 = some s') : BlkV l yX1_putSign wsX1_putSign ({ frames := 1, cells := 0, slots := 0, locals := 21 }) cX1_putSign 2 none (dC, dI) (tysA cB cI cJ cZ cS) as 0 (wK cB cI cJ cZ cS a s) [(0, .ref (a 21)), (1, .int x1)] [] (fun u => u = (wK cB cI cJ cZ cS a s')) := by
  intro p e s0 m below meth c A E H locs ls hP hD hS hl
  obtain ⟨C, hr, hlocks, hA, hK, hN⟩ := id E
  obtain ⟨hx, hb, hml, hown, hts⟩ := id C
  unfold kX1_putSign at hB
  refine lv_aload_n hx hb dX1_putSign_0 rfl (lv_at hl 0 rfl) ?_
  refine lv_iload_n hx hb dX1_putSign_1 rfl (lv_at hl 1 rfl) ?_
  refine lv_ineg hx hb dX1_putSign_2 ?_
  obtain ⟨s1, hc, hB⟩ := bindP_inv hB
  refine q_govF (va_runV (As := [.int (-x1)]) (rest := []) C (ckX1_put hc _) (cwV 1 hts gX1_putSign_X1_put rfl rfl rfl (by decide +kernel) ⟨Nat.le_of_ble_eq_true rfl, Nat.le_of_ble_eq_true rfl⟩) (q_preV hK hP (ci := 1) (q0 := 21) rfl rfl rfl (q_preF hN hK hP hD)) rfl rfl hl.1 rfl (lv_room (Nat.le_of_ble_eq_true rfl)) dX1_putSign_3 ⟨Nat.le_of_ble_eq_true rfl, Nat.le_of_ble_eq_true rfl⟩) hD hS hA (fun w1 H locs hw hP hD hS => ?_)
  subst hw
  exact q_vret C hr hlocks hK hP hD hS (Nat.le_of_ble_eq_true rfl) (Nat.le_of_ble_eq_true rfl) dX1_putSign_6 (by cases hB; rfl)
theorem ckX1_putSign {l : Launch} {dC : Nat → ClassId} {dI : Nat → Nat → Nat} {cB cI cJ cZ cS : ClassId} {a : Nat → Nat} {s' : KS} {s : KS} {x1 : Int32} (hB : kX1_putSign s x1 = some s') : CV l yX1_putSign wsX1_putSign ({ frames := 1, cells := 0, slots := 0, locals := 21 }) (dC, dI) (tysA cB cI cJ cZ cS) (wK cB cI cJ cZ cS a s) [.ref (a 21), .int x1] (fun u => u = (wK cB cI cJ cZ cS a s')) :=
  CV_of (cc := cX1_putSign) (maxL := 2) (ret := none) (by decide) rfl (Nat.le_of_ble_eq_true rfl) (bkX1_putSign _ _ hB)
theorem LX1_partValue_15 : Cond.fieldLink RX1 15 "GuessFerry$Laws" "steps" "[I" ∈ wsX1_partValue := by decide +kernel
theorem LX1_partValue_19 : Cond.fieldLink RX1 19 "GuessFerry$Laws" "partEnds" "[I" ∈ wsX1_partValue := by decide +kernel
theorem LX1_partValue_22 : Cond.fieldLink RX1 22 "GuessFerry$Laws" "lawStarts" "[I" ∈ wsX1_partValue := by decide +kernel
theorem LX1_partValue_28 : Cond.fieldLink RX1 28 "GuessFerry$Laws" "vars" "[I" ∈ wsX1_partValue := by decide +kernel
theorem LX1_partValue_31 : Cond.fieldLink RX1 31 "GuessFerry$Laws" "stack" "[I" ∈ wsX1_partValue := by decide +kernel
theorem inX1_partValue_X1 : ∀ w ∈ u_ws RX1 TX1 9, w ∈ wsX1_partValue := by decide +kernel
set_option maxHeartbeats 4000000 in
set_option maxRecDepth 100000 in
theorem bkX1_partValue_156 {l : Launch} {dC : Nat → ClassId} {dI : Nat → Nat → Nat} {cB cI cJ cZ cS : ClassId} {a : Nat → Nat} {as : List Value} {r : Int32} {s' : KS} {k53 : KS → Int32 → Int32 → Int32 → Option (Int32 × KS)} (hk53 : ∀ (s : KS) (x4 : Int32) (x5 : Int32) (x6 : Int32), k53 s x4 x5 x6 = some (r, s') → BlkI l yX1_partValue wsX1_partValue ({ frames := 1, cells := 0, slots := 0, locals := 23 }) cX1_partValue 8 (some .int) (dC, dI) (tysA cB cI cJ cZ cS) as 53 (wK cB cI cJ cZ cS a s) [(0, .ref (a 8)), (4, .int x4), (5, .int x5), (6, .int x6)] [] (fun x u => x = r ∧ u = (wK cB cI cJ cZ cS a s'))) (s : KS) (x4 : Int32) (x5 : Int32) (x6 : Int32) (hB : kX1_partValue_156 k53 s x4 x5 x6 = some (r, s')) : BlkI l yX1_partValue wsX1_partValue ({ frames := 1, cells := 0, slots := 0, locals := 23 }) cX1_partValue 8 (some .int) (dC, dI) (tysA cB cI cJ cZ cS) as 156 (wK cB cI cJ cZ cS a s) [(0, .ref (a 8)), (4, .int x4), (5, .int x5), (6, .int x6)] [] (fun x u => x = r ∧ u = (wK cB cI cJ cZ cS a s')) := by
  intro p e s0 m below meth c A E H locs ls hP hD hS hl
  obtain ⟨C, hr, hlocks, hA, hK, hN⟩ := id E
  obtain ⟨hx, hb, hml, hown, hts⟩ := id C
  unfold kX1_partValue_156 at hB
  refine lv_iinc (v := (x6 + 1)) (lv' := [(6, .int (x6 + 1)), (0, .ref (a 8)), (4, .int x4), (5, .int x5)]) hx hb dX1_partValue_156 hl (k := 3) rfl (rfl) (by decide) rfl (fun ls hl => ?_)
  refine lv_goto (tgt := 53) hx hb dX1_partValue_159 (by decide) ?_
  exact hk53 _ _ _ _ hB p e s0 m below meth c A E H locs ls hP hD hS (lv_sub hl [1, 2, 3, 0] rfl)
set_option maxHeartbeats 4000000 in
set_option maxRecDepth 100000 in
theorem bkX1_partValue_115 {l : Launch} {dC : Nat → ClassId} {dI : Nat → Nat → Nat} {cB cI cJ cZ cS : ClassId} {a : Nat → Nat} {as : List Value} {r : Int32} {s' : KS} {k53 : KS → Int32 → Int32 → Int32 → Option (Int32 × KS)} (hk53 : ∀ (s : KS) (x4 : Int32) (x5 : Int32) (x6 : Int32), k53 s x4 x5 x6 = some (r, s') → BlkI l yX1_partValue wsX1_partValue ({ frames := 1, cells := 0, slots := 0, locals := 23 }) cX1_partValue 8 (some .int) (dC, dI) (tysA cB cI cJ cZ cS) as 53 (wK cB cI cJ cZ cS a s) [(0, .ref (a 8)), (4, .int x4), (5, .int x5), (6, .int x6)] [] (fun x u => x = r ∧ u = (wK cB cI cJ cZ cS a s'))) (s : KS) (x4 : Int32) (x5 : Int32) (x6 : Int32) (x7 : Int32) (hB : kX1_partValue_115 k53 s x4 x5 x6 x7 = some (r, s')) : BlkI l yX1_partValue wsX1_partValue ({ frames := 1, cells := 0, slots := 0, locals := 23 }) cX1_partValue 8 (some .int) (dC, dI) (tysA cB cI cJ cZ cS) as 115 (wK cB cI cJ cZ cS a s) [(0, .ref (a 8)), (4, .int x4), (5, .int x5), (6, .int x6), (7, .int x7)] [] (fun x u => x = r ∧ u = (wK cB cI cJ cZ cS a s')) := by
  intro p e s0 m below meth c A E H locs ls hP hD hS hl
  obtain ⟨C, hr, hlocks, hA, hK, hN⟩ := id E
  obtain ⟨hx, hb, hml, hown, hts⟩ := id C
  unfold kX1_partValue_115 at hB
  refine lv_iload hx hb dX1_partValue_115 (lv_at hl 2 rfl) ?_
  refine lv_iconst (v := 2) hx hb dX1_partValue_117 (by decide) ?_
  refine lv_icmp_lt (tgt := 156) hx hb dX1_partValue_118 (by decide) (fun c1 => ?_) (fun c1 => ?_)
  · have hB := if_p hB c1
    exact bkX1_partValue_156 (hk53) _ _ _ _ hB p e s0 m below meth c A E H locs ls hP hD hS (lv_sub hl [0, 1, 2, 3] rfl)
  · have hB := if_n hB c1
    refine lv_iinc (v := (x5 + (-1))) (lv' := [(5, .int (x5 + (-1))), (0, .ref (a 8)), (4, .int x4), (6, .int x6), (7, .int x7)]) hx hb dX1_partValue_121 hl (k := 2) rfl (rfl) (by decide) rfl (fun ls hl => ?_)
    refine lv_aload_n hx hb dX1_partValue_124 rfl (lv_at hl 1 rfl) ?_
    refine q_get (v := .ref (a 14)) C inX1_partValue_X1 hK hP 8 rfl rfl 5 (by decide) rfl LX1_partValue_31 rfl dX1_partValue_125 ?_
    refine lv_iload hx hb dX1_partValue_128 (lv_at hl 0 rfl) ?_
    refine lv_iconst (v := 1) hx hb dX1_partValue_130 (by decide) ?_
    refine lv_isub hx hb dX1_partValue_131 ?_
    refine lv_aload_n hx hb dX1_partValue_132 rfl (lv_at hl 1 rfl) ?_
    refine lv_iload hx hb dX1_partValue_133 (lv_at hl 4 rfl) ?_
    refine lv_ineg hx hb dX1_partValue_135 ?_
    refine lv_aload_n hx hb dX1_partValue_136 rfl (lv_at hl 1 rfl) ?_
    refine q_get (v := .ref (a 14)) C inX1_partValue_X1 hK hP 8 rfl rfl 5 (by decide) rfl LX1_partValue_31 rfl dX1_partValue_137 ?_
    refine lv_iload hx hb dX1_partValue_140 (lv_at hl 0 rfl) ?_
    refine lv_iconst (v := 1) hx hb dX1_partValue_142 (by decide) ?_
    refine lv_isub hx hb dX1_partValue_143 ?_
    obtain ⟨g2, hB⟩ := guard_inv hB
    refine q_iald (x := ((s.f 14) (Int32.toNatClampNeg ((x5 + (-1)) - 1)))) C hK hP 14 1 rfl rfl (vpb_in g2) dX1_partValue_144 rfl ?_
    refine lv_aload_n hx hb dX1_partValue_145 rfl (lv_at hl 1 rfl) ?_
    refine q_get (v := .ref (a 14)) C inX1_partValue_X1 hK hP 8 rfl rfl 5 (by decide) rfl LX1_partValue_31 rfl dX1_partValue_146 ?_
    refine lv_iload hx hb dX1_partValue_149 (lv_at hl 0 rfl) ?_
    obtain ⟨g3, hB⟩ := guard_inv hB
    refine q_iald (x := ((s.f 14) (Int32.toNatClampNeg (x5 + (-1))))) C hK hP 14 1 rfl rfl (vpb_in g3) dX1_partValue_151 rfl ?_
    obtain ⟨q_, s4, hc, hB⟩ := bindI_inv hB
    refine q_goiF (va_runV (As := [.int (-x7), .int ((s.f 14) (Int32.toNatClampNeg ((x5 + (-1)) - 1))), .int ((s.f 14) (Int32.toNatClampNeg (x5 + (-1))))]) (rest := [.int ((x5 + (-1)) - 1), .ref (a 14)]) C (ckX1_joined hc _) (cwV 3 hts gX1_partValue_X1_joined rfl rfl rfl (by decide +kernel) ⟨Nat.le_of_ble_eq_true rfl, Nat.le_of_ble_eq_true rfl⟩) (q_preV hK hP (ci := 1) (q0 := 8) rfl rfl rfl (q_preF hN hK hP hD)) rfl rfl hl.1 rfl (lv_room (Nat.le_of_ble_eq_true rfl)) dX1_partValue_152 ⟨Nat.le_of_ble_eq_true rfl, Nat.le_of_ble_eq_true rfl⟩) hD hS hA (fun r5 w1 H locs hw hP hD hS => ?_)
    obtain ⟨hq_, hw⟩ := hw; subst hw; subst hq_
    obtain ⟨g6, hB⟩ := guard_inv hB
    obtain ⟨s7, hs8, hB⟩ := letS_inv hB
    refine q_iast (f2 := (upd (s4.f 14) (Int32.toNatClampNeg ((x5 + (-1)) - 1)) r5)) (w2 := (wK cB cI cJ cZ cS a s7)) C hK hP hD hS 14 1 rfl rfl (vpb_in g6) dX1_partValue_155 rfl (by subst hs8; rfl) (fun H locs hP hD hS => ?_)
    exact bkX1_partValue_156 (hk53) _ _ _ _ hB p e s0 m below meth c A E H locs ls hP hD hS (lv_sub hl [1, 2, 0, 3] rfl)
set_option maxHeartbeats 4000000 in
set_option maxRecDepth 100000 in
theorem bkX1_partValue_108 {l : Launch} {dC : Nat → ClassId} {dI : Nat → Nat → Nat} {cB cI cJ cZ cS : ClassId} {a : Nat → Nat} {as : List Value} {r : Int32} {s' : KS} {k53 : KS → Int32 → Int32 → Int32 → Option (Int32 × KS)} (hk53 : ∀ (s : KS) (x4 : Int32) (x5 : Int32) (x6 : Int32), k53 s x4 x5 x6 = some (r, s') → BlkI l yX1_partValue wsX1_partValue ({ frames := 1, cells := 0, slots := 0, locals := 23 }) cX1_partValue 8 (some .int) (dC, dI) (tysA cB cI cJ cZ cS) as 53 (wK cB cI cJ cZ cS a s) [(0, .ref (a 8)), (4, .int x4), (5, .int x5), (6, .int x6)] [] (fun x u => x = r ∧ u = (wK cB cI cJ cZ cS a s'))) (s : KS) (x4 : Int32) (x5 : Int32) (x6 : Int32) (t0 : Int32) (t1 : Int32) (hB : kX1_partValue_108 k53 s x4 x5 x6 t0 t1 = some (r, s')) : BlkI l yX1_partValue wsX1_partValue ({ frames := 1, cells := 0, slots := 0, locals := 23 }) cX1_partValue 8 (some .int) (dC, dI) (tysA cB cI cJ cZ cS) as 108 (wK cB cI cJ cZ cS a s) [(0, .ref (a 8)), (4, .int x4), (5, .int x5), (6, .int x6)] [.int t0, .int t1, .ref (a 14)] (fun x u => x = r ∧ u = (wK cB cI cJ cZ cS a s')) := by
  intro p e s0 m below meth c A E H locs ls hP hD hS hl
  obtain ⟨C, hr, hlocks, hA, hK, hN⟩ := id E
  obtain ⟨hx, hb, hml, hown, hts⟩ := id C
  unfold kX1_partValue_108 at hB
  obtain ⟨g1, hB⟩ := guard_inv hB
  obtain ⟨s2, hs3, hB⟩ := letS_inv hB
  refine q_iast (f2 := (upd (s.f 14) (Int32.toNatClampNeg t1) t0)) (w2 := (wK cB cI cJ cZ cS a s2)) C hK hP hD hS 14 1 rfl rfl (vpb_in g1) dX1_partValue_108 rfl (by subst hs3; rfl) (fun H locs hP hD hS => ?_)
  refine lv_iinc (v := (x5 + 1)) (lv' := [(5, .int (x5 + 1)), (0, .ref (a 8)), (4, .int x4), (6, .int x6)]) hx hb dX1_partValue_109 hl (k := 2) rfl (rfl) (by decide) rfl (fun ls hl => ?_)
  refine lv_goto (tgt := 156) hx hb dX1_partValue_112 (by decide) ?_
  exact bkX1_partValue_156 (hk53) _ _ _ _ hB p e s0 m below meth c A E H locs ls hP hD hS (lv_sub hl [1, 2, 0, 3] rfl)
set_option maxHeartbeats 4000000 in
set_option maxRecDepth 100000 in
theorem bkX1_partValue_53 {l : Launch} {dC : Nat → ClassId} {dI : Nat → Nat → Nat} {cB cI cJ cZ cS : ClassId} {a : Nat → Nat} {as : List Value} {r : Int32} {s' : KS} {k53 : KS → Int32 → Int32 → Int32 → Option (Int32 × KS)} (hk53 : ∀ (s : KS) (x4 : Int32) (x5 : Int32) (x6 : Int32), k53 s x4 x5 x6 = some (r, s') → BlkI l yX1_partValue wsX1_partValue ({ frames := 1, cells := 0, slots := 0, locals := 23 }) cX1_partValue 8 (some .int) (dC, dI) (tysA cB cI cJ cZ cS) as 53 (wK cB cI cJ cZ cS a s) [(0, .ref (a 8)), (4, .int x4), (5, .int x5), (6, .int x6)] [] (fun x u => x = r ∧ u = (wK cB cI cJ cZ cS a s'))) (s : KS) (x4 : Int32) (x5 : Int32) (x6 : Int32) (hB : kX1_partValue_53 k53 s x4 x5 x6 = some (r, s')) : BlkI l yX1_partValue wsX1_partValue ({ frames := 1, cells := 0, slots := 0, locals := 23 }) cX1_partValue 8 (some .int) (dC, dI) (tysA cB cI cJ cZ cS) as 53 (wK cB cI cJ cZ cS a s) [(0, .ref (a 8)), (4, .int x4), (5, .int x5), (6, .int x6)] [] (fun x u => x = r ∧ u = (wK cB cI cJ cZ cS a s')) := by
  intro p e s0 m below meth c A E H locs ls hP hD hS hl
  obtain ⟨C, hr, hlocks, hA, hK, hN⟩ := id E
  obtain ⟨hx, hb, hml, hown, hts⟩ := id C
  unfold kX1_partValue_53 at hB
  refine lv_iload hx hb dX1_partValue_53 (lv_at hl 3 rfl) ?_
  refine lv_iload hx hb dX1_partValue_55 (lv_at hl 1 rfl) ?_
  refine lv_icmp_ge (tgt := 162) hx hb dX1_partValue_57 (by decide) (fun c1 => ?_) (fun c1 => ?_)
  · have hB := if_p hB c1
    refine lv_aload_n hx hb dX1_partValue_162 rfl (lv_at hl 0 rfl) ?_
    refine q_get (v := .ref (a 14)) C inX1_partValue_X1 hK hP 8 rfl rfl 5 (by decide) rfl LX1_partValue_31 rfl dX1_partValue_163 ?_
    refine lv_iconst (v := 0) hx hb dX1_partValue_166 (by decide) ?_
    refine q_iald (x := ((s.f 14) 0)) C hK hP 14 1 rfl rfl (vp_lit (by decide +kernel)) dX1_partValue_167 rfl ?_
    exact q_iret C hr hlocks hK hP hD hS (Nat.le_of_ble_eq_true rfl) (Nat.le_of_ble_eq_true rfl) dX1_partValue_168 (by cases hB; exact ⟨rfl, rfl⟩)
  · have hB := if_n hB c1
    refine lv_aload_n hx hb dX1_partValue_60 rfl (lv_at hl 0 rfl) ?_
    refine q_get (v := .ref (a 9)) C inX1_partValue_X1 hK hP 8 rfl rfl 0 (by decide) rfl LX1_partValue_15 rfl dX1_partValue_61 ?_
    refine lv_iload hx hb dX1_partValue_64 (lv_at hl 3 rfl) ?_
    obtain ⟨g2, hB⟩ := guard_inv hB
    refine q_iald (x := ((s.f 9) (Int32.toNatClampNeg x6))) C hK hP 9 1 rfl rfl (vpb_in g2) dX1_partValue_66 rfl ?_
    refine lv_istore (lv' := [(7, .int ((s.f 9) (Int32.toNatClampNeg x6))), (0, .ref (a 8)), (4, .int x4), (5, .int x5), (6, .int x6)]) hx hb dX1_partValue_67 hl (by decide) rfl (fun ls hl => ?_)
    refine lv_iload hx hb dX1_partValue_69 (lv_at hl 0 rfl) ?_
    refine lv_bipush (v := (-9)) hx hb dX1_partValue_71 (by decide) ?_
    refine lv_icmp_lt (tgt := 115) hx hb dX1_partValue_73 (by decide) (fun c3 => ?_) (fun c3 => ?_)
    · have hB := if_p hB c3
      exact bkX1_partValue_115 (hk53) _ _ _ _ _ hB p e s0 m below meth c A E H locs ls hP hD hS (lv_sub hl [1, 2, 3, 4, 0] rfl)
    · have hB := if_n hB c3
      refine lv_iload hx hb dX1_partValue_76 (lv_at hl 3 rfl) ?_
      refine lv_bipush (v := 16) hx hb dX1_partValue_78 (by decide) ?_
      refine lv_icmp_ge (tgt := 115) hx hb dX1_partValue_80 (by decide) (fun c4 => ?_) (fun c4 => ?_)
      · have hB := if_p hB c4
        exact bkX1_partValue_115 (hk53) _ _ _ _ _ hB p e s0 m below meth c A E H locs ls hP hD hS (lv_sub hl [1, 2, 3, 4, 0] rfl)
      · have hB := if_n hB c4
        refine lv_aload_n hx hb dX1_partValue_83 rfl (lv_at hl 1 rfl) ?_
        refine q_get (v := .ref (a 14)) C inX1_partValue_X1 hK hP 8 rfl rfl 5 (by decide) rfl LX1_partValue_31 rfl dX1_partValue_84 ?_
        refine lv_iload hx hb dX1_partValue_87 (lv_at hl 3 rfl) ?_
        refine lv_iload hx hb dX1_partValue_89 (lv_at hl 0 rfl) ?_
        refine lv_if_lt (tgt := 99) hx hb dX1_partValue_91 (by decide) (fun c5 => ?_) (fun c5 => ?_)
        · have hB := if_p hB c5
          refine lv_aload_n hx hb dX1_partValue_99 rfl (lv_at hl 1 rfl) ?_
          refine q_get (v := .ref (a 13)) C inX1_partValue_X1 hK hP 8 rfl rfl 4 (by decide) rfl LX1_partValue_28 rfl dX1_partValue_100 ?_
          refine lv_iconst (v := (-1)) hx hb dX1_partValue_103 (by decide) ?_
          refine lv_iload hx hb dX1_partValue_104 (lv_at hl 0 rfl) ?_
          refine lv_isub hx hb dX1_partValue_106 ?_
          obtain ⟨g6, hB⟩ := guard_inv hB
          refine q_iald (x := ((s.f 13) (Int32.toNatClampNeg ((-1) - ((s.f 9) (Int32.toNatClampNeg x6)))))) C hK hP 13 1 rfl rfl (vpb_in g6) dX1_partValue_107 rfl ?_
          exact bkX1_partValue_108 (hk53) _ _ _ _ _ _ hB p e s0 m below meth c A E H locs ls hP hD hS (lv_sub hl [1, 2, 3, 4] rfl)
        · have hB := if_n hB c5
          refine lv_iload hx hb dX1_partValue_94 (lv_at hl 0 rfl) ?_
          refine lv_goto (tgt := 108) hx hb dX1_partValue_96 (by decide) ?_
          exact bkX1_partValue_108 (hk53) _ _ _ _ _ _ hB p e s0 m below meth c A E H locs ls hP hD hS (lv_sub hl [1, 2, 3, 4] rfl)
theorem bkX1_partValue_53L {l : Launch} {dC : Nat → ClassId} {dI : Nat → Nat → Nat} {cB cI cJ cZ cS : ClassId} {a : Nat → Nat} {as : List Value} {r : Int32} {s' : KS} : ∀ (n : Nat) (s : KS) (x4 : Int32) (x5 : Int32) (x6 : Int32), kX1_partValue_53L n s x4 x5 x6 = some (r, s') → BlkI l yX1_partValue wsX1_partValue ({ frames := 1, cells := 0, slots := 0, locals := 23 }) cX1_partValue 8 (some .int) (dC, dI) (tysA cB cI cJ cZ cS) as 53 (wK cB cI cJ cZ cS a s) [(0, .ref (a 8)), (4, .int x4), (5, .int x5), (6, .int x6)] [] (fun x u => x = r ∧ u = (wK cB cI cJ cZ cS a s')) := by
  intro n
  induction n with
  | zero => intro s x4 x5 x6 hB; exact none_ne hB
  | succ n ih => intro s x4 x5 x6 hB; exact bkX1_partValue_53 ih _ _ _ _ hB
set_option maxHeartbeats 4000000 in
set_option maxRecDepth 100000 in
theorem bkX1_partValue_51 {l : Launch} {dC : Nat → ClassId} {dI : Nat → Nat → Nat} {cB cI cJ cZ cS : ClassId} {a : Nat → Nat} {as : List Value} {r : Int32} {s' : KS} (s : KS) (x4 : Int32) (x5 : Int32) (t0 : Int32) (hB : kX1_partValue_51 s x4 x5 t0 = some (r, s')) : BlkI l yX1_partValue wsX1_partValue ({ frames := 1, cells := 0, slots := 0, locals := 23 }) cX1_partValue 8 (some .int) (dC, dI) (tysA cB cI cJ cZ cS) as 51 (wK cB cI cJ cZ cS a s) [(0, .ref (a 8)), (4, .int x4), (5, .int x5)] [.int t0] (fun x u => x = r ∧ u = (wK cB cI cJ cZ cS a s')) := by
  intro p e s0 m below meth c A E H locs ls hP hD hS hl
  obtain ⟨C, hr, hlocks, hA, hK, hN⟩ := id E
  obtain ⟨hx, hb, hml, hown, hts⟩ := id C
  unfold kX1_partValue_51 at hB
  refine lv_istore (lv' := [(6, .int t0), (0, .ref (a 8)), (4, .int x4), (5, .int x5)]) hx hb dX1_partValue_51 hl (by decide) rfl (fun ls hl => ?_)
  exact bkX1_partValue_53L fu _ _ _ _ hB p e s0 m below meth c A E H locs ls hP hD hS (lv_sub hl [1, 2, 3, 0] rfl)
set_option maxHeartbeats 4000000 in
set_option maxRecDepth 100000 in
theorem bkX1_partValue {l : Launch} {dC : Nat → ClassId} {dI : Nat → Nat → Nat} {cB cI cJ cZ cS : ClassId} {a : Nat → Nat} {as : List Value} {r : Int32} {s' : KS} (s : KS) (x1 : Int32) (x2 : Int32) (hB : kX1_partValue s x1 x2 = some (r, s')) : BlkI l yX1_partValue wsX1_partValue ({ frames := 1, cells := 0, slots := 0, locals := 23 }) cX1_partValue 8 (some .int) (dC, dI) (tysA cB cI cJ cZ cS) as 0 (wK cB cI cJ cZ cS a s) [(0, .ref (a 8)), (1, .int x1), (2, .int x2)] [] (fun x u => x = r ∧ u = (wK cB cI cJ cZ cS a s')) := by
  intro p e s0 m below meth c A E H locs ls hP hD hS hl
  obtain ⟨C, hr, hlocks, hA, hK, hN⟩ := id E
  obtain ⟨hx, hb, hml, hown, hts⟩ := id C
  unfold kX1_partValue at hB
  refine lv_iload_n hx hb dX1_partValue_0 rfl (lv_at hl 2 rfl) ?_
  refine lv_if_lt (tgt := 10) hx hb dX1_partValue_1 (by decide) (fun c1 => ?_) (fun c1 => ?_)
  · have hB := if_p hB c1
    refine lv_iconst (v := 0) hx hb dX1_partValue_10 (by decide) ?_
    exact q_iret C hr hlocks hK hP hD hS (Nat.le_of_ble_eq_true rfl) (Nat.le_of_ble_eq_true rfl) dX1_partValue_11 (by cases hB; exact ⟨rfl, rfl⟩)
  · have hB := if_n hB c1
    refine lv_iload_n hx hb dX1_partValue_4 rfl (lv_at hl 2 rfl) ?_
    refine lv_bipush (v := 13) hx hb dX1_partValue_5 (by decide) ?_
    refine lv_icmp_lt (tgt := 12) hx hb dX1_partValue_7 (by decide) (fun c2 => ?_) (fun c2 => ?_)
    · have hB := if_p hB c2
      refine lv_iload_n hx hb dX1_partValue_12 rfl (lv_at hl 1 rfl) ?_
      refine lv_bipush (v := 13) hx hb dX1_partValue_13 (by decide) ?_
      refine lv_imul hx hb dX1_partValue_15 ?_
      refine lv_iload_n hx hb dX1_partValue_16 rfl (lv_at hl 2 rfl) ?_
      refine lv_iadd hx hb dX1_partValue_17 ?_
      refine lv_istore_n (lv' := [(3, .int ((x1 * 13) + x2)), (0, .ref (a 8)), (1, .int x1), (2, .int x2)]) hx hb dX1_partValue_18 rfl hl (by decide) rfl (fun ls hl => ?_)
      refine lv_aload_n hx hb dX1_partValue_19 rfl (lv_at hl 1 rfl) ?_
      refine q_get (v := .ref (a 10)) C inX1_partValue_X1 hK hP 8 rfl rfl 1 (by decide) rfl LX1_partValue_19 rfl dX1_partValue_20 ?_
      refine lv_iload_n hx hb dX1_partValue_23 rfl (lv_at hl 0 rfl) ?_
      obtain ⟨g3, hB⟩ := guard_inv hB
      refine q_iald (x := ((s.f 10) (Int32.toNatClampNeg ((x1 * 13) + x2)))) C hK hP 10 1 rfl rfl (vpb_in g3) dX1_partValue_24 rfl ?_
      refine lv_istore (lv' := [(4, .int ((s.f 10) (Int32.toNatClampNeg ((x1 * 13) + x2)))), (3, .int ((x1 * 13) + x2)), (0, .ref (a 8)), (1, .int x1), (2, .int x2)]) hx hb dX1_partValue_25 hl (by decide) rfl (fun ls hl => ?_)
      refine lv_iconst (v := 0) hx hb dX1_partValue_27 (by decide) ?_
      refine lv_istore (lv' := [(5, .int 0), (4, .int ((s.f 10) (Int32.toNatClampNeg ((x1 * 13) + x2)))), (3, .int ((x1 * 13) + x2)), (0, .ref (a 8)), (1, .int x1), (2, .int x2)]) hx hb dX1_partValue_28 hl (by decide) rfl (fun ls hl => ?_)
      refine lv_iload_n hx hb dX1_partValue_30 rfl (lv_at hl 5 rfl) ?_
      refine lv_if_ne (tgt := 43) hx hb dX1_partValue_31 (by decide) (fun c4 => ?_) (fun c4 => ?_)
      · have hB := if_n hB c4
        refine lv_aload_n hx hb dX1_partValue_43 rfl (lv_at hl 3 rfl) ?_
        refine q_get (v := .ref (a 10)) C inX1_partValue_X1 hK hP 8 rfl rfl 1 (by decide) rfl LX1_partValue_19 rfl dX1_partValue_44 ?_
        refine lv_iload_n hx hb dX1_partValue_47 rfl (lv_at hl 2 rfl) ?_
        refine lv_iconst (v := 1) hx hb dX1_partValue_48 (by decide) ?_
        refine lv_isub hx hb dX1_partValue_49 ?_
        obtain ⟨g5, hB⟩ := guard_inv hB
        refine q_iald (x := ((s.f 10) (Int32.toNatClampNeg (((x1 * 13) + x2) - 1)))) C hK hP 10 1 rfl rfl (vpb_in g5) dX1_partValue_50 rfl ?_
        exact bkX1_partValue_51 _ _ _ _ hB p e s0 m below meth c A E H locs ls hP hD hS (lv_sub hl [3, 1, 0] rfl)
      · have hB := if_p hB c4
        refine lv_aload_n hx hb dX1_partValue_34 rfl (lv_at hl 3 rfl) ?_
        refine q_get (v := .ref (a 11)) C inX1_partValue_X1 hK hP 8 rfl rfl 2 (by decide) rfl LX1_partValue_22 rfl dX1_partValue_35 ?_
        refine lv_iload_n hx hb dX1_partValue_38 rfl (lv_at hl 4 rfl) ?_
        obtain ⟨g6, hB⟩ := guard_inv hB
        refine q_iald (x := ((s.f 11) (Int32.toNatClampNeg x1))) C hK hP 11 1 rfl rfl (vpb_in g6) dX1_partValue_39 rfl ?_
        refine lv_goto (tgt := 51) hx hb dX1_partValue_40 (by decide) ?_
        exact bkX1_partValue_51 _ _ _ _ hB p e s0 m below meth c A E H locs ls hP hD hS (lv_sub hl [3, 1, 0] rfl)
    · have hB := if_n hB c2
      refine lv_iconst (v := 0) hx hb dX1_partValue_10 (by decide) ?_
      exact q_iret C hr hlocks hK hP hD hS (Nat.le_of_ble_eq_true rfl) (Nat.le_of_ble_eq_true rfl) dX1_partValue_11 (by cases hB; exact ⟨rfl, rfl⟩)
theorem ckX1_partValue {l : Launch} {dC : Nat → ClassId} {dI : Nat → Nat → Nat} {cB cI cJ cZ cS : ClassId} {a : Nat → Nat} {r : Int32} {s' : KS} {s : KS} {x1 : Int32} {x2 : Int32} (hB : kX1_partValue s x1 x2 = some (r, s')) : CI l yX1_partValue wsX1_partValue ({ frames := 1, cells := 0, slots := 0, locals := 23 }) (dC, dI) (tysA cB cI cJ cZ cS) (wK cB cI cJ cZ cS a s) [.ref (a 8), .int x1, .int x2] (fun x u => x = r ∧ u = (wK cB cI cJ cZ cS a s')) :=
  CI_of (cc := cX1_partValue) (maxL := 8) (ret := (some .int)) (by decide) rfl (Nat.le_of_ble_eq_true rfl) (bkX1_partValue _ _ _ hB)
theorem LX2_mayCount_28 : Cond.fieldLink RX2 28 "GuessFerry$Outlook" "crossing" "LGuessFerry$Crossing;" ∈ wsX2_mayCount := by decide +kernel
theorem LX2_mayCount_E_X0_mayBe : Cond.selects RX0 yX0_mayBe yX0_mayBe ∈ wsX2_mayCount := by decide +kernel
theorem LX2_mayCount_I_X0 : Cond.initialized RX0 ∈ wsX2_mayCount := by decide +kernel
theorem LX2_mayCount_N_X0_mayBe : Cond.instanceMethod yX0_mayBe ∈ wsX2_mayCount := by decide +kernel
theorem inX2_mayCount_X2 : ∀ w ∈ u_ws RX2 TX2 6, w ∈ wsX2_mayCount := by decide +kernel
set_option maxHeartbeats 4000000 in
set_option maxRecDepth 100000 in
theorem bkX2_mayCount {l : Launch} {dC : Nat → ClassId} {dI : Nat → Nat → Nat} {cB cI cJ cZ cS : ClassId} {a b : Nat → Nat} {as : List Value} {r : Int32} {s' : JS} (s : JS) (x2 : Int32) (hB : kX2_mayCount s x2 = some (r, s')) : BlkI l yX2_mayCount wsX2_mayCount ({ frames := 1, cells := 0, slots := 0, locals := 22 }) cX2_mayCount 3 (some .int) (dC, dI) (tysA cB cI cJ cZ cS) as 0 (wJ cB cI cJ cZ cS a b s) [(0, .ref (a 36)), (1, .ref (b 0)), (2, .int x2)] [] (fun x u => x = r ∧ u = (wJ cB cI cJ cZ cS a b s')) := by
  intro p e s0 m below meth c A E H locs ls hP hD hS hl
  obtain ⟨C, hr, hlocks, hA, hK, hN⟩ := id E
  obtain ⟨hx, hb, hml, hown, hts⟩ := id C
  unfold kX2_mayCount at hB
  refine lv_aload_n hx hb dX2_mayCount_0 rfl (lv_at hl 0 rfl) ?_
  refine q_get (v := .ref (a 35)) C inX2_mayCount_X2 hK hP 42 rfl rfl 1 (by decide) rfl LX2_mayCount_28 rfl dX2_mayCount_1 ?_
  refine lv_aload_n hx hb dX2_mayCount_4 rfl (lv_at hl 1 rfl) ?_
  refine lv_iload_n hx hb dX2_mayCount_5 rfl (lv_at hl 2 rfl) ?_
  obtain ⟨q_, s1, hc, hB⟩ := bindI_inv hB
  refine q_goiF (va_runVN (As := [.ref (b 0), .int x2]) (rest := []) C (ckX0_mayBe hc _) ⟨va_cnB 2 hts gX2_mayCount_X0_mayBe_n32 rfl rfl rfl (hN _ nwM_X2_32 rfl) (hts _ LX2_mayCount_I_X0) (by decide +kernel) ⟨Nat.le_of_ble_eq_true rfl, Nat.le_of_ble_eq_true rfl⟩, hts _ LX2_mayCount_N_X0_mayBe, hts _ LX2_mayCount_E_X0_mayBe⟩ (q_preV hK hP (ci := 0) (q0 := 41) rfl rfl rfl (q_preF hN hK hP hD)) rfl rfl hl.1 rfl (lv_room (Nat.le_of_ble_eq_true rfl)) dX2_mayCount_6 ⟨Nat.le_of_ble_eq_true rfl, Nat.le_of_ble_eq_true rfl⟩) hD hS hA (fun r2 w1 H locs hw hP hD hS => ?_)
  obtain ⟨hq_, hw⟩ := hw; subst hw; subst hq_
  obtain ⟨q_, hc, hB⟩ := bindP_inv hB
  refine q_goi0 (va_runS (As := [.int r2]) (rest := []) C (ckJ6_bitCount_0f7a4 hc _) (va_cwS 1 hts gX2_mayCount_J6_bitCount_0f7a4 rfl rfl rfl (by decide +kernel) ⟨Nat.le_of_ble_eq_true rfl, Nat.le_of_ble_eq_true rfl⟩) (q_pre0 hN hK) rfl rfl hl.1 rfl (lv_room (Nat.le_of_ble_eq_true rfl)) dX2_mayCount_9 ⟨Nat.le_of_ble_eq_true rfl, Nat.le_of_ble_eq_true rfl⟩) hP hD hS hA (fun r3 w1 H locs hw hP hS => ?_)
  subst hw
  exact q_iret C hr hlocks hK hP hD hS (Nat.le_of_ble_eq_true rfl) (Nat.le_of_ble_eq_true rfl) dX2_mayCount_12 (by cases hB; exact ⟨rfl, rfl⟩)
theorem ckX2_mayCount {l : Launch} {dC : Nat → ClassId} {dI : Nat → Nat → Nat} {cB cI cJ cZ cS : ClassId} {a b : Nat → Nat} {r : Int32} {s' : JS} {s : JS} {x2 : Int32} (hB : kX2_mayCount s x2 = some (r, s')) : CI l yX2_mayCount wsX2_mayCount ({ frames := 1, cells := 0, slots := 0, locals := 22 }) (dC, dI) (tysA cB cI cJ cZ cS) (wJ cB cI cJ cZ cS a b s) [.ref (a 36), .ref (b 0), .int x2] (fun x u => x = r ∧ u = (wJ cB cI cJ cZ cS a b s')) :=
  CI_of (cc := cX2_mayCount) (maxL := 3) (ret := (some .int)) (by decide) rfl (Nat.le_of_ble_eq_true rfl) (bkX2_mayCount _ _ hB)
theorem LX2_caseCount_24 : Cond.fieldLink RX2 24 "GuessFerry$Outlook" "sound" "LGuessFerry$Sound;" ∈ wsX2_caseCount := by decide +kernel
theorem inX2_caseCount_X2 : ∀ w ∈ u_ws RX2 TX2 6, w ∈ wsX2_caseCount := by decide +kernel
theorem inX2_caseCount_X5 : ∀ w ∈ u_ws RX5 TX5 10, w ∈ wsX2_caseCount := by decide +kernel
set_option maxHeartbeats 4000000 in
set_option maxRecDepth 100000 in
theorem bkX2_caseCount_4 {l : Launch} {dC : Nat → ClassId} {dI : Nat → Nat → Nat} {cB cI cJ cZ cS : ClassId} {a b : Nat → Nat} {as : List Value} {r : Int32} {s' : JS} {k4 : JS → Int32 → Int32 → Option (Int32 × JS)} (hk4 : ∀ (s : JS) (x2 : Int32) (x3 : Int32), k4 s x2 x3 = some (r, s') → BlkI l yX2_caseCount wsX2_caseCount ({ frames := 2, cells := 0, slots := 0, locals := 44 }) cX2_caseCount 4 (some .int) (dC, dI) (tysA cB cI cJ cZ cS) as 4 (wJ cB cI cJ cZ cS a b s) [(0, .ref (a 36)), (1, .ref (b 0)), (2, .int x2), (3, .int x3)] [] (fun x u => x = r ∧ u = (wJ cB cI cJ cZ cS a b s'))) (s : JS) (x2 : Int32) (x3 : Int32) (hB : kX2_caseCount_4 k4 s x2 x3 = some (r, s')) : BlkI l yX2_caseCount wsX2_caseCount ({ frames := 2, cells := 0, slots := 0, locals := 44 }) cX2_caseCount 4 (some .int) (dC, dI) (tysA cB cI cJ cZ cS) as 4 (wJ cB cI cJ cZ cS a b s) [(0, .ref (a 36)), (1, .ref (b 0)), (2, .int x2), (3, .int x3)] [] (fun x u => x = r ∧ u = (wJ cB cI cJ cZ cS a b s')) := by
  intro p e s0 m below meth c A E H locs ls hP hD hS hl
  obtain ⟨C, hr, hlocks, hA, hK, hN⟩ := id E
  obtain ⟨hx, hb, hml, hown, hts⟩ := id C
  unfold kX2_caseCount_4 at hB
  refine lv_iload_n hx hb dX2_caseCount_4 rfl (lv_at hl 3 rfl) ?_
  refine lv_aload_n hx hb dX2_caseCount_5 rfl (lv_at hl 0 rfl) ?_
  refine q_get (v := .ref (a 2)) C inX2_caseCount_X2 hK hP 42 rfl rfl 0 (by decide) rfl LX2_caseCount_24 rfl dX2_caseCount_6 ?_
  refine q_getN (v := .int (s.k.v 1)) C hN inX2_caseCount_X5 hK hP 8 rfl rfl 6 (by decide) rfl nwF_X2_44 rfl dX2_caseCount_9 ?_
  refine lv_icmp_ge (tgt := 30) hx hb dX2_caseCount_12 (by decide) (fun c1 => ?_) (fun c1 => ?_)
  · have hB := if_p hB c1
    refine lv_iload_n hx hb dX2_caseCount_30 rfl (lv_at hl 2 rfl) ?_
    exact q_iret C hr hlocks hK hP hD hS (Nat.le_of_ble_eq_true rfl) (Nat.le_of_ble_eq_true rfl) dX2_caseCount_31 (by cases hB; exact ⟨rfl, rfl⟩)
  · have hB := if_n hB c1
    refine lv_iload_n hx hb dX2_caseCount_15 rfl (lv_at hl 2 rfl) ?_
    refine lv_aload_n hx hb dX2_caseCount_16 rfl (lv_at hl 0 rfl) ?_
    refine lv_aload_n hx hb dX2_caseCount_17 rfl (lv_at hl 1 rfl) ?_
    refine lv_iload_n hx hb dX2_caseCount_18 rfl (lv_at hl 3 rfl) ?_
    obtain ⟨q_, s2, hc, hB⟩ := bindI_inv hB
    refine q_goiF (va_runV (As := [.ref (b 0), .int x3]) (rest := [.int x2]) C (ckX2_mayCount hc _) (cwV 2 hts gX2_caseCount_X2_mayCount rfl rfl rfl (by decide +kernel) ⟨Nat.le_of_ble_eq_true rfl, Nat.le_of_ble_eq_true rfl⟩) (q_preV hK hP (ci := 2) (q0 := 42) rfl rfl rfl (q_preF hN hK hP hD)) rfl rfl hl.1 rfl (lv_room (Nat.le_of_ble_eq_true rfl)) dX2_caseCount_19 ⟨Nat.le_of_ble_eq_true rfl, Nat.le_of_ble_eq_true rfl⟩) hD hS hA (fun r3 w1 H locs hw hP hD hS => ?_)
    obtain ⟨hq_, hw⟩ := hw; subst hw; subst hq_
    refine lv_imul hx hb dX2_caseCount_22 ?_
    refine lv_istore_n (lv' := [(2, .int (x2 * r3)), (0, .ref (a 36)), (1, .ref (b 0)), (3, .int x3)]) hx hb dX2_caseCount_23 rfl hl (by decide) rfl (fun ls hl => ?_)
    refine lv_iinc (v := (x3 + 1)) (lv' := [(3, .int (x3 + 1)), (2, .int (x2 * r3)), (0, .ref (a 36)), (1, .ref (b 0))]) hx hb dX2_caseCount_24 hl (k := 3) rfl (rfl) (by decide) rfl (fun ls hl => ?_)
    refine lv_goto (tgt := 4) hx hb dX2_caseCount_27 (by decide) ?_
    exact hk4 _ _ _ hB p e s0 m below meth c A E H locs ls hP hD hS (lv_sub hl [2, 3, 1, 0] rfl)
theorem bkX2_caseCount_4L {l : Launch} {dC : Nat → ClassId} {dI : Nat → Nat → Nat} {cB cI cJ cZ cS : ClassId} {a b : Nat → Nat} {as : List Value} {r : Int32} {s' : JS} : ∀ (n : Nat) (s : JS) (x2 : Int32) (x3 : Int32), kX2_caseCount_4L n s x2 x3 = some (r, s') → BlkI l yX2_caseCount wsX2_caseCount ({ frames := 2, cells := 0, slots := 0, locals := 44 }) cX2_caseCount 4 (some .int) (dC, dI) (tysA cB cI cJ cZ cS) as 4 (wJ cB cI cJ cZ cS a b s) [(0, .ref (a 36)), (1, .ref (b 0)), (2, .int x2), (3, .int x3)] [] (fun x u => x = r ∧ u = (wJ cB cI cJ cZ cS a b s')) := by
  intro n
  induction n with
  | zero => intro s x2 x3 hB; exact none_ne hB
  | succ n ih => intro s x2 x3 hB; exact bkX2_caseCount_4 ih _ _ _ hB
set_option maxHeartbeats 4000000 in
set_option maxRecDepth 100000 in
theorem bkX2_caseCount {l : Launch} {dC : Nat → ClassId} {dI : Nat → Nat → Nat} {cB cI cJ cZ cS : ClassId} {a b : Nat → Nat} {as : List Value} {r : Int32} {s' : JS} (s : JS) (hB : kX2_caseCount s = some (r, s')) : BlkI l yX2_caseCount wsX2_caseCount ({ frames := 2, cells := 0, slots := 0, locals := 44 }) cX2_caseCount 4 (some .int) (dC, dI) (tysA cB cI cJ cZ cS) as 0 (wJ cB cI cJ cZ cS a b s) [(0, .ref (a 36)), (1, .ref (b 0))] [] (fun x u => x = r ∧ u = (wJ cB cI cJ cZ cS a b s')) := by
  intro p e s0 m below meth c A E H locs ls hP hD hS hl
  obtain ⟨C, hr, hlocks, hA, hK, hN⟩ := id E
  obtain ⟨hx, hb, hml, hown, hts⟩ := id C
  unfold kX2_caseCount at hB
  refine lv_iconst (v := 1) hx hb dX2_caseCount_0 (by decide) ?_
  refine lv_istore_n (lv' := [(2, .int 1), (0, .ref (a 36)), (1, .ref (b 0))]) hx hb dX2_caseCount_1 rfl hl (by decide) rfl (fun ls hl => ?_)
  refine lv_iconst (v := 0) hx hb dX2_caseCount_2 (by decide) ?_
  refine lv_istore_n (lv' := [(3, .int 0), (2, .int 1), (0, .ref (a 36)), (1, .ref (b 0))]) hx hb dX2_caseCount_3 rfl hl (by decide) rfl (fun ls hl => ?_)
  exact bkX2_caseCount_4L fu _ _ _ hB p e s0 m below meth c A E H locs ls hP hD hS (lv_sub hl [2, 3, 1, 0] rfl)
theorem ckX2_caseCount {l : Launch} {dC : Nat → ClassId} {dI : Nat → Nat → Nat} {cB cI cJ cZ cS : ClassId} {a b : Nat → Nat} {r : Int32} {s' : JS} {s : JS} (hB : kX2_caseCount s = some (r, s')) : CI l yX2_caseCount wsX2_caseCount ({ frames := 2, cells := 0, slots := 0, locals := 44 }) (dC, dI) (tysA cB cI cJ cZ cS) (wJ cB cI cJ cZ cS a b s) [.ref (a 36), .ref (b 0)] (fun x u => x = r ∧ u = (wJ cB cI cJ cZ cS a b s')) :=
  CI_of (cc := cX2_caseCount) (maxL := 4) (ret := (some .int)) (by decide) rfl (Nat.le_of_ble_eq_true rfl) (bkX2_caseCount _ hB)
theorem LX2_oddsIfMay_24 : Cond.fieldLink RX2 24 "GuessFerry$Outlook" "sound" "LGuessFerry$Sound;" ∈ wsX2_oddsIfMay := by decide +kernel
theorem LX2_oddsIfMay_28 : Cond.fieldLink RX2 28 "GuessFerry$Outlook" "crossing" "LGuessFerry$Crossing;" ∈ wsX2_oddsIfMay := by decide +kernel
theorem LX2_oddsIfMay_E_X0_mayBe : Cond.selects RX0 yX0_mayBe yX0_mayBe ∈ wsX2_oddsIfMay := by decide +kernel
theorem LX2_oddsIfMay_E_X5_oddsAt : Cond.selects RX5 yX5_oddsAt yX5_oddsAt ∈ wsX2_oddsIfMay := by decide +kernel
theorem LX2_oddsIfMay_I_X0 : Cond.initialized RX0 ∈ wsX2_oddsIfMay := by decide +kernel
theorem LX2_oddsIfMay_I_X10 : Cond.initialized RX10 ∈ wsX2_oddsIfMay := by decide +kernel
theorem LX2_oddsIfMay_I_X5 : Cond.initialized RX5 ∈ wsX2_oddsIfMay := by decide +kernel
theorem LX2_oddsIfMay_N_X0_mayBe : Cond.instanceMethod yX0_mayBe ∈ wsX2_oddsIfMay := by decide +kernel
theorem LX2_oddsIfMay_N_X5_oddsAt : Cond.instanceMethod yX5_oddsAt ∈ wsX2_oddsIfMay := by decide +kernel
theorem LX2_oddsIfMay_S_X10_has : Cond.static yX10_has ∈ wsX2_oddsIfMay := by decide +kernel
theorem inX2_oddsIfMay_X2 : ∀ w ∈ u_ws RX2 TX2 6, w ∈ wsX2_oddsIfMay := by decide +kernel
set_option maxHeartbeats 4000000 in
set_option maxRecDepth 100000 in
theorem bkX2_oddsIfMay {l : Launch} {dC : Nat → ClassId} {dI : Nat → Nat → Nat} {cB cI cJ cZ cS : ClassId} {a b : Nat → Nat} {as : List Value} {r : Int32} {s' : JS} (s : JS) (x2 : Int32) (x3 : Int32) (hB : kX2_oddsIfMay s x2 x3 = some (r, s')) : BlkI l yX2_oddsIfMay wsX2_oddsIfMay ({ frames := 1, cells := 0, slots := 0, locals := 22 }) cX2_oddsIfMay 4 (some .int) (dC, dI) (tysA cB cI cJ cZ cS) as 0 (wJ cB cI cJ cZ cS a b s) [(0, .ref (a 36)), (1, .ref (b 0)), (2, .int x2), (3, .int x3)] [] (fun x u => x = r ∧ u = (wJ cB cI cJ cZ cS a b s')) := by
  intro p e s0 m below meth c A E H locs ls hP hD hS hl
  obtain ⟨C, hr, hlocks, hA, hK, hN⟩ := id E
  obtain ⟨hx, hb, hml, hown, hts⟩ := id C
  unfold kX2_oddsIfMay at hB
  refine lv_aload_n hx hb dX2_oddsIfMay_0 rfl (lv_at hl 0 rfl) ?_
  refine q_get (v := .ref (a 35)) C inX2_oddsIfMay_X2 hK hP 42 rfl rfl 1 (by decide) rfl LX2_oddsIfMay_28 rfl dX2_oddsIfMay_1 ?_
  refine lv_aload_n hx hb dX2_oddsIfMay_4 rfl (lv_at hl 1 rfl) ?_
  refine lv_iload_n hx hb dX2_oddsIfMay_5 rfl (lv_at hl 2 rfl) ?_
  obtain ⟨q_, s1, hc, hB⟩ := bindI_inv hB
  refine q_goiF (va_runVN (As := [.ref (b 0), .int x2]) (rest := []) C (ckX0_mayBe hc _) ⟨va_cnB 2 hts gX2_oddsIfMay_X0_mayBe_n32 rfl rfl rfl (hN _ nwM_X2_32 rfl) (hts _ LX2_oddsIfMay_I_X0) (by decide +kernel) ⟨Nat.le_of_ble_eq_true rfl, Nat.le_of_ble_eq_true rfl⟩, hts _ LX2_oddsIfMay_N_X0_mayBe, hts _ LX2_oddsIfMay_E_X0_mayBe⟩ (q_preV hK hP (ci := 0) (q0 := 41) rfl rfl rfl (q_preF hN hK hP hD)) rfl rfl hl.1 rfl (lv_room (Nat.le_of_ble_eq_true rfl)) dX2_oddsIfMay_6 ⟨Nat.le_of_ble_eq_true rfl, Nat.le_of_ble_eq_true rfl⟩) hD hS hA (fun r2 w1 H locs hw hP hD hS => ?_)
  obtain ⟨hq_, hw⟩ := hw; subst hw; subst hq_
  refine lv_iload_n hx hb dX2_oddsIfMay_9 rfl (lv_at hl 3 rfl) ?_
  obtain ⟨q_, hc, hB⟩ := bindP_inv hB
  refine q_goi0 (va_runSN (As := [.int r2, .int x3]) (rest := []) C (ckX10_has hc _) ⟨va_cnB 2 hts gX2_oddsIfMay_X10_has_n57 rfl rfl rfl (hN _ nwM_X2_57 rfl) (hts _ LX2_oddsIfMay_I_X10) (by decide +kernel) ⟨Nat.le_of_ble_eq_true rfl, Nat.le_of_ble_eq_true rfl⟩, hts _ LX2_oddsIfMay_S_X10_has, trivial⟩ (q_pre0 hN hK) rfl rfl hl.1 rfl (lv_room (Nat.le_of_ble_eq_true rfl)) dX2_oddsIfMay_10 ⟨Nat.le_of_ble_eq_true rfl, Nat.le_of_ble_eq_true rfl⟩) hP hD hS hA (fun r3 w1 H locs hw hP hS => ?_)
  subst hw
  refine lv_if_eq (tgt := 28) hx hb dX2_oddsIfMay_13 (by decide) (fun c4 => ?_) (fun c4 => ?_)
  · have hB := if_p hB c4
    refine lv_iconst (v := 0) hx hb dX2_oddsIfMay_28 (by decide) ?_
    exact q_iret C hr hlocks hK hP hD hS (Nat.le_of_ble_eq_true rfl) (Nat.le_of_ble_eq_true rfl) dX2_oddsIfMay_29 (by cases hB; exact ⟨rfl, rfl⟩)
  · have hB := if_n hB c4
    refine lv_aload_n hx hb dX2_oddsIfMay_16 rfl (lv_at hl 0 rfl) ?_
    refine q_get (v := .ref (a 2)) C inX2_oddsIfMay_X2 hK hP 42 rfl rfl 0 (by decide) rfl LX2_oddsIfMay_24 rfl dX2_oddsIfMay_17 ?_
    refine lv_iload_n hx hb dX2_oddsIfMay_20 rfl (lv_at hl 2 rfl) ?_
    refine lv_iload_n hx hb dX2_oddsIfMay_21 rfl (lv_at hl 3 rfl) ?_
    obtain ⟨q_, s5, hc, hB⟩ := bindI_inv hB
    refine q_goi (wr := ((wD cI b s1.d))) (va_runVN (As := [.int x2, .int x3]) (rest := []) C (ckX5_oddsAt hc _) ⟨va_cnB 2 hts gX2_oddsIfMay_X5_oddsAt_n61 rfl rfl rfl (hN _ nwM_X2_61 rfl) (hts _ LX2_oddsIfMay_I_X5) (by decide +kernel) ⟨Nat.le_of_ble_eq_true rfl, Nat.le_of_ble_eq_true rfl⟩, hts _ LX2_oddsIfMay_N_X5_oddsAt, hts _ LX2_oddsIfMay_E_X5_oddsAt⟩ (q_preV hK hP (ci := 5) (q0 := 8) rfl rfl rfl (q_pre hN hK hP hD [6, 7, 8, 9, 10, 11, 12, 13, 14, 15, 16, 17, 18, 19, 20, 21, 22, 23, 24, 25, 26, 27, 28, 29, 30, 31, 32, 33, 34, 35, 36, 37, 38, 39, 40, 41, 42, 43, 44, 45, 46, 47, 48, 49, 50, 51, 52] rfl (by decide))) rfl rfl hl.1 rfl (lv_room (Nat.le_of_ble_eq_true rfl)) dX2_oddsIfMay_22 ⟨Nat.le_of_ble_eq_true rfl, Nat.le_of_ble_eq_true rfl⟩) hP hD hS hA [6, 7, 8, 9, 10, 11, 12, 13, 14, 15, 16, 17, 18, 19, 20, 21, 22, 23, 24, 25, 26, 27, 28, 29, 30, 31, 32, 33, 34, 35, 36, 37, 38, 39, 40, 41, 42, 43, 44, 45, 46, 47, 48, 49, 50, 51, 52] [0, 1, 2, 3, 4, 5] rfl rfl (by decide) (by decide) (fun r6 w1 H locs hw hP hD hS => ?_)
    obtain ⟨hq_, hw⟩ := hw; subst hw; subst hq_
    obtain ⟨s7, hs8, hB⟩ := letS_inv hB
    have hP : va_P (dC, dI) vwCl (wJ cB cI cJ cZ cS a b s7) H := by subst hs8; exact hP
    have hD : va_D A (wJ cB cI cJ cZ cS a b s7) := by subst hs8; exact hD
    refine lv_goto (tgt := 29) hx hb dX2_oddsIfMay_25 (by decide) ?_
    exact q_iret C hr hlocks hK hP hD hS (Nat.le_of_ble_eq_true rfl) (Nat.le_of_ble_eq_true rfl) dX2_oddsIfMay_29 (by cases hB; exact ⟨rfl, rfl⟩)
theorem ckX2_oddsIfMay {l : Launch} {dC : Nat → ClassId} {dI : Nat → Nat → Nat} {cB cI cJ cZ cS : ClassId} {a b : Nat → Nat} {r : Int32} {s' : JS} {s : JS} {x2 : Int32} {x3 : Int32} (hB : kX2_oddsIfMay s x2 x3 = some (r, s')) : CI l yX2_oddsIfMay wsX2_oddsIfMay ({ frames := 1, cells := 0, slots := 0, locals := 22 }) (dC, dI) (tysA cB cI cJ cZ cS) (wJ cB cI cJ cZ cS a b s) [.ref (a 36), .ref (b 0), .int x2, .int x3] (fun x u => x = r ∧ u = (wJ cB cI cJ cZ cS a b s')) :=
  CI_of (cc := cX2_oddsIfMay) (maxL := 4) (ret := (some .int)) (by decide) rfl (Nat.le_of_ble_eq_true rfl) (bkX2_oddsIfMay _ _ _ hB)
theorem LX2_oddsOf_24 : Cond.fieldLink RX2 24 "GuessFerry$Outlook" "sound" "LGuessFerry$Sound;" ∈ wsX2_oddsOf := by decide +kernel
theorem LX2_oddsOf_I_X10 : Cond.initialized RX10 ∈ wsX2_oddsOf := by decide +kernel
theorem LX2_oddsOf_S_X10_thingIn : Cond.static yX10_thingIn ∈ wsX2_oddsOf := by decide +kernel
theorem inX2_oddsOf_X2 : ∀ w ∈ u_ws RX2 TX2 6, w ∈ wsX2_oddsOf := by decide +kernel
theorem inX2_oddsOf_X5 : ∀ w ∈ u_ws RX5 TX5 10, w ∈ wsX2_oddsOf := by decide +kernel
set_option maxHeartbeats 4000000 in
set_option maxRecDepth 100000 in
theorem bkX2_oddsOf_5 {l : Launch} {dC : Nat → ClassId} {dI : Nat → Nat → Nat} {cB cI cJ cZ cS : ClassId} {a b : Nat → Nat} {as : List Value} {r : Int32} {s' : JS} {k5 : JS → Int32 → Int32 → Int32 → Option (Int32 × JS)} (hk5 : ∀ (s : JS) (x2 : Int32) (x3 : Int32) (x4 : Int32), k5 s x2 x3 x4 = some (r, s') → BlkI l yX2_oddsOf wsX2_oddsOf ({ frames := 2, cells := 0, slots := 0, locals := 45 }) cX2_oddsOf 5 (some .int) (dC, dI) (tysA cB cI cJ cZ cS) as 5 (wJ cB cI cJ cZ cS a b s) [(0, .ref (a 36)), (1, .ref (b 0)), (2, .int x2), (3, .int x3), (4, .int x4)] [] (fun x u => x = r ∧ u = (wJ cB cI cJ cZ cS a b s'))) (s : JS) (x2 : Int32) (x3 : Int32) (x4 : Int32) (hB : kX2_oddsOf_5 k5 s x2 x3 x4 = some (r, s')) : BlkI l yX2_oddsOf wsX2_oddsOf ({ frames := 2, cells := 0, slots := 0, locals := 45 }) cX2_oddsOf 5 (some .int) (dC, dI) (tysA cB cI cJ cZ cS) as 5 (wJ cB cI cJ cZ cS a b s) [(0, .ref (a 36)), (1, .ref (b 0)), (2, .int x2), (3, .int x3), (4, .int x4)] [] (fun x u => x = r ∧ u = (wJ cB cI cJ cZ cS a b s')) := by
  intro p e s0 m below meth c A E H locs ls hP hD hS hl
  obtain ⟨C, hr, hlocks, hA, hK, hN⟩ := id E
  obtain ⟨hx, hb, hml, hown, hts⟩ := id C
  unfold kX2_oddsOf_5 at hB
  refine lv_iload hx hb dX2_oddsOf_5 (lv_at hl 4 rfl) ?_
  refine lv_aload_n hx hb dX2_oddsOf_7 rfl (lv_at hl 0 rfl) ?_
  refine q_get (v := .ref (a 2)) C inX2_oddsOf_X2 hK hP 42 rfl rfl 0 (by decide) rfl LX2_oddsOf_24 rfl dX2_oddsOf_8 ?_
  refine q_getN (v := .int (s.k.v 1)) C hN inX2_oddsOf_X5 hK hP 8 rfl rfl 6 (by decide) rfl nwF_X2_44 rfl dX2_oddsOf_11 ?_
  refine lv_icmp_ge (tgt := 39) hx hb dX2_oddsOf_14 (by decide) (fun c1 => ?_) (fun c1 => ?_)
  · have hB := if_p hB c1
    refine lv_iload_n hx hb dX2_oddsOf_39 rfl (lv_at hl 3 rfl) ?_
    exact q_iret C hr hlocks hK hP hD hS (Nat.le_of_ble_eq_true rfl) (Nat.le_of_ble_eq_true rfl) dX2_oddsOf_40 (by cases hB; exact ⟨rfl, rfl⟩)
  · have hB := if_n hB c1
    refine lv_iload_n hx hb dX2_oddsOf_17 rfl (lv_at hl 3 rfl) ?_
    refine lv_aload_n hx hb dX2_oddsOf_18 rfl (lv_at hl 0 rfl) ?_
    refine lv_aload_n hx hb dX2_oddsOf_19 rfl (lv_at hl 1 rfl) ?_
    refine lv_iload hx hb dX2_oddsOf_20 (lv_at hl 4 rfl) ?_
    refine lv_iload_n hx hb dX2_oddsOf_22 rfl (lv_at hl 2 rfl) ?_
    refine lv_iload hx hb dX2_oddsOf_23 (lv_at hl 4 rfl) ?_
    obtain ⟨q_, hc, hB⟩ := bindP_inv hB
    refine q_goi0 (va_runSN (As := [.int x2, .int x4]) (rest := [.int x4, .ref (b 0), .ref (a 36), .int x3]) C (ckX10_thingIn hc _) ⟨va_cnB 2 hts gX2_oddsOf_X10_thingIn_n65 rfl rfl rfl (hN _ nwM_X2_65 rfl) (hts _ LX2_oddsOf_I_X10) (by decide +kernel) ⟨Nat.le_of_ble_eq_true rfl, Nat.le_of_ble_eq_true rfl⟩, hts _ LX2_oddsOf_S_X10_thingIn, trivial⟩ (q_pre0 hN hK) rfl rfl hl.1 rfl (lv_room (Nat.le_of_ble_eq_true rfl)) dX2_oddsOf_25 ⟨Nat.le_of_ble_eq_true rfl, Nat.le_of_ble_eq_true rfl⟩) hP hD hS hA (fun r2 w1 H locs hw hP hS => ?_)
    subst hw
    obtain ⟨q_, s3, hc, hB⟩ := bindI_inv hB
    refine q_goiF (va_runV (As := [.ref (b 0), .int x4, .int r2]) (rest := [.int x3]) C (ckX2_oddsIfMay hc _) (cwV 3 hts gX2_oddsOf_X2_oddsIfMay rfl rfl rfl (by decide +kernel) ⟨Nat.le_of_ble_eq_true rfl, Nat.le_of_ble_eq_true rfl⟩) (q_preV hK hP (ci := 2) (q0 := 42) rfl rfl rfl (q_preF hN hK hP hD)) rfl rfl hl.1 rfl (lv_room (Nat.le_of_ble_eq_true rfl)) dX2_oddsOf_28 ⟨Nat.le_of_ble_eq_true rfl, Nat.le_of_ble_eq_true rfl⟩) hD hS hA (fun r4 w1 H locs hw hP hD hS => ?_)
    obtain ⟨hq_, hw⟩ := hw; subst hw; subst hq_
    refine lv_imul hx hb dX2_oddsOf_31 ?_
    refine lv_istore_n (lv' := [(3, .int (x3 * r4)), (0, .ref (a 36)), (1, .ref (b 0)), (2, .int x2), (4, .int x4)]) hx hb dX2_oddsOf_32 rfl hl (by decide) rfl (fun ls hl => ?_)
    refine lv_iinc (v := (x4 + 1)) (lv' := [(4, .int (x4 + 1)), (3, .int (x3 * r4)), (0, .ref (a 36)), (1, .ref (b 0)), (2, .int x2)]) hx hb dX2_oddsOf_33 hl (k := 4) rfl (rfl) (by decide) rfl (fun ls hl => ?_)
    refine lv_goto (tgt := 5) hx hb dX2_oddsOf_36 (by decide) ?_
    exact hk5 _ _ _ _ hB p e s0 m below meth c A E H locs ls hP hD hS (lv_sub hl [2, 3, 4, 1, 0] rfl)
theorem bkX2_oddsOf_5L {l : Launch} {dC : Nat → ClassId} {dI : Nat → Nat → Nat} {cB cI cJ cZ cS : ClassId} {a b : Nat → Nat} {as : List Value} {r : Int32} {s' : JS} : ∀ (n : Nat) (s : JS) (x2 : Int32) (x3 : Int32) (x4 : Int32), kX2_oddsOf_5L n s x2 x3 x4 = some (r, s') → BlkI l yX2_oddsOf wsX2_oddsOf ({ frames := 2, cells := 0, slots := 0, locals := 45 }) cX2_oddsOf 5 (some .int) (dC, dI) (tysA cB cI cJ cZ cS) as 5 (wJ cB cI cJ cZ cS a b s) [(0, .ref (a 36)), (1, .ref (b 0)), (2, .int x2), (3, .int x3), (4, .int x4)] [] (fun x u => x = r ∧ u = (wJ cB cI cJ cZ cS a b s')) := by
  intro n
  induction n with
  | zero => intro s x2 x3 x4 hB; exact none_ne hB
  | succ n ih => intro s x2 x3 x4 hB; exact bkX2_oddsOf_5 ih _ _ _ _ hB
set_option maxHeartbeats 4000000 in
set_option maxRecDepth 100000 in
theorem bkX2_oddsOf {l : Launch} {dC : Nat → ClassId} {dI : Nat → Nat → Nat} {cB cI cJ cZ cS : ClassId} {a b : Nat → Nat} {as : List Value} {r : Int32} {s' : JS} (s : JS) (x2 : Int32) (hB : kX2_oddsOf s x2 = some (r, s')) : BlkI l yX2_oddsOf wsX2_oddsOf ({ frames := 2, cells := 0, slots := 0, locals := 45 }) cX2_oddsOf 5 (some .int) (dC, dI) (tysA cB cI cJ cZ cS) as 0 (wJ cB cI cJ cZ cS a b s) [(0, .ref (a 36)), (1, .ref (b 0)), (2, .int x2)] [] (fun x u => x = r ∧ u = (wJ cB cI cJ cZ cS a b s')) := by
  intro p e s0 m below meth c A E H locs ls hP hD hS hl
  obtain ⟨C, hr, hlocks, hA, hK, hN⟩ := id E
  obtain ⟨hx, hb, hml, hown, hts⟩ := id C
  unfold kX2_oddsOf at hB
  refine lv_iconst (v := 1) hx hb dX2_oddsOf_0 (by decide) ?_
  refine lv_istore_n (lv' := [(3, .int 1), (0, .ref (a 36)), (1, .ref (b 0)), (2, .int x2)]) hx hb dX2_oddsOf_1 rfl hl (by decide) rfl (fun ls hl => ?_)
  refine lv_iconst (v := 0) hx hb dX2_oddsOf_2 (by decide) ?_
  refine lv_istore (lv' := [(4, .int 0), (3, .int 1), (0, .ref (a 36)), (1, .ref (b 0)), (2, .int x2)]) hx hb dX2_oddsOf_3 hl (by decide) rfl (fun ls hl => ?_)
  exact bkX2_oddsOf_5L fu _ _ _ _ hB p e s0 m below meth c A E H locs ls hP hD hS (lv_sub hl [2, 3, 4, 1, 0] rfl)
theorem ckX2_oddsOf {l : Launch} {dC : Nat → ClassId} {dI : Nat → Nat → Nat} {cB cI cJ cZ cS : ClassId} {a b : Nat → Nat} {r : Int32} {s' : JS} {s : JS} {x2 : Int32} (hB : kX2_oddsOf s x2 = some (r, s')) : CI l yX2_oddsOf wsX2_oddsOf ({ frames := 2, cells := 0, slots := 0, locals := 45 }) (dC, dI) (tysA cB cI cJ cZ cS) (wJ cB cI cJ cZ cS a b s) [.ref (a 36), .ref (b 0), .int x2] (fun x u => x = r ∧ u = (wJ cB cI cJ cZ cS a b s')) :=
  CI_of (cc := cX2_oddsOf) (maxL := 5) (ret := (some .int)) (by decide) rfl (Nat.le_of_ble_eq_true rfl) (bkX2_oddsOf _ _ hB)
theorem LX2_goesAtMost_24 : Cond.fieldLink RX2 24 "GuessFerry$Outlook" "sound" "LGuessFerry$Sound;" ∈ wsX2_goesAtMost := by decide +kernel
theorem inX2_goesAtMost_X2 : ∀ w ∈ u_ws RX2 TX2 6, w ∈ wsX2_goesAtMost := by decide +kernel
theorem inX2_goesAtMost_X5 : ∀ w ∈ u_ws RX5 TX5 10, w ∈ wsX2_goesAtMost := by decide +kernel
set_option maxHeartbeats 4000000 in
set_option maxRecDepth 100000 in
theorem bkX2_goesAtMost_4 {l : Launch} {dC : Nat → ClassId} {dI : Nat → Nat → Nat} {cB cI cJ cZ cS : ClassId} {a b : Nat → Nat} {as : List Value} {r : Int32} {s' : JS} {k4 : JS → Int32 → Int32 → Option (Int32 × JS)} (hk4 : ∀ (s : JS) (x2 : Int32) (x3 : Int32), k4 s x2 x3 = some (r, s') → BlkI l yX2_goesAtMost wsX2_goesAtMost ({ frames := 2, cells := 0, slots := 0, locals := 44 }) cX2_goesAtMost 4 (some .int) (dC, dI) (tysA cB cI cJ cZ cS) as 4 (wJ cB cI cJ cZ cS a b s) [(0, .ref (a 36)), (1, .ref (b 0)), (2, .int x2), (3, .int x3)] [] (fun x u => x = r ∧ u = (wJ cB cI cJ cZ cS a b s'))) (s : JS) (x2 : Int32) (x3 : Int32) (hB : kX2_goesAtMost_4 k4 s x2 x3 = some (r, s')) : BlkI l yX2_goesAtMost wsX2_goesAtMost ({ frames := 2, cells := 0, slots := 0, locals := 44 }) cX2_goesAtMost 4 (some .int) (dC, dI) (tysA cB cI cJ cZ cS) as 4 (wJ cB cI cJ cZ cS a b s) [(0, .ref (a 36)), (1, .ref (b 0)), (2, .int x2), (3, .int x3)] [] (fun x u => x = r ∧ u = (wJ cB cI cJ cZ cS a b s')) := by
  intro p e s0 m below meth c A E H locs ls hP hD hS hl
  obtain ⟨C, hr, hlocks, hA, hK, hN⟩ := id E
  obtain ⟨hx, hb, hml, hown, hts⟩ := id C
  unfold kX2_goesAtMost_4 at hB
  refine lv_iload_n hx hb dX2_goesAtMost_4 rfl (lv_at hl 3 rfl) ?_
  refine lv_aload_n hx hb dX2_goesAtMost_5 rfl (lv_at hl 0 rfl) ?_
  refine q_get (v := .ref (a 2)) C inX2_goesAtMost_X2 hK hP 42 rfl rfl 0 (by decide) rfl LX2_goesAtMost_24 rfl dX2_goesAtMost_6 ?_
  refine q_getN (v := .int (s.k.v 1)) C hN inX2_goesAtMost_X5 hK hP 8 rfl rfl 6 (by decide) rfl nwF_X2_44 rfl dX2_goesAtMost_9 ?_
  refine lv_icmp_ge (tgt := 32) hx hb dX2_goesAtMost_12 (by decide) (fun c1 => ?_) (fun c1 => ?_)
  · have hB := if_p hB c1
    refine lv_iload_n hx hb dX2_goesAtMost_32 rfl (lv_at hl 2 rfl) ?_
    exact q_iret C hr hlocks hK hP hD hS (Nat.le_of_ble_eq_true rfl) (Nat.le_of_ble_eq_true rfl) dX2_goesAtMost_33 (by cases hB; exact ⟨rfl, rfl⟩)
  · have hB := if_n hB c1
    refine lv_iload_n hx hb dX2_goesAtMost_15 rfl (lv_at hl 2 rfl) ?_
    refine lv_aload_n hx hb dX2_goesAtMost_16 rfl (lv_at hl 0 rfl) ?_
    refine lv_aload_n hx hb dX2_goesAtMost_17 rfl (lv_at hl 1 rfl) ?_
    refine lv_iload_n hx hb dX2_goesAtMost_18 rfl (lv_at hl 3 rfl) ?_
    obtain ⟨q_, s2, hc, hB⟩ := bindI_inv hB
    refine q_goiF (va_runV (As := [.ref (b 0), .int x3]) (rest := [.int x2]) C (ckX2_mayCount hc _) (cwV 2 hts gX2_goesAtMost_X2_mayCount rfl rfl rfl (by decide +kernel) ⟨Nat.le_of_ble_eq_true rfl, Nat.le_of_ble_eq_true rfl⟩) (q_preV hK hP (ci := 2) (q0 := 42) rfl rfl rfl (q_preF hN hK hP hD)) rfl rfl hl.1 rfl (lv_room (Nat.le_of_ble_eq_true rfl)) dX2_goesAtMost_19 ⟨Nat.le_of_ble_eq_true rfl, Nat.le_of_ble_eq_true rfl⟩) hD hS hA (fun r3 w1 H locs hw hP hD hS => ?_)
    obtain ⟨hq_, hw⟩ := hw; subst hw; subst hq_
    refine lv_iconst (v := 1) hx hb dX2_goesAtMost_22 (by decide) ?_
    refine lv_isub hx hb dX2_goesAtMost_23 ?_
    refine lv_iadd hx hb dX2_goesAtMost_24 ?_
    refine lv_istore_n (lv' := [(2, .int (x2 + (r3 - 1))), (0, .ref (a 36)), (1, .ref (b 0)), (3, .int x3)]) hx hb dX2_goesAtMost_25 rfl hl (by decide) rfl (fun ls hl => ?_)
    refine lv_iinc (v := (x3 + 1)) (lv' := [(3, .int (x3 + 1)), (2, .int (x2 + (r3 - 1))), (0, .ref (a 36)), (1, .ref (b 0))]) hx hb dX2_goesAtMost_26 hl (k := 3) rfl (rfl) (by decide) rfl (fun ls hl => ?_)
    refine lv_goto (tgt := 4) hx hb dX2_goesAtMost_29 (by decide) ?_
    exact hk4 _ _ _ hB p e s0 m below meth c A E H locs ls hP hD hS (lv_sub hl [2, 3, 1, 0] rfl)
theorem bkX2_goesAtMost_4L {l : Launch} {dC : Nat → ClassId} {dI : Nat → Nat → Nat} {cB cI cJ cZ cS : ClassId} {a b : Nat → Nat} {as : List Value} {r : Int32} {s' : JS} : ∀ (n : Nat) (s : JS) (x2 : Int32) (x3 : Int32), kX2_goesAtMost_4L n s x2 x3 = some (r, s') → BlkI l yX2_goesAtMost wsX2_goesAtMost ({ frames := 2, cells := 0, slots := 0, locals := 44 }) cX2_goesAtMost 4 (some .int) (dC, dI) (tysA cB cI cJ cZ cS) as 4 (wJ cB cI cJ cZ cS a b s) [(0, .ref (a 36)), (1, .ref (b 0)), (2, .int x2), (3, .int x3)] [] (fun x u => x = r ∧ u = (wJ cB cI cJ cZ cS a b s')) := by
  intro n
  induction n with
  | zero => intro s x2 x3 hB; exact none_ne hB
  | succ n ih => intro s x2 x3 hB; exact bkX2_goesAtMost_4 ih _ _ _ hB
set_option maxHeartbeats 4000000 in
set_option maxRecDepth 100000 in
theorem bkX2_goesAtMost {l : Launch} {dC : Nat → ClassId} {dI : Nat → Nat → Nat} {cB cI cJ cZ cS : ClassId} {a b : Nat → Nat} {as : List Value} {r : Int32} {s' : JS} (s : JS) (hB : kX2_goesAtMost s = some (r, s')) : BlkI l yX2_goesAtMost wsX2_goesAtMost ({ frames := 2, cells := 0, slots := 0, locals := 44 }) cX2_goesAtMost 4 (some .int) (dC, dI) (tysA cB cI cJ cZ cS) as 0 (wJ cB cI cJ cZ cS a b s) [(0, .ref (a 36)), (1, .ref (b 0))] [] (fun x u => x = r ∧ u = (wJ cB cI cJ cZ cS a b s')) := by
  intro p e s0 m below meth c A E H locs ls hP hD hS hl
  obtain ⟨C, hr, hlocks, hA, hK, hN⟩ := id E
  obtain ⟨hx, hb, hml, hown, hts⟩ := id C
  unfold kX2_goesAtMost at hB
  refine lv_iconst (v := 1) hx hb dX2_goesAtMost_0 (by decide) ?_
  refine lv_istore_n (lv' := [(2, .int 1), (0, .ref (a 36)), (1, .ref (b 0))]) hx hb dX2_goesAtMost_1 rfl hl (by decide) rfl (fun ls hl => ?_)
  refine lv_iconst (v := 0) hx hb dX2_goesAtMost_2 (by decide) ?_
  refine lv_istore_n (lv' := [(3, .int 0), (2, .int 1), (0, .ref (a 36)), (1, .ref (b 0))]) hx hb dX2_goesAtMost_3 rfl hl (by decide) rfl (fun ls hl => ?_)
  exact bkX2_goesAtMost_4L fu _ _ _ hB p e s0 m below meth c A E H locs ls hP hD hS (lv_sub hl [2, 3, 1, 0] rfl)
theorem ckX2_goesAtMost {l : Launch} {dC : Nat → ClassId} {dI : Nat → Nat → Nat} {cB cI cJ cZ cS : ClassId} {a b : Nat → Nat} {r : Int32} {s' : JS} {s : JS} (hB : kX2_goesAtMost s = some (r, s')) : CI l yX2_goesAtMost wsX2_goesAtMost ({ frames := 2, cells := 0, slots := 0, locals := 44 }) (dC, dI) (tysA cB cI cJ cZ cS) (wJ cB cI cJ cZ cS a b s) [.ref (a 36), .ref (b 0)] (fun x u => x = r ∧ u = (wJ cB cI cJ cZ cS a b s')) :=
  CI_of (cc := cX2_goesAtMost) (maxL := 4) (ret := (some .int)) (by decide) rfl (Nat.le_of_ble_eq_true rfl) (bkX2_goesAtMost _ hB)
