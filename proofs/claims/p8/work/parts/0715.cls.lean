theorem ggX2_borneOver_X10_thingIn : GoodIn wsX2_borneOver wsX10_thingIn := gi_sub (fun w h => List.mem_cons_of_mem _ (List.mem_append_left _ (List.mem_append_left _ (List.mem_append_left _ (List.mem_append_left _ (List.mem_append_left _ (List.mem_append_right _ (List.mem_append_left _ h)))))))) gd_wsX10_thingIn
set_option maxRecDepth 20000 in
theorem gX2_borneOver_X10_thingIn_n65 : GoodIn wsX2_borneOver (wsX10_thingIn) := ggX2_borneOver_X10_thingIn
theorem ggX2_borneOver_X0_isBearing : GoodIn wsX2_borneOver wsX0_isBearing := gi_sub (fun w h => List.mem_cons_of_mem _ (List.mem_append_left _ (List.mem_append_left _ (List.mem_append_left _ (List.mem_append_left _ (List.mem_append_left _ (List.mem_append_right _ (List.mem_append_right _ h)))))))) gd_wsX0_isBearing
set_option maxRecDepth 20000 in
theorem gX2_borneOver_X0_isBearing_n75 : GoodIn wsX2_borneOver (wsX0_isBearing) := ggX2_borneOver_X0_isBearing
theorem dX2_borneOver_0 : decode cX2_borneOver 0 = .ok (.iconst 0, 1) := dc1_3 (by decide +kernel)
theorem dX2_borneOver_1 : decode cX2_borneOver 1 = .ok (.istore 4, 2) := dcu_54 (by decide +kernel)
theorem dX2_borneOver_3 : decode cX2_borneOver 3 = .ok (.iload 4, 2) := dcu_21 (by decide +kernel)
theorem dX2_borneOver_5 : decode cX2_borneOver 5 = .ok (.aload_n 0, 1) := dc1_42 (by decide +kernel)
theorem dX2_borneOver_6 : decode cX2_borneOver 6 = .ok (.getfield 24, 3) := dcw_180 (by decide +kernel)
theorem dX2_borneOver_9 : decode cX2_borneOver 9 = .ok (.getfield 44, 3) := dcw_180 (by decide +kernel)
theorem dX2_borneOver_12 : decode cX2_borneOver 12 = .ok (.if_icmp .ge 29, 3) := dcs_162 (n := 29) (by decide +kernel)
theorem dX2_borneOver_15 : decode cX2_borneOver 15 = .ok (.aload_n 0, 1) := dc1_42 (by decide +kernel)
theorem dX2_borneOver_16 : decode cX2_borneOver 16 = .ok (.getfield 28, 3) := dcw_180 (by decide +kernel)
theorem dX2_borneOver_19 : decode cX2_borneOver 19 = .ok (.aload_n 1, 1) := dc1_43 (by decide +kernel)
theorem dX2_borneOver_20 : decode cX2_borneOver 20 = .ok (.iload_n 2, 1) := dc1_28 (by decide +kernel)
theorem dX2_borneOver_21 : decode cX2_borneOver 21 = .ok (.iload 4, 2) := dcu_21 (by decide +kernel)
theorem dX2_borneOver_23 : decode cX2_borneOver 23 = .ok (.iload_n 3, 1) := dc1_29 (by decide +kernel)
theorem dX2_borneOver_24 : decode cX2_borneOver 24 = .ok (.iload 4, 2) := dcu_21 (by decide +kernel)
theorem dX2_borneOver_26 : decode cX2_borneOver 26 = .ok (.invokestatic 65, 3) := dcw_184 (by decide +kernel)
theorem dX2_borneOver_29 : decode cX2_borneOver 29 = .ok (.invokevirtual 75, 3) := dcw_182 (by decide +kernel)
theorem dX2_borneOver_32 : decode cX2_borneOver 32 = .ok (.ifCond .eq 9, 3) := dcs_153 (n := 9) (by decide +kernel)
theorem dX2_borneOver_35 : decode cX2_borneOver 35 = .ok (.iinc 4 1, 3) := dc_iinc (m := 1) (by decide +kernel)
theorem dX2_borneOver_38 : decode cX2_borneOver 38 = .ok (.goto (-35), 3) := dcs_167 (n := 65501) (by decide +kernel)
theorem dX2_borneOver_41 : decode cX2_borneOver 41 = .ok (.iload 4, 2) := dcu_21 (by decide +kernel)
theorem dX2_borneOver_43 : decode cX2_borneOver 43 = .ok (.ireturn, 1) := dc1_172 (by decide +kernel)
theorem ggX10_wave_X5_hasWave : GoodIn wsX10_wave wsX5_hasWave := gi_sub (fun w h => List.mem_cons_of_mem _ (List.mem_append_left _ (List.mem_append_left _ (List.mem_append_left _ (List.mem_append_left _ (List.mem_append_left _ (List.mem_append_right _ (List.mem_append_left _ h)))))))) gd_wsX5_hasWave
set_option maxRecDepth 20000 in
theorem gX10_wave_X5_hasWave_n108 : GoodIn wsX10_wave (wsX5_hasWave) := ggX10_wave_X5_hasWave
theorem ggX10_wave_X0_mayBe : GoodIn wsX10_wave wsX0_mayBe := gi_sub (fun w h => List.mem_cons_of_mem _ (List.mem_append_left _ (List.mem_append_left _ (List.mem_append_left _ (List.mem_append_left _ (List.mem_append_left _ (List.mem_append_right _ (List.mem_append_right _ (List.mem_append_left _ h))))))))) gd_wsX0_mayBe
set_option maxRecDepth 20000 in
theorem gX10_wave_X0_mayBe_n111 : GoodIn wsX10_wave (wsX0_mayBe) := ggX10_wave_X0_mayBe
theorem ggX10_wave_X0_thereNow : GoodIn wsX10_wave wsX0_thereNow := gi_sub (fun w h => List.mem_cons_of_mem _ (List.mem_append_left _ (List.mem_append_left _ (List.mem_append_left _ (List.mem_append_left _ (List.mem_append_left _ (List.mem_append_right _ (List.mem_append_right _ (List.mem_append_right _ (List.mem_append_left _ h)))))))))) gd_wsX0_thereNow
set_option maxRecDepth 20000 in
theorem gX10_wave_X0_thereNow_n125 : GoodIn wsX10_wave (wsX0_thereNow) := ggX10_wave_X0_thereNow
theorem ggX10_wave_X0_shiftsOf : GoodIn wsX10_wave wsX0_shiftsOf := gi_sub (fun w h => List.mem_cons_of_mem _ (List.mem_append_left _ (List.mem_append_left _ (List.mem_append_left _ (List.mem_append_left _ (List.mem_append_left _ (List.mem_append_right _ (List.mem_append_right _ (List.mem_append_right _ (List.mem_append_right _ h)))))))))) gd_wsX0_shiftsOf
set_option maxRecDepth 20000 in
theorem gX10_wave_X0_shiftsOf_n128 : GoodIn wsX10_wave (wsX0_shiftsOf) := ggX10_wave_X0_shiftsOf
theorem dX10_wave_0 : decode cX10_wave 0 = .ok (.aload_n 0, 1) := dc1_42 (by decide +kernel)
theorem dX10_wave_1 : decode cX10_wave 1 = .ok (.getfield 19, 3) := dcw_180 (by decide +kernel)
theorem dX10_wave_4 : decode cX10_wave 4 = .ok (.iload_n 1, 1) := dc1_27 (by decide +kernel)
theorem dX10_wave_5 : decode cX10_wave 5 = .ok (.invokevirtual 108, 3) := dcw_182 (by decide +kernel)
theorem dX10_wave_8 : decode cX10_wave 8 = .ok (.ifCond .ne 5, 3) := dcs_154 (n := 5) (by decide +kernel)
theorem dX10_wave_11 : decode cX10_wave 11 = .ok (.iconst (-1), 1) := dc1_2 (by decide +kernel)
theorem dX10_wave_12 : decode cX10_wave 12 = .ok (.ireturn, 1) := dc1_172 (by decide +kernel)
theorem dX10_wave_13 : decode cX10_wave 13 = .ok (.iload_n 2, 1) := dc1_28 (by decide +kernel)
theorem dX10_wave_14 : decode cX10_wave 14 = .ok (.tableswitch 125 0 5 #[38, 51, 79, 89, 99, 112], 38) := by decide +kernel
theorem dX10_wave_52 : decode cX10_wave 52 = .ok (.aload_n 0, 1) := dc1_42 (by decide +kernel)
theorem dX10_wave_53 : decode cX10_wave 53 = .ok (.getfield 54, 3) := dcw_180 (by decide +kernel)
theorem dX10_wave_56 : decode cX10_wave 56 = .ok (.aload_n 0, 1) := dc1_42 (by decide +kernel)
theorem dX10_wave_57 : decode cX10_wave 57 = .ok (.getfield 35, 3) := dcw_180 (by decide +kernel)
theorem dX10_wave_60 : decode cX10_wave 60 = .ok (.iload_n 1, 1) := dc1_27 (by decide +kernel)
theorem dX10_wave_61 : decode cX10_wave 61 = .ok (.invokevirtual 111, 3) := dcw_182 (by decide +kernel)
theorem dX10_wave_64 : decode cX10_wave 64 = .ok (.ireturn, 1) := dc1_172 (by decide +kernel)
theorem dX10_wave_65 : decode cX10_wave 65 = .ok (.aload_n 0, 1) := dc1_42 (by decide +kernel)
theorem dX10_wave_66 : decode cX10_wave 66 = .ok (.getfield 35, 3) := dcw_180 (by decide +kernel)
theorem dX10_wave_69 : decode cX10_wave 69 = .ok (.getfield 115, 3) := dcw_180 (by decide +kernel)
theorem dX10_wave_72 : decode cX10_wave 72 = .ok (.iload_n 1, 1) := dc1_27 (by decide +kernel)
theorem dX10_wave_73 : decode cX10_wave 73 = .ok (.iaload, 1) := dc1_46 (by decide +kernel)
theorem dX10_wave_74 : decode cX10_wave 74 = .ok (.iconst (-1), 1) := dc1_2 (by decide +kernel)
theorem dX10_wave_75 : decode cX10_wave 75 = .ok (.if_icmp .ne 8, 3) := dcs_160 (n := 8) (by decide +kernel)
theorem dX10_wave_78 : decode cX10_wave 78 = .ok (.bipush (-2), 2) := dcb_16 (n := 254) (by decide +kernel)
theorem dX10_wave_80 : decode cX10_wave 80 = .ok (.goto 12, 3) := dcs_167 (n := 12) (by decide +kernel)
theorem dX10_wave_83 : decode cX10_wave 83 = .ok (.aload_n 0, 1) := dc1_42 (by decide +kernel)
theorem dX10_wave_84 : decode cX10_wave 84 = .ok (.getfield 35, 3) := dcw_180 (by decide +kernel)
theorem dX10_wave_87 : decode cX10_wave 87 = .ok (.getfield 115, 3) := dcw_180 (by decide +kernel)
theorem dX10_wave_90 : decode cX10_wave 90 = .ok (.iload_n 1, 1) := dc1_27 (by decide +kernel)
theorem dX10_wave_91 : decode cX10_wave 91 = .ok (.iaload, 1) := dc1_46 (by decide +kernel)
theorem dX10_wave_92 : decode cX10_wave 92 = .ok (.ireturn, 1) := dc1_172 (by decide +kernel)
theorem dX10_wave_93 : decode cX10_wave 93 = .ok (.aload_n 0, 1) := dc1_42 (by decide +kernel)
theorem dX10_wave_94 : decode cX10_wave 94 = .ok (.getfield 35, 3) := dcw_180 (by decide +kernel)
theorem dX10_wave_97 : decode cX10_wave 97 = .ok (.getfield 119, 3) := dcw_180 (by decide +kernel)
theorem dX10_wave_100 : decode cX10_wave 100 = .ok (.iload_n 1, 1) := dc1_27 (by decide +kernel)
theorem dX10_wave_101 : decode cX10_wave 101 = .ok (.iaload, 1) := dc1_46 (by decide +kernel)
theorem dX10_wave_102 : decode cX10_wave 102 = .ok (.ireturn, 1) := dc1_172 (by decide +kernel)
theorem dX10_wave_103 : decode cX10_wave 103 = .ok (.aload_n 0, 1) := dc1_42 (by decide +kernel)
theorem dX10_wave_104 : decode cX10_wave 104 = .ok (.getfield 35, 3) := dcw_180 (by decide +kernel)
theorem dX10_wave_107 : decode cX10_wave 107 = .ok (.getfield 122, 3) := dcw_180 (by decide +kernel)
theorem dX10_wave_110 : decode cX10_wave 110 = .ok (.iload_n 1, 1) := dc1_27 (by decide +kernel)
theorem dX10_wave_111 : decode cX10_wave 111 = .ok (.iaload, 1) := dc1_46 (by decide +kernel)
theorem dX10_wave_112 : decode cX10_wave 112 = .ok (.ireturn, 1) := dc1_172 (by decide +kernel)
theorem dX10_wave_113 : decode cX10_wave 113 = .ok (.aload_n 0, 1) := dc1_42 (by decide +kernel)
theorem dX10_wave_114 : decode cX10_wave 114 = .ok (.getfield 54, 3) := dcw_180 (by decide +kernel)
theorem dX10_wave_117 : decode cX10_wave 117 = .ok (.aload_n 0, 1) := dc1_42 (by decide +kernel)
theorem dX10_wave_118 : decode cX10_wave 118 = .ok (.getfield 35, 3) := dcw_180 (by decide +kernel)
theorem dX10_wave_121 : decode cX10_wave 121 = .ok (.iload_n 1, 1) := dc1_27 (by decide +kernel)
theorem dX10_wave_122 : decode cX10_wave 122 = .ok (.invokevirtual 125, 3) := dcw_182 (by decide +kernel)
theorem dX10_wave_125 : decode cX10_wave 125 = .ok (.ireturn, 1) := dc1_172 (by decide +kernel)
theorem dX10_wave_126 : decode cX10_wave 126 = .ok (.aload_n 0, 1) := dc1_42 (by decide +kernel)
theorem dX10_wave_127 : decode cX10_wave 127 = .ok (.getfield 54, 3) := dcw_180 (by decide +kernel)
theorem dX10_wave_130 : decode cX10_wave 130 = .ok (.aload_n 0, 1) := dc1_42 (by decide +kernel)
theorem dX10_wave_131 : decode cX10_wave 131 = .ok (.getfield 35, 3) := dcw_180 (by decide +kernel)
theorem dX10_wave_134 : decode cX10_wave 134 = .ok (.iload_n 1, 1) := dc1_27 (by decide +kernel)
theorem dX10_wave_135 : decode cX10_wave 135 = .ok (.invokevirtual 128, 3) := dcw_182 (by decide +kernel)
theorem dX10_wave_138 : decode cX10_wave 138 = .ok (.ireturn, 1) := dc1_172 (by decide +kernel)
theorem dX10_wave_139 : decode cX10_wave 139 = .ok (.iconst (-1), 1) := dc1_2 (by decide +kernel)
theorem dX10_wave_140 : decode cX10_wave 140 = .ok (.ireturn, 1) := dc1_172 (by decide +kernel)
theorem ggX10_party_X5_hasParty : GoodIn wsX10_party wsX5_hasParty := gi_sub (fun w h => List.mem_cons_of_mem _ (List.mem_append_left _ (List.mem_append_left _ (List.mem_append_left _ (List.mem_append_left _ (List.mem_append_left _ (List.mem_append_right _ (List.mem_append_left _ h)))))))) gd_wsX5_hasParty
set_option maxRecDepth 20000 in
theorem gX10_party_X5_hasParty_n138 : GoodIn wsX10_party (wsX5_hasParty) := ggX10_party_X5_hasParty
theorem ggX10_party_X0_fareOf : GoodIn wsX10_party wsX0_fareOf := gi_sub (fun w h => List.mem_cons_of_mem _ (List.mem_append_left _ (List.mem_append_left _ (List.mem_append_left _ (List.mem_append_left _ (List.mem_append_left _ (List.mem_append_right _ (List.mem_append_right _ (List.mem_append_left _ h))))))))) gd_wsX0_fareOf
set_option maxRecDepth 20000 in
theorem gX10_party_X0_fareOf_n153 : GoodIn wsX10_party (wsX0_fareOf) := ggX10_party_X0_fareOf
theorem ggX10_party_X0_isDaring : GoodIn wsX10_party wsX0_isDaring := gi_sub (fun w h => List.mem_cons_of_mem _ (List.mem_append_left _ (List.mem_append_left _ (List.mem_append_left _ (List.mem_append_left _ (List.mem_append_left _ (List.mem_append_right _ (List.mem_append_right _ (List.mem_append_right _ h))))))))) gd_wsX0_isDaring
set_option maxRecDepth 20000 in
theorem gX10_party_X0_isDaring_n156 : GoodIn wsX10_party (wsX0_isDaring) := ggX10_party_X0_isDaring
theorem dX10_party_0 : decode cX10_party 0 = .ok (.aload_n 0, 1) := dc1_42 (by decide +kernel)
theorem dX10_party_1 : decode cX10_party 1 = .ok (.getfield 19, 3) := dcw_180 (by decide +kernel)
theorem dX10_party_4 : decode cX10_party 4 = .ok (.iload_n 1, 1) := dc1_27 (by decide +kernel)
theorem dX10_party_5 : decode cX10_party 5 = .ok (.invokevirtual 138, 3) := dcw_182 (by decide +kernel)
theorem dX10_party_8 : decode cX10_party 8 = .ok (.ifCond .ne 5, 3) := dcs_154 (n := 5) (by decide +kernel)
theorem dX10_party_11 : decode cX10_party 11 = .ok (.iconst (-1), 1) := dc1_2 (by decide +kernel)
theorem dX10_party_12 : decode cX10_party 12 = .ok (.ireturn, 1) := dc1_172 (by decide +kernel)
theorem dX10_party_13 : decode cX10_party 13 = .ok (.iload_n 2, 1) := dc1_28 (by decide +kernel)
theorem dX10_party_14 : decode cX10_party 14 = .ok (.tableswitch 112 0 5 #[38, 48, 58, 68, 78, 91], 38) := by decide +kernel
theorem dX10_party_52 : decode cX10_party 52 = .ok (.aload_n 0, 1) := dc1_42 (by decide +kernel)
theorem dX10_party_53 : decode cX10_party 53 = .ok (.getfield 19, 3) := dcw_180 (by decide +kernel)
theorem dX10_party_56 : decode cX10_party 56 = .ok (.getfield 141, 3) := dcw_180 (by decide +kernel)
theorem dX10_party_59 : decode cX10_party 59 = .ok (.iload_n 1, 1) := dc1_27 (by decide +kernel)
theorem dX10_party_60 : decode cX10_party 60 = .ok (.iaload, 1) := dc1_46 (by decide +kernel)
theorem dX10_party_61 : decode cX10_party 61 = .ok (.ireturn, 1) := dc1_172 (by decide +kernel)
theorem dX10_party_62 : decode cX10_party 62 = .ok (.aload_n 0, 1) := dc1_42 (by decide +kernel)
theorem dX10_party_63 : decode cX10_party 63 = .ok (.getfield 19, 3) := dcw_180 (by decide +kernel)
theorem dX10_party_66 : decode cX10_party 66 = .ok (.getfield 144, 3) := dcw_180 (by decide +kernel)
theorem dX10_party_69 : decode cX10_party 69 = .ok (.iload_n 1, 1) := dc1_27 (by decide +kernel)
theorem dX10_party_70 : decode cX10_party 70 = .ok (.iaload, 1) := dc1_46 (by decide +kernel)
theorem dX10_party_71 : decode cX10_party 71 = .ok (.ireturn, 1) := dc1_172 (by decide +kernel)
theorem dX10_party_72 : decode cX10_party 72 = .ok (.aload_n 0, 1) := dc1_42 (by decide +kernel)
theorem dX10_party_73 : decode cX10_party 73 = .ok (.getfield 35, 3) := dcw_180 (by decide +kernel)
theorem dX10_party_76 : decode cX10_party 76 = .ok (.getfield 147, 3) := dcw_180 (by decide +kernel)
theorem dX10_party_79 : decode cX10_party 79 = .ok (.iload_n 1, 1) := dc1_27 (by decide +kernel)
theorem dX10_party_80 : decode cX10_party 80 = .ok (.iaload, 1) := dc1_46 (by decide +kernel)
theorem dX10_party_81 : decode cX10_party 81 = .ok (.ireturn, 1) := dc1_172 (by decide +kernel)
theorem dX10_party_82 : decode cX10_party 82 = .ok (.aload_n 0, 1) := dc1_42 (by decide +kernel)
theorem dX10_party_83 : decode cX10_party 83 = .ok (.getfield 35, 3) := dcw_180 (by decide +kernel)
theorem dX10_party_86 : decode cX10_party 86 = .ok (.getfield 150, 3) := dcw_180 (by decide +kernel)
theorem dX10_party_89 : decode cX10_party 89 = .ok (.iload_n 1, 1) := dc1_27 (by decide +kernel)
theorem dX10_party_90 : decode cX10_party 90 = .ok (.iaload, 1) := dc1_46 (by decide +kernel)
theorem dX10_party_91 : decode cX10_party 91 = .ok (.ireturn, 1) := dc1_172 (by decide +kernel)
theorem dX10_party_92 : decode cX10_party 92 = .ok (.aload_n 0, 1) := dc1_42 (by decide +kernel)
theorem dX10_party_93 : decode cX10_party 93 = .ok (.getfield 54, 3) := dcw_180 (by decide +kernel)
theorem dX10_party_96 : decode cX10_party 96 = .ok (.aload_n 0, 1) := dc1_42 (by decide +kernel)
theorem dX10_party_97 : decode cX10_party 97 = .ok (.getfield 35, 3) := dcw_180 (by decide +kernel)
theorem dX10_party_100 : decode cX10_party 100 = .ok (.iload_n 1, 1) := dc1_27 (by decide +kernel)
theorem dX10_party_101 : decode cX10_party 101 = .ok (.invokevirtual 153, 3) := dcw_182 (by decide +kernel)
theorem dX10_party_104 : decode cX10_party 104 = .ok (.ireturn, 1) := dc1_172 (by decide +kernel)
theorem dX10_party_105 : decode cX10_party 105 = .ok (.aload_n 0, 1) := dc1_42 (by decide +kernel)
theorem dX10_party_106 : decode cX10_party 106 = .ok (.getfield 54, 3) := dcw_180 (by decide +kernel)
theorem dX10_party_109 : decode cX10_party 109 = .ok (.aload_n 0, 1) := dc1_42 (by decide +kernel)
theorem dX10_party_110 : decode cX10_party 110 = .ok (.getfield 35, 3) := dcw_180 (by decide +kernel)
theorem dX10_party_113 : decode cX10_party 113 = .ok (.iload_n 1, 1) := dc1_27 (by decide +kernel)
theorem dX10_party_114 : decode cX10_party 114 = .ok (.invokevirtual 156, 3) := dcw_182 (by decide +kernel)
theorem dX10_party_117 : decode cX10_party 117 = .ok (.ifCond .eq 7, 3) := dcs_153 (n := 7) (by decide +kernel)
theorem dX10_party_120 : decode cX10_party 120 = .ok (.iconst 1, 1) := dc1_4 (by decide +kernel)
theorem dX10_party_121 : decode cX10_party 121 = .ok (.goto 4, 3) := dcs_167 (n := 4) (by decide +kernel)
theorem dX10_party_124 : decode cX10_party 124 = .ok (.iconst 0, 1) := dc1_3 (by decide +kernel)
theorem dX10_party_125 : decode cX10_party 125 = .ok (.ireturn, 1) := dc1_172 (by decide +kernel)
theorem dX10_party_126 : decode cX10_party 126 = .ok (.iconst (-1), 1) := dc1_2 (by decide +kernel)
theorem dX10_party_127 : decode cX10_party 127 = .ok (.ireturn, 1) := dc1_172 (by decide +kernel)
theorem ggX10_needs_X5_hasParty : GoodIn wsX10_needs wsX5_hasParty := gi_sub (fun w h => List.mem_cons_of_mem _ (List.mem_append_left _ (List.mem_append_left _ (List.mem_append_left _ (List.mem_append_left _ (List.mem_append_left _ (List.mem_append_right _ (List.mem_append_left _ h)))))))) gd_wsX5_hasParty
set_option maxRecDepth 20000 in
theorem gX10_needs_X5_hasParty_n138 : GoodIn wsX10_needs (wsX5_hasParty) := ggX10_needs_X5_hasParty
theorem ggX10_needs_X5_hasWave : GoodIn wsX10_needs wsX5_hasWave := gi_sub (fun w h => List.mem_cons_of_mem _ (List.mem_append_left _ (List.mem_append_left _ (List.mem_append_left _ (List.mem_append_left _ (List.mem_append_left _ (List.mem_append_right _ (List.mem_append_right _ (List.mem_append_left _ h))))))))) gd_wsX5_hasWave
set_option maxRecDepth 20000 in
theorem gX10_needs_X5_hasWave_n108 : GoodIn wsX10_needs (wsX5_hasWave) := ggX10_needs_X5_hasWave
theorem ggX10_needs_X10_isThing : GoodIn wsX10_needs wsX10_isThing := gi_sub (fun w h => List.mem_cons_of_mem _ (List.mem_append_left _ (List.mem_append_left _ (List.mem_append_left _ (List.mem_append_left _ (List.mem_append_left _ (List.mem_append_right _ (List.mem_append_right _ (List.mem_append_right _ (List.mem_append_left _ h)))))))))) gd_wsX10_isThing
set_option maxRecDepth 20000 in
theorem gX10_needs_X10_isThing : GoodIn wsX10_needs (va_wsS RX10 131 yX10_isThing wsX10_isThing) := goodIn_app (goodIn_of _ (by decide +kernel)) ggX10_needs_X10_isThing
theorem ggX10_needs_X0_needOf : GoodIn wsX10_needs wsX0_needOf := gi_sub (fun w h => List.mem_cons_of_mem _ (List.mem_append_left _ (List.mem_append_left _ (List.mem_append_left _ (List.mem_append_left _ (List.mem_append_left _ (List.mem_append_right _ (List.mem_append_right _ (List.mem_append_right _ (List.mem_append_right _ h)))))))))) gd_wsX0_needOf
set_option maxRecDepth 20000 in
theorem gX10_needs_X0_needOf_n160 : GoodIn wsX10_needs (wsX0_needOf) := ggX10_needs_X0_needOf
theorem dX10_needs_0 : decode cX10_needs 0 = .ok (.aload_n 0, 1) := dc1_42 (by decide +kernel)
theorem dX10_needs_1 : decode cX10_needs 1 = .ok (.getfield 19, 3) := dcw_180 (by decide +kernel)
theorem dX10_needs_4 : decode cX10_needs 4 = .ok (.iload_n 1, 1) := dc1_27 (by decide +kernel)
theorem dX10_needs_5 : decode cX10_needs 5 = .ok (.invokevirtual 138, 3) := dcw_182 (by decide +kernel)
theorem dX10_needs_8 : decode cX10_needs 8 = .ok (.ifCond .eq 21, 3) := dcs_153 (n := 21) (by decide +kernel)
theorem dX10_needs_11 : decode cX10_needs 11 = .ok (.aload_n 0, 1) := dc1_42 (by decide +kernel)
theorem dX10_needs_12 : decode cX10_needs 12 = .ok (.getfield 19, 3) := dcw_180 (by decide +kernel)
theorem dX10_needs_15 : decode cX10_needs 15 = .ok (.iload_n 2, 1) := dc1_28 (by decide +kernel)
theorem dX10_needs_16 : decode cX10_needs 16 = .ok (.invokevirtual 108, 3) := dcw_182 (by decide +kernel)
theorem dX10_needs_19 : decode cX10_needs 19 = .ok (.ifCond .eq 10, 3) := dcs_153 (n := 10) (by decide +kernel)
theorem dX10_needs_22 : decode cX10_needs 22 = .ok (.iload_n 3, 1) := dc1_29 (by decide +kernel)
theorem dX10_needs_23 : decode cX10_needs 23 = .ok (.invokestatic 131, 3) := dcw_184 (by decide +kernel)
theorem dX10_needs_26 : decode cX10_needs 26 = .ok (.ifCond .ne 5, 3) := dcs_154 (n := 5) (by decide +kernel)
theorem dX10_needs_29 : decode cX10_needs 29 = .ok (.iconst (-1), 1) := dc1_2 (by decide +kernel)
theorem dX10_needs_30 : decode cX10_needs 30 = .ok (.ireturn, 1) := dc1_172 (by decide +kernel)
theorem dX10_needs_31 : decode cX10_needs 31 = .ok (.aload_n 0, 1) := dc1_42 (by decide +kernel)
theorem dX10_needs_32 : decode cX10_needs 32 = .ok (.getfield 54, 3) := dcw_180 (by decide +kernel)
theorem dX10_needs_35 : decode cX10_needs 35 = .ok (.aload_n 0, 1) := dc1_42 (by decide +kernel)
theorem dX10_needs_36 : decode cX10_needs 36 = .ok (.getfield 35, 3) := dcw_180 (by decide +kernel)
theorem dX10_needs_39 : decode cX10_needs 39 = .ok (.iload_n 1, 1) := dc1_27 (by decide +kernel)
theorem dX10_needs_40 : decode cX10_needs 40 = .ok (.iload_n 2, 1) := dc1_28 (by decide +kernel)
theorem dX10_needs_41 : decode cX10_needs 41 = .ok (.iload_n 3, 1) := dc1_29 (by decide +kernel)
theorem dX10_needs_42 : decode cX10_needs 42 = .ok (.invokevirtual 160, 3) := dcw_182 (by decide +kernel)
theorem dX10_needs_45 : decode cX10_needs 45 = .ok (.ireturn, 1) := dc1_172 (by decide +kernel)
theorem ggX10_bears_X5_hasParty : GoodIn wsX10_bears wsX5_hasParty := gi_sub (fun w h => List.mem_cons_of_mem _ (List.mem_append_left _ (List.mem_append_left _ (List.mem_append_left _ (List.mem_append_left _ (List.mem_append_left _ (List.mem_append_left _ (List.mem_append_right _ (List.mem_append_left _ h))))))))) gd_wsX5_hasParty
set_option maxRecDepth 20000 in
theorem gX10_bears_X5_hasParty_n138 : GoodIn wsX10_bears (wsX5_hasParty) := ggX10_bears_X5_hasParty
theorem ggX10_bears_X5_hasGuess : GoodIn wsX10_bears wsX5_hasGuess := gi_sub (fun w h => List.mem_cons_of_mem _ (List.mem_append_left _ (List.mem_append_left _ (List.mem_append_left _ (List.mem_append_left _ (List.mem_append_left _ (List.mem_append_left _ (List.mem_append_right _ (List.mem_append_right _ (List.mem_append_left _ h)))))))))) gd_wsX5_hasGuess
set_option maxRecDepth 20000 in
theorem gX10_bears_X5_hasGuess_n170 : GoodIn wsX10_bears (wsX5_hasGuess) := ggX10_bears_X5_hasGuess
theorem ggX10_bears_X2_borneOver : GoodIn wsX10_bears wsX2_borneOver := gi_sub (fun w h => List.mem_cons_of_mem _ (List.mem_append_left _ (List.mem_append_left _ (List.mem_append_left _ (List.mem_append_left _ (List.mem_append_left _ (List.mem_append_left _ (List.mem_append_right _ (List.mem_append_right _ (List.mem_append_right _ h)))))))))) gd_wsX2_borneOver
set_option maxRecDepth 20000 in
theorem gX10_bears_X2_borneOver_n209 : GoodIn wsX10_bears (wsX2_borneOver) := ggX10_bears_X2_borneOver
theorem dX10_bears_0 : decode cX10_bears 0 = .ok (.aload_n 0, 1) := dc1_42 (by decide +kernel)
theorem dX10_bears_1 : decode cX10_bears 1 = .ok (.getfield 19, 3) := dcw_180 (by decide +kernel)
theorem dX10_bears_4 : decode cX10_bears 4 = .ok (.iload_n 1, 1) := dc1_27 (by decide +kernel)
theorem dX10_bears_5 : decode cX10_bears 5 = .ok (.invokevirtual 138, 3) := dcw_182 (by decide +kernel)
theorem dX10_bears_8 : decode cX10_bears 8 = .ok (.ifCond .eq 14, 3) := dcs_153 (n := 14) (by decide +kernel)
theorem dX10_bears_11 : decode cX10_bears 11 = .ok (.aload_n 0, 1) := dc1_42 (by decide +kernel)
theorem dX10_bears_12 : decode cX10_bears 12 = .ok (.getfield 19, 3) := dcw_180 (by decide +kernel)
theorem dX10_bears_15 : decode cX10_bears 15 = .ok (.iload_n 2, 1) := dc1_28 (by decide +kernel)
theorem dX10_bears_16 : decode cX10_bears 16 = .ok (.invokevirtual 170, 3) := dcw_182 (by decide +kernel)
theorem dX10_bears_19 : decode cX10_bears 19 = .ok (.ifCond .ne 5, 3) := dcs_154 (n := 5) (by decide +kernel)
theorem dX10_bears_22 : decode cX10_bears 22 = .ok (.iconst (-1), 1) := dc1_2 (by decide +kernel)
theorem dX10_bears_23 : decode cX10_bears 23 = .ok (.ireturn, 1) := dc1_172 (by decide +kernel)
theorem dX10_bears_24 : decode cX10_bears 24 = .ok (.aload_n 0, 1) := dc1_42 (by decide +kernel)
theorem dX10_bears_25 : decode cX10_bears 25 = .ok (.getfield 63, 3) := dcw_180 (by decide +kernel)
theorem dX10_bears_28 : decode cX10_bears 28 = .ok (.aload_n 0, 1) := dc1_42 (by decide +kernel)
theorem dX10_bears_29 : decode cX10_bears 29 = .ok (.getfield 35, 3) := dcw_180 (by decide +kernel)
theorem dX10_bears_32 : decode cX10_bears 32 = .ok (.iload_n 1, 1) := dc1_27 (by decide +kernel)
theorem dX10_bears_33 : decode cX10_bears 33 = .ok (.iload_n 2, 1) := dc1_28 (by decide +kernel)
theorem dX10_bears_34 : decode cX10_bears 34 = .ok (.invokevirtual 209, 3) := dcw_182 (by decide +kernel)
theorem dX10_bears_37 : decode cX10_bears 37 = .ok (.ireturn, 1) := dc1_172 (by decide +kernel)
theorem ggX10_sunk_X5_hasGuess : GoodIn wsX10_sunk wsX5_hasGuess := gi_sub (fun w h => List.mem_cons_of_mem _ (List.mem_append_left _ (List.mem_append_left _ (List.mem_append_left _ (List.mem_append_left _ (List.mem_append_left _ (List.mem_append_left _ (List.mem_append_right _ (List.mem_append_left _ h))))))))) gd_wsX5_hasGuess
set_option maxRecDepth 20000 in
theorem gX10_sunk_X5_hasGuess_n170 : GoodIn wsX10_sunk (wsX5_hasGuess) := ggX10_sunk_X5_hasGuess
theorem ggX10_sunk_X2_borneOver : GoodIn wsX10_sunk wsX2_borneOver := gi_sub (fun w h => List.mem_cons_of_mem _ (List.mem_append_left _ (List.mem_append_left _ (List.mem_append_left _ (List.mem_append_left _ (List.mem_append_left _ (List.mem_append_left _ (List.mem_append_right _ (List.mem_append_right _ h))))))))) gd_wsX2_borneOver
set_option maxRecDepth 20000 in
theorem gX10_sunk_X2_borneOver_n209 : GoodIn wsX10_sunk (wsX2_borneOver) := ggX10_sunk_X2_borneOver
theorem dX10_sunk_0 : decode cX10_sunk 0 = .ok (.aload_n 0, 1) := dc1_42 (by decide +kernel)
theorem dX10_sunk_1 : decode cX10_sunk 1 = .ok (.getfield 19, 3) := dcw_180 (by decide +kernel)
theorem dX10_sunk_4 : decode cX10_sunk 4 = .ok (.iload_n 1, 1) := dc1_27 (by decide +kernel)
theorem dX10_sunk_5 : decode cX10_sunk 5 = .ok (.invokevirtual 170, 3) := dcw_182 (by decide +kernel)
theorem dX10_sunk_8 : decode cX10_sunk 8 = .ok (.ifCond .ne 5, 3) := dcs_154 (n := 5) (by decide +kernel)
theorem dX10_sunk_11 : decode cX10_sunk 11 = .ok (.iconst (-1), 1) := dc1_2 (by decide +kernel)
theorem dX10_sunk_12 : decode cX10_sunk 12 = .ok (.ireturn, 1) := dc1_172 (by decide +kernel)
theorem dX10_sunk_13 : decode cX10_sunk 13 = .ok (.iconst 0, 1) := dc1_3 (by decide +kernel)
theorem dX10_sunk_14 : decode cX10_sunk 14 = .ok (.istore_n 2, 1) := dc1_61 (by decide +kernel)
theorem dX10_sunk_15 : decode cX10_sunk 15 = .ok (.iconst 0, 1) := dc1_3 (by decide +kernel)
theorem dX10_sunk_16 : decode cX10_sunk 16 = .ok (.istore_n 3, 1) := dc1_62 (by decide +kernel)
theorem dX10_sunk_17 : decode cX10_sunk 17 = .ok (.iload_n 3, 1) := dc1_29 (by decide +kernel)
theorem dX10_sunk_18 : decode cX10_sunk 18 = .ok (.aload_n 0, 1) := dc1_42 (by decide +kernel)
theorem dX10_sunk_19 : decode cX10_sunk 19 = .ok (.getfield 19, 3) := dcw_180 (by decide +kernel)
theorem dX10_sunk_22 : decode cX10_sunk 22 = .ok (.getfield 235, 3) := dcw_180 (by decide +kernel)
theorem dX10_sunk_25 : decode cX10_sunk 25 = .ok (.if_icmp .ge 50, 3) := dcs_162 (n := 50) (by decide +kernel)
theorem dX10_sunk_28 : decode cX10_sunk 28 = .ok (.aload_n 0, 1) := dc1_42 (by decide +kernel)
theorem dX10_sunk_29 : decode cX10_sunk 29 = .ok (.getfield 35, 3) := dcw_180 (by decide +kernel)
theorem dX10_sunk_32 : decode cX10_sunk 32 = .ok (.getfield 147, 3) := dcw_180 (by decide +kernel)
theorem dX10_sunk_35 : decode cX10_sunk 35 = .ok (.iload_n 3, 1) := dc1_29 (by decide +kernel)
theorem dX10_sunk_36 : decode cX10_sunk 36 = .ok (.iaload, 1) := dc1_46 (by decide +kernel)
theorem dX10_sunk_37 : decode cX10_sunk 37 = .ok (.ifCond .ne 32, 3) := dcs_154 (n := 32) (by decide +kernel)
theorem dX10_sunk_40 : decode cX10_sunk 40 = .ok (.aload_n 0, 1) := dc1_42 (by decide +kernel)
theorem dX10_sunk_41 : decode cX10_sunk 41 = .ok (.getfield 63, 3) := dcw_180 (by decide +kernel)
theorem dX10_sunk_44 : decode cX10_sunk 44 = .ok (.aload_n 0, 1) := dc1_42 (by decide +kernel)
theorem dX10_sunk_45 : decode cX10_sunk 45 = .ok (.getfield 35, 3) := dcw_180 (by decide +kernel)
theorem dX10_sunk_48 : decode cX10_sunk 48 = .ok (.iload_n 3, 1) := dc1_29 (by decide +kernel)
theorem dX10_sunk_49 : decode cX10_sunk 49 = .ok (.iload_n 1, 1) := dc1_27 (by decide +kernel)
theorem dX10_sunk_50 : decode cX10_sunk 50 = .ok (.invokevirtual 209, 3) := dcw_182 (by decide +kernel)
theorem dX10_sunk_53 : decode cX10_sunk 53 = .ok (.aload_n 0, 1) := dc1_42 (by decide +kernel)
theorem dX10_sunk_54 : decode cX10_sunk 54 = .ok (.getfield 19, 3) := dcw_180 (by decide +kernel)
theorem dX10_sunk_57 : decode cX10_sunk 57 = .ok (.getfield 167, 3) := dcw_180 (by decide +kernel)
theorem dX10_sunk_60 : decode cX10_sunk 60 = .ok (.if_icmp .ge 9, 3) := dcs_162 (n := 9) (by decide +kernel)
theorem dX10_sunk_63 : decode cX10_sunk 63 = .ok (.iload_n 2, 1) := dc1_28 (by decide +kernel)
theorem dX10_sunk_64 : decode cX10_sunk 64 = .ok (.iconst 1, 1) := dc1_4 (by decide +kernel)
theorem dX10_sunk_65 : decode cX10_sunk 65 = .ok (.iload_n 3, 1) := dc1_29 (by decide +kernel)
theorem dX10_sunk_66 : decode cX10_sunk 66 = .ok (.ishl, 1) := dc1_120 (by decide +kernel)
theorem dX10_sunk_67 : decode cX10_sunk 67 = .ok (.ior, 1) := dc1_128 (by decide +kernel)
theorem dX10_sunk_68 : decode cX10_sunk 68 = .ok (.istore_n 2, 1) := dc1_61 (by decide +kernel)
theorem dX10_sunk_69 : decode cX10_sunk 69 = .ok (.iinc 3 1, 3) := dc_iinc (m := 1) (by decide +kernel)
theorem dX10_sunk_72 : decode cX10_sunk 72 = .ok (.goto (-55), 3) := dcs_167 (n := 65481) (by decide +kernel)
theorem dX10_sunk_75 : decode cX10_sunk 75 = .ok (.iload_n 2, 1) := dc1_28 (by decide +kernel)
theorem dX10_sunk_76 : decode cX10_sunk 76 = .ok (.ireturn, 1) := dc1_172 (by decide +kernel)
theorem LX2_borneOver_24 : Cond.fieldLink RX2 24 "GuessFerry$Outlook" "sound" "LGuessFerry$Sound;" ∈ wsX2_borneOver := by decide +kernel
theorem LX2_borneOver_28 : Cond.fieldLink RX2 28 "GuessFerry$Outlook" "crossing" "LGuessFerry$Crossing;" ∈ wsX2_borneOver := by decide +kernel
theorem LX2_borneOver_E_X0_isBearing : Cond.selects RX0 yX0_isBearing yX0_isBearing ∈ wsX2_borneOver := by decide +kernel
theorem LX2_borneOver_I_X0 : Cond.initialized RX0 ∈ wsX2_borneOver := by decide +kernel
theorem LX2_borneOver_I_X10 : Cond.initialized RX10 ∈ wsX2_borneOver := by decide +kernel
theorem LX2_borneOver_N_X0_isBearing : Cond.instanceMethod yX0_isBearing ∈ wsX2_borneOver := by decide +kernel
theorem LX2_borneOver_S_X10_thingIn : Cond.static yX10_thingIn ∈ wsX2_borneOver := by decide +kernel
theorem inX2_borneOver_X2 : ∀ w ∈ u_ws RX2 TX2 6, w ∈ wsX2_borneOver := by decide +kernel
theorem inX2_borneOver_X5 : ∀ w ∈ u_ws RX5 TX5 10, w ∈ wsX2_borneOver := by decide +kernel
set_option maxHeartbeats 4000000 in
set_option maxRecDepth 100000 in
theorem bkX2_borneOver_3 {l : Launch} {dC : Nat → ClassId} {dI : Nat → Nat → Nat} {cB cI cJ cZ cS : ClassId} {a b : Nat → Nat} {as : List Value} {r : Int32} {s' : JS} {k3 : JS → Int32 → Int32 → Int32 → Option (Int32 × JS)} (hk3 : ∀ (s : JS) (x2 : Int32) (x3 : Int32) (x4 : Int32), k3 s x2 x3 x4 = some (r, s') → BlkI l yX2_borneOver wsX2_borneOver ({ frames := 5, cells := 0, slots := 0, locals := 124 }) cX2_borneOver 5 (some .int) (dC, dI) (tysA cB cI cJ cZ cS) as 3 (wJ cB cI cJ cZ cS a b s) [(0, .ref (a 36)), (1, .ref (b 0)), (2, .int x2), (3, .int x3), (4, .int x4)] [] (fun x u => x = r ∧ u = (wJ cB cI cJ cZ cS a b s'))) (s : JS) (x2 : Int32) (x3 : Int32) (x4 : Int32) (hB : kX2_borneOver_3 k3 s x2 x3 x4 = some (r, s')) : BlkI l yX2_borneOver wsX2_borneOver ({ frames := 5, cells := 0, slots := 0, locals := 124 }) cX2_borneOver 5 (some .int) (dC, dI) (tysA cB cI cJ cZ cS) as 3 (wJ cB cI cJ cZ cS a b s) [(0, .ref (a 36)), (1, .ref (b 0)), (2, .int x2), (3, .int x3), (4, .int x4)] [] (fun x u => x = r ∧ u = (wJ cB cI cJ cZ cS a b s')) := by
  intro p e s0 m below meth c A E H locs ls hP hD hS hl
  obtain ⟨C, hr, hlocks, hA, hK, hN⟩ := id E
  obtain ⟨hx, hb, hml, hown, hts⟩ := id C
  unfold kX2_borneOver_3 at hB
  refine lv_iload hx hb dX2_borneOver_3 (lv_at hl 4 rfl) ?_
  refine lv_aload_n hx hb dX2_borneOver_5 rfl (lv_at hl 0 rfl) ?_
  refine q_get (v := .ref (a 2)) C inX2_borneOver_X2 hK hP 42 rfl rfl 0 (by decide) rfl LX2_borneOver_24 rfl dX2_borneOver_6 ?_
  refine q_getN (v := .int (s.k.v 1)) C hN inX2_borneOver_X5 hK hP 8 rfl rfl 6 (by decide) rfl nwF_X2_44 rfl dX2_borneOver_9 ?_
  refine lv_icmp_ge (tgt := 41) hx hb dX2_borneOver_12 (by decide) (fun c1 => ?_) (fun c1 => ?_)
  · have hB := if_p hB c1
    refine lv_iload hx hb dX2_borneOver_41 (lv_at hl 4 rfl) ?_
    exact q_iret C hr hlocks hK hP hD hS (Nat.le_of_ble_eq_true rfl) (Nat.le_of_ble_eq_true rfl) dX2_borneOver_43 (by cases hB; exact ⟨rfl, rfl⟩)
  · have hB := if_n hB c1
    refine lv_aload_n hx hb dX2_borneOver_15 rfl (lv_at hl 0 rfl) ?_
    refine q_get (v := .ref (a 35)) C inX2_borneOver_X2 hK hP 42 rfl rfl 1 (by decide) rfl LX2_borneOver_28 rfl dX2_borneOver_16 ?_
    refine lv_aload_n hx hb dX2_borneOver_19 rfl (lv_at hl 1 rfl) ?_
    refine lv_iload_n hx hb dX2_borneOver_20 rfl (lv_at hl 2 rfl) ?_
    refine lv_iload hx hb dX2_borneOver_21 (lv_at hl 4 rfl) ?_
    refine lv_iload_n hx hb dX2_borneOver_23 rfl (lv_at hl 3 rfl) ?_
    refine lv_iload hx hb dX2_borneOver_24 (lv_at hl 4 rfl) ?_
    obtain ⟨q_, hc, hB⟩ := bindP_inv hB
    refine q_goi0 (va_runSN (As := [.int x3, .int x4]) (rest := [.int x4, .int x2, .ref (b 0), .ref (a 35)]) C (ckX10_thingIn hc _) ⟨va_cnB 2 hts gX2_borneOver_X10_thingIn_n65 rfl rfl rfl (hN _ nwM_X2_65 rfl) (hts _ LX2_borneOver_I_X10) (by decide +kernel) ⟨Nat.le_of_ble_eq_true rfl, Nat.le_of_ble_eq_true rfl⟩, hts _ LX2_borneOver_S_X10_thingIn, trivial⟩ (q_pre0 hN hK) rfl rfl hl.1 rfl (lv_room (Nat.le_of_ble_eq_true rfl)) dX2_borneOver_26 ⟨Nat.le_of_ble_eq_true rfl, Nat.le_of_ble_eq_true rfl⟩) hP hD hS hA (fun r2 w1 H locs hw hP hS => ?_)
    subst hw
    obtain ⟨q_, s3, hc, hB⟩ := bindI_inv hB
    refine q_goiF (va_runVN (As := [.ref (b 0), .int x2, .int x4, .int r2]) (rest := []) C (ckX0_isBearing hc _) ⟨va_cnB 4 hts gX2_borneOver_X0_isBearing_n75 rfl rfl rfl (hN _ nwM_X2_75 rfl) (hts _ LX2_borneOver_I_X0) (by decide +kernel) ⟨Nat.le_of_ble_eq_true rfl, Nat.le_of_ble_eq_true rfl⟩, hts _ LX2_borneOver_N_X0_isBearing, hts _ LX2_borneOver_E_X0_isBearing⟩ (q_preV hK hP (ci := 0) (q0 := 41) rfl rfl rfl (q_preF hN hK hP hD)) rfl rfl hl.1 rfl (lv_room (Nat.le_of_ble_eq_true rfl)) dX2_borneOver_29 ⟨Nat.le_of_ble_eq_true rfl, Nat.le_of_ble_eq_true rfl⟩) hD hS hA (fun r4 w1 H locs hw hP hD hS => ?_)
    obtain ⟨hq_, hw⟩ := hw; subst hw; subst hq_
    refine lv_if_eq (tgt := 41) hx hb dX2_borneOver_32 (by decide) (fun c5 => ?_) (fun c5 => ?_)
    · have hB := if_p hB c5
      refine lv_iload hx hb dX2_borneOver_41 (lv_at hl 4 rfl) ?_
      exact q_iret C hr hlocks hK hP hD hS (Nat.le_of_ble_eq_true rfl) (Nat.le_of_ble_eq_true rfl) dX2_borneOver_43 (by cases hB; exact ⟨rfl, rfl⟩)
    · have hB := if_n hB c5
      refine lv_iinc (v := (x4 + 1)) (lv' := [(4, .int (x4 + 1)), (0, .ref (a 36)), (1, .ref (b 0)), (2, .int x2), (3, .int x3)]) hx hb dX2_borneOver_35 hl (k := 4) rfl (rfl) (by decide) rfl (fun ls hl => ?_)
      refine lv_goto (tgt := 3) hx hb dX2_borneOver_38 (by decide) ?_
      exact hk3 _ _ _ _ hB p e s0 m below meth c A E H locs ls hP hD hS (lv_sub hl [1, 2, 3, 4, 0] rfl)
theorem bkX2_borneOver_3L {l : Launch} {dC : Nat → ClassId} {dI : Nat → Nat → Nat} {cB cI cJ cZ cS : ClassId} {a b : Nat → Nat} {as : List Value} {r : Int32} {s' : JS} : ∀ (n : Nat) (s : JS) (x2 : Int32) (x3 : Int32) (x4 : Int32), kX2_borneOver_3L n s x2 x3 x4 = some (r, s') → BlkI l yX2_borneOver wsX2_borneOver ({ frames := 5, cells := 0, slots := 0, locals := 124 }) cX2_borneOver 5 (some .int) (dC, dI) (tysA cB cI cJ cZ cS) as 3 (wJ cB cI cJ cZ cS a b s) [(0, .ref (a 36)), (1, .ref (b 0)), (2, .int x2), (3, .int x3), (4, .int x4)] [] (fun x u => x = r ∧ u = (wJ cB cI cJ cZ cS a b s')) := by
  intro n
  induction n with
  | zero => intro s x2 x3 x4 hB; exact none_ne hB
  | succ n ih => intro s x2 x3 x4 hB; exact bkX2_borneOver_3 ih _ _ _ _ hB
set_option maxHeartbeats 4000000 in
set_option maxRecDepth 100000 in
theorem bkX2_borneOver {l : Launch} {dC : Nat → ClassId} {dI : Nat → Nat → Nat} {cB cI cJ cZ cS : ClassId} {a b : Nat → Nat} {as : List Value} {r : Int32} {s' : JS} (s : JS) (x2 : Int32) (x3 : Int32) (hB : kX2_borneOver s x2 x3 = some (r, s')) : BlkI l yX2_borneOver wsX2_borneOver ({ frames := 5, cells := 0, slots := 0, locals := 124 }) cX2_borneOver 5 (some .int) (dC, dI) (tysA cB cI cJ cZ cS) as 0 (wJ cB cI cJ cZ cS a b s) [(0, .ref (a 36)), (1, .ref (b 0)), (2, .int x2), (3, .int x3)] [] (fun x u => x = r ∧ u = (wJ cB cI cJ cZ cS a b s')) := by
  intro p e s0 m below meth c A E H locs ls hP hD hS hl
  obtain ⟨C, hr, hlocks, hA, hK, hN⟩ := id E
  obtain ⟨hx, hb, hml, hown, hts⟩ := id C
  unfold kX2_borneOver at hB
  refine lv_iconst (v := 0) hx hb dX2_borneOver_0 (by decide) ?_
  refine lv_istore (lv' := [(4, .int 0), (0, .ref (a 36)), (1, .ref (b 0)), (2, .int x2), (3, .int x3)]) hx hb dX2_borneOver_1 hl (by decide) rfl (fun ls hl => ?_)
  exact bkX2_borneOver_3L fu _ _ _ _ hB p e s0 m below meth c A E H locs ls hP hD hS (lv_sub hl [1, 2, 3, 4, 0] rfl)
theorem ckX2_borneOver {l : Launch} {dC : Nat → ClassId} {dI : Nat → Nat → Nat} {cB cI cJ cZ cS : ClassId} {a b : Nat → Nat} {r : Int32} {s' : JS} {s : JS} {x2 : Int32} {x3 : Int32} (hB : kX2_borneOver s x2 x3 = some (r, s')) : CI l yX2_borneOver wsX2_borneOver ({ frames := 5, cells := 0, slots := 0, locals := 124 }) (dC, dI) (tysA cB cI cJ cZ cS) (wJ cB cI cJ cZ cS a b s) [.ref (a 36), .ref (b 0), .int x2, .int x3] (fun x u => x = r ∧ u = (wJ cB cI cJ cZ cS a b s')) :=
  CI_of (cc := cX2_borneOver) (maxL := 5) (ret := (some .int)) (by decide) rfl (Nat.le_of_ble_eq_true rfl) (bkX2_borneOver _ _ _ hB)
theorem LX10_wave_19 : Cond.fieldLink RX10 19 "GuessFerry" "sound" "LGuessFerry$Sound;" ∈ wsX10_wave := by decide +kernel
theorem LX10_wave_35 : Cond.fieldLink RX10 35 "GuessFerry" "now" "LGuessFerry$Standing;" ∈ wsX10_wave := by decide +kernel
theorem LX10_wave_54 : Cond.fieldLink RX10 54 "GuessFerry" "crossing" "LGuessFerry$Crossing;" ∈ wsX10_wave := by decide +kernel
theorem LX10_wave_E_X0_mayBe : Cond.selects RX0 yX0_mayBe yX0_mayBe ∈ wsX10_wave := by decide +kernel
theorem LX10_wave_E_X0_shiftsOf : Cond.selects RX0 yX0_shiftsOf yX0_shiftsOf ∈ wsX10_wave := by decide +kernel
theorem LX10_wave_E_X0_thereNow : Cond.selects RX0 yX0_thereNow yX0_thereNow ∈ wsX10_wave := by decide +kernel
theorem LX10_wave_E_X5_hasWave : Cond.selects RX5 yX5_hasWave yX5_hasWave ∈ wsX10_wave := by decide +kernel
theorem LX10_wave_I_X0 : Cond.initialized RX0 ∈ wsX10_wave := by decide +kernel
theorem LX10_wave_I_X5 : Cond.initialized RX5 ∈ wsX10_wave := by decide +kernel
theorem LX10_wave_N_X0_mayBe : Cond.instanceMethod yX0_mayBe ∈ wsX10_wave := by decide +kernel
theorem LX10_wave_N_X0_shiftsOf : Cond.instanceMethod yX0_shiftsOf ∈ wsX10_wave := by decide +kernel
theorem LX10_wave_N_X0_thereNow : Cond.instanceMethod yX0_thereNow ∈ wsX10_wave := by decide +kernel
theorem LX10_wave_N_X5_hasWave : Cond.instanceMethod yX5_hasWave ∈ wsX10_wave := by decide +kernel
theorem inX10_wave_X10 : ∀ w ∈ u_ws RX10 TX10 9, w ∈ wsX10_wave := by decide +kernel
theorem inX10_wave_X6 : ∀ w ∈ u_ws RX6 TX6 7, w ∈ wsX10_wave := by decide +kernel
set_option maxHeartbeats 4000000 in
set_option maxRecDepth 100000 in
theorem bkX10_wave {l : Launch} {dC : Nat → ClassId} {dI : Nat → Nat → Nat} {cB cI cJ cZ cS : ClassId} {a b b2 c0 : Nat → Nat} {rg sl : Nat → Option Nat} {as : List Value} {r : Int32} {s' : XS} (s : XS) (x1 : Int32) (x2 : Int32) (hB : kX10_wave s x1 x2 = some (r, s')) : BlkI l yX10_wave wsX10_wave ({ frames := 4, cells := 0, slots := 0, locals := 98 }) cX10_wave 3 (some .int) (dC, dI) (tysA cB cI cJ cZ cS) as 0 (wX cB cI cJ cZ cS a b b2 c0 rg sl s) [(0, .ref (c0 0)), (1, .int x1), (2, .int x2)] [] (fun x u => x = r ∧ u = (wX cB cI cJ cZ cS a b b2 c0 rg sl s')) := by
  intro p e s0 m below meth c A E H locs ls hP hD hS hl
  obtain ⟨C, hr, hlocks, hA, hK, hN⟩ := id E
  obtain ⟨hx, hb, hml, hown, hts⟩ := id C
  unfold kX10_wave at hB
  refine lv_aload_n hx hb dX10_wave_0 rfl (lv_at hl 0 rfl) ?_
  refine q_get (v := .ref (a 2)) C inX10_wave_X10 hK hP 0 rfl rfl 1 (by decide) rfl LX10_wave_19 rfl dX10_wave_1 ?_
  refine lv_iload_n hx hb dX10_wave_4 rfl (lv_at hl 1 rfl) ?_
  obtain ⟨q_, s1, hc, hB⟩ := bindI_inv hB
  refine q_goi (wr := ((wG cZ cS a b b2 c0 rg sl s.g) ++ (wD cI b2 s.t) ++ (wD cI b s.n))) (va_runVN (As := [.int x1]) (rest := []) C (ckX5_hasWave hc _) ⟨va_cnB 1 hts gX10_wave_X5_hasWave_n108 rfl rfl rfl (hN _ nwM_X10_108 rfl) (hts _ LX10_wave_I_X5) (by decide +kernel) ⟨Nat.le_of_ble_eq_true rfl, Nat.le_of_ble_eq_true rfl⟩, hts _ LX10_wave_N_X5_hasWave, hts _ LX10_wave_E_X5_hasWave⟩ (q_preV hK hP (ci := 5) (q0 := 19) rfl rfl rfl (q_pre hN hK hP hD [17, 18, 19, 20, 21, 22, 23, 24, 25, 26, 27, 28, 29, 30, 31, 32, 33, 34, 35, 36, 37, 38, 39, 40, 41, 42, 43, 44, 45, 46, 47, 48, 49, 50, 51, 52, 53, 54, 55, 56, 57, 58, 59, 60, 61, 62, 63] rfl (by decide))) rfl rfl hl.1 rfl (lv_room (Nat.le_of_ble_eq_true rfl)) dX10_wave_5 ⟨Nat.le_of_ble_eq_true rfl, Nat.le_of_ble_eq_true rfl⟩) hP hD hS hA [17, 18, 19, 20, 21, 22, 23, 24, 25, 26, 27, 28, 29, 30, 31, 32, 33, 34, 35, 36, 37, 38, 39, 40, 41, 42, 43, 44, 45, 46, 47, 48, 49, 50, 51, 52, 53, 54, 55, 56, 57, 58, 59, 60, 61, 62, 63] [0, 1, 2, 3, 4, 5, 6, 7, 8, 9, 10, 11, 12, 13, 14, 15, 16] rfl rfl (by decide) (by decide) (fun r2 w1 H locs hw hP hD hS => ?_)
  obtain ⟨hq_, hw⟩ := hw; subst hw; subst hq_
  obtain ⟨s3, hs4, hB⟩ := letS_inv hB
  have hP : va_P (dC, dI) vwCl (wX cB cI cJ cZ cS a b b2 c0 rg sl s3) H := by subst hs4; exact hP
  have hD : va_D A (wX cB cI cJ cZ cS a b b2 c0 rg sl s3) := by subst hs4; exact hD
  refine lv_if_ne (tgt := 13) hx hb dX10_wave_8 (by decide) (fun c5 => ?_) (fun c5 => ?_)
  · have hB := if_n hB c5
    refine lv_iload_n hx hb dX10_wave_13 rfl (lv_at hl 2 rfl) ?_
    by_cases e6 : x2 = 0
    · have hB := if_p hB e6
      refine q_top (y := 0) e6 ?_
      refine lv_tableIn (off := 38) (tgt := 52) hx hb dX10_wave_14 (by decide +kernel) (by decide +kernel) (by decide +kernel) (by decide) ?_
      refine lv_aload_n hx hb dX10_wave_52 rfl (lv_at hl 0 rfl) ?_
      refine q_get (v := .ref (a 35)) C inX10_wave_X10 hK hP 0 rfl rfl 6 (by decide) rfl LX10_wave_54 rfl dX10_wave_53 ?_
      refine lv_aload_n hx hb dX10_wave_56 rfl (lv_at hl 0 rfl) ?_
      refine q_get (v := .ref (b 0)) C inX10_wave_X10 hK hP 0 rfl rfl 3 (by decide) rfl LX10_wave_35 rfl dX10_wave_57 ?_
      refine lv_iload_n hx hb dX10_wave_60 rfl (lv_at hl 1 rfl) ?_
      obtain ⟨q_, s7, hc, hB⟩ := bindI_inv hB
      refine q_goi (wr := ((wG cZ cS a b b2 c0 rg sl s3.g) ++ (wD cI b2 s3.t))) (va_runVN (As := [.ref (b 0), .int x1]) (rest := []) C (ckX0_mayBe hc _) ⟨va_cnB 2 hts gX10_wave_X0_mayBe_n111 rfl rfl rfl (hN _ nwM_X10_111 rfl) (hts _ LX10_wave_I_X0) (by decide +kernel) ⟨Nat.le_of_ble_eq_true rfl, Nat.le_of_ble_eq_true rfl⟩, hts _ LX10_wave_N_X0_mayBe, hts _ LX10_wave_E_X0_mayBe⟩ (q_preV hK hP (ci := 0) (q0 := 52) rfl rfl rfl (q_pre hN hK hP hD [11, 12, 13, 14, 15, 16, 17, 18, 19, 20, 21, 22, 23, 24, 25, 26, 27, 28, 29, 30, 31, 32, 33, 34, 35, 36, 37, 38, 39, 40, 41, 42, 43, 44, 45, 46, 47, 48, 49, 50, 51, 52, 53, 54, 55, 56, 57, 58, 59, 60, 61, 62, 63] rfl (by decide))) rfl rfl hl.1 rfl (lv_room (Nat.le_of_ble_eq_true rfl)) dX10_wave_61 ⟨Nat.le_of_ble_eq_true rfl, Nat.le_of_ble_eq_true rfl⟩) hP hD hS hA [11, 12, 13, 14, 15, 16, 17, 18, 19, 20, 21, 22, 23, 24, 25, 26, 27, 28, 29, 30, 31, 32, 33, 34, 35, 36, 37, 38, 39, 40, 41, 42, 43, 44, 45, 46, 47, 48, 49, 50, 51, 52, 53, 54, 55, 56, 57, 58, 59, 60, 61, 62, 63] [0, 1, 2, 3, 4, 5, 6, 7, 8, 9, 10] rfl rfl (by decide) (by decide) (fun r8 w1 H locs hw hP hD hS => ?_)
      obtain ⟨hq_, hw⟩ := hw; subst hw; subst hq_
      obtain ⟨s9, hs10, hB⟩ := letS_inv hB
      have hP : va_P (dC, dI) vwCl (wX cB cI cJ cZ cS a b b2 c0 rg sl s9) H := by subst hs10; exact hP
      have hD : va_D A (wX cB cI cJ cZ cS a b b2 c0 rg sl s9) := by subst hs10; exact hD
      exact q_iret C hr hlocks hK hP hD hS (Nat.le_of_ble_eq_true rfl) (Nat.le_of_ble_eq_true rfl) dX10_wave_64 (by cases hB; exact ⟨rfl, rfl⟩)
    · have hB := if_n hB e6
      by_cases e11 : x2 = 1
      · have hB := if_p hB e11
        refine q_top (y := 1) e11 ?_
        refine lv_tableIn (off := 51) (tgt := 65) hx hb dX10_wave_14 (by decide +kernel) (by decide +kernel) (by decide +kernel) (by decide) ?_
        refine lv_aload_n hx hb dX10_wave_65 rfl (lv_at hl 0 rfl) ?_
        refine q_get (v := .ref (b 0)) C inX10_wave_X10 hK hP 0 rfl rfl 3 (by decide) rfl LX10_wave_35 rfl dX10_wave_66 ?_
        refine q_getN (v := .ref (b 1)) C hN inX10_wave_X6 hK hP 11 rfl rfl 0 (by decide) rfl nwF_X10_115 rfl dX10_wave_69 ?_
        refine lv_iload_n hx hb dX10_wave_72 rfl (lv_at hl 1 rfl) ?_
        obtain ⟨g12, hB⟩ := guard_inv hB
        refine q_iald (x := ((s3.n.f 0) (Int32.toNatClampNeg x1))) C hK hP 12 1 rfl rfl (vpb_in g12) dX10_wave_73 rfl ?_
        refine lv_iconst (v := (-1)) hx hb dX10_wave_74 (by decide) ?_
        refine lv_icmp_ne (tgt := 83) hx hb dX10_wave_75 (by decide) (fun c13 => ?_) (fun c13 => ?_)
        · have hB := if_n hB c13
          refine lv_aload_n hx hb dX10_wave_83 rfl (lv_at hl 0 rfl) ?_
          refine q_get (v := .ref (b 0)) C inX10_wave_X10 hK hP 0 rfl rfl 3 (by decide) rfl LX10_wave_35 rfl dX10_wave_84 ?_
          refine q_getN (v := .ref (b 1)) C hN inX10_wave_X6 hK hP 11 rfl rfl 0 (by decide) rfl nwF_X10_115 rfl dX10_wave_87 ?_
          refine lv_iload_n hx hb dX10_wave_90 rfl (lv_at hl 1 rfl) ?_
          obtain ⟨g14, hB⟩ := guard_inv hB
          refine q_iald (x := ((s3.n.f 0) (Int32.toNatClampNeg x1))) C hK hP 12 1 rfl rfl (vpb_in g14) dX10_wave_91 rfl ?_
          exact q_iret C hr hlocks hK hP hD hS (Nat.le_of_ble_eq_true rfl) (Nat.le_of_ble_eq_true rfl) dX10_wave_92 (by cases hB; exact ⟨rfl, rfl⟩)
        · have hB := if_p hB c13
          refine lv_bipush (v := (-2)) hx hb dX10_wave_78 (by decide) ?_
          refine lv_goto (tgt := 92) hx hb dX10_wave_80 (by decide) ?_
          exact q_iret C hr hlocks hK hP hD hS (Nat.le_of_ble_eq_true rfl) (Nat.le_of_ble_eq_true rfl) dX10_wave_92 (by cases hB; exact ⟨rfl, rfl⟩)
      · have hB := if_n hB e11
        by_cases e15 : x2 = 2
        · have hB := if_p hB e15
          refine q_top (y := 2) e15 ?_
          refine lv_tableIn (off := 79) (tgt := 93) hx hb dX10_wave_14 (by decide +kernel) (by decide +kernel) (by decide +kernel) (by decide) ?_
          refine lv_aload_n hx hb dX10_wave_93 rfl (lv_at hl 0 rfl) ?_
          refine q_get (v := .ref (b 0)) C inX10_wave_X10 hK hP 0 rfl rfl 3 (by decide) rfl LX10_wave_35 rfl dX10_wave_94 ?_
          refine q_getN (v := .ref (b 2)) C hN inX10_wave_X6 hK hP 11 rfl rfl 1 (by decide) rfl nwF_X10_119 rfl dX10_wave_97 ?_
          refine lv_iload_n hx hb dX10_wave_100 rfl (lv_at hl 1 rfl) ?_
          obtain ⟨g16, hB⟩ := guard_inv hB
          refine q_iald (x := ((s3.n.f 1) (Int32.toNatClampNeg x1))) C hK hP 13 1 rfl rfl (vpb_in g16) dX10_wave_101 rfl ?_
          exact q_iret C hr hlocks hK hP hD hS (Nat.le_of_ble_eq_true rfl) (Nat.le_of_ble_eq_true rfl) dX10_wave_102 (by cases hB; exact ⟨rfl, rfl⟩)
        · have hB := if_n hB e15
          by_cases e17 : x2 = 3
          · have hB := if_p hB e17
            refine q_top (y := 3) e17 ?_
            refine lv_tableIn (off := 89) (tgt := 103) hx hb dX10_wave_14 (by decide +kernel) (by decide +kernel) (by decide +kernel) (by decide) ?_
            refine lv_aload_n hx hb dX10_wave_103 rfl (lv_at hl 0 rfl) ?_
            refine q_get (v := .ref (b 0)) C inX10_wave_X10 hK hP 0 rfl rfl 3 (by decide) rfl LX10_wave_35 rfl dX10_wave_104 ?_
            refine q_getN (v := .ref (b 3)) C hN inX10_wave_X6 hK hP 11 rfl rfl 2 (by decide) rfl nwF_X10_122 rfl dX10_wave_107 ?_
            refine lv_iload_n hx hb dX10_wave_110 rfl (lv_at hl 1 rfl) ?_
            obtain ⟨g18, hB⟩ := guard_inv hB
            refine q_iald (x := ((s3.n.f 2) (Int32.toNatClampNeg x1))) C hK hP 14 1 rfl rfl (vpb_in g18) dX10_wave_111 rfl ?_
            exact q_iret C hr hlocks hK hP hD hS (Nat.le_of_ble_eq_true rfl) (Nat.le_of_ble_eq_true rfl) dX10_wave_112 (by cases hB; exact ⟨rfl, rfl⟩)
          · have hB := if_n hB e17
            by_cases e19 : x2 = 4
            · have hB := if_p hB e19
              refine q_top (y := 4) e19 ?_
              refine lv_tableIn (off := 99) (tgt := 113) hx hb dX10_wave_14 (by decide +kernel) (by decide +kernel) (by decide +kernel) (by decide) ?_
              refine lv_aload_n hx hb dX10_wave_113 rfl (lv_at hl 0 rfl) ?_
              refine q_get (v := .ref (a 35)) C inX10_wave_X10 hK hP 0 rfl rfl 6 (by decide) rfl LX10_wave_54 rfl dX10_wave_114 ?_
              refine lv_aload_n hx hb dX10_wave_117 rfl (lv_at hl 0 rfl) ?_
              refine q_get (v := .ref (b 0)) C inX10_wave_X10 hK hP 0 rfl rfl 3 (by decide) rfl LX10_wave_35 rfl dX10_wave_118 ?_
              refine lv_iload_n hx hb dX10_wave_121 rfl (lv_at hl 1 rfl) ?_
              obtain ⟨q_, s20, hc, hB⟩ := bindI_inv hB
              refine q_goi (wr := ((wG cZ cS a b b2 c0 rg sl s3.g) ++ (wD cI b2 s3.t))) (va_runVN (As := [.ref (b 0), .int x1]) (rest := []) C (ckX0_thereNow hc _) ⟨va_cnB 2 hts gX10_wave_X0_thereNow_n125 rfl rfl rfl (hN _ nwM_X10_125 rfl) (hts _ LX10_wave_I_X0) (by decide +kernel) ⟨Nat.le_of_ble_eq_true rfl, Nat.le_of_ble_eq_true rfl⟩, hts _ LX10_wave_N_X0_thereNow, hts _ LX10_wave_E_X0_thereNow⟩ (q_preV hK hP (ci := 0) (q0 := 52) rfl rfl rfl (q_pre hN hK hP hD [11, 12, 13, 14, 15, 16, 17, 18, 19, 20, 21, 22, 23, 24, 25, 26, 27, 28, 29, 30, 31, 32, 33, 34, 35, 36, 37, 38, 39, 40, 41, 42, 43, 44, 45, 46, 47, 48, 49, 50, 51, 52, 53, 54, 55, 56, 57, 58, 59, 60, 61, 62, 63] rfl (by decide))) rfl rfl hl.1 rfl (lv_room (Nat.le_of_ble_eq_true rfl)) dX10_wave_122 ⟨Nat.le_of_ble_eq_true rfl, Nat.le_of_ble_eq_true rfl⟩) hP hD hS hA [11, 12, 13, 14, 15, 16, 17, 18, 19, 20, 21, 22, 23, 24, 25, 26, 27, 28, 29, 30, 31, 32, 33, 34, 35, 36, 37, 38, 39, 40, 41, 42, 43, 44, 45, 46, 47, 48, 49, 50, 51, 52, 53, 54, 55, 56, 57, 58, 59, 60, 61, 62, 63] [0, 1, 2, 3, 4, 5, 6, 7, 8, 9, 10] rfl rfl (by decide) (by decide) (fun r21 w1 H locs hw hP hD hS => ?_)
              obtain ⟨hq_, hw⟩ := hw; subst hw; subst hq_
              obtain ⟨s22, hs23, hB⟩ := letS_inv hB
              have hP : va_P (dC, dI) vwCl (wX cB cI cJ cZ cS a b b2 c0 rg sl s22) H := by subst hs23; exact hP
              have hD : va_D A (wX cB cI cJ cZ cS a b b2 c0 rg sl s22) := by subst hs23; exact hD
              exact q_iret C hr hlocks hK hP hD hS (Nat.le_of_ble_eq_true rfl) (Nat.le_of_ble_eq_true rfl) dX10_wave_125 (by cases hB; exact ⟨rfl, rfl⟩)
            · have hB := if_n hB e19
              by_cases e24 : x2 = 5
              · have hB := if_p hB e24
                refine q_top (y := 5) e24 ?_
                refine lv_tableIn (off := 112) (tgt := 126) hx hb dX10_wave_14 (by decide +kernel) (by decide +kernel) (by decide +kernel) (by decide) ?_
                refine lv_aload_n hx hb dX10_wave_126 rfl (lv_at hl 0 rfl) ?_
                refine q_get (v := .ref (a 35)) C inX10_wave_X10 hK hP 0 rfl rfl 6 (by decide) rfl LX10_wave_54 rfl dX10_wave_127 ?_
                refine lv_aload_n hx hb dX10_wave_130 rfl (lv_at hl 0 rfl) ?_
                refine q_get (v := .ref (b 0)) C inX10_wave_X10 hK hP 0 rfl rfl 3 (by decide) rfl LX10_wave_35 rfl dX10_wave_131 ?_
                refine lv_iload_n hx hb dX10_wave_134 rfl (lv_at hl 1 rfl) ?_
                obtain ⟨q_, s25, hc, hB⟩ := bindI_inv hB
                refine q_goi (wr := ((wG cZ cS a b b2 c0 rg sl s3.g) ++ (wD cI b2 s3.t))) (va_runVN (As := [.ref (b 0), .int x1]) (rest := []) C (ckX0_shiftsOf hc _) ⟨va_cnB 2 hts gX10_wave_X0_shiftsOf_n128 rfl rfl rfl (hN _ nwM_X10_128 rfl) (hts _ LX10_wave_I_X0) (by decide +kernel) ⟨Nat.le_of_ble_eq_true rfl, Nat.le_of_ble_eq_true rfl⟩, hts _ LX10_wave_N_X0_shiftsOf, hts _ LX10_wave_E_X0_shiftsOf⟩ (q_preV hK hP (ci := 0) (q0 := 52) rfl rfl rfl (q_pre hN hK hP hD [11, 12, 13, 14, 15, 16, 17, 18, 19, 20, 21, 22, 23, 24, 25, 26, 27, 28, 29, 30, 31, 32, 33, 34, 35, 36, 37, 38, 39, 40, 41, 42, 43, 44, 45, 46, 47, 48, 49, 50, 51, 52, 53, 54, 55, 56, 57, 58, 59, 60, 61, 62, 63] rfl (by decide))) rfl rfl hl.1 rfl (lv_room (Nat.le_of_ble_eq_true rfl)) dX10_wave_135 ⟨Nat.le_of_ble_eq_true rfl, Nat.le_of_ble_eq_true rfl⟩) hP hD hS hA [11, 12, 13, 14, 15, 16, 17, 18, 19, 20, 21, 22, 23, 24, 25, 26, 27, 28, 29, 30, 31, 32, 33, 34, 35, 36, 37, 38, 39, 40, 41, 42, 43, 44, 45, 46, 47, 48, 49, 50, 51, 52, 53, 54, 55, 56, 57, 58, 59, 60, 61, 62, 63] [0, 1, 2, 3, 4, 5, 6, 7, 8, 9, 10] rfl rfl (by decide) (by decide) (fun r26 w1 H locs hw hP hD hS => ?_)
                obtain ⟨hq_, hw⟩ := hw; subst hw; subst hq_
                obtain ⟨s27, hs28, hB⟩ := letS_inv hB
                have hP : va_P (dC, dI) vwCl (wX cB cI cJ cZ cS a b b2 c0 rg sl s27) H := by subst hs28; exact hP
                have hD : va_D A (wX cB cI cJ cZ cS a b b2 c0 rg sl s27) := by subst hs28; exact hD
                exact q_iret C hr hlocks hK hP hD hS (Nat.le_of_ble_eq_true rfl) (Nat.le_of_ble_eq_true rfl) dX10_wave_138 (by cases hB; exact ⟨rfl, rfl⟩)
              · have hB := if_n hB e24
                refine lv_tableOut (tgt := 139) hx hb dX10_wave_14 (by have := ne_toInt (k := 0) rfl e6; have := ne_toInt (k := 1) rfl e11; have := ne_toInt (k := 2) rfl e15; have := ne_toInt (k := 3) rfl e17; have := ne_toInt (k := 4) rfl e19; have := ne_toInt (k := 5) rfl e24; omega) (by decide) ?_
                refine lv_iconst (v := (-1)) hx hb dX10_wave_139 (by decide) ?_
                exact q_iret C hr hlocks hK hP hD hS (Nat.le_of_ble_eq_true rfl) (Nat.le_of_ble_eq_true rfl) dX10_wave_140 (by cases hB; exact ⟨rfl, rfl⟩)
  · have hB := if_p hB c5
    refine lv_iconst (v := (-1)) hx hb dX10_wave_11 (by decide) ?_
    exact q_iret C hr hlocks hK hP hD hS (Nat.le_of_ble_eq_true rfl) (Nat.le_of_ble_eq_true rfl) dX10_wave_12 (by cases hB; exact ⟨rfl, rfl⟩)
theorem ckX10_wave {l : Launch} {dC : Nat → ClassId} {dI : Nat → Nat → Nat} {cB cI cJ cZ cS : ClassId} {a b b2 c0 : Nat → Nat} {rg sl : Nat → Option Nat} {r : Int32} {s' : XS} {s : XS} {x1 : Int32} {x2 : Int32} (hB : kX10_wave s x1 x2 = some (r, s')) : CI l yX10_wave wsX10_wave ({ frames := 4, cells := 0, slots := 0, locals := 98 }) (dC, dI) (tysA cB cI cJ cZ cS) (wX cB cI cJ cZ cS a b b2 c0 rg sl s) [.ref (c0 0), .int x1, .int x2] (fun x u => x = r ∧ u = (wX cB cI cJ cZ cS a b b2 c0 rg sl s')) :=
  CI_of (cc := cX10_wave) (maxL := 3) (ret := (some .int)) (by decide) rfl (Nat.le_of_ble_eq_true rfl) (bkX10_wave _ _ _ hB)
theorem LX10_party_19 : Cond.fieldLink RX10 19 "GuessFerry" "sound" "LGuessFerry$Sound;" ∈ wsX10_party := by decide +kernel
theorem LX10_party_35 : Cond.fieldLink RX10 35 "GuessFerry" "now" "LGuessFerry$Standing;" ∈ wsX10_party := by decide +kernel
theorem LX10_party_54 : Cond.fieldLink RX10 54 "GuessFerry" "crossing" "LGuessFerry$Crossing;" ∈ wsX10_party := by decide +kernel
theorem LX10_party_E_X0_fareOf : Cond.selects RX0 yX0_fareOf yX0_fareOf ∈ wsX10_party := by decide +kernel
theorem LX10_party_E_X0_isDaring : Cond.selects RX0 yX0_isDaring yX0_isDaring ∈ wsX10_party := by decide +kernel
theorem LX10_party_E_X5_hasParty : Cond.selects RX5 yX5_hasParty yX5_hasParty ∈ wsX10_party := by decide +kernel
theorem LX10_party_I_X0 : Cond.initialized RX0 ∈ wsX10_party := by decide +kernel
theorem LX10_party_I_X5 : Cond.initialized RX5 ∈ wsX10_party := by decide +kernel
theorem LX10_party_N_X0_fareOf : Cond.instanceMethod yX0_fareOf ∈ wsX10_party := by decide +kernel
theorem LX10_party_N_X0_isDaring : Cond.instanceMethod yX0_isDaring ∈ wsX10_party := by decide +kernel
theorem LX10_party_N_X5_hasParty : Cond.instanceMethod yX5_hasParty ∈ wsX10_party := by decide +kernel
theorem inX10_party_X10 : ∀ w ∈ u_ws RX10 TX10 9, w ∈ wsX10_party := by decide +kernel
theorem inX10_party_X5 : ∀ w ∈ u_ws RX5 TX5 10, w ∈ wsX10_party := by decide +kernel
theorem inX10_party_X6 : ∀ w ∈ u_ws RX6 TX6 7, w ∈ wsX10_party := by decide +kernel
set_option maxHeartbeats 4000000 in
set_option maxRecDepth 100000 in
theorem bkX10_party {l : Launch} {dC : Nat → ClassId} {dI : Nat → Nat → Nat} {cB cI cJ cZ cS : ClassId} {a b b2 c0 : Nat → Nat} {rg sl : Nat → Option Nat} {as : List Value} {r : Int32} {s' : XS} (s : XS) (x1 : Int32) (x2 : Int32) (hB : kX10_party s x1 x2 = some (r, s')) : BlkI l yX10_party wsX10_party ({ frames := 4, cells := 0, slots := 0, locals := 98 }) cX10_party 3 (some .int) (dC, dI) (tysA cB cI cJ cZ cS) as 0 (wX cB cI cJ cZ cS a b b2 c0 rg sl s) [(0, .ref (c0 0)), (1, .int x1), (2, .int x2)] [] (fun x u => x = r ∧ u = (wX cB cI cJ cZ cS a b b2 c0 rg sl s')) := by
  intro p e s0 m below meth c A E H locs ls hP hD hS hl
  obtain ⟨C, hr, hlocks, hA, hK, hN⟩ := id E
  obtain ⟨hx, hb, hml, hown, hts⟩ := id C
  unfold kX10_party at hB
  refine lv_aload_n hx hb dX10_party_0 rfl (lv_at hl 0 rfl) ?_
  refine q_get (v := .ref (a 2)) C inX10_party_X10 hK hP 0 rfl rfl 1 (by decide) rfl LX10_party_19 rfl dX10_party_1 ?_
  refine lv_iload_n hx hb dX10_party_4 rfl (lv_at hl 1 rfl) ?_
  obtain ⟨q_, s1, hc, hB⟩ := bindI_inv hB
  refine q_goi (wr := ((wG cZ cS a b b2 c0 rg sl s.g) ++ (wD cI b2 s.t) ++ (wD cI b s.n))) (va_runVN (As := [.int x1]) (rest := []) C (ckX5_hasParty hc _) ⟨va_cnB 1 hts gX10_party_X5_hasParty_n138 rfl rfl rfl (hN _ nwM_X10_138 rfl) (hts _ LX10_party_I_X5) (by decide +kernel) ⟨Nat.le_of_ble_eq_true rfl, Nat.le_of_ble_eq_true rfl⟩, hts _ LX10_party_N_X5_hasParty, hts _ LX10_party_E_X5_hasParty⟩ (q_preV hK hP (ci := 5) (q0 := 19) rfl rfl rfl (q_pre hN hK hP hD [17, 18, 19, 20, 21, 22, 23, 24, 25, 26, 27, 28, 29, 30, 31, 32, 33, 34, 35, 36, 37, 38, 39, 40, 41, 42, 43, 44, 45, 46, 47, 48, 49, 50, 51, 52, 53, 54, 55, 56, 57, 58, 59, 60, 61, 62, 63] rfl (by decide))) rfl rfl hl.1 rfl (lv_room (Nat.le_of_ble_eq_true rfl)) dX10_party_5 ⟨Nat.le_of_ble_eq_true rfl, Nat.le_of_ble_eq_true rfl⟩) hP hD hS hA [17, 18, 19, 20, 21, 22, 23, 24, 25, 26, 27, 28, 29, 30, 31, 32, 33, 34, 35, 36, 37, 38, 39, 40, 41, 42, 43, 44, 45, 46, 47, 48, 49, 50, 51, 52, 53, 54, 55, 56, 57, 58, 59, 60, 61, 62, 63] [0, 1, 2, 3, 4, 5, 6, 7, 8, 9, 10, 11, 12, 13, 14, 15, 16] rfl rfl (by decide) (by decide) (fun r2 w1 H locs hw hP hD hS => ?_)
  obtain ⟨hq_, hw⟩ := hw; subst hw; subst hq_
  obtain ⟨s3, hs4, hB⟩ := letS_inv hB
  have hP : va_P (dC, dI) vwCl (wX cB cI cJ cZ cS a b b2 c0 rg sl s3) H := by subst hs4; exact hP
  have hD : va_D A (wX cB cI cJ cZ cS a b b2 c0 rg sl s3) := by subst hs4; exact hD
  refine lv_if_ne (tgt := 13) hx hb dX10_party_8 (by decide) (fun c5 => ?_) (fun c5 => ?_)
  · have hB := if_n hB c5
    refine lv_iload_n hx hb dX10_party_13 rfl (lv_at hl 2 rfl) ?_
    by_cases e6 : x2 = 0
    · have hB := if_p hB e6
      refine q_top (y := 0) e6 ?_
      refine lv_tableIn (off := 38) (tgt := 52) hx hb dX10_party_14 (by decide +kernel) (by decide +kernel) (by decide +kernel) (by decide) ?_
      refine lv_aload_n hx hb dX10_party_52 rfl (lv_at hl 0 rfl) ?_
      refine q_get (v := .ref (a 2)) C inX10_party_X10 hK hP 0 rfl rfl 1 (by decide) rfl LX10_party_19 rfl dX10_party_53 ?_
      refine q_getN (v := .ref (a 6)) C hN inX10_party_X5 hK hP 19 rfl rfl 3 (by decide) rfl nwF_X10_141 rfl dX10_party_56 ?_
      refine lv_iload_n hx hb dX10_party_59 rfl (lv_at hl 1 rfl) ?_
      obtain ⟨g7, hB⟩ := guard_inv hB
      refine q_iald (x := ((s3.k.f 6) (Int32.toNatClampNeg x1))) C hK hP 23 1 rfl rfl (vpb_in g7) dX10_party_60 rfl ?_
      exact q_iret C hr hlocks hK hP hD hS (Nat.le_of_ble_eq_true rfl) (Nat.le_of_ble_eq_true rfl) dX10_party_61 (by cases hB; exact ⟨rfl, rfl⟩)
    · have hB := if_n hB e6
      by_cases e8 : x2 = 1
      · have hB := if_p hB e8
        refine q_top (y := 1) e8 ?_
        refine lv_tableIn (off := 48) (tgt := 62) hx hb dX10_party_14 (by decide +kernel) (by decide +kernel) (by decide +kernel) (by decide) ?_
        refine lv_aload_n hx hb dX10_party_62 rfl (lv_at hl 0 rfl) ?_
        refine q_get (v := .ref (a 2)) C inX10_party_X10 hK hP 0 rfl rfl 1 (by decide) rfl LX10_party_19 rfl dX10_party_63 ?_
        refine q_getN (v := .ref (a 7)) C hN inX10_party_X5 hK hP 19 rfl rfl 4 (by decide) rfl nwF_X10_144 rfl dX10_party_66 ?_
        refine lv_iload_n hx hb dX10_party_69 rfl (lv_at hl 1 rfl) ?_
        obtain ⟨g9, hB⟩ := guard_inv hB
        refine q_iald (x := ((s3.k.f 7) (Int32.toNatClampNeg x1))) C hK hP 24 1 rfl rfl (vpb_in g9) dX10_party_70 rfl ?_
        exact q_iret C hr hlocks hK hP hD hS (Nat.le_of_ble_eq_true rfl) (Nat.le_of_ble_eq_true rfl) dX10_party_71 (by cases hB; exact ⟨rfl, rfl⟩)
      · have hB := if_n hB e8
        by_cases e10 : x2 = 2
        · have hB := if_p hB e10
          refine q_top (y := 2) e10 ?_
          refine lv_tableIn (off := 58) (tgt := 72) hx hb dX10_party_14 (by decide +kernel) (by decide +kernel) (by decide +kernel) (by decide) ?_
          refine lv_aload_n hx hb dX10_party_72 rfl (lv_at hl 0 rfl) ?_
          refine q_get (v := .ref (b 0)) C inX10_party_X10 hK hP 0 rfl rfl 3 (by decide) rfl LX10_party_35 rfl dX10_party_73 ?_
          refine q_getN (v := .ref (b 4)) C hN inX10_party_X6 hK hP 11 rfl rfl 3 (by decide) rfl nwF_X10_147 rfl dX10_party_76 ?_
          refine lv_iload_n hx hb dX10_party_79 rfl (lv_at hl 1 rfl) ?_
          obtain ⟨g11, hB⟩ := guard_inv hB
          refine q_iald (x := ((s3.n.f 3) (Int32.toNatClampNeg x1))) C hK hP 15 1 rfl rfl (vpb_in g11) dX10_party_80 rfl ?_
          exact q_iret C hr hlocks hK hP hD hS (Nat.le_of_ble_eq_true rfl) (Nat.le_of_ble_eq_true rfl) dX10_party_81 (by cases hB; exact ⟨rfl, rfl⟩)
        · have hB := if_n hB e10
          by_cases e12 : x2 = 3
          · have hB := if_p hB e12
            refine q_top (y := 3) e12 ?_
            refine lv_tableIn (off := 68) (tgt := 82) hx hb dX10_party_14 (by decide +kernel) (by decide +kernel) (by decide +kernel) (by decide) ?_
            refine lv_aload_n hx hb dX10_party_82 rfl (lv_at hl 0 rfl) ?_
            refine q_get (v := .ref (b 0)) C inX10_party_X10 hK hP 0 rfl rfl 3 (by decide) rfl LX10_party_35 rfl dX10_party_83 ?_
            refine q_getN (v := .ref (b 5)) C hN inX10_party_X6 hK hP 11 rfl rfl 4 (by decide) rfl nwF_X10_150 rfl dX10_party_86 ?_
            refine lv_iload_n hx hb dX10_party_89 rfl (lv_at hl 1 rfl) ?_
            obtain ⟨g13, hB⟩ := guard_inv hB
            refine q_iald (x := ((s3.n.f 4) (Int32.toNatClampNeg x1))) C hK hP 16 1 rfl rfl (vpb_in g13) dX10_party_90 rfl ?_
            exact q_iret C hr hlocks hK hP hD hS (Nat.le_of_ble_eq_true rfl) (Nat.le_of_ble_eq_true rfl) dX10_party_91 (by cases hB; exact ⟨rfl, rfl⟩)
          · have hB := if_n hB e12
            by_cases e14 : x2 = 4
            · have hB := if_p hB e14
              refine q_top (y := 4) e14 ?_
              refine lv_tableIn (off := 78) (tgt := 92) hx hb dX10_party_14 (by decide +kernel) (by decide +kernel) (by decide +kernel) (by decide) ?_
              refine lv_aload_n hx hb dX10_party_92 rfl (lv_at hl 0 rfl) ?_
              refine q_get (v := .ref (a 35)) C inX10_party_X10 hK hP 0 rfl rfl 6 (by decide) rfl LX10_party_54 rfl dX10_party_93 ?_
              refine lv_aload_n hx hb dX10_party_96 rfl (lv_at hl 0 rfl) ?_
              refine q_get (v := .ref (b 0)) C inX10_party_X10 hK hP 0 rfl rfl 3 (by decide) rfl LX10_party_35 rfl dX10_party_97 ?_
              refine lv_iload_n hx hb dX10_party_100 rfl (lv_at hl 1 rfl) ?_
              obtain ⟨q_, s15, hc, hB⟩ := bindI_inv hB
              refine q_goi (wr := ((wG cZ cS a b b2 c0 rg sl s3.g) ++ (wD cI b2 s3.t))) (va_runVN (As := [.ref (b 0), .int x1]) (rest := []) C (ckX0_fareOf hc _) ⟨va_cnB 2 hts gX10_party_X0_fareOf_n153 rfl rfl rfl (hN _ nwM_X10_153 rfl) (hts _ LX10_party_I_X0) (by decide +kernel) ⟨Nat.le_of_ble_eq_true rfl, Nat.le_of_ble_eq_true rfl⟩, hts _ LX10_party_N_X0_fareOf, hts _ LX10_party_E_X0_fareOf⟩ (q_preV hK hP (ci := 0) (q0 := 52) rfl rfl rfl (q_pre hN hK hP hD [11, 12, 13, 14, 15, 16, 17, 18, 19, 20, 21, 22, 23, 24, 25, 26, 27, 28, 29, 30, 31, 32, 33, 34, 35, 36, 37, 38, 39, 40, 41, 42, 43, 44, 45, 46, 47, 48, 49, 50, 51, 52, 53, 54, 55, 56, 57, 58, 59, 60, 61, 62, 63] rfl (by decide))) rfl rfl hl.1 rfl (lv_room (Nat.le_of_ble_eq_true rfl)) dX10_party_101 ⟨Nat.le_of_ble_eq_true rfl, Nat.le_of_ble_eq_true rfl⟩) hP hD hS hA [11, 12, 13, 14, 15, 16, 17, 18, 19, 20, 21, 22, 23, 24, 25, 26, 27, 28, 29, 30, 31, 32, 33, 34, 35, 36, 37, 38, 39, 40, 41, 42, 43, 44, 45, 46, 47, 48, 49, 50, 51, 52, 53, 54, 55, 56, 57, 58, 59, 60, 61, 62, 63] [0, 1, 2, 3, 4, 5, 6, 7, 8, 9, 10] rfl rfl (by decide) (by decide) (fun r16 w1 H locs hw hP hD hS => ?_)
              obtain ⟨hq_, hw⟩ := hw; subst hw; subst hq_
              obtain ⟨s17, hs18, hB⟩ := letS_inv hB
              have hP : va_P (dC, dI) vwCl (wX cB cI cJ cZ cS a b b2 c0 rg sl s17) H := by subst hs18; exact hP
              have hD : va_D A (wX cB cI cJ cZ cS a b b2 c0 rg sl s17) := by subst hs18; exact hD
              exact q_iret C hr hlocks hK hP hD hS (Nat.le_of_ble_eq_true rfl) (Nat.le_of_ble_eq_true rfl) dX10_party_104 (by cases hB; exact ⟨rfl, rfl⟩)
            · have hB := if_n hB e14
              by_cases e19 : x2 = 5
              · have hB := if_p hB e19
                refine q_top (y := 5) e19 ?_
                refine lv_tableIn (off := 91) (tgt := 105) hx hb dX10_party_14 (by decide +kernel) (by decide +kernel) (by decide +kernel) (by decide) ?_
                refine lv_aload_n hx hb dX10_party_105 rfl (lv_at hl 0 rfl) ?_
                refine q_get (v := .ref (a 35)) C inX10_party_X10 hK hP 0 rfl rfl 6 (by decide) rfl LX10_party_54 rfl dX10_party_106 ?_
                refine lv_aload_n hx hb dX10_party_109 rfl (lv_at hl 0 rfl) ?_
                refine q_get (v := .ref (b 0)) C inX10_party_X10 hK hP 0 rfl rfl 3 (by decide) rfl LX10_party_35 rfl dX10_party_110 ?_
                refine lv_iload_n hx hb dX10_party_113 rfl (lv_at hl 1 rfl) ?_
                obtain ⟨q_, s20, hc, hB⟩ := bindI_inv hB
                refine q_goi (wr := ((wG cZ cS a b b2 c0 rg sl s3.g) ++ (wD cI b2 s3.t))) (va_runVN (As := [.ref (b 0), .int x1]) (rest := []) C (ckX0_isDaring hc _) ⟨va_cnB 2 hts gX10_party_X0_isDaring_n156 rfl rfl rfl (hN _ nwM_X10_156 rfl) (hts _ LX10_party_I_X0) (by decide +kernel) ⟨Nat.le_of_ble_eq_true rfl, Nat.le_of_ble_eq_true rfl⟩, hts _ LX10_party_N_X0_isDaring, hts _ LX10_party_E_X0_isDaring⟩ (q_preV hK hP (ci := 0) (q0 := 52) rfl rfl rfl (q_pre hN hK hP hD [11, 12, 13, 14, 15, 16, 17, 18, 19, 20, 21, 22, 23, 24, 25, 26, 27, 28, 29, 30, 31, 32, 33, 34, 35, 36, 37, 38, 39, 40, 41, 42, 43, 44, 45, 46, 47, 48, 49, 50, 51, 52, 53, 54, 55, 56, 57, 58, 59, 60, 61, 62, 63] rfl (by decide))) rfl rfl hl.1 rfl (lv_room (Nat.le_of_ble_eq_true rfl)) dX10_party_114 ⟨Nat.le_of_ble_eq_true rfl, Nat.le_of_ble_eq_true rfl⟩) hP hD hS hA [11, 12, 13, 14, 15, 16, 17, 18, 19, 20, 21, 22, 23, 24, 25, 26, 27, 28, 29, 30, 31, 32, 33, 34, 35, 36, 37, 38, 39, 40, 41, 42, 43, 44, 45, 46, 47, 48, 49, 50, 51, 52, 53, 54, 55, 56, 57, 58, 59, 60, 61, 62, 63] [0, 1, 2, 3, 4, 5, 6, 7, 8, 9, 10] rfl rfl (by decide) (by decide) (fun r21 w1 H locs hw hP hD hS => ?_)
                obtain ⟨hq_, hw⟩ := hw; subst hw; subst hq_
                obtain ⟨s22, hs23, hB⟩ := letS_inv hB
                have hP : va_P (dC, dI) vwCl (wX cB cI cJ cZ cS a b b2 c0 rg sl s22) H := by subst hs23; exact hP
                have hD : va_D A (wX cB cI cJ cZ cS a b b2 c0 rg sl s22) := by subst hs23; exact hD
                refine lv_if_eq (tgt := 124) hx hb dX10_party_117 (by decide) (fun c24 => ?_) (fun c24 => ?_)
                · have hB := if_p hB c24
                  refine lv_iconst (v := 0) hx hb dX10_party_124 (by decide) ?_
                  exact q_iret C hr hlocks hK hP hD hS (Nat.le_of_ble_eq_true rfl) (Nat.le_of_ble_eq_true rfl) dX10_party_125 (by cases hB; exact ⟨rfl, rfl⟩)
                · have hB := if_n hB c24
                  refine lv_iconst (v := 1) hx hb dX10_party_120 (by decide) ?_
                  refine lv_goto (tgt := 125) hx hb dX10_party_121 (by decide) ?_
                  exact q_iret C hr hlocks hK hP hD hS (Nat.le_of_ble_eq_true rfl) (Nat.le_of_ble_eq_true rfl) dX10_party_125 (by cases hB; exact ⟨rfl, rfl⟩)
              · have hB := if_n hB e19
                refine lv_tableOut (tgt := 126) hx hb dX10_party_14 (by have := ne_toInt (k := 0) rfl e6; have := ne_toInt (k := 1) rfl e8; have := ne_toInt (k := 2) rfl e10; have := ne_toInt (k := 3) rfl e12; have := ne_toInt (k := 4) rfl e14; have := ne_toInt (k := 5) rfl e19; omega) (by decide) ?_
                refine lv_iconst (v := (-1)) hx hb dX10_party_126 (by decide) ?_
                exact q_iret C hr hlocks hK hP hD hS (Nat.le_of_ble_eq_true rfl) (Nat.le_of_ble_eq_true rfl) dX10_party_127 (by cases hB; exact ⟨rfl, rfl⟩)
  · have hB := if_p hB c5
    refine lv_iconst (v := (-1)) hx hb dX10_party_11 (by decide) ?_
    exact q_iret C hr hlocks hK hP hD hS (Nat.le_of_ble_eq_true rfl) (Nat.le_of_ble_eq_true rfl) dX10_party_12 (by cases hB; exact ⟨rfl, rfl⟩)
theorem ckX10_party {l : Launch} {dC : Nat → ClassId} {dI : Nat → Nat → Nat} {cB cI cJ cZ cS : ClassId} {a b b2 c0 : Nat → Nat} {rg sl : Nat → Option Nat} {r : Int32} {s' : XS} {s : XS} {x1 : Int32} {x2 : Int32} (hB : kX10_party s x1 x2 = some (r, s')) : CI l yX10_party wsX10_party ({ frames := 4, cells := 0, slots := 0, locals := 98 }) (dC, dI) (tysA cB cI cJ cZ cS) (wX cB cI cJ cZ cS a b b2 c0 rg sl s) [.ref (c0 0), .int x1, .int x2] (fun x u => x = r ∧ u = (wX cB cI cJ cZ cS a b b2 c0 rg sl s')) :=
  CI_of (cc := cX10_party) (maxL := 3) (ret := (some .int)) (by decide) rfl (Nat.le_of_ble_eq_true rfl) (bkX10_party _ _ _ hB)
theorem LX10_needs_19 : Cond.fieldLink RX10 19 "GuessFerry" "sound" "LGuessFerry$Sound;" ∈ wsX10_needs := by decide +kernel
theorem LX10_needs_35 : Cond.fieldLink RX10 35 "GuessFerry" "now" "LGuessFerry$Standing;" ∈ wsX10_needs := by decide +kernel
theorem LX10_needs_54 : Cond.fieldLink RX10 54 "GuessFerry" "crossing" "LGuessFerry$Crossing;" ∈ wsX10_needs := by decide +kernel
theorem LX10_needs_E_X0_needOf : Cond.selects RX0 yX0_needOf yX0_needOf ∈ wsX10_needs := by decide +kernel
theorem LX10_needs_E_X5_hasParty : Cond.selects RX5 yX5_hasParty yX5_hasParty ∈ wsX10_needs := by decide +kernel
theorem LX10_needs_E_X5_hasWave : Cond.selects RX5 yX5_hasWave yX5_hasWave ∈ wsX10_needs := by decide +kernel
theorem LX10_needs_I_X0 : Cond.initialized RX0 ∈ wsX10_needs := by decide +kernel
theorem LX10_needs_I_X5 : Cond.initialized RX5 ∈ wsX10_needs := by decide +kernel
theorem LX10_needs_N_X0_needOf : Cond.instanceMethod yX0_needOf ∈ wsX10_needs := by decide +kernel
theorem LX10_needs_N_X5_hasParty : Cond.instanceMethod yX5_hasParty ∈ wsX10_needs := by decide +kernel
theorem LX10_needs_N_X5_hasWave : Cond.instanceMethod yX5_hasWave ∈ wsX10_needs := by decide +kernel
theorem inX10_needs_X10 : ∀ w ∈ u_ws RX10 TX10 9, w ∈ wsX10_needs := by decide +kernel
set_option maxHeartbeats 4000000 in
set_option maxRecDepth 100000 in
theorem bkX10_needs {l : Launch} {dC : Nat → ClassId} {dI : Nat → Nat → Nat} {cB cI cJ cZ cS : ClassId} {a b b2 c0 : Nat → Nat} {rg sl : Nat → Option Nat} {as : List Value} {r : Int32} {s' : XS} (s : XS) (x1 : Int32) (x2 : Int32) (x3 : Int32) (hB : kX10_needs s x1 x2 x3 = some (r, s')) : BlkI l yX10_needs wsX10_needs ({ frames := 4, cells := 0, slots := 0, locals := 100 }) cX10_needs 4 (some .int) (dC, dI) (tysA cB cI cJ cZ cS) as 0 (wX cB cI cJ cZ cS a b b2 c0 rg sl s) [(0, .ref (c0 0)), (1, .int x1), (2, .int x2), (3, .int x3)] [] (fun x u => x = r ∧ u = (wX cB cI cJ cZ cS a b b2 c0 rg sl s')) := by
  intro p e s0 m below meth c A E H locs ls hP hD hS hl
  obtain ⟨C, hr, hlocks, hA, hK, hN⟩ := id E
  obtain ⟨hx, hb, hml, hown, hts⟩ := id C
  unfold kX10_needs at hB
  refine lv_aload_n hx hb dX10_needs_0 rfl (lv_at hl 0 rfl) ?_
  refine q_get (v := .ref (a 2)) C inX10_needs_X10 hK hP 0 rfl rfl 1 (by decide) rfl LX10_needs_19 rfl dX10_needs_1 ?_
  refine lv_iload_n hx hb dX10_needs_4 rfl (lv_at hl 1 rfl) ?_
  obtain ⟨q_, s1, hc, hB⟩ := bindI_inv hB
  refine q_goi (wr := ((wG cZ cS a b b2 c0 rg sl s.g) ++ (wD cI b2 s.t) ++ (wD cI b s.n))) (va_runVN (As := [.int x1]) (rest := []) C (ckX5_hasParty hc _) ⟨va_cnB 1 hts gX10_needs_X5_hasParty_n138 rfl rfl rfl (hN _ nwM_X10_138 rfl) (hts _ LX10_needs_I_X5) (by decide +kernel) ⟨Nat.le_of_ble_eq_true rfl, Nat.le_of_ble_eq_true rfl⟩, hts _ LX10_needs_N_X5_hasParty, hts _ LX10_needs_E_X5_hasParty⟩ (q_preV hK hP (ci := 5) (q0 := 19) rfl rfl rfl (q_pre hN hK hP hD [17, 18, 19, 20, 21, 22, 23, 24, 25, 26, 27, 28, 29, 30, 31, 32, 33, 34, 35, 36, 37, 38, 39, 40, 41, 42, 43, 44, 45, 46, 47, 48, 49, 50, 51, 52, 53, 54, 55, 56, 57, 58, 59, 60, 61, 62, 63] rfl (by decide))) rfl rfl hl.1 rfl (lv_room (Nat.le_of_ble_eq_true rfl)) dX10_needs_5 ⟨Nat.le_of_ble_eq_true rfl, Nat.le_of_ble_eq_true rfl⟩) hP hD hS hA [17, 18, 19, 20, 21, 22, 23, 24, 25, 26, 27, 28, 29, 30, 31, 32, 33, 34, 35, 36, 37, 38, 39, 40, 41, 42, 43, 44, 45, 46, 47, 48, 49, 50, 51, 52, 53, 54, 55, 56, 57, 58, 59, 60, 61, 62, 63] [0, 1, 2, 3, 4, 5, 6, 7, 8, 9, 10, 11, 12, 13, 14, 15, 16] rfl rfl (by decide) (by decide) (fun r2 w1 H locs hw hP hD hS => ?_)
  obtain ⟨hq_, hw⟩ := hw; subst hw; subst hq_
  obtain ⟨s3, hs4, hB⟩ := letS_inv hB
  have hP : va_P (dC, dI) vwCl (wX cB cI cJ cZ cS a b b2 c0 rg sl s3) H := by subst hs4; exact hP
  have hD : va_D A (wX cB cI cJ cZ cS a b b2 c0 rg sl s3) := by subst hs4; exact hD
  refine lv_if_eq (tgt := 29) hx hb dX10_needs_8 (by decide) (fun c5 => ?_) (fun c5 => ?_)
  · have hB := if_p hB c5
    refine lv_iconst (v := (-1)) hx hb dX10_needs_29 (by decide) ?_
    exact q_iret C hr hlocks hK hP hD hS (Nat.le_of_ble_eq_true rfl) (Nat.le_of_ble_eq_true rfl) dX10_needs_30 (by cases hB; exact ⟨rfl, rfl⟩)
  · have hB := if_n hB c5
    refine lv_aload_n hx hb dX10_needs_11 rfl (lv_at hl 0 rfl) ?_
    refine q_get (v := .ref (a 2)) C inX10_needs_X10 hK hP 0 rfl rfl 1 (by decide) rfl LX10_needs_19 rfl dX10_needs_12 ?_
    refine lv_iload_n hx hb dX10_needs_15 rfl (lv_at hl 2 rfl) ?_
    obtain ⟨q_, s6, hc, hB⟩ := bindI_inv hB
    refine q_goi (wr := ((wG cZ cS a b b2 c0 rg sl s3.g) ++ (wD cI b2 s3.t) ++ (wD cI b s3.n))) (va_runVN (As := [.int x2]) (rest := []) C (ckX5_hasWave hc _) ⟨va_cnB 1 hts gX10_needs_X5_hasWave_n108 rfl rfl rfl (hN _ nwM_X10_108 rfl) (hts _ LX10_needs_I_X5) (by decide +kernel) ⟨Nat.le_of_ble_eq_true rfl, Nat.le_of_ble_eq_true rfl⟩, hts _ LX10_needs_N_X5_hasWave, hts _ LX10_needs_E_X5_hasWave⟩ (q_preV hK hP (ci := 5) (q0 := 19) rfl rfl rfl (q_pre hN hK hP hD [17, 18, 19, 20, 21, 22, 23, 24, 25, 26, 27, 28, 29, 30, 31, 32, 33, 34, 35, 36, 37, 38, 39, 40, 41, 42, 43, 44, 45, 46, 47, 48, 49, 50, 51, 52, 53, 54, 55, 56, 57, 58, 59, 60, 61, 62, 63] rfl (by decide))) rfl rfl hl.1 rfl (lv_room (Nat.le_of_ble_eq_true rfl)) dX10_needs_16 ⟨Nat.le_of_ble_eq_true rfl, Nat.le_of_ble_eq_true rfl⟩) hP hD hS hA [17, 18, 19, 20, 21, 22, 23, 24, 25, 26, 27, 28, 29, 30, 31, 32, 33, 34, 35, 36, 37, 38, 39, 40, 41, 42, 43, 44, 45, 46, 47, 48, 49, 50, 51, 52, 53, 54, 55, 56, 57, 58, 59, 60, 61, 62, 63] [0, 1, 2, 3, 4, 5, 6, 7, 8, 9, 10, 11, 12, 13, 14, 15, 16] rfl rfl (by decide) (by decide) (fun r7 w1 H locs hw hP hD hS => ?_)
    obtain ⟨hq_, hw⟩ := hw; subst hw; subst hq_
    obtain ⟨s8, hs9, hB⟩ := letS_inv hB
    have hP : va_P (dC, dI) vwCl (wX cB cI cJ cZ cS a b b2 c0 rg sl s8) H := by subst hs9; exact hP
    have hD : va_D A (wX cB cI cJ cZ cS a b b2 c0 rg sl s8) := by subst hs9; exact hD
    refine lv_if_eq (tgt := 29) hx hb dX10_needs_19 (by decide) (fun c10 => ?_) (fun c10 => ?_)
    · have hB := if_p hB c10
      refine lv_iconst (v := (-1)) hx hb dX10_needs_29 (by decide) ?_
      exact q_iret C hr hlocks hK hP hD hS (Nat.le_of_ble_eq_true rfl) (Nat.le_of_ble_eq_true rfl) dX10_needs_30 (by cases hB; exact ⟨rfl, rfl⟩)
    · have hB := if_n hB c10
      refine lv_iload_n hx hb dX10_needs_22 rfl (lv_at hl 3 rfl) ?_
      obtain ⟨q_, hc, hB⟩ := bindP_inv hB
      refine q_goi0 (va_runS (As := [.int x3]) (rest := []) C (ckX10_isThing hc _) (va_cwS 1 hts gX10_needs_X10_isThing rfl rfl rfl (by decide +kernel) ⟨Nat.le_of_ble_eq_true rfl, Nat.le_of_ble_eq_true rfl⟩) (q_pre0 hN hK) rfl rfl hl.1 rfl (lv_room (Nat.le_of_ble_eq_true rfl)) dX10_needs_23 ⟨Nat.le_of_ble_eq_true rfl, Nat.le_of_ble_eq_true rfl⟩) hP hD hS hA (fun r11 w1 H locs hw hP hS => ?_)
      subst hw
      refine lv_if_ne (tgt := 31) hx hb dX10_needs_26 (by decide) (fun c12 => ?_) (fun c12 => ?_)
      · have hB := if_n hB c12
        refine lv_aload_n hx hb dX10_needs_31 rfl (lv_at hl 0 rfl) ?_
        refine q_get (v := .ref (a 35)) C inX10_needs_X10 hK hP 0 rfl rfl 6 (by decide) rfl LX10_needs_54 rfl dX10_needs_32 ?_
        refine lv_aload_n hx hb dX10_needs_35 rfl (lv_at hl 0 rfl) ?_
        refine q_get (v := .ref (b 0)) C inX10_needs_X10 hK hP 0 rfl rfl 3 (by decide) rfl LX10_needs_35 rfl dX10_needs_36 ?_
        refine lv_iload_n hx hb dX10_needs_39 rfl (lv_at hl 1 rfl) ?_
        refine lv_iload_n hx hb dX10_needs_40 rfl (lv_at hl 2 rfl) ?_
        refine lv_iload_n hx hb dX10_needs_41 rfl (lv_at hl 3 rfl) ?_
        obtain ⟨q_, s13, hc, hB⟩ := bindI_inv hB
        refine q_goi (wr := ((wG cZ cS a b b2 c0 rg sl s8.g) ++ (wD cI b2 s8.t))) (va_runVN (As := [.ref (b 0), .int x1, .int x2, .int x3]) (rest := []) C (ckX0_needOf hc _) ⟨va_cnB 4 hts gX10_needs_X0_needOf_n160 rfl rfl rfl (hN _ nwM_X10_160 rfl) (hts _ LX10_needs_I_X0) (by decide +kernel) ⟨Nat.le_of_ble_eq_true rfl, Nat.le_of_ble_eq_true rfl⟩, hts _ LX10_needs_N_X0_needOf, hts _ LX10_needs_E_X0_needOf⟩ (q_preV hK hP (ci := 0) (q0 := 52) rfl rfl rfl (q_pre hN hK hP hD [11, 12, 13, 14, 15, 16, 17, 18, 19, 20, 21, 22, 23, 24, 25, 26, 27, 28, 29, 30, 31, 32, 33, 34, 35, 36, 37, 38, 39, 40, 41, 42, 43, 44, 45, 46, 47, 48, 49, 50, 51, 52, 53, 54, 55, 56, 57, 58, 59, 60, 61, 62, 63] rfl (by decide))) rfl rfl hl.1 rfl (lv_room (Nat.le_of_ble_eq_true rfl)) dX10_needs_42 ⟨Nat.le_of_ble_eq_true rfl, Nat.le_of_ble_eq_true rfl⟩) hP hD hS hA [11, 12, 13, 14, 15, 16, 17, 18, 19, 20, 21, 22, 23, 24, 25, 26, 27, 28, 29, 30, 31, 32, 33, 34, 35, 36, 37, 38, 39, 40, 41, 42, 43, 44, 45, 46, 47, 48, 49, 50, 51, 52, 53, 54, 55, 56, 57, 58, 59, 60, 61, 62, 63] [0, 1, 2, 3, 4, 5, 6, 7, 8, 9, 10] rfl rfl (by decide) (by decide) (fun r14 w1 H locs hw hP hD hS => ?_)
        obtain ⟨hq_, hw⟩ := hw; subst hw; subst hq_
        obtain ⟨s15, hs16, hB⟩ := letS_inv hB
        have hP : va_P (dC, dI) vwCl (wX cB cI cJ cZ cS a b b2 c0 rg sl s15) H := by subst hs16; exact hP
        have hD : va_D A (wX cB cI cJ cZ cS a b b2 c0 rg sl s15) := by subst hs16; exact hD
        exact q_iret C hr hlocks hK hP hD hS (Nat.le_of_ble_eq_true rfl) (Nat.le_of_ble_eq_true rfl) dX10_needs_45 (by cases hB; exact ⟨rfl, rfl⟩)
      · have hB := if_p hB c12
        refine lv_iconst (v := (-1)) hx hb dX10_needs_29 (by decide) ?_
        exact q_iret C hr hlocks hK hP hD hS (Nat.le_of_ble_eq_true rfl) (Nat.le_of_ble_eq_true rfl) dX10_needs_30 (by cases hB; exact ⟨rfl, rfl⟩)
theorem ckX10_needs {l : Launch} {dC : Nat → ClassId} {dI : Nat → Nat → Nat} {cB cI cJ cZ cS : ClassId} {a b b2 c0 : Nat → Nat} {rg sl : Nat → Option Nat} {r : Int32} {s' : XS} {s : XS} {x1 : Int32} {x2 : Int32} {x3 : Int32} (hB : kX10_needs s x1 x2 x3 = some (r, s')) : CI l yX10_needs wsX10_needs ({ frames := 4, cells := 0, slots := 0, locals := 100 }) (dC, dI) (tysA cB cI cJ cZ cS) (wX cB cI cJ cZ cS a b b2 c0 rg sl s) [.ref (c0 0), .int x1, .int x2, .int x3] (fun x u => x = r ∧ u = (wX cB cI cJ cZ cS a b b2 c0 rg sl s')) :=
  CI_of (cc := cX10_needs) (maxL := 4) (ret := (some .int)) (by decide) rfl (Nat.le_of_ble_eq_true rfl) (bkX10_needs _ _ _ _ hB)
theorem LX10_bears_19 : Cond.fieldLink RX10 19 "GuessFerry" "sound" "LGuessFerry$Sound;" ∈ wsX10_bears := by decide +kernel
theorem LX10_bears_35 : Cond.fieldLink RX10 35 "GuessFerry" "now" "LGuessFerry$Standing;" ∈ wsX10_bears := by decide +kernel
theorem LX10_bears_63 : Cond.fieldLink RX10 63 "GuessFerry" "outlook" "LGuessFerry$Outlook;" ∈ wsX10_bears := by decide +kernel
theorem LX10_bears_E_X2_borneOver : Cond.selects RX2 yX2_borneOver yX2_borneOver ∈ wsX10_bears := by decide +kernel
theorem LX10_bears_E_X5_hasGuess : Cond.selects RX5 yX5_hasGuess yX5_hasGuess ∈ wsX10_bears := by decide +kernel
theorem LX10_bears_E_X5_hasParty : Cond.selects RX5 yX5_hasParty yX5_hasParty ∈ wsX10_bears := by decide +kernel
theorem LX10_bears_I_X2 : Cond.initialized RX2 ∈ wsX10_bears := by decide +kernel
theorem LX10_bears_I_X5 : Cond.initialized RX5 ∈ wsX10_bears := by decide +kernel
theorem LX10_bears_N_X2_borneOver : Cond.instanceMethod yX2_borneOver ∈ wsX10_bears := by decide +kernel
theorem LX10_bears_N_X5_hasGuess : Cond.instanceMethod yX5_hasGuess ∈ wsX10_bears := by decide +kernel
theorem LX10_bears_N_X5_hasParty : Cond.instanceMethod yX5_hasParty ∈ wsX10_bears := by decide +kernel
theorem inX10_bears_X10 : ∀ w ∈ u_ws RX10 TX10 9, w ∈ wsX10_bears := by decide +kernel
set_option maxHeartbeats 4000000 in
set_option maxRecDepth 100000 in
theorem bkX10_bears {l : Launch} {dC : Nat → ClassId} {dI : Nat → Nat → Nat} {cB cI cJ cZ cS : ClassId} {a b b2 c0 : Nat → Nat} {rg sl : Nat → Option Nat} {as : List Value} {r : Int32} {s' : XS} (s : XS) (x1 : Int32) (x2 : Int32) (hB : kX10_bears s x1 x2 = some (r, s')) : BlkI l yX10_bears wsX10_bears ({ frames := 6, cells := 0, slots := 0, locals := 148 }) cX10_bears 3 (some .int) (dC, dI) (tysA cB cI cJ cZ cS) as 0 (wX cB cI cJ cZ cS a b b2 c0 rg sl s) [(0, .ref (c0 0)), (1, .int x1), (2, .int x2)] [] (fun x u => x = r ∧ u = (wX cB cI cJ cZ cS a b b2 c0 rg sl s')) := by
  intro p e s0 m below meth c A E H locs ls hP hD hS hl
  obtain ⟨C, hr, hlocks, hA, hK, hN⟩ := id E
  obtain ⟨hx, hb, hml, hown, hts⟩ := id C
  unfold kX10_bears at hB
  refine lv_aload_n hx hb dX10_bears_0 rfl (lv_at hl 0 rfl) ?_
  refine q_get (v := .ref (a 2)) C inX10_bears_X10 hK hP 0 rfl rfl 1 (by decide) rfl LX10_bears_19 rfl dX10_bears_1 ?_
  refine lv_iload_n hx hb dX10_bears_4 rfl (lv_at hl 1 rfl) ?_
  obtain ⟨q_, s1, hc, hB⟩ := bindI_inv hB
  refine q_goi (wr := ((wG cZ cS a b b2 c0 rg sl s.g) ++ (wD cI b2 s.t) ++ (wD cI b s.n))) (va_runVN (As := [.int x1]) (rest := []) C (ckX5_hasParty hc _) ⟨va_cnB 1 hts gX10_bears_X5_hasParty_n138 rfl rfl rfl (hN _ nwM_X10_138 rfl) (hts _ LX10_bears_I_X5) (by decide +kernel) ⟨Nat.le_of_ble_eq_true rfl, Nat.le_of_ble_eq_true rfl⟩, hts _ LX10_bears_N_X5_hasParty, hts _ LX10_bears_E_X5_hasParty⟩ (q_preV hK hP (ci := 5) (q0 := 19) rfl rfl rfl (q_pre hN hK hP hD [17, 18, 19, 20, 21, 22, 23, 24, 25, 26, 27, 28, 29, 30, 31, 32, 33, 34, 35, 36, 37, 38, 39, 40, 41, 42, 43, 44, 45, 46, 47, 48, 49, 50, 51, 52, 53, 54, 55, 56, 57, 58, 59, 60, 61, 62, 63] rfl (by decide))) rfl rfl hl.1 rfl (lv_room (Nat.le_of_ble_eq_true rfl)) dX10_bears_5 ⟨Nat.le_of_ble_eq_true rfl, Nat.le_of_ble_eq_true rfl⟩) hP hD hS hA [17, 18, 19, 20, 21, 22, 23, 24, 25, 26, 27, 28, 29, 30, 31, 32, 33, 34, 35, 36, 37, 38, 39, 40, 41, 42, 43, 44, 45, 46, 47, 48, 49, 50, 51, 52, 53, 54, 55, 56, 57, 58, 59, 60, 61, 62, 63] [0, 1, 2, 3, 4, 5, 6, 7, 8, 9, 10, 11, 12, 13, 14, 15, 16] rfl rfl (by decide) (by decide) (fun r2 w1 H locs hw hP hD hS => ?_)
  obtain ⟨hq_, hw⟩ := hw; subst hw; subst hq_
  obtain ⟨s3, hs4, hB⟩ := letS_inv hB
  have hP : va_P (dC, dI) vwCl (wX cB cI cJ cZ cS a b b2 c0 rg sl s3) H := by subst hs4; exact hP
  have hD : va_D A (wX cB cI cJ cZ cS a b b2 c0 rg sl s3) := by subst hs4; exact hD
  refine lv_if_eq (tgt := 22) hx hb dX10_bears_8 (by decide) (fun c5 => ?_) (fun c5 => ?_)
  · have hB := if_p hB c5
    refine lv_iconst (v := (-1)) hx hb dX10_bears_22 (by decide) ?_
    exact q_iret C hr hlocks hK hP hD hS (Nat.le_of_ble_eq_true rfl) (Nat.le_of_ble_eq_true rfl) dX10_bears_23 (by cases hB; exact ⟨rfl, rfl⟩)
  · have hB := if_n hB c5
    refine lv_aload_n hx hb dX10_bears_11 rfl (lv_at hl 0 rfl) ?_
    refine q_get (v := .ref (a 2)) C inX10_bears_X10 hK hP 0 rfl rfl 1 (by decide) rfl LX10_bears_19 rfl dX10_bears_12 ?_
    refine lv_iload_n hx hb dX10_bears_15 rfl (lv_at hl 2 rfl) ?_
    obtain ⟨q_, s6, hc, hB⟩ := bindI_inv hB
    refine q_goi (wr := ((wG cZ cS a b b2 c0 rg sl s3.g) ++ (wD cI b2 s3.t) ++ (wD cI b s3.n))) (va_runVN (As := [.int x2]) (rest := []) C (ckX5_hasGuess hc _) ⟨va_cnB 1 hts gX10_bears_X5_hasGuess_n170 rfl rfl rfl (hN _ nwM_X10_170 rfl) (hts _ LX10_bears_I_X5) (by decide +kernel) ⟨Nat.le_of_ble_eq_true rfl, Nat.le_of_ble_eq_true rfl⟩, hts _ LX10_bears_N_X5_hasGuess, hts _ LX10_bears_E_X5_hasGuess⟩ (q_preV hK hP (ci := 5) (q0 := 19) rfl rfl rfl (q_pre hN hK hP hD [17, 18, 19, 20, 21, 22, 23, 24, 25, 26, 27, 28, 29, 30, 31, 32, 33, 34, 35, 36, 37, 38, 39, 40, 41, 42, 43, 44, 45, 46, 47, 48, 49, 50, 51, 52, 53, 54, 55, 56, 57, 58, 59, 60, 61, 62, 63] rfl (by decide))) rfl rfl hl.1 rfl (lv_room (Nat.le_of_ble_eq_true rfl)) dX10_bears_16 ⟨Nat.le_of_ble_eq_true rfl, Nat.le_of_ble_eq_true rfl⟩) hP hD hS hA [17, 18, 19, 20, 21, 22, 23, 24, 25, 26, 27, 28, 29, 30, 31, 32, 33, 34, 35, 36, 37, 38, 39, 40, 41, 42, 43, 44, 45, 46, 47, 48, 49, 50, 51, 52, 53, 54, 55, 56, 57, 58, 59, 60, 61, 62, 63] [0, 1, 2, 3, 4, 5, 6, 7, 8, 9, 10, 11, 12, 13, 14, 15, 16] rfl rfl (by decide) (by decide) (fun r7 w1 H locs hw hP hD hS => ?_)
    obtain ⟨hq_, hw⟩ := hw; subst hw; subst hq_
    obtain ⟨s8, hs9, hB⟩ := letS_inv hB
    have hP : va_P (dC, dI) vwCl (wX cB cI cJ cZ cS a b b2 c0 rg sl s8) H := by subst hs9; exact hP
    have hD : va_D A (wX cB cI cJ cZ cS a b b2 c0 rg sl s8) := by subst hs9; exact hD
    refine lv_if_ne (tgt := 24) hx hb dX10_bears_19 (by decide) (fun c10 => ?_) (fun c10 => ?_)
    · have hB := if_n hB c10
      refine lv_aload_n hx hb dX10_bears_24 rfl (lv_at hl 0 rfl) ?_
      refine q_get (v := .ref (a 36)) C inX10_bears_X10 hK hP 0 rfl rfl 7 (by decide) rfl LX10_bears_63 rfl dX10_bears_25 ?_
      refine lv_aload_n hx hb dX10_bears_28 rfl (lv_at hl 0 rfl) ?_
      refine q_get (v := .ref (b 0)) C inX10_bears_X10 hK hP 0 rfl rfl 3 (by decide) rfl LX10_bears_35 rfl dX10_bears_29 ?_
      refine lv_iload_n hx hb dX10_bears_32 rfl (lv_at hl 1 rfl) ?_
      refine lv_iload_n hx hb dX10_bears_33 rfl (lv_at hl 2 rfl) ?_
      obtain ⟨q_, s11, hc, hB⟩ := bindI_inv hB
      refine q_goi (wr := ((wG cZ cS a b b2 c0 rg sl s8.g) ++ (wD cI b2 s8.t))) (va_runVN (As := [.ref (b 0), .int x1, .int x2]) (rest := []) C (ckX2_borneOver hc _) ⟨va_cnB 3 hts gX10_bears_X2_borneOver_n209 rfl rfl rfl (hN _ nwM_X10_209 rfl) (hts _ LX10_bears_I_X2) (by decide +kernel) ⟨Nat.le_of_ble_eq_true rfl, Nat.le_of_ble_eq_true rfl⟩, hts _ LX10_bears_N_X2_borneOver, hts _ LX10_bears_E_X2_borneOver⟩ (q_preV hK hP (ci := 2) (q0 := 53) rfl rfl rfl (q_pre hN hK hP hD [11, 12, 13, 14, 15, 16, 17, 18, 19, 20, 21, 22, 23, 24, 25, 26, 27, 28, 29, 30, 31, 32, 33, 34, 35, 36, 37, 38, 39, 40, 41, 42, 43, 44, 45, 46, 47, 48, 49, 50, 51, 52, 53, 54, 55, 56, 57, 58, 59, 60, 61, 62, 63] rfl (by decide))) rfl rfl hl.1 rfl (lv_room (Nat.le_of_ble_eq_true rfl)) dX10_bears_34 ⟨Nat.le_of_ble_eq_true rfl, Nat.le_of_ble_eq_true rfl⟩) hP hD hS hA [11, 12, 13, 14, 15, 16, 17, 18, 19, 20, 21, 22, 23, 24, 25, 26, 27, 28, 29, 30, 31, 32, 33, 34, 35, 36, 37, 38, 39, 40, 41, 42, 43, 44, 45, 46, 47, 48, 49, 50, 51, 52, 53, 54, 55, 56, 57, 58, 59, 60, 61, 62, 63] [0, 1, 2, 3, 4, 5, 6, 7, 8, 9, 10] rfl rfl (by decide) (by decide) (fun r12 w1 H locs hw hP hD hS => ?_)
      obtain ⟨hq_, hw⟩ := hw; subst hw; subst hq_
      obtain ⟨s13, hs14, hB⟩ := letS_inv hB
      have hP : va_P (dC, dI) vwCl (wX cB cI cJ cZ cS a b b2 c0 rg sl s13) H := by subst hs14; exact hP
      have hD : va_D A (wX cB cI cJ cZ cS a b b2 c0 rg sl s13) := by subst hs14; exact hD
      exact q_iret C hr hlocks hK hP hD hS (Nat.le_of_ble_eq_true rfl) (Nat.le_of_ble_eq_true rfl) dX10_bears_37 (by cases hB; exact ⟨rfl, rfl⟩)
    · have hB := if_p hB c10
      refine lv_iconst (v := (-1)) hx hb dX10_bears_22 (by decide) ?_
      exact q_iret C hr hlocks hK hP hD hS (Nat.le_of_ble_eq_true rfl) (Nat.le_of_ble_eq_true rfl) dX10_bears_23 (by cases hB; exact ⟨rfl, rfl⟩)
theorem ckX10_bears {l : Launch} {dC : Nat → ClassId} {dI : Nat → Nat → Nat} {cB cI cJ cZ cS : ClassId} {a b b2 c0 : Nat → Nat} {rg sl : Nat → Option Nat} {r : Int32} {s' : XS} {s : XS} {x1 : Int32} {x2 : Int32} (hB : kX10_bears s x1 x2 = some (r, s')) : CI l yX10_bears wsX10_bears ({ frames := 6, cells := 0, slots := 0, locals := 148 }) (dC, dI) (tysA cB cI cJ cZ cS) (wX cB cI cJ cZ cS a b b2 c0 rg sl s) [.ref (c0 0), .int x1, .int x2] (fun x u => x = r ∧ u = (wX cB cI cJ cZ cS a b b2 c0 rg sl s')) :=
  CI_of (cc := cX10_bears) (maxL := 3) (ret := (some .int)) (by decide) rfl (Nat.le_of_ble_eq_true rfl) (bkX10_bears _ _ _ hB)
theorem LX10_sunk_19 : Cond.fieldLink RX10 19 "GuessFerry" "sound" "LGuessFerry$Sound;" ∈ wsX10_sunk := by decide +kernel
theorem LX10_sunk_35 : Cond.fieldLink RX10 35 "GuessFerry" "now" "LGuessFerry$Standing;" ∈ wsX10_sunk := by decide +kernel
theorem LX10_sunk_63 : Cond.fieldLink RX10 63 "GuessFerry" "outlook" "LGuessFerry$Outlook;" ∈ wsX10_sunk := by decide +kernel
theorem LX10_sunk_E_X2_borneOver : Cond.selects RX2 yX2_borneOver yX2_borneOver ∈ wsX10_sunk := by decide +kernel
theorem LX10_sunk_E_X5_hasGuess : Cond.selects RX5 yX5_hasGuess yX5_hasGuess ∈ wsX10_sunk := by decide +kernel
theorem LX10_sunk_I_X2 : Cond.initialized RX2 ∈ wsX10_sunk := by decide +kernel
theorem LX10_sunk_I_X5 : Cond.initialized RX5 ∈ wsX10_sunk := by decide +kernel
theorem LX10_sunk_N_X2_borneOver : Cond.instanceMethod yX2_borneOver ∈ wsX10_sunk := by decide +kernel
theorem LX10_sunk_N_X5_hasGuess : Cond.instanceMethod yX5_hasGuess ∈ wsX10_sunk := by decide +kernel
theorem inX10_sunk_X10 : ∀ w ∈ u_ws RX10 TX10 9, w ∈ wsX10_sunk := by decide +kernel
theorem inX10_sunk_X5 : ∀ w ∈ u_ws RX5 TX5 10, w ∈ wsX10_sunk := by decide +kernel
theorem inX10_sunk_X6 : ∀ w ∈ u_ws RX6 TX6 7, w ∈ wsX10_sunk := by decide +kernel
set_option maxHeartbeats 4000000 in
set_option maxRecDepth 100000 in
theorem bkX10_sunk_69 {l : Launch} {dC : Nat → ClassId} {dI : Nat → Nat → Nat} {cB cI cJ cZ cS : ClassId} {a b b2 c0 : Nat → Nat} {rg sl : Nat → Option Nat} {as : List Value} {r : Int32} {s' : XS} {k17 : XS → Int32 → Int32 → Int32 → Option (Int32 × XS)} (hk17 : ∀ (s : XS) (x1 : Int32) (x2 : Int32) (x3 : Int32), k17 s x1 x2 x3 = some (r, s') → BlkI l yX10_sunk wsX10_sunk ({ frames := 6, cells := 0, slots := 0, locals := 148 }) cX10_sunk 4 (some .int) (dC, dI) (tysA cB cI cJ cZ cS) as 17 (wX cB cI cJ cZ cS a b b2 c0 rg sl s) [(0, .ref (c0 0)), (1, .int x1), (2, .int x2), (3, .int x3)] [] (fun x u => x = r ∧ u = (wX cB cI cJ cZ cS a b b2 c0 rg sl s'))) (s : XS) (x1 : Int32) (x2 : Int32) (x3 : Int32) (hB : kX10_sunk_69 k17 s x1 x2 x3 = some (r, s')) : BlkI l yX10_sunk wsX10_sunk ({ frames := 6, cells := 0, slots := 0, locals := 148 }) cX10_sunk 4 (some .int) (dC, dI) (tysA cB cI cJ cZ cS) as 69 (wX cB cI cJ cZ cS a b b2 c0 rg sl s) [(0, .ref (c0 0)), (1, .int x1), (2, .int x2), (3, .int x3)] [] (fun x u => x = r ∧ u = (wX cB cI cJ cZ cS a b b2 c0 rg sl s')) := by
  intro p e s0 m below meth c A E H locs ls hP hD hS hl
  obtain ⟨C, hr, hlocks, hA, hK, hN⟩ := id E
  obtain ⟨hx, hb, hml, hown, hts⟩ := id C
  unfold kX10_sunk_69 at hB
  refine lv_iinc (v := (x3 + 1)) (lv' := [(3, .int (x3 + 1)), (0, .ref (c0 0)), (1, .int x1), (2, .int x2)]) hx hb dX10_sunk_69 hl (k := 3) rfl (rfl) (by decide) rfl (fun ls hl => ?_)
  refine lv_goto (tgt := 17) hx hb dX10_sunk_72 (by decide) ?_
  exact hk17 _ _ _ _ hB p e s0 m below meth c A E H locs ls hP hD hS (lv_sub hl [1, 2, 3, 0] rfl)
set_option maxHeartbeats 4000000 in
set_option maxRecDepth 100000 in
theorem bkX10_sunk_17 {l : Launch} {dC : Nat → ClassId} {dI : Nat → Nat → Nat} {cB cI cJ cZ cS : ClassId} {a b b2 c0 : Nat → Nat} {rg sl : Nat → Option Nat} {as : List Value} {r : Int32} {s' : XS} {k17 : XS → Int32 → Int32 → Int32 → Option (Int32 × XS)} (hk17 : ∀ (s : XS) (x1 : Int32) (x2 : Int32) (x3 : Int32), k17 s x1 x2 x3 = some (r, s') → BlkI l yX10_sunk wsX10_sunk ({ frames := 6, cells := 0, slots := 0, locals := 148 }) cX10_sunk 4 (some .int) (dC, dI) (tysA cB cI cJ cZ cS) as 17 (wX cB cI cJ cZ cS a b b2 c0 rg sl s) [(0, .ref (c0 0)), (1, .int x1), (2, .int x2), (3, .int x3)] [] (fun x u => x = r ∧ u = (wX cB cI cJ cZ cS a b b2 c0 rg sl s'))) (s : XS) (x1 : Int32) (x2 : Int32) (x3 : Int32) (hB : kX10_sunk_17 k17 s x1 x2 x3 = some (r, s')) : BlkI l yX10_sunk wsX10_sunk ({ frames := 6, cells := 0, slots := 0, locals := 148 }) cX10_sunk 4 (some .int) (dC, dI) (tysA cB cI cJ cZ cS) as 17 (wX cB cI cJ cZ cS a b b2 c0 rg sl s) [(0, .ref (c0 0)), (1, .int x1), (2, .int x2), (3, .int x3)] [] (fun x u => x = r ∧ u = (wX cB cI cJ cZ cS a b b2 c0 rg sl s')) := by
  intro p e s0 m below meth c A E H locs ls hP hD hS hl
  obtain ⟨C, hr, hlocks, hA, hK, hN⟩ := id E
  obtain ⟨hx, hb, hml, hown, hts⟩ := id C
  unfold kX10_sunk_17 at hB
  refine lv_iload_n hx hb dX10_sunk_17 rfl (lv_at hl 3 rfl) ?_
  refine lv_aload_n hx hb dX10_sunk_18 rfl (lv_at hl 0 rfl) ?_
  refine q_get (v := .ref (a 2)) C inX10_sunk_X10 hK hP 0 rfl rfl 1 (by decide) rfl LX10_sunk_19 rfl dX10_sunk_19 ?_
  refine q_getN (v := .int (s.k.v 2)) C hN inX10_sunk_X5 hK hP 19 rfl rfl 7 (by decide) rfl nwF_X10_235 rfl dX10_sunk_22 ?_
  refine lv_icmp_ge (tgt := 75) hx hb dX10_sunk_25 (by decide) (fun c1 => ?_) (fun c1 => ?_)
  · have hB := if_p hB c1
    refine lv_iload_n hx hb dX10_sunk_75 rfl (lv_at hl 2 rfl) ?_
    exact q_iret C hr hlocks hK hP hD hS (Nat.le_of_ble_eq_true rfl) (Nat.le_of_ble_eq_true rfl) dX10_sunk_76 (by cases hB; exact ⟨rfl, rfl⟩)
  · have hB := if_n hB c1
    refine lv_aload_n hx hb dX10_sunk_28 rfl (lv_at hl 0 rfl) ?_
    refine q_get (v := .ref (b 0)) C inX10_sunk_X10 hK hP 0 rfl rfl 3 (by decide) rfl LX10_sunk_35 rfl dX10_sunk_29 ?_
    refine q_getN (v := .ref (b 4)) C hN inX10_sunk_X6 hK hP 11 rfl rfl 3 (by decide) rfl nwF_X10_147 rfl dX10_sunk_32 ?_
    refine lv_iload_n hx hb dX10_sunk_35 rfl (lv_at hl 3 rfl) ?_
    obtain ⟨g2, hB⟩ := guard_inv hB
    refine q_iald (x := ((s.n.f 3) (Int32.toNatClampNeg x3))) C hK hP 15 1 rfl rfl (vpb_in g2) dX10_sunk_36 rfl ?_
    refine lv_if_ne (tgt := 69) hx hb dX10_sunk_37 (by decide) (fun c3 => ?_) (fun c3 => ?_)
    · have hB := if_n hB c3
      exact bkX10_sunk_69 (hk17) _ _ _ _ hB p e s0 m below meth c A E H locs ls hP hD hS (lv_sub hl [0, 1, 2, 3] rfl)
    · have hB := if_p hB c3
      refine lv_aload_n hx hb dX10_sunk_40 rfl (lv_at hl 0 rfl) ?_
      refine q_get (v := .ref (a 36)) C inX10_sunk_X10 hK hP 0 rfl rfl 7 (by decide) rfl LX10_sunk_63 rfl dX10_sunk_41 ?_
      refine lv_aload_n hx hb dX10_sunk_44 rfl (lv_at hl 0 rfl) ?_
      refine q_get (v := .ref (b 0)) C inX10_sunk_X10 hK hP 0 rfl rfl 3 (by decide) rfl LX10_sunk_35 rfl dX10_sunk_45 ?_
      refine lv_iload_n hx hb dX10_sunk_48 rfl (lv_at hl 3 rfl) ?_
      refine lv_iload_n hx hb dX10_sunk_49 rfl (lv_at hl 1 rfl) ?_
      obtain ⟨q_, s4, hc, hB⟩ := bindI_inv hB
      refine q_goi (wr := ((wG cZ cS a b b2 c0 rg sl s.g) ++ (wD cI b2 s.t))) (va_runVN (As := [.ref (b 0), .int x3, .int x1]) (rest := []) C (ckX2_borneOver hc _) ⟨va_cnB 3 hts gX10_sunk_X2_borneOver_n209 rfl rfl rfl (hN _ nwM_X10_209 rfl) (hts _ LX10_sunk_I_X2) (by decide +kernel) ⟨Nat.le_of_ble_eq_true rfl, Nat.le_of_ble_eq_true rfl⟩, hts _ LX10_sunk_N_X2_borneOver, hts _ LX10_sunk_E_X2_borneOver⟩ (q_preV hK hP (ci := 2) (q0 := 53) rfl rfl rfl (q_pre hN hK hP hD [11, 12, 13, 14, 15, 16, 17, 18, 19, 20, 21, 22, 23, 24, 25, 26, 27, 28, 29, 30, 31, 32, 33, 34, 35, 36, 37, 38, 39, 40, 41, 42, 43, 44, 45, 46, 47, 48, 49, 50, 51, 52, 53, 54, 55, 56, 57, 58, 59, 60, 61, 62, 63] rfl (by decide))) rfl rfl hl.1 rfl (lv_room (Nat.le_of_ble_eq_true rfl)) dX10_sunk_50 ⟨Nat.le_of_ble_eq_true rfl, Nat.le_of_ble_eq_true rfl⟩) hP hD hS hA [11, 12, 13, 14, 15, 16, 17, 18, 19, 20, 21, 22, 23, 24, 25, 26, 27, 28, 29, 30, 31, 32, 33, 34, 35, 36, 37, 38, 39, 40, 41, 42, 43, 44, 45, 46, 47, 48, 49, 50, 51, 52, 53, 54, 55, 56, 57, 58, 59, 60, 61, 62, 63] [0, 1, 2, 3, 4, 5, 6, 7, 8, 9, 10] rfl rfl (by decide) (by decide) (fun r5 w1 H locs hw hP hD hS => ?_)
      obtain ⟨hq_, hw⟩ := hw; subst hw; subst hq_
      obtain ⟨s6, hs7, hB⟩ := letS_inv hB
      have hP : va_P (dC, dI) vwCl (wX cB cI cJ cZ cS a b b2 c0 rg sl s6) H := by subst hs7; exact hP
      have hD : va_D A (wX cB cI cJ cZ cS a b b2 c0 rg sl s6) := by subst hs7; exact hD
      refine lv_aload_n hx hb dX10_sunk_53 rfl (lv_at hl 0 rfl) ?_
      refine q_get (v := .ref (a 2)) C inX10_sunk_X10 hK hP 0 rfl rfl 1 (by decide) rfl LX10_sunk_19 rfl dX10_sunk_54 ?_
      refine q_getN (v := .int (s6.k.v 1)) C hN inX10_sunk_X5 hK hP 19 rfl rfl 6 (by decide) rfl nwF_X10_167 rfl dX10_sunk_57 ?_
      refine lv_icmp_ge (tgt := 69) hx hb dX10_sunk_60 (by decide) (fun c8 => ?_) (fun c8 => ?_)
      · have hB := if_p hB c8
        exact bkX10_sunk_69 (hk17) _ _ _ _ hB p e s0 m below meth c A E H locs ls hP hD hS (lv_sub hl [0, 1, 2, 3] rfl)
      · have hB := if_n hB c8
        refine lv_iload_n hx hb dX10_sunk_63 rfl (lv_at hl 2 rfl) ?_
        refine lv_iconst (v := 1) hx hb dX10_sunk_64 (by decide) ?_
        refine lv_iload_n hx hb dX10_sunk_65 rfl (lv_at hl 3 rfl) ?_
        refine lv_ishl hx hb dX10_sunk_66 ?_
        refine lv_ior hx hb dX10_sunk_67 ?_
        refine lv_istore_n (lv' := [(2, .int (x2 ||| (1 <<< (x3 &&& 31)))), (0, .ref (c0 0)), (1, .int x1), (3, .int x3)]) hx hb dX10_sunk_68 rfl hl (by decide) rfl (fun ls hl => ?_)
        exact bkX10_sunk_69 (hk17) _ _ _ _ hB p e s0 m below meth c A E H locs ls hP hD hS (lv_sub hl [1, 2, 0, 3] rfl)
theorem bkX10_sunk_17L {l : Launch} {dC : Nat → ClassId} {dI : Nat → Nat → Nat} {cB cI cJ cZ cS : ClassId} {a b b2 c0 : Nat → Nat} {rg sl : Nat → Option Nat} {as : List Value} {r : Int32} {s' : XS} : ∀ (n : Nat) (s : XS) (x1 : Int32) (x2 : Int32) (x3 : Int32), kX10_sunk_17L n s x1 x2 x3 = some (r, s') → BlkI l yX10_sunk wsX10_sunk ({ frames := 6, cells := 0, slots := 0, locals := 148 }) cX10_sunk 4 (some .int) (dC, dI) (tysA cB cI cJ cZ cS) as 17 (wX cB cI cJ cZ cS a b b2 c0 rg sl s) [(0, .ref (c0 0)), (1, .int x1), (2, .int x2), (3, .int x3)] [] (fun x u => x = r ∧ u = (wX cB cI cJ cZ cS a b b2 c0 rg sl s')) := by
  intro n
  induction n with
  | zero => intro s x1 x2 x3 hB; exact none_ne hB
  | succ n ih => intro s x1 x2 x3 hB; exact bkX10_sunk_17 ih _ _ _ _ hB
set_option maxHeartbeats 4000000 in
set_option maxRecDepth 100000 in
theorem bkX10_sunk {l : Launch} {dC : Nat → ClassId} {dI : Nat → Nat → Nat} {cB cI cJ cZ cS : ClassId} {a b b2 c0 : Nat → Nat} {rg sl : Nat → Option Nat} {as : List Value} {r : Int32} {s' : XS} (s : XS) (x1 : Int32) (hB : kX10_sunk s x1 = some (r, s')) : BlkI l yX10_sunk wsX10_sunk ({ frames := 6, cells := 0, slots := 0, locals := 148 }) cX10_sunk 4 (some .int) (dC, dI) (tysA cB cI cJ cZ cS) as 0 (wX cB cI cJ cZ cS a b b2 c0 rg sl s) [(0, .ref (c0 0)), (1, .int x1)] [] (fun x u => x = r ∧ u = (wX cB cI cJ cZ cS a b b2 c0 rg sl s')) := by
  intro p e s0 m below meth c A E H locs ls hP hD hS hl
  obtain ⟨C, hr, hlocks, hA, hK, hN⟩ := id E
  obtain ⟨hx, hb, hml, hown, hts⟩ := id C
  unfold kX10_sunk at hB
  refine lv_aload_n hx hb dX10_sunk_0 rfl (lv_at hl 0 rfl) ?_
  refine q_get (v := .ref (a 2)) C inX10_sunk_X10 hK hP 0 rfl rfl 1 (by decide) rfl LX10_sunk_19 rfl dX10_sunk_1 ?_
  refine lv_iload_n hx hb dX10_sunk_4 rfl (lv_at hl 1 rfl) ?_
  obtain ⟨q_, s1, hc, hB⟩ := bindI_inv hB
  refine q_goi (wr := ((wG cZ cS a b b2 c0 rg sl s.g) ++ (wD cI b2 s.t) ++ (wD cI b s.n))) (va_runVN (As := [.int x1]) (rest := []) C (ckX5_hasGuess hc _) ⟨va_cnB 1 hts gX10_sunk_X5_hasGuess_n170 rfl rfl rfl (hN _ nwM_X10_170 rfl) (hts _ LX10_sunk_I_X5) (by decide +kernel) ⟨Nat.le_of_ble_eq_true rfl, Nat.le_of_ble_eq_true rfl⟩, hts _ LX10_sunk_N_X5_hasGuess, hts _ LX10_sunk_E_X5_hasGuess⟩ (q_preV hK hP (ci := 5) (q0 := 19) rfl rfl rfl (q_pre hN hK hP hD [17, 18, 19, 20, 21, 22, 23, 24, 25, 26, 27, 28, 29, 30, 31, 32, 33, 34, 35, 36, 37, 38, 39, 40, 41, 42, 43, 44, 45, 46, 47, 48, 49, 50, 51, 52, 53, 54, 55, 56, 57, 58, 59, 60, 61, 62, 63] rfl (by decide))) rfl rfl hl.1 rfl (lv_room (Nat.le_of_ble_eq_true rfl)) dX10_sunk_5 ⟨Nat.le_of_ble_eq_true rfl, Nat.le_of_ble_eq_true rfl⟩) hP hD hS hA [17, 18, 19, 20, 21, 22, 23, 24, 25, 26, 27, 28, 29, 30, 31, 32, 33, 34, 35, 36, 37, 38, 39, 40, 41, 42, 43, 44, 45, 46, 47, 48, 49, 50, 51, 52, 53, 54, 55, 56, 57, 58, 59, 60, 61, 62, 63] [0, 1, 2, 3, 4, 5, 6, 7, 8, 9, 10, 11, 12, 13, 14, 15, 16] rfl rfl (by decide) (by decide) (fun r2 w1 H locs hw hP hD hS => ?_)
  obtain ⟨hq_, hw⟩ := hw; subst hw; subst hq_
  obtain ⟨s3, hs4, hB⟩ := letS_inv hB
  have hP : va_P (dC, dI) vwCl (wX cB cI cJ cZ cS a b b2 c0 rg sl s3) H := by subst hs4; exact hP
  have hD : va_D A (wX cB cI cJ cZ cS a b b2 c0 rg sl s3) := by subst hs4; exact hD
  refine lv_if_ne (tgt := 13) hx hb dX10_sunk_8 (by decide) (fun c5 => ?_) (fun c5 => ?_)
  · have hB := if_n hB c5
    refine lv_iconst (v := 0) hx hb dX10_sunk_13 (by decide) ?_
    refine lv_istore_n (lv' := [(2, .int 0), (0, .ref (c0 0)), (1, .int x1)]) hx hb dX10_sunk_14 rfl hl (by decide) rfl (fun ls hl => ?_)
    refine lv_iconst (v := 0) hx hb dX10_sunk_15 (by decide) ?_
    refine lv_istore_n (lv' := [(3, .int 0), (2, .int 0), (0, .ref (c0 0)), (1, .int x1)]) hx hb dX10_sunk_16 rfl hl (by decide) rfl (fun ls hl => ?_)
    exact bkX10_sunk_17L fu _ _ _ _ hB p e s0 m below meth c A E H locs ls hP hD hS (lv_sub hl [2, 3, 1, 0] rfl)
  · have hB := if_p hB c5
    refine lv_iconst (v := (-1)) hx hb dX10_sunk_11 (by decide) ?_
    exact q_iret C hr hlocks hK hP hD hS (Nat.le_of_ble_eq_true rfl) (Nat.le_of_ble_eq_true rfl) dX10_sunk_12 (by cases hB; exact ⟨rfl, rfl⟩)
theorem ckX10_sunk {l : Launch} {dC : Nat → ClassId} {dI : Nat → Nat → Nat} {cB cI cJ cZ cS : ClassId} {a b b2 c0 : Nat → Nat} {rg sl : Nat → Option Nat} {r : Int32} {s' : XS} {s : XS} {x1 : Int32} (hB : kX10_sunk s x1 = some (r, s')) : CI l yX10_sunk wsX10_sunk ({ frames := 6, cells := 0, slots := 0, locals := 148 }) (dC, dI) (tysA cB cI cJ cZ cS) (wX cB cI cJ cZ cS a b b2 c0 rg sl s) [.ref (c0 0), .int x1] (fun x u => x = r ∧ u = (wX cB cI cJ cZ cS a b b2 c0 rg sl s')) :=
  CI_of (cc := cX10_sunk) (maxL := 4) (ret := (some .int)) (by decide) rfl (Nat.le_of_ble_eq_true rfl) (bkX10_sunk _ _ hB)
