section
theorem ggX2_borneOver_X10_thingIn : GoodIn wsX2_borneOver wsX10_thingIn := gi_sub (fun w h => List.mem_cons_of_mem _ (List.mem_append_left _ (List.mem_append_left _ (List.mem_append_left _ (List.mem_append_left _ (List.mem_append_left _ (List.mem_append_right _ (List.mem_append_left _ h)))))))) gd_wsX10_thingIn
set_option maxRecDepth 20000 in
theorem gX2_borneOver_X10_thingIn_n65 : GoodIn wsX2_borneOver (wsX10_thingIn) := ggX2_borneOver_X10_thingIn
theorem ggX2_borneOver_X0_isBearing : GoodIn wsX2_borneOver wsX0_isBearing := gi_sub (fun w h => List.mem_cons_of_mem _ (List.mem_append_left _ (List.mem_append_left _ (List.mem_append_left _ (List.mem_append_left _ (List.mem_append_left _ (List.mem_append_right _ (List.mem_append_right _ h)))))))) gd_wsX0_isBearing
set_option maxRecDepth 20000 in
theorem gX2_borneOver_X0_isBearing_n75 : GoodIn wsX2_borneOver (wsX0_isBearing) := ggX2_borneOver_X0_isBearing
theorem dX2_borneOver_0 : decode cX2_borneOver 0 = .ok (.iconst 0, 1) := dc1_3 (by decide +kernel)
theorem dX2_borneOver_1 : decode cX2_borneOver 1 = .ok (.istore 4, 2) := dcu_54 (by decide +kernel)
theorem dX2_borneOver_3 : decode cX2_borneOver 3 = .ok (.iload 4, 2) := dcu_21 (by decide +kernel)
theorem dX2_borneOver_5 : decode cX2_borneOver 5 = .ok (.aload_n 0, 1) := dc1_42 (by decide +kernel)
theorem dX2_borneOver_6 : decode cX2_borneOver 6 = .ok (.getfield 24, 3) := dcw_180 (by decide +kernel)
theorem dX2_borneOver_9 : decode cX2_borneOver 9 = .ok (.getfield 44, 3) := dcw_180 (by decide +kernel)
theorem dX2_borneOver_12 : decode cX2_borneOver 12 = .ok (.if_icmp .ge 29, 3) := dcs_162 (n := 29) (by decide +kernel)
theorem dX2_borneOver_15 : decode cX2_borneOver 15 = .ok (.aload_n 0, 1) := dc1_42 (by decide +kernel)
theorem dX2_borneOver_16 : decode cX2_borneOver 16 = .ok (.getfield 28, 3) := dcw_180 (by decide +kernel)
theorem dX2_borneOver_19 : decode cX2_borneOver 19 = .ok (.aload_n 1, 1) := dc1_43 (by decide +kernel)
theorem dX2_borneOver_20 : decode cX2_borneOver 20 = .ok (.iload_n 2, 1) := dc1_28 (by decide +kernel)
theorem dX2_borneOver_21 : decode cX2_borneOver 21 = .ok (.iload 4, 2) := dcu_21 (by decide +kernel)
theorem dX2_borneOver_23 : decode cX2_borneOver 23 = .ok (.iload_n 3, 1) := dc1_29 (by decide +kernel)
theorem dX2_borneOver_24 : decode cX2_borneOver 24 = .ok (.iload 4, 2) := dcu_21 (by decide +kernel)
theorem dX2_borneOver_26 : decode cX2_borneOver 26 = .ok (.invokestatic 65, 3) := dcw_184 (by decide +kernel)
theorem dX2_borneOver_29 : decode cX2_borneOver 29 = .ok (.invokevirtual 75, 3) := dcw_182 (by decide +kernel)
theorem dX2_borneOver_32 : decode cX2_borneOver 32 = .ok (.ifCond .eq 9, 3) := dcs_153 (n := 9) (by decide +kernel)
theorem dX2_borneOver_35 : decode cX2_borneOver 35 = .ok (.iinc 4 1, 3) := dc_iinc (m := 1) (by decide +kernel)
theorem dX2_borneOver_38 : decode cX2_borneOver 38 = .ok (.goto (-35), 3) := dcs_167 (n := 65501) (by decide +kernel)
theorem dX2_borneOver_41 : decode cX2_borneOver 41 = .ok (.iload 4, 2) := dcu_21 (by decide +kernel)
theorem dX2_borneOver_43 : decode cX2_borneOver 43 = .ok (.ireturn, 1) := dc1_172 (by decide +kernel)
theorem ggX10_wave_X5_hasWave : GoodIn wsX10_wave wsX5_hasWave := gi_sub (fun w h => List.mem_cons_of_mem _ (List.mem_append_left _ (List.mem_append_left _ (List.mem_append_left _ (List.mem_append_left _ (List.mem_append_left _ (List.mem_append_right _ (List.mem_append_left _ h)))))))) gd_wsX5_hasWave
set_option maxRecDepth 20000 in
theorem gX10_wave_X5_hasWave_n108 : GoodIn wsX10_wave (wsX5_hasWave) := ggX10_wave_X5_hasWave
theorem ggX10_wave_X0_mayBe : GoodIn wsX10_wave wsX0_mayBe := gi_sub (fun w h => List.mem_cons_of_mem _ (List.mem_append_left _ (List.mem_append_left _ (List.mem_append_left _ (List.mem_append_left _ (List.mem_append_left _ (List.mem_append_right _ (List.mem_append_right _ (List.mem_append_left _ h))))))))) gd_wsX0_mayBe
set_option maxRecDepth 20000 in
theorem gX10_wave_X0_mayBe_n111 : GoodIn wsX10_wave (wsX0_mayBe) := ggX10_wave_X0_mayBe
theorem ggX10_wave_X0_thereNow : GoodIn wsX10_wave wsX0_thereNow := gi_sub (fun w h => List.mem_cons_of_mem _ (List.mem_append_left _ (List.mem_append_left _ (List.mem_append_left _ (List.mem_append_left _ (List.mem_append_left _ (List.mem_append_right _ (List.mem_append_right _ (List.mem_append_right _ (List.mem_append_left _ h)))))))))) gd_wsX0_thereNow
set_option maxRecDepth 20000 in
theorem gX10_wave_X0_thereNow_n125 : GoodIn wsX10_wave (wsX0_thereNow) := ggX10_wave_X0_thereNow
theorem ggX10_wave_X0_shiftsOf : GoodIn wsX10_wave wsX0_shiftsOf := gi_sub (fun w h => List.mem_cons_of_mem _ (List.mem_append_left _ (List.mem_append_left _ (List.mem_append_left _ (List.mem_append_left _ (List.mem_append_left _ (List.mem_append_right _ (List.mem_append_right _ (List.mem_append_right _ (List.mem_append_right _ h)))))))))) gd_wsX0_shiftsOf
set_option maxRecDepth 20000 in
theorem gX10_wave_X0_shiftsOf_n128 : GoodIn wsX10_wave (wsX0_shiftsOf) := ggX10_wave_X0_shiftsOf
theorem dX10_wave_0 : decode cX10_wave 0 = .ok (.aload_n 0, 1) := dc1_42 (by decide +kernel)
theorem dX10_wave_1 : decode cX10_wave 1 = .ok (.getfield 19, 3) := dcw_180 (by decide +kernel)
theorem dX10_wave_4 : decode cX10_wave 4 = .ok (.iload_n 1, 1) := dc1_27 (by decide +kernel)
theorem dX10_wave_5 : decode cX10_wave 5 = .ok (.invokevirtual 108, 3) := dcw_182 (by decide +kernel)
theorem dX10_wave_8 : decode cX10_wave 8 = .ok (.ifCond .ne 5, 3) := dcs_154 (n := 5) (by decide +kernel)
theorem dX10_wave_11 : decode cX10_wave 11 = .ok (.iconst (-1), 1) := dc1_2 (by decide +kernel)
theorem dX10_wave_12 : decode cX10_wave 12 = .ok (.ireturn, 1) := dc1_172 (by decide +kernel)
theorem dX10_wave_13 : decode cX10_wave 13 = .ok (.iload_n 2, 1) := dc1_28 (by decide +kernel)
theorem dX10_wave_14 : decode cX10_wave 14 = .ok (.tableswitch 125 0 5 #[38, 51, 79, 89, 99, 112], 38) := by decide +kernel
theorem dX10_wave_52 : decode cX10_wave 52 = .ok (.aload_n 0, 1) := dc1_42 (by decide +kernel)
theorem dX10_wave_53 : decode cX10_wave 53 = .ok (.getfield 54, 3) := dcw_180 (by decide +kernel)
theorem dX10_wave_56 : decode cX10_wave 56 = .ok (.aload_n 0, 1) := dc1_42 (by decide +kernel)
theorem dX10_wave_57 : decode cX10_wave 57 = .ok (.getfield 35, 3) := dcw_180 (by decide +kernel)
theorem dX10_wave_60 : decode cX10_wave 60 = .ok (.iload_n 1, 1) := dc1_27 (by decide +kernel)
theorem dX10_wave_61 : decode cX10_wave 61 = .ok (.invokevirtual 111, 3) := dcw_182 (by decide +kernel)
theorem dX10_wave_64 : decode cX10_wave 64 = .ok (.ireturn, 1) := dc1_172 (by decide +kernel)
theorem dX10_wave_65 : decode cX10_wave 65 = .ok (.aload_n 0, 1) := dc1_42 (by decide +kernel)
theorem dX10_wave_66 : decode cX10_wave 66 = .ok (.getfield 35, 3) := dcw_180 (by decide +kernel)
theorem dX10_wave_69 : decode cX10_wave 69 = .ok (.getfield 115, 3) := dcw_180 (by decide +kernel)
theorem dX10_wave_72 : decode cX10_wave 72 = .ok (.iload_n 1, 1) := dc1_27 (by decide +kernel)
theorem dX10_wave_73 : decode cX10_wave 73 = .ok (.iaload, 1) := dc1_46 (by decide +kernel)
theorem dX10_wave_74 : decode cX10_wave 74 = .ok (.iconst (-1), 1) := dc1_2 (by decide +kernel)
theorem dX10_wave_75 : decode cX10_wave 75 = .ok (.if_icmp .ne 8, 3) := dcs_160 (n := 8) (by decide +kernel)
theorem dX10_wave_78 : decode cX10_wave 78 = .ok (.bipush (-2), 2) := dcb_16 (n := 254) (by decide +kernel)
theorem dX10_wave_80 : decode cX10_wave 80 = .ok (.goto 12, 3) := dcs_167 (n := 12) (by decide +kernel)
theorem dX10_wave_83 : decode cX10_wave 83 = .ok (.aload_n 0, 1) := dc1_42 (by decide +kernel)
theorem dX10_wave_84 : decode cX10_wave 84 = .ok (.getfield 35, 3) := dcw_180 (by decide +kernel)
theorem dX10_wave_87 : decode cX10_wave 87 = .ok (.getfield 115, 3) := dcw_180 (by decide +kernel)
theorem dX10_wave_90 : decode cX10_wave 90 = .ok (.iload_n 1, 1) := dc1_27 (by decide +kernel)
theorem dX10_wave_91 : decode cX10_wave 91 = .ok (.iaload, 1) := dc1_46 (by decide +kernel)
theorem dX10_wave_92 : decode cX10_wave 92 = .ok (.ireturn, 1) := dc1_172 (by decide +kernel)
theorem dX10_wave_93 : decode cX10_wave 93 = .ok (.aload_n 0, 1) := dc1_42 (by decide +kernel)
theorem dX10_wave_94 : decode cX10_wave 94 = .ok (.getfield 35, 3) := dcw_180 (by decide +kernel)
theorem dX10_wave_97 : decode cX10_wave 97 = .ok (.getfield 119, 3) := dcw_180 (by decide +kernel)
theorem dX10_wave_100 : decode cX10_wave 100 = .ok (.iload_n 1, 1) := dc1_27 (by decide +kernel)
theorem dX10_wave_101 : decode cX10_wave 101 = .ok (.iaload, 1) := dc1_46 (by decide +kernel)
theorem dX10_wave_102 : decode cX10_wave 102 = .ok (.ireturn, 1) := dc1_172 (by decide +kernel)
theorem dX10_wave_103 : decode cX10_wave 103 = .ok (.aload_n 0, 1) := dc1_42 (by decide +kernel)
theorem dX10_wave_104 : decode cX10_wave 104 = .ok (.getfield 35, 3) := dcw_180 (by decide +kernel)
theorem dX10_wave_107 : decode cX10_wave 107 = .ok (.getfield 122, 3) := dcw_180 (by decide +kernel)
theorem dX10_wave_110 : decode cX10_wave 110 = .ok (.iload_n 1, 1) := dc1_27 (by decide +kernel)
theorem dX10_wave_111 : decode cX10_wave 111 = .ok (.iaload, 1) := dc1_46 (by decide +kernel)
theorem dX10_wave_112 : decode cX10_wave 112 = .ok (.ireturn, 1) := dc1_172 (by decide +kernel)
theorem dX10_wave_113 : decode cX10_wave 113 = .ok (.aload_n 0, 1) := dc1_42 (by decide +kernel)
theorem dX10_wave_114 : decode cX10_wave 114 = .ok (.getfield 54, 3) := dcw_180 (by decide +kernel)
theorem dX10_wave_117 : decode cX10_wave 117 = .ok (.aload_n 0, 1) := dc1_42 (by decide +kernel)
theorem dX10_wave_118 : decode cX10_wave 118 = .ok (.getfield 35, 3) := dcw_180 (by decide +kernel)
theorem dX10_wave_121 : decode cX10_wave 121 = .ok (.iload_n 1, 1) := dc1_27 (by decide +kernel)
theorem dX10_wave_122 : decode cX10_wave 122 = .ok (.invokevirtual 125, 3) := dcw_182 (by decide +kernel)
theorem dX10_wave_125 : decode cX10_wave 125 = .ok (.ireturn, 1) := dc1_172 (by decide +kernel)
theorem dX10_wave_126 : decode cX10_wave 126 = .ok (.aload_n 0, 1) := dc1_42 (by decide +kernel)
theorem dX10_wave_127 : decode cX10_wave 127 = .ok (.getfield 54, 3) := dcw_180 (by decide +kernel)
theorem dX10_wave_130 : decode cX10_wave 130 = .ok (.aload_n 0, 1) := dc1_42 (by decide +kernel)
theorem dX10_wave_131 : decode cX10_wave 131 = .ok (.getfield 35, 3) := dcw_180 (by decide +kernel)
theorem dX10_wave_134 : decode cX10_wave 134 = .ok (.iload_n 1, 1) := dc1_27 (by decide +kernel)
theorem dX10_wave_135 : decode cX10_wave 135 = .ok (.invokevirtual 128, 3) := dcw_182 (by decide +kernel)
theorem dX10_wave_138 : decode cX10_wave 138 = .ok (.ireturn, 1) := dc1_172 (by decide +kernel)
theorem dX10_wave_139 : decode cX10_wave 139 = .ok (.iconst (-1), 1) := dc1_2 (by decide +kernel)
theorem dX10_wave_140 : decode cX10_wave 140 = .ok (.ireturn, 1) := dc1_172 (by decide +kernel)
theorem ggX10_party_X5_hasParty : GoodIn wsX10_party wsX5_hasParty := gi_sub (fun w h => List.mem_cons_of_mem _ (List.mem_append_left _ (List.mem_append_left _ (List.mem_append_left _ (List.mem_append_left _ (List.mem_append_left _ (List.mem_append_right _ (List.mem_append_left _ h)))))))) gd_wsX5_hasParty
set_option maxRecDepth 20000 in
theorem gX10_party_X5_hasParty_n138 : GoodIn wsX10_party (wsX5_hasParty) := ggX10_party_X5_hasParty
theorem ggX10_party_X0_fareOf : GoodIn wsX10_party wsX0_fareOf := gi_sub (fun w h => List.mem_cons_of_mem _ (List.mem_append_left _ (List.mem_append_left _ (List.mem_append_left _ (List.mem_append_left _ (List.mem_append_left _ (List.mem_append_right _ (List.mem_append_right _ (List.mem_append_left _ h))))))))) gd_wsX0_fareOf
set_option maxRecDepth 20000 in
theorem gX10_party_X0_fareOf_n153 : GoodIn wsX10_party (wsX0_fareOf) := ggX10_party_X0_fareOf
theorem ggX10_party_X0_isDaring : GoodIn wsX10_party wsX0_isDaring := gi_sub (fun w h => List.mem_cons_of_mem _ (List.mem_append_left _ (List.mem_append_left _ (List.mem_append_left _ (List.mem_append_left _ (List.mem_append_left _ (List.mem_append_right _ (List.mem_append_right _ (List.mem_append_right _ h))))))))) gd_wsX0_isDaring
set_option maxRecDepth 20000 in
theorem gX10_party_X0_isDaring_n156 : GoodIn wsX10_party (wsX0_isDaring) := ggX10_party_X0_isDaring
theorem dX10_party_0 : decode cX10_party 0 = .ok (.aload_n 0, 1) := dc1_42 (by decide +kernel)
theorem dX10_party_1 : decode cX10_party 1 = .ok (.getfield 19, 3) := dcw_180 (by decide +kernel)
theorem dX10_party_4 : decode cX10_party 4 = .ok (.iload_n 1, 1) := dc1_27 (by decide +kernel)
theorem dX10_party_5 : decode cX10_party 5 = .ok (.invokevirtual 138, 3) := dcw_182 (by decide +kernel)
theorem dX10_party_8 : decode cX10_party 8 = .ok (.ifCond .ne 5, 3) := dcs_154 (n := 5) (by decide +kernel)
theorem dX10_party_11 : decode cX10_party 11 = .ok (.iconst (-1), 1) := dc1_2 (by decide +kernel)
theorem dX10_party_12 : decode cX10_party 12 = .ok (.ireturn, 1) := dc1_172 (by decide +kernel)
theorem dX10_party_13 : decode cX10_party 13 = .ok (.iload_n 2, 1) := dc1_28 (by decide +kernel)
theorem dX10_party_14 : decode cX10_party 14 = .ok (.tableswitch 112 0 5 #[38, 48, 58, 68, 78, 91], 38) := by decide +kernel
theorem dX10_party_52 : decode cX10_party 52 = .ok (.aload_n 0, 1) := dc1_42 (by decide +kernel)
theorem dX10_party_53 : decode cX10_party 53 = .ok (.getfield 19, 3) := dcw_180 (by decide +kernel)
theorem dX10_party_56 : decode cX10_party 56 = .ok (.getfield 141, 3) := dcw_180 (by decide +kernel)
theorem dX10_party_59 : decode cX10_party 59 = .ok (.iload_n 1, 1) := dc1_27 (by decide +kernel)
theorem dX10_party_60 : decode cX10_party 60 = .ok (.iaload, 1) := dc1_46 (by decide +kernel)
theorem dX10_party_61 : decode cX10_party 61 = .ok (.ireturn, 1) := dc1_172 (by decide +kernel)
theorem dX10_party_62 : decode cX10_party 62 = .ok (.aload_n 0, 1) := dc1_42 (by decide +kernel)
theorem dX10_party_63 : decode cX10_party 63 = .ok (.getfield 19, 3) := dcw_180 (by decide +kernel)
theorem dX10_party_66 : decode cX10_party 66 = .ok (.getfield 144, 3) := dcw_180 (by decide +kernel)
theorem dX10_party_69 : decode cX10_party 69 = .ok (.iload_n 1, 1) := dc1_27 (by decide +kernel)
theorem dX10_party_70 : decode cX10_party 70 = .ok (.iaload, 1) := dc1_46 (by decide +kernel)
theorem dX10_party_71 : decode cX10_party 71 = .ok (.ireturn, 1) := dc1_172 (by decide +kernel)
theorem dX10_party_72 : decode cX10_party 72 = .ok (.aload_n 0, 1) := dc1_42 (by decide +kernel)
theorem dX10_party_73 : decode cX10_party 73 = .ok (.getfield 35, 3) := dcw_180 (by decide +kernel)
theorem dX10_party_76 : decode cX10_party 76 = .ok (.getfield 147, 3) := dcw_180 (by decide +kernel)
theorem dX10_party_79 : decode cX10_party 79 = .ok (.iload_n 1, 1) := dc1_27 (by decide +kernel)
theorem dX10_party_80 : decode cX10_party 80 = .ok (.iaload, 1) := dc1_46 (by decide +kernel)
theorem dX10_party_81 : decode cX10_party 81 = .ok (.ireturn, 1) := dc1_172 (by decide +kernel)
theorem dX10_party_82 : decode cX10_party 82 = .ok (.aload_n 0, 1) := dc1_42 (by decide +kernel)
theorem dX10_party_83 : decode cX10_party 83 = .ok (.getfield 35, 3) := dcw_180 (by decide +kernel)
theorem dX10_party_86 : decode cX10_party 86 = .ok (.getfield 150, 3) := dcw_180 (by decide +kernel)
theorem dX10_party_89 : decode cX10_party 89 = .ok (.iload_n 1, 1) := dc1_27 (by decide +kernel)
theorem dX10_party_90 : decode cX10_party 90 = .ok (.iaload, 1) := dc1_46 (by decide +kernel)
theorem dX10_party_91 : decode cX10_party 91 = .ok (.ireturn, 1) := dc1_172 (by decide +kernel)
theorem dX10_party_92 : decode cX10_party 92 = .ok (.aload_n 0, 1) := dc1_42 (by decide +kernel)
theorem dX10_party_93 : decode cX10_party 93 = .ok (.getfield 54, 3) := dcw_180 (by decide +kernel)
theorem dX10_party_96 : decode cX10_party 96 = .ok (.aload_n 0, 1) := dc1_42 (by decide +kernel)
theorem dX10_party_97 : decode cX10_party 97 = .ok (.getfield 35, 3) := dcw_180 (by decide +kernel)
theorem dX10_party_100 : decode cX10_party 100 = .ok (.iload_n 1, 1) := dc1_27 (by decide +kernel)
theorem dX10_party_101 : decode cX10_party 101 = .ok (.invokevirtual 153, 3) := dcw_182 (by decide +kernel)
theorem dX10_party_104 : decode cX10_party 104 = .ok (.ireturn, 1) := dc1_172 (by decide +kernel)
theorem dX10_party_105 : decode cX10_party 105 = .ok (.aload_n 0, 1) := dc1_42 (by decide +kernel)
theorem dX10_party_106 : decode cX10_party 106 = .ok (.getfield 54, 3) := dcw_180 (by decide +kernel)
theorem dX10_party_109 : decode cX10_party 109 = .ok (.aload_n 0, 1) := dc1_42 (by decide +kernel)
theorem dX10_party_110 : decode cX10_party 110 = .ok (.getfield 35, 3) := dcw_180 (by decide +kernel)
theorem dX10_party_113 : decode cX10_party 113 = .ok (.iload_n 1, 1) := dc1_27 (by decide +kernel)
theorem dX10_party_114 : decode cX10_party 114 = .ok (.invokevirtual 156, 3) := dcw_182 (by decide +kernel)
theorem dX10_party_117 : decode cX10_party 117 = .ok (.ifCond .eq 7, 3) := dcs_153 (n := 7) (by decide +kernel)
theorem dX10_party_120 : decode cX10_party 120 = .ok (.iconst 1, 1) := dc1_4 (by decide +kernel)
theorem dX10_party_121 : decode cX10_party 121 = .ok (.goto 4, 3) := dcs_167 (n := 4) (by decide +kernel)
theorem dX10_party_124 : decode cX10_party 124 = .ok (.iconst 0, 1) := dc1_3 (by decide +kernel)
theorem dX10_party_125 : decode cX10_party 125 = .ok (.ireturn, 1) := dc1_172 (by decide +kernel)
theorem dX10_party_126 : decode cX10_party 126 = .ok (.iconst (-1), 1) := dc1_2 (by decide +kernel)
theorem dX10_party_127 : decode cX10_party 127 = .ok (.ireturn, 1) := dc1_172 (by decide +kernel)
theorem ggX10_needs_X5_hasParty : GoodIn wsX10_needs wsX5_hasParty := gi_sub (fun w h => List.mem_cons_of_mem _ (List.mem_append_left _ (List.mem_append_left _ (List.mem_append_left _ (List.mem_append_left _ (List.mem_append_left _ (List.mem_append_right _ (List.mem_append_left _ h)))))))) gd_wsX5_hasParty
set_option maxRecDepth 20000 in
theorem gX10_needs_X5_hasParty_n138 : GoodIn wsX10_needs (wsX5_hasParty) := ggX10_needs_X5_hasParty
theorem ggX10_needs_X5_hasWave : GoodIn wsX10_needs wsX5_hasWave := gi_sub (fun w h => List.mem_cons_of_mem _ (List.mem_append_left _ (List.mem_append_left _ (List.mem_append_left _ (List.mem_append_left _ (List.mem_append_left _ (List.mem_append_right _ (List.mem_append_right _ (List.mem_append_left _ h))))))))) gd_wsX5_hasWave
set_option maxRecDepth 20000 in
theorem gX10_needs_X5_hasWave_n108 : GoodIn wsX10_needs (wsX5_hasWave) := ggX10_needs_X5_hasWave
theorem ggX10_needs_X10_isThing : GoodIn wsX10_needs wsX10_isThing := gi_sub (fun w h => List.mem_cons_of_mem _ (List.mem_append_left _ (List.mem_append_left _ (List.mem_append_left _ (List.mem_append_left _ (List.mem_append_left _ (List.mem_append_right _ (List.mem_append_right _ (List.mem_append_right _ (List.mem_append_left _ h)))))))))) gd_wsX10_isThing
set_option maxRecDepth 20000 in
theorem gX10_needs_X10_isThing : GoodIn wsX10_needs (va_wsS RX10 131 yX10_isThing wsX10_isThing) := goodIn_app (goodIn_of _ (by decide +kernel)) ggX10_needs_X10_isThing
theorem ggX10_needs_X0_needOf : GoodIn wsX10_needs wsX0_needOf := gi_sub (fun w h => List.mem_cons_of_mem _ (List.mem_append_left _ (List.mem_append_left _ (List.mem_append_left _ (List.mem_append_left _ (List.mem_append_left _ (List.mem_append_right _ (List.mem_append_right _ (List.mem_append_right _ (List.mem_append_right _ h)))))))))) gd_wsX0_needOf
set_option maxRecDepth 20000 in
theorem gX10_needs_X0_needOf_n160 : GoodIn wsX10_needs (wsX0_needOf) := ggX10_needs_X0_needOf
theorem dX10_needs_0 : decode cX10_needs 0 = .ok (.aload_n 0, 1) := dc1_42 (by decide +kernel)
theorem dX10_needs_1 : decode cX10_needs 1 = .ok (.getfield 19, 3) := dcw_180 (by decide +kernel)
theorem dX10_needs_4 : decode cX10_needs 4 = .ok (.iload_n 1, 1) := dc1_27 (by decide +kernel)
theorem dX10_needs_5 : decode cX10_needs 5 = .ok (.invokevirtual 138, 3) := dcw_182 (by decide +kernel)
theorem dX10_needs_8 : decode cX10_needs 8 = .ok (.ifCond .eq 21, 3) := dcs_153 (n := 21) (by decide +kernel)
theorem dX10_needs_11 : decode cX10_needs 11 = .ok (.aload_n 0, 1) := dc1_42 (by decide +kernel)
theorem dX10_needs_12 : decode cX10_needs 12 = .ok (.getfield 19, 3) := dcw_180 (by decide +kernel)
theorem dX10_needs_15 : decode cX10_needs 15 = .ok (.iload_n 2, 1) := dc1_28 (by decide +kernel)
theorem dX10_needs_16 : decode cX10_needs 16 = .ok (.invokevirtual 108, 3) := dcw_182 (by decide +kernel)
theorem dX10_needs_19 : decode cX10_needs 19 = .ok (.ifCond .eq 10, 3) := dcs_153 (n := 10) (by decide +kernel)
theorem dX10_needs_22 : decode cX10_needs 22 = .ok (.iload_n 3, 1) := dc1_29 (by decide +kernel)
theorem dX10_needs_23 : decode cX10_needs 23 = .ok (.invokestatic 131, 3) := dcw_184 (by decide +kernel)
theorem dX10_needs_26 : decode cX10_needs 26 = .ok (.ifCond .ne 5, 3) := dcs_154 (n := 5) (by decide +kernel)
theorem dX10_needs_29 : decode cX10_needs 29 = .ok (.iconst (-1), 1) := dc1_2 (by decide +kernel)
theorem dX10_needs_30 : decode cX10_needs 30 = .ok (.ireturn, 1) := dc1_172 (by decide +kernel)
theorem dX10_needs_31 : decode cX10_needs 31 = .ok (.aload_n 0, 1) := dc1_42 (by decide +kernel)
theorem dX10_needs_32 : decode cX10_needs 32 = .ok (.getfield 54, 3) := dcw_180 (by decide +kernel)
theorem dX10_needs_35 : decode cX10_needs 35 = .ok (.aload_n 0, 1) := dc1_42 (by decide +kernel)
theorem dX10_needs_36 : decode cX10_needs 36 = .ok (.getfield 35, 3) := dcw_180 (by decide +kernel)
theorem dX10_needs_39 : decode cX10_needs 39 = .ok (.iload_n 1, 1) := dc1_27 (by decide +kernel)
theorem dX10_needs_40 : decode cX10_needs 40 = .ok (.iload_n 2, 1) := dc1_28 (by decide +kernel)
theorem dX10_needs_41 : decode cX10_needs 41 = .ok (.iload_n 3, 1) := dc1_29 (by decide +kernel)
theorem dX10_needs_42 : decode cX10_needs 42 = .ok (.invokevirtual 160, 3) := dcw_182 (by decide +kernel)
theorem dX10_needs_45 : decode cX10_needs 45 = .ok (.ireturn, 1) := dc1_172 (by decide +kernel)
theorem ggX10_bears_X5_hasParty : GoodIn wsX10_bears wsX5_hasParty := gi_sub (fun w h => List.mem_cons_of_mem _ (List.mem_append_left _ (List.mem_append_left _ (List.mem_append_left _ (List.mem_append_left _ (List.mem_append_left _ (List.mem_append_left _ (List.mem_append_right _ (List.mem_append_left _ h))))))))) gd_wsX5_hasParty
set_option maxRecDepth 20000 in
theorem gX10_bears_X5_hasParty_n138 : GoodIn wsX10_bears (wsX5_hasParty) := ggX10_bears_X5_hasParty
theorem ggX10_bears_X5_hasGuess : GoodIn wsX10_bears wsX5_hasGuess := gi_sub (fun w h => List.mem_cons_of_mem _ (List.mem_append_left _ (List.mem_append_left _ (List.mem_append_left _ (List.mem_append_left _ (List.mem_append_left _ (List.mem_append_left _ (List.mem_append_right _ (List.mem_append_right _ (List.mem_append_left _ h)))))))))) gd_wsX5_hasGuess
set_option maxRecDepth 20000 in
theorem gX10_bears_X5_hasGuess_n170 : GoodIn wsX10_bears (wsX5_hasGuess) := ggX10_bears_X5_hasGuess
theorem ggX10_bears_X2_borneOver : GoodIn wsX10_bears wsX2_borneOver := gi_sub (fun w h => List.mem_cons_of_mem _ (List.mem_append_left _ (List.mem_append_left _ (List.mem_append_left _ (List.mem_append_left _ (List.mem_append_left _ (List.mem_append_left _ (List.mem_append_right _ (List.mem_append_right _ (List.mem_append_right _ h)))))))))) gd_wsX2_borneOver
set_option maxRecDepth 20000 in
theorem gX10_bears_X2_borneOver_n209 : GoodIn wsX10_bears (wsX2_borneOver) := ggX10_bears_X2_borneOver
theorem dX10_bears_0 : decode cX10_bears 0 = .ok (.aload_n 0, 1) := dc1_42 (by decide +kernel)
theorem dX10_bears_1 : decode cX10_bears 1 = .ok (.getfield 19, 3) := dcw_180 (by decide +kernel)
theorem dX10_bears_4 : decode cX10_bears 4 = .ok (.iload_n 1, 1) := dc1_27 (by decide +kernel)
theorem dX10_bears_5 : decode cX10_bears 5 = .ok (.invokevirtual 138, 3) := dcw_182 (by decide +kernel)
theorem dX10_bears_8 : decode cX10_bears 8 = .ok (.ifCond .eq 14, 3) := dcs_153 (n := 14) (by decide +kernel)
theorem dX10_bears_11 : decode cX10_bears 11 = .ok (.aload_n 0, 1) := dc1_42 (by decide +kernel)
theorem dX10_bears_12 : decode cX10_bears 12 = .ok (.getfield 19, 3) := dcw_180 (by decide +kernel)
theorem dX10_bears_15 : decode cX10_bears 15 = .ok (.iload_n 2, 1) := dc1_28 (by decide +kernel)
theorem dX10_bears_16 : decode cX10_bears 16 = .ok (.invokevirtual 170, 3) := dcw_182 (by decide +kernel)
theorem dX10_bears_19 : decode cX10_bears 19 = .ok (.ifCond .ne 5, 3) := dcs_154 (n := 5) (by decide +kernel)
theorem dX10_bears_22 : decode cX10_bears 22 = .ok (.iconst (-1), 1) := dc1_2 (by decide +kernel)
theorem dX10_bears_23 : decode cX10_bears 23 = .ok (.ireturn, 1) := dc1_172 (by decide +kernel)
theorem dX10_bears_24 : decode cX10_bears 24 = .ok (.aload_n 0, 1) := dc1_42 (by decide +kernel)
theorem dX10_bears_25 : decode cX10_bears 25 = .ok (.getfield 63, 3) := dcw_180 (by decide +kernel)
theorem dX10_bears_28 : decode cX10_bears 28 = .ok (.aload_n 0, 1) := dc1_42 (by decide +kernel)
theorem dX10_bears_29 : decode cX10_bears 29 = .ok (.getfield 35, 3) := dcw_180 (by decide +kernel)
theorem dX10_bears_32 : decode cX10_bears 32 = .ok (.iload_n 1, 1) := dc1_27 (by decide +kernel)
theorem dX10_bears_33 : decode cX10_bears 33 = .ok (.iload_n 2, 1) := dc1_28 (by decide +kernel)
theorem dX10_bears_34 : decode cX10_bears 34 = .ok (.invokevirtual 209, 3) := dcw_182 (by decide +kernel)
theorem dX10_bears_37 : decode cX10_bears 37 = .ok (.ireturn, 1) := dc1_172 (by decide +kernel)
theorem ggX10_sunk_X5_hasGuess : GoodIn wsX10_sunk wsX5_hasGuess := gi_sub (fun w h => List.mem_cons_of_mem _ (List.mem_append_left _ (List.mem_append_left _ (List.mem_append_left _ (List.mem_append_left _ (List.mem_append_left _ (List.mem_append_left _ (List.mem_append_right _ (List.mem_append_left _ h))))))))) gd_wsX5_hasGuess
set_option maxRecDepth 20000 in
theorem gX10_sunk_X5_hasGuess_n170 : GoodIn wsX10_sunk (wsX5_hasGuess) := ggX10_sunk_X5_hasGuess
theorem ggX10_sunk_X2_borneOver : GoodIn wsX10_sunk wsX2_borneOver := gi_sub (fun w h => List.mem_cons_of_mem _ (List.mem_append_left _ (List.mem_append_left _ (List.mem_append_left _ (List.mem_append_left _ (List.mem_append_left _ (List.mem_append_left _ (List.mem_append_right _ (List.mem_append_right _ h))))))))) gd_wsX2_borneOver
set_option maxRecDepth 20000 in
theorem gX10_sunk_X2_borneOver_n209 : GoodIn wsX10_sunk (wsX2_borneOver) := ggX10_sunk_X2_borneOver
theorem dX10_sunk_0 : decode cX10_sunk 0 = .ok (.aload_n 0, 1) := dc1_42 (by decide +kernel)
theorem dX10_sunk_1 : decode cX10_sunk 1 = .ok (.getfield 19, 3) := dcw_180 (by decide +kernel)
theorem dX10_sunk_4 : decode cX10_sunk 4 = .ok (.iload_n 1, 1) := dc1_27 (by decide +kernel)
theorem dX10_sunk_5 : decode cX10_sunk 5 = .ok (.invokevirtual 170, 3) := dcw_182 (by decide +kernel)
theorem dX10_sunk_8 : decode cX10_sunk 8 = .ok (.ifCond .ne 5, 3) := dcs_154 (n := 5) (by decide +kernel)
theorem dX10_sunk_11 : decode cX10_sunk 11 = .ok (.iconst (-1), 1) := dc1_2 (by decide +kernel)
theorem dX10_sunk_12 : decode cX10_sunk 12 = .ok (.ireturn, 1) := dc1_172 (by decide +kernel)
theorem dX10_sunk_13 : decode cX10_sunk 13 = .ok (.iconst 0, 1) := dc1_3 (by decide +kernel)
theorem dX10_sunk_14 : decode cX10_sunk 14 = .ok (.istore_n 2, 1) := dc1_61 (by decide +kernel)
theorem dX10_sunk_15 : decode cX10_sunk 15 = .ok (.iconst 0, 1) := dc1_3 (by decide +kernel)
theorem dX10_sunk_16 : decode cX10_sunk 16 = .ok (.istore_n 3, 1) := dc1_62 (by decide +kernel)
theorem dX10_sunk_17 : decode cX10_sunk 17 = .ok (.iload_n 3, 1) := dc1_29 (by decide +kernel)
theorem dX10_sunk_18 : decode cX10_sunk 18 = .ok (.aload_n 0, 1) := dc1_42 (by decide +kernel)
theorem dX10_sunk_19 : decode cX10_sunk 19 = .ok (.getfield 19, 3) := dcw_180 (by decide +kernel)
theorem dX10_sunk_22 : decode cX10_sunk 22 = .ok (.getfield 235, 3) := dcw_180 (by decide +kernel)
theorem dX10_sunk_25 : decode cX10_sunk 25 = .ok (.if_icmp .ge 50, 3) := dcs_162 (n := 50) (by decide +kernel)
theorem dX10_sunk_28 : decode cX10_sunk 28 = .ok (.aload_n 0, 1) := dc1_42 (by decide +kernel)
theorem dX10_sunk_29 : decode cX10_sunk 29 = .ok (.getfield 35, 3) := dcw_180 (by decide +kernel)
theorem dX10_sunk_32 : decode cX10_sunk 32 = .ok (.getfield 147, 3) := dcw_180 (by decide +kernel)
theorem dX10_sunk_35 : decode cX10_sunk 35 = .ok (.iload_n 3, 1) := dc1_29 (by decide +kernel)
theorem dX10_sunk_36 : decode cX10_sunk 36 = .ok (.iaload, 1) := dc1_46 (by decide +kernel)
theorem dX10_sunk_37 : decode cX10_sunk 37 = .ok (.ifCond .ne 32, 3) := dcs_154 (n := 32) (by decide +kernel)
theorem dX10_sunk_40 : decode cX10_sunk 40 = .ok (.aload_n 0, 1) := dc1_42 (by decide +kernel)
theorem dX10_sunk_41 : decode cX10_sunk 41 = .ok (.getfield 63, 3) := dcw_180 (by decide +kernel)
theorem dX10_sunk_44 : decode cX10_sunk 44 = .ok (.aload_n 0, 1) := dc1_42 (by decide +kernel)
theorem dX10_sunk_45 : decode cX10_sunk 45 = .ok (.getfield 35, 3) := dcw_180 (by decide +kernel)
theorem dX10_sunk_48 : decode cX10_sunk 48 = .ok (.iload_n 3, 1) := dc1_29 (by decide +kernel)
theorem dX10_sunk_49 : decode cX10_sunk 49 = .ok (.iload_n 1, 1) := dc1_27 (by decide +kernel)
theorem dX10_sunk_50 : decode cX10_sunk 50 = .ok (.invokevirtual 209, 3) := dcw_182 (by decide +kernel)
theorem dX10_sunk_53 : decode cX10_sunk 53 = .ok (.aload_n 0, 1) := dc1_42 (by decide +kernel)
theorem dX10_sunk_54 : decode cX10_sunk 54 = .ok (.getfield 19, 3) := dcw_180 (by decide +kernel)
theorem dX10_sunk_57 : decode cX10_sunk 57 = .ok (.getfield 167, 3) := dcw_180 (by decide +kernel)
theorem dX10_sunk_60 : decode cX10_sunk 60 = .ok (.if_icmp .ge 9, 3) := dcs_162 (n := 9) (by decide +kernel)
theorem dX10_sunk_63 : decode cX10_sunk 63 = .ok (.iload_n 2, 1) := dc1_28 (by decide +kernel)
theorem dX10_sunk_64 : decode cX10_sunk 64 = .ok (.iconst 1, 1) := dc1_4 (by decide +kernel)
theorem dX10_sunk_65 : decode cX10_sunk 65 = .ok (.iload_n 3, 1) := dc1_29 (by decide +kernel)
theorem dX10_sunk_66 : decode cX10_sunk 66 = .ok (.ishl, 1) := dc1_120 (by decide +kernel)
theorem dX10_sunk_67 : decode cX10_sunk 67 = .ok (.ior, 1) := dc1_128 (by decide +kernel)
theorem dX10_sunk_68 : decode cX10_sunk 68 = .ok (.istore_n 2, 1) := dc1_61 (by decide +kernel)
theorem dX10_sunk_69 : decode cX10_sunk 69 = .ok (.iinc 3 1, 3) := dc_iinc (m := 1) (by decide +kernel)
theorem dX10_sunk_72 : decode cX10_sunk 72 = .ok (.goto (-55), 3) := dcs_167 (n := 65481) (by decide +kernel)
theorem dX10_sunk_75 : decode cX10_sunk 75 = .ok (.iload_n 2, 1) := dc1_28 (by decide +kernel)
theorem dX10_sunk_76 : decode cX10_sunk 76 = .ok (.ireturn, 1) := dc1_172 (by decide +kernel)
theorem LX2_borneOver_24 : Cond.fieldLink RX2 24 "GuessFerry$Outlook" "sound" "LGuessFerry$Sound;" ∈ wsX2_borneOver := (List.mem_cons_of_mem _ (List.mem_append_left _ (List.mem_append_left _ (List.mem_append_left _ (List.mem_append_left _ (List.mem_append_left _ (List.mem_append_left _ (List.mem_of_getElem? (i := 0) rfl))))))))
theorem LX2_borneOver_28 : Cond.fieldLink RX2 28 "GuessFerry$Outlook" "crossing" "LGuessFerry$Crossing;" ∈ wsX2_borneOver := (List.mem_cons_of_mem _ (List.mem_append_left _ (List.mem_append_left _ (List.mem_append_left _ (List.mem_append_left _ (List.mem_append_left _ (List.mem_append_left _ (List.mem_of_getElem? (i := 1) rfl))))))))
theorem LX2_borneOver_E_X0_isBearing : Cond.selects RX0 yX0_isBearing yX0_isBearing ∈ wsX2_borneOver := (List.mem_cons_of_mem _ (List.mem_append_left _ (List.mem_append_left _ (List.mem_append_left _ (List.mem_append_left _ (List.mem_append_left _ (List.mem_append_left _ (List.mem_of_getElem? (i := 6) rfl))))))))
theorem LX2_borneOver_I_X0 : Cond.initialized RX0 ∈ wsX2_borneOver := (List.mem_cons_of_mem _ (List.mem_append_left _ (List.mem_append_left _ (List.mem_append_left _ (List.mem_append_left _ (List.mem_append_left _ (List.mem_append_left _ (List.mem_of_getElem? (i := 5) rfl))))))))
theorem LX2_borneOver_I_X10 : Cond.initialized RX10 ∈ wsX2_borneOver := (List.mem_cons_of_mem _ (List.mem_append_left _ (List.mem_append_left _ (List.mem_append_left _ (List.mem_append_left _ (List.mem_append_left _ (List.mem_append_left _ (List.mem_of_getElem? (i := 3) rfl))))))))
theorem LX2_borneOver_N_X0_isBearing : Cond.instanceMethod yX0_isBearing ∈ wsX2_borneOver := (List.mem_cons_of_mem _ (List.mem_append_left _ (List.mem_append_left _ (List.mem_append_left _ (List.mem_append_left _ (List.mem_append_left _ (List.mem_append_left _ (List.mem_of_getElem? (i := 4) rfl))))))))
theorem LX2_borneOver_S_X10_thingIn : Cond.static yX10_thingIn ∈ wsX2_borneOver := (List.mem_cons_of_mem _ (List.mem_append_left _ (List.mem_append_left _ (List.mem_append_left _ (List.mem_append_left _ (List.mem_append_left _ (List.mem_append_left _ (List.mem_of_getElem? (i := 2) rfl))))))))
theorem inX2_borneOver_X2 : ∀ w ∈ u_ws RX2 TX2 6, w ∈ wsX2_borneOver := fun w h => (List.mem_cons_of_mem _ (List.mem_append_left _ (List.mem_append_left _ (List.mem_append_left _ (List.mem_append_left _ (List.mem_append_right _ h))))))
theorem inX2_borneOver_X5 : ∀ w ∈ u_ws RX5 TX5 10, w ∈ wsX2_borneOver := fun w h => (List.mem_cons_of_mem _ (List.mem_append_left _ (List.mem_append_left _ (List.mem_append_left _ (List.mem_append_right _ h)))))
set_option maxHeartbeats 4000000 in
set_option maxRecDepth 100000 in
theorem bkX2_borneOver_3 {l : Launch} {dC : Nat → ClassId} {dI : Nat → Nat → Nat} {cB cI cJ cZ cS : ClassId} {a b : Nat → Nat} {as : List Value} {r : Int32} {s' : JS} {k3 : JS → Int32 → Int32 → Int32 → Option (Int32 × JS)} (hk3 : ∀ (s : JS) (x2 : Int32) (x3 : Int32) (x4 : Int32), k3 s x2 x3 x4 = some (r, s') → BlkI l yX2_borneOver wsX2_borneOver ({ frames := 5, cells := 0, slots := 0, locals := 124 }) cX2_borneOver 5 (some .int) (dC, dI) (tysA cB cI cJ cZ cS) as 3 (wJ cB cI cJ cZ cS a b s) [(0, .ref (a 36)), (1, .ref (b 0)), (2, .int x2), (3, .int x3), (4, .int x4)] [] (fun x u => x = r ∧ u = (wJ cB cI cJ cZ cS a b s'))) (s : JS) (x2 : Int32) (x3 : Int32) (x4 : Int32) (hB : kX2_borneOver_3 k3 s x2 x3 x4 = some (r, s')) : BlkI l yX2_borneOver wsX2_borneOver ({ frames := 5, cells := 0, slots := 0, locals := 124 }) cX2_borneOver 5 (some .int) (dC, dI) (tysA cB cI cJ cZ cS) as 3 (wJ cB cI cJ cZ cS a b s) [(0, .ref (a 36)), (1, .ref (b 0)), (2, .int x2), (3, .int x3), (4, .int x4)] [] (fun x u => x = r ∧ u = (wJ cB cI cJ cZ cS a b s')) := by
  intro p e s0 m below meth c A E H locs ls hP hD hS hl
  obtain ⟨C, hr, hlocks, hA, hK, hN⟩ := id E
  obtain ⟨hx, hb, hml, hown, hts⟩ := id C
  unfold kX2_borneOver_3 at hB
  refine lv_iload hx hb dX2_borneOver_3 (lv_at hl 4 rfl) ?_
  refine lv_aload_n hx hb dX2_borneOver_5 rfl (lv_at hl 0 rfl) ?_
  refine q_get (v := .ref (a 2)) C inX2_borneOver_X2 hK hP 42 rfl rfl 0 (by decide) rfl LX2_borneOver_24 rfl dX2_borneOver_6 ?_
  refine q_getN (v := .int (s.k.v 1)) C hN inX2_borneOver_X5 hK hP 8 rfl rfl 6 (by decide) rfl nwF_X2_44 rfl dX2_borneOver_9 ?_
  refine lv_icmp_ge (tgt := 41) hx hb dX2_borneOver_12 (by decide) (fun c1 => ?_) (fun c1 => ?_)
  · have hB := if_p hB c1
    refine lv_iload hx hb dX2_borneOver_41 (lv_at hl 4 rfl) ?_
    exact q_iret C hr hlocks hK hP hD hS (Nat.le_of_ble_eq_true rfl) (Nat.le_of_ble_eq_true rfl) dX2_borneOver_43 (by cases hB; exact ⟨rfl, rfl⟩)
  · have hB := if_n hB c1
    refine lv_aload_n hx hb dX2_borneOver_15 rfl (lv_at hl 0 rfl) ?_
    refine q_get (v := .ref (a 35)) C inX2_borneOver_X2 hK hP 42 rfl rfl 1 (by decide) rfl LX2_borneOver_28 rfl dX2_borneOver_16 ?_
    refine lv_aload_n hx hb dX2_borneOver_19 rfl (lv_at hl 1 rfl) ?_
    refine lv_iload_n hx hb dX2_borneOver_20 rfl (lv_at hl 2 rfl) ?_
    refine lv_iload hx hb dX2_borneOver_21 (lv_at hl 4 rfl) ?_
    refine lv_iload_n hx hb dX2_borneOver_23 rfl (lv_at hl 3 rfl) ?_
    refine lv_iload hx hb dX2_borneOver_24 (lv_at hl 4 rfl) ?_
    obtain ⟨q_, hc, hB⟩ := bindP_inv hB
    refine q_goi0 (va_runSN (As := [.int x3, .int x4]) (rest := [.int x4, .int x2, .ref (b 0), .ref (a 35)]) C (ckX10_thingIn hc _) ⟨va_cnB 2 hts gX2_borneOver_X10_thingIn_n65 rfl rfl rfl (hN _ nwM_X2_65 rfl) (hts _ LX2_borneOver_I_X10) (by decide +kernel) ⟨Nat.le_of_ble_eq_true rfl, Nat.le_of_ble_eq_true rfl⟩, hts _ LX2_borneOver_S_X10_thingIn, trivial⟩ (q_pre0 hN hK) rfl rfl hl.1 rfl (lv_room (Nat.le_of_ble_eq_true rfl)) dX2_borneOver_26 ⟨Nat.le_of_ble_eq_true rfl, Nat.le_of_ble_eq_true rfl⟩) hP hD hS hA (fun r2 w1 H locs hw hP hS => ?_)
    subst hw
    obtain ⟨q_, s3, hc, hB⟩ := bindI_inv hB
    refine q_goiF (va_runVN (As := [.ref (b 0), .int x2, .int x4, .int r2]) (rest := []) C (ckX0_isBearing hc _) ⟨va_cnB 4 hts gX2_borneOver_X0_isBearing_n75 rfl rfl rfl (hN _ nwM_X2_75 rfl) (hts _ LX2_borneOver_I_X0) (by decide +kernel) ⟨Nat.le_of_ble_eq_true rfl, Nat.le_of_ble_eq_true rfl⟩, hts _ LX2_borneOver_N_X0_isBearing, hts _ LX2_borneOver_E_X0_isBearing⟩ (q_preV hK hP (ci := 0) (q0 := 41) rfl rfl rfl (q_preF hN hK hP hD)) rfl rfl hl.1 rfl (lv_room (Nat.le_of_ble_eq_true rfl)) dX2_borneOver_29 ⟨Nat.le_of_ble_eq_true rfl, Nat.le_of_ble_eq_true rfl⟩) hD hS hA (fun r4 w1 H locs hw hP hD hS => ?_)
    obtain ⟨hq_, hw⟩ := hw; subst hw; subst hq_
    refine lv_if_eq (tgt := 41) hx hb dX2_borneOver_32 (by decide) (fun c5 => ?_) (fun c5 => ?_)
    · have hB := if_p hB c5
      refine lv_iload hx hb dX2_borneOver_41 (lv_at hl 4 rfl) ?_
      exact q_iret C hr hlocks hK hP hD hS (Nat.le_of_ble_eq_true rfl) (Nat.le_of_ble_eq_true rfl) dX2_borneOver_43 (by cases hB; exact ⟨rfl, rfl⟩)
    · have hB := if_n hB c5
      refine lv_iinc (v := (x4 + 1)) (lv' := [(4, .int (x4 + 1)), (0, .ref (a 36)), (1, .ref (b 0)), (2, .int x2), (3, .int x3)]) hx hb dX2_borneOver_35 hl (k := 4) rfl (rfl) (by decide) rfl (fun ls hl => ?_)
      refine lv_goto (tgt := 3) hx hb dX2_borneOver_38 (by decide) ?_
      exact hk3 _ _ _ _ hB p e s0 m below meth c A E H locs ls hP hD hS (lv_sub hl [1, 2, 3, 4, 0] rfl)
theorem bkX2_borneOver_3L {l : Launch} {dC : Nat → ClassId} {dI : Nat → Nat → Nat} {cB cI cJ cZ cS : ClassId} {a b : Nat → Nat} {as : List Value} {r : Int32} {s' : JS} : ∀ (n : Nat) (s : JS) (x2 : Int32) (x3 : Int32) (x4 : Int32), kX2_borneOver_3L n s x2 x3 x4 = some (r, s') → BlkI l yX2_borneOver wsX2_borneOver ({ frames := 5, cells := 0, slots := 0, locals := 124 }) cX2_borneOver 5 (some .int) (dC, dI) (tysA cB cI cJ cZ cS) as 3 (wJ cB cI cJ cZ cS a b s) [(0, .ref (a 36)), (1, .ref (b 0)), (2, .int x2), (3, .int x3), (4, .int x4)] [] (fun x u => x = r ∧ u = (wJ cB cI cJ cZ cS a b s')) := by
  intro n
  induction n with
  | zero => intro s x2 x3 x4 hB; exact none_ne hB
  | succ n ih => intro s x2 x3 x4 hB; exact bkX2_borneOver_3 ih _ _ _ _ hB
set_option maxHeartbeats 4000000 in
set_option maxRecDepth 100000 in
theorem bkX2_borneOver {l : Launch} {dC : Nat → ClassId} {dI : Nat → Nat → Nat} {cB cI cJ cZ cS : ClassId} {a b : Nat → Nat} {as : List Value} {r : Int32} {s' : JS} (s : JS) (x2 : Int32) (x3 : Int32) (hB : kX2_borneOver s x2 x3 = some (r, s')) : BlkI l yX2_borneOver wsX2_borneOver ({ frames := 5, cells := 0, slots := 0, locals := 124 }) cX2_borneOver 5 (some .int) (dC, dI) (tysA cB cI cJ cZ cS) as 0 (wJ cB cI cJ cZ cS a b s) [(0, .ref (a 36)), (1, .ref (b 0)), (2, .int x2), (3, .int x3)] [] (fun x u => x = r ∧ u = (wJ cB cI cJ cZ cS a b s')) := by
  intro p e s0 m below meth c A E H locs ls hP hD hS hl
  obtain ⟨C, hr, hlocks, hA, hK, hN⟩ := id E
  obtain ⟨hx, hb, hml, hown, hts⟩ := id C
  unfold kX2_borneOver at hB
  refine lv_iconst (v := 0) hx hb dX2_borneOver_0 (by decide) ?_
  refine lv_istore (lv' := [(4, .int 0), (0, .ref (a 36)), (1, .ref (b 0)), (2, .int x2), (3, .int x3)]) hx hb dX2_borneOver_1 hl (by decide) rfl (fun ls hl => ?_)
  exact bkX2_borneOver_3L fu _ _ _ _ hB p e s0 m below meth c A E H locs ls hP hD hS (lv_sub hl [1, 2, 3, 4, 0] rfl)
theorem ckX2_borneOver {l : Launch} {dC : Nat → ClassId} {dI : Nat → Nat → Nat} {cB cI cJ cZ cS : ClassId} {a b : Nat → Nat} {r : Int32} {s' : JS} {s : JS} {x2 : Int32} {x3 : Int32} (hB : kX2_borneOver s x2 x3 = some (r, s')) : CI l yX2_borneOver wsX2_borneOver ({ frames := 5, cells := 0, slots := 0, locals := 124 }) (dC, dI) (tysA cB cI cJ cZ cS) (wJ cB cI cJ cZ cS a b s) [.ref (a 36), .ref (b 0), .int x2, .int x3] (fun x u => x = r ∧ u = (wJ cB cI cJ cZ cS a b s')) :=
  CI_of (cc := cX2_borneOver) (maxL := 5) (ret := (some .int)) (by decide) rfl (Nat.le_of_ble_eq_true rfl) (bkX2_borneOver _ _ _ hB)
theorem LX10_wave_19 : Cond.fieldLink RX10 19 "GuessFerry" "sound" "LGuessFerry$Sound;" ∈ wsX10_wave := (List.mem_cons_of_mem _ (List.mem_append_left _ (List.mem_append_left _ (List.mem_append_left _ (List.mem_append_left _ (List.mem_append_left _ (List.mem_append_left _ (List.mem_of_getElem? (i := 0) rfl))))))))
theorem LX10_wave_35 : Cond.fieldLink RX10 35 "GuessFerry" "now" "LGuessFerry$Standing;" ∈ wsX10_wave := (List.mem_cons_of_mem _ (List.mem_append_left _ (List.mem_append_left _ (List.mem_append_left _ (List.mem_append_left _ (List.mem_append_left _ (List.mem_append_left _ (List.mem_of_getElem? (i := 2) rfl))))))))
theorem LX10_wave_54 : Cond.fieldLink RX10 54 "GuessFerry" "crossing" "LGuessFerry$Crossing;" ∈ wsX10_wave := (List.mem_cons_of_mem _ (List.mem_append_left _ (List.mem_append_left _ (List.mem_append_left _ (List.mem_append_left _ (List.mem_append_left _ (List.mem_append_left _ (List.mem_of_getElem? (i := 1) rfl))))))))
theorem LX10_wave_E_X0_mayBe : Cond.selects RX0 yX0_mayBe yX0_mayBe ∈ wsX10_wave := (List.mem_cons_of_mem _ (List.mem_append_left _ (List.mem_append_left _ (List.mem_append_left _ (List.mem_append_left _ (List.mem_append_left _ (List.mem_append_left _ (List.mem_of_getElem? (i := 8) rfl))))))))
theorem LX10_wave_E_X0_shiftsOf : Cond.selects RX0 yX0_shiftsOf yX0_shiftsOf ∈ wsX10_wave := (List.mem_cons_of_mem _ (List.mem_append_left _ (List.mem_append_left _ (List.mem_append_left _ (List.mem_append_left _ (List.mem_append_left _ (List.mem_append_left _ (List.mem_of_getElem? (i := 12) rfl))))))))
theorem LX10_wave_E_X0_thereNow : Cond.selects RX0 yX0_thereNow yX0_thereNow ∈ wsX10_wave := (List.mem_cons_of_mem _ (List.mem_append_left _ (List.mem_append_left _ (List.mem_append_left _ (List.mem_append_left _ (List.mem_append_left _ (List.mem_append_left _ (List.mem_of_getElem? (i := 10) rfl))))))))
theorem LX10_wave_E_X5_hasWave : Cond.selects RX5 yX5_hasWave yX5_hasWave ∈ wsX10_wave := (List.mem_cons_of_mem _ (List.mem_append_left _ (List.mem_append_left _ (List.mem_append_left _ (List.mem_append_left _ (List.mem_append_left _ (List.mem_append_left _ (List.mem_of_getElem? (i := 5) rfl))))))))
theorem LX10_wave_I_X0 : Cond.initialized RX0 ∈ wsX10_wave := (List.mem_cons_of_mem _ (List.mem_append_left _ (List.mem_append_left _ (List.mem_append_left _ (List.mem_append_left _ (List.mem_append_left _ (List.mem_append_left _ (List.mem_of_getElem? (i := 7) rfl))))))))
theorem LX10_wave_I_X5 : Cond.initialized RX5 ∈ wsX10_wave := (List.mem_cons_of_mem _ (List.mem_append_left _ (List.mem_append_left _ (List.mem_append_left _ (List.mem_append_left _ (List.mem_append_left _ (List.mem_append_left _ (List.mem_of_getElem? (i := 4) rfl))))))))
theorem LX10_wave_N_X0_mayBe : Cond.instanceMethod yX0_mayBe ∈ wsX10_wave := (List.mem_cons_of_mem _ (List.mem_append_left _ (List.mem_append_left _ (List.mem_append_left _ (List.mem_append_left _ (List.mem_append_left _ (List.mem_append_left _ (List.mem_of_getElem? (i := 6) rfl))))))))
theorem LX10_wave_N_X0_shiftsOf : Cond.instanceMethod yX0_shiftsOf ∈ wsX10_wave := (List.mem_cons_of_mem _ (List.mem_append_left _ (List.mem_append_left _ (List.mem_append_left _ (List.mem_append_left _ (List.mem_append_left _ (List.mem_append_left _ (List.mem_of_getElem? (i := 11) rfl))))))))
theorem LX10_wave_N_X0_thereNow : Cond.instanceMethod yX0_thereNow ∈ wsX10_wave := (List.mem_cons_of_mem _ (List.mem_append_left _ (List.mem_append_left _ (List.mem_append_left _ (List.mem_append_left _ (List.mem_append_left _ (List.mem_append_left _ (List.mem_of_getElem? (i := 9) rfl))))))))
theorem LX10_wave_N_X5_hasWave : Cond.instanceMethod yX5_hasWave ∈ wsX10_wave := (List.mem_cons_of_mem _ (List.mem_append_left _ (List.mem_append_left _ (List.mem_append_left _ (List.mem_append_left _ (List.mem_append_left _ (List.mem_append_left _ (List.mem_of_getElem? (i := 3) rfl))))))))
theorem inX10_wave_X10 : ∀ w ∈ u_ws RX10 TX10 9, w ∈ wsX10_wave := fun w h => (List.mem_cons_of_mem _ (List.mem_append_left _ (List.mem_append_left _ (List.mem_append_left _ (List.mem_append_left _ (List.mem_append_right _ h))))))
theorem inX10_wave_X6 : ∀ w ∈ u_ws RX6 TX6 7, w ∈ wsX10_wave := fun w h => (List.mem_cons_of_mem _ (List.mem_append_left _ (List.mem_append_left _ (List.mem_append_left _ (List.mem_append_right _ h)))))
set_option maxHeartbeats 4000000 in
set_option maxRecDepth 100000 in
theorem bkX10_wave {l : Launch} {dC : Nat → ClassId} {dI : Nat → Nat → Nat} {cB cI cJ cZ cS : ClassId} {a b b2 c0 : Nat → Nat} {rg sl : Nat → Option Nat} {as : List Value} {r : Int32} {s' : XS} (s : XS) (x1 : Int32) (x2 : Int32) (hB : kX10_wave s x1 x2 = some (r, s')) : BlkI l yX10_wave wsX10_wave ({ frames := 4, cells := 0, slots := 0, locals := 98 }) cX10_wave 3 (some .int) (dC, dI) (tysA cB cI cJ cZ cS) as 0 (wX cB cI cJ cZ cS a b b2 c0 rg sl s) [(0, .ref (c0 0)), (1, .int x1), (2, .int x2)] [] (fun x u => x = r ∧ u = (wX cB cI cJ cZ cS a b b2 c0 rg sl s')) := by
  intro p e s0 m below meth c A E H locs ls hP hD hS hl
  obtain ⟨C, hr, hlocks, hA, hK, hN⟩ := id E
  obtain ⟨hx, hb, hml, hown, hts⟩ := id C
  unfold kX10_wave at hB
  refine lv_aload_n hx hb dX10_wave_0 rfl (lv_at hl 0 rfl) ?_
  refine q_get (v := .ref (a 2)) C inX10_wave_X10 hK hP 0 rfl rfl 1 (by decide) rfl LX10_wave_19 rfl dX10_wave_1 ?_
  refine lv_iload_n hx hb dX10_wave_4 rfl (lv_at hl 1 rfl) ?_
  obtain ⟨q_, s1, hc, hB⟩ := bindI_inv hB
  refine q_goi (wr := ((wG cZ cS a b b2 c0 rg sl s.g) ++ (wD cI b2 s.t) ++ (wD cI b s.n))) (va_runVN (As := [.int x1]) (rest := []) C (ckX5_hasWave hc _) ⟨va_cnB 1 hts gX10_wave_X5_hasWave_n108 rfl rfl rfl (hN _ nwM_X10_108 rfl) (hts _ LX10_wave_I_X5) (by decide +kernel) ⟨Nat.le_of_ble_eq_true rfl, Nat.le_of_ble_eq_true rfl⟩, hts _ LX10_wave_N_X5_hasWave, hts _ LX10_wave_E_X5_hasWave⟩ (q_preV hK hP (ci := 5) (q0 := 19) rfl rfl rfl (q_pre hN hK hP hD [17, 18, 19, 20, 21, 22, 23, 24, 25, 26, 27, 28, 29, 30, 31, 32, 33, 34, 35, 36, 37, 38, 39, 40, 41, 42, 43, 44, 45, 46, 47, 48, 49, 50, 51, 52, 53, 54, 55, 56, 57, 58, 59, 60, 61, 62, 63] (by first | exact zqs_0X | rfl) zqn_0)) rfl rfl hl.1 rfl (lv_room (Nat.le_of_ble_eq_true rfl)) dX10_wave_5 ⟨Nat.le_of_ble_eq_true rfl, Nat.le_of_ble_eq_true rfl⟩) hP hD hS hA [17, 18, 19, 20, 21, 22, 23, 24, 25, 26, 27, 28, 29, 30, 31, 32, 33, 34, 35, 36, 37, 38, 39, 40, 41, 42, 43, 44, 45, 46, 47, 48, 49, 50, 51, 52, 53, 54, 55, 56, 57, 58, 59, 60, 61, 62, 63] [0, 1, 2, 3, 4, 5, 6, 7, 8, 9, 10, 11, 12, 13, 14, 15, 16] (by first | exact zqs_0X | rfl) (by first | exact zqs_1X | rfl) zqn_1 zqd_0 (fun r2 w1 H locs hw hP hD hS => ?_)
  obtain ⟨hq_, hw⟩ := hw; subst hw; subst hq_
  obtain ⟨s3, hs4, hB⟩ := letS_inv hB
  have hP : va_P (dC, dI) vwCl (wX cB cI cJ cZ cS a b b2 c0 rg sl s3) H := by subst hs4; exact hP
  have hD : va_D A (wX cB cI cJ cZ cS a b b2 c0 rg sl s3) := by subst hs4; exact hD
  refine lv_if_ne (tgt := 13) hx hb dX10_wave_8 (by decide) (fun c5 => ?_) (fun c5 => ?_)
  · have hB := if_n hB c5
    refine lv_iload_n hx hb dX10_wave_13 rfl (lv_at hl 2 rfl) ?_
    by_cases e6 : x2 = 0
    · have hB := if_p hB e6
      refine q_top (y := 0) e6 ?_
      refine lv_tableIn (off := 38) (tgt := 52) hx hb dX10_wave_14 (by decide +kernel) (by decide +kernel) (by decide +kernel) (by decide) ?_
      refine lv_aload_n hx hb dX10_wave_52 rfl (lv_at hl 0 rfl) ?_
      refine q_get (v := .ref (a 35)) C inX10_wave_X10 hK hP 0 rfl rfl 6 (by decide) rfl LX10_wave_54 rfl dX10_wave_53 ?_
      refine lv_aload_n hx hb dX10_wave_56 rfl (lv_at hl 0 rfl) ?_
      refine q_get (v := .ref (b 0)) C inX10_wave_X10 hK hP 0 rfl rfl 3 (by decide) rfl LX10_wave_35 rfl dX10_wave_57 ?_
      refine lv_iload_n hx hb dX10_wave_60 rfl (lv_at hl 1 rfl) ?_
      obtain ⟨q_, s7, hc, hB⟩ := bindI_inv hB
      refine q_goi (wr := ((wG cZ cS a b b2 c0 rg sl s3.g) ++ (wD cI b2 s3.t))) (va_runVN (As := [.ref (b 0), .int x1]) (rest := []) C (ckX0_mayBe hc _) ⟨va_cnB 2 hts gX10_wave_X0_mayBe_n111 rfl rfl rfl (hN _ nwM_X10_111 rfl) (hts _ LX10_wave_I_X0) (by decide +kernel) ⟨Nat.le_of_ble_eq_true rfl, Nat.le_of_ble_eq_true rfl⟩, hts _ LX10_wave_N_X0_mayBe, hts _ LX10_wave_E_X0_mayBe⟩ (q_preV hK hP (ci := 0) (q0 := 52) rfl rfl rfl (q_pre hN hK hP hD [11, 12, 13, 14, 15, 16, 17, 18, 19, 20, 21, 22, 23, 24, 25, 26, 27, 28, 29, 30, 31, 32, 33, 34, 35, 36, 37, 38, 39, 40, 41, 42, 43, 44, 45, 46, 47, 48, 49, 50, 51, 52, 53, 54, 55, 56, 57, 58, 59, 60, 61, 62, 63] (by first | exact zqs_2X | rfl) zqn_2)) rfl rfl hl.1 rfl (lv_room (Nat.le_of_ble_eq_true rfl)) dX10_wave_61 ⟨Nat.le_of_ble_eq_true rfl, Nat.le_of_ble_eq_true rfl⟩) hP hD hS hA [11, 12, 13, 14, 15, 16, 17, 18, 19, 20, 21, 22, 23, 24, 25, 26, 27, 28, 29, 30, 31, 32, 33, 34, 35, 36, 37, 38, 39, 40, 41, 42, 43, 44, 45, 46, 47, 48, 49, 50, 51, 52, 53, 54, 55, 56, 57, 58, 59, 60, 61, 62, 63] [0, 1, 2, 3, 4, 5, 6, 7, 8, 9, 10] (by first | exact zqs_2X | rfl) (by first | exact zqs_3X | rfl) zqn_3 zqd_1 (fun r8 w1 H locs hw hP hD hS => ?_)
      obtain ⟨hq_, hw⟩ := hw; subst hw; subst hq_
      obtain ⟨s9, hs10, hB⟩ := letS_inv hB
      have hP : va_P (dC, dI) vwCl (wX cB cI cJ cZ cS a b b2 c0 rg sl s9) H := by subst hs10; exact hP
      have hD : va_D A (wX cB cI cJ cZ cS a b b2 c0 rg sl s9) := by subst hs10; exact hD
      exact q_iret C hr hlocks hK hP hD hS (Nat.le_of_ble_eq_true rfl) (Nat.le_of_ble_eq_true rfl) dX10_wave_64 (by cases hB; exact ⟨rfl, rfl⟩)
    · have hB := if_n hB e6
      by_cases e11 : x2 = 1
      · have hB := if_p hB e11
        refine q_top (y := 1) e11 ?_
        refine lv_tableIn (off := 51) (tgt := 65) hx hb dX10_wave_14 (by decide +kernel) (by decide +kernel) (by decide +kernel) (by decide) ?_
        refine lv_aload_n hx hb dX10_wave_65 rfl (lv_at hl 0 rfl) ?_
        refine q_get (v := .ref (b 0)) C inX10_wave_X10 hK hP 0 rfl rfl 3 (by decide) rfl LX10_wave_35 rfl dX10_wave_66 ?_
        refine q_getN (v := .ref (b 1)) C hN inX10_wave_X6 hK hP 11 rfl rfl 0 (by decide) rfl nwF_X10_115 rfl dX10_wave_69 ?_
        refine lv_iload_n hx hb dX10_wave_72 rfl (lv_at hl 1 rfl) ?_
        obtain ⟨g12, hB⟩ := guard_inv hB
        refine q_iald (x := ((s3.n.f 0) (Int32.toNatClampNeg x1))) C hK hP 12 1 rfl rfl (vpb_in g12) dX10_wave_73 rfl ?_
        refine lv_iconst (v := (-1)) hx hb dX10_wave_74 (by decide) ?_
        refine lv_icmp_ne (tgt := 83) hx hb dX10_wave_75 (by decide) (fun c13 => ?_) (fun c13 => ?_)
        · have hB := if_n hB c13
          refine lv_aload_n hx hb dX10_wave_83 rfl (lv_at hl 0 rfl) ?_
          refine q_get (v := .ref (b 0)) C inX10_wave_X10 hK hP 0 rfl rfl 3 (by decide) rfl LX10_wave_35 rfl dX10_wave_84 ?_
          refine q_getN (v := .ref (b 1)) C hN inX10_wave_X6 hK hP 11 rfl rfl 0 (by decide) rfl nwF_X10_115 rfl dX10_wave_87 ?_
          refine lv_iload_n hx hb dX10_wave_90 rfl (lv_at hl 1 rfl) ?_
          obtain ⟨g14, hB⟩ := guard_inv hB
          refine q_iald (x := ((s3.n.f 0) (Int32.toNatClampNeg x1))) C hK hP 12 1 rfl rfl (vpb_in g14) dX10_wave_91 rfl ?_
          exact q_iret C hr hlocks hK hP hD hS (Nat.le_of_ble_eq_true rfl) (Nat.le_of_ble_eq_true rfl) dX10_wave_92 (by cases hB; exact ⟨rfl, rfl⟩)
        · have hB := if_p hB c13
          refine lv_bipush (v := (-2)) hx hb dX10_wave_78 (by decide) ?_
          refine lv_goto (tgt := 92) hx hb dX10_wave_80 (by decide) ?_
          exact q_iret C hr hlocks hK hP hD hS (Nat.le_of_ble_eq_true rfl) (Nat.le_of_ble_eq_true rfl) dX10_wave_92 (by cases hB; exact ⟨rfl, rfl⟩)
      · have hB := if_n hB e11
        by_cases e15 : x2 = 2
        · have hB := if_p hB e15
          refine q_top (y := 2) e15 ?_
          refine lv_tableIn (off := 79) (tgt := 93) hx hb dX10_wave_14 (by decide +kernel) (by decide +kernel) (by decide +kernel) (by decide) ?_
          refine lv_aload_n hx hb dX10_wave_93 rfl (lv_at hl 0 rfl) ?_
          refine q_get (v := .ref (b 0)) C inX10_wave_X10 hK hP 0 rfl rfl 3 (by decide) rfl LX10_wave_35 rfl dX10_wave_94 ?_
          refine q_getN (v := .ref (b 2)) C hN inX10_wave_X6 hK hP 11 rfl rfl 1 (by decide) rfl nwF_X10_119 rfl dX10_wave_97 ?_
          refine lv_iload_n hx hb dX10_wave_100 rfl (lv_at hl 1 rfl) ?_
          obtain ⟨g16, hB⟩ := guard_inv hB
          refine q_iald (x := ((s3.n.f 1) (Int32.toNatClampNeg x1))) C hK hP 13 1 rfl rfl (vpb_in g16) dX10_wave_101 rfl ?_
          exact q_iret C hr hlocks hK hP hD hS (Nat.le_of_ble_eq_true rfl) (Nat.le_of_ble_eq_true rfl) dX10_wave_102 (by cases hB; exact ⟨rfl, rfl⟩)
        · have hB := if_n hB e15
          by_cases e17 : x2 = 3
          · have hB := if_p hB e17
            refine q_top (y := 3) e17 ?_
            refine lv_tableIn (off := 89) (tgt := 103) hx hb dX10_wave_14 (by decide +kernel) (by decide +kernel) (by decide +kernel) (by decide) ?_
            refine lv_aload_n hx hb dX10_wave_103 rfl (lv_at hl 0 rfl) ?_
            refine q_get (v := .ref (b 0)) C inX10_wave_X10 hK hP 0 rfl rfl 3 (by decide) rfl LX10_wave_35 rfl dX10_wave_104 ?_
            refine q_getN (v := .ref (b 3)) C hN inX10_wave_X6 hK hP 11 rfl rfl 2 (by decide) rfl nwF_X10_122 rfl dX10_wave_107 ?_
            refine lv_iload_n hx hb dX10_wave_110 rfl (lv_at hl 1 rfl) ?_
            obtain ⟨g18, hB⟩ := guard_inv hB
            refine q_iald (x := ((s3.n.f 2) (Int32.toNatClampNeg x1))) C hK hP 14 1 rfl rfl (vpb_in g18) dX10_wave_111 rfl ?_
            exact q_iret C hr hlocks hK hP hD hS (Nat.le_of_ble_eq_true rfl) (Nat.le_of_ble_eq_true rfl) dX10_wave_112 (by cases hB; exact ⟨rfl, rfl⟩)
          · have hB := if_n hB e17
            by_cases e19 : x2 = 4
            · have hB := if_p hB e19
              refine q_top (y := 4) e19 ?_
              refine lv_tableIn (off := 99) (tgt := 113) hx hb dX10_wave_14 (by decide +kernel) (by decide +kernel) (by decide +kernel) (by decide) ?_
              refine lv_aload_n hx hb dX10_wave_113 rfl (lv_at hl 0 rfl) ?_
              refine q_get (v := .ref (a 35)) C inX10_wave_X10 hK hP 0 rfl rfl 6 (by decide) rfl LX10_wave_54 rfl dX10_wave_114 ?_
              refine lv_aload_n hx hb dX10_wave_117 rfl (lv_at hl 0 rfl) ?_
              refine q_get (v := .ref (b 0)) C inX10_wave_X10 hK hP 0 rfl rfl 3 (by decide) rfl LX10_wave_35 rfl dX10_wave_118 ?_
              refine lv_iload_n hx hb dX10_wave_121 rfl (lv_at hl 1 rfl) ?_
              obtain ⟨q_, s20, hc, hB⟩ := bindI_inv hB
              refine q_goi (wr := ((wG cZ cS a b b2 c0 rg sl s3.g) ++ (wD cI b2 s3.t))) (va_runVN (As := [.ref (b 0), .int x1]) (rest := []) C (ckX0_thereNow hc _) ⟨va_cnB 2 hts gX10_wave_X0_thereNow_n125 rfl rfl rfl (hN _ nwM_X10_125 rfl) (hts _ LX10_wave_I_X0) (by decide +kernel) ⟨Nat.le_of_ble_eq_true rfl, Nat.le_of_ble_eq_true rfl⟩, hts _ LX10_wave_N_X0_thereNow, hts _ LX10_wave_E_X0_thereNow⟩ (q_preV hK hP (ci := 0) (q0 := 52) rfl rfl rfl (q_pre hN hK hP hD [11, 12, 13, 14, 15, 16, 17, 18, 19, 20, 21, 22, 23, 24, 25, 26, 27, 28, 29, 30, 31, 32, 33, 34, 35, 36, 37, 38, 39, 40, 41, 42, 43, 44, 45, 46, 47, 48, 49, 50, 51, 52, 53, 54, 55, 56, 57, 58, 59, 60, 61, 62, 63] (by first | exact zqs_2X | rfl) zqn_2)) rfl rfl hl.1 rfl (lv_room (Nat.le_of_ble_eq_true rfl)) dX10_wave_122 ⟨Nat.le_of_ble_eq_true rfl, Nat.le_of_ble_eq_true rfl⟩) hP hD hS hA [11, 12, 13, 14, 15, 16, 17, 18, 19, 20, 21, 22, 23, 24, 25, 26, 27, 28, 29, 30, 31, 32, 33, 34, 35, 36, 37, 38, 39, 40, 41, 42, 43, 44, 45, 46, 47, 48, 49, 50, 51, 52, 53, 54, 55, 56, 57, 58, 59, 60, 61, 62, 63] [0, 1, 2, 3, 4, 5, 6, 7, 8, 9, 10] (by first | exact zqs_2X | rfl) (by first | exact zqs_3X | rfl) zqn_3 zqd_1 (fun r21 w1 H locs hw hP hD hS => ?_)
              obtain ⟨hq_, hw⟩ := hw; subst hw; subst hq_
              obtain ⟨s22, hs23, hB⟩ := letS_inv hB
              have hP : va_P (dC, dI) vwCl (wX cB cI cJ cZ cS a b b2 c0 rg sl s22) H := by subst hs23; exact hP
              have hD : va_D A (wX cB cI cJ cZ cS a b b2 c0 rg sl s22) := by subst hs23; exact hD
              exact q_iret C hr hlocks hK hP hD hS (Nat.le_of_ble_eq_true rfl) (Nat.le_of_ble_eq_true rfl) dX10_wave_125 (by cases hB; exact ⟨rfl, rfl⟩)
            · have hB := if_n hB e19
              by_cases e24 : x2 = 5
              · have hB := if_p hB e24
                refine q_top (y := 5) e24 ?_
                refine lv_tableIn (off := 112) (tgt := 126) hx hb dX10_wave_14 (by decide +kernel) (by decide +kernel) (by decide +kernel) (by decide) ?_
                refine lv_aload_n hx hb dX10_wave_126 rfl (lv_at hl 0 rfl) ?_
                refine q_get (v := .ref (a 35)) C inX10_wave_X10 hK hP 0 rfl rfl 6 (by decide) rfl LX10_wave_54 rfl dX10_wave_127 ?_
                refine lv_aload_n hx hb dX10_wave_130 rfl (lv_at hl 0 rfl) ?_
                refine q_get (v := .ref (b 0)) C inX10_wave_X10 hK hP 0 rfl rfl 3 (by decide) rfl LX10_wave_35 rfl dX10_wave_131 ?_
                refine lv_iload_n hx hb dX10_wave_134 rfl (lv_at hl 1 rfl) ?_
                obtain ⟨q_, s25, hc, hB⟩ := bindI_inv hB
                refine q_goi (wr := ((wG cZ cS a b b2 c0 rg sl s3.g) ++ (wD cI b2 s3.t))) (va_runVN (As := [.ref (b 0), .int x1]) (rest := []) C (ckX0_shiftsOf hc _) ⟨va_cnB 2 hts gX10_wave_X0_shiftsOf_n128 rfl rfl rfl (hN _ nwM_X10_128 rfl) (hts _ LX10_wave_I_X0) (by decide +kernel) ⟨Nat.le_of_ble_eq_true rfl, Nat.le_of_ble_eq_true rfl⟩, hts _ LX10_wave_N_X0_shiftsOf, hts _ LX10_wave_E_X0_shiftsOf⟩ (q_preV hK hP (ci := 0) (q0 := 52) rfl rfl rfl (q_pre hN hK hP hD [11, 12, 13, 14, 15, 16, 17, 18, 19, 20, 21, 22, 23, 24, 25, 26, 27, 28, 29, 30, 31, 32, 33, 34, 35, 36, 37, 38, 39, 40, 41, 42, 43, 44, 45, 46, 47, 48, 49, 50, 51, 52, 53, 54, 55, 56, 57, 58, 59, 60, 61, 62, 63] (by first | exact zqs_2X | rfl) zqn_2)) rfl rfl hl.1 rfl (lv_room (Nat.le_of_ble_eq_true rfl)) dX10_wave_135 ⟨Nat.le_of_ble_eq_true rfl, Nat.le_of_ble_eq_true rfl⟩) hP hD hS hA [11, 12, 13, 14, 15, 16, 17, 18, 19, 20, 21, 22, 23, 24, 25, 26, 27, 28, 29, 30, 31, 32, 33, 34, 35, 36, 37, 38, 39, 40, 41, 42, 43, 44, 45, 46, 47, 48, 49, 50, 51, 52, 53, 54, 55, 56, 57, 58, 59, 60, 61, 62, 63] [0, 1, 2, 3, 4, 5, 6, 7, 8, 9, 10] (by first | exact zqs_2X | rfl) (by first | exact zqs_3X | rfl) zqn_3 zqd_1 (fun r26 w1 H locs hw hP hD hS => ?_)
                obtain ⟨hq_, hw⟩ := hw; subst hw; subst hq_
                obtain ⟨s27, hs28, hB⟩ := letS_inv hB
                have hP : va_P (dC, dI) vwCl (wX cB cI cJ cZ cS a b b2 c0 rg sl s27) H := by subst hs28; exact hP
                have hD : va_D A (wX cB cI cJ cZ cS a b b2 c0 rg sl s27) := by subst hs28; exact hD
                exact q_iret C hr hlocks hK hP hD hS (Nat.le_of_ble_eq_true rfl) (Nat.le_of_ble_eq_true rfl) dX10_wave_138 (by cases hB; exact ⟨rfl, rfl⟩)
              · have hB := if_n hB e24
                refine lv_tableOut (tgt := 139) hx hb dX10_wave_14 (by have := ne_toInt (k := 0) rfl e6; have := ne_toInt (k := 1) rfl e11; have := ne_toInt (k := 2) rfl e15; have := ne_toInt (k := 3) rfl e17; have := ne_toInt (k := 4) rfl e19; have := ne_toInt (k := 5) rfl e24; omega) (by decide) ?_
                refine lv_iconst (v := (-1)) hx hb dX10_wave_139 (by decide) ?_
                exact q_iret C hr hlocks hK hP hD hS (Nat.le_of_ble_eq_true rfl) (Nat.le_of_ble_eq_true rfl) dX10_wave_140 (by cases hB; exact ⟨rfl, rfl⟩)
  · have hB := if_p hB c5
    refine lv_iconst (v := (-1)) hx hb dX10_wave_11 (by decide) ?_
    exact q_iret C hr hlocks hK hP hD hS (Nat.le_of_ble_eq_true rfl) (Nat.le_of_ble_eq_true rfl) dX10_wave_12 (by cases hB; exact ⟨rfl, rfl⟩)
theorem ckX10_wave {l : Launch} {dC : Nat → ClassId} {dI : Nat → Nat → Nat} {cB cI cJ cZ cS : ClassId} {a b b2 c0 : Nat → Nat} {rg sl : Nat → Option Nat} {r : Int32} {s' : XS} {s : XS} {x1 : Int32} {x2 : Int32} (hB : kX10_wave s x1 x2 = some (r, s')) : CI l yX10_wave wsX10_wave ({ frames := 4, cells := 0, slots := 0, locals := 98 }) (dC, dI) (tysA cB cI cJ cZ cS) (wX cB cI cJ cZ cS a b b2 c0 rg sl s) [.ref (c0 0), .int x1, .int x2] (fun x u => x = r ∧ u = (wX cB cI cJ cZ cS a b b2 c0 rg sl s')) :=
  CI_of (cc := cX10_wave) (maxL := 3) (ret := (some .int)) (by decide) rfl (Nat.le_of_ble_eq_true rfl) (bkX10_wave _ _ _ hB)
theorem LX10_party_19 : Cond.fieldLink RX10 19 "GuessFerry" "sound" "LGuessFerry$Sound;" ∈ wsX10_party := (List.mem_cons_of_mem _ (List.mem_append_left _ (List.mem_append_left _ (List.mem_append_left _ (List.mem_append_left _ (List.mem_append_left _ (List.mem_append_left _ (List.mem_of_getElem? (i := 0) rfl))))))))
theorem LX10_party_35 : Cond.fieldLink RX10 35 "GuessFerry" "now" "LGuessFerry$Standing;" ∈ wsX10_party := (List.mem_cons_of_mem _ (List.mem_append_left _ (List.mem_append_left _ (List.mem_append_left _ (List.mem_append_left _ (List.mem_append_left _ (List.mem_append_left _ (List.mem_of_getElem? (i := 1) rfl))))))))
theorem LX10_party_54 : Cond.fieldLink RX10 54 "GuessFerry" "crossing" "LGuessFerry$Crossing;" ∈ wsX10_party := (List.mem_cons_of_mem _ (List.mem_append_left _ (List.mem_append_left _ (List.mem_append_left _ (List.mem_append_left _ (List.mem_append_left _ (List.mem_append_left _ (List.mem_of_getElem? (i := 2) rfl))))))))
theorem LX10_party_E_X0_fareOf : Cond.selects RX0 yX0_fareOf yX0_fareOf ∈ wsX10_party := (List.mem_cons_of_mem _ (List.mem_append_left _ (List.mem_append_left _ (List.mem_append_left _ (List.mem_append_left _ (List.mem_append_left _ (List.mem_append_left _ (List.mem_of_getElem? (i := 8) rfl))))))))
theorem LX10_party_E_X0_isDaring : Cond.selects RX0 yX0_isDaring yX0_isDaring ∈ wsX10_party := (List.mem_cons_of_mem _ (List.mem_append_left _ (List.mem_append_left _ (List.mem_append_left _ (List.mem_append_left _ (List.mem_append_left _ (List.mem_append_left _ (List.mem_of_getElem? (i := 10) rfl))))))))
theorem LX10_party_E_X5_hasParty : Cond.selects RX5 yX5_hasParty yX5_hasParty ∈ wsX10_party := (List.mem_cons_of_mem _ (List.mem_append_left _ (List.mem_append_left _ (List.mem_append_left _ (List.mem_append_left _ (List.mem_append_left _ (List.mem_append_left _ (List.mem_of_getElem? (i := 5) rfl))))))))
theorem LX10_party_I_X0 : Cond.initialized RX0 ∈ wsX10_party := (List.mem_cons_of_mem _ (List.mem_append_left _ (List.mem_append_left _ (List.mem_append_left _ (List.mem_append_left _ (List.mem_append_left _ (List.mem_append_left _ (List.mem_of_getElem? (i := 7) rfl))))))))
theorem LX10_party_I_X5 : Cond.initialized RX5 ∈ wsX10_party := (List.mem_cons_of_mem _ (List.mem_append_left _ (List.mem_append_left _ (List.mem_append_left _ (List.mem_append_left _ (List.mem_append_left _ (List.mem_append_left _ (List.mem_of_getElem? (i := 4) rfl))))))))
theorem LX10_party_N_X0_fareOf : Cond.instanceMethod yX0_fareOf ∈ wsX10_party := (List.mem_cons_of_mem _ (List.mem_append_left _ (List.mem_append_left _ (List.mem_append_left _ (List.mem_append_left _ (List.mem_append_left _ (List.mem_append_left _ (List.mem_of_getElem? (i := 6) rfl))))))))
theorem LX10_party_N_X0_isDaring : Cond.instanceMethod yX0_isDaring ∈ wsX10_party := (List.mem_cons_of_mem _ (List.mem_append_left _ (List.mem_append_left _ (List.mem_append_left _ (List.mem_append_left _ (List.mem_append_left _ (List.mem_append_left _ (List.mem_of_getElem? (i := 9) rfl))))))))
theorem LX10_party_N_X5_hasParty : Cond.instanceMethod yX5_hasParty ∈ wsX10_party := (List.mem_cons_of_mem _ (List.mem_append_left _ (List.mem_append_left _ (List.mem_append_left _ (List.mem_append_left _ (List.mem_append_left _ (List.mem_append_left _ (List.mem_of_getElem? (i := 3) rfl))))))))
theorem inX10_party_X10 : ∀ w ∈ u_ws RX10 TX10 9, w ∈ wsX10_party := fun w h => (List.mem_cons_of_mem _ (List.mem_append_left _ (List.mem_append_left _ (List.mem_append_left _ (List.mem_append_left _ (List.mem_append_right _ h))))))
theorem inX10_party_X5 : ∀ w ∈ u_ws RX5 TX5 10, w ∈ wsX10_party := fun w h => (List.mem_cons_of_mem _ (List.mem_append_left _ (List.mem_append_left _ (List.mem_append_left _ (List.mem_append_right _ h)))))
theorem inX10_party_X6 : ∀ w ∈ u_ws RX6 TX6 7, w ∈ wsX10_party := fun w h => (List.mem_cons_of_mem _ (List.mem_append_left _ (List.mem_append_left _ (List.mem_append_right _ h))))
set_option maxHeartbeats 4000000 in
set_option maxRecDepth 100000 in
theorem bkX10_party {l : Launch} {dC : Nat → ClassId} {dI : Nat → Nat → Nat} {cB cI cJ cZ cS : ClassId} {a b b2 c0 : Nat → Nat} {rg sl : Nat → Option Nat} {as : List Value} {r : Int32} {s' : XS} (s : XS) (x1 : Int32) (x2 : Int32) (hB : kX10_party s x1 x2 = some (r, s')) : BlkI l yX10_party wsX10_party ({ frames := 4, cells := 0, slots := 0, locals := 98 }) cX10_party 3 (some .int) (dC, dI) (tysA cB cI cJ cZ cS) as 0 (wX cB cI cJ cZ cS a b b2 c0 rg sl s) [(0, .ref (c0 0)), (1, .int x1), (2, .int x2)] [] (fun x u => x = r ∧ u = (wX cB cI cJ cZ cS a b b2 c0 rg sl s')) := by
  intro p e s0 m below meth c A E H locs ls hP hD hS hl
  obtain ⟨C, hr, hlocks, hA, hK, hN⟩ := id E
  obtain ⟨hx, hb, hml, hown, hts⟩ := id C
  unfold kX10_party at hB
  refine lv_aload_n hx hb dX10_party_0 rfl (lv_at hl 0 rfl) ?_
  refine q_get (v := .ref (a 2)) C inX10_party_X10 hK hP 0 rfl rfl 1 (by decide) rfl LX10_party_19 rfl dX10_party_1 ?_
  refine lv_iload_n hx hb dX10_party_4 rfl (lv_at hl 1 rfl) ?_
  obtain ⟨q_, s1, hc, hB⟩ := bindI_inv hB
  refine q_goi (wr := ((wG cZ cS a b b2 c0 rg sl s.g) ++ (wD cI b2 s.t) ++ (wD cI b s.n))) (va_runVN (As := [.int x1]) (rest := []) C (ckX5_hasParty hc _) ⟨va_cnB 1 hts gX10_party_X5_hasParty_n138 rfl rfl rfl (hN _ nwM_X10_138 rfl) (hts _ LX10_party_I_X5) (by decide +kernel) ⟨Nat.le_of_ble_eq_true rfl, Nat.le_of_ble_eq_true rfl⟩, hts _ LX10_party_N_X5_hasParty, hts _ LX10_party_E_X5_hasParty⟩ (q_preV hK hP (ci := 5) (q0 := 19) rfl rfl rfl (q_pre hN hK hP hD [17, 18, 19, 20, 21, 22, 23, 24, 25, 26, 27, 28, 29, 30, 31, 32, 33, 34, 35, 36, 37, 38, 39, 40, 41, 42, 43, 44, 45, 46, 47, 48, 49, 50, 51, 52, 53, 54, 55, 56, 57, 58, 59, 60, 61, 62, 63] (by first | exact zqs_0X | rfl) zqn_0)) rfl rfl hl.1 rfl (lv_room (Nat.le_of_ble_eq_true rfl)) dX10_party_5 ⟨Nat.le_of_ble_eq_true rfl, Nat.le_of_ble_eq_true rfl⟩) hP hD hS hA [17, 18, 19, 20, 21, 22, 23, 24, 25, 26, 27, 28, 29, 30, 31, 32, 33, 34, 35, 36, 37, 38, 39, 40, 41, 42, 43, 44, 45, 46, 47, 48, 49, 50, 51, 52, 53, 54, 55, 56, 57, 58, 59, 60, 61, 62, 63] [0, 1, 2, 3, 4, 5, 6, 7, 8, 9, 10, 11, 12, 13, 14, 15, 16] (by first | exact zqs_0X | rfl) (by first | exact zqs_1X | rfl) zqn_1 zqd_0 (fun r2 w1 H locs hw hP hD hS => ?_)
  obtain ⟨hq_, hw⟩ := hw; subst hw; subst hq_
  obtain ⟨s3, hs4, hB⟩ := letS_inv hB
  have hP : va_P (dC, dI) vwCl (wX cB cI cJ cZ cS a b b2 c0 rg sl s3) H := by subst hs4; exact hP
  have hD : va_D A (wX cB cI cJ cZ cS a b b2 c0 rg sl s3) := by subst hs4; exact hD
  refine lv_if_ne (tgt := 13) hx hb dX10_party_8 (by decide) (fun c5 => ?_) (fun c5 => ?_)
  · have hB := if_n hB c5
    refine lv_iload_n hx hb dX10_party_13 rfl (lv_at hl 2 rfl) ?_
    by_cases e6 : x2 = 0
    · have hB := if_p hB e6
      refine q_top (y := 0) e6 ?_
      refine lv_tableIn (off := 38) (tgt := 52) hx hb dX10_party_14 (by decide +kernel) (by decide +kernel) (by decide +kernel) (by decide) ?_
      refine lv_aload_n hx hb dX10_party_52 rfl (lv_at hl 0 rfl) ?_
      refine q_get (v := .ref (a 2)) C inX10_party_X10 hK hP 0 rfl rfl 1 (by decide) rfl LX10_party_19 rfl dX10_party_53 ?_
      refine q_getN (v := .ref (a 6)) C hN inX10_party_X5 hK hP 19 rfl rfl 3 (by decide) rfl nwF_X10_141 rfl dX10_party_56 ?_
      refine lv_iload_n hx hb dX10_party_59 rfl (lv_at hl 1 rfl) ?_
      obtain ⟨g7, hB⟩ := guard_inv hB
      refine q_iald (x := ((s3.k.f 6) (Int32.toNatClampNeg x1))) C hK hP 23 1 rfl rfl (vpb_in g7) dX10_party_60 rfl ?_
      exact q_iret C hr hlocks hK hP hD hS (Nat.le_of_ble_eq_true rfl) (Nat.le_of_ble_eq_true rfl) dX10_party_61 (by cases hB; exact ⟨rfl, rfl⟩)
    · have hB := if_n hB e6
      by_cases e8 : x2 = 1
      · have hB := if_p hB e8
        refine q_top (y := 1) e8 ?_
        refine lv_tableIn (off := 48) (tgt := 62) hx hb dX10_party_14 (by decide +kernel) (by decide +kernel) (by decide +kernel) (by decide) ?_
        refine lv_aload_n hx hb dX10_party_62 rfl (lv_at hl 0 rfl) ?_
        refine q_get (v := .ref (a 2)) C inX10_party_X10 hK hP 0 rfl rfl 1 (by decide) rfl LX10_party_19 rfl dX10_party_63 ?_
        refine q_getN (v := .ref (a 7)) C hN inX10_party_X5 hK hP 19 rfl rfl 4 (by decide) rfl nwF_X10_144 rfl dX10_party_66 ?_
        refine lv_iload_n hx hb dX10_party_69 rfl (lv_at hl 1 rfl) ?_
        obtain ⟨g9, hB⟩ := guard_inv hB
        refine q_iald (x := ((s3.k.f 7) (Int32.toNatClampNeg x1))) C hK hP 24 1 rfl rfl (vpb_in g9) dX10_party_70 rfl ?_
        exact q_iret C hr hlocks hK hP hD hS (Nat.le_of_ble_eq_true rfl) (Nat.le_of_ble_eq_true rfl) dX10_party_71 (by cases hB; exact ⟨rfl, rfl⟩)
      · have hB := if_n hB e8
        by_cases e10 : x2 = 2
        · have hB := if_p hB e10
          refine q_top (y := 2) e10 ?_
          refine lv_tableIn (off := 58) (tgt := 72) hx hb dX10_party_14 (by decide +kernel) (by decide +kernel) (by decide +kernel) (by decide) ?_
          refine lv_aload_n hx hb dX10_party_72 rfl (lv_at hl 0 rfl) ?_
          refine q_get (v := .ref (b 0)) C inX10_party_X10 hK hP 0 rfl rfl 3 (by decide) rfl LX10_party_35 rfl dX10_party_73 ?_
          refine q_getN (v := .ref (b 4)) C hN inX10_party_X6 hK hP 11 rfl rfl 3 (by decide) rfl nwF_X10_147 rfl dX10_party_76 ?_
          refine lv_iload_n hx hb dX10_party_79 rfl (lv_at hl 1 rfl) ?_
          obtain ⟨g11, hB⟩ := guard_inv hB
          refine q_iald (x := ((s3.n.f 3) (Int32.toNatClampNeg x1))) C hK hP 15 1 rfl rfl (vpb_in g11) dX10_party_80 rfl ?_
          exact q_iret C hr hlocks hK hP hD hS (Nat.le_of_ble_eq_true rfl) (Nat.le_of_ble_eq_true rfl) dX10_party_81 (by cases hB; exact ⟨rfl, rfl⟩)
        · have hB := if_n hB e10
          by_cases e12 : x2 = 3
          · have hB := if_p hB e12
            refine q_top (y := 3) e12 ?_
            refine lv_tableIn (off := 68) (tgt := 82) hx hb dX10_party_14 (by decide +kernel) (by decide +kernel) (by decide +kernel) (by decide) ?_
            refine lv_aload_n hx hb dX10_party_82 rfl (lv_at hl 0 rfl) ?_
            refine q_get (v := .ref (b 0)) C inX10_party_X10 hK hP 0 rfl rfl 3 (by decide) rfl LX10_party_35 rfl dX10_party_83 ?_
            refine q_getN (v := .ref (b 5)) C hN inX10_party_X6 hK hP 11 rfl rfl 4 (by decide) rfl nwF_X10_150 rfl dX10_party_86 ?_
            refine lv_iload_n hx hb dX10_party_89 rfl (lv_at hl 1 rfl) ?_
            obtain ⟨g13, hB⟩ := guard_inv hB
            refine q_iald (x := ((s3.n.f 4) (Int32.toNatClampNeg x1))) C hK hP 16 1 rfl rfl (vpb_in g13) dX10_party_90 rfl ?_
            exact q_iret C hr hlocks hK hP hD hS (Nat.le_of_ble_eq_true rfl) (Nat.le_of_ble_eq_true rfl) dX10_party_91 (by cases hB; exact ⟨rfl, rfl⟩)
          · have hB := if_n hB e12
            by_cases e14 : x2 = 4
            · have hB := if_p hB e14
              refine q_top (y := 4) e14 ?_
              refine lv_tableIn (off := 78) (tgt := 92) hx hb dX10_party_14 (by decide +kernel) (by decide +kernel) (by decide +kernel) (by decide) ?_
              refine lv_aload_n hx hb dX10_party_92 rfl (lv_at hl 0 rfl) ?_
              refine q_get (v := .ref (a 35)) C inX10_party_X10 hK hP 0 rfl rfl 6 (by decide) rfl LX10_party_54 rfl dX10_party_93 ?_
              refine lv_aload_n hx hb dX10_party_96 rfl (lv_at hl 0 rfl) ?_
              refine q_get (v := .ref (b 0)) C inX10_party_X10 hK hP 0 rfl rfl 3 (by decide) rfl LX10_party_35 rfl dX10_party_97 ?_
              refine lv_iload_n hx hb dX10_party_100 rfl (lv_at hl 1 rfl) ?_
              obtain ⟨q_, s15, hc, hB⟩ := bindI_inv hB
              refine q_goi (wr := ((wG cZ cS a b b2 c0 rg sl s3.g) ++ (wD cI b2 s3.t))) (va_runVN (As := [.ref (b 0), .int x1]) (rest := []) C (ckX0_fareOf hc _) ⟨va_cnB 2 hts gX10_party_X0_fareOf_n153 rfl rfl rfl (hN _ nwM_X10_153 rfl) (hts _ LX10_party_I_X0) (by decide +kernel) ⟨Nat.le_of_ble_eq_true rfl, Nat.le_of_ble_eq_true rfl⟩, hts _ LX10_party_N_X0_fareOf, hts _ LX10_party_E_X0_fareOf⟩ (q_preV hK hP (ci := 0) (q0 := 52) rfl rfl rfl (q_pre hN hK hP hD [11, 12, 13, 14, 15, 16, 17, 18, 19, 20, 21, 22, 23, 24, 25, 26, 27, 28, 29, 30, 31, 32, 33, 34, 35, 36, 37, 38, 39, 40, 41, 42, 43, 44, 45, 46, 47, 48, 49, 50, 51, 52, 53, 54, 55, 56, 57, 58, 59, 60, 61, 62, 63] (by first | exact zqs_2X | rfl) zqn_2)) rfl rfl hl.1 rfl (lv_room (Nat.le_of_ble_eq_true rfl)) dX10_party_101 ⟨Nat.le_of_ble_eq_true rfl, Nat.le_of_ble_eq_true rfl⟩) hP hD hS hA [11, 12, 13, 14, 15, 16, 17, 18, 19, 20, 21, 22, 23, 24, 25, 26, 27, 28, 29, 30, 31, 32, 33, 34, 35, 36, 37, 38, 39, 40, 41, 42, 43, 44, 45, 46, 47, 48, 49, 50, 51, 52, 53, 54, 55, 56, 57, 58, 59, 60, 61, 62, 63] [0, 1, 2, 3, 4, 5, 6, 7, 8, 9, 10] (by first | exact zqs_2X | rfl) (by first | exact zqs_3X | rfl) zqn_3 zqd_1 (fun r16 w1 H locs hw hP hD hS => ?_)
              obtain ⟨hq_, hw⟩ := hw; subst hw; subst hq_
              obtain ⟨s17, hs18, hB⟩ := letS_inv hB
              have hP : va_P (dC, dI) vwCl (wX cB cI cJ cZ cS a b b2 c0 rg sl s17) H := by subst hs18; exact hP
              have hD : va_D A (wX cB cI cJ cZ cS a b b2 c0 rg sl s17) := by subst hs18; exact hD
              exact q_iret C hr hlocks hK hP hD hS (Nat.le_of_ble_eq_true rfl) (Nat.le_of_ble_eq_true rfl) dX10_party_104 (by cases hB; exact ⟨rfl, rfl⟩)
            · have hB := if_n hB e14
              by_cases e19 : x2 = 5
              · have hB := if_p hB e19
                refine q_top (y := 5) e19 ?_
                refine lv_tableIn (off := 91) (tgt := 105) hx hb dX10_party_14 (by decide +kernel) (by decide +kernel) (by decide +kernel) (by decide) ?_
                refine lv_aload_n hx hb dX10_party_105 rfl (lv_at hl 0 rfl) ?_
                refine q_get (v := .ref (a 35)) C inX10_party_X10 hK hP 0 rfl rfl 6 (by decide) rfl LX10_party_54 rfl dX10_party_106 ?_
                refine lv_aload_n hx hb dX10_party_109 rfl (lv_at hl 0 rfl) ?_
                refine q_get (v := .ref (b 0)) C inX10_party_X10 hK hP 0 rfl rfl 3 (by decide) rfl LX10_party_35 rfl dX10_party_110 ?_
                refine lv_iload_n hx hb dX10_party_113 rfl (lv_at hl 1 rfl) ?_
                obtain ⟨q_, s20, hc, hB⟩ := bindI_inv hB
                refine q_goi (wr := ((wG cZ cS a b b2 c0 rg sl s3.g) ++ (wD cI b2 s3.t))) (va_runVN (As := [.ref (b 0), .int x1]) (rest := []) C (ckX0_isDaring hc _) ⟨va_cnB 2 hts gX10_party_X0_isDaring_n156 rfl rfl rfl (hN _ nwM_X10_156 rfl) (hts _ LX10_party_I_X0) (by decide +kernel) ⟨Nat.le_of_ble_eq_true rfl, Nat.le_of_ble_eq_true rfl⟩, hts _ LX10_party_N_X0_isDaring, hts _ LX10_party_E_X0_isDaring⟩ (q_preV hK hP (ci := 0) (q0 := 52) rfl rfl rfl (q_pre hN hK hP hD [11, 12, 13, 14, 15, 16, 17, 18, 19, 20, 21, 22, 23, 24, 25, 26, 27, 28, 29, 30, 31, 32, 33, 34, 35, 36, 37, 38, 39, 40, 41, 42, 43, 44, 45, 46, 47, 48, 49, 50, 51, 52, 53, 54, 55, 56, 57, 58, 59, 60, 61, 62, 63] (by first | exact zqs_2X | rfl) zqn_2)) rfl rfl hl.1 rfl (lv_room (Nat.le_of_ble_eq_true rfl)) dX10_party_114 ⟨Nat.le_of_ble_eq_true rfl, Nat.le_of_ble_eq_true rfl⟩) hP hD hS hA [11, 12, 13, 14, 15, 16, 17, 18, 19, 20, 21, 22, 23, 24, 25, 26, 27, 28, 29, 30, 31, 32, 33, 34, 35, 36, 37, 38, 39, 40, 41, 42, 43, 44, 45, 46, 47, 48, 49, 50, 51, 52, 53, 54, 55, 56, 57, 58, 59, 60, 61, 62, 63] [0, 1, 2, 3, 4, 5, 6, 7, 8, 9, 10] (by first | exact zqs_2X | rfl) (by first | exact zqs_3X | rfl) zqn_3 zqd_1 (fun r21 w1 H locs hw hP hD hS => ?_)
                obtain ⟨hq_, hw⟩ := hw; subst hw; subst hq_
                obtain ⟨s22, hs23, hB⟩ := letS_inv hB
                have hP : va_P (dC, dI) vwCl (wX cB cI cJ cZ cS a b b2 c0 rg sl s22) H := by subst hs23; exact hP
                have hD : va_D A (wX cB cI cJ cZ cS a b b2 c0 rg sl s22) := by subst hs23; exact hD
                refine lv_if_eq (tgt := 124) hx hb dX10_party_117 (by decide) (fun c24 => ?_) (fun c24 => ?_)
                · have hB := if_p hB c24
                  refine lv_iconst (v := 0) hx hb dX10_party_124 (by decide) ?_
                  exact q_iret C hr hlocks hK hP hD hS (Nat.le_of_ble_eq_true rfl) (Nat.le_of_ble_eq_true rfl) dX10_party_125 (by cases hB; exact ⟨rfl, rfl⟩)
                · have hB := if_n hB c24
                  refine lv_iconst (v := 1) hx hb dX10_party_120 (by decide) ?_
                  refine lv_goto (tgt := 125) hx hb dX10_party_121 (by decide) ?_
                  exact q_iret C hr hlocks hK hP hD hS (Nat.le_of_ble_eq_true rfl) (Nat.le_of_ble_eq_true rfl) dX10_party_125 (by cases hB; exact ⟨rfl, rfl⟩)
              · have hB := if_n hB e19
                refine lv_tableOut (tgt := 126) hx hb dX10_party_14 (by have := ne_toInt (k := 0) rfl e6; have := ne_toInt (k := 1) rfl e8; have := ne_toInt (k := 2) rfl e10; have := ne_toInt (k := 3) rfl e12; have := ne_toInt (k := 4) rfl e14; have := ne_toInt (k := 5) rfl e19; omega) (by decide) ?_
                refine lv_iconst (v := (-1)) hx hb dX10_party_126 (by decide) ?_
                exact q_iret C hr hlocks hK hP hD hS (Nat.le_of_ble_eq_true rfl) (Nat.le_of_ble_eq_true rfl) dX10_party_127 (by cases hB; exact ⟨rfl, rfl⟩)
  · have hB := if_p hB c5
    refine lv_iconst (v := (-1)) hx hb dX10_party_11 (by decide) ?_
    exact q_iret C hr hlocks hK hP hD hS (Nat.le_of_ble_eq_true rfl) (Nat.le_of_ble_eq_true rfl) dX10_party_12 (by cases hB; exact ⟨rfl, rfl⟩)
theorem ckX10_party {l : Launch} {dC : Nat → ClassId} {dI : Nat → Nat → Nat} {cB cI cJ cZ cS : ClassId} {a b b2 c0 : Nat → Nat} {rg sl : Nat → Option Nat} {r : Int32} {s' : XS} {s : XS} {x1 : Int32} {x2 : Int32} (hB : kX10_party s x1 x2 = some (r, s')) : CI l yX10_party wsX10_party ({ frames := 4, cells := 0, slots := 0, locals := 98 }) (dC, dI) (tysA cB cI cJ cZ cS) (wX cB cI cJ cZ cS a b b2 c0 rg sl s) [.ref (c0 0), .int x1, .int x2] (fun x u => x = r ∧ u = (wX cB cI cJ cZ cS a b b2 c0 rg sl s')) :=
  CI_of (cc := cX10_party) (maxL := 3) (ret := (some .int)) (by decide) rfl (Nat.le_of_ble_eq_true rfl) (bkX10_party _ _ _ hB)
theorem LX10_needs_19 : Cond.fieldLink RX10 19 "GuessFerry" "sound" "LGuessFerry$Sound;" ∈ wsX10_needs := (List.mem_cons_of_mem _ (List.mem_append_left _ (List.mem_append_left _ (List.mem_append_left _ (List.mem_append_left _ (List.mem_append_left _ (List.mem_append_left _ (List.mem_of_getElem? (i := 0) rfl))))))))
theorem LX10_needs_35 : Cond.fieldLink RX10 35 "GuessFerry" "now" "LGuessFerry$Standing;" ∈ wsX10_needs := (List.mem_cons_of_mem _ (List.mem_append_left _ (List.mem_append_left _ (List.mem_append_left _ (List.mem_append_left _ (List.mem_append_left _ (List.mem_append_left _ (List.mem_of_getElem? (i := 2) rfl))))))))
theorem LX10_needs_54 : Cond.fieldLink RX10 54 "GuessFerry" "crossing" "LGuessFerry$Crossing;" ∈ wsX10_needs := (List.mem_cons_of_mem _ (List.mem_append_left _ (List.mem_append_left _ (List.mem_append_left _ (List.mem_append_left _ (List.mem_append_left _ (List.mem_append_left _ (List.mem_of_getElem? (i := 1) rfl))))))))
theorem LX10_needs_E_X0_needOf : Cond.selects RX0 yX0_needOf yX0_needOf ∈ wsX10_needs := (List.mem_cons_of_mem _ (List.mem_append_left _ (List.mem_append_left _ (List.mem_append_left _ (List.mem_append_left _ (List.mem_append_left _ (List.mem_append_left _ (List.mem_of_getElem? (i := 13) rfl))))))))
theorem LX10_needs_E_X5_hasParty : Cond.selects RX5 yX5_hasParty yX5_hasParty ∈ wsX10_needs := (List.mem_cons_of_mem _ (List.mem_append_left _ (List.mem_append_left _ (List.mem_append_left _ (List.mem_append_left _ (List.mem_append_left _ (List.mem_append_left _ (List.mem_of_getElem? (i := 5) rfl))))))))
theorem LX10_needs_E_X5_hasWave : Cond.selects RX5 yX5_hasWave yX5_hasWave ∈ wsX10_needs := (List.mem_cons_of_mem _ (List.mem_append_left _ (List.mem_append_left _ (List.mem_append_left _ (List.mem_append_left _ (List.mem_append_left _ (List.mem_append_left _ (List.mem_of_getElem? (i := 7) rfl))))))))
theorem LX10_needs_I_X0 : Cond.initialized RX0 ∈ wsX10_needs := (List.mem_cons_of_mem _ (List.mem_append_left _ (List.mem_append_left _ (List.mem_append_left _ (List.mem_append_left _ (List.mem_append_left _ (List.mem_append_left _ (List.mem_of_getElem? (i := 12) rfl))))))))
theorem LX10_needs_I_X5 : Cond.initialized RX5 ∈ wsX10_needs := (List.mem_cons_of_mem _ (List.mem_append_left _ (List.mem_append_left _ (List.mem_append_left _ (List.mem_append_left _ (List.mem_append_left _ (List.mem_append_left _ (List.mem_of_getElem? (i := 4) rfl))))))))
theorem LX10_needs_N_X0_needOf : Cond.instanceMethod yX0_needOf ∈ wsX10_needs := (List.mem_cons_of_mem _ (List.mem_append_left _ (List.mem_append_left _ (List.mem_append_left _ (List.mem_append_left _ (List.mem_append_left _ (List.mem_append_left _ (List.mem_of_getElem? (i := 11) rfl))))))))
theorem LX10_needs_N_X5_hasParty : Cond.instanceMethod yX5_hasParty ∈ wsX10_needs := (List.mem_cons_of_mem _ (List.mem_append_left _ (List.mem_append_left _ (List.mem_append_left _ (List.mem_append_left _ (List.mem_append_left _ (List.mem_append_left _ (List.mem_of_getElem? (i := 3) rfl))))))))
theorem LX10_needs_N_X5_hasWave : Cond.instanceMethod yX5_hasWave ∈ wsX10_needs := (List.mem_cons_of_mem _ (List.mem_append_left _ (List.mem_append_left _ (List.mem_append_left _ (List.mem_append_left _ (List.mem_append_left _ (List.mem_append_left _ (List.mem_of_getElem? (i := 6) rfl))))))))
theorem inX10_needs_X10 : ∀ w ∈ u_ws RX10 TX10 9, w ∈ wsX10_needs := fun w h => (List.mem_cons_of_mem _ (List.mem_append_left _ (List.mem_append_left _ (List.mem_append_left _ (List.mem_append_left _ (List.mem_append_right _ h))))))
set_option maxHeartbeats 4000000 in
set_option maxRecDepth 100000 in
theorem bkX10_needs {l : Launch} {dC : Nat → ClassId} {dI : Nat → Nat → Nat} {cB cI cJ cZ cS : ClassId} {a b b2 c0 : Nat → Nat} {rg sl : Nat → Option Nat} {as : List Value} {r : Int32} {s' : XS} (s : XS) (x1 : Int32) (x2 : Int32) (x3 : Int32) (hB : kX10_needs s x1 x2 x3 = some (r, s')) : BlkI l yX10_needs wsX10_needs ({ frames := 4, cells := 0, slots := 0, locals := 100 }) cX10_needs 4 (some .int) (dC, dI) (tysA cB cI cJ cZ cS) as 0 (wX cB cI cJ cZ cS a b b2 c0 rg sl s) [(0, .ref (c0 0)), (1, .int x1), (2, .int x2), (3, .int x3)] [] (fun x u => x = r ∧ u = (wX cB cI cJ cZ cS a b b2 c0 rg sl s')) := by
  intro p e s0 m below meth c A E H locs ls hP hD hS hl
  obtain ⟨C, hr, hlocks, hA, hK, hN⟩ := id E
  obtain ⟨hx, hb, hml, hown, hts⟩ := id C
  unfold kX10_needs at hB
  refine lv_aload_n hx hb dX10_needs_0 rfl (lv_at hl 0 rfl) ?_
  refine q_get (v := .ref (a 2)) C inX10_needs_X10 hK hP 0 rfl rfl 1 (by decide) rfl LX10_needs_19 rfl dX10_needs_1 ?_
  refine lv_iload_n hx hb dX10_needs_4 rfl (lv_at hl 1 rfl) ?_
  obtain ⟨q_, s1, hc, hB⟩ := bindI_inv hB
  refine q_goi (wr := ((wG cZ cS a b b2 c0 rg sl s.g) ++ (wD cI b2 s.t) ++ (wD cI b s.n))) (va_runVN (As := [.int x1]) (rest := []) C (ckX5_hasParty hc _) ⟨va_cnB 1 hts gX10_needs_X5_hasParty_n138 rfl rfl rfl (hN _ nwM_X10_138 rfl) (hts _ LX10_needs_I_X5) (by decide +kernel) ⟨Nat.le_of_ble_eq_true rfl, Nat.le_of_ble_eq_true rfl⟩, hts _ LX10_needs_N_X5_hasParty, hts _ LX10_needs_E_X5_hasParty⟩ (q_preV hK hP (ci := 5) (q0 := 19) rfl rfl rfl (q_pre hN hK hP hD [17, 18, 19, 20, 21, 22, 23, 24, 25, 26, 27, 28, 29, 30, 31, 32, 33, 34, 35, 36, 37, 38, 39, 40, 41, 42, 43, 44, 45, 46, 47, 48, 49, 50, 51, 52, 53, 54, 55, 56, 57, 58, 59, 60, 61, 62, 63] (by first | exact zqs_0X | rfl) zqn_0)) rfl rfl hl.1 rfl (lv_room (Nat.le_of_ble_eq_true rfl)) dX10_needs_5 ⟨Nat.le_of_ble_eq_true rfl, Nat.le_of_ble_eq_true rfl⟩) hP hD hS hA [17, 18, 19, 20, 21, 22, 23, 24, 25, 26, 27, 28, 29, 30, 31, 32, 33, 34, 35, 36, 37, 38, 39, 40, 41, 42, 43, 44, 45, 46, 47, 48, 49, 50, 51, 52, 53, 54, 55, 56, 57, 58, 59, 60, 61, 62, 63] [0, 1, 2, 3, 4, 5, 6, 7, 8, 9, 10, 11, 12, 13, 14, 15, 16] (by first | exact zqs_0X | rfl) (by first | exact zqs_1X | rfl) zqn_1 zqd_0 (fun r2 w1 H locs hw hP hD hS => ?_)
  obtain ⟨hq_, hw⟩ := hw; subst hw; subst hq_
  obtain ⟨s3, hs4, hB⟩ := letS_inv hB
  have hP : va_P (dC, dI) vwCl (wX cB cI cJ cZ cS a b b2 c0 rg sl s3) H := by subst hs4; exact hP
  have hD : va_D A (wX cB cI cJ cZ cS a b b2 c0 rg sl s3) := by subst hs4; exact hD
  refine lv_if_eq (tgt := 29) hx hb dX10_needs_8 (by decide) (fun c5 => ?_) (fun c5 => ?_)
  · have hB := if_p hB c5
    refine lv_iconst (v := (-1)) hx hb dX10_needs_29 (by decide) ?_
    exact q_iret C hr hlocks hK hP hD hS (Nat.le_of_ble_eq_true rfl) (Nat.le_of_ble_eq_true rfl) dX10_needs_30 (by cases hB; exact ⟨rfl, rfl⟩)
  · have hB := if_n hB c5
    refine lv_aload_n hx hb dX10_needs_11 rfl (lv_at hl 0 rfl) ?_
    refine q_get (v := .ref (a 2)) C inX10_needs_X10 hK hP 0 rfl rfl 1 (by decide) rfl LX10_needs_19 rfl dX10_needs_12 ?_
    refine lv_iload_n hx hb dX10_needs_15 rfl (lv_at hl 2 rfl) ?_
    obtain ⟨q_, s6, hc, hB⟩ := bindI_inv hB
    refine q_goi (wr := ((wG cZ cS a b b2 c0 rg sl s3.g) ++ (wD cI b2 s3.t) ++ (wD cI b s3.n))) (va_runVN (As := [.int x2]) (rest := []) C (ckX5_hasWave hc _) ⟨va_cnB 1 hts gX10_needs_X5_hasWave_n108 rfl rfl rfl (hN _ nwM_X10_108 rfl) (hts _ LX10_needs_I_X5) (by decide +kernel) ⟨Nat.le_of_ble_eq_true rfl, Nat.le_of_ble_eq_true rfl⟩, hts _ LX10_needs_N_X5_hasWave, hts _ LX10_needs_E_X5_hasWave⟩ (q_preV hK hP (ci := 5) (q0 := 19) rfl rfl rfl (q_pre hN hK hP hD [17, 18, 19, 20, 21, 22, 23, 24, 25, 26, 27, 28, 29, 30, 31, 32, 33, 34, 35, 36, 37, 38, 39, 40, 41, 42, 43, 44, 45, 46, 47, 48, 49, 50, 51, 52, 53, 54, 55, 56, 57, 58, 59, 60, 61, 62, 63] (by first | exact zqs_0X | rfl) zqn_0)) rfl rfl hl.1 rfl (lv_room (Nat.le_of_ble_eq_true rfl)) dX10_needs_16 ⟨Nat.le_of_ble_eq_true rfl, Nat.le_of_ble_eq_true rfl⟩) hP hD hS hA [17, 18, 19, 20, 21, 22, 23, 24, 25, 26, 27, 28, 29, 30, 31, 32, 33, 34, 35, 36, 37, 38, 39, 40, 41, 42, 43, 44, 45, 46, 47, 48, 49, 50, 51, 52, 53, 54, 55, 56, 57, 58, 59, 60, 61, 62, 63] [0, 1, 2, 3, 4, 5, 6, 7, 8, 9, 10, 11, 12, 13, 14, 15, 16] (by first | exact zqs_0X | rfl) (by first | exact zqs_1X | rfl) zqn_1 zqd_0 (fun r7 w1 H locs hw hP hD hS => ?_)
    obtain ⟨hq_, hw⟩ := hw; subst hw; subst hq_
    obtain ⟨s8, hs9, hB⟩ := letS_inv hB
    have hP : va_P (dC, dI) vwCl (wX cB cI cJ cZ cS a b b2 c0 rg sl s8) H := by subst hs9; exact hP
    have hD : va_D A (wX cB cI cJ cZ cS a b b2 c0 rg sl s8) := by subst hs9; exact hD
    refine lv_if_eq (tgt := 29) hx hb dX10_needs_19 (by decide) (fun c10 => ?_) (fun c10 => ?_)
    · have hB := if_p hB c10
      refine lv_iconst (v := (-1)) hx hb dX10_needs_29 (by decide) ?_
      exact q_iret C hr hlocks hK hP hD hS (Nat.le_of_ble_eq_true rfl) (Nat.le_of_ble_eq_true rfl) dX10_needs_30 (by cases hB; exact ⟨rfl, rfl⟩)
    · have hB := if_n hB c10
      refine lv_iload_n hx hb dX10_needs_22 rfl (lv_at hl 3 rfl) ?_
      obtain ⟨q_, hc, hB⟩ := bindP_inv hB
      refine q_goi0 (va_runS (As := [.int x3]) (rest := []) C (ckX10_isThing hc _) (va_cwS 1 hts gX10_needs_X10_isThing rfl rfl rfl (by decide +kernel) ⟨Nat.le_of_ble_eq_true rfl, Nat.le_of_ble_eq_true rfl⟩) (q_pre0 hN hK) rfl rfl hl.1 rfl (lv_room (Nat.le_of_ble_eq_true rfl)) dX10_needs_23 ⟨Nat.le_of_ble_eq_true rfl, Nat.le_of_ble_eq_true rfl⟩) hP hD hS hA (fun r11 w1 H locs hw hP hS => ?_)
      subst hw
      refine lv_if_ne (tgt := 31) hx hb dX10_needs_26 (by decide) (fun c12 => ?_) (fun c12 => ?_)
      · have hB := if_n hB c12
        refine lv_aload_n hx hb dX10_needs_31 rfl (lv_at hl 0 rfl) ?_
        refine q_get (v := .ref (a 35)) C inX10_needs_X10 hK hP 0 rfl rfl 6 (by decide) rfl LX10_needs_54 rfl dX10_needs_32 ?_
        refine lv_aload_n hx hb dX10_needs_35 rfl (lv_at hl 0 rfl) ?_
        refine q_get (v := .ref (b 0)) C inX10_needs_X10 hK hP 0 rfl rfl 3 (by decide) rfl LX10_needs_35 rfl dX10_needs_36 ?_
        refine lv_iload_n hx hb dX10_needs_39 rfl (lv_at hl 1 rfl) ?_
        refine lv_iload_n hx hb dX10_needs_40 rfl (lv_at hl 2 rfl) ?_
        refine lv_iload_n hx hb dX10_needs_41 rfl (lv_at hl 3 rfl) ?_
        obtain ⟨q_, s13, hc, hB⟩ := bindI_inv hB
        refine q_goi (wr := ((wG cZ cS a b b2 c0 rg sl s8.g) ++ (wD cI b2 s8.t))) (va_runVN (As := [.ref (b 0), .int x1, .int x2, .int x3]) (rest := []) C (ckX0_needOf hc _) ⟨va_cnB 4 hts gX10_needs_X0_needOf_n160 rfl rfl rfl (hN _ nwM_X10_160 rfl) (hts _ LX10_needs_I_X0) (by decide +kernel) ⟨Nat.le_of_ble_eq_true rfl, Nat.le_of_ble_eq_true rfl⟩, hts _ LX10_needs_N_X0_needOf, hts _ LX10_needs_E_X0_needOf⟩ (q_preV hK hP (ci := 0) (q0 := 52) rfl rfl rfl (q_pre hN hK hP hD [11, 12, 13, 14, 15, 16, 17, 18, 19, 20, 21, 22, 23, 24, 25, 26, 27, 28, 29, 30, 31, 32, 33, 34, 35, 36, 37, 38, 39, 40, 41, 42, 43, 44, 45, 46, 47, 48, 49, 50, 51, 52, 53, 54, 55, 56, 57, 58, 59, 60, 61, 62, 63] (by first | exact zqs_2X | rfl) zqn_2)) rfl rfl hl.1 rfl (lv_room (Nat.le_of_ble_eq_true rfl)) dX10_needs_42 ⟨Nat.le_of_ble_eq_true rfl, Nat.le_of_ble_eq_true rfl⟩) hP hD hS hA [11, 12, 13, 14, 15, 16, 17, 18, 19, 20, 21, 22, 23, 24, 25, 26, 27, 28, 29, 30, 31, 32, 33, 34, 35, 36, 37, 38, 39, 40, 41, 42, 43, 44, 45, 46, 47, 48, 49, 50, 51, 52, 53, 54, 55, 56, 57, 58, 59, 60, 61, 62, 63] [0, 1, 2, 3, 4, 5, 6, 7, 8, 9, 10] (by first | exact zqs_2X | rfl) (by first | exact zqs_3X | rfl) zqn_3 zqd_1 (fun r14 w1 H locs hw hP hD hS => ?_)
        obtain ⟨hq_, hw⟩ := hw; subst hw; subst hq_
        obtain ⟨s15, hs16, hB⟩ := letS_inv hB
        have hP : va_P (dC, dI) vwCl (wX cB cI cJ cZ cS a b b2 c0 rg sl s15) H := by subst hs16; exact hP
        have hD : va_D A (wX cB cI cJ cZ cS a b b2 c0 rg sl s15) := by subst hs16; exact hD
        exact q_iret C hr hlocks hK hP hD hS (Nat.le_of_ble_eq_true rfl) (Nat.le_of_ble_eq_true rfl) dX10_needs_45 (by cases hB; exact ⟨rfl, rfl⟩)
      · have hB := if_p hB c12
        refine lv_iconst (v := (-1)) hx hb dX10_needs_29 (by decide) ?_
        exact q_iret C hr hlocks hK hP hD hS (Nat.le_of_ble_eq_true rfl) (Nat.le_of_ble_eq_true rfl) dX10_needs_30 (by cases hB; exact ⟨rfl, rfl⟩)
theorem ckX10_needs {l : Launch} {dC : Nat → ClassId} {dI : Nat → Nat → Nat} {cB cI cJ cZ cS : ClassId} {a b b2 c0 : Nat → Nat} {rg sl : Nat → Option Nat} {r : Int32} {s' : XS} {s : XS} {x1 : Int32} {x2 : Int32} {x3 : Int32} (hB : kX10_needs s x1 x2 x3 = some (r, s')) : CI l yX10_needs wsX10_needs ({ frames := 4, cells := 0, slots := 0, locals := 100 }) (dC, dI) (tysA cB cI cJ cZ cS) (wX cB cI cJ cZ cS a b b2 c0 rg sl s) [.ref (c0 0), .int x1, .int x2, .int x3] (fun x u => x = r ∧ u = (wX cB cI cJ cZ cS a b b2 c0 rg sl s')) :=
  CI_of (cc := cX10_needs) (maxL := 4) (ret := (some .int)) (by decide) rfl (Nat.le_of_ble_eq_true rfl) (bkX10_needs _ _ _ _ hB)
theorem LX10_bears_19 : Cond.fieldLink RX10 19 "GuessFerry" "sound" "LGuessFerry$Sound;" ∈ wsX10_bears := (List.mem_cons_of_mem _ (List.mem_append_left _ (List.mem_append_left _ (List.mem_append_left _ (List.mem_append_left _ (List.mem_append_left _ (List.mem_append_left _ (List.mem_append_left _ (List.mem_of_getElem? (i := 0) rfl)))))))))
theorem LX10_bears_35 : Cond.fieldLink RX10 35 "GuessFerry" "now" "LGuessFerry$Standing;" ∈ wsX10_bears := (List.mem_cons_of_mem _ (List.mem_append_left _ (List.mem_append_left _ (List.mem_append_left _ (List.mem_append_left _ (List.mem_append_left _ (List.mem_append_left _ (List.mem_append_left _ (List.mem_of_getElem? (i := 2) rfl)))))))))
theorem LX10_bears_63 : Cond.fieldLink RX10 63 "GuessFerry" "outlook" "LGuessFerry$Outlook;" ∈ wsX10_bears := (List.mem_cons_of_mem _ (List.mem_append_left _ (List.mem_append_left _ (List.mem_append_left _ (List.mem_append_left _ (List.mem_append_left _ (List.mem_append_left _ (List.mem_append_left _ (List.mem_of_getElem? (i := 1) rfl)))))))))
theorem LX10_bears_E_X2_borneOver : Cond.selects RX2 yX2_borneOver yX2_borneOver ∈ wsX10_bears := (List.mem_cons_of_mem _ (List.mem_append_left _ (List.mem_append_left _ (List.mem_append_left _ (List.mem_append_left _ (List.mem_append_left _ (List.mem_append_left _ (List.mem_append_left _ (List.mem_of_getElem? (i := 10) rfl)))))))))
theorem LX10_bears_E_X5_hasGuess : Cond.selects RX5 yX5_hasGuess yX5_hasGuess ∈ wsX10_bears := (List.mem_cons_of_mem _ (List.mem_append_left _ (List.mem_append_left _ (List.mem_append_left _ (List.mem_append_left _ (List.mem_append_left _ (List.mem_append_left _ (List.mem_append_left _ (List.mem_of_getElem? (i := 7) rfl)))))))))
theorem LX10_bears_E_X5_hasParty : Cond.selects RX5 yX5_hasParty yX5_hasParty ∈ wsX10_bears := (List.mem_cons_of_mem _ (List.mem_append_left _ (List.mem_append_left _ (List.mem_append_left _ (List.mem_append_left _ (List.mem_append_left _ (List.mem_append_left _ (List.mem_append_left _ (List.mem_of_getElem? (i := 5) rfl)))))))))
theorem LX10_bears_I_X2 : Cond.initialized RX2 ∈ wsX10_bears := (List.mem_cons_of_mem _ (List.mem_append_left _ (List.mem_append_left _ (List.mem_append_left _ (List.mem_append_left _ (List.mem_append_left _ (List.mem_append_left _ (List.mem_append_left _ (List.mem_of_getElem? (i := 9) rfl)))))))))
theorem LX10_bears_I_X5 : Cond.initialized RX5 ∈ wsX10_bears := (List.mem_cons_of_mem _ (List.mem_append_left _ (List.mem_append_left _ (List.mem_append_left _ (List.mem_append_left _ (List.mem_append_left _ (List.mem_append_left _ (List.mem_append_left _ (List.mem_of_getElem? (i := 4) rfl)))))))))
theorem LX10_bears_N_X2_borneOver : Cond.instanceMethod yX2_borneOver ∈ wsX10_bears := (List.mem_cons_of_mem _ (List.mem_append_left _ (List.mem_append_left _ (List.mem_append_left _ (List.mem_append_left _ (List.mem_append_left _ (List.mem_append_left _ (List.mem_append_left _ (List.mem_of_getElem? (i := 8) rfl)))))))))
theorem LX10_bears_N_X5_hasGuess : Cond.instanceMethod yX5_hasGuess ∈ wsX10_bears := (List.mem_cons_of_mem _ (List.mem_append_left _ (List.mem_append_left _ (List.mem_append_left _ (List.mem_append_left _ (List.mem_append_left _ (List.mem_append_left _ (List.mem_append_left _ (List.mem_of_getElem? (i := 6) rfl)))))))))
theorem LX10_bears_N_X5_hasParty : Cond.instanceMethod yX5_hasParty ∈ wsX10_bears := (List.mem_cons_of_mem _ (List.mem_append_left _ (List.mem_append_left _ (List.mem_append_left _ (List.mem_append_left _ (List.mem_append_left _ (List.mem_append_left _ (List.mem_append_left _ (List.mem_of_getElem? (i := 3) rfl)))))))))
theorem inX10_bears_X10 : ∀ w ∈ u_ws RX10 TX10 9, w ∈ wsX10_bears := fun w h => (List.mem_cons_of_mem _ (List.mem_append_left _ (List.mem_append_left _ (List.mem_append_left _ (List.mem_append_left _ (List.mem_append_left _ (List.mem_append_right _ h)))))))
set_option maxHeartbeats 4000000 in
set_option maxRecDepth 100000 in
theorem bkX10_bears {l : Launch} {dC : Nat → ClassId} {dI : Nat → Nat → Nat} {cB cI cJ cZ cS : ClassId} {a b b2 c0 : Nat → Nat} {rg sl : Nat → Option Nat} {as : List Value} {r : Int32} {s' : XS} (s : XS) (x1 : Int32) (x2 : Int32) (hB : kX10_bears s x1 x2 = some (r, s')) : BlkI l yX10_bears wsX10_bears ({ frames := 6, cells := 0, slots := 0, locals := 148 }) cX10_bears 3 (some .int) (dC, dI) (tysA cB cI cJ cZ cS) as 0 (wX cB cI cJ cZ cS a b b2 c0 rg sl s) [(0, .ref (c0 0)), (1, .int x1), (2, .int x2)] [] (fun x u => x = r ∧ u = (wX cB cI cJ cZ cS a b b2 c0 rg sl s')) := by
  intro p e s0 m below meth c A E H locs ls hP hD hS hl
  obtain ⟨C, hr, hlocks, hA, hK, hN⟩ := id E
  obtain ⟨hx, hb, hml, hown, hts⟩ := id C
  unfold kX10_bears at hB
  refine lv_aload_n hx hb dX10_bears_0 rfl (lv_at hl 0 rfl) ?_
  refine q_get (v := .ref (a 2)) C inX10_bears_X10 hK hP 0 rfl rfl 1 (by decide) rfl LX10_bears_19 rfl dX10_bears_1 ?_
  refine lv_iload_n hx hb dX10_bears_4 rfl (lv_at hl 1 rfl) ?_
  obtain ⟨q_, s1, hc, hB⟩ := bindI_inv hB
  refine q_goi (wr := ((wG cZ cS a b b2 c0 rg sl s.g) ++ (wD cI b2 s.t) ++ (wD cI b s.n))) (va_runVN (As := [.int x1]) (rest := []) C (ckX5_hasParty hc _) ⟨va_cnB 1 hts gX10_bears_X5_hasParty_n138 rfl rfl rfl (hN _ nwM_X10_138 rfl) (hts _ LX10_bears_I_X5) (by decide +kernel) ⟨Nat.le_of_ble_eq_true rfl, Nat.le_of_ble_eq_true rfl⟩, hts _ LX10_bears_N_X5_hasParty, hts _ LX10_bears_E_X5_hasParty⟩ (q_preV hK hP (ci := 5) (q0 := 19) rfl rfl rfl (q_pre hN hK hP hD [17, 18, 19, 20, 21, 22, 23, 24, 25, 26, 27, 28, 29, 30, 31, 32, 33, 34, 35, 36, 37, 38, 39, 40, 41, 42, 43, 44, 45, 46, 47, 48, 49, 50, 51, 52, 53, 54, 55, 56, 57, 58, 59, 60, 61, 62, 63] (by first | exact zqs_0X | rfl) zqn_0)) rfl rfl hl.1 rfl (lv_room (Nat.le_of_ble_eq_true rfl)) dX10_bears_5 ⟨Nat.le_of_ble_eq_true rfl, Nat.le_of_ble_eq_true rfl⟩) hP hD hS hA [17, 18, 19, 20, 21, 22, 23, 24, 25, 26, 27, 28, 29, 30, 31, 32, 33, 34, 35, 36, 37, 38, 39, 40, 41, 42, 43, 44, 45, 46, 47, 48, 49, 50, 51, 52, 53, 54, 55, 56, 57, 58, 59, 60, 61, 62, 63] [0, 1, 2, 3, 4, 5, 6, 7, 8, 9, 10, 11, 12, 13, 14, 15, 16] (by first | exact zqs_0X | rfl) (by first | exact zqs_1X | rfl) zqn_1 zqd_0 (fun r2 w1 H locs hw hP hD hS => ?_)
  obtain ⟨hq_, hw⟩ := hw; subst hw; subst hq_
  obtain ⟨s3, hs4, hB⟩ := letS_inv hB
  have hP : va_P (dC, dI) vwCl (wX cB cI cJ cZ cS a b b2 c0 rg sl s3) H := by subst hs4; exact hP
  have hD : va_D A (wX cB cI cJ cZ cS a b b2 c0 rg sl s3) := by subst hs4; exact hD
  refine lv_if_eq (tgt := 22) hx hb dX10_bears_8 (by decide) (fun c5 => ?_) (fun c5 => ?_)
  · have hB := if_p hB c5
    refine lv_iconst (v := (-1)) hx hb dX10_bears_22 (by decide) ?_
    exact q_iret C hr hlocks hK hP hD hS (Nat.le_of_ble_eq_true rfl) (Nat.le_of_ble_eq_true rfl) dX10_bears_23 (by cases hB; exact ⟨rfl, rfl⟩)
  · have hB := if_n hB c5
    refine lv_aload_n hx hb dX10_bears_11 rfl (lv_at hl 0 rfl) ?_
    refine q_get (v := .ref (a 2)) C inX10_bears_X10 hK hP 0 rfl rfl 1 (by decide) rfl LX10_bears_19 rfl dX10_bears_12 ?_
    refine lv_iload_n hx hb dX10_bears_15 rfl (lv_at hl 2 rfl) ?_
    obtain ⟨q_, s6, hc, hB⟩ := bindI_inv hB
    refine q_goi (wr := ((wG cZ cS a b b2 c0 rg sl s3.g) ++ (wD cI b2 s3.t) ++ (wD cI b s3.n))) (va_runVN (As := [.int x2]) (rest := []) C (ckX5_hasGuess hc _) ⟨va_cnB 1 hts gX10_bears_X5_hasGuess_n170 rfl rfl rfl (hN _ nwM_X10_170 rfl) (hts _ LX10_bears_I_X5) (by decide +kernel) ⟨Nat.le_of_ble_eq_true rfl, Nat.le_of_ble_eq_true rfl⟩, hts _ LX10_bears_N_X5_hasGuess, hts _ LX10_bears_E_X5_hasGuess⟩ (q_preV hK hP (ci := 5) (q0 := 19) rfl rfl rfl (q_pre hN hK hP hD [17, 18, 19, 20, 21, 22, 23, 24, 25, 26, 27, 28, 29, 30, 31, 32, 33, 34, 35, 36, 37, 38, 39, 40, 41, 42, 43, 44, 45, 46, 47, 48, 49, 50, 51, 52, 53, 54, 55, 56, 57, 58, 59, 60, 61, 62, 63] (by first | exact zqs_0X | rfl) zqn_0)) rfl rfl hl.1 rfl (lv_room (Nat.le_of_ble_eq_true rfl)) dX10_bears_16 ⟨Nat.le_of_ble_eq_true rfl, Nat.le_of_ble_eq_true rfl⟩) hP hD hS hA [17, 18, 19, 20, 21, 22, 23, 24, 25, 26, 27, 28, 29, 30, 31, 32, 33, 34, 35, 36, 37, 38, 39, 40, 41, 42, 43, 44, 45, 46, 47, 48, 49, 50, 51, 52, 53, 54, 55, 56, 57, 58, 59, 60, 61, 62, 63] [0, 1, 2, 3, 4, 5, 6, 7, 8, 9, 10, 11, 12, 13, 14, 15, 16] (by first | exact zqs_0X | rfl) (by first | exact zqs_1X | rfl) zqn_1 zqd_0 (fun r7 w1 H locs hw hP hD hS => ?_)
    obtain ⟨hq_, hw⟩ := hw; subst hw; subst hq_
    obtain ⟨s8, hs9, hB⟩ := letS_inv hB
    have hP : va_P (dC, dI) vwCl (wX cB cI cJ cZ cS a b b2 c0 rg sl s8) H := by subst hs9; exact hP
    have hD : va_D A (wX cB cI cJ cZ cS a b b2 c0 rg sl s8) := by subst hs9; exact hD
    refine lv_if_ne (tgt := 24) hx hb dX10_bears_19 (by decide) (fun c10 => ?_) (fun c10 => ?_)
    · have hB := if_n hB c10
      refine lv_aload_n hx hb dX10_bears_24 rfl (lv_at hl 0 rfl) ?_
      refine q_get (v := .ref (a 36)) C inX10_bears_X10 hK hP 0 rfl rfl 7 (by decide) rfl LX10_bears_63 rfl dX10_bears_25 ?_
      refine lv_aload_n hx hb dX10_bears_28 rfl (lv_at hl 0 rfl) ?_
      refine q_get (v := .ref (b 0)) C inX10_bears_X10 hK hP 0 rfl rfl 3 (by decide) rfl LX10_bears_35 rfl dX10_bears_29 ?_
      refine lv_iload_n hx hb dX10_bears_32 rfl (lv_at hl 1 rfl) ?_
      refine lv_iload_n hx hb dX10_bears_33 rfl (lv_at hl 2 rfl) ?_
      obtain ⟨q_, s11, hc, hB⟩ := bindI_inv hB
      refine q_goi (wr := ((wG cZ cS a b b2 c0 rg sl s8.g) ++ (wD cI b2 s8.t))) (va_runVN (As := [.ref (b 0), .int x1, .int x2]) (rest := []) C (ckX2_borneOver hc _) ⟨va_cnB 3 hts gX10_bears_X2_borneOver_n209 rfl rfl rfl (hN _ nwM_X10_209 rfl) (hts _ LX10_bears_I_X2) (by decide +kernel) ⟨Nat.le_of_ble_eq_true rfl, Nat.le_of_ble_eq_true rfl⟩, hts _ LX10_bears_N_X2_borneOver, hts _ LX10_bears_E_X2_borneOver⟩ (q_preV hK hP (ci := 2) (q0 := 53) rfl rfl rfl (q_pre hN hK hP hD [11, 12, 13, 14, 15, 16, 17, 18, 19, 20, 21, 22, 23, 24, 25, 26, 27, 28, 29, 30, 31, 32, 33, 34, 35, 36, 37, 38, 39, 40, 41, 42, 43, 44, 45, 46, 47, 48, 49, 50, 51, 52, 53, 54, 55, 56, 57, 58, 59, 60, 61, 62, 63] (by first | exact zqs_2X | rfl) zqn_2)) rfl rfl hl.1 rfl (lv_room (Nat.le_of_ble_eq_true rfl)) dX10_bears_34 ⟨Nat.le_of_ble_eq_true rfl, Nat.le_of_ble_eq_true rfl⟩) hP hD hS hA [11, 12, 13, 14, 15, 16, 17, 18, 19, 20, 21, 22, 23, 24, 25, 26, 27, 28, 29, 30, 31, 32, 33, 34, 35, 36, 37, 38, 39, 40, 41, 42, 43, 44, 45, 46, 47, 48, 49, 50, 51, 52, 53, 54, 55, 56, 57, 58, 59, 60, 61, 62, 63] [0, 1, 2, 3, 4, 5, 6, 7, 8, 9, 10] (by first | exact zqs_2X | rfl) (by first | exact zqs_3X | rfl) zqn_3 zqd_1 (fun r12 w1 H locs hw hP hD hS => ?_)
      obtain ⟨hq_, hw⟩ := hw; subst hw; subst hq_
      obtain ⟨s13, hs14, hB⟩ := letS_inv hB
      have hP : va_P (dC, dI) vwCl (wX cB cI cJ cZ cS a b b2 c0 rg sl s13) H := by subst hs14; exact hP
      have hD : va_D A (wX cB cI cJ cZ cS a b b2 c0 rg sl s13) := by subst hs14; exact hD
      exact q_iret C hr hlocks hK hP hD hS (Nat.le_of_ble_eq_true rfl) (Nat.le_of_ble_eq_true rfl) dX10_bears_37 (by cases hB; exact ⟨rfl, rfl⟩)
    · have hB := if_p hB c10
      refine lv_iconst (v := (-1)) hx hb dX10_bears_22 (by decide) ?_
      exact q_iret C hr hlocks hK hP hD hS (Nat.le_of_ble_eq_true rfl) (Nat.le_of_ble_eq_true rfl) dX10_bears_23 (by cases hB; exact ⟨rfl, rfl⟩)
theorem ckX10_bears {l : Launch} {dC : Nat → ClassId} {dI : Nat → Nat → Nat} {cB cI cJ cZ cS : ClassId} {a b b2 c0 : Nat → Nat} {rg sl : Nat → Option Nat} {r : Int32} {s' : XS} {s : XS} {x1 : Int32} {x2 : Int32} (hB : kX10_bears s x1 x2 = some (r, s')) : CI l yX10_bears wsX10_bears ({ frames := 6, cells := 0, slots := 0, locals := 148 }) (dC, dI) (tysA cB cI cJ cZ cS) (wX cB cI cJ cZ cS a b b2 c0 rg sl s) [.ref (c0 0), .int x1, .int x2] (fun x u => x = r ∧ u = (wX cB cI cJ cZ cS a b b2 c0 rg sl s')) :=
  CI_of (cc := cX10_bears) (maxL := 3) (ret := (some .int)) (by decide) rfl (Nat.le_of_ble_eq_true rfl) (bkX10_bears _ _ _ hB)
theorem LX10_sunk_19 : Cond.fieldLink RX10 19 "GuessFerry" "sound" "LGuessFerry$Sound;" ∈ wsX10_sunk := (List.mem_cons_of_mem _ (List.mem_append_left _ (List.mem_append_left _ (List.mem_append_left _ (List.mem_append_left _ (List.mem_append_left _ (List.mem_append_left _ (List.mem_append_left _ (List.mem_of_getElem? (i := 0) rfl)))))))))
theorem LX10_sunk_35 : Cond.fieldLink RX10 35 "GuessFerry" "now" "LGuessFerry$Standing;" ∈ wsX10_sunk := (List.mem_cons_of_mem _ (List.mem_append_left _ (List.mem_append_left _ (List.mem_append_left _ (List.mem_append_left _ (List.mem_append_left _ (List.mem_append_left _ (List.mem_append_left _ (List.mem_of_getElem? (i := 1) rfl)))))))))
theorem LX10_sunk_63 : Cond.fieldLink RX10 63 "GuessFerry" "outlook" "LGuessFerry$Outlook;" ∈ wsX10_sunk := (List.mem_cons_of_mem _ (List.mem_append_left _ (List.mem_append_left _ (List.mem_append_left _ (List.mem_append_left _ (List.mem_append_left _ (List.mem_append_left _ (List.mem_append_left _ (List.mem_of_getElem? (i := 2) rfl)))))))))
theorem LX10_sunk_E_X2_borneOver : Cond.selects RX2 yX2_borneOver yX2_borneOver ∈ wsX10_sunk := (List.mem_cons_of_mem _ (List.mem_append_left _ (List.mem_append_left _ (List.mem_append_left _ (List.mem_append_left _ (List.mem_append_left _ (List.mem_append_left _ (List.mem_append_left _ (List.mem_of_getElem? (i := 8) rfl)))))))))
theorem LX10_sunk_E_X5_hasGuess : Cond.selects RX5 yX5_hasGuess yX5_hasGuess ∈ wsX10_sunk := (List.mem_cons_of_mem _ (List.mem_append_left _ (List.mem_append_left _ (List.mem_append_left _ (List.mem_append_left _ (List.mem_append_left _ (List.mem_append_left _ (List.mem_append_left _ (List.mem_of_getElem? (i := 5) rfl)))))))))
theorem LX10_sunk_I_X2 : Cond.initialized RX2 ∈ wsX10_sunk := (List.mem_cons_of_mem _ (List.mem_append_left _ (List.mem_append_left _ (List.mem_append_left _ (List.mem_append_left _ (List.mem_append_left _ (List.mem_append_left _ (List.mem_append_left _ (List.mem_of_getElem? (i := 7) rfl)))))))))
theorem LX10_sunk_I_X5 : Cond.initialized RX5 ∈ wsX10_sunk := (List.mem_cons_of_mem _ (List.mem_append_left _ (List.mem_append_left _ (List.mem_append_left _ (List.mem_append_left _ (List.mem_append_left _ (List.mem_append_left _ (List.mem_append_left _ (List.mem_of_getElem? (i := 4) rfl)))))))))
theorem LX10_sunk_N_X2_borneOver : Cond.instanceMethod yX2_borneOver ∈ wsX10_sunk := (List.mem_cons_of_mem _ (List.mem_append_left _ (List.mem_append_left _ (List.mem_append_left _ (List.mem_append_left _ (List.mem_append_left _ (List.mem_append_left _ (List.mem_append_left _ (List.mem_of_getElem? (i := 6) rfl)))))))))
theorem LX10_sunk_N_X5_hasGuess : Cond.instanceMethod yX5_hasGuess ∈ wsX10_sunk := (List.mem_cons_of_mem _ (List.mem_append_left _ (List.mem_append_left _ (List.mem_append_left _ (List.mem_append_left _ (List.mem_append_left _ (List.mem_append_left _ (List.mem_append_left _ (List.mem_of_getElem? (i := 3) rfl)))))))))
theorem inX10_sunk_X10 : ∀ w ∈ u_ws RX10 TX10 9, w ∈ wsX10_sunk := fun w h => (List.mem_cons_of_mem _ (List.mem_append_left _ (List.mem_append_left _ (List.mem_append_left _ (List.mem_append_left _ (List.mem_append_left _ (List.mem_append_right _ h)))))))
theorem inX10_sunk_X5 : ∀ w ∈ u_ws RX5 TX5 10, w ∈ wsX10_sunk := fun w h => (List.mem_cons_of_mem _ (List.mem_append_left _ (List.mem_append_left _ (List.mem_append_left _ (List.mem_append_left _ (List.mem_append_right _ h))))))
theorem inX10_sunk_X6 : ∀ w ∈ u_ws RX6 TX6 7, w ∈ wsX10_sunk := fun w h => (List.mem_cons_of_mem _ (List.mem_append_left _ (List.mem_append_left _ (List.mem_append_left _ (List.mem_append_right _ h)))))
set_option maxHeartbeats 4000000 in
set_option maxRecDepth 100000 in
theorem bkX10_sunk_69 {l : Launch} {dC : Nat → ClassId} {dI : Nat → Nat → Nat} {cB cI cJ cZ cS : ClassId} {a b b2 c0 : Nat → Nat} {rg sl : Nat → Option Nat} {as : List Value} {r : Int32} {s' : XS} {k17 : XS → Int32 → Int32 → Int32 → Option (Int32 × XS)} (hk17 : ∀ (s : XS) (x1 : Int32) (x2 : Int32) (x3 : Int32), k17 s x1 x2 x3 = some (r, s') → BlkI l yX10_sunk wsX10_sunk ({ frames := 6, cells := 0, slots := 0, locals := 148 }) cX10_sunk 4 (some .int) (dC, dI) (tysA cB cI cJ cZ cS) as 17 (wX cB cI cJ cZ cS a b b2 c0 rg sl s) [(0, .ref (c0 0)), (1, .int x1), (2, .int x2), (3, .int x3)] [] (fun x u => x = r ∧ u = (wX cB cI cJ cZ cS a b b2 c0 rg sl s'))) (s : XS) (x1 : Int32) (x2 : Int32) (x3 : Int32) (hB : kX10_sunk_69 k17 s x1 x2 x3 = some (r, s')) : BlkI l yX10_sunk wsX10_sunk ({ frames := 6, cells := 0, slots := 0, locals := 148 }) cX10_sunk 4 (some .int) (dC, dI) (tysA cB cI cJ cZ cS) as 69 (wX cB cI cJ cZ cS a b b2 c0 rg sl s) [(0, .ref (c0 0)), (1, .int x1), (2, .int x2), (3, .int x3)] [] (fun x u => x = r ∧ u = (wX cB cI cJ cZ cS a b b2 c0 rg sl s')) := by
  intro p e s0 m below meth c A E H locs ls hP hD hS hl
  obtain ⟨C, hr, hlocks, hA, hK, hN⟩ := id E
  obtain ⟨hx, hb, hml, hown, hts⟩ := id C
  unfold kX10_sunk_69 at hB
  refine lv_iinc (v := (x3 + 1)) (lv' := [(3, .int (x3 + 1)), (0, .ref (c0 0)), (1, .int x1), (2, .int x2)]) hx hb dX10_sunk_69 hl (k := 3) rfl (rfl) (by decide) rfl (fun ls hl => ?_)
  refine lv_goto (tgt := 17) hx hb dX10_sunk_72 (by decide) ?_
  exact hk17 _ _ _ _ hB p e s0 m below meth c A E H locs ls hP hD hS (lv_sub hl [1, 2, 3, 0] rfl)
set_option maxHeartbeats 4000000 in
set_option maxRecDepth 100000 in
theorem bkX10_sunk_17 {l : Launch} {dC : Nat → ClassId} {dI : Nat → Nat → Nat} {cB cI cJ cZ cS : ClassId} {a b b2 c0 : Nat → Nat} {rg sl : Nat → Option Nat} {as : List Value} {r : Int32} {s' : XS} {k17 : XS → Int32 → Int32 → Int32 → Option (Int32 × XS)} (hk17 : ∀ (s : XS) (x1 : Int32) (x2 : Int32) (x3 : Int32), k17 s x1 x2 x3 = some (r, s') → BlkI l yX10_sunk wsX10_sunk ({ frames := 6, cells := 0, slots := 0, locals := 148 }) cX10_sunk 4 (some .int) (dC, dI) (tysA cB cI cJ cZ cS) as 17 (wX cB cI cJ cZ cS a b b2 c0 rg sl s) [(0, .ref (c0 0)), (1, .int x1), (2, .int x2), (3, .int x3)] [] (fun x u => x = r ∧ u = (wX cB cI cJ cZ cS a b b2 c0 rg sl s'))) (s : XS) (x1 : Int32) (x2 : Int32) (x3 : Int32) (hB : kX10_sunk_17 k17 s x1 x2 x3 = some (r, s')) : BlkI l yX10_sunk wsX10_sunk ({ frames := 6, cells := 0, slots := 0, locals := 148 }) cX10_sunk 4 (some .int) (dC, dI) (tysA cB cI cJ cZ cS) as 17 (wX cB cI cJ cZ cS a b b2 c0 rg sl s) [(0, .ref (c0 0)), (1, .int x1), (2, .int x2), (3, .int x3)] [] (fun x u => x = r ∧ u = (wX cB cI cJ cZ cS a b b2 c0 rg sl s')) := by
  intro p e s0 m below meth c A E H locs ls hP hD hS hl
  obtain ⟨C, hr, hlocks, hA, hK, hN⟩ := id E
  obtain ⟨hx, hb, hml, hown, hts⟩ := id C
  unfold kX10_sunk_17 at hB
  refine lv_iload_n hx hb dX10_sunk_17 rfl (lv_at hl 3 rfl) ?_
  refine lv_aload_n hx hb dX10_sunk_18 rfl (lv_at hl 0 rfl) ?_
  refine q_get (v := .ref (a 2)) C inX10_sunk_X10 hK hP 0 rfl rfl 1 (by decide) rfl LX10_sunk_19 rfl dX10_sunk_19 ?_
  refine q_getN (v := .int (s.k.v 2)) C hN inX10_sunk_X5 hK hP 19 rfl rfl 7 (by decide) rfl nwF_X10_235 rfl dX10_sunk_22 ?_
  refine lv_icmp_ge (tgt := 75) hx hb dX10_sunk_25 (by decide) (fun c1 => ?_) (fun c1 => ?_)
  · have hB := if_p hB c1
    refine lv_iload_n hx hb dX10_sunk_75 rfl (lv_at hl 2 rfl) ?_
    exact q_iret C hr hlocks hK hP hD hS (Nat.le_of_ble_eq_true rfl) (Nat.le_of_ble_eq_true rfl) dX10_sunk_76 (by cases hB; exact ⟨rfl, rfl⟩)
  · have hB := if_n hB c1
    refine lv_aload_n hx hb dX10_sunk_28 rfl (lv_at hl 0 rfl) ?_
    refine q_get (v := .ref (b 0)) C inX10_sunk_X10 hK hP 0 rfl rfl 3 (by decide) rfl LX10_sunk_35 rfl dX10_sunk_29 ?_
    refine q_getN (v := .ref (b 4)) C hN inX10_sunk_X6 hK hP 11 rfl rfl 3 (by decide) rfl nwF_X10_147 rfl dX10_sunk_32 ?_
    refine lv_iload_n hx hb dX10_sunk_35 rfl (lv_at hl 3 rfl) ?_
    obtain ⟨g2, hB⟩ := guard_inv hB
    refine q_iald (x := ((s.n.f 3) (Int32.toNatClampNeg x3))) C hK hP 15 1 rfl rfl (vpb_in g2) dX10_sunk_36 rfl ?_
    refine lv_if_ne (tgt := 69) hx hb dX10_sunk_37 (by decide) (fun c3 => ?_) (fun c3 => ?_)
    · have hB := if_n hB c3
      exact bkX10_sunk_69 (hk17) _ _ _ _ hB p e s0 m below meth c A E H locs ls hP hD hS (lv_sub hl [0, 1, 2, 3] rfl)
    · have hB := if_p hB c3
      refine lv_aload_n hx hb dX10_sunk_40 rfl (lv_at hl 0 rfl) ?_
      refine q_get (v := .ref (a 36)) C inX10_sunk_X10 hK hP 0 rfl rfl 7 (by decide) rfl LX10_sunk_63 rfl dX10_sunk_41 ?_
      refine lv_aload_n hx hb dX10_sunk_44 rfl (lv_at hl 0 rfl) ?_
      refine q_get (v := .ref (b 0)) C inX10_sunk_X10 hK hP 0 rfl rfl 3 (by decide) rfl LX10_sunk_35 rfl dX10_sunk_45 ?_
      refine lv_iload_n hx hb dX10_sunk_48 rfl (lv_at hl 3 rfl) ?_
      refine lv_iload_n hx hb dX10_sunk_49 rfl (lv_at hl 1 rfl) ?_
      obtain ⟨q_, s4, hc, hB⟩ := bindI_inv hB
      refine q_goi (wr := ((wG cZ cS a b b2 c0 rg sl s.g) ++ (wD cI b2 s.t))) (va_runVN (As := [.ref (b 0), .int x3, .int x1]) (rest := []) C (ckX2_borneOver hc _) ⟨va_cnB 3 hts gX10_sunk_X2_borneOver_n209 rfl rfl rfl (hN _ nwM_X10_209 rfl) (hts _ LX10_sunk_I_X2) (by decide +kernel) ⟨Nat.le_of_ble_eq_true rfl, Nat.le_of_ble_eq_true rfl⟩, hts _ LX10_sunk_N_X2_borneOver, hts _ LX10_sunk_E_X2_borneOver⟩ (q_preV hK hP (ci := 2) (q0 := 53) rfl rfl rfl (q_pre hN hK hP hD [11, 12, 13, 14, 15, 16, 17, 18, 19, 20, 21, 22, 23, 24, 25, 26, 27, 28, 29, 30, 31, 32, 33, 34, 35, 36, 37, 38, 39, 40, 41, 42, 43, 44, 45, 46, 47, 48, 49, 50, 51, 52, 53, 54, 55, 56, 57, 58, 59, 60, 61, 62, 63] (by first | exact zqs_2X | rfl) zqn_2)) rfl rfl hl.1 rfl (lv_room (Nat.le_of_ble_eq_true rfl)) dX10_sunk_50 ⟨Nat.le_of_ble_eq_true rfl, Nat.le_of_ble_eq_true rfl⟩) hP hD hS hA [11, 12, 13, 14, 15, 16, 17, 18, 19, 20, 21, 22, 23, 24, 25, 26, 27, 28, 29, 30, 31, 32, 33, 34, 35, 36, 37, 38, 39, 40, 41, 42, 43, 44, 45, 46, 47, 48, 49, 50, 51, 52, 53, 54, 55, 56, 57, 58, 59, 60, 61, 62, 63] [0, 1, 2, 3, 4, 5, 6, 7, 8, 9, 10] (by first | exact zqs_2X | rfl) (by first | exact zqs_3X | rfl) zqn_3 zqd_1 (fun r5 w1 H locs hw hP hD hS => ?_)
      obtain ⟨hq_, hw⟩ := hw; subst hw; subst hq_
      obtain ⟨s6, hs7, hB⟩ := letS_inv hB
      have hP : va_P (dC, dI) vwCl (wX cB cI cJ cZ cS a b b2 c0 rg sl s6) H := by subst hs7; exact hP
      have hD : va_D A (wX cB cI cJ cZ cS a b b2 c0 rg sl s6) := by subst hs7; exact hD
      refine lv_aload_n hx hb dX10_sunk_53 rfl (lv_at hl 0 rfl) ?_
      refine q_get (v := .ref (a 2)) C inX10_sunk_X10 hK hP 0 rfl rfl 1 (by decide) rfl LX10_sunk_19 rfl dX10_sunk_54 ?_
      refine q_getN (v := .int (s6.k.v 1)) C hN inX10_sunk_X5 hK hP 19 rfl rfl 6 (by decide) rfl nwF_X10_167 rfl dX10_sunk_57 ?_
      refine lv_icmp_ge (tgt := 69) hx hb dX10_sunk_60 (by decide) (fun c8 => ?_) (fun c8 => ?_)
      · have hB := if_p hB c8
        exact bkX10_sunk_69 (hk17) _ _ _ _ hB p e s0 m below meth c A E H locs ls hP hD hS (lv_sub hl [0, 1, 2, 3] rfl)
      · have hB := if_n hB c8
        refine lv_iload_n hx hb dX10_sunk_63 rfl (lv_at hl 2 rfl) ?_
        refine lv_iconst (v := 1) hx hb dX10_sunk_64 (by decide) ?_
        refine lv_iload_n hx hb dX10_sunk_65 rfl (lv_at hl 3 rfl) ?_
        refine lv_ishl hx hb dX10_sunk_66 ?_
        refine lv_ior hx hb dX10_sunk_67 ?_
        refine lv_istore_n (lv' := [(2, .int (x2 ||| (1 <<< (x3 &&& 31)))), (0, .ref (c0 0)), (1, .int x1), (3, .int x3)]) hx hb dX10_sunk_68 rfl hl (by decide) rfl (fun ls hl => ?_)
        exact bkX10_sunk_69 (hk17) _ _ _ _ hB p e s0 m below meth c A E H locs ls hP hD hS (lv_sub hl [1, 2, 0, 3] rfl)
theorem bkX10_sunk_17L {l : Launch} {dC : Nat → ClassId} {dI : Nat → Nat → Nat} {cB cI cJ cZ cS : ClassId} {a b b2 c0 : Nat → Nat} {rg sl : Nat → Option Nat} {as : List Value} {r : Int32} {s' : XS} : ∀ (n : Nat) (s : XS) (x1 : Int32) (x2 : Int32) (x3 : Int32), kX10_sunk_17L n s x1 x2 x3 = some (r, s') → BlkI l yX10_sunk wsX10_sunk ({ frames := 6, cells := 0, slots := 0, locals := 148 }) cX10_sunk 4 (some .int) (dC, dI) (tysA cB cI cJ cZ cS) as 17 (wX cB cI cJ cZ cS a b b2 c0 rg sl s) [(0, .ref (c0 0)), (1, .int x1), (2, .int x2), (3, .int x3)] [] (fun x u => x = r ∧ u = (wX cB cI cJ cZ cS a b b2 c0 rg sl s')) := by
  intro n
  induction n with
  | zero => intro s x1 x2 x3 hB; exact none_ne hB
  | succ n ih => intro s x1 x2 x3 hB; exact bkX10_sunk_17 ih _ _ _ _ hB
set_option maxHeartbeats 4000000 in
set_option maxRecDepth 100000 in
theorem bkX10_sunk {l : Launch} {dC : Nat → ClassId} {dI : Nat → Nat → Nat} {cB cI cJ cZ cS : ClassId} {a b b2 c0 : Nat → Nat} {rg sl : Nat → Option Nat} {as : List Value} {r : Int32} {s' : XS} (s : XS) (x1 : Int32) (hB : kX10_sunk s x1 = some (r, s')) : BlkI l yX10_sunk wsX10_sunk ({ frames := 6, cells := 0, slots := 0, locals := 148 }) cX10_sunk 4 (some .int) (dC, dI) (tysA cB cI cJ cZ cS) as 0 (wX cB cI cJ cZ cS a b b2 c0 rg sl s) [(0, .ref (c0 0)), (1, .int x1)] [] (fun x u => x = r ∧ u = (wX cB cI cJ cZ cS a b b2 c0 rg sl s')) := by
  intro p e s0 m below meth c A E H locs ls hP hD hS hl
  obtain ⟨C, hr, hlocks, hA, hK, hN⟩ := id E
  obtain ⟨hx, hb, hml, hown, hts⟩ := id C
  unfold kX10_sunk at hB
  refine lv_aload_n hx hb dX10_sunk_0 rfl (lv_at hl 0 rfl) ?_
  refine q_get (v := .ref (a 2)) C inX10_sunk_X10 hK hP 0 rfl rfl 1 (by decide) rfl LX10_sunk_19 rfl dX10_sunk_1 ?_
  refine lv_iload_n hx hb dX10_sunk_4 rfl (lv_at hl 1 rfl) ?_
  obtain ⟨q_, s1, hc, hB⟩ := bindI_inv hB
  refine q_goi (wr := ((wG cZ cS a b b2 c0 rg sl s.g) ++ (wD cI b2 s.t) ++ (wD cI b s.n))) (va_runVN (As := [.int x1]) (rest := []) C (ckX5_hasGuess hc _) ⟨va_cnB 1 hts gX10_sunk_X5_hasGuess_n170 rfl rfl rfl (hN _ nwM_X10_170 rfl) (hts _ LX10_sunk_I_X5) (by decide +kernel) ⟨Nat.le_of_ble_eq_true rfl, Nat.le_of_ble_eq_true rfl⟩, hts _ LX10_sunk_N_X5_hasGuess, hts _ LX10_sunk_E_X5_hasGuess⟩ (q_preV hK hP (ci := 5) (q0 := 19) rfl rfl rfl (q_pre hN hK hP hD [17, 18, 19, 20, 21, 22, 23, 24, 25, 26, 27, 28, 29, 30, 31, 32, 33, 34, 35, 36, 37, 38, 39, 40, 41, 42, 43, 44, 45, 46, 47, 48, 49, 50, 51, 52, 53, 54, 55, 56, 57, 58, 59, 60, 61, 62, 63] (by first | exact zqs_0X | rfl) zqn_0)) rfl rfl hl.1 rfl (lv_room (Nat.le_of_ble_eq_true rfl)) dX10_sunk_5 ⟨Nat.le_of_ble_eq_true rfl, Nat.le_of_ble_eq_true rfl⟩) hP hD hS hA [17, 18, 19, 20, 21, 22, 23, 24, 25, 26, 27, 28, 29, 30, 31, 32, 33, 34, 35, 36, 37, 38, 39, 40, 41, 42, 43, 44, 45, 46, 47, 48, 49, 50, 51, 52, 53, 54, 55, 56, 57, 58, 59, 60, 61, 62, 63] [0, 1, 2, 3, 4, 5, 6, 7, 8, 9, 10, 11, 12, 13, 14, 15, 16] (by first | exact zqs_0X | rfl) (by first | exact zqs_1X | rfl) zqn_1 zqd_0 (fun r2 w1 H locs hw hP hD hS => ?_)
  obtain ⟨hq_, hw⟩ := hw; subst hw; subst hq_
  obtain ⟨s3, hs4, hB⟩ := letS_inv hB
  have hP : va_P (dC, dI) vwCl (wX cB cI cJ cZ cS a b b2 c0 rg sl s3) H := by subst hs4; exact hP
  have hD : va_D A (wX cB cI cJ cZ cS a b b2 c0 rg sl s3) := by subst hs4; exact hD
  refine lv_if_ne (tgt := 13) hx hb dX10_sunk_8 (by decide) (fun c5 => ?_) (fun c5 => ?_)
  · have hB := if_n hB c5
    refine lv_iconst (v := 0) hx hb dX10_sunk_13 (by decide) ?_
    refine lv_istore_n (lv' := [(2, .int 0), (0, .ref (c0 0)), (1, .int x1)]) hx hb dX10_sunk_14 rfl hl (by decide) rfl (fun ls hl => ?_)
    refine lv_iconst (v := 0) hx hb dX10_sunk_15 (by decide) ?_
    refine lv_istore_n (lv' := [(3, .int 0), (2, .int 0), (0, .ref (c0 0)), (1, .int x1)]) hx hb dX10_sunk_16 rfl hl (by decide) rfl (fun ls hl => ?_)
    exact bkX10_sunk_17L fu _ _ _ _ hB p e s0 m below meth c A E H locs ls hP hD hS (lv_sub hl [2, 3, 1, 0] rfl)
  · have hB := if_p hB c5
    refine lv_iconst (v := (-1)) hx hb dX10_sunk_11 (by decide) ?_
    exact q_iret C hr hlocks hK hP hD hS (Nat.le_of_ble_eq_true rfl) (Nat.le_of_ble_eq_true rfl) dX10_sunk_12 (by cases hB; exact ⟨rfl, rfl⟩)
theorem ckX10_sunk {l : Launch} {dC : Nat → ClassId} {dI : Nat → Nat → Nat} {cB cI cJ cZ cS : ClassId} {a b b2 c0 : Nat → Nat} {rg sl : Nat → Option Nat} {r : Int32} {s' : XS} {s : XS} {x1 : Int32} (hB : kX10_sunk s x1 = some (r, s')) : CI l yX10_sunk wsX10_sunk ({ frames := 6, cells := 0, slots := 0, locals := 148 }) (dC, dI) (tysA cB cI cJ cZ cS) (wX cB cI cJ cZ cS a b b2 c0 rg sl s) [.ref (c0 0), .int x1] (fun x u => x = r ∧ u = (wX cB cI cJ cZ cS a b b2 c0 rg sl s')) :=
  CI_of (cc := cX10_sunk) (maxL := 4) (ret := (some .int)) (by decide) rfl (Nat.le_of_ble_eq_true rfl) (bkX10_sunk _ _ hB)
end
section
theorem ggX0_passYears_X0_passYearOver : GoodIn wsX0_passYears wsX0_passYearOver := gi_sub (fun w h => List.mem_cons_of_mem _ (List.mem_append_left _ (List.mem_append_left _ (List.mem_append_left _ (List.mem_append_left _ (List.mem_append_right _ h)))))) gd_wsX0_passYearOver
set_option maxRecDepth 20000 in
theorem gX0_passYears_X0_passYearOver : GoodIn wsX0_passYears (wsV RX0 125 RX0 yX0_passYearOver wsX0_passYearOver) := goodIn_app (goodIn_r _ [2, 3, 4, 5] (by decide +kernel) (by decide +kernel)) ggX0_passYears_X0_passYearOver
theorem dX0_passYears_0 : decode cX0_passYears 0 = .ok (.iconst 0, 1) := dc1_3 (by decide +kernel)
theorem dX0_passYears_1 : decode cX0_passYears 1 = .ok (.istore_n 3, 1) := dc1_62 (by decide +kernel)
theorem dX0_passYears_2 : decode cX0_passYears 2 = .ok (.iload_n 3, 1) := dc1_29 (by decide +kernel)
theorem dX0_passYears_3 : decode cX0_passYears 3 = .ok (.iload_n 2, 1) := dc1_28 (by decide +kernel)
theorem dX0_passYears_4 : decode cX0_passYears 4 = .ok (.if_icmp .ge 47, 3) := dcs_162 (n := 47) (by decide +kernel)
theorem dX0_passYears_7 : decode cX0_passYears 7 = .ok (.iconst 0, 1) := dc1_3 (by decide +kernel)
theorem dX0_passYears_8 : decode cX0_passYears 8 = .ok (.istore 4, 2) := dcu_54 (by decide +kernel)
theorem dX0_passYears_10 : decode cX0_passYears 10 = .ok (.iload 4, 2) := dcu_21 (by decide +kernel)
theorem dX0_passYears_12 : decode cX0_passYears 12 = .ok (.aload_n 0, 1) := dc1_42 (by decide +kernel)
theorem dX0_passYears_13 : decode cX0_passYears 13 = .ok (.getfield 9, 3) := dcw_180 (by decide +kernel)
theorem dX0_passYears_16 : decode cX0_passYears 16 = .ok (.getfield 50, 3) := dcw_180 (by decide +kernel)
theorem dX0_passYears_19 : decode cX0_passYears 19 = .ok (.if_icmp .ge 16, 3) := dcs_162 (n := 16) (by decide +kernel)
theorem dX0_passYears_22 : decode cX0_passYears 22 = .ok (.aload_n 0, 1) := dc1_42 (by decide +kernel)
theorem dX0_passYears_23 : decode cX0_passYears 23 = .ok (.aload_n 1, 1) := dc1_43 (by decide +kernel)
theorem dX0_passYears_24 : decode cX0_passYears 24 = .ok (.iload 4, 2) := dcu_21 (by decide +kernel)
theorem dX0_passYears_26 : decode cX0_passYears 26 = .ok (.invokevirtual 125, 3) := dcw_182 (by decide +kernel)
theorem dX0_passYears_29 : decode cX0_passYears 29 = .ok (.iinc 4 1, 3) := dc_iinc (m := 1) (by decide +kernel)
theorem dX0_passYears_32 : decode cX0_passYears 32 = .ok (.goto (-22), 3) := dcs_167 (n := 65514) (by decide +kernel)
theorem dX0_passYears_35 : decode cX0_passYears 35 = .ok (.aload_n 1, 1) := dc1_43 (by decide +kernel)
theorem dX0_passYears_36 : decode cX0_passYears 36 = .ok (.dup, 1) := dc1_89 (by decide +kernel)
theorem dX0_passYears_37 : decode cX0_passYears 37 = .ok (.getfield 59, 3) := dcw_180 (by decide +kernel)
theorem dX0_passYears_40 : decode cX0_passYears 40 = .ok (.iconst 1, 1) := dc1_4 (by decide +kernel)
theorem dX0_passYears_41 : decode cX0_passYears 41 = .ok (.iadd, 1) := dc1_96 (by decide +kernel)
theorem dX0_passYears_42 : decode cX0_passYears 42 = .ok (.putfield 59, 3) := dcw_181 (by decide +kernel)
theorem dX0_passYears_45 : decode cX0_passYears 45 = .ok (.iinc 3 1, 3) := dc_iinc (m := 1) (by decide +kernel)
theorem dX0_passYears_48 : decode cX0_passYears 48 = .ok (.goto (-46), 3) := dcs_167 (n := 65490) (by decide +kernel)
theorem dX0_passYears_51 : decode cX0_passYears 51 = .ok (.return_, 1) := dc1_177 (by decide +kernel)
theorem ggX2_bestGuess_X2_bestThing : GoodIn wsX2_bestGuess wsX2_bestThing := gi_sub (fun w h => List.mem_cons_of_mem _ (List.mem_append_left _ (List.mem_append_left _ (List.mem_append_left _ (List.mem_append_left _ (List.mem_append_left _ (List.mem_append_right _ h))))))) gd_wsX2_bestThing
set_option maxRecDepth 20000 in
theorem gX2_bestGuess_X2_bestThing : GoodIn wsX2_bestGuess (wsV RX2 68 RX2 yX2_bestThing wsX2_bestThing) := goodIn_app (goodIn_r _ [2, 3, 4, 5] (by decide +kernel) (by decide +kernel)) ggX2_bestGuess_X2_bestThing
theorem dX2_bestGuess_0 : decode cX2_bestGuess 0 = .ok (.iconst 0, 1) := dc1_3 (by decide +kernel)
theorem dX2_bestGuess_1 : decode cX2_bestGuess 1 = .ok (.istore_n 3, 1) := dc1_62 (by decide +kernel)
theorem dX2_bestGuess_2 : decode cX2_bestGuess 2 = .ok (.aload_n 0, 1) := dc1_42 (by decide +kernel)
theorem dX2_bestGuess_3 : decode cX2_bestGuess 3 = .ok (.getfield 24, 3) := dcw_180 (by decide +kernel)
theorem dX2_bestGuess_6 : decode cX2_bestGuess 6 = .ok (.getfield 44, 3) := dcw_180 (by decide +kernel)
theorem dX2_bestGuess_9 : decode cX2_bestGuess 9 = .ok (.iconst 1, 1) := dc1_4 (by decide +kernel)
theorem dX2_bestGuess_10 : decode cX2_bestGuess 10 = .ok (.isub, 1) := dc1_100 (by decide +kernel)
theorem dX2_bestGuess_11 : decode cX2_bestGuess 11 = .ok (.istore 4, 2) := dcu_54 (by decide +kernel)
theorem dX2_bestGuess_13 : decode cX2_bestGuess 13 = .ok (.iload 4, 2) := dcu_21 (by decide +kernel)
theorem dX2_bestGuess_15 : decode cX2_bestGuess 15 = .ok (.ifCond .lt 36, 3) := dcs_155 (n := 36) (by decide +kernel)
theorem dX2_bestGuess_18 : decode cX2_bestGuess 18 = .ok (.aload_n 0, 1) := dc1_42 (by decide +kernel)
theorem dX2_bestGuess_19 : decode cX2_bestGuess 19 = .ok (.aload_n 1, 1) := dc1_43 (by decide +kernel)
theorem dX2_bestGuess_20 : decode cX2_bestGuess 20 = .ok (.iload_n 2, 1) := dc1_28 (by decide +kernel)
theorem dX2_bestGuess_21 : decode cX2_bestGuess 21 = .ok (.iload 4, 2) := dcu_21 (by decide +kernel)
theorem dX2_bestGuess_23 : decode cX2_bestGuess 23 = .ok (.invokevirtual 68, 3) := dcw_182 (by decide +kernel)
theorem dX2_bestGuess_26 : decode cX2_bestGuess 26 = .ok (.istore 5, 2) := dcu_54 (by decide +kernel)
theorem dX2_bestGuess_28 : decode cX2_bestGuess 28 = .ok (.iload 5, 2) := dcu_21 (by decide +kernel)
theorem dX2_bestGuess_30 : decode cX2_bestGuess 30 = .ok (.iconst (-1), 1) := dc1_2 (by decide +kernel)
theorem dX2_bestGuess_31 : decode cX2_bestGuess 31 = .ok (.if_icmp .ne 6, 3) := dcs_160 (n := 6) (by decide +kernel)
theorem dX2_bestGuess_34 : decode cX2_bestGuess 34 = .ok (.bipush (-2), 2) := dcb_16 (n := 254) (by decide +kernel)
theorem dX2_bestGuess_36 : decode cX2_bestGuess 36 = .ok (.ireturn, 1) := dc1_172 (by decide +kernel)
theorem dX2_bestGuess_37 : decode cX2_bestGuess 37 = .ok (.iload_n 3, 1) := dc1_29 (by decide +kernel)
theorem dX2_bestGuess_38 : decode cX2_bestGuess 38 = .ok (.bipush 6, 2) := dcb_16 (n := 6) (by decide +kernel)
theorem dX2_bestGuess_40 : decode cX2_bestGuess 40 = .ok (.imul, 1) := dc1_104 (by decide +kernel)
theorem dX2_bestGuess_41 : decode cX2_bestGuess 41 = .ok (.iload 5, 2) := dcu_21 (by decide +kernel)
theorem dX2_bestGuess_43 : decode cX2_bestGuess 43 = .ok (.iadd, 1) := dc1_96 (by decide +kernel)
theorem dX2_bestGuess_44 : decode cX2_bestGuess 44 = .ok (.istore_n 3, 1) := dc1_62 (by decide +kernel)
theorem dX2_bestGuess_45 : decode cX2_bestGuess 45 = .ok (.iinc 4 (-1), 3) := dc_iinc (m := 255) (by decide +kernel)
theorem dX2_bestGuess_48 : decode cX2_bestGuess 48 = .ok (.goto (-35), 3) := dcs_167 (n := 65501) (by decide +kernel)
theorem dX2_bestGuess_51 : decode cX2_bestGuess 51 = .ok (.iload_n 3, 1) := dc1_29 (by decide +kernel)
theorem dX2_bestGuess_52 : decode cX2_bestGuess 52 = .ok (.ireturn, 1) := dc1_172 (by decide +kernel)
theorem ggX10_dearest_X0_fareOf : GoodIn wsX10_dearest wsX0_fareOf := gi_sub (fun w h => List.mem_cons_of_mem _ (List.mem_append_left _ (List.mem_append_left _ (List.mem_append_left _ (List.mem_append_left _ (List.mem_append_left _ (List.mem_append_right _ h))))))) gd_wsX0_fareOf
set_option maxRecDepth 20000 in
theorem gX10_dearest_X0_fareOf_n153 : GoodIn wsX10_dearest (wsX0_fareOf) := ggX10_dearest_X0_fareOf
theorem dX10_dearest_0 : decode cX10_dearest 0 = .ok (.iload_n 1, 1) := dc1_27 (by decide +kernel)
theorem dX10_dearest_1 : decode cX10_dearest 1 = .ok (.ifCond .eq 10, 3) := dcs_153 (n := 10) (by decide +kernel)
theorem dX10_dearest_4 : decode cX10_dearest 4 = .ok (.iload_n 1, 1) := dc1_27 (by decide +kernel)
theorem dX10_dearest_5 : decode cX10_dearest 5 = .ok (.iconst 1, 1) := dc1_4 (by decide +kernel)
theorem dX10_dearest_6 : decode cX10_dearest 6 = .ok (.if_icmp .eq 5, 3) := dcs_159 (n := 5) (by decide +kernel)
theorem dX10_dearest_9 : decode cX10_dearest 9 = .ok (.iconst (-1), 1) := dc1_2 (by decide +kernel)
theorem dX10_dearest_10 : decode cX10_dearest 10 = .ok (.ireturn, 1) := dc1_172 (by decide +kernel)
theorem dX10_dearest_11 : decode cX10_dearest 11 = .ok (.bipush (-2), 2) := dcb_16 (n := 254) (by decide +kernel)
theorem dX10_dearest_13 : decode cX10_dearest 13 = .ok (.istore_n 2, 1) := dc1_61 (by decide +kernel)
theorem dX10_dearest_14 : decode cX10_dearest 14 = .ok (.bipush (-2), 2) := dcb_16 (n := 254) (by decide +kernel)
theorem dX10_dearest_16 : decode cX10_dearest 16 = .ok (.istore_n 3, 1) := dc1_62 (by decide +kernel)
theorem dX10_dearest_17 : decode cX10_dearest 17 = .ok (.iconst 0, 1) := dc1_3 (by decide +kernel)
theorem dX10_dearest_18 : decode cX10_dearest 18 = .ok (.istore 4, 2) := dcu_54 (by decide +kernel)
theorem dX10_dearest_20 : decode cX10_dearest 20 = .ok (.iload 4, 2) := dcu_21 (by decide +kernel)
theorem dX10_dearest_22 : decode cX10_dearest 22 = .ok (.aload_n 0, 1) := dc1_42 (by decide +kernel)
theorem dX10_dearest_23 : decode cX10_dearest 23 = .ok (.getfield 19, 3) := dcw_180 (by decide +kernel)
theorem dX10_dearest_26 : decode cX10_dearest 26 = .ok (.getfield 235, 3) := dcw_180 (by decide +kernel)
theorem dX10_dearest_29 : decode cX10_dearest 29 = .ok (.if_icmp .ge 36, 3) := dcs_162 (n := 36) (by decide +kernel)
theorem dX10_dearest_32 : decode cX10_dearest 32 = .ok (.aload_n 0, 1) := dc1_42 (by decide +kernel)
theorem dX10_dearest_33 : decode cX10_dearest 33 = .ok (.getfield 54, 3) := dcw_180 (by decide +kernel)
theorem dX10_dearest_36 : decode cX10_dearest 36 = .ok (.aload_n 0, 1) := dc1_42 (by decide +kernel)
theorem dX10_dearest_37 : decode cX10_dearest 37 = .ok (.getfield 35, 3) := dcw_180 (by decide +kernel)
theorem dX10_dearest_40 : decode cX10_dearest 40 = .ok (.iload 4, 2) := dcu_21 (by decide +kernel)
theorem dX10_dearest_42 : decode cX10_dearest 42 = .ok (.invokevirtual 153, 3) := dcw_182 (by decide +kernel)
theorem dX10_dearest_45 : decode cX10_dearest 45 = .ok (.istore 5, 2) := dcu_54 (by decide +kernel)
theorem dX10_dearest_47 : decode cX10_dearest 47 = .ok (.iload 5, 2) := dcu_21 (by decide +kernel)
theorem dX10_dearest_49 : decode cX10_dearest 49 = .ok (.iload_n 3, 1) := dc1_29 (by decide +kernel)
theorem dX10_dearest_50 : decode cX10_dearest 50 = .ok (.if_icmp .le 9, 3) := dcs_164 (n := 9) (by decide +kernel)
theorem dX10_dearest_53 : decode cX10_dearest 53 = .ok (.iload 5, 2) := dcu_21 (by decide +kernel)
theorem dX10_dearest_55 : decode cX10_dearest 55 = .ok (.istore_n 3, 1) := dc1_62 (by decide +kernel)
theorem dX10_dearest_56 : decode cX10_dearest 56 = .ok (.iload 4, 2) := dcu_21 (by decide +kernel)
theorem dX10_dearest_58 : decode cX10_dearest 58 = .ok (.istore_n 2, 1) := dc1_61 (by decide +kernel)
theorem dX10_dearest_59 : decode cX10_dearest 59 = .ok (.iinc 4 1, 3) := dc_iinc (m := 1) (by decide +kernel)
theorem dX10_dearest_62 : decode cX10_dearest 62 = .ok (.goto (-42), 3) := dcs_167 (n := 65494) (by decide +kernel)
theorem dX10_dearest_65 : decode cX10_dearest 65 = .ok (.iload_n 1, 1) := dc1_27 (by decide +kernel)
theorem dX10_dearest_66 : decode cX10_dearest 66 = .ok (.ifCond .ne 7, 3) := dcs_154 (n := 7) (by decide +kernel)
theorem dX10_dearest_69 : decode cX10_dearest 69 = .ok (.iload_n 2, 1) := dc1_28 (by decide +kernel)
theorem dX10_dearest_70 : decode cX10_dearest 70 = .ok (.goto 4, 3) := dcs_167 (n := 4) (by decide +kernel)
theorem dX10_dearest_73 : decode cX10_dearest 73 = .ok (.iload_n 3, 1) := dc1_29 (by decide +kernel)
theorem dX10_dearest_74 : decode cX10_dearest 74 = .ok (.ireturn, 1) := dc1_172 (by decide +kernel)
theorem ggX10_darers_X0_isDaring : GoodIn wsX10_darers wsX0_isDaring := gi_sub (fun w h => List.mem_cons_of_mem _ (List.mem_append_left _ (List.mem_append_left _ (List.mem_append_left _ (List.mem_append_left _ (List.mem_append_left _ (List.mem_append_right _ h))))))) gd_wsX0_isDaring
set_option maxRecDepth 20000 in
theorem gX10_darers_X0_isDaring_n156 : GoodIn wsX10_darers (wsX0_isDaring) := ggX10_darers_X0_isDaring
theorem dX10_darers_0 : decode cX10_darers 0 = .ok (.iconst 0, 1) := dc1_3 (by decide +kernel)
theorem dX10_darers_1 : decode cX10_darers 1 = .ok (.istore_n 1, 1) := dc1_60 (by decide +kernel)
theorem dX10_darers_2 : decode cX10_darers 2 = .ok (.iconst 0, 1) := dc1_3 (by decide +kernel)
theorem dX10_darers_3 : decode cX10_darers 3 = .ok (.istore_n 2, 1) := dc1_61 (by decide +kernel)
theorem dX10_darers_4 : decode cX10_darers 4 = .ok (.iload_n 2, 1) := dc1_28 (by decide +kernel)
theorem dX10_darers_5 : decode cX10_darers 5 = .ok (.aload_n 0, 1) := dc1_42 (by decide +kernel)
theorem dX10_darers_6 : decode cX10_darers 6 = .ok (.getfield 19, 3) := dcw_180 (by decide +kernel)
theorem dX10_darers_9 : decode cX10_darers 9 = .ok (.getfield 235, 3) := dcw_180 (by decide +kernel)
theorem dX10_darers_12 : decode cX10_darers 12 = .ok (.if_icmp .ge 42, 3) := dcs_162 (n := 42) (by decide +kernel)
theorem dX10_darers_15 : decode cX10_darers 15 = .ok (.aload_n 0, 1) := dc1_42 (by decide +kernel)
theorem dX10_darers_16 : decode cX10_darers 16 = .ok (.getfield 35, 3) := dcw_180 (by decide +kernel)
theorem dX10_darers_19 : decode cX10_darers 19 = .ok (.getfield 147, 3) := dcw_180 (by decide +kernel)
theorem dX10_darers_22 : decode cX10_darers 22 = .ok (.iload_n 2, 1) := dc1_28 (by decide +kernel)
theorem dX10_darers_23 : decode cX10_darers 23 = .ok (.iaload, 1) := dc1_46 (by decide +kernel)
theorem dX10_darers_24 : decode cX10_darers 24 = .ok (.ifCond .ne 24, 3) := dcs_154 (n := 24) (by decide +kernel)
theorem dX10_darers_27 : decode cX10_darers 27 = .ok (.aload_n 0, 1) := dc1_42 (by decide +kernel)
theorem dX10_darers_28 : decode cX10_darers 28 = .ok (.getfield 54, 3) := dcw_180 (by decide +kernel)
theorem dX10_darers_31 : decode cX10_darers 31 = .ok (.aload_n 0, 1) := dc1_42 (by decide +kernel)
theorem dX10_darers_32 : decode cX10_darers 32 = .ok (.getfield 35, 3) := dcw_180 (by decide +kernel)
theorem dX10_darers_35 : decode cX10_darers 35 = .ok (.iload_n 2, 1) := dc1_28 (by decide +kernel)
theorem dX10_darers_36 : decode cX10_darers 36 = .ok (.invokevirtual 156, 3) := dcw_182 (by decide +kernel)
theorem dX10_darers_39 : decode cX10_darers 39 = .ok (.ifCond .eq 9, 3) := dcs_153 (n := 9) (by decide +kernel)
theorem dX10_darers_42 : decode cX10_darers 42 = .ok (.iload_n 1, 1) := dc1_27 (by decide +kernel)
theorem dX10_darers_43 : decode cX10_darers 43 = .ok (.iconst 1, 1) := dc1_4 (by decide +kernel)
theorem dX10_darers_44 : decode cX10_darers 44 = .ok (.iload_n 2, 1) := dc1_28 (by decide +kernel)
theorem dX10_darers_45 : decode cX10_darers 45 = .ok (.ishl, 1) := dc1_120 (by decide +kernel)
theorem dX10_darers_46 : decode cX10_darers 46 = .ok (.ior, 1) := dc1_128 (by decide +kernel)
theorem dX10_darers_47 : decode cX10_darers 47 = .ok (.istore_n 1, 1) := dc1_60 (by decide +kernel)
theorem dX10_darers_48 : decode cX10_darers 48 = .ok (.iinc 2 1, 3) := dc_iinc (m := 1) (by decide +kernel)
theorem dX10_darers_51 : decode cX10_darers 51 = .ok (.goto (-47), 3) := dcs_167 (n := 65489) (by decide +kernel)
theorem dX10_darers_54 : decode cX10_darers 54 = .ok (.iload_n 1, 1) := dc1_27 (by decide +kernel)
theorem dX10_darers_55 : decode cX10_darers 55 = .ok (.ireturn, 1) := dc1_172 (by decide +kernel)
theorem ggX10_year_X5_hasGuess : GoodIn wsX10_year wsX5_hasGuess := gi_sub (fun w h => List.mem_cons_of_mem _ (List.mem_append_left _ (List.mem_append_left _ (List.mem_append_left _ (List.mem_append_left _ (List.mem_append_right _ (List.mem_append_left _ h))))))) gd_wsX5_hasGuess
set_option maxRecDepth 20000 in
theorem gX10_year_X5_hasGuess_n170 : GoodIn wsX10_year (wsX5_hasGuess) := ggX10_year_X5_hasGuess
theorem ggX10_year_X0_guessThere : GoodIn wsX10_year wsX0_guessThere := gi_sub (fun w h => List.mem_cons_of_mem _ (List.mem_append_left _ (List.mem_append_left _ (List.mem_append_left _ (List.mem_append_left _ (List.mem_append_right _ (List.mem_append_right _ h))))))) gd_wsX0_guessThere
set_option maxRecDepth 20000 in
theorem gX10_year_X0_guessThere_n256 : GoodIn wsX10_year (wsX0_guessThere) := ggX10_year_X0_guessThere
theorem dX10_year_0 : decode cX10_year 0 = .ok (.aload_n 0, 1) := dc1_42 (by decide +kernel)
theorem dX10_year_1 : decode cX10_year 1 = .ok (.getfield 19, 3) := dcw_180 (by decide +kernel)
theorem dX10_year_4 : decode cX10_year 4 = .ok (.iload_n 1, 1) := dc1_27 (by decide +kernel)
theorem dX10_year_5 : decode cX10_year 5 = .ok (.invokevirtual 170, 3) := dcw_182 (by decide +kernel)
theorem dX10_year_8 : decode cX10_year 8 = .ok (.ifCond .eq 14, 3) := dcs_153 (n := 14) (by decide +kernel)
theorem dX10_year_11 : decode cX10_year 11 = .ok (.iload_n 2, 1) := dc1_28 (by decide +kernel)
theorem dX10_year_12 : decode cX10_year 12 = .ok (.iconst 1, 1) := dc1_4 (by decide +kernel)
theorem dX10_year_13 : decode cX10_year 13 = .ok (.if_icmp .lt 9, 3) := dcs_161 (n := 9) (by decide +kernel)
theorem dX10_year_16 : decode cX10_year 16 = .ok (.iload_n 2, 1) := dc1_28 (by decide +kernel)
theorem dX10_year_17 : decode cX10_year 17 = .ok (.bipush 20, 2) := dcb_16 (n := 20) (by decide +kernel)
theorem dX10_year_19 : decode cX10_year 19 = .ok (.if_icmp .le 5, 3) := dcs_164 (n := 5) (by decide +kernel)
theorem dX10_year_22 : decode cX10_year 22 = .ok (.iconst (-1), 1) := dc1_2 (by decide +kernel)
theorem dX10_year_23 : decode cX10_year 23 = .ok (.ireturn, 1) := dc1_172 (by decide +kernel)
theorem dX10_year_24 : decode cX10_year 24 = .ok (.iconst 0, 1) := dc1_3 (by decide +kernel)
theorem dX10_year_25 : decode cX10_year 25 = .ok (.istore_n 3, 1) := dc1_62 (by decide +kernel)
theorem dX10_year_26 : decode cX10_year 26 = .ok (.iconst 0, 1) := dc1_3 (by decide +kernel)
theorem dX10_year_27 : decode cX10_year 27 = .ok (.istore 4, 2) := dcu_54 (by decide +kernel)
theorem dX10_year_29 : decode cX10_year 29 = .ok (.iload 4, 2) := dcu_21 (by decide +kernel)
theorem dX10_year_31 : decode cX10_year 31 = .ok (.iload_n 2, 1) := dc1_28 (by decide +kernel)
theorem dX10_year_32 : decode cX10_year 32 = .ok (.if_icmp .ge 37, 3) := dcs_162 (n := 37) (by decide +kernel)
theorem dX10_year_35 : decode cX10_year 35 = .ok (.aload_n 0, 1) := dc1_42 (by decide +kernel)
theorem dX10_year_36 : decode cX10_year 36 = .ok (.getfield 54, 3) := dcw_180 (by decide +kernel)
theorem dX10_year_39 : decode cX10_year 39 = .ok (.aload_n 0, 1) := dc1_42 (by decide +kernel)
theorem dX10_year_40 : decode cX10_year 40 = .ok (.getfield 35, 3) := dcw_180 (by decide +kernel)
theorem dX10_year_43 : decode cX10_year 43 = .ok (.aload_n 0, 1) := dc1_42 (by decide +kernel)
theorem dX10_year_44 : decode cX10_year 44 = .ok (.getfield 19, 3) := dcw_180 (by decide +kernel)
theorem dX10_year_47 : decode cX10_year 47 = .ok (.getfield 253, 3) := dcw_180 (by decide +kernel)
theorem dX10_year_50 : decode cX10_year 50 = .ok (.iload 4, 2) := dcu_21 (by decide +kernel)
theorem dX10_year_52 : decode cX10_year 52 = .ok (.iadd, 1) := dc1_96 (by decide +kernel)
theorem dX10_year_53 : decode cX10_year 53 = .ok (.invokevirtual 256, 3) := dcw_182 (by decide +kernel)
theorem dX10_year_56 : decode cX10_year 56 = .ok (.iload_n 1, 1) := dc1_27 (by decide +kernel)
theorem dX10_year_57 : decode cX10_year 57 = .ok (.if_icmp .ne 6, 3) := dcs_160 (n := 6) (by decide +kernel)
theorem dX10_year_60 : decode cX10_year 60 = .ok (.iinc 3 1, 3) := dc_iinc (m := 1) (by decide +kernel)
theorem dX10_year_63 : decode cX10_year 63 = .ok (.iinc 4 1, 3) := dc_iinc (m := 1) (by decide +kernel)
theorem dX10_year_66 : decode cX10_year 66 = .ok (.goto (-37), 3) := dcs_167 (n := 65499) (by decide +kernel)
theorem dX10_year_69 : decode cX10_year 69 = .ok (.iload_n 3, 1) := dc1_29 (by decide +kernel)
theorem dX10_year_70 : decode cX10_year 70 = .ok (.ireturn, 1) := dc1_172 (by decide +kernel)
theorem ggX10_faresOfAllHere_X0_fareOf : GoodIn wsX10_faresOfAllHere wsX0_fareOf := gi_sub (fun w h => List.mem_cons_of_mem _ (List.mem_append_left _ (List.mem_append_left _ (List.mem_append_left _ (List.mem_append_left _ (List.mem_append_left _ (List.mem_append_right _ h))))))) gd_wsX0_fareOf
set_option maxRecDepth 20000 in
theorem gX10_faresOfAllHere_X0_fareOf_n153 : GoodIn wsX10_faresOfAllHere (wsX0_fareOf) := ggX10_faresOfAllHere_X0_fareOf
theorem dX10_faresOfAllHere_0 : decode cX10_faresOfAllHere 0 = .ok (.iconst 0, 1) := dc1_3 (by decide +kernel)
theorem dX10_faresOfAllHere_1 : decode cX10_faresOfAllHere 1 = .ok (.istore_n 1, 1) := dc1_60 (by decide +kernel)
theorem dX10_faresOfAllHere_2 : decode cX10_faresOfAllHere 2 = .ok (.iconst 0, 1) := dc1_3 (by decide +kernel)
theorem dX10_faresOfAllHere_3 : decode cX10_faresOfAllHere 3 = .ok (.istore_n 2, 1) := dc1_61 (by decide +kernel)
theorem dX10_faresOfAllHere_4 : decode cX10_faresOfAllHere 4 = .ok (.iload_n 2, 1) := dc1_28 (by decide +kernel)
theorem dX10_faresOfAllHere_5 : decode cX10_faresOfAllHere 5 = .ok (.aload_n 0, 1) := dc1_42 (by decide +kernel)
theorem dX10_faresOfAllHere_6 : decode cX10_faresOfAllHere 6 = .ok (.getfield 19, 3) := dcw_180 (by decide +kernel)
theorem dX10_faresOfAllHere_9 : decode cX10_faresOfAllHere 9 = .ok (.getfield 235, 3) := dcw_180 (by decide +kernel)
theorem dX10_faresOfAllHere_12 : decode cX10_faresOfAllHere 12 = .ok (.if_icmp .ge 36, 3) := dcs_162 (n := 36) (by decide +kernel)
theorem dX10_faresOfAllHere_15 : decode cX10_faresOfAllHere 15 = .ok (.aload_n 0, 1) := dc1_42 (by decide +kernel)
theorem dX10_faresOfAllHere_16 : decode cX10_faresOfAllHere 16 = .ok (.getfield 35, 3) := dcw_180 (by decide +kernel)
theorem dX10_faresOfAllHere_19 : decode cX10_faresOfAllHere 19 = .ok (.getfield 147, 3) := dcw_180 (by decide +kernel)
theorem dX10_faresOfAllHere_22 : decode cX10_faresOfAllHere 22 = .ok (.iload_n 2, 1) := dc1_28 (by decide +kernel)
theorem dX10_faresOfAllHere_23 : decode cX10_faresOfAllHere 23 = .ok (.iaload, 1) := dc1_46 (by decide +kernel)
theorem dX10_faresOfAllHere_24 : decode cX10_faresOfAllHere 24 = .ok (.ifCond .ne 18, 3) := dcs_154 (n := 18) (by decide +kernel)
theorem dX10_faresOfAllHere_27 : decode cX10_faresOfAllHere 27 = .ok (.iload_n 1, 1) := dc1_27 (by decide +kernel)
theorem dX10_faresOfAllHere_28 : decode cX10_faresOfAllHere 28 = .ok (.aload_n 0, 1) := dc1_42 (by decide +kernel)
theorem dX10_faresOfAllHere_29 : decode cX10_faresOfAllHere 29 = .ok (.getfield 54, 3) := dcw_180 (by decide +kernel)
theorem dX10_faresOfAllHere_32 : decode cX10_faresOfAllHere 32 = .ok (.aload_n 0, 1) := dc1_42 (by decide +kernel)
theorem dX10_faresOfAllHere_33 : decode cX10_faresOfAllHere 33 = .ok (.getfield 35, 3) := dcw_180 (by decide +kernel)
theorem dX10_faresOfAllHere_36 : decode cX10_faresOfAllHere 36 = .ok (.iload_n 2, 1) := dc1_28 (by decide +kernel)
theorem dX10_faresOfAllHere_37 : decode cX10_faresOfAllHere 37 = .ok (.invokevirtual 153, 3) := dcw_182 (by decide +kernel)
theorem dX10_faresOfAllHere_40 : decode cX10_faresOfAllHere 40 = .ok (.iadd, 1) := dc1_96 (by decide +kernel)
theorem dX10_faresOfAllHere_41 : decode cX10_faresOfAllHere 41 = .ok (.istore_n 1, 1) := dc1_60 (by decide +kernel)
theorem dX10_faresOfAllHere_42 : decode cX10_faresOfAllHere 42 = .ok (.iinc 2 1, 3) := dc_iinc (m := 1) (by decide +kernel)
theorem dX10_faresOfAllHere_45 : decode cX10_faresOfAllHere 45 = .ok (.goto (-41), 3) := dcs_167 (n := 65495) (by decide +kernel)
theorem dX10_faresOfAllHere_48 : decode cX10_faresOfAllHere 48 = .ok (.iload_n 1, 1) := dc1_27 (by decide +kernel)
theorem dX10_faresOfAllHere_49 : decode cX10_faresOfAllHere 49 = .ok (.ireturn, 1) := dc1_172 (by decide +kernel)
theorem LX10_dearest_19 : Cond.fieldLink RX10 19 "GuessFerry" "sound" "LGuessFerry$Sound;" ∈ wsX10_dearest := (List.mem_cons_of_mem _ (List.mem_append_left _ (List.mem_append_left _ (List.mem_append_left _ (List.mem_append_left _ (List.mem_append_left _ (List.mem_append_left _ (List.mem_of_getElem? (i := 0) rfl))))))))
theorem LX10_dearest_35 : Cond.fieldLink RX10 35 "GuessFerry" "now" "LGuessFerry$Standing;" ∈ wsX10_dearest := (List.mem_cons_of_mem _ (List.mem_append_left _ (List.mem_append_left _ (List.mem_append_left _ (List.mem_append_left _ (List.mem_append_left _ (List.mem_append_left _ (List.mem_of_getElem? (i := 2) rfl))))))))
theorem LX10_dearest_54 : Cond.fieldLink RX10 54 "GuessFerry" "crossing" "LGuessFerry$Crossing;" ∈ wsX10_dearest := (List.mem_cons_of_mem _ (List.mem_append_left _ (List.mem_append_left _ (List.mem_append_left _ (List.mem_append_left _ (List.mem_append_left _ (List.mem_append_left _ (List.mem_of_getElem? (i := 1) rfl))))))))
theorem LX10_dearest_E_X0_fareOf : Cond.selects RX0 yX0_fareOf yX0_fareOf ∈ wsX10_dearest := (List.mem_cons_of_mem _ (List.mem_append_left _ (List.mem_append_left _ (List.mem_append_left _ (List.mem_append_left _ (List.mem_append_left _ (List.mem_append_left _ (List.mem_of_getElem? (i := 5) rfl))))))))
theorem LX10_dearest_I_X0 : Cond.initialized RX0 ∈ wsX10_dearest := (List.mem_cons_of_mem _ (List.mem_append_left _ (List.mem_append_left _ (List.mem_append_left _ (List.mem_append_left _ (List.mem_append_left _ (List.mem_append_left _ (List.mem_of_getElem? (i := 4) rfl))))))))
theorem LX10_dearest_N_X0_fareOf : Cond.instanceMethod yX0_fareOf ∈ wsX10_dearest := (List.mem_cons_of_mem _ (List.mem_append_left _ (List.mem_append_left _ (List.mem_append_left _ (List.mem_append_left _ (List.mem_append_left _ (List.mem_append_left _ (List.mem_of_getElem? (i := 3) rfl))))))))
theorem inX10_dearest_X10 : ∀ w ∈ u_ws RX10 TX10 9, w ∈ wsX10_dearest := fun w h => (List.mem_cons_of_mem _ (List.mem_append_left _ (List.mem_append_left _ (List.mem_append_left _ (List.mem_append_left _ (List.mem_append_right _ h))))))
theorem inX10_dearest_X5 : ∀ w ∈ u_ws RX5 TX5 10, w ∈ wsX10_dearest := fun w h => (List.mem_cons_of_mem _ (List.mem_append_left _ (List.mem_append_left _ (List.mem_append_left _ (List.mem_append_right _ h)))))
set_option maxHeartbeats 4000000 in
set_option maxRecDepth 100000 in
theorem bkX10_dearest_59 {l : Launch} {dC : Nat → ClassId} {dI : Nat → Nat → Nat} {cB cI cJ cZ cS : ClassId} {a b b2 c0 : Nat → Nat} {rg sl : Nat → Option Nat} {as : List Value} {r : Int32} {s' : XS} {k20 : XS → Int32 → Int32 → Int32 → Int32 → Option (Int32 × XS)} (hk20 : ∀ (s : XS) (x1 : Int32) (x2 : Int32) (x3 : Int32) (x4 : Int32), k20 s x1 x2 x3 x4 = some (r, s') → BlkI l yX10_dearest wsX10_dearest ({ frames := 4, cells := 0, slots := 0, locals := 98 }) cX10_dearest 6 (some .int) (dC, dI) (tysA cB cI cJ cZ cS) as 20 (wX cB cI cJ cZ cS a b b2 c0 rg sl s) [(0, .ref (c0 0)), (1, .int x1), (2, .int x2), (3, .int x3), (4, .int x4)] [] (fun x u => x = r ∧ u = (wX cB cI cJ cZ cS a b b2 c0 rg sl s'))) (s : XS) (x1 : Int32) (x2 : Int32) (x3 : Int32) (x4 : Int32) (hB : kX10_dearest_59 k20 s x1 x2 x3 x4 = some (r, s')) : BlkI l yX10_dearest wsX10_dearest ({ frames := 4, cells := 0, slots := 0, locals := 98 }) cX10_dearest 6 (some .int) (dC, dI) (tysA cB cI cJ cZ cS) as 59 (wX cB cI cJ cZ cS a b b2 c0 rg sl s) [(0, .ref (c0 0)), (1, .int x1), (2, .int x2), (3, .int x3), (4, .int x4)] [] (fun x u => x = r ∧ u = (wX cB cI cJ cZ cS a b b2 c0 rg sl s')) := by
  intro p e s0 m below meth c A E H locs ls hP hD hS hl
  obtain ⟨C, hr, hlocks, hA, hK, hN⟩ := id E
  obtain ⟨hx, hb, hml, hown, hts⟩ := id C
  unfold kX10_dearest_59 at hB
  refine lv_iinc (v := (x4 + 1)) (lv' := [(4, .int (x4 + 1)), (0, .ref (c0 0)), (1, .int x1), (2, .int x2), (3, .int x3)]) hx hb dX10_dearest_59 hl (k := 4) rfl (rfl) (by decide) rfl (fun ls hl => ?_)
  refine lv_goto (tgt := 20) hx hb dX10_dearest_62 (by decide) ?_
  exact hk20 _ _ _ _ _ hB p e s0 m below meth c A E H locs ls hP hD hS (lv_sub hl [1, 2, 3, 4, 0] rfl)
set_option maxHeartbeats 4000000 in
set_option maxRecDepth 100000 in
theorem bkX10_dearest_20 {l : Launch} {dC : Nat → ClassId} {dI : Nat → Nat → Nat} {cB cI cJ cZ cS : ClassId} {a b b2 c0 : Nat → Nat} {rg sl : Nat → Option Nat} {as : List Value} {r : Int32} {s' : XS} {k20 : XS → Int32 → Int32 → Int32 → Int32 → Option (Int32 × XS)} (hk20 : ∀ (s : XS) (x1 : Int32) (x2 : Int32) (x3 : Int32) (x4 : Int32), k20 s x1 x2 x3 x4 = some (r, s') → BlkI l yX10_dearest wsX10_dearest ({ frames := 4, cells := 0, slots := 0, locals := 98 }) cX10_dearest 6 (some .int) (dC, dI) (tysA cB cI cJ cZ cS) as 20 (wX cB cI cJ cZ cS a b b2 c0 rg sl s) [(0, .ref (c0 0)), (1, .int x1), (2, .int x2), (3, .int x3), (4, .int x4)] [] (fun x u => x = r ∧ u = (wX cB cI cJ cZ cS a b b2 c0 rg sl s'))) (s : XS) (x1 : Int32) (x2 : Int32) (x3 : Int32) (x4 : Int32) (hB : kX10_dearest_20 k20 s x1 x2 x3 x4 = some (r, s')) : BlkI l yX10_dearest wsX10_dearest ({ frames := 4, cells := 0, slots := 0, locals := 98 }) cX10_dearest 6 (some .int) (dC, dI) (tysA cB cI cJ cZ cS) as 20 (wX cB cI cJ cZ cS a b b2 c0 rg sl s) [(0, .ref (c0 0)), (1, .int x1), (2, .int x2), (3, .int x3), (4, .int x4)] [] (fun x u => x = r ∧ u = (wX cB cI cJ cZ cS a b b2 c0 rg sl s')) := by
  intro p e s0 m below meth c A E H locs ls hP hD hS hl
  obtain ⟨C, hr, hlocks, hA, hK, hN⟩ := id E
  obtain ⟨hx, hb, hml, hown, hts⟩ := id C
  unfold kX10_dearest_20 at hB
  refine lv_iload hx hb dX10_dearest_20 (lv_at hl 4 rfl) ?_
  refine lv_aload_n hx hb dX10_dearest_22 rfl (lv_at hl 0 rfl) ?_
  refine q_get (v := .ref (a 2)) C inX10_dearest_X10 hK hP 0 rfl rfl 1 (by decide) rfl LX10_dearest_19 rfl dX10_dearest_23 ?_
  refine q_getN (v := .int (s.k.v 2)) C hN inX10_dearest_X5 hK hP 19 rfl rfl 7 (by decide) rfl nwF_X10_235 rfl dX10_dearest_26 ?_
  refine lv_icmp_ge (tgt := 65) hx hb dX10_dearest_29 (by decide) (fun c1 => ?_) (fun c1 => ?_)
  · have hB := if_p hB c1
    refine lv_iload_n hx hb dX10_dearest_65 rfl (lv_at hl 1 rfl) ?_
    refine lv_if_ne (tgt := 73) hx hb dX10_dearest_66 (by decide) (fun c2 => ?_) (fun c2 => ?_)
    · have hB := if_n hB c2
      refine lv_iload_n hx hb dX10_dearest_73 rfl (lv_at hl 3 rfl) ?_
      exact q_iret C hr hlocks hK hP hD hS (Nat.le_of_ble_eq_true rfl) (Nat.le_of_ble_eq_true rfl) dX10_dearest_74 (by cases hB; exact ⟨rfl, rfl⟩)
    · have hB := if_p hB c2
      refine lv_iload_n hx hb dX10_dearest_69 rfl (lv_at hl 2 rfl) ?_
      refine lv_goto (tgt := 74) hx hb dX10_dearest_70 (by decide) ?_
      exact q_iret C hr hlocks hK hP hD hS (Nat.le_of_ble_eq_true rfl) (Nat.le_of_ble_eq_true rfl) dX10_dearest_74 (by cases hB; exact ⟨rfl, rfl⟩)
  · have hB := if_n hB c1
    refine lv_aload_n hx hb dX10_dearest_32 rfl (lv_at hl 0 rfl) ?_
    refine q_get (v := .ref (a 35)) C inX10_dearest_X10 hK hP 0 rfl rfl 6 (by decide) rfl LX10_dearest_54 rfl dX10_dearest_33 ?_
    refine lv_aload_n hx hb dX10_dearest_36 rfl (lv_at hl 0 rfl) ?_
    refine q_get (v := .ref (b 0)) C inX10_dearest_X10 hK hP 0 rfl rfl 3 (by decide) rfl LX10_dearest_35 rfl dX10_dearest_37 ?_
    refine lv_iload hx hb dX10_dearest_40 (lv_at hl 4 rfl) ?_
    obtain ⟨q_, s3, hc, hB⟩ := bindI_inv hB
    refine q_goi (wr := ((wG cZ cS a b b2 c0 rg sl s.g) ++ (wD cI b2 s.t))) (va_runVN (As := [.ref (b 0), .int x4]) (rest := []) C (ckX0_fareOf hc _) ⟨va_cnB 2 hts gX10_dearest_X0_fareOf_n153 rfl rfl rfl (hN _ nwM_X10_153 rfl) (hts _ LX10_dearest_I_X0) (by decide +kernel) ⟨Nat.le_of_ble_eq_true rfl, Nat.le_of_ble_eq_true rfl⟩, hts _ LX10_dearest_N_X0_fareOf, hts _ LX10_dearest_E_X0_fareOf⟩ (q_preV hK hP (ci := 0) (q0 := 52) rfl rfl rfl (q_pre hN hK hP hD [11, 12, 13, 14, 15, 16, 17, 18, 19, 20, 21, 22, 23, 24, 25, 26, 27, 28, 29, 30, 31, 32, 33, 34, 35, 36, 37, 38, 39, 40, 41, 42, 43, 44, 45, 46, 47, 48, 49, 50, 51, 52, 53, 54, 55, 56, 57, 58, 59, 60, 61, 62, 63] (by first | exact zqs_2X | rfl) zqn_2)) rfl rfl hl.1 rfl (lv_room (Nat.le_of_ble_eq_true rfl)) dX10_dearest_42 ⟨Nat.le_of_ble_eq_true rfl, Nat.le_of_ble_eq_true rfl⟩) hP hD hS hA [11, 12, 13, 14, 15, 16, 17, 18, 19, 20, 21, 22, 23, 24, 25, 26, 27, 28, 29, 30, 31, 32, 33, 34, 35, 36, 37, 38, 39, 40, 41, 42, 43, 44, 45, 46, 47, 48, 49, 50, 51, 52, 53, 54, 55, 56, 57, 58, 59, 60, 61, 62, 63] [0, 1, 2, 3, 4, 5, 6, 7, 8, 9, 10] (by first | exact zqs_2X | rfl) (by first | exact zqs_3X | rfl) zqn_3 zqd_1 (fun r4 w1 H locs hw hP hD hS => ?_)
    obtain ⟨hq_, hw⟩ := hw; subst hw; subst hq_
    obtain ⟨s5, hs6, hB⟩ := letS_inv hB
    have hP : va_P (dC, dI) vwCl (wX cB cI cJ cZ cS a b b2 c0 rg sl s5) H := by subst hs6; exact hP
    have hD : va_D A (wX cB cI cJ cZ cS a b b2 c0 rg sl s5) := by subst hs6; exact hD
    refine lv_istore (lv' := [(5, .int r4), (0, .ref (c0 0)), (1, .int x1), (2, .int x2), (3, .int x3), (4, .int x4)]) hx hb dX10_dearest_45 hl (by decide) rfl (fun ls hl => ?_)
    refine lv_iload hx hb dX10_dearest_47 (lv_at hl 0 rfl) ?_
    refine lv_iload_n hx hb dX10_dearest_49 rfl (lv_at hl 4 rfl) ?_
    refine lv_icmp_le (tgt := 59) hx hb dX10_dearest_50 (by decide) (fun c7 => ?_) (fun c7 => ?_)
    · have hB := if_p hB c7
      exact bkX10_dearest_59 (hk20) _ _ _ _ _ hB p e s0 m below meth c A E H locs ls hP hD hS (lv_sub hl [1, 2, 3, 4, 5] rfl)
    · have hB := if_n hB c7
      refine lv_iload hx hb dX10_dearest_53 (lv_at hl 0 rfl) ?_
      refine lv_istore_n (lv' := [(3, .int r4), (5, .int r4), (0, .ref (c0 0)), (1, .int x1), (2, .int x2), (4, .int x4)]) hx hb dX10_dearest_55 rfl hl (by decide) rfl (fun ls hl => ?_)
      refine lv_iload hx hb dX10_dearest_56 (lv_at hl 5 rfl) ?_
      refine lv_istore_n (lv' := [(2, .int x4), (3, .int r4), (5, .int r4), (0, .ref (c0 0)), (1, .int x1), (4, .int x4)]) hx hb dX10_dearest_58 rfl hl (by decide) rfl (fun ls hl => ?_)
      exact bkX10_dearest_59 (hk20) _ _ _ _ _ hB p e s0 m below meth c A E H locs ls hP hD hS (lv_sub hl [3, 4, 0, 1, 5] rfl)
theorem bkX10_dearest_20L {l : Launch} {dC : Nat → ClassId} {dI : Nat → Nat → Nat} {cB cI cJ cZ cS : ClassId} {a b b2 c0 : Nat → Nat} {rg sl : Nat → Option Nat} {as : List Value} {r : Int32} {s' : XS} : ∀ (n : Nat) (s : XS) (x1 : Int32) (x2 : Int32) (x3 : Int32) (x4 : Int32), kX10_dearest_20L n s x1 x2 x3 x4 = some (r, s') → BlkI l yX10_dearest wsX10_dearest ({ frames := 4, cells := 0, slots := 0, locals := 98 }) cX10_dearest 6 (some .int) (dC, dI) (tysA cB cI cJ cZ cS) as 20 (wX cB cI cJ cZ cS a b b2 c0 rg sl s) [(0, .ref (c0 0)), (1, .int x1), (2, .int x2), (3, .int x3), (4, .int x4)] [] (fun x u => x = r ∧ u = (wX cB cI cJ cZ cS a b b2 c0 rg sl s')) := by
  intro n
  induction n with
  | zero => intro s x1 x2 x3 x4 hB; exact none_ne hB
  | succ n ih => intro s x1 x2 x3 x4 hB; exact bkX10_dearest_20 ih _ _ _ _ _ hB
set_option maxHeartbeats 4000000 in
set_option maxRecDepth 100000 in
theorem bkX10_dearest_11 {l : Launch} {dC : Nat → ClassId} {dI : Nat → Nat → Nat} {cB cI cJ cZ cS : ClassId} {a b b2 c0 : Nat → Nat} {rg sl : Nat → Option Nat} {as : List Value} {r : Int32} {s' : XS} (s : XS) (x1 : Int32) (hB : kX10_dearest_11 s x1 = some (r, s')) : BlkI l yX10_dearest wsX10_dearest ({ frames := 4, cells := 0, slots := 0, locals := 98 }) cX10_dearest 6 (some .int) (dC, dI) (tysA cB cI cJ cZ cS) as 11 (wX cB cI cJ cZ cS a b b2 c0 rg sl s) [(0, .ref (c0 0)), (1, .int x1)] [] (fun x u => x = r ∧ u = (wX cB cI cJ cZ cS a b b2 c0 rg sl s')) := by
  intro p e s0 m below meth c A E H locs ls hP hD hS hl
  obtain ⟨C, hr, hlocks, hA, hK, hN⟩ := id E
  obtain ⟨hx, hb, hml, hown, hts⟩ := id C
  unfold kX10_dearest_11 at hB
  refine lv_bipush (v := (-2)) hx hb dX10_dearest_11 (by decide) ?_
  refine lv_istore_n (lv' := [(2, .int (-2)), (0, .ref (c0 0)), (1, .int x1)]) hx hb dX10_dearest_13 rfl hl (by decide) rfl (fun ls hl => ?_)
  refine lv_bipush (v := (-2)) hx hb dX10_dearest_14 (by decide) ?_
  refine lv_istore_n (lv' := [(3, .int (-2)), (2, .int (-2)), (0, .ref (c0 0)), (1, .int x1)]) hx hb dX10_dearest_16 rfl hl (by decide) rfl (fun ls hl => ?_)
  refine lv_iconst (v := 0) hx hb dX10_dearest_17 (by decide) ?_
  refine lv_istore (lv' := [(4, .int 0), (3, .int (-2)), (2, .int (-2)), (0, .ref (c0 0)), (1, .int x1)]) hx hb dX10_dearest_18 hl (by decide) rfl (fun ls hl => ?_)
  exact bkX10_dearest_20L fu _ _ _ _ _ hB p e s0 m below meth c A E H locs ls hP hD hS (lv_sub hl [3, 4, 2, 1, 0] rfl)
set_option maxHeartbeats 4000000 in
set_option maxRecDepth 100000 in
theorem bkX10_dearest {l : Launch} {dC : Nat → ClassId} {dI : Nat → Nat → Nat} {cB cI cJ cZ cS : ClassId} {a b b2 c0 : Nat → Nat} {rg sl : Nat → Option Nat} {as : List Value} {r : Int32} {s' : XS} (s : XS) (x1 : Int32) (hB : kX10_dearest s x1 = some (r, s')) : BlkI l yX10_dearest wsX10_dearest ({ frames := 4, cells := 0, slots := 0, locals := 98 }) cX10_dearest 6 (some .int) (dC, dI) (tysA cB cI cJ cZ cS) as 0 (wX cB cI cJ cZ cS a b b2 c0 rg sl s) [(0, .ref (c0 0)), (1, .int x1)] [] (fun x u => x = r ∧ u = (wX cB cI cJ cZ cS a b b2 c0 rg sl s')) := by
  intro p e s0 m below meth c A E H locs ls hP hD hS hl
  obtain ⟨C, hr, hlocks, hA, hK, hN⟩ := id E
  obtain ⟨hx, hb, hml, hown, hts⟩ := id C
  unfold kX10_dearest at hB
  refine lv_iload_n hx hb dX10_dearest_0 rfl (lv_at hl 1 rfl) ?_
  refine lv_if_eq (tgt := 11) hx hb dX10_dearest_1 (by decide) (fun c1 => ?_) (fun c1 => ?_)
  · have hB := if_p hB c1
    exact bkX10_dearest_11 _ _ hB p e s0 m below meth c A E H locs ls hP hD hS (lv_sub hl [0, 1] rfl)
  · have hB := if_n hB c1
    refine lv_iload_n hx hb dX10_dearest_4 rfl (lv_at hl 1 rfl) ?_
    refine lv_iconst (v := 1) hx hb dX10_dearest_5 (by decide) ?_
    refine lv_icmp_eq (tgt := 11) hx hb dX10_dearest_6 (by decide) (fun c2 => ?_) (fun c2 => ?_)
    · have hB := if_p hB c2
      exact bkX10_dearest_11 _ _ hB p e s0 m below meth c A E H locs ls hP hD hS (lv_sub hl [0, 1] rfl)
    · have hB := if_n hB c2
      refine lv_iconst (v := (-1)) hx hb dX10_dearest_9 (by decide) ?_
      exact q_iret C hr hlocks hK hP hD hS (Nat.le_of_ble_eq_true rfl) (Nat.le_of_ble_eq_true rfl) dX10_dearest_10 (by cases hB; exact ⟨rfl, rfl⟩)
theorem ckX10_dearest {l : Launch} {dC : Nat → ClassId} {dI : Nat → Nat → Nat} {cB cI cJ cZ cS : ClassId} {a b b2 c0 : Nat → Nat} {rg sl : Nat → Option Nat} {r : Int32} {s' : XS} {s : XS} {x1 : Int32} (hB : kX10_dearest s x1 = some (r, s')) : CI l yX10_dearest wsX10_dearest ({ frames := 4, cells := 0, slots := 0, locals := 98 }) (dC, dI) (tysA cB cI cJ cZ cS) (wX cB cI cJ cZ cS a b b2 c0 rg sl s) [.ref (c0 0), .int x1] (fun x u => x = r ∧ u = (wX cB cI cJ cZ cS a b b2 c0 rg sl s')) :=
  CI_of (cc := cX10_dearest) (maxL := 6) (ret := (some .int)) (by decide) rfl (Nat.le_of_ble_eq_true rfl) (bkX10_dearest _ _ hB)
theorem LX10_darers_19 : Cond.fieldLink RX10 19 "GuessFerry" "sound" "LGuessFerry$Sound;" ∈ wsX10_darers := (List.mem_cons_of_mem _ (List.mem_append_left _ (List.mem_append_left _ (List.mem_append_left _ (List.mem_append_left _ (List.mem_append_left _ (List.mem_append_left _ (List.mem_of_getElem? (i := 0) rfl))))))))
theorem LX10_darers_35 : Cond.fieldLink RX10 35 "GuessFerry" "now" "LGuessFerry$Standing;" ∈ wsX10_darers := (List.mem_cons_of_mem _ (List.mem_append_left _ (List.mem_append_left _ (List.mem_append_left _ (List.mem_append_left _ (List.mem_append_left _ (List.mem_append_left _ (List.mem_of_getElem? (i := 1) rfl))))))))
theorem LX10_darers_54 : Cond.fieldLink RX10 54 "GuessFerry" "crossing" "LGuessFerry$Crossing;" ∈ wsX10_darers := (List.mem_cons_of_mem _ (List.mem_append_left _ (List.mem_append_left _ (List.mem_append_left _ (List.mem_append_left _ (List.mem_append_left _ (List.mem_append_left _ (List.mem_of_getElem? (i := 2) rfl))))))))
theorem LX10_darers_E_X0_isDaring : Cond.selects RX0 yX0_isDaring yX0_isDaring ∈ wsX10_darers := (List.mem_cons_of_mem _ (List.mem_append_left _ (List.mem_append_left _ (List.mem_append_left _ (List.mem_append_left _ (List.mem_append_left _ (List.mem_append_left _ (List.mem_of_getElem? (i := 5) rfl))))))))
theorem LX10_darers_I_X0 : Cond.initialized RX0 ∈ wsX10_darers := (List.mem_cons_of_mem _ (List.mem_append_left _ (List.mem_append_left _ (List.mem_append_left _ (List.mem_append_left _ (List.mem_append_left _ (List.mem_append_left _ (List.mem_of_getElem? (i := 4) rfl))))))))
theorem LX10_darers_N_X0_isDaring : Cond.instanceMethod yX0_isDaring ∈ wsX10_darers := (List.mem_cons_of_mem _ (List.mem_append_left _ (List.mem_append_left _ (List.mem_append_left _ (List.mem_append_left _ (List.mem_append_left _ (List.mem_append_left _ (List.mem_of_getElem? (i := 3) rfl))))))))
theorem inX10_darers_X10 : ∀ w ∈ u_ws RX10 TX10 9, w ∈ wsX10_darers := fun w h => (List.mem_cons_of_mem _ (List.mem_append_left _ (List.mem_append_left _ (List.mem_append_left _ (List.mem_append_left _ (List.mem_append_right _ h))))))
theorem inX10_darers_X5 : ∀ w ∈ u_ws RX5 TX5 10, w ∈ wsX10_darers := fun w h => (List.mem_cons_of_mem _ (List.mem_append_left _ (List.mem_append_left _ (List.mem_append_left _ (List.mem_append_right _ h)))))
theorem inX10_darers_X6 : ∀ w ∈ u_ws RX6 TX6 7, w ∈ wsX10_darers := fun w h => (List.mem_cons_of_mem _ (List.mem_append_left _ (List.mem_append_left _ (List.mem_append_right _ h))))
set_option maxHeartbeats 4000000 in
set_option maxRecDepth 100000 in
theorem bkX10_darers_48 {l : Launch} {dC : Nat → ClassId} {dI : Nat → Nat → Nat} {cB cI cJ cZ cS : ClassId} {a b b2 c0 : Nat → Nat} {rg sl : Nat → Option Nat} {as : List Value} {r : Int32} {s' : XS} {k4 : XS → Int32 → Int32 → Option (Int32 × XS)} (hk4 : ∀ (s : XS) (x1 : Int32) (x2 : Int32), k4 s x1 x2 = some (r, s') → BlkI l yX10_darers wsX10_darers ({ frames := 4, cells := 0, slots := 0, locals := 98 }) cX10_darers 3 (some .int) (dC, dI) (tysA cB cI cJ cZ cS) as 4 (wX cB cI cJ cZ cS a b b2 c0 rg sl s) [(0, .ref (c0 0)), (1, .int x1), (2, .int x2)] [] (fun x u => x = r ∧ u = (wX cB cI cJ cZ cS a b b2 c0 rg sl s'))) (s : XS) (x1 : Int32) (x2 : Int32) (hB : kX10_darers_48 k4 s x1 x2 = some (r, s')) : BlkI l yX10_darers wsX10_darers ({ frames := 4, cells := 0, slots := 0, locals := 98 }) cX10_darers 3 (some .int) (dC, dI) (tysA cB cI cJ cZ cS) as 48 (wX cB cI cJ cZ cS a b b2 c0 rg sl s) [(0, .ref (c0 0)), (1, .int x1), (2, .int x2)] [] (fun x u => x = r ∧ u = (wX cB cI cJ cZ cS a b b2 c0 rg sl s')) := by
  intro p e s0 m below meth c A E H locs ls hP hD hS hl
  obtain ⟨C, hr, hlocks, hA, hK, hN⟩ := id E
  obtain ⟨hx, hb, hml, hown, hts⟩ := id C
  unfold kX10_darers_48 at hB
  refine lv_iinc (v := (x2 + 1)) (lv' := [(2, .int (x2 + 1)), (0, .ref (c0 0)), (1, .int x1)]) hx hb dX10_darers_48 hl (k := 2) rfl (rfl) (by decide) rfl (fun ls hl => ?_)
  refine lv_goto (tgt := 4) hx hb dX10_darers_51 (by decide) ?_
  exact hk4 _ _ _ hB p e s0 m below meth c A E H locs ls hP hD hS (lv_sub hl [1, 2, 0] rfl)
set_option maxHeartbeats 4000000 in
set_option maxRecDepth 100000 in
theorem bkX10_darers_4 {l : Launch} {dC : Nat → ClassId} {dI : Nat → Nat → Nat} {cB cI cJ cZ cS : ClassId} {a b b2 c0 : Nat → Nat} {rg sl : Nat → Option Nat} {as : List Value} {r : Int32} {s' : XS} {k4 : XS → Int32 → Int32 → Option (Int32 × XS)} (hk4 : ∀ (s : XS) (x1 : Int32) (x2 : Int32), k4 s x1 x2 = some (r, s') → BlkI l yX10_darers wsX10_darers ({ frames := 4, cells := 0, slots := 0, locals := 98 }) cX10_darers 3 (some .int) (dC, dI) (tysA cB cI cJ cZ cS) as 4 (wX cB cI cJ cZ cS a b b2 c0 rg sl s) [(0, .ref (c0 0)), (1, .int x1), (2, .int x2)] [] (fun x u => x = r ∧ u = (wX cB cI cJ cZ cS a b b2 c0 rg sl s'))) (s : XS) (x1 : Int32) (x2 : Int32) (hB : kX10_darers_4 k4 s x1 x2 = some (r, s')) : BlkI l yX10_darers wsX10_darers ({ frames := 4, cells := 0, slots := 0, locals := 98 }) cX10_darers 3 (some .int) (dC, dI) (tysA cB cI cJ cZ cS) as 4 (wX cB cI cJ cZ cS a b b2 c0 rg sl s) [(0, .ref (c0 0)), (1, .int x1), (2, .int x2)] [] (fun x u => x = r ∧ u = (wX cB cI cJ cZ cS a b b2 c0 rg sl s')) := by
  intro p e s0 m below meth c A E H locs ls hP hD hS hl
  obtain ⟨C, hr, hlocks, hA, hK, hN⟩ := id E
  obtain ⟨hx, hb, hml, hown, hts⟩ := id C
  unfold kX10_darers_4 at hB
  refine lv_iload_n hx hb dX10_darers_4 rfl (lv_at hl 2 rfl) ?_
  refine lv_aload_n hx hb dX10_darers_5 rfl (lv_at hl 0 rfl) ?_
  refine q_get (v := .ref (a 2)) C inX10_darers_X10 hK hP 0 rfl rfl 1 (by decide) rfl LX10_darers_19 rfl dX10_darers_6 ?_
  refine q_getN (v := .int (s.k.v 2)) C hN inX10_darers_X5 hK hP 19 rfl rfl 7 (by decide) rfl nwF_X10_235 rfl dX10_darers_9 ?_
  refine lv_icmp_ge (tgt := 54) hx hb dX10_darers_12 (by decide) (fun c1 => ?_) (fun c1 => ?_)
  · have hB := if_p hB c1
    refine lv_iload_n hx hb dX10_darers_54 rfl (lv_at hl 1 rfl) ?_
    exact q_iret C hr hlocks hK hP hD hS (Nat.le_of_ble_eq_true rfl) (Nat.le_of_ble_eq_true rfl) dX10_darers_55 (by cases hB; exact ⟨rfl, rfl⟩)
  · have hB := if_n hB c1
    refine lv_aload_n hx hb dX10_darers_15 rfl (lv_at hl 0 rfl) ?_
    refine q_get (v := .ref (b 0)) C inX10_darers_X10 hK hP 0 rfl rfl 3 (by decide) rfl LX10_darers_35 rfl dX10_darers_16 ?_
    refine q_getN (v := .ref (b 4)) C hN inX10_darers_X6 hK hP 11 rfl rfl 3 (by decide) rfl nwF_X10_147 rfl dX10_darers_19 ?_
    refine lv_iload_n hx hb dX10_darers_22 rfl (lv_at hl 2 rfl) ?_
    obtain ⟨g2, hB⟩ := guard_inv hB
    refine q_iald (x := ((s.n.f 3) (Int32.toNatClampNeg x2))) C hK hP 15 1 rfl rfl (vpb_in g2) dX10_darers_23 rfl ?_
    refine lv_if_ne (tgt := 48) hx hb dX10_darers_24 (by decide) (fun c3 => ?_) (fun c3 => ?_)
    · have hB := if_n hB c3
      exact bkX10_darers_48 (hk4) _ _ _ hB p e s0 m below meth c A E H locs ls hP hD hS (lv_sub hl [0, 1, 2] rfl)
    · have hB := if_p hB c3
      refine lv_aload_n hx hb dX10_darers_27 rfl (lv_at hl 0 rfl) ?_
      refine q_get (v := .ref (a 35)) C inX10_darers_X10 hK hP 0 rfl rfl 6 (by decide) rfl LX10_darers_54 rfl dX10_darers_28 ?_
      refine lv_aload_n hx hb dX10_darers_31 rfl (lv_at hl 0 rfl) ?_
      refine q_get (v := .ref (b 0)) C inX10_darers_X10 hK hP 0 rfl rfl 3 (by decide) rfl LX10_darers_35 rfl dX10_darers_32 ?_
      refine lv_iload_n hx hb dX10_darers_35 rfl (lv_at hl 2 rfl) ?_
      obtain ⟨q_, s4, hc, hB⟩ := bindI_inv hB
      refine q_goi (wr := ((wG cZ cS a b b2 c0 rg sl s.g) ++ (wD cI b2 s.t))) (va_runVN (As := [.ref (b 0), .int x2]) (rest := []) C (ckX0_isDaring hc _) ⟨va_cnB 2 hts gX10_darers_X0_isDaring_n156 rfl rfl rfl (hN _ nwM_X10_156 rfl) (hts _ LX10_darers_I_X0) (by decide +kernel) ⟨Nat.le_of_ble_eq_true rfl, Nat.le_of_ble_eq_true rfl⟩, hts _ LX10_darers_N_X0_isDaring, hts _ LX10_darers_E_X0_isDaring⟩ (q_preV hK hP (ci := 0) (q0 := 52) rfl rfl rfl (q_pre hN hK hP hD [11, 12, 13, 14, 15, 16, 17, 18, 19, 20, 21, 22, 23, 24, 25, 26, 27, 28, 29, 30, 31, 32, 33, 34, 35, 36, 37, 38, 39, 40, 41, 42, 43, 44, 45, 46, 47, 48, 49, 50, 51, 52, 53, 54, 55, 56, 57, 58, 59, 60, 61, 62, 63] (by first | exact zqs_2X | rfl) zqn_2)) rfl rfl hl.1 rfl (lv_room (Nat.le_of_ble_eq_true rfl)) dX10_darers_36 ⟨Nat.le_of_ble_eq_true rfl, Nat.le_of_ble_eq_true rfl⟩) hP hD hS hA [11, 12, 13, 14, 15, 16, 17, 18, 19, 20, 21, 22, 23, 24, 25, 26, 27, 28, 29, 30, 31, 32, 33, 34, 35, 36, 37, 38, 39, 40, 41, 42, 43, 44, 45, 46, 47, 48, 49, 50, 51, 52, 53, 54, 55, 56, 57, 58, 59, 60, 61, 62, 63] [0, 1, 2, 3, 4, 5, 6, 7, 8, 9, 10] (by first | exact zqs_2X | rfl) (by first | exact zqs_3X | rfl) zqn_3 zqd_1 (fun r5 w1 H locs hw hP hD hS => ?_)
      obtain ⟨hq_, hw⟩ := hw; subst hw; subst hq_
      obtain ⟨s6, hs7, hB⟩ := letS_inv hB
      have hP : va_P (dC, dI) vwCl (wX cB cI cJ cZ cS a b b2 c0 rg sl s6) H := by subst hs7; exact hP
      have hD : va_D A (wX cB cI cJ cZ cS a b b2 c0 rg sl s6) := by subst hs7; exact hD
      refine lv_if_eq (tgt := 48) hx hb dX10_darers_39 (by decide) (fun c8 => ?_) (fun c8 => ?_)
      · have hB := if_p hB c8
        exact bkX10_darers_48 (hk4) _ _ _ hB p e s0 m below meth c A E H locs ls hP hD hS (lv_sub hl [0, 1, 2] rfl)
      · have hB := if_n hB c8
        refine lv_iload_n hx hb dX10_darers_42 rfl (lv_at hl 1 rfl) ?_
        refine lv_iconst (v := 1) hx hb dX10_darers_43 (by decide) ?_
        refine lv_iload_n hx hb dX10_darers_44 rfl (lv_at hl 2 rfl) ?_
        refine lv_ishl hx hb dX10_darers_45 ?_
        refine lv_ior hx hb dX10_darers_46 ?_
        refine lv_istore_n (lv' := [(1, .int (x1 ||| (1 <<< (x2 &&& 31)))), (0, .ref (c0 0)), (2, .int x2)]) hx hb dX10_darers_47 rfl hl (by decide) rfl (fun ls hl => ?_)
        exact bkX10_darers_48 (hk4) _ _ _ hB p e s0 m below meth c A E H locs ls hP hD hS (lv_sub hl [1, 0, 2] rfl)
theorem bkX10_darers_4L {l : Launch} {dC : Nat → ClassId} {dI : Nat → Nat → Nat} {cB cI cJ cZ cS : ClassId} {a b b2 c0 : Nat → Nat} {rg sl : Nat → Option Nat} {as : List Value} {r : Int32} {s' : XS} : ∀ (n : Nat) (s : XS) (x1 : Int32) (x2 : Int32), kX10_darers_4L n s x1 x2 = some (r, s') → BlkI l yX10_darers wsX10_darers ({ frames := 4, cells := 0, slots := 0, locals := 98 }) cX10_darers 3 (some .int) (dC, dI) (tysA cB cI cJ cZ cS) as 4 (wX cB cI cJ cZ cS a b b2 c0 rg sl s) [(0, .ref (c0 0)), (1, .int x1), (2, .int x2)] [] (fun x u => x = r ∧ u = (wX cB cI cJ cZ cS a b b2 c0 rg sl s')) := by
  intro n
  induction n with
  | zero => intro s x1 x2 hB; exact none_ne hB
  | succ n ih => intro s x1 x2 hB; exact bkX10_darers_4 ih _ _ _ hB
set_option maxHeartbeats 4000000 in
set_option maxRecDepth 100000 in
theorem bkX10_darers {l : Launch} {dC : Nat → ClassId} {dI : Nat → Nat → Nat} {cB cI cJ cZ cS : ClassId} {a b b2 c0 : Nat → Nat} {rg sl : Nat → Option Nat} {as : List Value} {r : Int32} {s' : XS} (s : XS) (hB : kX10_darers s = some (r, s')) : BlkI l yX10_darers wsX10_darers ({ frames := 4, cells := 0, slots := 0, locals := 98 }) cX10_darers 3 (some .int) (dC, dI) (tysA cB cI cJ cZ cS) as 0 (wX cB cI cJ cZ cS a b b2 c0 rg sl s) [(0, .ref (c0 0))] [] (fun x u => x = r ∧ u = (wX cB cI cJ cZ cS a b b2 c0 rg sl s')) := by
  intro p e s0 m below meth c A E H locs ls hP hD hS hl
  obtain ⟨C, hr, hlocks, hA, hK, hN⟩ := id E
  obtain ⟨hx, hb, hml, hown, hts⟩ := id C
  unfold kX10_darers at hB
  refine lv_iconst (v := 0) hx hb dX10_darers_0 (by decide) ?_
  refine lv_istore_n (lv' := [(1, .int 0), (0, .ref (c0 0))]) hx hb dX10_darers_1 rfl hl (by decide) rfl (fun ls hl => ?_)
  refine lv_iconst (v := 0) hx hb dX10_darers_2 (by decide) ?_
  refine lv_istore_n (lv' := [(2, .int 0), (1, .int 0), (0, .ref (c0 0))]) hx hb dX10_darers_3 rfl hl (by decide) rfl (fun ls hl => ?_)
  exact bkX10_darers_4L fu _ _ _ hB p e s0 m below meth c A E H locs ls hP hD hS (lv_sub hl [2, 1, 0] rfl)
theorem ckX10_darers {l : Launch} {dC : Nat → ClassId} {dI : Nat → Nat → Nat} {cB cI cJ cZ cS : ClassId} {a b b2 c0 : Nat → Nat} {rg sl : Nat → Option Nat} {r : Int32} {s' : XS} {s : XS} (hB : kX10_darers s = some (r, s')) : CI l yX10_darers wsX10_darers ({ frames := 4, cells := 0, slots := 0, locals := 98 }) (dC, dI) (tysA cB cI cJ cZ cS) (wX cB cI cJ cZ cS a b b2 c0 rg sl s) [.ref (c0 0)] (fun x u => x = r ∧ u = (wX cB cI cJ cZ cS a b b2 c0 rg sl s')) :=
  CI_of (cc := cX10_darers) (maxL := 3) (ret := (some .int)) (by decide) rfl (Nat.le_of_ble_eq_true rfl) (bkX10_darers _ hB)
theorem LX10_year_19 : Cond.fieldLink RX10 19 "GuessFerry" "sound" "LGuessFerry$Sound;" ∈ wsX10_year := (List.mem_cons_of_mem _ (List.mem_append_left _ (List.mem_append_left _ (List.mem_append_left _ (List.mem_append_left _ (List.mem_append_left _ (List.mem_of_getElem? (i := 0) rfl)))))))
theorem LX10_year_35 : Cond.fieldLink RX10 35 "GuessFerry" "now" "LGuessFerry$Standing;" ∈ wsX10_year := (List.mem_cons_of_mem _ (List.mem_append_left _ (List.mem_append_left _ (List.mem_append_left _ (List.mem_append_left _ (List.mem_append_left _ (List.mem_of_getElem? (i := 2) rfl)))))))
theorem LX10_year_54 : Cond.fieldLink RX10 54 "GuessFerry" "crossing" "LGuessFerry$Crossing;" ∈ wsX10_year := (List.mem_cons_of_mem _ (List.mem_append_left _ (List.mem_append_left _ (List.mem_append_left _ (List.mem_append_left _ (List.mem_append_left _ (List.mem_of_getElem? (i := 1) rfl)))))))
theorem LX10_year_E_X0_guessThere : Cond.selects RX0 yX0_guessThere yX0_guessThere ∈ wsX10_year := (List.mem_cons_of_mem _ (List.mem_append_left _ (List.mem_append_left _ (List.mem_append_left _ (List.mem_append_left _ (List.mem_append_left _ (List.mem_of_getElem? (i := 8) rfl)))))))
theorem LX10_year_E_X5_hasGuess : Cond.selects RX5 yX5_hasGuess yX5_hasGuess ∈ wsX10_year := (List.mem_cons_of_mem _ (List.mem_append_left _ (List.mem_append_left _ (List.mem_append_left _ (List.mem_append_left _ (List.mem_append_left _ (List.mem_of_getElem? (i := 5) rfl)))))))
theorem LX10_year_I_X0 : Cond.initialized RX0 ∈ wsX10_year := (List.mem_cons_of_mem _ (List.mem_append_left _ (List.mem_append_left _ (List.mem_append_left _ (List.mem_append_left _ (List.mem_append_left _ (List.mem_of_getElem? (i := 7) rfl)))))))
theorem LX10_year_I_X5 : Cond.initialized RX5 ∈ wsX10_year := (List.mem_cons_of_mem _ (List.mem_append_left _ (List.mem_append_left _ (List.mem_append_left _ (List.mem_append_left _ (List.mem_append_left _ (List.mem_of_getElem? (i := 4) rfl)))))))
theorem LX10_year_N_X0_guessThere : Cond.instanceMethod yX0_guessThere ∈ wsX10_year := (List.mem_cons_of_mem _ (List.mem_append_left _ (List.mem_append_left _ (List.mem_append_left _ (List.mem_append_left _ (List.mem_append_left _ (List.mem_of_getElem? (i := 6) rfl)))))))
theorem LX10_year_N_X5_hasGuess : Cond.instanceMethod yX5_hasGuess ∈ wsX10_year := (List.mem_cons_of_mem _ (List.mem_append_left _ (List.mem_append_left _ (List.mem_append_left _ (List.mem_append_left _ (List.mem_append_left _ (List.mem_of_getElem? (i := 3) rfl)))))))
theorem inX10_year_X10 : ∀ w ∈ u_ws RX10 TX10 9, w ∈ wsX10_year := fun w h => (List.mem_cons_of_mem _ (List.mem_append_left _ (List.mem_append_left _ (List.mem_append_left _ (List.mem_append_right _ h)))))
theorem inX10_year_X5 : ∀ w ∈ u_ws RX5 TX5 10, w ∈ wsX10_year := fun w h => (List.mem_cons_of_mem _ (List.mem_append_left _ (List.mem_append_left _ (List.mem_append_right _ h))))
set_option maxHeartbeats 4000000 in
set_option maxRecDepth 100000 in
theorem bkX10_year_63 {l : Launch} {dC : Nat → ClassId} {dI : Nat → Nat → Nat} {cB cI cJ cZ cS : ClassId} {a b b2 c0 : Nat → Nat} {rg sl : Nat → Option Nat} {as : List Value} {r : Int32} {s' : XS} {k29 : XS → Int32 → Int32 → Int32 → Int32 → Option (Int32 × XS)} (hk29 : ∀ (s : XS) (x1 : Int32) (x2 : Int32) (x3 : Int32) (x4 : Int32), k29 s x1 x2 x3 x4 = some (r, s') → BlkI l yX10_year wsX10_year ({ frames := 4, cells := 0, slots := 0, locals := 95 }) cX10_year 5 (some .int) (dC, dI) (tysA cB cI cJ cZ cS) as 29 (wX cB cI cJ cZ cS a b b2 c0 rg sl s) [(0, .ref (c0 0)), (1, .int x1), (2, .int x2), (3, .int x3), (4, .int x4)] [] (fun x u => x = r ∧ u = (wX cB cI cJ cZ cS a b b2 c0 rg sl s'))) (s : XS) (x1 : Int32) (x2 : Int32) (x3 : Int32) (x4 : Int32) (hB : kX10_year_63 k29 s x1 x2 x3 x4 = some (r, s')) : BlkI l yX10_year wsX10_year ({ frames := 4, cells := 0, slots := 0, locals := 95 }) cX10_year 5 (some .int) (dC, dI) (tysA cB cI cJ cZ cS) as 63 (wX cB cI cJ cZ cS a b b2 c0 rg sl s) [(0, .ref (c0 0)), (1, .int x1), (2, .int x2), (3, .int x3), (4, .int x4)] [] (fun x u => x = r ∧ u = (wX cB cI cJ cZ cS a b b2 c0 rg sl s')) := by
  intro p e s0 m below meth c A E H locs ls hP hD hS hl
  obtain ⟨C, hr, hlocks, hA, hK, hN⟩ := id E
  obtain ⟨hx, hb, hml, hown, hts⟩ := id C
  unfold kX10_year_63 at hB
  refine lv_iinc (v := (x4 + 1)) (lv' := [(4, .int (x4 + 1)), (0, .ref (c0 0)), (1, .int x1), (2, .int x2), (3, .int x3)]) hx hb dX10_year_63 hl (k := 4) rfl (rfl) (by decide) rfl (fun ls hl => ?_)
  refine lv_goto (tgt := 29) hx hb dX10_year_66 (by decide) ?_
  exact hk29 _ _ _ _ _ hB p e s0 m below meth c A E H locs ls hP hD hS (lv_sub hl [1, 2, 3, 4, 0] rfl)
set_option maxHeartbeats 4000000 in
set_option maxRecDepth 100000 in
theorem bkX10_year_29 {l : Launch} {dC : Nat → ClassId} {dI : Nat → Nat → Nat} {cB cI cJ cZ cS : ClassId} {a b b2 c0 : Nat → Nat} {rg sl : Nat → Option Nat} {as : List Value} {r : Int32} {s' : XS} {k29 : XS → Int32 → Int32 → Int32 → Int32 → Option (Int32 × XS)} (hk29 : ∀ (s : XS) (x1 : Int32) (x2 : Int32) (x3 : Int32) (x4 : Int32), k29 s x1 x2 x3 x4 = some (r, s') → BlkI l yX10_year wsX10_year ({ frames := 4, cells := 0, slots := 0, locals := 95 }) cX10_year 5 (some .int) (dC, dI) (tysA cB cI cJ cZ cS) as 29 (wX cB cI cJ cZ cS a b b2 c0 rg sl s) [(0, .ref (c0 0)), (1, .int x1), (2, .int x2), (3, .int x3), (4, .int x4)] [] (fun x u => x = r ∧ u = (wX cB cI cJ cZ cS a b b2 c0 rg sl s'))) (s : XS) (x1 : Int32) (x2 : Int32) (x3 : Int32) (x4 : Int32) (hB : kX10_year_29 k29 s x1 x2 x3 x4 = some (r, s')) : BlkI l yX10_year wsX10_year ({ frames := 4, cells := 0, slots := 0, locals := 95 }) cX10_year 5 (some .int) (dC, dI) (tysA cB cI cJ cZ cS) as 29 (wX cB cI cJ cZ cS a b b2 c0 rg sl s) [(0, .ref (c0 0)), (1, .int x1), (2, .int x2), (3, .int x3), (4, .int x4)] [] (fun x u => x = r ∧ u = (wX cB cI cJ cZ cS a b b2 c0 rg sl s')) := by
  intro p e s0 m below meth c A E H locs ls hP hD hS hl
  obtain ⟨C, hr, hlocks, hA, hK, hN⟩ := id E
  obtain ⟨hx, hb, hml, hown, hts⟩ := id C
  unfold kX10_year_29 at hB
  refine lv_iload hx hb dX10_year_29 (lv_at hl 4 rfl) ?_
  refine lv_iload_n hx hb dX10_year_31 rfl (lv_at hl 2 rfl) ?_
  refine lv_icmp_ge (tgt := 69) hx hb dX10_year_32 (by decide) (fun c1 => ?_) (fun c1 => ?_)
  · have hB := if_p hB c1
    refine lv_iload_n hx hb dX10_year_69 rfl (lv_at hl 3 rfl) ?_
    exact q_iret C hr hlocks hK hP hD hS (Nat.le_of_ble_eq_true rfl) (Nat.le_of_ble_eq_true rfl) dX10_year_70 (by cases hB; exact ⟨rfl, rfl⟩)
  · have hB := if_n hB c1
    refine lv_aload_n hx hb dX10_year_35 rfl (lv_at hl 0 rfl) ?_
    refine q_get (v := .ref (a 35)) C inX10_year_X10 hK hP 0 rfl rfl 6 (by decide) rfl LX10_year_54 rfl dX10_year_36 ?_
    refine lv_aload_n hx hb dX10_year_39 rfl (lv_at hl 0 rfl) ?_
    refine q_get (v := .ref (b 0)) C inX10_year_X10 hK hP 0 rfl rfl 3 (by decide) rfl LX10_year_35 rfl dX10_year_40 ?_
    refine lv_aload_n hx hb dX10_year_43 rfl (lv_at hl 0 rfl) ?_
    refine q_get (v := .ref (a 2)) C inX10_year_X10 hK hP 0 rfl rfl 1 (by decide) rfl LX10_year_19 rfl dX10_year_44 ?_
    refine q_getN (v := .int (s.k.v 4)) C hN inX10_year_X5 hK hP 19 rfl rfl 9 (by decide) rfl nwF_X10_253 rfl dX10_year_47 ?_
    refine lv_iload hx hb dX10_year_50 (lv_at hl 4 rfl) ?_
    refine lv_iadd hx hb dX10_year_52 ?_
    obtain ⟨q_, s2, hc, hB⟩ := bindI_inv hB
    refine q_goi (wr := ((wG cZ cS a b b2 c0 rg sl s.g) ++ (wD cI b2 s.t))) (va_runVN (As := [.ref (b 0), .int ((s.k.v 4) + x4)]) (rest := []) C (ckX0_guessThere hc _) ⟨va_cnB 2 hts gX10_year_X0_guessThere_n256 rfl rfl rfl (hN _ nwM_X10_256 rfl) (hts _ LX10_year_I_X0) (by decide +kernel) ⟨Nat.le_of_ble_eq_true rfl, Nat.le_of_ble_eq_true rfl⟩, hts _ LX10_year_N_X0_guessThere, hts _ LX10_year_E_X0_guessThere⟩ (q_preV hK hP (ci := 0) (q0 := 52) rfl rfl rfl (q_pre hN hK hP hD [11, 12, 13, 14, 15, 16, 17, 18, 19, 20, 21, 22, 23, 24, 25, 26, 27, 28, 29, 30, 31, 32, 33, 34, 35, 36, 37, 38, 39, 40, 41, 42, 43, 44, 45, 46, 47, 48, 49, 50, 51, 52, 53, 54, 55, 56, 57, 58, 59, 60, 61, 62, 63] (by first | exact zqs_2X | rfl) zqn_2)) rfl rfl hl.1 rfl (lv_room (Nat.le_of_ble_eq_true rfl)) dX10_year_53 ⟨Nat.le_of_ble_eq_true rfl, Nat.le_of_ble_eq_true rfl⟩) hP hD hS hA [11, 12, 13, 14, 15, 16, 17, 18, 19, 20, 21, 22, 23, 24, 25, 26, 27, 28, 29, 30, 31, 32, 33, 34, 35, 36, 37, 38, 39, 40, 41, 42, 43, 44, 45, 46, 47, 48, 49, 50, 51, 52, 53, 54, 55, 56, 57, 58, 59, 60, 61, 62, 63] [0, 1, 2, 3, 4, 5, 6, 7, 8, 9, 10] (by first | exact zqs_2X | rfl) (by first | exact zqs_3X | rfl) zqn_3 zqd_1 (fun r3 w1 H locs hw hP hD hS => ?_)
    obtain ⟨hq_, hw⟩ := hw; subst hw; subst hq_
    obtain ⟨s4, hs5, hB⟩ := letS_inv hB
    have hP : va_P (dC, dI) vwCl (wX cB cI cJ cZ cS a b b2 c0 rg sl s4) H := by subst hs5; exact hP
    have hD : va_D A (wX cB cI cJ cZ cS a b b2 c0 rg sl s4) := by subst hs5; exact hD
    refine lv_iload_n hx hb dX10_year_56 rfl (lv_at hl 1 rfl) ?_
    refine lv_icmp_ne (tgt := 63) hx hb dX10_year_57 (by decide) (fun c6 => ?_) (fun c6 => ?_)
    · have hB := if_n hB c6
      exact bkX10_year_63 (hk29) _ _ _ _ _ hB p e s0 m below meth c A E H locs ls hP hD hS (lv_sub hl [0, 1, 2, 3, 4] rfl)
    · have hB := if_p hB c6
      refine lv_iinc (v := (x3 + 1)) (lv' := [(3, .int (x3 + 1)), (0, .ref (c0 0)), (1, .int x1), (2, .int x2), (4, .int x4)]) hx hb dX10_year_60 hl (k := 3) rfl (rfl) (by decide) rfl (fun ls hl => ?_)
      exact bkX10_year_63 (hk29) _ _ _ _ _ hB p e s0 m below meth c A E H locs ls hP hD hS (lv_sub hl [1, 2, 3, 0, 4] rfl)
theorem bkX10_year_29L {l : Launch} {dC : Nat → ClassId} {dI : Nat → Nat → Nat} {cB cI cJ cZ cS : ClassId} {a b b2 c0 : Nat → Nat} {rg sl : Nat → Option Nat} {as : List Value} {r : Int32} {s' : XS} : ∀ (n : Nat) (s : XS) (x1 : Int32) (x2 : Int32) (x3 : Int32) (x4 : Int32), kX10_year_29L n s x1 x2 x3 x4 = some (r, s') → BlkI l yX10_year wsX10_year ({ frames := 4, cells := 0, slots := 0, locals := 95 }) cX10_year 5 (some .int) (dC, dI) (tysA cB cI cJ cZ cS) as 29 (wX cB cI cJ cZ cS a b b2 c0 rg sl s) [(0, .ref (c0 0)), (1, .int x1), (2, .int x2), (3, .int x3), (4, .int x4)] [] (fun x u => x = r ∧ u = (wX cB cI cJ cZ cS a b b2 c0 rg sl s')) := by
  intro n
  induction n with
  | zero => intro s x1 x2 x3 x4 hB; exact none_ne hB
  | succ n ih => intro s x1 x2 x3 x4 hB; exact bkX10_year_29 ih _ _ _ _ _ hB
set_option maxHeartbeats 4000000 in
set_option maxRecDepth 100000 in
theorem bkX10_year {l : Launch} {dC : Nat → ClassId} {dI : Nat → Nat → Nat} {cB cI cJ cZ cS : ClassId} {a b b2 c0 : Nat → Nat} {rg sl : Nat → Option Nat} {as : List Value} {r : Int32} {s' : XS} (s : XS) (x1 : Int32) (x2 : Int32) (hB : kX10_year s x1 x2 = some (r, s')) : BlkI l yX10_year wsX10_year ({ frames := 4, cells := 0, slots := 0, locals := 95 }) cX10_year 5 (some .int) (dC, dI) (tysA cB cI cJ cZ cS) as 0 (wX cB cI cJ cZ cS a b b2 c0 rg sl s) [(0, .ref (c0 0)), (1, .int x1), (2, .int x2)] [] (fun x u => x = r ∧ u = (wX cB cI cJ cZ cS a b b2 c0 rg sl s')) := by
  intro p e s0 m below meth c A E H locs ls hP hD hS hl
  obtain ⟨C, hr, hlocks, hA, hK, hN⟩ := id E
  obtain ⟨hx, hb, hml, hown, hts⟩ := id C
  unfold kX10_year at hB
  refine lv_aload_n hx hb dX10_year_0 rfl (lv_at hl 0 rfl) ?_
  refine q_get (v := .ref (a 2)) C inX10_year_X10 hK hP 0 rfl rfl 1 (by decide) rfl LX10_year_19 rfl dX10_year_1 ?_
  refine lv_iload_n hx hb dX10_year_4 rfl (lv_at hl 1 rfl) ?_
  obtain ⟨q_, s1, hc, hB⟩ := bindI_inv hB
  refine q_goi (wr := ((wG cZ cS a b b2 c0 rg sl s.g) ++ (wD cI b2 s.t) ++ (wD cI b s.n))) (va_runVN (As := [.int x1]) (rest := []) C (ckX5_hasGuess hc _) ⟨va_cnB 1 hts gX10_year_X5_hasGuess_n170 rfl rfl rfl (hN _ nwM_X10_170 rfl) (hts _ LX10_year_I_X5) (by decide +kernel) ⟨Nat.le_of_ble_eq_true rfl, Nat.le_of_ble_eq_true rfl⟩, hts _ LX10_year_N_X5_hasGuess, hts _ LX10_year_E_X5_hasGuess⟩ (q_preV hK hP (ci := 5) (q0 := 19) rfl rfl rfl (q_pre hN hK hP hD [17, 18, 19, 20, 21, 22, 23, 24, 25, 26, 27, 28, 29, 30, 31, 32, 33, 34, 35, 36, 37, 38, 39, 40, 41, 42, 43, 44, 45, 46, 47, 48, 49, 50, 51, 52, 53, 54, 55, 56, 57, 58, 59, 60, 61, 62, 63] (by first | exact zqs_0X | rfl) zqn_0)) rfl rfl hl.1 rfl (lv_room (Nat.le_of_ble_eq_true rfl)) dX10_year_5 ⟨Nat.le_of_ble_eq_true rfl, Nat.le_of_ble_eq_true rfl⟩) hP hD hS hA [17, 18, 19, 20, 21, 22, 23, 24, 25, 26, 27, 28, 29, 30, 31, 32, 33, 34, 35, 36, 37, 38, 39, 40, 41, 42, 43, 44, 45, 46, 47, 48, 49, 50, 51, 52, 53, 54, 55, 56, 57, 58, 59, 60, 61, 62, 63] [0, 1, 2, 3, 4, 5, 6, 7, 8, 9, 10, 11, 12, 13, 14, 15, 16] (by first | exact zqs_0X | rfl) (by first | exact zqs_1X | rfl) zqn_1 zqd_0 (fun r2 w1 H locs hw hP hD hS => ?_)
  obtain ⟨hq_, hw⟩ := hw; subst hw; subst hq_
  obtain ⟨s3, hs4, hB⟩ := letS_inv hB
  have hP : va_P (dC, dI) vwCl (wX cB cI cJ cZ cS a b b2 c0 rg sl s3) H := by subst hs4; exact hP
  have hD : va_D A (wX cB cI cJ cZ cS a b b2 c0 rg sl s3) := by subst hs4; exact hD
  refine lv_if_eq (tgt := 22) hx hb dX10_year_8 (by decide) (fun c5 => ?_) (fun c5 => ?_)
  · have hB := if_p hB c5
    refine lv_iconst (v := (-1)) hx hb dX10_year_22 (by decide) ?_
    exact q_iret C hr hlocks hK hP hD hS (Nat.le_of_ble_eq_true rfl) (Nat.le_of_ble_eq_true rfl) dX10_year_23 (by cases hB; exact ⟨rfl, rfl⟩)
  · have hB := if_n hB c5
    refine lv_iload_n hx hb dX10_year_11 rfl (lv_at hl 2 rfl) ?_
    refine lv_iconst (v := 1) hx hb dX10_year_12 (by decide) ?_
    refine lv_icmp_lt (tgt := 22) hx hb dX10_year_13 (by decide) (fun c6 => ?_) (fun c6 => ?_)
    · have hB := if_p hB c6
      refine lv_iconst (v := (-1)) hx hb dX10_year_22 (by decide) ?_
      exact q_iret C hr hlocks hK hP hD hS (Nat.le_of_ble_eq_true rfl) (Nat.le_of_ble_eq_true rfl) dX10_year_23 (by cases hB; exact ⟨rfl, rfl⟩)
    · have hB := if_n hB c6
      refine lv_iload_n hx hb dX10_year_16 rfl (lv_at hl 2 rfl) ?_
      refine lv_bipush (v := 20) hx hb dX10_year_17 (by decide) ?_
      refine lv_icmp_le (tgt := 24) hx hb dX10_year_19 (by decide) (fun c7 => ?_) (fun c7 => ?_)
      · have hB := if_p hB c7
        refine lv_iconst (v := 0) hx hb dX10_year_24 (by decide) ?_
        refine lv_istore_n (lv' := [(3, .int 0), (0, .ref (c0 0)), (1, .int x1), (2, .int x2)]) hx hb dX10_year_25 rfl hl (by decide) rfl (fun ls hl => ?_)
        refine lv_iconst (v := 0) hx hb dX10_year_26 (by decide) ?_
        refine lv_istore (lv' := [(4, .int 0), (3, .int 0), (0, .ref (c0 0)), (1, .int x1), (2, .int x2)]) hx hb dX10_year_27 hl (by decide) rfl (fun ls hl => ?_)
        exact bkX10_year_29L fu _ _ _ _ _ hB p e s0 m below meth c A E H locs ls hP hD hS (lv_sub hl [2, 3, 4, 1, 0] rfl)
      · have hB := if_n hB c7
        refine lv_iconst (v := (-1)) hx hb dX10_year_22 (by decide) ?_
        exact q_iret C hr hlocks hK hP hD hS (Nat.le_of_ble_eq_true rfl) (Nat.le_of_ble_eq_true rfl) dX10_year_23 (by cases hB; exact ⟨rfl, rfl⟩)
theorem ckX10_year {l : Launch} {dC : Nat → ClassId} {dI : Nat → Nat → Nat} {cB cI cJ cZ cS : ClassId} {a b b2 c0 : Nat → Nat} {rg sl : Nat → Option Nat} {r : Int32} {s' : XS} {s : XS} {x1 : Int32} {x2 : Int32} (hB : kX10_year s x1 x2 = some (r, s')) : CI l yX10_year wsX10_year ({ frames := 4, cells := 0, slots := 0, locals := 95 }) (dC, dI) (tysA cB cI cJ cZ cS) (wX cB cI cJ cZ cS a b b2 c0 rg sl s) [.ref (c0 0), .int x1, .int x2] (fun x u => x = r ∧ u = (wX cB cI cJ cZ cS a b b2 c0 rg sl s')) :=
  CI_of (cc := cX10_year) (maxL := 5) (ret := (some .int)) (by decide) rfl (Nat.le_of_ble_eq_true rfl) (bkX10_year _ _ _ hB)
theorem LX10_faresOfAllHere_19 : Cond.fieldLink RX10 19 "GuessFerry" "sound" "LGuessFerry$Sound;" ∈ wsX10_faresOfAllHere := (List.mem_cons_of_mem _ (List.mem_append_left _ (List.mem_append_left _ (List.mem_append_left _ (List.mem_append_left _ (List.mem_append_left _ (List.mem_append_left _ (List.mem_of_getElem? (i := 0) rfl))))))))
theorem LX10_faresOfAllHere_35 : Cond.fieldLink RX10 35 "GuessFerry" "now" "LGuessFerry$Standing;" ∈ wsX10_faresOfAllHere := (List.mem_cons_of_mem _ (List.mem_append_left _ (List.mem_append_left _ (List.mem_append_left _ (List.mem_append_left _ (List.mem_append_left _ (List.mem_append_left _ (List.mem_of_getElem? (i := 1) rfl))))))))
theorem LX10_faresOfAllHere_54 : Cond.fieldLink RX10 54 "GuessFerry" "crossing" "LGuessFerry$Crossing;" ∈ wsX10_faresOfAllHere := (List.mem_cons_of_mem _ (List.mem_append_left _ (List.mem_append_left _ (List.mem_append_left _ (List.mem_append_left _ (List.mem_append_left _ (List.mem_append_left _ (List.mem_of_getElem? (i := 2) rfl))))))))
theorem LX10_faresOfAllHere_E_X0_fareOf : Cond.selects RX0 yX0_fareOf yX0_fareOf ∈ wsX10_faresOfAllHere := (List.mem_cons_of_mem _ (List.mem_append_left _ (List.mem_append_left _ (List.mem_append_left _ (List.mem_append_left _ (List.mem_append_left _ (List.mem_append_left _ (List.mem_of_getElem? (i := 5) rfl))))))))
theorem LX10_faresOfAllHere_I_X0 : Cond.initialized RX0 ∈ wsX10_faresOfAllHere := (List.mem_cons_of_mem _ (List.mem_append_left _ (List.mem_append_left _ (List.mem_append_left _ (List.mem_append_left _ (List.mem_append_left _ (List.mem_append_left _ (List.mem_of_getElem? (i := 4) rfl))))))))
theorem LX10_faresOfAllHere_N_X0_fareOf : Cond.instanceMethod yX0_fareOf ∈ wsX10_faresOfAllHere := (List.mem_cons_of_mem _ (List.mem_append_left _ (List.mem_append_left _ (List.mem_append_left _ (List.mem_append_left _ (List.mem_append_left _ (List.mem_append_left _ (List.mem_of_getElem? (i := 3) rfl))))))))
theorem inX10_faresOfAllHere_X10 : ∀ w ∈ u_ws RX10 TX10 9, w ∈ wsX10_faresOfAllHere := fun w h => (List.mem_cons_of_mem _ (List.mem_append_left _ (List.mem_append_left _ (List.mem_append_left _ (List.mem_append_left _ (List.mem_append_right _ h))))))
theorem inX10_faresOfAllHere_X5 : ∀ w ∈ u_ws RX5 TX5 10, w ∈ wsX10_faresOfAllHere := fun w h => (List.mem_cons_of_mem _ (List.mem_append_left _ (List.mem_append_left _ (List.mem_append_left _ (List.mem_append_right _ h)))))
theorem inX10_faresOfAllHere_X6 : ∀ w ∈ u_ws RX6 TX6 7, w ∈ wsX10_faresOfAllHere := fun w h => (List.mem_cons_of_mem _ (List.mem_append_left _ (List.mem_append_left _ (List.mem_append_right _ h))))
set_option maxHeartbeats 4000000 in
set_option maxRecDepth 100000 in
theorem bkX10_faresOfAllHere_42 {l : Launch} {dC : Nat → ClassId} {dI : Nat → Nat → Nat} {cB cI cJ cZ cS : ClassId} {a b b2 c0 : Nat → Nat} {rg sl : Nat → Option Nat} {as : List Value} {r : Int32} {s' : XS} {k4 : XS → Int32 → Int32 → Option (Int32 × XS)} (hk4 : ∀ (s : XS) (x1 : Int32) (x2 : Int32), k4 s x1 x2 = some (r, s') → BlkI l yX10_faresOfAllHere wsX10_faresOfAllHere ({ frames := 4, cells := 0, slots := 0, locals := 98 }) cX10_faresOfAllHere 3 (some .int) (dC, dI) (tysA cB cI cJ cZ cS) as 4 (wX cB cI cJ cZ cS a b b2 c0 rg sl s) [(0, .ref (c0 0)), (1, .int x1), (2, .int x2)] [] (fun x u => x = r ∧ u = (wX cB cI cJ cZ cS a b b2 c0 rg sl s'))) (s : XS) (x1 : Int32) (x2 : Int32) (hB : kX10_faresOfAllHere_42 k4 s x1 x2 = some (r, s')) : BlkI l yX10_faresOfAllHere wsX10_faresOfAllHere ({ frames := 4, cells := 0, slots := 0, locals := 98 }) cX10_faresOfAllHere 3 (some .int) (dC, dI) (tysA cB cI cJ cZ cS) as 42 (wX cB cI cJ cZ cS a b b2 c0 rg sl s) [(0, .ref (c0 0)), (1, .int x1), (2, .int x2)] [] (fun x u => x = r ∧ u = (wX cB cI cJ cZ cS a b b2 c0 rg sl s')) := by
  intro p e s0 m below meth c A E H locs ls hP hD hS hl
  obtain ⟨C, hr, hlocks, hA, hK, hN⟩ := id E
  obtain ⟨hx, hb, hml, hown, hts⟩ := id C
  unfold kX10_faresOfAllHere_42 at hB
  refine lv_iinc (v := (x2 + 1)) (lv' := [(2, .int (x2 + 1)), (0, .ref (c0 0)), (1, .int x1)]) hx hb dX10_faresOfAllHere_42 hl (k := 2) rfl (rfl) (by decide) rfl (fun ls hl => ?_)
  refine lv_goto (tgt := 4) hx hb dX10_faresOfAllHere_45 (by decide) ?_
  exact hk4 _ _ _ hB p e s0 m below meth c A E H locs ls hP hD hS (lv_sub hl [1, 2, 0] rfl)
set_option maxHeartbeats 4000000 in
set_option maxRecDepth 100000 in
theorem bkX10_faresOfAllHere_4 {l : Launch} {dC : Nat → ClassId} {dI : Nat → Nat → Nat} {cB cI cJ cZ cS : ClassId} {a b b2 c0 : Nat → Nat} {rg sl : Nat → Option Nat} {as : List Value} {r : Int32} {s' : XS} {k4 : XS → Int32 → Int32 → Option (Int32 × XS)} (hk4 : ∀ (s : XS) (x1 : Int32) (x2 : Int32), k4 s x1 x2 = some (r, s') → BlkI l yX10_faresOfAllHere wsX10_faresOfAllHere ({ frames := 4, cells := 0, slots := 0, locals := 98 }) cX10_faresOfAllHere 3 (some .int) (dC, dI) (tysA cB cI cJ cZ cS) as 4 (wX cB cI cJ cZ cS a b b2 c0 rg sl s) [(0, .ref (c0 0)), (1, .int x1), (2, .int x2)] [] (fun x u => x = r ∧ u = (wX cB cI cJ cZ cS a b b2 c0 rg sl s'))) (s : XS) (x1 : Int32) (x2 : Int32) (hB : kX10_faresOfAllHere_4 k4 s x1 x2 = some (r, s')) : BlkI l yX10_faresOfAllHere wsX10_faresOfAllHere ({ frames := 4, cells := 0, slots := 0, locals := 98 }) cX10_faresOfAllHere 3 (some .int) (dC, dI) (tysA cB cI cJ cZ cS) as 4 (wX cB cI cJ cZ cS a b b2 c0 rg sl s) [(0, .ref (c0 0)), (1, .int x1), (2, .int x2)] [] (fun x u => x = r ∧ u = (wX cB cI cJ cZ cS a b b2 c0 rg sl s')) := by
  intro p e s0 m below meth c A E H locs ls hP hD hS hl
  obtain ⟨C, hr, hlocks, hA, hK, hN⟩ := id E
  obtain ⟨hx, hb, hml, hown, hts⟩ := id C
  unfold kX10_faresOfAllHere_4 at hB
  refine lv_iload_n hx hb dX10_faresOfAllHere_4 rfl (lv_at hl 2 rfl) ?_
  refine lv_aload_n hx hb dX10_faresOfAllHere_5 rfl (lv_at hl 0 rfl) ?_
  refine q_get (v := .ref (a 2)) C inX10_faresOfAllHere_X10 hK hP 0 rfl rfl 1 (by decide) rfl LX10_faresOfAllHere_19 rfl dX10_faresOfAllHere_6 ?_
  refine q_getN (v := .int (s.k.v 2)) C hN inX10_faresOfAllHere_X5 hK hP 19 rfl rfl 7 (by decide) rfl nwF_X10_235 rfl dX10_faresOfAllHere_9 ?_
  refine lv_icmp_ge (tgt := 48) hx hb dX10_faresOfAllHere_12 (by decide) (fun c1 => ?_) (fun c1 => ?_)
  · have hB := if_p hB c1
    refine lv_iload_n hx hb dX10_faresOfAllHere_48 rfl (lv_at hl 1 rfl) ?_
    exact q_iret C hr hlocks hK hP hD hS (Nat.le_of_ble_eq_true rfl) (Nat.le_of_ble_eq_true rfl) dX10_faresOfAllHere_49 (by cases hB; exact ⟨rfl, rfl⟩)
  · have hB := if_n hB c1
    refine lv_aload_n hx hb dX10_faresOfAllHere_15 rfl (lv_at hl 0 rfl) ?_
    refine q_get (v := .ref (b 0)) C inX10_faresOfAllHere_X10 hK hP 0 rfl rfl 3 (by decide) rfl LX10_faresOfAllHere_35 rfl dX10_faresOfAllHere_16 ?_
    refine q_getN (v := .ref (b 4)) C hN inX10_faresOfAllHere_X6 hK hP 11 rfl rfl 3 (by decide) rfl nwF_X10_147 rfl dX10_faresOfAllHere_19 ?_
    refine lv_iload_n hx hb dX10_faresOfAllHere_22 rfl (lv_at hl 2 rfl) ?_
    obtain ⟨g2, hB⟩ := guard_inv hB
    refine q_iald (x := ((s.n.f 3) (Int32.toNatClampNeg x2))) C hK hP 15 1 rfl rfl (vpb_in g2) dX10_faresOfAllHere_23 rfl ?_
    refine lv_if_ne (tgt := 42) hx hb dX10_faresOfAllHere_24 (by decide) (fun c3 => ?_) (fun c3 => ?_)
    · have hB := if_n hB c3
      exact bkX10_faresOfAllHere_42 (hk4) _ _ _ hB p e s0 m below meth c A E H locs ls hP hD hS (lv_sub hl [0, 1, 2] rfl)
    · have hB := if_p hB c3
      refine lv_iload_n hx hb dX10_faresOfAllHere_27 rfl (lv_at hl 1 rfl) ?_
      refine lv_aload_n hx hb dX10_faresOfAllHere_28 rfl (lv_at hl 0 rfl) ?_
      refine q_get (v := .ref (a 35)) C inX10_faresOfAllHere_X10 hK hP 0 rfl rfl 6 (by decide) rfl LX10_faresOfAllHere_54 rfl dX10_faresOfAllHere_29 ?_
      refine lv_aload_n hx hb dX10_faresOfAllHere_32 rfl (lv_at hl 0 rfl) ?_
      refine q_get (v := .ref (b 0)) C inX10_faresOfAllHere_X10 hK hP 0 rfl rfl 3 (by decide) rfl LX10_faresOfAllHere_35 rfl dX10_faresOfAllHere_33 ?_
      refine lv_iload_n hx hb dX10_faresOfAllHere_36 rfl (lv_at hl 2 rfl) ?_
      obtain ⟨q_, s4, hc, hB⟩ := bindI_inv hB
      refine q_goi (wr := ((wG cZ cS a b b2 c0 rg sl s.g) ++ (wD cI b2 s.t))) (va_runVN (As := [.ref (b 0), .int x2]) (rest := [.int x1]) C (ckX0_fareOf hc _) ⟨va_cnB 2 hts gX10_faresOfAllHere_X0_fareOf_n153 rfl rfl rfl (hN _ nwM_X10_153 rfl) (hts _ LX10_faresOfAllHere_I_X0) (by decide +kernel) ⟨Nat.le_of_ble_eq_true rfl, Nat.le_of_ble_eq_true rfl⟩, hts _ LX10_faresOfAllHere_N_X0_fareOf, hts _ LX10_faresOfAllHere_E_X0_fareOf⟩ (q_preV hK hP (ci := 0) (q0 := 52) rfl rfl rfl (q_pre hN hK hP hD [11, 12, 13, 14, 15, 16, 17, 18, 19, 20, 21, 22, 23, 24, 25, 26, 27, 28, 29, 30, 31, 32, 33, 34, 35, 36, 37, 38, 39, 40, 41, 42, 43, 44, 45, 46, 47, 48, 49, 50, 51, 52, 53, 54, 55, 56, 57, 58, 59, 60, 61, 62, 63] (by first | exact zqs_2X | rfl) zqn_2)) rfl rfl hl.1 rfl (lv_room (Nat.le_of_ble_eq_true rfl)) dX10_faresOfAllHere_37 ⟨Nat.le_of_ble_eq_true rfl, Nat.le_of_ble_eq_true rfl⟩) hP hD hS hA [11, 12, 13, 14, 15, 16, 17, 18, 19, 20, 21, 22, 23, 24, 25, 26, 27, 28, 29, 30, 31, 32, 33, 34, 35, 36, 37, 38, 39, 40, 41, 42, 43, 44, 45, 46, 47, 48, 49, 50, 51, 52, 53, 54, 55, 56, 57, 58, 59, 60, 61, 62, 63] [0, 1, 2, 3, 4, 5, 6, 7, 8, 9, 10] (by first | exact zqs_2X | rfl) (by first | exact zqs_3X | rfl) zqn_3 zqd_1 (fun r5 w1 H locs hw hP hD hS => ?_)
      obtain ⟨hq_, hw⟩ := hw; subst hw; subst hq_
      obtain ⟨s6, hs7, hB⟩ := letS_inv hB
      have hP : va_P (dC, dI) vwCl (wX cB cI cJ cZ cS a b b2 c0 rg sl s6) H := by subst hs7; exact hP
      have hD : va_D A (wX cB cI cJ cZ cS a b b2 c0 rg sl s6) := by subst hs7; exact hD
      refine lv_iadd hx hb dX10_faresOfAllHere_40 ?_
      refine lv_istore_n (lv' := [(1, .int (x1 + r5)), (0, .ref (c0 0)), (2, .int x2)]) hx hb dX10_faresOfAllHere_41 rfl hl (by decide) rfl (fun ls hl => ?_)
      exact bkX10_faresOfAllHere_42 (hk4) _ _ _ hB p e s0 m below meth c A E H locs ls hP hD hS (lv_sub hl [1, 0, 2] rfl)
theorem bkX10_faresOfAllHere_4L {l : Launch} {dC : Nat → ClassId} {dI : Nat → Nat → Nat} {cB cI cJ cZ cS : ClassId} {a b b2 c0 : Nat → Nat} {rg sl : Nat → Option Nat} {as : List Value} {r : Int32} {s' : XS} : ∀ (n : Nat) (s : XS) (x1 : Int32) (x2 : Int32), kX10_faresOfAllHere_4L n s x1 x2 = some (r, s') → BlkI l yX10_faresOfAllHere wsX10_faresOfAllHere ({ frames := 4, cells := 0, slots := 0, locals := 98 }) cX10_faresOfAllHere 3 (some .int) (dC, dI) (tysA cB cI cJ cZ cS) as 4 (wX cB cI cJ cZ cS a b b2 c0 rg sl s) [(0, .ref (c0 0)), (1, .int x1), (2, .int x2)] [] (fun x u => x = r ∧ u = (wX cB cI cJ cZ cS a b b2 c0 rg sl s')) := by
  intro n
  induction n with
  | zero => intro s x1 x2 hB; exact none_ne hB
  | succ n ih => intro s x1 x2 hB; exact bkX10_faresOfAllHere_4 ih _ _ _ hB
set_option maxHeartbeats 4000000 in
set_option maxRecDepth 100000 in
theorem bkX10_faresOfAllHere {l : Launch} {dC : Nat → ClassId} {dI : Nat → Nat → Nat} {cB cI cJ cZ cS : ClassId} {a b b2 c0 : Nat → Nat} {rg sl : Nat → Option Nat} {as : List Value} {r : Int32} {s' : XS} (s : XS) (hB : kX10_faresOfAllHere s = some (r, s')) : BlkI l yX10_faresOfAllHere wsX10_faresOfAllHere ({ frames := 4, cells := 0, slots := 0, locals := 98 }) cX10_faresOfAllHere 3 (some .int) (dC, dI) (tysA cB cI cJ cZ cS) as 0 (wX cB cI cJ cZ cS a b b2 c0 rg sl s) [(0, .ref (c0 0))] [] (fun x u => x = r ∧ u = (wX cB cI cJ cZ cS a b b2 c0 rg sl s')) := by
  intro p e s0 m below meth c A E H locs ls hP hD hS hl
  obtain ⟨C, hr, hlocks, hA, hK, hN⟩ := id E
  obtain ⟨hx, hb, hml, hown, hts⟩ := id C
  unfold kX10_faresOfAllHere at hB
  refine lv_iconst (v := 0) hx hb dX10_faresOfAllHere_0 (by decide) ?_
  refine lv_istore_n (lv' := [(1, .int 0), (0, .ref (c0 0))]) hx hb dX10_faresOfAllHere_1 rfl hl (by decide) rfl (fun ls hl => ?_)
  refine lv_iconst (v := 0) hx hb dX10_faresOfAllHere_2 (by decide) ?_
  refine lv_istore_n (lv' := [(2, .int 0), (1, .int 0), (0, .ref (c0 0))]) hx hb dX10_faresOfAllHere_3 rfl hl (by decide) rfl (fun ls hl => ?_)
  exact bkX10_faresOfAllHere_4L fu _ _ _ hB p e s0 m below meth c A E H locs ls hP hD hS (lv_sub hl [2, 1, 0] rfl)
theorem ckX10_faresOfAllHere {l : Launch} {dC : Nat → ClassId} {dI : Nat → Nat → Nat} {cB cI cJ cZ cS : ClassId} {a b b2 c0 : Nat → Nat} {rg sl : Nat → Option Nat} {r : Int32} {s' : XS} {s : XS} (hB : kX10_faresOfAllHere s = some (r, s')) : CI l yX10_faresOfAllHere wsX10_faresOfAllHere ({ frames := 4, cells := 0, slots := 0, locals := 98 }) (dC, dI) (tysA cB cI cJ cZ cS) (wX cB cI cJ cZ cS a b b2 c0 rg sl s) [.ref (c0 0)] (fun x u => x = r ∧ u = (wX cB cI cJ cZ cS a b b2 c0 rg sl s')) :=
  CI_of (cc := cX10_faresOfAllHere) (maxL := 3) (ret := (some .int)) (by decide) rfl (Nat.le_of_ble_eq_true rfl) (bkX10_faresOfAllHere _ hB)
theorem LX0_passYears_9 : Cond.fieldLink RX0 9 "GuessFerry$Crossing" "sound" "LGuessFerry$Sound;" ∈ wsX0_passYears := (List.mem_cons_of_mem _ (List.mem_append_left _ (List.mem_append_left _ (List.mem_append_left _ (List.mem_append_left _ (List.mem_append_left _ (List.mem_of_getElem? (i := 0) rfl)))))))
theorem inX0_passYears_X0 : ∀ w ∈ u_ws RX0 TX0 2, w ∈ wsX0_passYears := fun w h => (List.mem_cons_of_mem _ (List.mem_append_left _ (List.mem_append_left _ (List.mem_append_left _ (List.mem_append_right _ h)))))
theorem inX0_passYears_X5 : ∀ w ∈ u_ws RX5 TX5 10, w ∈ wsX0_passYears := fun w h => (List.mem_cons_of_mem _ (List.mem_append_left _ (List.mem_append_left _ (List.mem_append_right _ h))))
theorem inX0_passYears_X6 : ∀ w ∈ u_ws RX6 TX6 7, w ∈ wsX0_passYears := fun w h => (List.mem_cons_of_mem _ (List.mem_append_left _ (List.mem_append_right _ h)))
set_option maxHeartbeats 4000000 in
set_option maxRecDepth 100000 in
theorem bkX0_passYears_10 {l : Launch} {dC : Nat → ClassId} {dI : Nat → Nat → Nat} {cB cI cJ cZ cS : ClassId} {a b : Nat → Nat} {as : List Value} {s' : JS} {k2 : JS → Int32 → Int32 → Option JS} {k10 : JS → Int32 → Int32 → Int32 → Option JS} (hk2 : ∀ (s : JS) (x2 : Int32) (x3 : Int32), k2 s x2 x3 = some s' → BlkV l yX0_passYears wsX0_passYears ({ frames := 5, cells := 0, slots := 0, locals := 121 }) cX0_passYears 5 none (dC, dI) (tysA cB cI cJ cZ cS) as 2 (wJ cB cI cJ cZ cS a b s) [(0, .ref (a 35)), (1, .ref (b 0)), (2, .int x2), (3, .int x3)] [] (fun u => u = (wJ cB cI cJ cZ cS a b s'))) (hk10 : ∀ (s : JS) (x2 : Int32) (x3 : Int32) (x4 : Int32), k10 s x2 x3 x4 = some s' → BlkV l yX0_passYears wsX0_passYears ({ frames := 5, cells := 0, slots := 0, locals := 121 }) cX0_passYears 5 none (dC, dI) (tysA cB cI cJ cZ cS) as 10 (wJ cB cI cJ cZ cS a b s) [(0, .ref (a 35)), (1, .ref (b 0)), (2, .int x2), (3, .int x3), (4, .int x4)] [] (fun u => u = (wJ cB cI cJ cZ cS a b s'))) (s : JS) (x2 : Int32) (x3 : Int32) (x4 : Int32) (hB : kX0_passYears_10 k2 k10 s x2 x3 x4 = some s') : BlkV l yX0_passYears wsX0_passYears ({ frames := 5, cells := 0, slots := 0, locals := 121 }) cX0_passYears 5 none (dC, dI) (tysA cB cI cJ cZ cS) as 10 (wJ cB cI cJ cZ cS a b s) [(0, .ref (a 35)), (1, .ref (b 0)), (2, .int x2), (3, .int x3), (4, .int x4)] [] (fun u => u = (wJ cB cI cJ cZ cS a b s')) := by
  intro p e s0 m below meth c A E H locs ls hP hD hS hl
  obtain ⟨C, hr, hlocks, hA, hK, hN⟩ := id E
  obtain ⟨hx, hb, hml, hown, hts⟩ := id C
  unfold kX0_passYears_10 at hB
  refine lv_iload hx hb dX0_passYears_10 (lv_at hl 4 rfl) ?_
  refine lv_aload_n hx hb dX0_passYears_12 rfl (lv_at hl 0 rfl) ?_
  refine q_get (v := .ref (a 2)) C inX0_passYears_X0 hK hP 41 rfl rfl 0 (by decide) rfl LX0_passYears_9 rfl dX0_passYears_13 ?_
  refine q_getN (v := .int (s.k.v 1)) C hN inX0_passYears_X5 hK hP 8 rfl rfl 6 (by decide) rfl nwF_X0_50 rfl dX0_passYears_16 ?_
  refine lv_icmp_ge (tgt := 35) hx hb dX0_passYears_19 (by decide) (fun c1 => ?_) (fun c1 => ?_)
  · have hB := if_p hB c1
    refine lv_aload_n hx hb dX0_passYears_35 rfl (lv_at hl 1 rfl) ?_
    refine lv_dup hx hb dX0_passYears_36 rfl ?_
    refine q_getN (v := .int (s.d.v 5)) C hN inX0_passYears_X6 hK hP 0 rfl rfl 5 (by decide) rfl nwF_X0_59 rfl dX0_passYears_37 ?_
    refine lv_iconst (v := 1) hx hb dX0_passYears_40 (by decide) ?_
    refine lv_iadd hx hb dX0_passYears_41 ?_
    obtain ⟨s2, hs3, hB⟩ := letS_inv hB
    refine q_putN (ty := .int) (w2 := (wJ cB cI cJ cZ cS a b s2)) tyX6 tyX6_ok nmX6 C hN inX0_passYears_X6 hK hP hD hS 0 rfl rfl 5 (by decide) rfl nwF_X0_59 rfl (by decide +kernel) (rfl) rfl (Nat.le_of_ble_eq_true rfl) dX0_passYears_42 (by subst hs3; rfl) (fun H locs hP hD hS => ?_)
    refine lv_iinc (v := (x3 + 1)) (lv' := [(3, .int (x3 + 1)), (0, .ref (a 35)), (1, .ref (b 0)), (2, .int x2), (4, .int x4)]) hx hb dX0_passYears_45 hl (k := 3) rfl (rfl) (by decide) rfl (fun ls hl => ?_)
    refine lv_goto (tgt := 2) hx hb dX0_passYears_48 (by decide) ?_
    exact hk2 _ _ _ hB p e s0 m below meth c A E H locs ls hP hD hS (lv_sub hl [1, 2, 3, 0] rfl)
  · have hB := if_n hB c1
    refine lv_aload_n hx hb dX0_passYears_22 rfl (lv_at hl 0 rfl) ?_
    refine lv_aload_n hx hb dX0_passYears_23 rfl (lv_at hl 1 rfl) ?_
    refine lv_iload hx hb dX0_passYears_24 (lv_at hl 4 rfl) ?_
    obtain ⟨s4, hc, hB⟩ := bindP_inv hB
    refine q_govF (va_runV (As := [.ref (b 0), .int x4]) (rest := []) C (ckX0_passYearOver hc _) (cwV 2 hts gX0_passYears_X0_passYearOver rfl rfl rfl (by decide +kernel) ⟨Nat.le_of_ble_eq_true rfl, Nat.le_of_ble_eq_true rfl⟩) (q_preV hK hP (ci := 0) (q0 := 41) rfl rfl rfl (q_preF hN hK hP hD)) rfl rfl hl.1 rfl (lv_room (Nat.le_of_ble_eq_true rfl)) dX0_passYears_26 ⟨Nat.le_of_ble_eq_true rfl, Nat.le_of_ble_eq_true rfl⟩) hD hS hA (fun w1 H locs hw hP hD hS => ?_)
    subst hw
    refine lv_iinc (v := (x4 + 1)) (lv' := [(4, .int (x4 + 1)), (0, .ref (a 35)), (1, .ref (b 0)), (2, .int x2), (3, .int x3)]) hx hb dX0_passYears_29 hl (k := 4) rfl (rfl) (by decide) rfl (fun ls hl => ?_)
    refine lv_goto (tgt := 10) hx hb dX0_passYears_32 (by decide) ?_
    exact hk10 _ _ _ _ hB p e s0 m below meth c A E H locs ls hP hD hS (lv_sub hl [1, 2, 3, 4, 0] rfl)
theorem bkX0_passYears_10L {l : Launch} {dC : Nat → ClassId} {dI : Nat → Nat → Nat} {cB cI cJ cZ cS : ClassId} {a b : Nat → Nat} {as : List Value} {s' : JS} {k2 : JS → Int32 → Int32 → Option JS} (hk2 : ∀ (s : JS) (x2 : Int32) (x3 : Int32), k2 s x2 x3 = some s' → BlkV l yX0_passYears wsX0_passYears ({ frames := 5, cells := 0, slots := 0, locals := 121 }) cX0_passYears 5 none (dC, dI) (tysA cB cI cJ cZ cS) as 2 (wJ cB cI cJ cZ cS a b s) [(0, .ref (a 35)), (1, .ref (b 0)), (2, .int x2), (3, .int x3)] [] (fun u => u = (wJ cB cI cJ cZ cS a b s'))) : ∀ (n : Nat) (s : JS) (x2 : Int32) (x3 : Int32) (x4 : Int32), kX0_passYears_10L k2 n s x2 x3 x4 = some s' → BlkV l yX0_passYears wsX0_passYears ({ frames := 5, cells := 0, slots := 0, locals := 121 }) cX0_passYears 5 none (dC, dI) (tysA cB cI cJ cZ cS) as 10 (wJ cB cI cJ cZ cS a b s) [(0, .ref (a 35)), (1, .ref (b 0)), (2, .int x2), (3, .int x3), (4, .int x4)] [] (fun u => u = (wJ cB cI cJ cZ cS a b s')) := by
  intro n
  induction n with
  | zero => intro s x2 x3 x4 hB; exact none_ne hB
  | succ n ih => intro s x2 x3 x4 hB; exact bkX0_passYears_10 hk2 ih _ _ _ _ hB
set_option maxHeartbeats 4000000 in
set_option maxRecDepth 100000 in
theorem bkX0_passYears_2 {l : Launch} {dC : Nat → ClassId} {dI : Nat → Nat → Nat} {cB cI cJ cZ cS : ClassId} {a b : Nat → Nat} {as : List Value} {s' : JS} {k2 : JS → Int32 → Int32 → Option JS} (hk2 : ∀ (s : JS) (x2 : Int32) (x3 : Int32), k2 s x2 x3 = some s' → BlkV l yX0_passYears wsX0_passYears ({ frames := 5, cells := 0, slots := 0, locals := 121 }) cX0_passYears 5 none (dC, dI) (tysA cB cI cJ cZ cS) as 2 (wJ cB cI cJ cZ cS a b s) [(0, .ref (a 35)), (1, .ref (b 0)), (2, .int x2), (3, .int x3)] [] (fun u => u = (wJ cB cI cJ cZ cS a b s'))) (s : JS) (x2 : Int32) (x3 : Int32) (hB : kX0_passYears_2 k2 s x2 x3 = some s') : BlkV l yX0_passYears wsX0_passYears ({ frames := 5, cells := 0, slots := 0, locals := 121 }) cX0_passYears 5 none (dC, dI) (tysA cB cI cJ cZ cS) as 2 (wJ cB cI cJ cZ cS a b s) [(0, .ref (a 35)), (1, .ref (b 0)), (2, .int x2), (3, .int x3)] [] (fun u => u = (wJ cB cI cJ cZ cS a b s')) := by
  intro p e s0 m below meth c A E H locs ls hP hD hS hl
  obtain ⟨C, hr, hlocks, hA, hK, hN⟩ := id E
  obtain ⟨hx, hb, hml, hown, hts⟩ := id C
  unfold kX0_passYears_2 at hB
  refine lv_iload_n hx hb dX0_passYears_2 rfl (lv_at hl 3 rfl) ?_
  refine lv_iload_n hx hb dX0_passYears_3 rfl (lv_at hl 2 rfl) ?_
  refine lv_icmp_ge (tgt := 51) hx hb dX0_passYears_4 (by decide) (fun c1 => ?_) (fun c1 => ?_)
  · have hB := if_p hB c1
    exact q_vret C hr hlocks hK hP hD hS (Nat.le_of_ble_eq_true rfl) (Nat.le_of_ble_eq_true rfl) dX0_passYears_51 (by cases hB; rfl)
  · have hB := if_n hB c1
    refine lv_iconst (v := 0) hx hb dX0_passYears_7 (by decide) ?_
    refine lv_istore (lv' := [(4, .int 0), (0, .ref (a 35)), (1, .ref (b 0)), (2, .int x2), (3, .int x3)]) hx hb dX0_passYears_8 hl (by decide) rfl (fun ls hl => ?_)
    exact bkX0_passYears_10L (hk2) fu _ _ _ _ hB p e s0 m below meth c A E H locs ls hP hD hS (lv_sub hl [1, 2, 3, 4, 0] rfl)
theorem bkX0_passYears_2L {l : Launch} {dC : Nat → ClassId} {dI : Nat → Nat → Nat} {cB cI cJ cZ cS : ClassId} {a b : Nat → Nat} {as : List Value} {s' : JS} : ∀ (n : Nat) (s : JS) (x2 : Int32) (x3 : Int32), kX0_passYears_2L n s x2 x3 = some s' → BlkV l yX0_passYears wsX0_passYears ({ frames := 5, cells := 0, slots := 0, locals := 121 }) cX0_passYears 5 none (dC, dI) (tysA cB cI cJ cZ cS) as 2 (wJ cB cI cJ cZ cS a b s) [(0, .ref (a 35)), (1, .ref (b 0)), (2, .int x2), (3, .int x3)] [] (fun u => u = (wJ cB cI cJ cZ cS a b s')) := by
  intro n
  induction n with
  | zero => intro s x2 x3 hB; exact none_ne hB
  | succ n ih => intro s x2 x3 hB; exact bkX0_passYears_2 ih _ _ _ hB
set_option maxHeartbeats 4000000 in
set_option maxRecDepth 100000 in
theorem bkX0_passYears {l : Launch} {dC : Nat → ClassId} {dI : Nat → Nat → Nat} {cB cI cJ cZ cS : ClassId} {a b : Nat → Nat} {as : List Value} {s' : JS} (s : JS) (x2 : Int32) (hB : kX0_passYears s x2 = some s') : BlkV l yX0_passYears wsX0_passYears ({ frames := 5, cells := 0, slots := 0, locals := 121 }) cX0_passYears 5 none (dC, dI) (tysA cB cI cJ cZ cS) as 0 (wJ cB cI cJ cZ cS a b s) [(0, .ref (a 35)), (1, .ref (b 0)), (2, .int x2)] [] (fun u => u = (wJ cB cI cJ cZ cS a b s')) := by
  intro p e s0 m below meth c A E H locs ls hP hD hS hl
  obtain ⟨C, hr, hlocks, hA, hK, hN⟩ := id E
  obtain ⟨hx, hb, hml, hown, hts⟩ := id C
  unfold kX0_passYears at hB
  refine lv_iconst (v := 0) hx hb dX0_passYears_0 (by decide) ?_
  refine lv_istore_n (lv' := [(3, .int 0), (0, .ref (a 35)), (1, .ref (b 0)), (2, .int x2)]) hx hb dX0_passYears_1 rfl hl (by decide) rfl (fun ls hl => ?_)
  exact bkX0_passYears_2L fu _ _ _ hB p e s0 m below meth c A E H locs ls hP hD hS (lv_sub hl [1, 2, 3, 0] rfl)
theorem ckX0_passYears {l : Launch} {dC : Nat → ClassId} {dI : Nat → Nat → Nat} {cB cI cJ cZ cS : ClassId} {a b : Nat → Nat} {s' : JS} {s : JS} {x2 : Int32} (hB : kX0_passYears s x2 = some s') : CV l yX0_passYears wsX0_passYears ({ frames := 5, cells := 0, slots := 0, locals := 121 }) (dC, dI) (tysA cB cI cJ cZ cS) (wJ cB cI cJ cZ cS a b s) [.ref (a 35), .ref (b 0), .int x2] (fun u => u = (wJ cB cI cJ cZ cS a b s')) :=
  CV_of (cc := cX0_passYears) (maxL := 5) (ret := none) (by decide) rfl (Nat.le_of_ble_eq_true rfl) (bkX0_passYears _ _ hB)
theorem LX2_bestGuess_24 : Cond.fieldLink RX2 24 "GuessFerry$Outlook" "sound" "LGuessFerry$Sound;" ∈ wsX2_bestGuess := (List.mem_cons_of_mem _ (List.mem_append_left _ (List.mem_append_left _ (List.mem_append_left _ (List.mem_append_left _ (List.mem_append_left _ (List.mem_append_left _ (List.mem_of_getElem? (i := 0) rfl))))))))
theorem inX2_bestGuess_X2 : ∀ w ∈ u_ws RX2 TX2 6, w ∈ wsX2_bestGuess := fun w h => (List.mem_cons_of_mem _ (List.mem_append_left _ (List.mem_append_left _ (List.mem_append_left _ (List.mem_append_left _ (List.mem_append_right _ h))))))
theorem inX2_bestGuess_X5 : ∀ w ∈ u_ws RX5 TX5 10, w ∈ wsX2_bestGuess := fun w h => (List.mem_cons_of_mem _ (List.mem_append_left _ (List.mem_append_left _ (List.mem_append_left _ (List.mem_append_right _ h)))))
set_option maxHeartbeats 4000000 in
set_option maxRecDepth 100000 in
theorem bkX2_bestGuess_13 {l : Launch} {dC : Nat → ClassId} {dI : Nat → Nat → Nat} {cB cI cJ cZ cS : ClassId} {a b : Nat → Nat} {as : List Value} {r : Int32} {s' : JS} {k13 : JS → Int32 → Int32 → Int32 → Option (Int32 × JS)} (hk13 : ∀ (s : JS) (x2 : Int32) (x3 : Int32) (x4 : Int32), k13 s x2 x3 x4 = some (r, s') → BlkI l yX2_bestGuess wsX2_bestGuess ({ frames := 5, cells := 0, slots := 0, locals := 127 }) cX2_bestGuess 6 (some .int) (dC, dI) (tysA cB cI cJ cZ cS) as 13 (wJ cB cI cJ cZ cS a b s) [(0, .ref (a 36)), (1, .ref (b 0)), (2, .int x2), (3, .int x3), (4, .int x4)] [] (fun x u => x = r ∧ u = (wJ cB cI cJ cZ cS a b s'))) (s : JS) (x2 : Int32) (x3 : Int32) (x4 : Int32) (hB : kX2_bestGuess_13 k13 s x2 x3 x4 = some (r, s')) : BlkI l yX2_bestGuess wsX2_bestGuess ({ frames := 5, cells := 0, slots := 0, locals := 127 }) cX2_bestGuess 6 (some .int) (dC, dI) (tysA cB cI cJ cZ cS) as 13 (wJ cB cI cJ cZ cS a b s) [(0, .ref (a 36)), (1, .ref (b 0)), (2, .int x2), (3, .int x3), (4, .int x4)] [] (fun x u => x = r ∧ u = (wJ cB cI cJ cZ cS a b s')) := by
  intro p e s0 m below meth c A E H locs ls hP hD hS hl
  obtain ⟨C, hr, hlocks, hA, hK, hN⟩ := id E
  obtain ⟨hx, hb, hml, hown, hts⟩ := id C
  unfold kX2_bestGuess_13 at hB
  refine lv_iload hx hb dX2_bestGuess_13 (lv_at hl 4 rfl) ?_
  refine lv_if_lt (tgt := 51) hx hb dX2_bestGuess_15 (by decide) (fun c1 => ?_) (fun c1 => ?_)
  · have hB := if_p hB c1
    refine lv_iload_n hx hb dX2_bestGuess_51 rfl (lv_at hl 3 rfl) ?_
    exact q_iret C hr hlocks hK hP hD hS (Nat.le_of_ble_eq_true rfl) (Nat.le_of_ble_eq_true rfl) dX2_bestGuess_52 (by cases hB; exact ⟨rfl, rfl⟩)
  · have hB := if_n hB c1
    refine lv_aload_n hx hb dX2_bestGuess_18 rfl (lv_at hl 0 rfl) ?_
    refine lv_aload_n hx hb dX2_bestGuess_19 rfl (lv_at hl 1 rfl) ?_
    refine lv_iload_n hx hb dX2_bestGuess_20 rfl (lv_at hl 2 rfl) ?_
    refine lv_iload hx hb dX2_bestGuess_21 (lv_at hl 4 rfl) ?_
    obtain ⟨q_, s2, hc, hB⟩ := bindI_inv hB
    refine q_goiF (va_runV (As := [.ref (b 0), .int x2, .int x4]) (rest := []) C (ckX2_bestThing hc _) (cwV 3 hts gX2_bestGuess_X2_bestThing rfl rfl rfl (by decide +kernel) ⟨Nat.le_of_ble_eq_true rfl, Nat.le_of_ble_eq_true rfl⟩) (q_preV hK hP (ci := 2) (q0 := 42) rfl rfl rfl (q_preF hN hK hP hD)) rfl rfl hl.1 rfl (lv_room (Nat.le_of_ble_eq_true rfl)) dX2_bestGuess_23 ⟨Nat.le_of_ble_eq_true rfl, Nat.le_of_ble_eq_true rfl⟩) hD hS hA (fun r3 w1 H locs hw hP hD hS => ?_)
    obtain ⟨hq_, hw⟩ := hw; subst hw; subst hq_
    refine lv_istore (lv' := [(5, .int r3), (0, .ref (a 36)), (1, .ref (b 0)), (2, .int x2), (3, .int x3), (4, .int x4)]) hx hb dX2_bestGuess_26 hl (by decide) rfl (fun ls hl => ?_)
    refine lv_iload hx hb dX2_bestGuess_28 (lv_at hl 0 rfl) ?_
    refine lv_iconst (v := (-1)) hx hb dX2_bestGuess_30 (by decide) ?_
    refine lv_icmp_ne (tgt := 37) hx hb dX2_bestGuess_31 (by decide) (fun c4 => ?_) (fun c4 => ?_)
    · have hB := if_n hB c4
      refine lv_iload_n hx hb dX2_bestGuess_37 rfl (lv_at hl 4 rfl) ?_
      refine lv_bipush (v := 6) hx hb dX2_bestGuess_38 (by decide) ?_
      refine lv_imul hx hb dX2_bestGuess_40 ?_
      refine lv_iload hx hb dX2_bestGuess_41 (lv_at hl 0 rfl) ?_
      refine lv_iadd hx hb dX2_bestGuess_43 ?_
      refine lv_istore_n (lv' := [(3, .int ((x3 * 6) + r3)), (5, .int r3), (0, .ref (a 36)), (1, .ref (b 0)), (2, .int x2), (4, .int x4)]) hx hb dX2_bestGuess_44 rfl hl (by decide) rfl (fun ls hl => ?_)
      refine lv_iinc (v := (x4 + (-1))) (lv' := [(4, .int (x4 + (-1))), (3, .int ((x3 * 6) + r3)), (5, .int r3), (0, .ref (a 36)), (1, .ref (b 0)), (2, .int x2)]) hx hb dX2_bestGuess_45 hl (k := 5) rfl (rfl) (by decide) rfl (fun ls hl => ?_)
      refine lv_goto (tgt := 13) hx hb dX2_bestGuess_48 (by decide) ?_
      exact hk13 _ _ _ _ hB p e s0 m below meth c A E H locs ls hP hD hS (lv_sub hl [3, 4, 5, 1, 0] rfl)
    · have hB := if_p hB c4
      refine lv_bipush (v := (-2)) hx hb dX2_bestGuess_34 (by decide) ?_
      exact q_iret C hr hlocks hK hP hD hS (Nat.le_of_ble_eq_true rfl) (Nat.le_of_ble_eq_true rfl) dX2_bestGuess_36 (by cases hB; exact ⟨rfl, rfl⟩)
theorem bkX2_bestGuess_13L {l : Launch} {dC : Nat → ClassId} {dI : Nat → Nat → Nat} {cB cI cJ cZ cS : ClassId} {a b : Nat → Nat} {as : List Value} {r : Int32} {s' : JS} : ∀ (n : Nat) (s : JS) (x2 : Int32) (x3 : Int32) (x4 : Int32), kX2_bestGuess_13L n s x2 x3 x4 = some (r, s') → BlkI l yX2_bestGuess wsX2_bestGuess ({ frames := 5, cells := 0, slots := 0, locals := 127 }) cX2_bestGuess 6 (some .int) (dC, dI) (tysA cB cI cJ cZ cS) as 13 (wJ cB cI cJ cZ cS a b s) [(0, .ref (a 36)), (1, .ref (b 0)), (2, .int x2), (3, .int x3), (4, .int x4)] [] (fun x u => x = r ∧ u = (wJ cB cI cJ cZ cS a b s')) := by
  intro n
  induction n with
  | zero => intro s x2 x3 x4 hB; exact none_ne hB
  | succ n ih => intro s x2 x3 x4 hB; exact bkX2_bestGuess_13 ih _ _ _ _ hB
set_option maxHeartbeats 4000000 in
set_option maxRecDepth 100000 in
theorem bkX2_bestGuess {l : Launch} {dC : Nat → ClassId} {dI : Nat → Nat → Nat} {cB cI cJ cZ cS : ClassId} {a b : Nat → Nat} {as : List Value} {r : Int32} {s' : JS} (s : JS) (x2 : Int32) (hB : kX2_bestGuess s x2 = some (r, s')) : BlkI l yX2_bestGuess wsX2_bestGuess ({ frames := 5, cells := 0, slots := 0, locals := 127 }) cX2_bestGuess 6 (some .int) (dC, dI) (tysA cB cI cJ cZ cS) as 0 (wJ cB cI cJ cZ cS a b s) [(0, .ref (a 36)), (1, .ref (b 0)), (2, .int x2)] [] (fun x u => x = r ∧ u = (wJ cB cI cJ cZ cS a b s')) := by
  intro p e s0 m below meth c A E H locs ls hP hD hS hl
  obtain ⟨C, hr, hlocks, hA, hK, hN⟩ := id E
  obtain ⟨hx, hb, hml, hown, hts⟩ := id C
  unfold kX2_bestGuess at hB
  refine lv_iconst (v := 0) hx hb dX2_bestGuess_0 (by decide) ?_
  refine lv_istore_n (lv' := [(3, .int 0), (0, .ref (a 36)), (1, .ref (b 0)), (2, .int x2)]) hx hb dX2_bestGuess_1 rfl hl (by decide) rfl (fun ls hl => ?_)
  refine lv_aload_n hx hb dX2_bestGuess_2 rfl (lv_at hl 1 rfl) ?_
  refine q_get (v := .ref (a 2)) C inX2_bestGuess_X2 hK hP 42 rfl rfl 0 (by decide) rfl LX2_bestGuess_24 rfl dX2_bestGuess_3 ?_
  refine q_getN (v := .int (s.k.v 1)) C hN inX2_bestGuess_X5 hK hP 8 rfl rfl 6 (by decide) rfl nwF_X2_44 rfl dX2_bestGuess_6 ?_
  refine lv_iconst (v := 1) hx hb dX2_bestGuess_9 (by decide) ?_
  refine lv_isub hx hb dX2_bestGuess_10 ?_
  refine lv_istore (lv' := [(4, .int ((s.k.v 1) - 1)), (3, .int 0), (0, .ref (a 36)), (1, .ref (b 0)), (2, .int x2)]) hx hb dX2_bestGuess_11 hl (by decide) rfl (fun ls hl => ?_)
  exact bkX2_bestGuess_13L fu _ _ _ _ hB p e s0 m below meth c A E H locs ls hP hD hS (lv_sub hl [2, 3, 4, 1, 0] rfl)
theorem ckX2_bestGuess {l : Launch} {dC : Nat → ClassId} {dI : Nat → Nat → Nat} {cB cI cJ cZ cS : ClassId} {a b : Nat → Nat} {r : Int32} {s' : JS} {s : JS} {x2 : Int32} (hB : kX2_bestGuess s x2 = some (r, s')) : CI l yX2_bestGuess wsX2_bestGuess ({ frames := 5, cells := 0, slots := 0, locals := 127 }) (dC, dI) (tysA cB cI cJ cZ cS) (wJ cB cI cJ cZ cS a b s) [.ref (a 36), .ref (b 0), .int x2] (fun x u => x = r ∧ u = (wJ cB cI cJ cZ cS a b s')) :=
  CI_of (cc := cX2_bestGuess) (maxL := 6) (ret := (some .int)) (by decide) rfl (Nat.le_of_ble_eq_true rfl) (bkX2_bestGuess _ _ hB)
end
section
theorem ggX10_likeliest_X2_bestGuess : GoodIn wsX10_likeliest wsX2_bestGuess := gi_sub (fun w h => List.mem_cons_of_mem _ (List.mem_append_left _ (List.mem_append_left _ (List.mem_append_left _ (List.mem_append_left _ (List.mem_append_left _ (List.mem_append_left _ (List.mem_append_right _ h)))))))) gd_wsX2_bestGuess
set_option maxRecDepth 20000 in
theorem gX10_likeliest_X2_bestGuess_n206 : GoodIn wsX10_likeliest (wsX2_bestGuess) := ggX10_likeliest_X2_bestGuess
theorem dX10_likeliest_0 : decode cX10_likeliest 0 = .ok (.aload_n 0, 1) := dc1_42 (by decide +kernel)
theorem dX10_likeliest_1 : decode cX10_likeliest 1 = .ok (.getfield 63, 3) := dcw_180 (by decide +kernel)
theorem dX10_likeliest_4 : decode cX10_likeliest 4 = .ok (.aload_n 0, 1) := dc1_42 (by decide +kernel)
theorem dX10_likeliest_5 : decode cX10_likeliest 5 = .ok (.getfield 35, 3) := dcw_180 (by decide +kernel)
theorem dX10_likeliest_8 : decode cX10_likeliest 8 = .ok (.iconst (-1), 1) := dc1_2 (by decide +kernel)
theorem dX10_likeliest_9 : decode cX10_likeliest 9 = .ok (.invokevirtual 206, 3) := dcw_182 (by decide +kernel)
theorem dX10_likeliest_12 : decode cX10_likeliest 12 = .ok (.ireturn, 1) := dc1_172 (by decide +kernel)
theorem ggX10_safest_X5_hasParty : GoodIn wsX10_safest wsX5_hasParty := gi_sub (fun w h => List.mem_cons_of_mem _ (List.mem_append_left _ (List.mem_append_left _ (List.mem_append_left _ (List.mem_append_left _ (List.mem_append_left _ (List.mem_append_left _ (List.mem_append_right _ (List.mem_append_left _ h))))))))) gd_wsX5_hasParty
set_option maxRecDepth 20000 in
theorem gX10_safest_X5_hasParty_n138 : GoodIn wsX10_safest (wsX5_hasParty) := ggX10_safest_X5_hasParty
theorem ggX10_safest_X2_bestGuess : GoodIn wsX10_safest wsX2_bestGuess := gi_sub (fun w h => List.mem_cons_of_mem _ (List.mem_append_left _ (List.mem_append_left _ (List.mem_append_left _ (List.mem_append_left _ (List.mem_append_left _ (List.mem_append_left _ (List.mem_append_right _ (List.mem_append_right _ h))))))))) gd_wsX2_bestGuess
set_option maxRecDepth 20000 in
theorem gX10_safest_X2_bestGuess_n206 : GoodIn wsX10_safest (wsX2_bestGuess) := ggX10_safest_X2_bestGuess
theorem dX10_safest_0 : decode cX10_safest 0 = .ok (.aload_n 0, 1) := dc1_42 (by decide +kernel)
theorem dX10_safest_1 : decode cX10_safest 1 = .ok (.getfield 19, 3) := dcw_180 (by decide +kernel)
theorem dX10_safest_4 : decode cX10_safest 4 = .ok (.iload_n 1, 1) := dc1_27 (by decide +kernel)
theorem dX10_safest_5 : decode cX10_safest 5 = .ok (.invokevirtual 138, 3) := dcw_182 (by decide +kernel)
theorem dX10_safest_8 : decode cX10_safest 8 = .ok (.ifCond .eq 18, 3) := dcs_153 (n := 18) (by decide +kernel)
theorem dX10_safest_11 : decode cX10_safest 11 = .ok (.aload_n 0, 1) := dc1_42 (by decide +kernel)
theorem dX10_safest_12 : decode cX10_safest 12 = .ok (.getfield 63, 3) := dcw_180 (by decide +kernel)
theorem dX10_safest_15 : decode cX10_safest 15 = .ok (.aload_n 0, 1) := dc1_42 (by decide +kernel)
theorem dX10_safest_16 : decode cX10_safest 16 = .ok (.getfield 35, 3) := dcw_180 (by decide +kernel)
theorem dX10_safest_19 : decode cX10_safest 19 = .ok (.iload_n 1, 1) := dc1_27 (by decide +kernel)
theorem dX10_safest_20 : decode cX10_safest 20 = .ok (.invokevirtual 206, 3) := dcw_182 (by decide +kernel)
theorem dX10_safest_23 : decode cX10_safest 23 = .ok (.goto 4, 3) := dcs_167 (n := 4) (by decide +kernel)
theorem dX10_safest_26 : decode cX10_safest 26 = .ok (.iconst (-1), 1) := dc1_2 (by decide +kernel)
theorem dX10_safest_27 : decode cX10_safest 27 = .ok (.ireturn, 1) := dc1_172 (by decide +kernel)
theorem ggX10_stuck_X2_bestGuess : GoodIn wsX10_stuck wsX2_bestGuess := gi_sub (fun w h => List.mem_cons_of_mem _ (List.mem_append_left _ (List.mem_append_left _ (List.mem_append_left _ (List.mem_append_left _ (List.mem_append_left _ (List.mem_append_left _ (List.mem_append_right _ h)))))))) gd_wsX2_bestGuess
set_option maxRecDepth 20000 in
theorem gX10_stuck_X2_bestGuess_n206 : GoodIn wsX10_stuck (wsX2_bestGuess) := ggX10_stuck_X2_bestGuess
theorem dX10_stuck_0 : decode cX10_stuck 0 = .ok (.iconst 0, 1) := dc1_3 (by decide +kernel)
theorem dX10_stuck_1 : decode cX10_stuck 1 = .ok (.istore_n 1, 1) := dc1_60 (by decide +kernel)
theorem dX10_stuck_2 : decode cX10_stuck 2 = .ok (.iconst 0, 1) := dc1_3 (by decide +kernel)
theorem dX10_stuck_3 : decode cX10_stuck 3 = .ok (.istore_n 2, 1) := dc1_61 (by decide +kernel)
theorem dX10_stuck_4 : decode cX10_stuck 4 = .ok (.iload_n 2, 1) := dc1_28 (by decide +kernel)
theorem dX10_stuck_5 : decode cX10_stuck 5 = .ok (.aload_n 0, 1) := dc1_42 (by decide +kernel)
theorem dX10_stuck_6 : decode cX10_stuck 6 = .ok (.getfield 19, 3) := dcw_180 (by decide +kernel)
theorem dX10_stuck_9 : decode cX10_stuck 9 = .ok (.getfield 235, 3) := dcw_180 (by decide +kernel)
theorem dX10_stuck_12 : decode cX10_stuck 12 = .ok (.if_icmp .ge 44, 3) := dcs_162 (n := 44) (by decide +kernel)
theorem dX10_stuck_15 : decode cX10_stuck 15 = .ok (.aload_n 0, 1) := dc1_42 (by decide +kernel)
theorem dX10_stuck_16 : decode cX10_stuck 16 = .ok (.getfield 35, 3) := dcw_180 (by decide +kernel)
theorem dX10_stuck_19 : decode cX10_stuck 19 = .ok (.getfield 147, 3) := dcw_180 (by decide +kernel)
theorem dX10_stuck_22 : decode cX10_stuck 22 = .ok (.iload_n 2, 1) := dc1_28 (by decide +kernel)
theorem dX10_stuck_23 : decode cX10_stuck 23 = .ok (.iaload, 1) := dc1_46 (by decide +kernel)
theorem dX10_stuck_24 : decode cX10_stuck 24 = .ok (.ifCond .ne 26, 3) := dcs_154 (n := 26) (by decide +kernel)
theorem dX10_stuck_27 : decode cX10_stuck 27 = .ok (.aload_n 0, 1) := dc1_42 (by decide +kernel)
theorem dX10_stuck_28 : decode cX10_stuck 28 = .ok (.getfield 63, 3) := dcw_180 (by decide +kernel)
theorem dX10_stuck_31 : decode cX10_stuck 31 = .ok (.aload_n 0, 1) := dc1_42 (by decide +kernel)
theorem dX10_stuck_32 : decode cX10_stuck 32 = .ok (.getfield 35, 3) := dcw_180 (by decide +kernel)
theorem dX10_stuck_35 : decode cX10_stuck 35 = .ok (.iload_n 2, 1) := dc1_28 (by decide +kernel)
theorem dX10_stuck_36 : decode cX10_stuck 36 = .ok (.invokevirtual 206, 3) := dcw_182 (by decide +kernel)
theorem dX10_stuck_39 : decode cX10_stuck 39 = .ok (.bipush (-2), 2) := dcb_16 (n := 254) (by decide +kernel)
theorem dX10_stuck_41 : decode cX10_stuck 41 = .ok (.if_icmp .ne 9, 3) := dcs_160 (n := 9) (by decide +kernel)
theorem dX10_stuck_44 : decode cX10_stuck 44 = .ok (.iload_n 1, 1) := dc1_27 (by decide +kernel)
theorem dX10_stuck_45 : decode cX10_stuck 45 = .ok (.iconst 1, 1) := dc1_4 (by decide +kernel)
theorem dX10_stuck_46 : decode cX10_stuck 46 = .ok (.iload_n 2, 1) := dc1_28 (by decide +kernel)
theorem dX10_stuck_47 : decode cX10_stuck 47 = .ok (.ishl, 1) := dc1_120 (by decide +kernel)
theorem dX10_stuck_48 : decode cX10_stuck 48 = .ok (.ior, 1) := dc1_128 (by decide +kernel)
theorem dX10_stuck_49 : decode cX10_stuck 49 = .ok (.istore_n 1, 1) := dc1_60 (by decide +kernel)
theorem dX10_stuck_50 : decode cX10_stuck 50 = .ok (.iinc 2 1, 3) := dc_iinc (m := 1) (by decide +kernel)
theorem dX10_stuck_53 : decode cX10_stuck 53 = .ok (.goto (-49), 3) := dcs_167 (n := 65487) (by decide +kernel)
theorem dX10_stuck_56 : decode cX10_stuck 56 = .ok (.iload_n 1, 1) := dc1_27 (by decide +kernel)
theorem dX10_stuck_57 : decode cX10_stuck 57 = .ok (.ireturn, 1) := dc1_172 (by decide +kernel)
theorem ggX10_chosen_X2_bestGuess : GoodIn wsX10_chosen wsX2_bestGuess := gi_sub (fun w h => List.mem_cons_of_mem _ (List.mem_append_left _ (List.mem_append_left _ (List.mem_append_left _ (List.mem_append_left _ (List.mem_append_left _ (List.mem_append_left _ (List.mem_append_right _ (List.mem_append_left _ h))))))))) gd_wsX2_bestGuess
set_option maxRecDepth 20000 in
theorem gX10_chosen_X2_bestGuess_n206 : GoodIn wsX10_chosen (wsX2_bestGuess) := ggX10_chosen_X2_bestGuess
theorem ggX10_chosen_X2_oddsOf : GoodIn wsX10_chosen wsX2_oddsOf := gi_sub (fun w h => List.mem_cons_of_mem _ (List.mem_append_left _ (List.mem_append_left _ (List.mem_append_left _ (List.mem_append_left _ (List.mem_append_left _ (List.mem_append_left _ (List.mem_append_right _ (List.mem_append_right _ h))))))))) gd_wsX2_oddsOf
set_option maxRecDepth 20000 in
theorem gX10_chosen_X2_oddsOf_n200 : GoodIn wsX10_chosen (wsX2_oddsOf) := ggX10_chosen_X2_oddsOf
theorem dX10_chosen_0 : decode cX10_chosen 0 = .ok (.bipush (-2), 2) := dcb_16 (n := 254) (by decide +kernel)
theorem dX10_chosen_2 : decode cX10_chosen 2 = .ok (.istore_n 1, 1) := dc1_60 (by decide +kernel)
theorem dX10_chosen_3 : decode cX10_chosen 3 = .ok (.iconst 0, 1) := dc1_3 (by decide +kernel)
theorem dX10_chosen_4 : decode cX10_chosen 4 = .ok (.istore_n 2, 1) := dc1_61 (by decide +kernel)
theorem dX10_chosen_5 : decode cX10_chosen 5 = .ok (.iconst 0, 1) := dc1_3 (by decide +kernel)
theorem dX10_chosen_6 : decode cX10_chosen 6 = .ok (.istore_n 3, 1) := dc1_62 (by decide +kernel)
theorem dX10_chosen_7 : decode cX10_chosen 7 = .ok (.iload_n 3, 1) := dc1_29 (by decide +kernel)
theorem dX10_chosen_8 : decode cX10_chosen 8 = .ok (.aload_n 0, 1) := dc1_42 (by decide +kernel)
theorem dX10_chosen_9 : decode cX10_chosen 9 = .ok (.getfield 19, 3) := dcw_180 (by decide +kernel)
theorem dX10_chosen_12 : decode cX10_chosen 12 = .ok (.getfield 235, 3) := dcw_180 (by decide +kernel)
theorem dX10_chosen_15 : decode cX10_chosen 15 = .ok (.if_icmp .ge 77, 3) := dcs_162 (n := 77) (by decide +kernel)
theorem dX10_chosen_18 : decode cX10_chosen 18 = .ok (.aload_n 0, 1) := dc1_42 (by decide +kernel)
theorem dX10_chosen_19 : decode cX10_chosen 19 = .ok (.getfield 35, 3) := dcw_180 (by decide +kernel)
theorem dX10_chosen_22 : decode cX10_chosen 22 = .ok (.getfield 147, 3) := dcw_180 (by decide +kernel)
theorem dX10_chosen_25 : decode cX10_chosen 25 = .ok (.iload_n 3, 1) := dc1_29 (by decide +kernel)
theorem dX10_chosen_26 : decode cX10_chosen 26 = .ok (.iaload, 1) := dc1_46 (by decide +kernel)
theorem dX10_chosen_27 : decode cX10_chosen 27 = .ok (.ifCond .ne 18, 3) := dcs_154 (n := 18) (by decide +kernel)
theorem dX10_chosen_30 : decode cX10_chosen 30 = .ok (.aload_n 0, 1) := dc1_42 (by decide +kernel)
theorem dX10_chosen_31 : decode cX10_chosen 31 = .ok (.getfield 63, 3) := dcw_180 (by decide +kernel)
theorem dX10_chosen_34 : decode cX10_chosen 34 = .ok (.aload_n 0, 1) := dc1_42 (by decide +kernel)
theorem dX10_chosen_35 : decode cX10_chosen 35 = .ok (.getfield 35, 3) := dcw_180 (by decide +kernel)
theorem dX10_chosen_38 : decode cX10_chosen 38 = .ok (.iload_n 3, 1) := dc1_29 (by decide +kernel)
theorem dX10_chosen_39 : decode cX10_chosen 39 = .ok (.invokevirtual 206, 3) := dcw_182 (by decide +kernel)
theorem dX10_chosen_42 : decode cX10_chosen 42 = .ok (.goto 5, 3) := dcs_167 (n := 5) (by decide +kernel)
theorem dX10_chosen_45 : decode cX10_chosen 45 = .ok (.bipush (-2), 2) := dcb_16 (n := 254) (by decide +kernel)
theorem dX10_chosen_47 : decode cX10_chosen 47 = .ok (.istore 4, 2) := dcu_54 (by decide +kernel)
theorem dX10_chosen_49 : decode cX10_chosen 49 = .ok (.iload 4, 2) := dcu_21 (by decide +kernel)
theorem dX10_chosen_51 : decode cX10_chosen 51 = .ok (.bipush (-2), 2) := dcb_16 (n := 254) (by decide +kernel)
theorem dX10_chosen_53 : decode cX10_chosen 53 = .ok (.if_icmp .ne 7, 3) := dcs_160 (n := 7) (by decide +kernel)
theorem dX10_chosen_56 : decode cX10_chosen 56 = .ok (.iconst 0, 1) := dc1_3 (by decide +kernel)
theorem dX10_chosen_57 : decode cX10_chosen 57 = .ok (.goto 16, 3) := dcs_167 (n := 16) (by decide +kernel)
theorem dX10_chosen_60 : decode cX10_chosen 60 = .ok (.aload_n 0, 1) := dc1_42 (by decide +kernel)
theorem dX10_chosen_61 : decode cX10_chosen 61 = .ok (.getfield 63, 3) := dcw_180 (by decide +kernel)
theorem dX10_chosen_64 : decode cX10_chosen 64 = .ok (.aload_n 0, 1) := dc1_42 (by decide +kernel)
theorem dX10_chosen_65 : decode cX10_chosen 65 = .ok (.getfield 35, 3) := dcw_180 (by decide +kernel)
theorem dX10_chosen_68 : decode cX10_chosen 68 = .ok (.iload 4, 2) := dcu_21 (by decide +kernel)
theorem dX10_chosen_70 : decode cX10_chosen 70 = .ok (.invokevirtual 200, 3) := dcw_182 (by decide +kernel)
theorem dX10_chosen_73 : decode cX10_chosen 73 = .ok (.istore 5, 2) := dcu_54 (by decide +kernel)
theorem dX10_chosen_75 : decode cX10_chosen 75 = .ok (.iload 5, 2) := dcu_21 (by decide +kernel)
theorem dX10_chosen_77 : decode cX10_chosen 77 = .ok (.iload_n 2, 1) := dc1_28 (by decide +kernel)
theorem dX10_chosen_78 : decode cX10_chosen 78 = .ok (.if_icmp .le 8, 3) := dcs_164 (n := 8) (by decide +kernel)
theorem dX10_chosen_81 : decode cX10_chosen 81 = .ok (.iload 5, 2) := dcu_21 (by decide +kernel)
theorem dX10_chosen_83 : decode cX10_chosen 83 = .ok (.istore_n 2, 1) := dc1_61 (by decide +kernel)
theorem dX10_chosen_84 : decode cX10_chosen 84 = .ok (.iload_n 3, 1) := dc1_29 (by decide +kernel)
theorem dX10_chosen_85 : decode cX10_chosen 85 = .ok (.istore_n 1, 1) := dc1_60 (by decide +kernel)
theorem dX10_chosen_86 : decode cX10_chosen 86 = .ok (.iinc 3 1, 3) := dc_iinc (m := 1) (by decide +kernel)
theorem dX10_chosen_89 : decode cX10_chosen 89 = .ok (.goto (-82), 3) := dcs_167 (n := 65454) (by decide +kernel)
theorem dX10_chosen_92 : decode cX10_chosen 92 = .ok (.iload_n 1, 1) := dc1_27 (by decide +kernel)
theorem dX10_chosen_93 : decode cX10_chosen 93 = .ok (.ireturn, 1) := dc1_172 (by decide +kernel)
theorem ggX10_allGo_X6_copyFrom : GoodIn wsX10_allGo wsX6_copyFrom := gi_sub (fun w h => List.mem_cons_of_mem _ (List.mem_append_left _ (List.mem_append_left _ (List.mem_append_left _ (List.mem_append_left _ (List.mem_append_left _ (List.mem_append_left _ (List.mem_append_right _ (List.mem_append_left _ h))))))))) gd_wsX6_copyFrom
set_option maxRecDepth 20000 in
theorem gX10_allGo_X6_copyFrom_n227 : GoodIn wsX10_allGo (wsX6_copyFrom) := ggX10_allGo_X6_copyFrom
theorem ggX10_allGo_X0_isDaring : GoodIn wsX10_allGo wsX0_isDaring := gi_sub (fun w h => List.mem_cons_of_mem _ (List.mem_append_left _ (List.mem_append_left _ (List.mem_append_left _ (List.mem_append_left _ (List.mem_append_left _ (List.mem_append_left _ (List.mem_append_right _ (List.mem_append_right _ (List.mem_append_left _ h)))))))))) gd_wsX0_isDaring
set_option maxRecDepth 20000 in
theorem gX10_allGo_X0_isDaring_n156 : GoodIn wsX10_allGo (wsX0_isDaring) := ggX10_allGo_X0_isDaring
theorem ggX10_allGo_X2_bestGuess : GoodIn wsX10_allGo wsX2_bestGuess := gi_sub (fun w h => List.mem_cons_of_mem _ (List.mem_append_left _ (List.mem_append_left _ (List.mem_append_left _ (List.mem_append_left _ (List.mem_append_left _ (List.mem_append_left _ (List.mem_append_right _ (List.mem_append_right _ (List.mem_append_right _ (List.mem_append_left _ h))))))))))) gd_wsX2_bestGuess
set_option maxRecDepth 20000 in
theorem gX10_allGo_X2_bestGuess_n206 : GoodIn wsX10_allGo (wsX2_bestGuess) := ggX10_allGo_X2_bestGuess
theorem ggX10_allGo_X0_sendBy : GoodIn wsX10_allGo wsX0_sendBy := gi_sub (fun w h => List.mem_cons_of_mem _ (List.mem_append_left _ (List.mem_append_left _ (List.mem_append_left _ (List.mem_append_left _ (List.mem_append_left _ (List.mem_append_left _ (List.mem_append_right _ (List.mem_append_right _ (List.mem_append_right _ (List.mem_append_right _ (List.mem_append_left _ h)))))))))))) gd_wsX0_sendBy
set_option maxRecDepth 20000 in
theorem gX10_allGo_X0_sendBy_n177 : GoodIn wsX10_allGo (wsX0_sendBy) := ggX10_allGo_X0_sendBy
theorem ggX10_allGo_X10_partiesThatAre : GoodIn wsX10_allGo wsX10_partiesThatAre := gi_sub (fun w h => List.mem_cons_of_mem _ (List.mem_append_left _ (List.mem_append_left _ (List.mem_append_left _ (List.mem_append_left _ (List.mem_append_left _ (List.mem_append_left _ (List.mem_append_right _ (List.mem_append_right _ (List.mem_append_right _ (List.mem_append_right _ (List.mem_append_right _ (List.mem_append_left _ h))))))))))))) gd_wsX10_partiesThatAre
set_option maxRecDepth 20000 in
theorem gX10_allGo_X10_partiesThatAre : GoodIn wsX10_allGo (wsV RX10 244 RX10 yX10_partiesThatAre wsX10_partiesThatAre) := goodIn_app (goodIn_r _ [25, 26, 27, 18] (by decide +kernel) (by decide +kernel)) ggX10_allGo_X10_partiesThatAre
theorem ggX10_allGo_J6_bitCount_0f7a4 : GoodIn wsX10_allGo wsJ6_bitCount_0f7a4 := gi_sub (fun w h => List.mem_cons_of_mem _ (List.mem_append_left _ (List.mem_append_left _ (List.mem_append_left _ (List.mem_append_left _ (List.mem_append_left _ (List.mem_append_left _ (List.mem_append_right _ (List.mem_append_right _ (List.mem_append_right _ (List.mem_append_right _ (List.mem_append_right _ (List.mem_append_right _ h))))))))))))) gd_wsJ6_bitCount_0f7a4
set_option maxRecDepth 20000 in
theorem gX10_allGo_J6_bitCount_0f7a4 : GoodIn wsX10_allGo (va_wsS RX10 247 yJ6_bitCount_0f7a4 wsJ6_bitCount_0f7a4) := goodIn_app (goodIn_of _ (by decide +kernel)) ggX10_allGo_J6_bitCount_0f7a4
theorem dX10_allGo_0 : decode cX10_allGo 0 = .ok (.iload_n 1, 1) := dc1_27 (by decide +kernel)
theorem dX10_allGo_1 : decode cX10_allGo 1 = .ok (.ifCond .lt 8, 3) := dcs_155 (n := 8) (by decide +kernel)
theorem dX10_allGo_4 : decode cX10_allGo 4 = .ok (.iload_n 1, 1) := dc1_27 (by decide +kernel)
theorem dX10_allGo_5 : decode cX10_allGo 5 = .ok (.iconst 2, 1) := dc1_5 (by decide +kernel)
theorem dX10_allGo_6 : decode cX10_allGo 6 = .ok (.if_icmp .le 5, 3) := dcs_164 (n := 5) (by decide +kernel)
theorem dX10_allGo_9 : decode cX10_allGo 9 = .ok (.iconst (-1), 1) := dc1_2 (by decide +kernel)
theorem dX10_allGo_10 : decode cX10_allGo 10 = .ok (.ireturn, 1) := dc1_172 (by decide +kernel)
theorem dX10_allGo_11 : decode cX10_allGo 11 = .ok (.aload_n 0, 1) := dc1_42 (by decide +kernel)
theorem dX10_allGo_12 : decode cX10_allGo 12 = .ok (.getfield 39, 3) := dcw_180 (by decide +kernel)
theorem dX10_allGo_15 : decode cX10_allGo 15 = .ok (.aload_n 0, 1) := dc1_42 (by decide +kernel)
theorem dX10_allGo_16 : decode cX10_allGo 16 = .ok (.getfield 35, 3) := dcw_180 (by decide +kernel)
theorem dX10_allGo_19 : decode cX10_allGo 19 = .ok (.invokevirtual 227, 3) := dcw_182 (by decide +kernel)
theorem dX10_allGo_22 : decode cX10_allGo 22 = .ok (.iconst 0, 1) := dc1_3 (by decide +kernel)
theorem dX10_allGo_23 : decode cX10_allGo 23 = .ok (.istore_n 2, 1) := dc1_61 (by decide +kernel)
theorem dX10_allGo_24 : decode cX10_allGo 24 = .ok (.iload_n 2, 1) := dc1_28 (by decide +kernel)
theorem dX10_allGo_25 : decode cX10_allGo 25 = .ok (.aload_n 0, 1) := dc1_42 (by decide +kernel)
theorem dX10_allGo_26 : decode cX10_allGo 26 = .ok (.getfield 19, 3) := dcw_180 (by decide +kernel)
theorem dX10_allGo_29 : decode cX10_allGo 29 = .ok (.getfield 235, 3) := dcw_180 (by decide +kernel)
theorem dX10_allGo_32 : decode cX10_allGo 32 = .ok (.if_icmp .ge 69, 3) := dcs_162 (n := 69) (by decide +kernel)
theorem dX10_allGo_35 : decode cX10_allGo 35 = .ok (.aload_n 0, 1) := dc1_42 (by decide +kernel)
theorem dX10_allGo_36 : decode cX10_allGo 36 = .ok (.getfield 39, 3) := dcw_180 (by decide +kernel)
theorem dX10_allGo_39 : decode cX10_allGo 39 = .ok (.getfield 147, 3) := dcw_180 (by decide +kernel)
theorem dX10_allGo_42 : decode cX10_allGo 42 = .ok (.iload_n 2, 1) := dc1_28 (by decide +kernel)
theorem dX10_allGo_43 : decode cX10_allGo 43 = .ok (.iaload, 1) := dc1_46 (by decide +kernel)
theorem dX10_allGo_44 : decode cX10_allGo 44 = .ok (.ifCond .ne 51, 3) := dcs_154 (n := 51) (by decide +kernel)
theorem dX10_allGo_47 : decode cX10_allGo 47 = .ok (.aload_n 0, 1) := dc1_42 (by decide +kernel)
theorem dX10_allGo_48 : decode cX10_allGo 48 = .ok (.getfield 54, 3) := dcw_180 (by decide +kernel)
theorem dX10_allGo_51 : decode cX10_allGo 51 = .ok (.aload_n 0, 1) := dc1_42 (by decide +kernel)
theorem dX10_allGo_52 : decode cX10_allGo 52 = .ok (.getfield 39, 3) := dcw_180 (by decide +kernel)
theorem dX10_allGo_55 : decode cX10_allGo 55 = .ok (.iload_n 2, 1) := dc1_28 (by decide +kernel)
theorem dX10_allGo_56 : decode cX10_allGo 56 = .ok (.invokevirtual 156, 3) := dcw_182 (by decide +kernel)
theorem dX10_allGo_59 : decode cX10_allGo 59 = .ok (.ifCond .eq 36, 3) := dcs_153 (n := 36) (by decide +kernel)
theorem dX10_allGo_62 : decode cX10_allGo 62 = .ok (.aload_n 0, 1) := dc1_42 (by decide +kernel)
theorem dX10_allGo_63 : decode cX10_allGo 63 = .ok (.getfield 63, 3) := dcw_180 (by decide +kernel)
theorem dX10_allGo_66 : decode cX10_allGo 66 = .ok (.aload_n 0, 1) := dc1_42 (by decide +kernel)
theorem dX10_allGo_67 : decode cX10_allGo 67 = .ok (.getfield 39, 3) := dcw_180 (by decide +kernel)
theorem dX10_allGo_70 : decode cX10_allGo 70 = .ok (.iload_n 2, 1) := dc1_28 (by decide +kernel)
theorem dX10_allGo_71 : decode cX10_allGo 71 = .ok (.invokevirtual 206, 3) := dcw_182 (by decide +kernel)
theorem dX10_allGo_74 : decode cX10_allGo 74 = .ok (.istore_n 3, 1) := dc1_62 (by decide +kernel)
theorem dX10_allGo_75 : decode cX10_allGo 75 = .ok (.iload_n 3, 1) := dc1_29 (by decide +kernel)
theorem dX10_allGo_76 : decode cX10_allGo 76 = .ok (.bipush (-2), 2) := dcb_16 (n := 254) (by decide +kernel)
theorem dX10_allGo_78 : decode cX10_allGo 78 = .ok (.if_icmp .eq 17, 3) := dcs_159 (n := 17) (by decide +kernel)
theorem dX10_allGo_81 : decode cX10_allGo 81 = .ok (.aload_n 0, 1) := dc1_42 (by decide +kernel)
theorem dX10_allGo_82 : decode cX10_allGo 82 = .ok (.getfield 54, 3) := dcw_180 (by decide +kernel)
theorem dX10_allGo_85 : decode cX10_allGo 85 = .ok (.aload_n 0, 1) := dc1_42 (by decide +kernel)
theorem dX10_allGo_86 : decode cX10_allGo 86 = .ok (.getfield 39, 3) := dcw_180 (by decide +kernel)
theorem dX10_allGo_89 : decode cX10_allGo 89 = .ok (.iload_n 2, 1) := dc1_28 (by decide +kernel)
theorem dX10_allGo_90 : decode cX10_allGo 90 = .ok (.iload_n 3, 1) := dc1_29 (by decide +kernel)
theorem dX10_allGo_91 : decode cX10_allGo 91 = .ok (.invokevirtual 177, 3) := dcw_182 (by decide +kernel)
theorem dX10_allGo_94 : decode cX10_allGo 94 = .ok (.pop, 1) := dc1_87 (by decide +kernel)
theorem dX10_allGo_95 : decode cX10_allGo 95 = .ok (.iinc 2 1, 3) := dc_iinc (m := 1) (by decide +kernel)
theorem dX10_allGo_98 : decode cX10_allGo 98 = .ok (.goto (-74), 3) := dcs_167 (n := 65462) (by decide +kernel)
theorem dX10_allGo_101 : decode cX10_allGo 101 = .ok (.iload_n 1, 1) := dc1_27 (by decide +kernel)
theorem dX10_allGo_102 : decode cX10_allGo 102 = .ok (.iconst 2, 1) := dc1_5 (by decide +kernel)
theorem dX10_allGo_103 : decode cX10_allGo 103 = .ok (.if_icmp .ne 19, 3) := dcs_160 (n := 19) (by decide +kernel)
theorem dX10_allGo_106 : decode cX10_allGo 106 = .ok (.aload_n 0, 1) := dc1_42 (by decide +kernel)
theorem dX10_allGo_107 : decode cX10_allGo 107 = .ok (.getfield 39, 3) := dcw_180 (by decide +kernel)
theorem dX10_allGo_110 : decode cX10_allGo 110 = .ok (.getfield 241, 3) := dcw_180 (by decide +kernel)
theorem dX10_allGo_113 : decode cX10_allGo 113 = .ok (.aload_n 0, 1) := dc1_42 (by decide +kernel)
theorem dX10_allGo_114 : decode cX10_allGo 114 = .ok (.getfield 35, 3) := dcw_180 (by decide +kernel)
theorem dX10_allGo_117 : decode cX10_allGo 117 = .ok (.getfield 241, 3) := dcw_180 (by decide +kernel)
theorem dX10_allGo_120 : decode cX10_allGo 120 = .ok (.isub, 1) := dc1_100 (by decide +kernel)
theorem dX10_allGo_121 : decode cX10_allGo 121 = .ok (.ireturn, 1) := dc1_172 (by decide +kernel)
theorem dX10_allGo_122 : decode cX10_allGo 122 = .ok (.aload_n 0, 1) := dc1_42 (by decide +kernel)
theorem dX10_allGo_123 : decode cX10_allGo 123 = .ok (.aload_n 0, 1) := dc1_42 (by decide +kernel)
theorem dX10_allGo_124 : decode cX10_allGo 124 = .ok (.getfield 39, 3) := dcw_180 (by decide +kernel)
theorem dX10_allGo_127 : decode cX10_allGo 127 = .ok (.iload_n 1, 1) := dc1_27 (by decide +kernel)
theorem dX10_allGo_128 : decode cX10_allGo 128 = .ok (.ifCond .ne 7, 3) := dcs_154 (n := 7) (by decide +kernel)
theorem dX10_allGo_131 : decode cX10_allGo 131 = .ok (.iconst 2, 1) := dc1_5 (by decide +kernel)
theorem dX10_allGo_132 : decode cX10_allGo 132 = .ok (.goto 4, 3) := dcs_167 (n := 4) (by decide +kernel)
theorem dX10_allGo_135 : decode cX10_allGo 135 = .ok (.iconst 1, 1) := dc1_4 (by decide +kernel)
theorem dX10_allGo_136 : decode cX10_allGo 136 = .ok (.invokevirtual 244, 3) := dcw_182 (by decide +kernel)
theorem dX10_allGo_139 : decode cX10_allGo 139 = .ok (.invokestatic 247, 3) := dcw_184 (by decide +kernel)
theorem dX10_allGo_142 : decode cX10_allGo 142 = .ok (.ireturn, 1) := dc1_172 (by decide +kernel)
theorem LX10_likeliest_35 : Cond.fieldLink RX10 35 "GuessFerry" "now" "LGuessFerry$Standing;" ∈ wsX10_likeliest := (List.mem_cons_of_mem _ (List.mem_append_left _ (List.mem_append_left _ (List.mem_append_left _ (List.mem_append_left _ (List.mem_append_left _ (List.mem_append_left _ (List.mem_append_left _ (List.mem_of_getElem? (i := 1) rfl)))))))))
theorem LX10_likeliest_63 : Cond.fieldLink RX10 63 "GuessFerry" "outlook" "LGuessFerry$Outlook;" ∈ wsX10_likeliest := (List.mem_cons_of_mem _ (List.mem_append_left _ (List.mem_append_left _ (List.mem_append_left _ (List.mem_append_left _ (List.mem_append_left _ (List.mem_append_left _ (List.mem_append_left _ (List.mem_of_getElem? (i := 0) rfl)))))))))
theorem LX10_likeliest_E_X2_bestGuess : Cond.selects RX2 yX2_bestGuess yX2_bestGuess ∈ wsX10_likeliest := (List.mem_cons_of_mem _ (List.mem_append_left _ (List.mem_append_left _ (List.mem_append_left _ (List.mem_append_left _ (List.mem_append_left _ (List.mem_append_left _ (List.mem_append_left _ (List.mem_of_getElem? (i := 4) rfl)))))))))
theorem LX10_likeliest_I_X2 : Cond.initialized RX2 ∈ wsX10_likeliest := (List.mem_cons_of_mem _ (List.mem_append_left _ (List.mem_append_left _ (List.mem_append_left _ (List.mem_append_left _ (List.mem_append_left _ (List.mem_append_left _ (List.mem_append_left _ (List.mem_of_getElem? (i := 3) rfl)))))))))
theorem LX10_likeliest_N_X2_bestGuess : Cond.instanceMethod yX2_bestGuess ∈ wsX10_likeliest := (List.mem_cons_of_mem _ (List.mem_append_left _ (List.mem_append_left _ (List.mem_append_left _ (List.mem_append_left _ (List.mem_append_left _ (List.mem_append_left _ (List.mem_append_left _ (List.mem_of_getElem? (i := 2) rfl)))))))))
theorem inX10_likeliest_X10 : ∀ w ∈ u_ws RX10 TX10 9, w ∈ wsX10_likeliest := fun w h => (List.mem_cons_of_mem _ (List.mem_append_left _ (List.mem_append_left _ (List.mem_append_left _ (List.mem_append_left _ (List.mem_append_left _ (List.mem_append_right _ h)))))))
set_option maxHeartbeats 4000000 in
set_option maxRecDepth 100000 in
theorem bkX10_likeliest {l : Launch} {dC : Nat → ClassId} {dI : Nat → Nat → Nat} {cB cI cJ cZ cS : ClassId} {a b b2 c0 : Nat → Nat} {rg sl : Nat → Option Nat} {as : List Value} {r : Int32} {s' : XS} (s : XS) (hB : kX10_likeliest s = some (r, s')) : BlkI l yX10_likeliest wsX10_likeliest ({ frames := 6, cells := 0, slots := 0, locals := 152 }) cX10_likeliest 1 (some .int) (dC, dI) (tysA cB cI cJ cZ cS) as 0 (wX cB cI cJ cZ cS a b b2 c0 rg sl s) [(0, .ref (c0 0))] [] (fun x u => x = r ∧ u = (wX cB cI cJ cZ cS a b b2 c0 rg sl s')) := by
  intro p e s0 m below meth c A E H locs ls hP hD hS hl
  obtain ⟨C, hr, hlocks, hA, hK, hN⟩ := id E
  obtain ⟨hx, hb, hml, hown, hts⟩ := id C
  unfold kX10_likeliest at hB
  refine lv_aload_n hx hb dX10_likeliest_0 rfl (lv_at hl 0 rfl) ?_
  refine q_get (v := .ref (a 36)) C inX10_likeliest_X10 hK hP 0 rfl rfl 7 (by decide) rfl LX10_likeliest_63 rfl dX10_likeliest_1 ?_
  refine lv_aload_n hx hb dX10_likeliest_4 rfl (lv_at hl 0 rfl) ?_
  refine q_get (v := .ref (b 0)) C inX10_likeliest_X10 hK hP 0 rfl rfl 3 (by decide) rfl LX10_likeliest_35 rfl dX10_likeliest_5 ?_
  refine lv_iconst (v := (-1)) hx hb dX10_likeliest_8 (by decide) ?_
  obtain ⟨q_, s1, hc, hB⟩ := bindI_inv hB
  refine q_goi (wr := ((wG cZ cS a b b2 c0 rg sl s.g) ++ (wD cI b2 s.t))) (va_runVN (As := [.ref (b 0), .int (-1)]) (rest := []) C (ckX2_bestGuess hc _) ⟨va_cnB 2 hts gX10_likeliest_X2_bestGuess_n206 rfl rfl rfl (hN _ nwM_X10_206 rfl) (hts _ LX10_likeliest_I_X2) (by decide +kernel) ⟨Nat.le_of_ble_eq_true rfl, Nat.le_of_ble_eq_true rfl⟩, hts _ LX10_likeliest_N_X2_bestGuess, hts _ LX10_likeliest_E_X2_bestGuess⟩ (q_preV hK hP (ci := 2) (q0 := 53) rfl rfl rfl (q_pre hN hK hP hD [11, 12, 13, 14, 15, 16, 17, 18, 19, 20, 21, 22, 23, 24, 25, 26, 27, 28, 29, 30, 31, 32, 33, 34, 35, 36, 37, 38, 39, 40, 41, 42, 43, 44, 45, 46, 47, 48, 49, 50, 51, 52, 53, 54, 55, 56, 57, 58, 59, 60, 61, 62, 63] (by first | exact zqs_2X | rfl) zqn_2)) rfl rfl hl.1 rfl (lv_room (Nat.le_of_ble_eq_true rfl)) dX10_likeliest_9 ⟨Nat.le_of_ble_eq_true rfl, Nat.le_of_ble_eq_true rfl⟩) hP hD hS hA [11, 12, 13, 14, 15, 16, 17, 18, 19, 20, 21, 22, 23, 24, 25, 26, 27, 28, 29, 30, 31, 32, 33, 34, 35, 36, 37, 38, 39, 40, 41, 42, 43, 44, 45, 46, 47, 48, 49, 50, 51, 52, 53, 54, 55, 56, 57, 58, 59, 60, 61, 62, 63] [0, 1, 2, 3, 4, 5, 6, 7, 8, 9, 10] (by first | exact zqs_2X | rfl) (by first | exact zqs_3X | rfl) zqn_3 zqd_1 (fun r2 w1 H locs hw hP hD hS => ?_)
  obtain ⟨hq_, hw⟩ := hw; subst hw; subst hq_
  obtain ⟨s3, hs4, hB⟩ := letS_inv hB
  have hP : va_P (dC, dI) vwCl (wX cB cI cJ cZ cS a b b2 c0 rg sl s3) H := by subst hs4; exact hP
  have hD : va_D A (wX cB cI cJ cZ cS a b b2 c0 rg sl s3) := by subst hs4; exact hD
  exact q_iret C hr hlocks hK hP hD hS (Nat.le_of_ble_eq_true rfl) (Nat.le_of_ble_eq_true rfl) dX10_likeliest_12 (by cases hB; exact ⟨rfl, rfl⟩)
theorem ckX10_likeliest {l : Launch} {dC : Nat → ClassId} {dI : Nat → Nat → Nat} {cB cI cJ cZ cS : ClassId} {a b b2 c0 : Nat → Nat} {rg sl : Nat → Option Nat} {r : Int32} {s' : XS} {s : XS} (hB : kX10_likeliest s = some (r, s')) : CI l yX10_likeliest wsX10_likeliest ({ frames := 6, cells := 0, slots := 0, locals := 152 }) (dC, dI) (tysA cB cI cJ cZ cS) (wX cB cI cJ cZ cS a b b2 c0 rg sl s) [.ref (c0 0)] (fun x u => x = r ∧ u = (wX cB cI cJ cZ cS a b b2 c0 rg sl s')) :=
  CI_of (cc := cX10_likeliest) (maxL := 1) (ret := (some .int)) (by decide) rfl (Nat.le_of_ble_eq_true rfl) (bkX10_likeliest _ hB)
theorem LX10_safest_19 : Cond.fieldLink RX10 19 "GuessFerry" "sound" "LGuessFerry$Sound;" ∈ wsX10_safest := (List.mem_cons_of_mem _ (List.mem_append_left _ (List.mem_append_left _ (List.mem_append_left _ (List.mem_append_left _ (List.mem_append_left _ (List.mem_append_left _ (List.mem_append_left _ (List.mem_of_getElem? (i := 0) rfl)))))))))
theorem LX10_safest_35 : Cond.fieldLink RX10 35 "GuessFerry" "now" "LGuessFerry$Standing;" ∈ wsX10_safest := (List.mem_cons_of_mem _ (List.mem_append_left _ (List.mem_append_left _ (List.mem_append_left _ (List.mem_append_left _ (List.mem_append_left _ (List.mem_append_left _ (List.mem_append_left _ (List.mem_of_getElem? (i := 2) rfl)))))))))
theorem LX10_safest_63 : Cond.fieldLink RX10 63 "GuessFerry" "outlook" "LGuessFerry$Outlook;" ∈ wsX10_safest := (List.mem_cons_of_mem _ (List.mem_append_left _ (List.mem_append_left _ (List.mem_append_left _ (List.mem_append_left _ (List.mem_append_left _ (List.mem_append_left _ (List.mem_append_left _ (List.mem_of_getElem? (i := 1) rfl)))))))))
theorem LX10_safest_E_X2_bestGuess : Cond.selects RX2 yX2_bestGuess yX2_bestGuess ∈ wsX10_safest := (List.mem_cons_of_mem _ (List.mem_append_left _ (List.mem_append_left _ (List.mem_append_left _ (List.mem_append_left _ (List.mem_append_left _ (List.mem_append_left _ (List.mem_append_left _ (List.mem_of_getElem? (i := 8) rfl)))))))))
theorem LX10_safest_E_X5_hasParty : Cond.selects RX5 yX5_hasParty yX5_hasParty ∈ wsX10_safest := (List.mem_cons_of_mem _ (List.mem_append_left _ (List.mem_append_left _ (List.mem_append_left _ (List.mem_append_left _ (List.mem_append_left _ (List.mem_append_left _ (List.mem_append_left _ (List.mem_of_getElem? (i := 5) rfl)))))))))
theorem LX10_safest_I_X2 : Cond.initialized RX2 ∈ wsX10_safest := (List.mem_cons_of_mem _ (List.mem_append_left _ (List.mem_append_left _ (List.mem_append_left _ (List.mem_append_left _ (List.mem_append_left _ (List.mem_append_left _ (List.mem_append_left _ (List.mem_of_getElem? (i := 7) rfl)))))))))
theorem LX10_safest_I_X5 : Cond.initialized RX5 ∈ wsX10_safest := (List.mem_cons_of_mem _ (List.mem_append_left _ (List.mem_append_left _ (List.mem_append_left _ (List.mem_append_left _ (List.mem_append_left _ (List.mem_append_left _ (List.mem_append_left _ (List.mem_of_getElem? (i := 4) rfl)))))))))
theorem LX10_safest_N_X2_bestGuess : Cond.instanceMethod yX2_bestGuess ∈ wsX10_safest := (List.mem_cons_of_mem _ (List.mem_append_left _ (List.mem_append_left _ (List.mem_append_left _ (List.mem_append_left _ (List.mem_append_left _ (List.mem_append_left _ (List.mem_append_left _ (List.mem_of_getElem? (i := 6) rfl)))))))))
theorem LX10_safest_N_X5_hasParty : Cond.instanceMethod yX5_hasParty ∈ wsX10_safest := (List.mem_cons_of_mem _ (List.mem_append_left _ (List.mem_append_left _ (List.mem_append_left _ (List.mem_append_left _ (List.mem_append_left _ (List.mem_append_left _ (List.mem_append_left _ (List.mem_of_getElem? (i := 3) rfl)))))))))
theorem inX10_safest_X10 : ∀ w ∈ u_ws RX10 TX10 9, w ∈ wsX10_safest := fun w h => (List.mem_cons_of_mem _ (List.mem_append_left _ (List.mem_append_left _ (List.mem_append_left _ (List.mem_append_left _ (List.mem_append_left _ (List.mem_append_right _ h)))))))
set_option maxHeartbeats 4000000 in
set_option maxRecDepth 100000 in
theorem bkX10_safest {l : Launch} {dC : Nat → ClassId} {dI : Nat → Nat → Nat} {cB cI cJ cZ cS : ClassId} {a b b2 c0 : Nat → Nat} {rg sl : Nat → Option Nat} {as : List Value} {r : Int32} {s' : XS} (s : XS) (x1 : Int32) (hB : kX10_safest s x1 = some (r, s')) : BlkI l yX10_safest wsX10_safest ({ frames := 6, cells := 0, slots := 0, locals := 152 }) cX10_safest 2 (some .int) (dC, dI) (tysA cB cI cJ cZ cS) as 0 (wX cB cI cJ cZ cS a b b2 c0 rg sl s) [(0, .ref (c0 0)), (1, .int x1)] [] (fun x u => x = r ∧ u = (wX cB cI cJ cZ cS a b b2 c0 rg sl s')) := by
  intro p e s0 m below meth c A E H locs ls hP hD hS hl
  obtain ⟨C, hr, hlocks, hA, hK, hN⟩ := id E
  obtain ⟨hx, hb, hml, hown, hts⟩ := id C
  unfold kX10_safest at hB
  refine lv_aload_n hx hb dX10_safest_0 rfl (lv_at hl 0 rfl) ?_
  refine q_get (v := .ref (a 2)) C inX10_safest_X10 hK hP 0 rfl rfl 1 (by decide) rfl LX10_safest_19 rfl dX10_safest_1 ?_
  refine lv_iload_n hx hb dX10_safest_4 rfl (lv_at hl 1 rfl) ?_
  obtain ⟨q_, s1, hc, hB⟩ := bindI_inv hB
  refine q_goi (wr := ((wG cZ cS a b b2 c0 rg sl s.g) ++ (wD cI b2 s.t) ++ (wD cI b s.n))) (va_runVN (As := [.int x1]) (rest := []) C (ckX5_hasParty hc _) ⟨va_cnB 1 hts gX10_safest_X5_hasParty_n138 rfl rfl rfl (hN _ nwM_X10_138 rfl) (hts _ LX10_safest_I_X5) (by decide +kernel) ⟨Nat.le_of_ble_eq_true rfl, Nat.le_of_ble_eq_true rfl⟩, hts _ LX10_safest_N_X5_hasParty, hts _ LX10_safest_E_X5_hasParty⟩ (q_preV hK hP (ci := 5) (q0 := 19) rfl rfl rfl (q_pre hN hK hP hD [17, 18, 19, 20, 21, 22, 23, 24, 25, 26, 27, 28, 29, 30, 31, 32, 33, 34, 35, 36, 37, 38, 39, 40, 41, 42, 43, 44, 45, 46, 47, 48, 49, 50, 51, 52, 53, 54, 55, 56, 57, 58, 59, 60, 61, 62, 63] (by first | exact zqs_0X | rfl) zqn_0)) rfl rfl hl.1 rfl (lv_room (Nat.le_of_ble_eq_true rfl)) dX10_safest_5 ⟨Nat.le_of_ble_eq_true rfl, Nat.le_of_ble_eq_true rfl⟩) hP hD hS hA [17, 18, 19, 20, 21, 22, 23, 24, 25, 26, 27, 28, 29, 30, 31, 32, 33, 34, 35, 36, 37, 38, 39, 40, 41, 42, 43, 44, 45, 46, 47, 48, 49, 50, 51, 52, 53, 54, 55, 56, 57, 58, 59, 60, 61, 62, 63] [0, 1, 2, 3, 4, 5, 6, 7, 8, 9, 10, 11, 12, 13, 14, 15, 16] (by first | exact zqs_0X | rfl) (by first | exact zqs_1X | rfl) zqn_1 zqd_0 (fun r2 w1 H locs hw hP hD hS => ?_)
  obtain ⟨hq_, hw⟩ := hw; subst hw; subst hq_
  obtain ⟨s3, hs4, hB⟩ := letS_inv hB
  have hP : va_P (dC, dI) vwCl (wX cB cI cJ cZ cS a b b2 c0 rg sl s3) H := by subst hs4; exact hP
  have hD : va_D A (wX cB cI cJ cZ cS a b b2 c0 rg sl s3) := by subst hs4; exact hD
  refine lv_if_eq (tgt := 26) hx hb dX10_safest_8 (by decide) (fun c5 => ?_) (fun c5 => ?_)
  · have hB := if_p hB c5
    refine lv_iconst (v := (-1)) hx hb dX10_safest_26 (by decide) ?_
    exact q_iret C hr hlocks hK hP hD hS (Nat.le_of_ble_eq_true rfl) (Nat.le_of_ble_eq_true rfl) dX10_safest_27 (by cases hB; exact ⟨rfl, rfl⟩)
  · have hB := if_n hB c5
    refine lv_aload_n hx hb dX10_safest_11 rfl (lv_at hl 0 rfl) ?_
    refine q_get (v := .ref (a 36)) C inX10_safest_X10 hK hP 0 rfl rfl 7 (by decide) rfl LX10_safest_63 rfl dX10_safest_12 ?_
    refine lv_aload_n hx hb dX10_safest_15 rfl (lv_at hl 0 rfl) ?_
    refine q_get (v := .ref (b 0)) C inX10_safest_X10 hK hP 0 rfl rfl 3 (by decide) rfl LX10_safest_35 rfl dX10_safest_16 ?_
    refine lv_iload_n hx hb dX10_safest_19 rfl (lv_at hl 1 rfl) ?_
    obtain ⟨q_, s6, hc, hB⟩ := bindI_inv hB
    refine q_goi (wr := ((wG cZ cS a b b2 c0 rg sl s3.g) ++ (wD cI b2 s3.t))) (va_runVN (As := [.ref (b 0), .int x1]) (rest := []) C (ckX2_bestGuess hc _) ⟨va_cnB 2 hts gX10_safest_X2_bestGuess_n206 rfl rfl rfl (hN _ nwM_X10_206 rfl) (hts _ LX10_safest_I_X2) (by decide +kernel) ⟨Nat.le_of_ble_eq_true rfl, Nat.le_of_ble_eq_true rfl⟩, hts _ LX10_safest_N_X2_bestGuess, hts _ LX10_safest_E_X2_bestGuess⟩ (q_preV hK hP (ci := 2) (q0 := 53) rfl rfl rfl (q_pre hN hK hP hD [11, 12, 13, 14, 15, 16, 17, 18, 19, 20, 21, 22, 23, 24, 25, 26, 27, 28, 29, 30, 31, 32, 33, 34, 35, 36, 37, 38, 39, 40, 41, 42, 43, 44, 45, 46, 47, 48, 49, 50, 51, 52, 53, 54, 55, 56, 57, 58, 59, 60, 61, 62, 63] (by first | exact zqs_2X | rfl) zqn_2)) rfl rfl hl.1 rfl (lv_room (Nat.le_of_ble_eq_true rfl)) dX10_safest_20 ⟨Nat.le_of_ble_eq_true rfl, Nat.le_of_ble_eq_true rfl⟩) hP hD hS hA [11, 12, 13, 14, 15, 16, 17, 18, 19, 20, 21, 22, 23, 24, 25, 26, 27, 28, 29, 30, 31, 32, 33, 34, 35, 36, 37, 38, 39, 40, 41, 42, 43, 44, 45, 46, 47, 48, 49, 50, 51, 52, 53, 54, 55, 56, 57, 58, 59, 60, 61, 62, 63] [0, 1, 2, 3, 4, 5, 6, 7, 8, 9, 10] (by first | exact zqs_2X | rfl) (by first | exact zqs_3X | rfl) zqn_3 zqd_1 (fun r7 w1 H locs hw hP hD hS => ?_)
    obtain ⟨hq_, hw⟩ := hw; subst hw; subst hq_
    obtain ⟨s8, hs9, hB⟩ := letS_inv hB
    have hP : va_P (dC, dI) vwCl (wX cB cI cJ cZ cS a b b2 c0 rg sl s8) H := by subst hs9; exact hP
    have hD : va_D A (wX cB cI cJ cZ cS a b b2 c0 rg sl s8) := by subst hs9; exact hD
    refine lv_goto (tgt := 27) hx hb dX10_safest_23 (by decide) ?_
    exact q_iret C hr hlocks hK hP hD hS (Nat.le_of_ble_eq_true rfl) (Nat.le_of_ble_eq_true rfl) dX10_safest_27 (by cases hB; exact ⟨rfl, rfl⟩)
theorem ckX10_safest {l : Launch} {dC : Nat → ClassId} {dI : Nat → Nat → Nat} {cB cI cJ cZ cS : ClassId} {a b b2 c0 : Nat → Nat} {rg sl : Nat → Option Nat} {r : Int32} {s' : XS} {s : XS} {x1 : Int32} (hB : kX10_safest s x1 = some (r, s')) : CI l yX10_safest wsX10_safest ({ frames := 6, cells := 0, slots := 0, locals := 152 }) (dC, dI) (tysA cB cI cJ cZ cS) (wX cB cI cJ cZ cS a b b2 c0 rg sl s) [.ref (c0 0), .int x1] (fun x u => x = r ∧ u = (wX cB cI cJ cZ cS a b b2 c0 rg sl s')) :=
  CI_of (cc := cX10_safest) (maxL := 2) (ret := (some .int)) (by decide) rfl (Nat.le_of_ble_eq_true rfl) (bkX10_safest _ _ hB)
theorem LX10_stuck_19 : Cond.fieldLink RX10 19 "GuessFerry" "sound" "LGuessFerry$Sound;" ∈ wsX10_stuck := (List.mem_cons_of_mem _ (List.mem_append_left _ (List.mem_append_left _ (List.mem_append_left _ (List.mem_append_left _ (List.mem_append_left _ (List.mem_append_left _ (List.mem_append_left _ (List.mem_of_getElem? (i := 0) rfl)))))))))
theorem LX10_stuck_35 : Cond.fieldLink RX10 35 "GuessFerry" "now" "LGuessFerry$Standing;" ∈ wsX10_stuck := (List.mem_cons_of_mem _ (List.mem_append_left _ (List.mem_append_left _ (List.mem_append_left _ (List.mem_append_left _ (List.mem_append_left _ (List.mem_append_left _ (List.mem_append_left _ (List.mem_of_getElem? (i := 1) rfl)))))))))
theorem LX10_stuck_63 : Cond.fieldLink RX10 63 "GuessFerry" "outlook" "LGuessFerry$Outlook;" ∈ wsX10_stuck := (List.mem_cons_of_mem _ (List.mem_append_left _ (List.mem_append_left _ (List.mem_append_left _ (List.mem_append_left _ (List.mem_append_left _ (List.mem_append_left _ (List.mem_append_left _ (List.mem_of_getElem? (i := 2) rfl)))))))))
theorem LX10_stuck_E_X2_bestGuess : Cond.selects RX2 yX2_bestGuess yX2_bestGuess ∈ wsX10_stuck := (List.mem_cons_of_mem _ (List.mem_append_left _ (List.mem_append_left _ (List.mem_append_left _ (List.mem_append_left _ (List.mem_append_left _ (List.mem_append_left _ (List.mem_append_left _ (List.mem_of_getElem? (i := 5) rfl)))))))))
theorem LX10_stuck_I_X2 : Cond.initialized RX2 ∈ wsX10_stuck := (List.mem_cons_of_mem _ (List.mem_append_left _ (List.mem_append_left _ (List.mem_append_left _ (List.mem_append_left _ (List.mem_append_left _ (List.mem_append_left _ (List.mem_append_left _ (List.mem_of_getElem? (i := 4) rfl)))))))))
theorem LX10_stuck_N_X2_bestGuess : Cond.instanceMethod yX2_bestGuess ∈ wsX10_stuck := (List.mem_cons_of_mem _ (List.mem_append_left _ (List.mem_append_left _ (List.mem_append_left _ (List.mem_append_left _ (List.mem_append_left _ (List.mem_append_left _ (List.mem_append_left _ (List.mem_of_getElem? (i := 3) rfl)))))))))
theorem inX10_stuck_X10 : ∀ w ∈ u_ws RX10 TX10 9, w ∈ wsX10_stuck := fun w h => (List.mem_cons_of_mem _ (List.mem_append_left _ (List.mem_append_left _ (List.mem_append_left _ (List.mem_append_left _ (List.mem_append_left _ (List.mem_append_right _ h)))))))
theorem inX10_stuck_X5 : ∀ w ∈ u_ws RX5 TX5 10, w ∈ wsX10_stuck := fun w h => (List.mem_cons_of_mem _ (List.mem_append_left _ (List.mem_append_left _ (List.mem_append_left _ (List.mem_append_left _ (List.mem_append_right _ h))))))
theorem inX10_stuck_X6 : ∀ w ∈ u_ws RX6 TX6 7, w ∈ wsX10_stuck := fun w h => (List.mem_cons_of_mem _ (List.mem_append_left _ (List.mem_append_left _ (List.mem_append_left _ (List.mem_append_right _ h)))))
set_option maxHeartbeats 4000000 in
set_option maxRecDepth 100000 in
theorem bkX10_stuck_50 {l : Launch} {dC : Nat → ClassId} {dI : Nat → Nat → Nat} {cB cI cJ cZ cS : ClassId} {a b b2 c0 : Nat → Nat} {rg sl : Nat → Option Nat} {as : List Value} {r : Int32} {s' : XS} {k4 : XS → Int32 → Int32 → Option (Int32 × XS)} (hk4 : ∀ (s : XS) (x1 : Int32) (x2 : Int32), k4 s x1 x2 = some (r, s') → BlkI l yX10_stuck wsX10_stuck ({ frames := 6, cells := 0, slots := 0, locals := 152 }) cX10_stuck 3 (some .int) (dC, dI) (tysA cB cI cJ cZ cS) as 4 (wX cB cI cJ cZ cS a b b2 c0 rg sl s) [(0, .ref (c0 0)), (1, .int x1), (2, .int x2)] [] (fun x u => x = r ∧ u = (wX cB cI cJ cZ cS a b b2 c0 rg sl s'))) (s : XS) (x1 : Int32) (x2 : Int32) (hB : kX10_stuck_50 k4 s x1 x2 = some (r, s')) : BlkI l yX10_stuck wsX10_stuck ({ frames := 6, cells := 0, slots := 0, locals := 152 }) cX10_stuck 3 (some .int) (dC, dI) (tysA cB cI cJ cZ cS) as 50 (wX cB cI cJ cZ cS a b b2 c0 rg sl s) [(0, .ref (c0 0)), (1, .int x1), (2, .int x2)] [] (fun x u => x = r ∧ u = (wX cB cI cJ cZ cS a b b2 c0 rg sl s')) := by
  intro p e s0 m below meth c A E H locs ls hP hD hS hl
  obtain ⟨C, hr, hlocks, hA, hK, hN⟩ := id E
  obtain ⟨hx, hb, hml, hown, hts⟩ := id C
  unfold kX10_stuck_50 at hB
  refine lv_iinc (v := (x2 + 1)) (lv' := [(2, .int (x2 + 1)), (0, .ref (c0 0)), (1, .int x1)]) hx hb dX10_stuck_50 hl (k := 2) rfl (rfl) (by decide) rfl (fun ls hl => ?_)
  refine lv_goto (tgt := 4) hx hb dX10_stuck_53 (by decide) ?_
  exact hk4 _ _ _ hB p e s0 m below meth c A E H locs ls hP hD hS (lv_sub hl [1, 2, 0] rfl)
set_option maxHeartbeats 4000000 in
set_option maxRecDepth 100000 in
theorem bkX10_stuck_4 {l : Launch} {dC : Nat → ClassId} {dI : Nat → Nat → Nat} {cB cI cJ cZ cS : ClassId} {a b b2 c0 : Nat → Nat} {rg sl : Nat → Option Nat} {as : List Value} {r : Int32} {s' : XS} {k4 : XS → Int32 → Int32 → Option (Int32 × XS)} (hk4 : ∀ (s : XS) (x1 : Int32) (x2 : Int32), k4 s x1 x2 = some (r, s') → BlkI l yX10_stuck wsX10_stuck ({ frames := 6, cells := 0, slots := 0, locals := 152 }) cX10_stuck 3 (some .int) (dC, dI) (tysA cB cI cJ cZ cS) as 4 (wX cB cI cJ cZ cS a b b2 c0 rg sl s) [(0, .ref (c0 0)), (1, .int x1), (2, .int x2)] [] (fun x u => x = r ∧ u = (wX cB cI cJ cZ cS a b b2 c0 rg sl s'))) (s : XS) (x1 : Int32) (x2 : Int32) (hB : kX10_stuck_4 k4 s x1 x2 = some (r, s')) : BlkI l yX10_stuck wsX10_stuck ({ frames := 6, cells := 0, slots := 0, locals := 152 }) cX10_stuck 3 (some .int) (dC, dI) (tysA cB cI cJ cZ cS) as 4 (wX cB cI cJ cZ cS a b b2 c0 rg sl s) [(0, .ref (c0 0)), (1, .int x1), (2, .int x2)] [] (fun x u => x = r ∧ u = (wX cB cI cJ cZ cS a b b2 c0 rg sl s')) := by
  intro p e s0 m below meth c A E H locs ls hP hD hS hl
  obtain ⟨C, hr, hlocks, hA, hK, hN⟩ := id E
  obtain ⟨hx, hb, hml, hown, hts⟩ := id C
  unfold kX10_stuck_4 at hB
  refine lv_iload_n hx hb dX10_stuck_4 rfl (lv_at hl 2 rfl) ?_
  refine lv_aload_n hx hb dX10_stuck_5 rfl (lv_at hl 0 rfl) ?_
  refine q_get (v := .ref (a 2)) C inX10_stuck_X10 hK hP 0 rfl rfl 1 (by decide) rfl LX10_stuck_19 rfl dX10_stuck_6 ?_
  refine q_getN (v := .int (s.k.v 2)) C hN inX10_stuck_X5 hK hP 19 rfl rfl 7 (by decide) rfl nwF_X10_235 rfl dX10_stuck_9 ?_
  refine lv_icmp_ge (tgt := 56) hx hb dX10_stuck_12 (by decide) (fun c1 => ?_) (fun c1 => ?_)
  · have hB := if_p hB c1
    refine lv_iload_n hx hb dX10_stuck_56 rfl (lv_at hl 1 rfl) ?_
    exact q_iret C hr hlocks hK hP hD hS (Nat.le_of_ble_eq_true rfl) (Nat.le_of_ble_eq_true rfl) dX10_stuck_57 (by cases hB; exact ⟨rfl, rfl⟩)
  · have hB := if_n hB c1
    refine lv_aload_n hx hb dX10_stuck_15 rfl (lv_at hl 0 rfl) ?_
    refine q_get (v := .ref (b 0)) C inX10_stuck_X10 hK hP 0 rfl rfl 3 (by decide) rfl LX10_stuck_35 rfl dX10_stuck_16 ?_
    refine q_getN (v := .ref (b 4)) C hN inX10_stuck_X6 hK hP 11 rfl rfl 3 (by decide) rfl nwF_X10_147 rfl dX10_stuck_19 ?_
    refine lv_iload_n hx hb dX10_stuck_22 rfl (lv_at hl 2 rfl) ?_
    obtain ⟨g2, hB⟩ := guard_inv hB
    refine q_iald (x := ((s.n.f 3) (Int32.toNatClampNeg x2))) C hK hP 15 1 rfl rfl (vpb_in g2) dX10_stuck_23 rfl ?_
    refine lv_if_ne (tgt := 50) hx hb dX10_stuck_24 (by decide) (fun c3 => ?_) (fun c3 => ?_)
    · have hB := if_n hB c3
      exact bkX10_stuck_50 (hk4) _ _ _ hB p e s0 m below meth c A E H locs ls hP hD hS (lv_sub hl [0, 1, 2] rfl)
    · have hB := if_p hB c3
      refine lv_aload_n hx hb dX10_stuck_27 rfl (lv_at hl 0 rfl) ?_
      refine q_get (v := .ref (a 36)) C inX10_stuck_X10 hK hP 0 rfl rfl 7 (by decide) rfl LX10_stuck_63 rfl dX10_stuck_28 ?_
      refine lv_aload_n hx hb dX10_stuck_31 rfl (lv_at hl 0 rfl) ?_
      refine q_get (v := .ref (b 0)) C inX10_stuck_X10 hK hP 0 rfl rfl 3 (by decide) rfl LX10_stuck_35 rfl dX10_stuck_32 ?_
      refine lv_iload_n hx hb dX10_stuck_35 rfl (lv_at hl 2 rfl) ?_
      obtain ⟨q_, s4, hc, hB⟩ := bindI_inv hB
      refine q_goi (wr := ((wG cZ cS a b b2 c0 rg sl s.g) ++ (wD cI b2 s.t))) (va_runVN (As := [.ref (b 0), .int x2]) (rest := []) C (ckX2_bestGuess hc _) ⟨va_cnB 2 hts gX10_stuck_X2_bestGuess_n206 rfl rfl rfl (hN _ nwM_X10_206 rfl) (hts _ LX10_stuck_I_X2) (by decide +kernel) ⟨Nat.le_of_ble_eq_true rfl, Nat.le_of_ble_eq_true rfl⟩, hts _ LX10_stuck_N_X2_bestGuess, hts _ LX10_stuck_E_X2_bestGuess⟩ (q_preV hK hP (ci := 2) (q0 := 53) rfl rfl rfl (q_pre hN hK hP hD [11, 12, 13, 14, 15, 16, 17, 18, 19, 20, 21, 22, 23, 24, 25, 26, 27, 28, 29, 30, 31, 32, 33, 34, 35, 36, 37, 38, 39, 40, 41, 42, 43, 44, 45, 46, 47, 48, 49, 50, 51, 52, 53, 54, 55, 56, 57, 58, 59, 60, 61, 62, 63] (by first | exact zqs_2X | rfl) zqn_2)) rfl rfl hl.1 rfl (lv_room (Nat.le_of_ble_eq_true rfl)) dX10_stuck_36 ⟨Nat.le_of_ble_eq_true rfl, Nat.le_of_ble_eq_true rfl⟩) hP hD hS hA [11, 12, 13, 14, 15, 16, 17, 18, 19, 20, 21, 22, 23, 24, 25, 26, 27, 28, 29, 30, 31, 32, 33, 34, 35, 36, 37, 38, 39, 40, 41, 42, 43, 44, 45, 46, 47, 48, 49, 50, 51, 52, 53, 54, 55, 56, 57, 58, 59, 60, 61, 62, 63] [0, 1, 2, 3, 4, 5, 6, 7, 8, 9, 10] (by first | exact zqs_2X | rfl) (by first | exact zqs_3X | rfl) zqn_3 zqd_1 (fun r5 w1 H locs hw hP hD hS => ?_)
      obtain ⟨hq_, hw⟩ := hw; subst hw; subst hq_
      obtain ⟨s6, hs7, hB⟩ := letS_inv hB
      have hP : va_P (dC, dI) vwCl (wX cB cI cJ cZ cS a b b2 c0 rg sl s6) H := by subst hs7; exact hP
      have hD : va_D A (wX cB cI cJ cZ cS a b b2 c0 rg sl s6) := by subst hs7; exact hD
      refine lv_bipush (v := (-2)) hx hb dX10_stuck_39 (by decide) ?_
      refine lv_icmp_ne (tgt := 50) hx hb dX10_stuck_41 (by decide) (fun c8 => ?_) (fun c8 => ?_)
      · have hB := if_n hB c8
        exact bkX10_stuck_50 (hk4) _ _ _ hB p e s0 m below meth c A E H locs ls hP hD hS (lv_sub hl [0, 1, 2] rfl)
      · have hB := if_p hB c8
        refine lv_iload_n hx hb dX10_stuck_44 rfl (lv_at hl 1 rfl) ?_
        refine lv_iconst (v := 1) hx hb dX10_stuck_45 (by decide) ?_
        refine lv_iload_n hx hb dX10_stuck_46 rfl (lv_at hl 2 rfl) ?_
        refine lv_ishl hx hb dX10_stuck_47 ?_
        refine lv_ior hx hb dX10_stuck_48 ?_
        refine lv_istore_n (lv' := [(1, .int (x1 ||| (1 <<< (x2 &&& 31)))), (0, .ref (c0 0)), (2, .int x2)]) hx hb dX10_stuck_49 rfl hl (by decide) rfl (fun ls hl => ?_)
        exact bkX10_stuck_50 (hk4) _ _ _ hB p e s0 m below meth c A E H locs ls hP hD hS (lv_sub hl [1, 0, 2] rfl)
theorem bkX10_stuck_4L {l : Launch} {dC : Nat → ClassId} {dI : Nat → Nat → Nat} {cB cI cJ cZ cS : ClassId} {a b b2 c0 : Nat → Nat} {rg sl : Nat → Option Nat} {as : List Value} {r : Int32} {s' : XS} : ∀ (n : Nat) (s : XS) (x1 : Int32) (x2 : Int32), kX10_stuck_4L n s x1 x2 = some (r, s') → BlkI l yX10_stuck wsX10_stuck ({ frames := 6, cells := 0, slots := 0, locals := 152 }) cX10_stuck 3 (some .int) (dC, dI) (tysA cB cI cJ cZ cS) as 4 (wX cB cI cJ cZ cS a b b2 c0 rg sl s) [(0, .ref (c0 0)), (1, .int x1), (2, .int x2)] [] (fun x u => x = r ∧ u = (wX cB cI cJ cZ cS a b b2 c0 rg sl s')) := by
  intro n
  induction n with
  | zero => intro s x1 x2 hB; exact none_ne hB
  | succ n ih => intro s x1 x2 hB; exact bkX10_stuck_4 ih _ _ _ hB
set_option maxHeartbeats 4000000 in
set_option maxRecDepth 100000 in
theorem bkX10_stuck {l : Launch} {dC : Nat → ClassId} {dI : Nat → Nat → Nat} {cB cI cJ cZ cS : ClassId} {a b b2 c0 : Nat → Nat} {rg sl : Nat → Option Nat} {as : List Value} {r : Int32} {s' : XS} (s : XS) (hB : kX10_stuck s = some (r, s')) : BlkI l yX10_stuck wsX10_stuck ({ frames := 6, cells := 0, slots := 0, locals := 152 }) cX10_stuck 3 (some .int) (dC, dI) (tysA cB cI cJ cZ cS) as 0 (wX cB cI cJ cZ cS a b b2 c0 rg sl s) [(0, .ref (c0 0))] [] (fun x u => x = r ∧ u = (wX cB cI cJ cZ cS a b b2 c0 rg sl s')) := by
  intro p e s0 m below meth c A E H locs ls hP hD hS hl
  obtain ⟨C, hr, hlocks, hA, hK, hN⟩ := id E
  obtain ⟨hx, hb, hml, hown, hts⟩ := id C
  unfold kX10_stuck at hB
  refine lv_iconst (v := 0) hx hb dX10_stuck_0 (by decide) ?_
  refine lv_istore_n (lv' := [(1, .int 0), (0, .ref (c0 0))]) hx hb dX10_stuck_1 rfl hl (by decide) rfl (fun ls hl => ?_)
  refine lv_iconst (v := 0) hx hb dX10_stuck_2 (by decide) ?_
  refine lv_istore_n (lv' := [(2, .int 0), (1, .int 0), (0, .ref (c0 0))]) hx hb dX10_stuck_3 rfl hl (by decide) rfl (fun ls hl => ?_)
  exact bkX10_stuck_4L fu _ _ _ hB p e s0 m below meth c A E H locs ls hP hD hS (lv_sub hl [2, 1, 0] rfl)
theorem ckX10_stuck {l : Launch} {dC : Nat → ClassId} {dI : Nat → Nat → Nat} {cB cI cJ cZ cS : ClassId} {a b b2 c0 : Nat → Nat} {rg sl : Nat → Option Nat} {r : Int32} {s' : XS} {s : XS} (hB : kX10_stuck s = some (r, s')) : CI l yX10_stuck wsX10_stuck ({ frames := 6, cells := 0, slots := 0, locals := 152 }) (dC, dI) (tysA cB cI cJ cZ cS) (wX cB cI cJ cZ cS a b b2 c0 rg sl s) [.ref (c0 0)] (fun x u => x = r ∧ u = (wX cB cI cJ cZ cS a b b2 c0 rg sl s')) :=
  CI_of (cc := cX10_stuck) (maxL := 3) (ret := (some .int)) (by decide) rfl (Nat.le_of_ble_eq_true rfl) (bkX10_stuck _ hB)
theorem LX10_chosen_19 : Cond.fieldLink RX10 19 "GuessFerry" "sound" "LGuessFerry$Sound;" ∈ wsX10_chosen := (List.mem_cons_of_mem _ (List.mem_append_left _ (List.mem_append_left _ (List.mem_append_left _ (List.mem_append_left _ (List.mem_append_left _ (List.mem_append_left _ (List.mem_append_left _ (List.mem_of_getElem? (i := 0) rfl)))))))))
theorem LX10_chosen_35 : Cond.fieldLink RX10 35 "GuessFerry" "now" "LGuessFerry$Standing;" ∈ wsX10_chosen := (List.mem_cons_of_mem _ (List.mem_append_left _ (List.mem_append_left _ (List.mem_append_left _ (List.mem_append_left _ (List.mem_append_left _ (List.mem_append_left _ (List.mem_append_left _ (List.mem_of_getElem? (i := 1) rfl)))))))))
theorem LX10_chosen_63 : Cond.fieldLink RX10 63 "GuessFerry" "outlook" "LGuessFerry$Outlook;" ∈ wsX10_chosen := (List.mem_cons_of_mem _ (List.mem_append_left _ (List.mem_append_left _ (List.mem_append_left _ (List.mem_append_left _ (List.mem_append_left _ (List.mem_append_left _ (List.mem_append_left _ (List.mem_of_getElem? (i := 2) rfl)))))))))
theorem LX10_chosen_E_X2_bestGuess : Cond.selects RX2 yX2_bestGuess yX2_bestGuess ∈ wsX10_chosen := (List.mem_cons_of_mem _ (List.mem_append_left _ (List.mem_append_left _ (List.mem_append_left _ (List.mem_append_left _ (List.mem_append_left _ (List.mem_append_left _ (List.mem_append_left _ (List.mem_of_getElem? (i := 5) rfl)))))))))
theorem LX10_chosen_E_X2_oddsOf : Cond.selects RX2 yX2_oddsOf yX2_oddsOf ∈ wsX10_chosen := (List.mem_cons_of_mem _ (List.mem_append_left _ (List.mem_append_left _ (List.mem_append_left _ (List.mem_append_left _ (List.mem_append_left _ (List.mem_append_left _ (List.mem_append_left _ (List.mem_of_getElem? (i := 7) rfl)))))))))
theorem LX10_chosen_I_X2 : Cond.initialized RX2 ∈ wsX10_chosen := (List.mem_cons_of_mem _ (List.mem_append_left _ (List.mem_append_left _ (List.mem_append_left _ (List.mem_append_left _ (List.mem_append_left _ (List.mem_append_left _ (List.mem_append_left _ (List.mem_of_getElem? (i := 4) rfl)))))))))
theorem LX10_chosen_N_X2_bestGuess : Cond.instanceMethod yX2_bestGuess ∈ wsX10_chosen := (List.mem_cons_of_mem _ (List.mem_append_left _ (List.mem_append_left _ (List.mem_append_left _ (List.mem_append_left _ (List.mem_append_left _ (List.mem_append_left _ (List.mem_append_left _ (List.mem_of_getElem? (i := 3) rfl)))))))))
theorem LX10_chosen_N_X2_oddsOf : Cond.instanceMethod yX2_oddsOf ∈ wsX10_chosen := (List.mem_cons_of_mem _ (List.mem_append_left _ (List.mem_append_left _ (List.mem_append_left _ (List.mem_append_left _ (List.mem_append_left _ (List.mem_append_left _ (List.mem_append_left _ (List.mem_of_getElem? (i := 6) rfl)))))))))
theorem inX10_chosen_X10 : ∀ w ∈ u_ws RX10 TX10 9, w ∈ wsX10_chosen := fun w h => (List.mem_cons_of_mem _ (List.mem_append_left _ (List.mem_append_left _ (List.mem_append_left _ (List.mem_append_left _ (List.mem_append_left _ (List.mem_append_right _ h)))))))
theorem inX10_chosen_X5 : ∀ w ∈ u_ws RX5 TX5 10, w ∈ wsX10_chosen := fun w h => (List.mem_cons_of_mem _ (List.mem_append_left _ (List.mem_append_left _ (List.mem_append_left _ (List.mem_append_left _ (List.mem_append_right _ h))))))
theorem inX10_chosen_X6 : ∀ w ∈ u_ws RX6 TX6 7, w ∈ wsX10_chosen := fun w h => (List.mem_cons_of_mem _ (List.mem_append_left _ (List.mem_append_left _ (List.mem_append_left _ (List.mem_append_right _ h)))))
set_option maxHeartbeats 4000000 in
set_option maxRecDepth 100000 in
theorem bkX10_chosen_86 {l : Launch} {dC : Nat → ClassId} {dI : Nat → Nat → Nat} {cB cI cJ cZ cS : ClassId} {a b b2 c0 : Nat → Nat} {rg sl : Nat → Option Nat} {as : List Value} {r : Int32} {s' : XS} {k7 : XS → Int32 → Int32 → Int32 → Option (Int32 × XS)} (hk7 : ∀ (s : XS) (x1 : Int32) (x2 : Int32) (x3 : Int32), k7 s x1 x2 x3 = some (r, s') → BlkI l yX10_chosen wsX10_chosen ({ frames := 6, cells := 0, slots := 0, locals := 152 }) cX10_chosen 6 (some .int) (dC, dI) (tysA cB cI cJ cZ cS) as 7 (wX cB cI cJ cZ cS a b b2 c0 rg sl s) [(0, .ref (c0 0)), (1, .int x1), (2, .int x2), (3, .int x3)] [] (fun x u => x = r ∧ u = (wX cB cI cJ cZ cS a b b2 c0 rg sl s'))) (s : XS) (x1 : Int32) (x2 : Int32) (x3 : Int32) (hB : kX10_chosen_86 k7 s x1 x2 x3 = some (r, s')) : BlkI l yX10_chosen wsX10_chosen ({ frames := 6, cells := 0, slots := 0, locals := 152 }) cX10_chosen 6 (some .int) (dC, dI) (tysA cB cI cJ cZ cS) as 86 (wX cB cI cJ cZ cS a b b2 c0 rg sl s) [(0, .ref (c0 0)), (1, .int x1), (2, .int x2), (3, .int x3)] [] (fun x u => x = r ∧ u = (wX cB cI cJ cZ cS a b b2 c0 rg sl s')) := by
  intro p e s0 m below meth c A E H locs ls hP hD hS hl
  obtain ⟨C, hr, hlocks, hA, hK, hN⟩ := id E
  obtain ⟨hx, hb, hml, hown, hts⟩ := id C
  unfold kX10_chosen_86 at hB
  refine lv_iinc (v := (x3 + 1)) (lv' := [(3, .int (x3 + 1)), (0, .ref (c0 0)), (1, .int x1), (2, .int x2)]) hx hb dX10_chosen_86 hl (k := 3) rfl (rfl) (by decide) rfl (fun ls hl => ?_)
  refine lv_goto (tgt := 7) hx hb dX10_chosen_89 (by decide) ?_
  exact hk7 _ _ _ _ hB p e s0 m below meth c A E H locs ls hP hD hS (lv_sub hl [1, 2, 3, 0] rfl)
set_option maxHeartbeats 4000000 in
set_option maxRecDepth 100000 in
theorem bkX10_chosen_73 {l : Launch} {dC : Nat → ClassId} {dI : Nat → Nat → Nat} {cB cI cJ cZ cS : ClassId} {a b b2 c0 : Nat → Nat} {rg sl : Nat → Option Nat} {as : List Value} {r : Int32} {s' : XS} {k7 : XS → Int32 → Int32 → Int32 → Option (Int32 × XS)} (hk7 : ∀ (s : XS) (x1 : Int32) (x2 : Int32) (x3 : Int32), k7 s x1 x2 x3 = some (r, s') → BlkI l yX10_chosen wsX10_chosen ({ frames := 6, cells := 0, slots := 0, locals := 152 }) cX10_chosen 6 (some .int) (dC, dI) (tysA cB cI cJ cZ cS) as 7 (wX cB cI cJ cZ cS a b b2 c0 rg sl s) [(0, .ref (c0 0)), (1, .int x1), (2, .int x2), (3, .int x3)] [] (fun x u => x = r ∧ u = (wX cB cI cJ cZ cS a b b2 c0 rg sl s'))) (s : XS) (x1 : Int32) (x2 : Int32) (x3 : Int32) (t0 : Int32) (hB : kX10_chosen_73 k7 s x1 x2 x3 t0 = some (r, s')) : BlkI l yX10_chosen wsX10_chosen ({ frames := 6, cells := 0, slots := 0, locals := 152 }) cX10_chosen 6 (some .int) (dC, dI) (tysA cB cI cJ cZ cS) as 73 (wX cB cI cJ cZ cS a b b2 c0 rg sl s) [(0, .ref (c0 0)), (1, .int x1), (2, .int x2), (3, .int x3)] [.int t0] (fun x u => x = r ∧ u = (wX cB cI cJ cZ cS a b b2 c0 rg sl s')) := by
  intro p e s0 m below meth c A E H locs ls hP hD hS hl
  obtain ⟨C, hr, hlocks, hA, hK, hN⟩ := id E
  obtain ⟨hx, hb, hml, hown, hts⟩ := id C
  unfold kX10_chosen_73 at hB
  refine lv_istore (lv' := [(5, .int t0), (0, .ref (c0 0)), (1, .int x1), (2, .int x2), (3, .int x3)]) hx hb dX10_chosen_73 hl (by decide) rfl (fun ls hl => ?_)
  refine lv_iload hx hb dX10_chosen_75 (lv_at hl 0 rfl) ?_
  refine lv_iload_n hx hb dX10_chosen_77 rfl (lv_at hl 3 rfl) ?_
  refine lv_icmp_le (tgt := 86) hx hb dX10_chosen_78 (by decide) (fun c1 => ?_) (fun c1 => ?_)
  · have hB := if_p hB c1
    exact bkX10_chosen_86 (hk7) _ _ _ _ hB p e s0 m below meth c A E H locs ls hP hD hS (lv_sub hl [1, 2, 3, 4] rfl)
  · have hB := if_n hB c1
    refine lv_iload hx hb dX10_chosen_81 (lv_at hl 0 rfl) ?_
    refine lv_istore_n (lv' := [(2, .int t0), (5, .int t0), (0, .ref (c0 0)), (1, .int x1), (3, .int x3)]) hx hb dX10_chosen_83 rfl hl (by decide) rfl (fun ls hl => ?_)
    refine lv_iload_n hx hb dX10_chosen_84 rfl (lv_at hl 4 rfl) ?_
    refine lv_istore_n (lv' := [(1, .int x3), (2, .int t0), (5, .int t0), (0, .ref (c0 0)), (3, .int x3)]) hx hb dX10_chosen_85 rfl hl (by decide) rfl (fun ls hl => ?_)
    exact bkX10_chosen_86 (hk7) _ _ _ _ hB p e s0 m below meth c A E H locs ls hP hD hS (lv_sub hl [3, 0, 1, 4] rfl)
set_option maxHeartbeats 4000000 in
set_option maxRecDepth 100000 in
theorem bkX10_chosen_47 {l : Launch} {dC : Nat → ClassId} {dI : Nat → Nat → Nat} {cB cI cJ cZ cS : ClassId} {a b b2 c0 : Nat → Nat} {rg sl : Nat → Option Nat} {as : List Value} {r : Int32} {s' : XS} {k7 : XS → Int32 → Int32 → Int32 → Option (Int32 × XS)} (hk7 : ∀ (s : XS) (x1 : Int32) (x2 : Int32) (x3 : Int32), k7 s x1 x2 x3 = some (r, s') → BlkI l yX10_chosen wsX10_chosen ({ frames := 6, cells := 0, slots := 0, locals := 152 }) cX10_chosen 6 (some .int) (dC, dI) (tysA cB cI cJ cZ cS) as 7 (wX cB cI cJ cZ cS a b b2 c0 rg sl s) [(0, .ref (c0 0)), (1, .int x1), (2, .int x2), (3, .int x3)] [] (fun x u => x = r ∧ u = (wX cB cI cJ cZ cS a b b2 c0 rg sl s'))) (s : XS) (x1 : Int32) (x2 : Int32) (x3 : Int32) (t0 : Int32) (hB : kX10_chosen_47 k7 s x1 x2 x3 t0 = some (r, s')) : BlkI l yX10_chosen wsX10_chosen ({ frames := 6, cells := 0, slots := 0, locals := 152 }) cX10_chosen 6 (some .int) (dC, dI) (tysA cB cI cJ cZ cS) as 47 (wX cB cI cJ cZ cS a b b2 c0 rg sl s) [(0, .ref (c0 0)), (1, .int x1), (2, .int x2), (3, .int x3)] [.int t0] (fun x u => x = r ∧ u = (wX cB cI cJ cZ cS a b b2 c0 rg sl s')) := by
  intro p e s0 m below meth c A E H locs ls hP hD hS hl
  obtain ⟨C, hr, hlocks, hA, hK, hN⟩ := id E
  obtain ⟨hx, hb, hml, hown, hts⟩ := id C
  unfold kX10_chosen_47 at hB
  refine lv_istore (lv' := [(4, .int t0), (0, .ref (c0 0)), (1, .int x1), (2, .int x2), (3, .int x3)]) hx hb dX10_chosen_47 hl (by decide) rfl (fun ls hl => ?_)
  refine lv_iload hx hb dX10_chosen_49 (lv_at hl 0 rfl) ?_
  refine lv_bipush (v := (-2)) hx hb dX10_chosen_51 (by decide) ?_
  refine lv_icmp_ne (tgt := 60) hx hb dX10_chosen_53 (by decide) (fun c1 => ?_) (fun c1 => ?_)
  · have hB := if_n hB c1
    refine lv_aload_n hx hb dX10_chosen_60 rfl (lv_at hl 1 rfl) ?_
    refine q_get (v := .ref (a 36)) C inX10_chosen_X10 hK hP 0 rfl rfl 7 (by decide) rfl LX10_chosen_63 rfl dX10_chosen_61 ?_
    refine lv_aload_n hx hb dX10_chosen_64 rfl (lv_at hl 1 rfl) ?_
    refine q_get (v := .ref (b 0)) C inX10_chosen_X10 hK hP 0 rfl rfl 3 (by decide) rfl LX10_chosen_35 rfl dX10_chosen_65 ?_
    refine lv_iload hx hb dX10_chosen_68 (lv_at hl 0 rfl) ?_
    obtain ⟨q_, s2, hc, hB⟩ := bindI_inv hB
    refine q_goi (wr := ((wG cZ cS a b b2 c0 rg sl s.g) ++ (wD cI b2 s.t))) (va_runVN (As := [.ref (b 0), .int t0]) (rest := []) C (ckX2_oddsOf hc _) ⟨va_cnB 2 hts gX10_chosen_X2_oddsOf_n200 rfl rfl rfl (hN _ nwM_X10_200 rfl) (hts _ LX10_chosen_I_X2) (by decide +kernel) ⟨Nat.le_of_ble_eq_true rfl, Nat.le_of_ble_eq_true rfl⟩, hts _ LX10_chosen_N_X2_oddsOf, hts _ LX10_chosen_E_X2_oddsOf⟩ (q_preV hK hP (ci := 2) (q0 := 53) rfl rfl rfl (q_pre hN hK hP hD [11, 12, 13, 14, 15, 16, 17, 18, 19, 20, 21, 22, 23, 24, 25, 26, 27, 28, 29, 30, 31, 32, 33, 34, 35, 36, 37, 38, 39, 40, 41, 42, 43, 44, 45, 46, 47, 48, 49, 50, 51, 52, 53, 54, 55, 56, 57, 58, 59, 60, 61, 62, 63] (by first | exact zqs_2X | rfl) zqn_2)) rfl rfl hl.1 rfl (lv_room (Nat.le_of_ble_eq_true rfl)) dX10_chosen_70 ⟨Nat.le_of_ble_eq_true rfl, Nat.le_of_ble_eq_true rfl⟩) hP hD hS hA [11, 12, 13, 14, 15, 16, 17, 18, 19, 20, 21, 22, 23, 24, 25, 26, 27, 28, 29, 30, 31, 32, 33, 34, 35, 36, 37, 38, 39, 40, 41, 42, 43, 44, 45, 46, 47, 48, 49, 50, 51, 52, 53, 54, 55, 56, 57, 58, 59, 60, 61, 62, 63] [0, 1, 2, 3, 4, 5, 6, 7, 8, 9, 10] (by first | exact zqs_2X | rfl) (by first | exact zqs_3X | rfl) zqn_3 zqd_1 (fun r3 w1 H locs hw hP hD hS => ?_)
    obtain ⟨hq_, hw⟩ := hw; subst hw; subst hq_
    obtain ⟨s4, hs5, hB⟩ := letS_inv hB
    have hP : va_P (dC, dI) vwCl (wX cB cI cJ cZ cS a b b2 c0 rg sl s4) H := by subst hs5; exact hP
    have hD : va_D A (wX cB cI cJ cZ cS a b b2 c0 rg sl s4) := by subst hs5; exact hD
    exact bkX10_chosen_73 (hk7) _ _ _ _ _ hB p e s0 m below meth c A E H locs ls hP hD hS (lv_sub hl [1, 2, 3, 4] rfl)
  · have hB := if_p hB c1
    refine lv_iconst (v := 0) hx hb dX10_chosen_56 (by decide) ?_
    refine lv_goto (tgt := 73) hx hb dX10_chosen_57 (by decide) ?_
    exact bkX10_chosen_73 (hk7) _ _ _ _ _ hB p e s0 m below meth c A E H locs ls hP hD hS (lv_sub hl [1, 2, 3, 4] rfl)
set_option maxHeartbeats 4000000 in
set_option maxRecDepth 100000 in
theorem bkX10_chosen_7 {l : Launch} {dC : Nat → ClassId} {dI : Nat → Nat → Nat} {cB cI cJ cZ cS : ClassId} {a b b2 c0 : Nat → Nat} {rg sl : Nat → Option Nat} {as : List Value} {r : Int32} {s' : XS} {k7 : XS → Int32 → Int32 → Int32 → Option (Int32 × XS)} (hk7 : ∀ (s : XS) (x1 : Int32) (x2 : Int32) (x3 : Int32), k7 s x1 x2 x3 = some (r, s') → BlkI l yX10_chosen wsX10_chosen ({ frames := 6, cells := 0, slots := 0, locals := 152 }) cX10_chosen 6 (some .int) (dC, dI) (tysA cB cI cJ cZ cS) as 7 (wX cB cI cJ cZ cS a b b2 c0 rg sl s) [(0, .ref (c0 0)), (1, .int x1), (2, .int x2), (3, .int x3)] [] (fun x u => x = r ∧ u = (wX cB cI cJ cZ cS a b b2 c0 rg sl s'))) (s : XS) (x1 : Int32) (x2 : Int32) (x3 : Int32) (hB : kX10_chosen_7 k7 s x1 x2 x3 = some (r, s')) : BlkI l yX10_chosen wsX10_chosen ({ frames := 6, cells := 0, slots := 0, locals := 152 }) cX10_chosen 6 (some .int) (dC, dI) (tysA cB cI cJ cZ cS) as 7 (wX cB cI cJ cZ cS a b b2 c0 rg sl s) [(0, .ref (c0 0)), (1, .int x1), (2, .int x2), (3, .int x3)] [] (fun x u => x = r ∧ u = (wX cB cI cJ cZ cS a b b2 c0 rg sl s')) := by
  intro p e s0 m below meth c A E H locs ls hP hD hS hl
  obtain ⟨C, hr, hlocks, hA, hK, hN⟩ := id E
  obtain ⟨hx, hb, hml, hown, hts⟩ := id C
  unfold kX10_chosen_7 at hB
  refine lv_iload_n hx hb dX10_chosen_7 rfl (lv_at hl 3 rfl) ?_
  refine lv_aload_n hx hb dX10_chosen_8 rfl (lv_at hl 0 rfl) ?_
  refine q_get (v := .ref (a 2)) C inX10_chosen_X10 hK hP 0 rfl rfl 1 (by decide) rfl LX10_chosen_19 rfl dX10_chosen_9 ?_
  refine q_getN (v := .int (s.k.v 2)) C hN inX10_chosen_X5 hK hP 19 rfl rfl 7 (by decide) rfl nwF_X10_235 rfl dX10_chosen_12 ?_
  refine lv_icmp_ge (tgt := 92) hx hb dX10_chosen_15 (by decide) (fun c1 => ?_) (fun c1 => ?_)
  · have hB := if_p hB c1
    refine lv_iload_n hx hb dX10_chosen_92 rfl (lv_at hl 1 rfl) ?_
    exact q_iret C hr hlocks hK hP hD hS (Nat.le_of_ble_eq_true rfl) (Nat.le_of_ble_eq_true rfl) dX10_chosen_93 (by cases hB; exact ⟨rfl, rfl⟩)
  · have hB := if_n hB c1
    refine lv_aload_n hx hb dX10_chosen_18 rfl (lv_at hl 0 rfl) ?_
    refine q_get (v := .ref (b 0)) C inX10_chosen_X10 hK hP 0 rfl rfl 3 (by decide) rfl LX10_chosen_35 rfl dX10_chosen_19 ?_
    refine q_getN (v := .ref (b 4)) C hN inX10_chosen_X6 hK hP 11 rfl rfl 3 (by decide) rfl nwF_X10_147 rfl dX10_chosen_22 ?_
    refine lv_iload_n hx hb dX10_chosen_25 rfl (lv_at hl 3 rfl) ?_
    obtain ⟨g2, hB⟩ := guard_inv hB
    refine q_iald (x := ((s.n.f 3) (Int32.toNatClampNeg x3))) C hK hP 15 1 rfl rfl (vpb_in g2) dX10_chosen_26 rfl ?_
    refine lv_if_ne (tgt := 45) hx hb dX10_chosen_27 (by decide) (fun c3 => ?_) (fun c3 => ?_)
    · have hB := if_n hB c3
      refine lv_bipush (v := (-2)) hx hb dX10_chosen_45 (by decide) ?_
      exact bkX10_chosen_47 (hk7) _ _ _ _ _ hB p e s0 m below meth c A E H locs ls hP hD hS (lv_sub hl [0, 1, 2, 3] rfl)
    · have hB := if_p hB c3
      refine lv_aload_n hx hb dX10_chosen_30 rfl (lv_at hl 0 rfl) ?_
      refine q_get (v := .ref (a 36)) C inX10_chosen_X10 hK hP 0 rfl rfl 7 (by decide) rfl LX10_chosen_63 rfl dX10_chosen_31 ?_
      refine lv_aload_n hx hb dX10_chosen_34 rfl (lv_at hl 0 rfl) ?_
      refine q_get (v := .ref (b 0)) C inX10_chosen_X10 hK hP 0 rfl rfl 3 (by decide) rfl LX10_chosen_35 rfl dX10_chosen_35 ?_
      refine lv_iload_n hx hb dX10_chosen_38 rfl (lv_at hl 3 rfl) ?_
      obtain ⟨q_, s4, hc, hB⟩ := bindI_inv hB
      refine q_goi (wr := ((wG cZ cS a b b2 c0 rg sl s.g) ++ (wD cI b2 s.t))) (va_runVN (As := [.ref (b 0), .int x3]) (rest := []) C (ckX2_bestGuess hc _) ⟨va_cnB 2 hts gX10_chosen_X2_bestGuess_n206 rfl rfl rfl (hN _ nwM_X10_206 rfl) (hts _ LX10_chosen_I_X2) (by decide +kernel) ⟨Nat.le_of_ble_eq_true rfl, Nat.le_of_ble_eq_true rfl⟩, hts _ LX10_chosen_N_X2_bestGuess, hts _ LX10_chosen_E_X2_bestGuess⟩ (q_preV hK hP (ci := 2) (q0 := 53) rfl rfl rfl (q_pre hN hK hP hD [11, 12, 13, 14, 15, 16, 17, 18, 19, 20, 21, 22, 23, 24, 25, 26, 27, 28, 29, 30, 31, 32, 33, 34, 35, 36, 37, 38, 39, 40, 41, 42, 43, 44, 45, 46, 47, 48, 49, 50, 51, 52, 53, 54, 55, 56, 57, 58, 59, 60, 61, 62, 63] (by first | exact zqs_2X | rfl) zqn_2)) rfl rfl hl.1 rfl (lv_room (Nat.le_of_ble_eq_true rfl)) dX10_chosen_39 ⟨Nat.le_of_ble_eq_true rfl, Nat.le_of_ble_eq_true rfl⟩) hP hD hS hA [11, 12, 13, 14, 15, 16, 17, 18, 19, 20, 21, 22, 23, 24, 25, 26, 27, 28, 29, 30, 31, 32, 33, 34, 35, 36, 37, 38, 39, 40, 41, 42, 43, 44, 45, 46, 47, 48, 49, 50, 51, 52, 53, 54, 55, 56, 57, 58, 59, 60, 61, 62, 63] [0, 1, 2, 3, 4, 5, 6, 7, 8, 9, 10] (by first | exact zqs_2X | rfl) (by first | exact zqs_3X | rfl) zqn_3 zqd_1 (fun r5 w1 H locs hw hP hD hS => ?_)
      obtain ⟨hq_, hw⟩ := hw; subst hw; subst hq_
      obtain ⟨s6, hs7, hB⟩ := letS_inv hB
      have hP : va_P (dC, dI) vwCl (wX cB cI cJ cZ cS a b b2 c0 rg sl s6) H := by subst hs7; exact hP
      have hD : va_D A (wX cB cI cJ cZ cS a b b2 c0 rg sl s6) := by subst hs7; exact hD
      refine lv_goto (tgt := 47) hx hb dX10_chosen_42 (by decide) ?_
      exact bkX10_chosen_47 (hk7) _ _ _ _ _ hB p e s0 m below meth c A E H locs ls hP hD hS (lv_sub hl [0, 1, 2, 3] rfl)
theorem bkX10_chosen_7L {l : Launch} {dC : Nat → ClassId} {dI : Nat → Nat → Nat} {cB cI cJ cZ cS : ClassId} {a b b2 c0 : Nat → Nat} {rg sl : Nat → Option Nat} {as : List Value} {r : Int32} {s' : XS} : ∀ (n : Nat) (s : XS) (x1 : Int32) (x2 : Int32) (x3 : Int32), kX10_chosen_7L n s x1 x2 x3 = some (r, s') → BlkI l yX10_chosen wsX10_chosen ({ frames := 6, cells := 0, slots := 0, locals := 152 }) cX10_chosen 6 (some .int) (dC, dI) (tysA cB cI cJ cZ cS) as 7 (wX cB cI cJ cZ cS a b b2 c0 rg sl s) [(0, .ref (c0 0)), (1, .int x1), (2, .int x2), (3, .int x3)] [] (fun x u => x = r ∧ u = (wX cB cI cJ cZ cS a b b2 c0 rg sl s')) := by
  intro n
  induction n with
  | zero => intro s x1 x2 x3 hB; exact none_ne hB
  | succ n ih => intro s x1 x2 x3 hB; exact bkX10_chosen_7 ih _ _ _ _ hB
set_option maxHeartbeats 4000000 in
set_option maxRecDepth 100000 in
theorem bkX10_chosen {l : Launch} {dC : Nat → ClassId} {dI : Nat → Nat → Nat} {cB cI cJ cZ cS : ClassId} {a b b2 c0 : Nat → Nat} {rg sl : Nat → Option Nat} {as : List Value} {r : Int32} {s' : XS} (s : XS) (hB : kX10_chosen s = some (r, s')) : BlkI l yX10_chosen wsX10_chosen ({ frames := 6, cells := 0, slots := 0, locals := 152 }) cX10_chosen 6 (some .int) (dC, dI) (tysA cB cI cJ cZ cS) as 0 (wX cB cI cJ cZ cS a b b2 c0 rg sl s) [(0, .ref (c0 0))] [] (fun x u => x = r ∧ u = (wX cB cI cJ cZ cS a b b2 c0 rg sl s')) := by
  intro p e s0 m below meth c A E H locs ls hP hD hS hl
  obtain ⟨C, hr, hlocks, hA, hK, hN⟩ := id E
  obtain ⟨hx, hb, hml, hown, hts⟩ := id C
  unfold kX10_chosen at hB
  refine lv_bipush (v := (-2)) hx hb dX10_chosen_0 (by decide) ?_
  refine lv_istore_n (lv' := [(1, .int (-2)), (0, .ref (c0 0))]) hx hb dX10_chosen_2 rfl hl (by decide) rfl (fun ls hl => ?_)
  refine lv_iconst (v := 0) hx hb dX10_chosen_3 (by decide) ?_
  refine lv_istore_n (lv' := [(2, .int 0), (1, .int (-2)), (0, .ref (c0 0))]) hx hb dX10_chosen_4 rfl hl (by decide) rfl (fun ls hl => ?_)
  refine lv_iconst (v := 0) hx hb dX10_chosen_5 (by decide) ?_
  refine lv_istore_n (lv' := [(3, .int 0), (2, .int 0), (1, .int (-2)), (0, .ref (c0 0))]) hx hb dX10_chosen_6 rfl hl (by decide) rfl (fun ls hl => ?_)
  exact bkX10_chosen_7L fu _ _ _ _ hB p e s0 m below meth c A E H locs ls hP hD hS (lv_sub hl [3, 2, 1, 0] rfl)
theorem ckX10_chosen {l : Launch} {dC : Nat → ClassId} {dI : Nat → Nat → Nat} {cB cI cJ cZ cS : ClassId} {a b b2 c0 : Nat → Nat} {rg sl : Nat → Option Nat} {r : Int32} {s' : XS} {s : XS} (hB : kX10_chosen s = some (r, s')) : CI l yX10_chosen wsX10_chosen ({ frames := 6, cells := 0, slots := 0, locals := 152 }) (dC, dI) (tysA cB cI cJ cZ cS) (wX cB cI cJ cZ cS a b b2 c0 rg sl s) [.ref (c0 0)] (fun x u => x = r ∧ u = (wX cB cI cJ cZ cS a b b2 c0 rg sl s')) :=
  CI_of (cc := cX10_chosen) (maxL := 6) (ret := (some .int)) (by decide) rfl (Nat.le_of_ble_eq_true rfl) (bkX10_chosen _ hB)
theorem LX10_allGo_19 : Cond.fieldLink RX10 19 "GuessFerry" "sound" "LGuessFerry$Sound;" ∈ wsX10_allGo := (List.mem_cons_of_mem _ (List.mem_append_left _ (List.mem_append_left _ (List.mem_append_left _ (List.mem_append_left _ (List.mem_append_left _ (List.mem_append_left _ (List.mem_append_left _ (List.mem_of_getElem? (i := 2) rfl)))))))))
theorem LX10_allGo_35 : Cond.fieldLink RX10 35 "GuessFerry" "now" "LGuessFerry$Standing;" ∈ wsX10_allGo := (List.mem_cons_of_mem _ (List.mem_append_left _ (List.mem_append_left _ (List.mem_append_left _ (List.mem_append_left _ (List.mem_append_left _ (List.mem_append_left _ (List.mem_append_left _ (List.mem_of_getElem? (i := 1) rfl)))))))))
theorem LX10_allGo_39 : Cond.fieldLink RX10 39 "GuessFerry" "trial" "LGuessFerry$Standing;" ∈ wsX10_allGo := (List.mem_cons_of_mem _ (List.mem_append_left _ (List.mem_append_left _ (List.mem_append_left _ (List.mem_append_left _ (List.mem_append_left _ (List.mem_append_left _ (List.mem_append_left _ (List.mem_of_getElem? (i := 0) rfl)))))))))
theorem LX10_allGo_54 : Cond.fieldLink RX10 54 "GuessFerry" "crossing" "LGuessFerry$Crossing;" ∈ wsX10_allGo := (List.mem_cons_of_mem _ (List.mem_append_left _ (List.mem_append_left _ (List.mem_append_left _ (List.mem_append_left _ (List.mem_append_left _ (List.mem_append_left _ (List.mem_append_left _ (List.mem_of_getElem? (i := 3) rfl)))))))))
theorem LX10_allGo_63 : Cond.fieldLink RX10 63 "GuessFerry" "outlook" "LGuessFerry$Outlook;" ∈ wsX10_allGo := (List.mem_cons_of_mem _ (List.mem_append_left _ (List.mem_append_left _ (List.mem_append_left _ (List.mem_append_left _ (List.mem_append_left _ (List.mem_append_left _ (List.mem_append_left _ (List.mem_of_getElem? (i := 4) rfl)))))))))
theorem LX10_allGo_E_X0_isDaring : Cond.selects RX0 yX0_isDaring yX0_isDaring ∈ wsX10_allGo := (List.mem_cons_of_mem _ (List.mem_append_left _ (List.mem_append_left _ (List.mem_append_left _ (List.mem_append_left _ (List.mem_append_left _ (List.mem_append_left _ (List.mem_append_left _ (List.mem_of_getElem? (i := 11) rfl)))))))))
theorem LX10_allGo_E_X0_sendBy : Cond.selects RX0 yX0_sendBy yX0_sendBy ∈ wsX10_allGo := (List.mem_cons_of_mem _ (List.mem_append_left _ (List.mem_append_left _ (List.mem_append_left _ (List.mem_append_left _ (List.mem_append_left _ (List.mem_append_left _ (List.mem_append_left _ (List.mem_of_getElem? (i := 23) rfl)))))))))
theorem LX10_allGo_E_X2_bestGuess : Cond.selects RX2 yX2_bestGuess yX2_bestGuess ∈ wsX10_allGo := (List.mem_cons_of_mem _ (List.mem_append_left _ (List.mem_append_left _ (List.mem_append_left _ (List.mem_append_left _ (List.mem_append_left _ (List.mem_append_left _ (List.mem_append_left _ (List.mem_of_getElem? (i := 16) rfl)))))))))
theorem LX10_allGo_E_X6_copyFrom : Cond.selects RX6 yX6_copyFrom yX6_copyFrom ∈ wsX10_allGo := (List.mem_cons_of_mem _ (List.mem_append_left _ (List.mem_append_left _ (List.mem_append_left _ (List.mem_append_left _ (List.mem_append_left _ (List.mem_append_left _ (List.mem_append_left _ (List.mem_of_getElem? (i := 7) rfl)))))))))
theorem LX10_allGo_I_X0 : Cond.initialized RX0 ∈ wsX10_allGo := (List.mem_cons_of_mem _ (List.mem_append_left _ (List.mem_append_left _ (List.mem_append_left _ (List.mem_append_left _ (List.mem_append_left _ (List.mem_append_left _ (List.mem_append_left _ (List.mem_of_getElem? (i := 10) rfl)))))))))
theorem LX10_allGo_I_X2 : Cond.initialized RX2 ∈ wsX10_allGo := (List.mem_cons_of_mem _ (List.mem_append_left _ (List.mem_append_left _ (List.mem_append_left _ (List.mem_append_left _ (List.mem_append_left _ (List.mem_append_left _ (List.mem_append_left _ (List.mem_of_getElem? (i := 15) rfl)))))))))
theorem LX10_allGo_I_X6 : Cond.initialized RX6 ∈ wsX10_allGo := (List.mem_cons_of_mem _ (List.mem_append_left _ (List.mem_append_left _ (List.mem_append_left _ (List.mem_append_left _ (List.mem_append_left _ (List.mem_append_left _ (List.mem_append_left _ (List.mem_of_getElem? (i := 6) rfl)))))))))
theorem LX10_allGo_N_X0_isDaring : Cond.instanceMethod yX0_isDaring ∈ wsX10_allGo := (List.mem_cons_of_mem _ (List.mem_append_left _ (List.mem_append_left _ (List.mem_append_left _ (List.mem_append_left _ (List.mem_append_left _ (List.mem_append_left _ (List.mem_append_left _ (List.mem_of_getElem? (i := 9) rfl)))))))))
theorem LX10_allGo_N_X0_sendBy : Cond.instanceMethod yX0_sendBy ∈ wsX10_allGo := (List.mem_cons_of_mem _ (List.mem_append_left _ (List.mem_append_left _ (List.mem_append_left _ (List.mem_append_left _ (List.mem_append_left _ (List.mem_append_left _ (List.mem_append_left _ (List.mem_of_getElem? (i := 22) rfl)))))))))
theorem LX10_allGo_N_X2_bestGuess : Cond.instanceMethod yX2_bestGuess ∈ wsX10_allGo := (List.mem_cons_of_mem _ (List.mem_append_left _ (List.mem_append_left _ (List.mem_append_left _ (List.mem_append_left _ (List.mem_append_left _ (List.mem_append_left _ (List.mem_append_left _ (List.mem_of_getElem? (i := 14) rfl)))))))))
theorem LX10_allGo_N_X6_copyFrom : Cond.instanceMethod yX6_copyFrom ∈ wsX10_allGo := (List.mem_cons_of_mem _ (List.mem_append_left _ (List.mem_append_left _ (List.mem_append_left _ (List.mem_append_left _ (List.mem_append_left _ (List.mem_append_left _ (List.mem_append_left _ (List.mem_of_getElem? (i := 5) rfl)))))))))
theorem inX10_allGo_X10 : ∀ w ∈ u_ws RX10 TX10 9, w ∈ wsX10_allGo := fun w h => (List.mem_cons_of_mem _ (List.mem_append_left _ (List.mem_append_left _ (List.mem_append_left _ (List.mem_append_left _ (List.mem_append_left _ (List.mem_append_right _ h)))))))
theorem inX10_allGo_X5 : ∀ w ∈ u_ws RX5 TX5 10, w ∈ wsX10_allGo := fun w h => (List.mem_cons_of_mem _ (List.mem_append_left _ (List.mem_append_left _ (List.mem_append_left _ (List.mem_append_left _ (List.mem_append_right _ h))))))
theorem inX10_allGo_X6 : ∀ w ∈ u_ws RX6 TX6 7, w ∈ wsX10_allGo := fun w h => (List.mem_cons_of_mem _ (List.mem_append_left _ (List.mem_append_left _ (List.mem_append_left _ (List.mem_append_right _ h)))))
set_option maxHeartbeats 4000000 in
set_option maxRecDepth 100000 in
theorem bkX10_allGo_136 {l : Launch} {dC : Nat → ClassId} {dI : Nat → Nat → Nat} {cB cI cJ cZ cS : ClassId} {a b b2 c0 : Nat → Nat} {rg sl : Nat → Option Nat} {as : List Value} {r : Int32} {s' : XS} (s : XS) (t0 : Int32) (hB : kX10_allGo_136 s t0 = some (r, s')) : BlkI l yX10_allGo wsX10_allGo ({ frames := 6, cells := 0, slots := 0, locals := 152 }) cX10_allGo 4 (some .int) (dC, dI) (tysA cB cI cJ cZ cS) as 136 (wX cB cI cJ cZ cS a b b2 c0 rg sl s) [] [.int t0, .ref (b2 0), .ref (c0 0)] (fun x u => x = r ∧ u = (wX cB cI cJ cZ cS a b b2 c0 rg sl s')) := by
  intro p e s0 m below meth c A E H locs ls hP hD hS hl
  obtain ⟨C, hr, hlocks, hA, hK, hN⟩ := id E
  obtain ⟨hx, hb, hml, hown, hts⟩ := id C
  unfold kX10_allGo_136 at hB
  obtain ⟨q_, s1, hc, hB⟩ := bindI_inv hB
  refine q_goiF (va_runV (As := [.ref (b2 0), .int t0]) (rest := []) C (ckX10_partiesThatAre_t hc _) (cwV 2 hts gX10_allGo_X10_partiesThatAre rfl rfl rfl (by decide +kernel) ⟨Nat.le_of_ble_eq_true rfl, Nat.le_of_ble_eq_true rfl⟩) (q_preV hK hP (ci := 10) (q0 := 0) rfl rfl rfl (q_preF hN hK hP hD)) rfl rfl hl.1 rfl (lv_room (Nat.le_of_ble_eq_true rfl)) dX10_allGo_136 ⟨Nat.le_of_ble_eq_true rfl, Nat.le_of_ble_eq_true rfl⟩) hD hS hA (fun r2 w1 H locs hw hP hD hS => ?_)
  obtain ⟨hq_, hw⟩ := hw; subst hw; subst hq_
  obtain ⟨q_, hc, hB⟩ := bindP_inv hB
  refine q_goi0 (va_runS (As := [.int r2]) (rest := []) C (ckJ6_bitCount_0f7a4 hc _) (va_cwS 1 hts gX10_allGo_J6_bitCount_0f7a4 rfl rfl rfl (by decide +kernel) ⟨Nat.le_of_ble_eq_true rfl, Nat.le_of_ble_eq_true rfl⟩) (q_pre0 hN hK) rfl rfl hl.1 rfl (lv_room (Nat.le_of_ble_eq_true rfl)) dX10_allGo_139 ⟨Nat.le_of_ble_eq_true rfl, Nat.le_of_ble_eq_true rfl⟩) hP hD hS hA (fun r3 w1 H locs hw hP hS => ?_)
  subst hw
  exact q_iret C hr hlocks hK hP hD hS (Nat.le_of_ble_eq_true rfl) (Nat.le_of_ble_eq_true rfl) dX10_allGo_142 (by cases hB; exact ⟨rfl, rfl⟩)
set_option maxHeartbeats 4000000 in
set_option maxRecDepth 100000 in
theorem bkX10_allGo_95 {l : Launch} {dC : Nat → ClassId} {dI : Nat → Nat → Nat} {cB cI cJ cZ cS : ClassId} {a b b2 c0 : Nat → Nat} {rg sl : Nat → Option Nat} {as : List Value} {r : Int32} {s' : XS} {k24 : XS → Int32 → Int32 → Option (Int32 × XS)} (hk24 : ∀ (s : XS) (x1 : Int32) (x2 : Int32), k24 s x1 x2 = some (r, s') → BlkI l yX10_allGo wsX10_allGo ({ frames := 6, cells := 0, slots := 0, locals := 152 }) cX10_allGo 4 (some .int) (dC, dI) (tysA cB cI cJ cZ cS) as 24 (wX cB cI cJ cZ cS a b b2 c0 rg sl s) [(0, .ref (c0 0)), (1, .int x1), (2, .int x2)] [] (fun x u => x = r ∧ u = (wX cB cI cJ cZ cS a b b2 c0 rg sl s'))) (s : XS) (x1 : Int32) (x2 : Int32) (hB : kX10_allGo_95 k24 s x1 x2 = some (r, s')) : BlkI l yX10_allGo wsX10_allGo ({ frames := 6, cells := 0, slots := 0, locals := 152 }) cX10_allGo 4 (some .int) (dC, dI) (tysA cB cI cJ cZ cS) as 95 (wX cB cI cJ cZ cS a b b2 c0 rg sl s) [(0, .ref (c0 0)), (1, .int x1), (2, .int x2)] [] (fun x u => x = r ∧ u = (wX cB cI cJ cZ cS a b b2 c0 rg sl s')) := by
  intro p e s0 m below meth c A E H locs ls hP hD hS hl
  obtain ⟨C, hr, hlocks, hA, hK, hN⟩ := id E
  obtain ⟨hx, hb, hml, hown, hts⟩ := id C
  unfold kX10_allGo_95 at hB
  refine lv_iinc (v := (x2 + 1)) (lv' := [(2, .int (x2 + 1)), (0, .ref (c0 0)), (1, .int x1)]) hx hb dX10_allGo_95 hl (k := 2) rfl (rfl) (by decide) rfl (fun ls hl => ?_)
  refine lv_goto (tgt := 24) hx hb dX10_allGo_98 (by decide) ?_
  exact hk24 _ _ _ hB p e s0 m below meth c A E H locs ls hP hD hS (lv_sub hl [1, 2, 0] rfl)
set_option maxHeartbeats 4000000 in
set_option maxRecDepth 100000 in
theorem bkX10_allGo_24 {l : Launch} {dC : Nat → ClassId} {dI : Nat → Nat → Nat} {cB cI cJ cZ cS : ClassId} {a b b2 c0 : Nat → Nat} {rg sl : Nat → Option Nat} {as : List Value} {r : Int32} {s' : XS} {k24 : XS → Int32 → Int32 → Option (Int32 × XS)} (hk24 : ∀ (s : XS) (x1 : Int32) (x2 : Int32), k24 s x1 x2 = some (r, s') → BlkI l yX10_allGo wsX10_allGo ({ frames := 6, cells := 0, slots := 0, locals := 152 }) cX10_allGo 4 (some .int) (dC, dI) (tysA cB cI cJ cZ cS) as 24 (wX cB cI cJ cZ cS a b b2 c0 rg sl s) [(0, .ref (c0 0)), (1, .int x1), (2, .int x2)] [] (fun x u => x = r ∧ u = (wX cB cI cJ cZ cS a b b2 c0 rg sl s'))) (s : XS) (x1 : Int32) (x2 : Int32) (hB : kX10_allGo_24 k24 s x1 x2 = some (r, s')) : BlkI l yX10_allGo wsX10_allGo ({ frames := 6, cells := 0, slots := 0, locals := 152 }) cX10_allGo 4 (some .int) (dC, dI) (tysA cB cI cJ cZ cS) as 24 (wX cB cI cJ cZ cS a b b2 c0 rg sl s) [(0, .ref (c0 0)), (1, .int x1), (2, .int x2)] [] (fun x u => x = r ∧ u = (wX cB cI cJ cZ cS a b b2 c0 rg sl s')) := by
  intro p e s0 m below meth c A E H locs ls hP hD hS hl
  obtain ⟨C, hr, hlocks, hA, hK, hN⟩ := id E
  obtain ⟨hx, hb, hml, hown, hts⟩ := id C
  unfold kX10_allGo_24 at hB
  refine lv_iload_n hx hb dX10_allGo_24 rfl (lv_at hl 2 rfl) ?_
  refine lv_aload_n hx hb dX10_allGo_25 rfl (lv_at hl 0 rfl) ?_
  refine q_get (v := .ref (a 2)) C inX10_allGo_X10 hK hP 0 rfl rfl 1 (by decide) rfl LX10_allGo_19 rfl dX10_allGo_26 ?_
  refine q_getN (v := .int (s.k.v 2)) C hN inX10_allGo_X5 hK hP 19 rfl rfl 7 (by decide) rfl nwF_X10_235 rfl dX10_allGo_29 ?_
  refine lv_icmp_ge (tgt := 101) hx hb dX10_allGo_32 (by decide) (fun c1 => ?_) (fun c1 => ?_)
  · have hB := if_p hB c1
    refine lv_iload_n hx hb dX10_allGo_101 rfl (lv_at hl 1 rfl) ?_
    refine lv_iconst (v := 2) hx hb dX10_allGo_102 (by decide) ?_
    refine lv_icmp_ne (tgt := 122) hx hb dX10_allGo_103 (by decide) (fun c2 => ?_) (fun c2 => ?_)
    · have hB := if_n hB c2
      refine lv_aload_n hx hb dX10_allGo_122 rfl (lv_at hl 0 rfl) ?_
      refine lv_aload_n hx hb dX10_allGo_123 rfl (lv_at hl 0 rfl) ?_
      refine q_get (v := .ref (b2 0)) C inX10_allGo_X10 hK hP 0 rfl rfl 4 (by decide) rfl LX10_allGo_39 rfl dX10_allGo_124 ?_
      refine lv_iload_n hx hb dX10_allGo_127 rfl (lv_at hl 1 rfl) ?_
      refine lv_if_ne (tgt := 135) hx hb dX10_allGo_128 (by decide) (fun c3 => ?_) (fun c3 => ?_)
      · have hB := if_n hB c3
        refine lv_iconst (v := 1) hx hb dX10_allGo_135 (by decide) ?_
        exact bkX10_allGo_136 _ _ hB p e s0 m below meth c A E H locs ls hP hD hS (lv_sub hl [] rfl)
      · have hB := if_p hB c3
        refine lv_iconst (v := 2) hx hb dX10_allGo_131 (by decide) ?_
        refine lv_goto (tgt := 136) hx hb dX10_allGo_132 (by decide) ?_
        exact bkX10_allGo_136 _ _ hB p e s0 m below meth c A E H locs ls hP hD hS (lv_sub hl [] rfl)
    · have hB := if_p hB c2
      refine lv_aload_n hx hb dX10_allGo_106 rfl (lv_at hl 0 rfl) ?_
      refine q_get (v := .ref (b2 0)) C inX10_allGo_X10 hK hP 0 rfl rfl 4 (by decide) rfl LX10_allGo_39 rfl dX10_allGo_107 ?_
      refine q_getN (v := .int (s.t.v 6)) C hN inX10_allGo_X6 hK hP 5 rfl rfl 6 (by decide) rfl nwF_X10_241 rfl dX10_allGo_110 ?_
      refine lv_aload_n hx hb dX10_allGo_113 rfl (lv_at hl 0 rfl) ?_
      refine q_get (v := .ref (b 0)) C inX10_allGo_X10 hK hP 0 rfl rfl 3 (by decide) rfl LX10_allGo_35 rfl dX10_allGo_114 ?_
      refine q_getN (v := .int (s.n.v 6)) C hN inX10_allGo_X6 hK hP 11 rfl rfl 6 (by decide) rfl nwF_X10_241 rfl dX10_allGo_117 ?_
      refine lv_isub hx hb dX10_allGo_120 ?_
      exact q_iret C hr hlocks hK hP hD hS (Nat.le_of_ble_eq_true rfl) (Nat.le_of_ble_eq_true rfl) dX10_allGo_121 (by cases hB; exact ⟨rfl, rfl⟩)
  · have hB := if_n hB c1
    refine lv_aload_n hx hb dX10_allGo_35 rfl (lv_at hl 0 rfl) ?_
    refine q_get (v := .ref (b2 0)) C inX10_allGo_X10 hK hP 0 rfl rfl 4 (by decide) rfl LX10_allGo_39 rfl dX10_allGo_36 ?_
    refine q_getN (v := .ref (b2 4)) C hN inX10_allGo_X6 hK hP 5 rfl rfl 3 (by decide) rfl nwF_X10_147 rfl dX10_allGo_39 ?_
    refine lv_iload_n hx hb dX10_allGo_42 rfl (lv_at hl 2 rfl) ?_
    obtain ⟨g4, hB⟩ := guard_inv hB
    refine q_iald (x := ((s.t.f 3) (Int32.toNatClampNeg x2))) C hK hP 9 1 rfl rfl (vpb_in g4) dX10_allGo_43 rfl ?_
    refine lv_if_ne (tgt := 95) hx hb dX10_allGo_44 (by decide) (fun c5 => ?_) (fun c5 => ?_)
    · have hB := if_n hB c5
      exact bkX10_allGo_95 (hk24) _ _ _ hB p e s0 m below meth c A E H locs ls hP hD hS (lv_sub hl [0, 1, 2] rfl)
    · have hB := if_p hB c5
      refine lv_aload_n hx hb dX10_allGo_47 rfl (lv_at hl 0 rfl) ?_
      refine q_get (v := .ref (a 35)) C inX10_allGo_X10 hK hP 0 rfl rfl 6 (by decide) rfl LX10_allGo_54 rfl dX10_allGo_48 ?_
      refine lv_aload_n hx hb dX10_allGo_51 rfl (lv_at hl 0 rfl) ?_
      refine q_get (v := .ref (b2 0)) C inX10_allGo_X10 hK hP 0 rfl rfl 4 (by decide) rfl LX10_allGo_39 rfl dX10_allGo_52 ?_
      refine lv_iload_n hx hb dX10_allGo_55 rfl (lv_at hl 2 rfl) ?_
      obtain ⟨q_, s6, hc, hB⟩ := bindI_inv hB
      refine q_goi (wr := ((wG cZ cS a b b2 c0 rg sl s.g) ++ (wD cI b s.n))) (va_runVN (As := [.ref (b2 0), .int x2]) (rest := []) C (ckX0_isDaring hc _) ⟨va_cnB 2 hts gX10_allGo_X0_isDaring_n156 rfl rfl rfl (hN _ nwM_X10_156 rfl) (hts _ LX10_allGo_I_X0) (by decide +kernel) ⟨Nat.le_of_ble_eq_true rfl, Nat.le_of_ble_eq_true rfl⟩, hts _ LX10_allGo_N_X0_isDaring, hts _ LX10_allGo_E_X0_isDaring⟩ (q_preV hK hP (ci := 0) (q0 := 52) rfl rfl rfl (q_pre hN hK hP hD [5, 6, 7, 8, 9, 10, 17, 18, 19, 20, 21, 22, 23, 24, 25, 26, 27, 28, 29, 30, 31, 32, 33, 34, 35, 36, 37, 38, 39, 40, 41, 42, 43, 44, 45, 46, 47, 48, 49, 50, 51, 52, 53, 54, 55, 56, 57, 58, 59, 60, 61, 62, 63] (by first | exact zqs_24X | rfl) zqn_23)) rfl rfl hl.1 rfl (lv_room (Nat.le_of_ble_eq_true rfl)) dX10_allGo_56 ⟨Nat.le_of_ble_eq_true rfl, Nat.le_of_ble_eq_true rfl⟩) hP hD hS hA [5, 6, 7, 8, 9, 10, 17, 18, 19, 20, 21, 22, 23, 24, 25, 26, 27, 28, 29, 30, 31, 32, 33, 34, 35, 36, 37, 38, 39, 40, 41, 42, 43, 44, 45, 46, 47, 48, 49, 50, 51, 52, 53, 54, 55, 56, 57, 58, 59, 60, 61, 62, 63] [0, 1, 2, 3, 4, 11, 12, 13, 14, 15, 16] (by first | exact zqs_24X | rfl) (by first | exact zqs_25X | rfl) zqn_24 zqd_12 (fun r7 w1 H locs hw hP hD hS => ?_)
      obtain ⟨hq_, hw⟩ := hw; subst hw; subst hq_
      obtain ⟨s8, hs9, hB⟩ := letS_inv hB
      have hP : va_P (dC, dI) vwCl (wX cB cI cJ cZ cS a b b2 c0 rg sl s8) H := by subst hs9; exact hP.sub [0, 1, 2, 3, 4, 11, 12, 13, 14, 15, 16, 5, 6, 7, 8, 9, 10, 17, 18, 19, 20, 21, 22, 23, 24, 25, 26, 27, 28, 29, 30, 31, 32, 33, 34, 35, 36, 37, 38, 39, 40, 41, 42, 43, 44, 45, 46, 47, 48, 49, 50, 51, 52, 53, 54, 55, 56, 57, 58, 59, 60, 61, 62, 63] rfl
      have hD : va_D A (wX cB cI cJ cZ cS a b b2 c0 rg sl s8) := by subst hs9; exact hD.sub [0, 1, 2, 3, 4, 11, 12, 13, 14, 15, 16, 5, 6, 7, 8, 9, 10, 17, 18, 19, 20, 21, 22, 23, 24, 25, 26, 27, 28, 29, 30, 31, 32, 33, 34, 35, 36, 37, 38, 39, 40, 41, 42, 43, 44, 45, 46, 47, 48, 49, 50, 51, 52, 53, 54, 55, 56, 57, 58, 59, 60, 61, 62, 63] (by decide +kernel) rfl
      refine lv_if_eq (tgt := 95) hx hb dX10_allGo_59 (by decide) (fun c10 => ?_) (fun c10 => ?_)
      · have hB := if_p hB c10
        exact bkX10_allGo_95 (hk24) _ _ _ hB p e s0 m below meth c A E H locs ls hP hD hS (lv_sub hl [0, 1, 2] rfl)
      · have hB := if_n hB c10
        refine lv_aload_n hx hb dX10_allGo_62 rfl (lv_at hl 0 rfl) ?_
        refine q_get (v := .ref (a 36)) C inX10_allGo_X10 hK hP 0 rfl rfl 7 (by decide) rfl LX10_allGo_63 rfl dX10_allGo_63 ?_
        refine lv_aload_n hx hb dX10_allGo_66 rfl (lv_at hl 0 rfl) ?_
        refine q_get (v := .ref (b2 0)) C inX10_allGo_X10 hK hP 0 rfl rfl 4 (by decide) rfl LX10_allGo_39 rfl dX10_allGo_67 ?_
        refine lv_iload_n hx hb dX10_allGo_70 rfl (lv_at hl 2 rfl) ?_
        obtain ⟨q_, s11, hc, hB⟩ := bindI_inv hB
        refine q_goi (wr := ((wG cZ cS a b b2 c0 rg sl s8.g) ++ (wD cI b s8.n))) (va_runVN (As := [.ref (b2 0), .int x2]) (rest := []) C (ckX2_bestGuess hc _) ⟨va_cnB 2 hts gX10_allGo_X2_bestGuess_n206 rfl rfl rfl (hN _ nwM_X10_206 rfl) (hts _ LX10_allGo_I_X2) (by decide +kernel) ⟨Nat.le_of_ble_eq_true rfl, Nat.le_of_ble_eq_true rfl⟩, hts _ LX10_allGo_N_X2_bestGuess, hts _ LX10_allGo_E_X2_bestGuess⟩ (q_preV hK hP (ci := 2) (q0 := 53) rfl rfl rfl (q_pre hN hK hP hD [5, 6, 7, 8, 9, 10, 17, 18, 19, 20, 21, 22, 23, 24, 25, 26, 27, 28, 29, 30, 31, 32, 33, 34, 35, 36, 37, 38, 39, 40, 41, 42, 43, 44, 45, 46, 47, 48, 49, 50, 51, 52, 53, 54, 55, 56, 57, 58, 59, 60, 61, 62, 63] (by first | exact zqs_24X | rfl) zqn_23)) rfl rfl hl.1 rfl (lv_room (Nat.le_of_ble_eq_true rfl)) dX10_allGo_71 ⟨Nat.le_of_ble_eq_true rfl, Nat.le_of_ble_eq_true rfl⟩) hP hD hS hA [5, 6, 7, 8, 9, 10, 17, 18, 19, 20, 21, 22, 23, 24, 25, 26, 27, 28, 29, 30, 31, 32, 33, 34, 35, 36, 37, 38, 39, 40, 41, 42, 43, 44, 45, 46, 47, 48, 49, 50, 51, 52, 53, 54, 55, 56, 57, 58, 59, 60, 61, 62, 63] [0, 1, 2, 3, 4, 11, 12, 13, 14, 15, 16] (by first | exact zqs_24X | rfl) (by first | exact zqs_25X | rfl) zqn_24 zqd_12 (fun r12 w1 H locs hw hP hD hS => ?_)
        obtain ⟨hq_, hw⟩ := hw; subst hw; subst hq_
        obtain ⟨s13, hs14, hB⟩ := letS_inv hB
        have hP : va_P (dC, dI) vwCl (wX cB cI cJ cZ cS a b b2 c0 rg sl s13) H := by subst hs14; exact hP.sub [0, 1, 2, 3, 4, 11, 12, 13, 14, 15, 16, 5, 6, 7, 8, 9, 10, 17, 18, 19, 20, 21, 22, 23, 24, 25, 26, 27, 28, 29, 30, 31, 32, 33, 34, 35, 36, 37, 38, 39, 40, 41, 42, 43, 44, 45, 46, 47, 48, 49, 50, 51, 52, 53, 54, 55, 56, 57, 58, 59, 60, 61, 62, 63] rfl
        have hD : va_D A (wX cB cI cJ cZ cS a b b2 c0 rg sl s13) := by subst hs14; exact hD.sub [0, 1, 2, 3, 4, 11, 12, 13, 14, 15, 16, 5, 6, 7, 8, 9, 10, 17, 18, 19, 20, 21, 22, 23, 24, 25, 26, 27, 28, 29, 30, 31, 32, 33, 34, 35, 36, 37, 38, 39, 40, 41, 42, 43, 44, 45, 46, 47, 48, 49, 50, 51, 52, 53, 54, 55, 56, 57, 58, 59, 60, 61, 62, 63] (by decide +kernel) rfl
        refine lv_istore_n (lv' := [(3, .int r12), (0, .ref (c0 0)), (1, .int x1), (2, .int x2)]) hx hb dX10_allGo_74 rfl hl (by decide) rfl (fun ls hl => ?_)
        refine lv_iload_n hx hb dX10_allGo_75 rfl (lv_at hl 0 rfl) ?_
        refine lv_bipush (v := (-2)) hx hb dX10_allGo_76 (by decide) ?_
        refine lv_icmp_eq (tgt := 95) hx hb dX10_allGo_78 (by decide) (fun c15 => ?_) (fun c15 => ?_)
        · have hB := if_p hB c15
          exact bkX10_allGo_95 (hk24) _ _ _ hB p e s0 m below meth c A E H locs ls hP hD hS (lv_sub hl [1, 2, 3] rfl)
        · have hB := if_n hB c15
          refine lv_aload_n hx hb dX10_allGo_81 rfl (lv_at hl 1 rfl) ?_
          refine q_get (v := .ref (a 35)) C inX10_allGo_X10 hK hP 0 rfl rfl 6 (by decide) rfl LX10_allGo_54 rfl dX10_allGo_82 ?_
          refine lv_aload_n hx hb dX10_allGo_85 rfl (lv_at hl 1 rfl) ?_
          refine q_get (v := .ref (b2 0)) C inX10_allGo_X10 hK hP 0 rfl rfl 4 (by decide) rfl LX10_allGo_39 rfl dX10_allGo_86 ?_
          refine lv_iload_n hx hb dX10_allGo_89 rfl (lv_at hl 3 rfl) ?_
          refine lv_iload_n hx hb dX10_allGo_90 rfl (lv_at hl 0 rfl) ?_
          obtain ⟨q_, s16, hc, hB⟩ := bindI_inv hB
          refine q_goi (wr := ((wG cZ cS a b b2 c0 rg sl s13.g) ++ (wD cI b s13.n))) (va_runVN (As := [.ref (b2 0), .int x2, .int r12]) (rest := []) C (ckX0_sendBy hc _) ⟨va_cnB 3 hts gX10_allGo_X0_sendBy_n177 rfl rfl rfl (hN _ nwM_X10_177 rfl) (hts _ LX10_allGo_I_X0) (by decide +kernel) ⟨Nat.le_of_ble_eq_true rfl, Nat.le_of_ble_eq_true rfl⟩, hts _ LX10_allGo_N_X0_sendBy, hts _ LX10_allGo_E_X0_sendBy⟩ (q_preV hK hP (ci := 0) (q0 := 52) rfl rfl rfl (q_pre hN hK hP hD [5, 6, 7, 8, 9, 10, 17, 18, 19, 20, 21, 22, 23, 24, 25, 26, 27, 28, 29, 30, 31, 32, 33, 34, 35, 36, 37, 38, 39, 40, 41, 42, 43, 44, 45, 46, 47, 48, 49, 50, 51, 52, 53, 54, 55, 56, 57, 58, 59, 60, 61, 62, 63] (by first | exact zqs_24X | rfl) zqn_23)) rfl rfl hl.1 rfl (lv_room (Nat.le_of_ble_eq_true rfl)) dX10_allGo_91 ⟨Nat.le_of_ble_eq_true rfl, Nat.le_of_ble_eq_true rfl⟩) hP hD hS hA [5, 6, 7, 8, 9, 10, 17, 18, 19, 20, 21, 22, 23, 24, 25, 26, 27, 28, 29, 30, 31, 32, 33, 34, 35, 36, 37, 38, 39, 40, 41, 42, 43, 44, 45, 46, 47, 48, 49, 50, 51, 52, 53, 54, 55, 56, 57, 58, 59, 60, 61, 62, 63] [0, 1, 2, 3, 4, 11, 12, 13, 14, 15, 16] (by first | exact zqs_24X | rfl) (by first | exact zqs_25X | rfl) zqn_24 zqd_12 (fun r17 w1 H locs hw hP hD hS => ?_)
          obtain ⟨hq_, hw⟩ := hw; subst hw; subst hq_
          obtain ⟨s18, hs19, hB⟩ := letS_inv hB
          have hP : va_P (dC, dI) vwCl (wX cB cI cJ cZ cS a b b2 c0 rg sl s18) H := by subst hs19; exact hP.sub [0, 1, 2, 3, 4, 11, 12, 13, 14, 15, 16, 5, 6, 7, 8, 9, 10, 17, 18, 19, 20, 21, 22, 23, 24, 25, 26, 27, 28, 29, 30, 31, 32, 33, 34, 35, 36, 37, 38, 39, 40, 41, 42, 43, 44, 45, 46, 47, 48, 49, 50, 51, 52, 53, 54, 55, 56, 57, 58, 59, 60, 61, 62, 63] rfl
          have hD : va_D A (wX cB cI cJ cZ cS a b b2 c0 rg sl s18) := by subst hs19; exact hD.sub [0, 1, 2, 3, 4, 11, 12, 13, 14, 15, 16, 5, 6, 7, 8, 9, 10, 17, 18, 19, 20, 21, 22, 23, 24, 25, 26, 27, 28, 29, 30, 31, 32, 33, 34, 35, 36, 37, 38, 39, 40, 41, 42, 43, 44, 45, 46, 47, 48, 49, 50, 51, 52, 53, 54, 55, 56, 57, 58, 59, 60, 61, 62, 63] (by decide +kernel) rfl
          refine lv_pop hx hb dX10_allGo_94 rfl ?_
          exact bkX10_allGo_95 (hk24) _ _ _ hB p e s0 m below meth c A E H locs ls hP hD hS (lv_sub hl [1, 2, 3] rfl)
theorem bkX10_allGo_24L {l : Launch} {dC : Nat → ClassId} {dI : Nat → Nat → Nat} {cB cI cJ cZ cS : ClassId} {a b b2 c0 : Nat → Nat} {rg sl : Nat → Option Nat} {as : List Value} {r : Int32} {s' : XS} : ∀ (n : Nat) (s : XS) (x1 : Int32) (x2 : Int32), kX10_allGo_24L n s x1 x2 = some (r, s') → BlkI l yX10_allGo wsX10_allGo ({ frames := 6, cells := 0, slots := 0, locals := 152 }) cX10_allGo 4 (some .int) (dC, dI) (tysA cB cI cJ cZ cS) as 24 (wX cB cI cJ cZ cS a b b2 c0 rg sl s) [(0, .ref (c0 0)), (1, .int x1), (2, .int x2)] [] (fun x u => x = r ∧ u = (wX cB cI cJ cZ cS a b b2 c0 rg sl s')) := by
  intro n
  induction n with
  | zero => intro s x1 x2 hB; exact none_ne hB
  | succ n ih => intro s x1 x2 hB; exact bkX10_allGo_24 ih _ _ _ hB
set_option maxHeartbeats 4000000 in
set_option maxRecDepth 100000 in
theorem bkX10_allGo {l : Launch} {dC : Nat → ClassId} {dI : Nat → Nat → Nat} {cB cI cJ cZ cS : ClassId} {a b b2 c0 : Nat → Nat} {rg sl : Nat → Option Nat} {as : List Value} {r : Int32} {s' : XS} (s : XS) (x1 : Int32) (hB : kX10_allGo s x1 = some (r, s')) : BlkI l yX10_allGo wsX10_allGo ({ frames := 6, cells := 0, slots := 0, locals := 152 }) cX10_allGo 4 (some .int) (dC, dI) (tysA cB cI cJ cZ cS) as 0 (wX cB cI cJ cZ cS a b b2 c0 rg sl s) [(0, .ref (c0 0)), (1, .int x1)] [] (fun x u => x = r ∧ u = (wX cB cI cJ cZ cS a b b2 c0 rg sl s')) := by
  intro p e s0 m below meth c A E H locs ls hP hD hS hl
  obtain ⟨C, hr, hlocks, hA, hK, hN⟩ := id E
  obtain ⟨hx, hb, hml, hown, hts⟩ := id C
  unfold kX10_allGo at hB
  refine lv_iload_n hx hb dX10_allGo_0 rfl (lv_at hl 1 rfl) ?_
  refine lv_if_lt (tgt := 9) hx hb dX10_allGo_1 (by decide) (fun c1 => ?_) (fun c1 => ?_)
  · have hB := if_p hB c1
    refine lv_iconst (v := (-1)) hx hb dX10_allGo_9 (by decide) ?_
    exact q_iret C hr hlocks hK hP hD hS (Nat.le_of_ble_eq_true rfl) (Nat.le_of_ble_eq_true rfl) dX10_allGo_10 (by cases hB; exact ⟨rfl, rfl⟩)
  · have hB := if_n hB c1
    refine lv_iload_n hx hb dX10_allGo_4 rfl (lv_at hl 1 rfl) ?_
    refine lv_iconst (v := 2) hx hb dX10_allGo_5 (by decide) ?_
    refine lv_icmp_le (tgt := 11) hx hb dX10_allGo_6 (by decide) (fun c2 => ?_) (fun c2 => ?_)
    · have hB := if_p hB c2
      refine lv_aload_n hx hb dX10_allGo_11 rfl (lv_at hl 0 rfl) ?_
      refine q_get (v := .ref (b2 0)) C inX10_allGo_X10 hK hP 0 rfl rfl 4 (by decide) rfl LX10_allGo_39 rfl dX10_allGo_12 ?_
      refine lv_aload_n hx hb dX10_allGo_15 rfl (lv_at hl 0 rfl) ?_
      refine q_get (v := .ref (b 0)) C inX10_allGo_X10 hK hP 0 rfl rfl 3 (by decide) rfl LX10_allGo_35 rfl dX10_allGo_16 ?_
      obtain ⟨s3, hc, hB⟩ := bindP_inv hB
      refine q_gov (wr := ((wG cZ cS a b b2 c0 rg sl s.g) ++ (wK cB cI cJ cZ cS a s.k))) (va_runVN (As := [.ref (b 0)]) (rest := []) C (ckX6_copyFrom hc _) ⟨va_cnB 1 hts gX10_allGo_X6_copyFrom_n227 rfl rfl rfl (hN _ nwM_X10_227 rfl) (hts _ LX10_allGo_I_X6) (by decide +kernel) ⟨Nat.le_of_ble_eq_true rfl, Nat.le_of_ble_eq_true rfl⟩, hts _ LX10_allGo_N_X6_copyFrom, hts _ LX10_allGo_E_X6_copyFrom⟩ (q_preV hK hP (ci := 6) (q0 := 5) rfl rfl rfl (q_pre hN hK hP hD [11, 12, 13, 14, 15, 16, 5, 6, 7, 8, 9, 10] (by first | exact zqs_26X | rfl) zqn_25)) rfl rfl hl.1 rfl (lv_room (Nat.le_of_ble_eq_true rfl)) dX10_allGo_19 ⟨Nat.le_of_ble_eq_true rfl, Nat.le_of_ble_eq_true rfl⟩) hP hD hS hA [11, 12, 13, 14, 15, 16, 5, 6, 7, 8, 9, 10] [0, 1, 2, 3, 4, 17, 18, 19, 20, 21, 22, 23, 24, 25, 26, 27, 28, 29, 30, 31, 32, 33, 34, 35, 36, 37, 38, 39, 40, 41, 42, 43, 44, 45, 46, 47, 48, 49, 50, 51, 52, 53, 54, 55, 56, 57, 58, 59, 60, 61, 62, 63] (by first | exact zqs_26X | rfl) (by first | exact zqs_27X | rfl) zqn_26 zqd_13 (fun w1 H locs hw hP hD hS => ?_)
      subst hw
      obtain ⟨s4, hs5, hB⟩ := letS_inv hB
      have hP : va_P (dC, dI) vwCl (wX cB cI cJ cZ cS a b b2 c0 rg sl s4) H := by subst hs5; exact hP.sub [0, 1, 2, 3, 4, 58, 59, 60, 61, 62, 63, 52, 53, 54, 55, 56, 57, 5, 6, 7, 8, 9, 10, 11, 12, 13, 14, 15, 16, 17, 18, 19, 20, 21, 22, 23, 24, 25, 26, 27, 28, 29, 30, 31, 32, 33, 34, 35, 36, 37, 38, 39, 40, 41, 42, 43, 44, 45, 46, 47, 48, 49, 50, 51] rfl
      have hD : va_D A (wX cB cI cJ cZ cS a b b2 c0 rg sl s4) := by subst hs5; exact hD.sub [0, 1, 2, 3, 4, 58, 59, 60, 61, 62, 63, 52, 53, 54, 55, 56, 57, 5, 6, 7, 8, 9, 10, 11, 12, 13, 14, 15, 16, 17, 18, 19, 20, 21, 22, 23, 24, 25, 26, 27, 28, 29, 30, 31, 32, 33, 34, 35, 36, 37, 38, 39, 40, 41, 42, 43, 44, 45, 46, 47, 48, 49, 50, 51] (by decide +kernel) rfl
      refine lv_iconst (v := 0) hx hb dX10_allGo_22 (by decide) ?_
      refine lv_istore_n (lv' := [(2, .int 0), (0, .ref (c0 0)), (1, .int x1)]) hx hb dX10_allGo_23 rfl hl (by decide) rfl (fun ls hl => ?_)
      exact bkX10_allGo_24L fu _ _ _ hB p e s0 m below meth c A E H locs ls hP hD hS (lv_sub hl [1, 2, 0] rfl)
    · have hB := if_n hB c2
      refine lv_iconst (v := (-1)) hx hb dX10_allGo_9 (by decide) ?_
      exact q_iret C hr hlocks hK hP hD hS (Nat.le_of_ble_eq_true rfl) (Nat.le_of_ble_eq_true rfl) dX10_allGo_10 (by cases hB; exact ⟨rfl, rfl⟩)
theorem ckX10_allGo {l : Launch} {dC : Nat → ClassId} {dI : Nat → Nat → Nat} {cB cI cJ cZ cS : ClassId} {a b b2 c0 : Nat → Nat} {rg sl : Nat → Option Nat} {r : Int32} {s' : XS} {s : XS} {x1 : Int32} (hB : kX10_allGo s x1 = some (r, s')) : CI l yX10_allGo wsX10_allGo ({ frames := 6, cells := 0, slots := 0, locals := 152 }) (dC, dI) (tysA cB cI cJ cZ cS) (wX cB cI cJ cZ cS a b b2 c0 rg sl s) [.ref (c0 0), .int x1] (fun x u => x = r ∧ u = (wX cB cI cJ cZ cS a b b2 c0 rg sl s')) :=
  CI_of (cc := cX10_allGo) (maxL := 4) (ret := (some .int)) (by decide) rfl (Nat.le_of_ble_eq_true rfl) (bkX10_allGo _ _ hB)
end
section
theorem ggX10_then_X5_hasWave : GoodIn wsX10_then wsX5_hasWave := gi_sub (fun w h => List.mem_cons_of_mem _ (List.mem_append_left _ (List.mem_append_left _ (List.mem_append_left _ (List.mem_append_left _ (List.mem_append_left _ (List.mem_append_right _ (List.mem_append_left _ h)))))))) gd_wsX5_hasWave
set_option maxRecDepth 20000 in
theorem gX10_then_X5_hasWave_n108 : GoodIn wsX10_then (wsX5_hasWave) := ggX10_then_X5_hasWave
theorem ggX10_then_X6_copyFrom : GoodIn wsX10_then wsX6_copyFrom := gi_sub (fun w h => List.mem_cons_of_mem _ (List.mem_append_left _ (List.mem_append_left _ (List.mem_append_left _ (List.mem_append_left _ (List.mem_append_left _ (List.mem_append_right _ (List.mem_append_right _ (List.mem_append_left _ h))))))))) gd_wsX6_copyFrom
set_option maxRecDepth 20000 in
theorem gX10_then_X6_copyFrom_n227 : GoodIn wsX10_then (wsX6_copyFrom) := ggX10_then_X6_copyFrom
theorem ggX10_then_X0_passYears : GoodIn wsX10_then wsX0_passYears := gi_sub (fun w h => List.mem_cons_of_mem _ (List.mem_append_left _ (List.mem_append_left _ (List.mem_append_left _ (List.mem_append_left _ (List.mem_append_left _ (List.mem_append_right _ (List.mem_append_right _ (List.mem_append_right _ (List.mem_append_left _ h)))))))))) gd_wsX0_passYears
set_option maxRecDepth 20000 in
theorem gX10_then_X0_passYears_n185 : GoodIn wsX10_then (wsX0_passYears) := ggX10_then_X0_passYears
theorem ggX10_then_X0_mayBe : GoodIn wsX10_then wsX0_mayBe := gi_sub (fun w h => List.mem_cons_of_mem _ (List.mem_append_left _ (List.mem_append_left _ (List.mem_append_left _ (List.mem_append_left _ (List.mem_append_left _ (List.mem_append_right _ (List.mem_append_right _ (List.mem_append_right _ (List.mem_append_right _ (List.mem_append_left _ h))))))))))) gd_wsX0_mayBe
set_option maxRecDepth 20000 in
theorem gX10_then_X0_mayBe_n111 : GoodIn wsX10_then (wsX0_mayBe) := ggX10_then_X0_mayBe
theorem ggX10_then_X0_thereNow : GoodIn wsX10_then wsX0_thereNow := gi_sub (fun w h => List.mem_cons_of_mem _ (List.mem_append_left _ (List.mem_append_left _ (List.mem_append_left _ (List.mem_append_left _ (List.mem_append_left _ (List.mem_append_right _ (List.mem_append_right _ (List.mem_append_right _ (List.mem_append_right _ (List.mem_append_right _ h))))))))))) gd_wsX0_thereNow
set_option maxRecDepth 20000 in
theorem gX10_then_X0_thereNow_n125 : GoodIn wsX10_then (wsX0_thereNow) := ggX10_then_X0_thereNow
theorem dX10_then_0 : decode cX10_then 0 = .ok (.aload_n 0, 1) := dc1_42 (by decide +kernel)
theorem dX10_then_1 : decode cX10_then 1 = .ok (.getfield 19, 3) := dcw_180 (by decide +kernel)
theorem dX10_then_4 : decode cX10_then 4 = .ok (.iload_n 1, 1) := dc1_27 (by decide +kernel)
theorem dX10_then_5 : decode cX10_then 5 = .ok (.invokevirtual 108, 3) := dcw_182 (by decide +kernel)
theorem dX10_then_8 : decode cX10_then 8 = .ok (.ifCond .eq 13, 3) := dcs_153 (n := 13) (by decide +kernel)
theorem dX10_then_11 : decode cX10_then 11 = .ok (.iload_n 2, 1) := dc1_28 (by decide +kernel)
theorem dX10_then_12 : decode cX10_then 12 = .ok (.ifCond .lt 9, 3) := dcs_155 (n := 9) (by decide +kernel)
theorem dX10_then_15 : decode cX10_then 15 = .ok (.iload_n 2, 1) := dc1_28 (by decide +kernel)
theorem dX10_then_16 : decode cX10_then 16 = .ok (.bipush 40, 2) := dcb_16 (n := 40) (by decide +kernel)
theorem dX10_then_18 : decode cX10_then 18 = .ok (.if_icmp .le 5, 3) := dcs_164 (n := 5) (by decide +kernel)
theorem dX10_then_21 : decode cX10_then 21 = .ok (.iconst (-1), 1) := dc1_2 (by decide +kernel)
theorem dX10_then_22 : decode cX10_then 22 = .ok (.ireturn, 1) := dc1_172 (by decide +kernel)
theorem dX10_then_23 : decode cX10_then 23 = .ok (.aload_n 0, 1) := dc1_42 (by decide +kernel)
theorem dX10_then_24 : decode cX10_then 24 = .ok (.getfield 39, 3) := dcw_180 (by decide +kernel)
theorem dX10_then_27 : decode cX10_then 27 = .ok (.aload_n 0, 1) := dc1_42 (by decide +kernel)
theorem dX10_then_28 : decode cX10_then 28 = .ok (.getfield 35, 3) := dcw_180 (by decide +kernel)
theorem dX10_then_31 : decode cX10_then 31 = .ok (.invokevirtual 227, 3) := dcw_182 (by decide +kernel)
theorem dX10_then_34 : decode cX10_then 34 = .ok (.aload_n 0, 1) := dc1_42 (by decide +kernel)
theorem dX10_then_35 : decode cX10_then 35 = .ok (.getfield 54, 3) := dcw_180 (by decide +kernel)
theorem dX10_then_38 : decode cX10_then 38 = .ok (.aload_n 0, 1) := dc1_42 (by decide +kernel)
theorem dX10_then_39 : decode cX10_then 39 = .ok (.getfield 39, 3) := dcw_180 (by decide +kernel)
theorem dX10_then_42 : decode cX10_then 42 = .ok (.iload_n 2, 1) := dc1_28 (by decide +kernel)
theorem dX10_then_43 : decode cX10_then 43 = .ok (.invokevirtual 185, 3) := dcw_182 (by decide +kernel)
theorem dX10_then_46 : decode cX10_then 46 = .ok (.iload_n 3, 1) := dc1_29 (by decide +kernel)
theorem dX10_then_47 : decode cX10_then 47 = .ok (.tableswitch 61 0 2 #[25, 38, 48], 25) := by decide +kernel
theorem dX10_then_72 : decode cX10_then 72 = .ok (.aload_n 0, 1) := dc1_42 (by decide +kernel)
theorem dX10_then_73 : decode cX10_then 73 = .ok (.getfield 54, 3) := dcw_180 (by decide +kernel)
theorem dX10_then_76 : decode cX10_then 76 = .ok (.aload_n 0, 1) := dc1_42 (by decide +kernel)
theorem dX10_then_77 : decode cX10_then 77 = .ok (.getfield 39, 3) := dcw_180 (by decide +kernel)
theorem dX10_then_80 : decode cX10_then 80 = .ok (.iload_n 1, 1) := dc1_27 (by decide +kernel)
theorem dX10_then_81 : decode cX10_then 81 = .ok (.invokevirtual 111, 3) := dcw_182 (by decide +kernel)
theorem dX10_then_84 : decode cX10_then 84 = .ok (.ireturn, 1) := dc1_172 (by decide +kernel)
theorem dX10_then_85 : decode cX10_then 85 = .ok (.aload_n 0, 1) := dc1_42 (by decide +kernel)
theorem dX10_then_86 : decode cX10_then 86 = .ok (.getfield 39, 3) := dcw_180 (by decide +kernel)
theorem dX10_then_89 : decode cX10_then 89 = .ok (.getfield 122, 3) := dcw_180 (by decide +kernel)
theorem dX10_then_92 : decode cX10_then 92 = .ok (.iload_n 1, 1) := dc1_27 (by decide +kernel)
theorem dX10_then_93 : decode cX10_then 93 = .ok (.iaload, 1) := dc1_46 (by decide +kernel)
theorem dX10_then_94 : decode cX10_then 94 = .ok (.ireturn, 1) := dc1_172 (by decide +kernel)
theorem dX10_then_95 : decode cX10_then 95 = .ok (.aload_n 0, 1) := dc1_42 (by decide +kernel)
theorem dX10_then_96 : decode cX10_then 96 = .ok (.getfield 54, 3) := dcw_180 (by decide +kernel)
theorem dX10_then_99 : decode cX10_then 99 = .ok (.aload_n 0, 1) := dc1_42 (by decide +kernel)
theorem dX10_then_100 : decode cX10_then 100 = .ok (.getfield 39, 3) := dcw_180 (by decide +kernel)
theorem dX10_then_103 : decode cX10_then 103 = .ok (.iload_n 1, 1) := dc1_27 (by decide +kernel)
theorem dX10_then_104 : decode cX10_then 104 = .ok (.invokevirtual 125, 3) := dcw_182 (by decide +kernel)
theorem dX10_then_107 : decode cX10_then 107 = .ok (.ireturn, 1) := dc1_172 (by decide +kernel)
theorem dX10_then_108 : decode cX10_then 108 = .ok (.iconst (-1), 1) := dc1_2 (by decide +kernel)
theorem dX10_then_109 : decode cX10_then 109 = .ok (.ireturn, 1) := dc1_172 (by decide +kernel)
theorem ggX10_next_X5_hasWave : GoodIn wsX10_next wsX5_hasWave := gi_sub (fun w h => List.mem_cons_of_mem _ (List.mem_append_left _ (List.mem_append_left _ (List.mem_append_left _ (List.mem_append_left _ (List.mem_append_left _ (List.mem_append_right _ (List.mem_append_left _ h)))))))) gd_wsX5_hasWave
set_option maxRecDepth 20000 in
theorem gX10_next_X5_hasWave_n108 : GoodIn wsX10_next (wsX5_hasWave) := ggX10_next_X5_hasWave
theorem ggX10_next_X6_copyFrom : GoodIn wsX10_next wsX6_copyFrom := gi_sub (fun w h => List.mem_cons_of_mem _ (List.mem_append_left _ (List.mem_append_left _ (List.mem_append_left _ (List.mem_append_left _ (List.mem_append_left _ (List.mem_append_right _ (List.mem_append_right _ (List.mem_append_left _ h))))))))) gd_wsX6_copyFrom
set_option maxRecDepth 20000 in
theorem gX10_next_X6_copyFrom_n227 : GoodIn wsX10_next (wsX6_copyFrom) := ggX10_next_X6_copyFrom
theorem ggX10_next_X0_passYears : GoodIn wsX10_next wsX0_passYears := gi_sub (fun w h => List.mem_cons_of_mem _ (List.mem_append_left _ (List.mem_append_left _ (List.mem_append_left _ (List.mem_append_left _ (List.mem_append_left _ (List.mem_append_right _ (List.mem_append_right _ (List.mem_append_right _ h))))))))) gd_wsX0_passYears
set_option maxRecDepth 20000 in
theorem gX10_next_X0_passYears_n185 : GoodIn wsX10_next (wsX0_passYears) := ggX10_next_X0_passYears
theorem dX10_next_0 : decode cX10_next 0 = .ok (.aload_n 0, 1) := dc1_42 (by decide +kernel)
theorem dX10_next_1 : decode cX10_next 1 = .ok (.getfield 19, 3) := dcw_180 (by decide +kernel)
theorem dX10_next_4 : decode cX10_next 4 = .ok (.iload_n 1, 1) := dc1_27 (by decide +kernel)
theorem dX10_next_5 : decode cX10_next 5 = .ok (.invokevirtual 108, 3) := dcw_182 (by decide +kernel)
theorem dX10_next_8 : decode cX10_next 8 = .ok (.ifCond .ne 5, 3) := dcs_154 (n := 5) (by decide +kernel)
theorem dX10_next_11 : decode cX10_next 11 = .ok (.iconst (-1), 1) := dc1_2 (by decide +kernel)
theorem dX10_next_12 : decode cX10_next 12 = .ok (.ireturn, 1) := dc1_172 (by decide +kernel)
theorem dX10_next_13 : decode cX10_next 13 = .ok (.aload_n 0, 1) := dc1_42 (by decide +kernel)
theorem dX10_next_14 : decode cX10_next 14 = .ok (.getfield 39, 3) := dcw_180 (by decide +kernel)
theorem dX10_next_17 : decode cX10_next 17 = .ok (.aload_n 0, 1) := dc1_42 (by decide +kernel)
theorem dX10_next_18 : decode cX10_next 18 = .ok (.getfield 35, 3) := dcw_180 (by decide +kernel)
theorem dX10_next_21 : decode cX10_next 21 = .ok (.invokevirtual 227, 3) := dcw_182 (by decide +kernel)
theorem dX10_next_24 : decode cX10_next 24 = .ok (.iconst 1, 1) := dc1_4 (by decide +kernel)
theorem dX10_next_25 : decode cX10_next 25 = .ok (.istore_n 2, 1) := dc1_61 (by decide +kernel)
theorem dX10_next_26 : decode cX10_next 26 = .ok (.iload_n 2, 1) := dc1_28 (by decide +kernel)
theorem dX10_next_27 : decode cX10_next 27 = .ok (.bipush 40, 2) := dcb_16 (n := 40) (by decide +kernel)
theorem dX10_next_29 : decode cX10_next 29 = .ok (.if_icmp .gt 44, 3) := dcs_163 (n := 44) (by decide +kernel)
theorem dX10_next_32 : decode cX10_next 32 = .ok (.aload_n 0, 1) := dc1_42 (by decide +kernel)
theorem dX10_next_33 : decode cX10_next 33 = .ok (.getfield 54, 3) := dcw_180 (by decide +kernel)
theorem dX10_next_36 : decode cX10_next 36 = .ok (.aload_n 0, 1) := dc1_42 (by decide +kernel)
theorem dX10_next_37 : decode cX10_next 37 = .ok (.getfield 39, 3) := dcw_180 (by decide +kernel)
theorem dX10_next_40 : decode cX10_next 40 = .ok (.iconst 1, 1) := dc1_4 (by decide +kernel)
theorem dX10_next_41 : decode cX10_next 41 = .ok (.invokevirtual 185, 3) := dcw_182 (by decide +kernel)
theorem dX10_next_44 : decode cX10_next 44 = .ok (.aload_n 0, 1) := dc1_42 (by decide +kernel)
theorem dX10_next_45 : decode cX10_next 45 = .ok (.getfield 39, 3) := dcw_180 (by decide +kernel)
theorem dX10_next_48 : decode cX10_next 48 = .ok (.getfield 122, 3) := dcw_180 (by decide +kernel)
theorem dX10_next_51 : decode cX10_next 51 = .ok (.iload_n 1, 1) := dc1_27 (by decide +kernel)
theorem dX10_next_52 : decode cX10_next 52 = .ok (.iaload, 1) := dc1_46 (by decide +kernel)
theorem dX10_next_53 : decode cX10_next 53 = .ok (.aload_n 0, 1) := dc1_42 (by decide +kernel)
theorem dX10_next_54 : decode cX10_next 54 = .ok (.getfield 35, 3) := dcw_180 (by decide +kernel)
theorem dX10_next_57 : decode cX10_next 57 = .ok (.getfield 122, 3) := dcw_180 (by decide +kernel)
theorem dX10_next_60 : decode cX10_next 60 = .ok (.iload_n 1, 1) := dc1_27 (by decide +kernel)
theorem dX10_next_61 : decode cX10_next 61 = .ok (.iaload, 1) := dc1_46 (by decide +kernel)
theorem dX10_next_62 : decode cX10_next 62 = .ok (.if_icmp .eq 5, 3) := dcs_159 (n := 5) (by decide +kernel)
theorem dX10_next_65 : decode cX10_next 65 = .ok (.iload_n 2, 1) := dc1_28 (by decide +kernel)
theorem dX10_next_66 : decode cX10_next 66 = .ok (.ireturn, 1) := dc1_172 (by decide +kernel)
theorem dX10_next_67 : decode cX10_next 67 = .ok (.iinc 2 1, 3) := dc_iinc (m := 1) (by decide +kernel)
theorem dX10_next_70 : decode cX10_next 70 = .ok (.goto (-44), 3) := dcs_167 (n := 65492) (by decide +kernel)
theorem dX10_next_73 : decode cX10_next 73 = .ok (.bipush (-2), 2) := dcb_16 (n := 254) (by decide +kernel)
theorem dX10_next_75 : decode cX10_next 75 = .ok (.ireturn, 1) := dc1_172 (by decide +kernel)
theorem ggX10_count_X10_partiesThatAre : GoodIn wsX10_count wsX10_partiesThatAre := gi_sub (fun w h => List.mem_cons_of_mem _ (List.mem_append_left _ (List.mem_append_left _ (List.mem_append_left _ (List.mem_append_left _ (List.mem_append_left _ (List.mem_append_left _ (List.mem_append_left _ (List.mem_append_left _ (List.mem_append_right _ (List.mem_append_left _ h))))))))))) gd_wsX10_partiesThatAre
set_option maxRecDepth 20000 in
theorem gX10_count_X10_partiesThatAre : GoodIn wsX10_count (wsV RX10 244 RX10 yX10_partiesThatAre wsX10_partiesThatAre) := goodIn_app (goodIn_r _ [7, 8, 9, 10] (by decide +kernel) (by decide +kernel)) ggX10_count_X10_partiesThatAre
theorem ggX10_count_X10_sumOf : GoodIn wsX10_count wsX10_sumOf := gi_sub (fun w h => List.mem_cons_of_mem _ (List.mem_append_left _ (List.mem_append_left _ (List.mem_append_left _ (List.mem_append_left _ (List.mem_append_left _ (List.mem_append_left _ (List.mem_append_left _ (List.mem_append_left _ (List.mem_append_right _ (List.mem_append_right _ (List.mem_append_left _ h)))))))))))) gd_wsX10_sumOf
set_option maxRecDepth 20000 in
theorem gX10_count_X10_sumOf : GoodIn wsX10_count (va_wsS RX10 289 yX10_sumOf wsX10_sumOf) := goodIn_app (goodIn_of _ (by decide +kernel)) ggX10_count_X10_sumOf
theorem ggX10_count_X3_slotsHeld : GoodIn wsX10_count wsX3_slotsHeld := gi_sub (fun w h => List.mem_cons_of_mem _ (List.mem_append_left _ (List.mem_append_left _ (List.mem_append_left _ (List.mem_append_left _ (List.mem_append_left _ (List.mem_append_left _ (List.mem_append_left _ (List.mem_append_left _ (List.mem_append_right _ (List.mem_append_right _ (List.mem_append_right _ (List.mem_append_left _ h))))))))))))) gd_wsX3_slotsHeld
set_option maxRecDepth 20000 in
theorem gX10_count_X3_slotsHeld_n296 : GoodIn wsX10_count (wsX3_slotsHeld) := ggX10_count_X3_slotsHeld
theorem ggX10_count_X10_buoysLying : GoodIn wsX10_count wsX10_buoysLying := gi_sub (fun w h => List.mem_cons_of_mem _ (List.mem_append_left _ (List.mem_append_left _ (List.mem_append_left _ (List.mem_append_left _ (List.mem_append_left _ (List.mem_append_left _ (List.mem_append_left _ (List.mem_append_left _ (List.mem_append_right _ (List.mem_append_right _ (List.mem_append_right _ (List.mem_append_right _ (List.mem_append_left _ h)))))))))))))) gd_wsX10_buoysLying
set_option maxRecDepth 20000 in
theorem gX10_count_X10_buoysLying : GoodIn wsX10_count (wsV RX10 299 RX10 yX10_buoysLying wsX10_buoysLying) := goodIn_app (goodIn_r _ [16, 17, 18, 10] (by decide +kernel) (by decide +kernel)) ggX10_count_X10_buoysLying
theorem ggX10_count_X10_wavesFound : GoodIn wsX10_count wsX10_wavesFound := gi_sub (fun w h => List.mem_cons_of_mem _ (List.mem_append_left _ (List.mem_append_left _ (List.mem_append_left _ (List.mem_append_left _ (List.mem_append_left _ (List.mem_append_left _ (List.mem_append_left _ (List.mem_append_left _ (List.mem_append_right _ (List.mem_append_right _ (List.mem_append_right _ (List.mem_append_right _ (List.mem_append_right _ (List.mem_append_left _ h))))))))))))))) gd_wsX10_wavesFound
set_option maxRecDepth 20000 in
theorem gX10_count_X10_wavesFound : GoodIn wsX10_count (wsV RX10 302 RX10 yX10_wavesFound wsX10_wavesFound) := goodIn_app (goodIn_r _ [20, 21, 22, 10] (by decide +kernel) (by decide +kernel)) ggX10_count_X10_wavesFound
theorem ggX10_count_X0_guessThere : GoodIn wsX10_count wsX0_guessThere := gi_sub (fun w h => List.mem_cons_of_mem _ (List.mem_append_left _ (List.mem_append_left _ (List.mem_append_left _ (List.mem_append_left _ (List.mem_append_left _ (List.mem_append_left _ (List.mem_append_left _ (List.mem_append_left _ (List.mem_append_right _ (List.mem_append_right _ (List.mem_append_right _ (List.mem_append_right _ (List.mem_append_right _ (List.mem_append_right _ (List.mem_append_left _ h)))))))))))))))) gd_wsX0_guessThere
set_option maxRecDepth 20000 in
theorem gX10_count_X0_guessThere_n256 : GoodIn wsX10_count (wsX0_guessThere) := ggX10_count_X0_guessThere
theorem ggX10_count_X10_wavesWithNothing : GoodIn wsX10_count wsX10_wavesWithNothing := gi_sub (fun w h => List.mem_cons_of_mem _ (List.mem_append_left _ (List.mem_append_left _ (List.mem_append_left _ (List.mem_append_left _ (List.mem_append_left _ (List.mem_append_left _ (List.mem_append_left _ (List.mem_append_left _ (List.mem_append_right _ (List.mem_append_right _ (List.mem_append_right _ (List.mem_append_right _ (List.mem_append_right _ (List.mem_append_right _ (List.mem_append_right _ (List.mem_append_left _ h))))))))))))))))) gd_wsX10_wavesWithNothing
set_option maxRecDepth 20000 in
theorem gX10_count_X10_wavesWithNothing : GoodIn wsX10_count (wsV RX10 308 RX10 yX10_wavesWithNothing wsX10_wavesWithNothing) := goodIn_app (goodIn_r _ [27, 28, 29, 10] (by decide +kernel) (by decide +kernel)) ggX10_count_X10_wavesWithNothing
theorem ggX10_count_X10_faresOfAllHere : GoodIn wsX10_count wsX10_faresOfAllHere := gi_sub (fun w h => List.mem_cons_of_mem _ (List.mem_append_left _ (List.mem_append_left _ (List.mem_append_left _ (List.mem_append_left _ (List.mem_append_left _ (List.mem_append_left _ (List.mem_append_left _ (List.mem_append_left _ (List.mem_append_right _ (List.mem_append_right _ (List.mem_append_right _ (List.mem_append_right _ (List.mem_append_right _ (List.mem_append_right _ (List.mem_append_right _ (List.mem_append_right _ h))))))))))))))))) gd_wsX10_faresOfAllHere
set_option maxRecDepth 20000 in
theorem gX10_count_X10_faresOfAllHere : GoodIn wsX10_count (wsV RX10 311 RX10 yX10_faresOfAllHere wsX10_faresOfAllHere) := goodIn_app (goodIn_r _ [30, 31, 32, 10] (by decide +kernel) (by decide +kernel)) ggX10_count_X10_faresOfAllHere
theorem dX10_count_0 : decode cX10_count 0 = .ok (.iload_n 1, 1) := dc1_27 (by decide +kernel)
theorem dX10_count_1 : decode cX10_count 1 = .ok (.tableswitch 254 0 18 #[91, 99, 107, 115, 123, 133, 143, 153, 164, 172, 180, 188, 196, 201, 206, 214, 233, 244, 249], 91) := by decide +kernel
theorem dX10_count_92 : decode cX10_count 92 = .ok (.aload_n 0, 1) := dc1_42 (by decide +kernel)
theorem dX10_count_93 : decode cX10_count 93 = .ok (.getfield 19, 3) := dcw_180 (by decide +kernel)
theorem dX10_count_96 : decode cX10_count 96 = .ok (.getfield 167, 3) := dcw_180 (by decide +kernel)
theorem dX10_count_99 : decode cX10_count 99 = .ok (.ireturn, 1) := dc1_172 (by decide +kernel)
theorem dX10_count_100 : decode cX10_count 100 = .ok (.aload_n 0, 1) := dc1_42 (by decide +kernel)
theorem dX10_count_101 : decode cX10_count 101 = .ok (.getfield 19, 3) := dcw_180 (by decide +kernel)
theorem dX10_count_104 : decode cX10_count 104 = .ok (.getfield 235, 3) := dcw_180 (by decide +kernel)
theorem dX10_count_107 : decode cX10_count 107 = .ok (.ireturn, 1) := dc1_172 (by decide +kernel)
theorem dX10_count_108 : decode cX10_count 108 = .ok (.aload_n 0, 1) := dc1_42 (by decide +kernel)
theorem dX10_count_109 : decode cX10_count 109 = .ok (.getfield 35, 3) := dcw_180 (by decide +kernel)
theorem dX10_count_112 : decode cX10_count 112 = .ok (.getfield 189, 3) := dcw_180 (by decide +kernel)
theorem dX10_count_115 : decode cX10_count 115 = .ok (.ireturn, 1) := dc1_172 (by decide +kernel)
theorem dX10_count_116 : decode cX10_count 116 = .ok (.aload_n 0, 1) := dc1_42 (by decide +kernel)
theorem dX10_count_117 : decode cX10_count 117 = .ok (.getfield 35, 3) := dcw_180 (by decide +kernel)
theorem dX10_count_120 : decode cX10_count 120 = .ok (.getfield 241, 3) := dcw_180 (by decide +kernel)
theorem dX10_count_123 : decode cX10_count 123 = .ok (.ireturn, 1) := dc1_172 (by decide +kernel)
theorem dX10_count_124 : decode cX10_count 124 = .ok (.aload_n 0, 1) := dc1_42 (by decide +kernel)
theorem dX10_count_125 : decode cX10_count 125 = .ok (.aload_n 0, 1) := dc1_42 (by decide +kernel)
theorem dX10_count_126 : decode cX10_count 126 = .ok (.getfield 35, 3) := dcw_180 (by decide +kernel)
theorem dX10_count_129 : decode cX10_count 129 = .ok (.iconst 0, 1) := dc1_3 (by decide +kernel)
theorem dX10_count_130 : decode cX10_count 130 = .ok (.invokevirtual 244, 3) := dcw_182 (by decide +kernel)
theorem dX10_count_133 : decode cX10_count 133 = .ok (.ireturn, 1) := dc1_172 (by decide +kernel)
theorem dX10_count_134 : decode cX10_count 134 = .ok (.aload_n 0, 1) := dc1_42 (by decide +kernel)
theorem dX10_count_135 : decode cX10_count 135 = .ok (.aload_n 0, 1) := dc1_42 (by decide +kernel)
theorem dX10_count_136 : decode cX10_count 136 = .ok (.getfield 35, 3) := dcw_180 (by decide +kernel)
theorem dX10_count_139 : decode cX10_count 139 = .ok (.iconst 1, 1) := dc1_4 (by decide +kernel)
theorem dX10_count_140 : decode cX10_count 140 = .ok (.invokevirtual 244, 3) := dcw_182 (by decide +kernel)
theorem dX10_count_143 : decode cX10_count 143 = .ok (.ireturn, 1) := dc1_172 (by decide +kernel)
theorem dX10_count_144 : decode cX10_count 144 = .ok (.aload_n 0, 1) := dc1_42 (by decide +kernel)
theorem dX10_count_145 : decode cX10_count 145 = .ok (.aload_n 0, 1) := dc1_42 (by decide +kernel)
theorem dX10_count_146 : decode cX10_count 146 = .ok (.getfield 35, 3) := dcw_180 (by decide +kernel)
theorem dX10_count_149 : decode cX10_count 149 = .ok (.iconst 2, 1) := dc1_5 (by decide +kernel)
theorem dX10_count_150 : decode cX10_count 150 = .ok (.invokevirtual 244, 3) := dcw_182 (by decide +kernel)
theorem dX10_count_153 : decode cX10_count 153 = .ok (.ireturn, 1) := dc1_172 (by decide +kernel)
theorem dX10_count_154 : decode cX10_count 154 = .ok (.aload_n 0, 1) := dc1_42 (by decide +kernel)
theorem dX10_count_155 : decode cX10_count 155 = .ok (.getfield 35, 3) := dcw_180 (by decide +kernel)
theorem dX10_count_158 : decode cX10_count 158 = .ok (.getfield 150, 3) := dcw_180 (by decide +kernel)
theorem dX10_count_161 : decode cX10_count 161 = .ok (.invokestatic 289, 3) := dcw_184 (by decide +kernel)
theorem dX10_count_164 : decode cX10_count 164 = .ok (.ireturn, 1) := dc1_172 (by decide +kernel)
theorem dX10_count_165 : decode cX10_count 165 = .ok (.aload_n 0, 1) := dc1_42 (by decide +kernel)
theorem dX10_count_166 : decode cX10_count 166 = .ok (.getfield 10, 3) := dcw_180 (by decide +kernel)
theorem dX10_count_169 : decode cX10_count 169 = .ok (.getfield 85, 3) := dcw_180 (by decide +kernel)
theorem dX10_count_172 : decode cX10_count 172 = .ok (.ireturn, 1) := dc1_172 (by decide +kernel)
theorem dX10_count_173 : decode cX10_count 173 = .ok (.aload_n 0, 1) := dc1_42 (by decide +kernel)
theorem dX10_count_174 : decode cX10_count 174 = .ok (.getfield 45, 3) := dcw_180 (by decide +kernel)
theorem dX10_count_177 : decode cX10_count 177 = .ok (.getfield 293, 3) := dcw_180 (by decide +kernel)
theorem dX10_count_180 : decode cX10_count 180 = .ok (.ireturn, 1) := dc1_172 (by decide +kernel)
theorem dX10_count_181 : decode cX10_count 181 = .ok (.aload_n 0, 1) := dc1_42 (by decide +kernel)
theorem dX10_count_182 : decode cX10_count 182 = .ok (.getfield 70, 3) := dcw_180 (by decide +kernel)
theorem dX10_count_185 : decode cX10_count 185 = .ok (.getfield 102, 3) := dcw_180 (by decide +kernel)
theorem dX10_count_188 : decode cX10_count 188 = .ok (.ireturn, 1) := dc1_172 (by decide +kernel)
theorem dX10_count_189 : decode cX10_count 189 = .ok (.aload_n 0, 1) := dc1_42 (by decide +kernel)
theorem dX10_count_190 : decode cX10_count 190 = .ok (.getfield 45, 3) := dcw_180 (by decide +kernel)
theorem dX10_count_193 : decode cX10_count 193 = .ok (.invokevirtual 296, 3) := dcw_182 (by decide +kernel)
theorem dX10_count_196 : decode cX10_count 196 = .ok (.ireturn, 1) := dc1_172 (by decide +kernel)
theorem dX10_count_197 : decode cX10_count 197 = .ok (.aload_n 0, 1) := dc1_42 (by decide +kernel)
theorem dX10_count_198 : decode cX10_count 198 = .ok (.invokevirtual 299, 3) := dcw_182 (by decide +kernel)
theorem dX10_count_201 : decode cX10_count 201 = .ok (.ireturn, 1) := dc1_172 (by decide +kernel)
theorem dX10_count_202 : decode cX10_count 202 = .ok (.aload_n 0, 1) := dc1_42 (by decide +kernel)
theorem dX10_count_203 : decode cX10_count 203 = .ok (.invokevirtual 302, 3) := dcw_182 (by decide +kernel)
theorem dX10_count_206 : decode cX10_count 206 = .ok (.ireturn, 1) := dc1_172 (by decide +kernel)
theorem dX10_count_207 : decode cX10_count 207 = .ok (.aload_n 0, 1) := dc1_42 (by decide +kernel)
theorem dX10_count_208 : decode cX10_count 208 = .ok (.getfield 19, 3) := dcw_180 (by decide +kernel)
theorem dX10_count_211 : decode cX10_count 211 = .ok (.getfield 305, 3) := dcw_180 (by decide +kernel)
theorem dX10_count_214 : decode cX10_count 214 = .ok (.ireturn, 1) := dc1_172 (by decide +kernel)
theorem dX10_count_215 : decode cX10_count 215 = .ok (.aload_n 0, 1) := dc1_42 (by decide +kernel)
theorem dX10_count_216 : decode cX10_count 216 = .ok (.getfield 54, 3) := dcw_180 (by decide +kernel)
theorem dX10_count_219 : decode cX10_count 219 = .ok (.aload_n 0, 1) := dc1_42 (by decide +kernel)
theorem dX10_count_220 : decode cX10_count 220 = .ok (.getfield 35, 3) := dcw_180 (by decide +kernel)
theorem dX10_count_223 : decode cX10_count 223 = .ok (.aload_n 0, 1) := dc1_42 (by decide +kernel)
theorem dX10_count_224 : decode cX10_count 224 = .ok (.getfield 19, 3) := dcw_180 (by decide +kernel)
theorem dX10_count_227 : decode cX10_count 227 = .ok (.getfield 253, 3) := dcw_180 (by decide +kernel)
theorem dX10_count_230 : decode cX10_count 230 = .ok (.invokevirtual 256, 3) := dcw_182 (by decide +kernel)
theorem dX10_count_233 : decode cX10_count 233 = .ok (.ireturn, 1) := dc1_172 (by decide +kernel)
theorem dX10_count_234 : decode cX10_count 234 = .ok (.aload_n 0, 1) := dc1_42 (by decide +kernel)
theorem dX10_count_235 : decode cX10_count 235 = .ok (.getfield 35, 3) := dcw_180 (by decide +kernel)
theorem dX10_count_238 : decode cX10_count 238 = .ok (.getfield 122, 3) := dcw_180 (by decide +kernel)
theorem dX10_count_241 : decode cX10_count 241 = .ok (.invokestatic 289, 3) := dcw_184 (by decide +kernel)
theorem dX10_count_244 : decode cX10_count 244 = .ok (.ireturn, 1) := dc1_172 (by decide +kernel)
theorem dX10_count_245 : decode cX10_count 245 = .ok (.aload_n 0, 1) := dc1_42 (by decide +kernel)
theorem dX10_count_246 : decode cX10_count 246 = .ok (.invokevirtual 308, 3) := dcw_182 (by decide +kernel)
theorem dX10_count_249 : decode cX10_count 249 = .ok (.ireturn, 1) := dc1_172 (by decide +kernel)
theorem dX10_count_250 : decode cX10_count 250 = .ok (.aload_n 0, 1) := dc1_42 (by decide +kernel)
theorem dX10_count_251 : decode cX10_count 251 = .ok (.invokevirtual 311, 3) := dcw_182 (by decide +kernel)
theorem dX10_count_254 : decode cX10_count 254 = .ok (.ireturn, 1) := dc1_172 (by decide +kernel)
theorem dX10_count_255 : decode cX10_count 255 = .ok (.iconst (-1), 1) := dc1_2 (by decide +kernel)
theorem dX10_count_256 : decode cX10_count 256 = .ok (.ireturn, 1) := dc1_172 (by decide +kernel)
theorem LX10_then_19 : Cond.fieldLink RX10 19 "GuessFerry" "sound" "LGuessFerry$Sound;" ∈ wsX10_then := (List.mem_cons_of_mem _ (List.mem_append_left _ (List.mem_append_left _ (List.mem_append_left _ (List.mem_append_left _ (List.mem_append_left _ (List.mem_append_left _ (List.mem_of_getElem? (i := 0) rfl))))))))
theorem LX10_then_35 : Cond.fieldLink RX10 35 "GuessFerry" "now" "LGuessFerry$Standing;" ∈ wsX10_then := (List.mem_cons_of_mem _ (List.mem_append_left _ (List.mem_append_left _ (List.mem_append_left _ (List.mem_append_left _ (List.mem_append_left _ (List.mem_append_left _ (List.mem_of_getElem? (i := 2) rfl))))))))
theorem LX10_then_39 : Cond.fieldLink RX10 39 "GuessFerry" "trial" "LGuessFerry$Standing;" ∈ wsX10_then := (List.mem_cons_of_mem _ (List.mem_append_left _ (List.mem_append_left _ (List.mem_append_left _ (List.mem_append_left _ (List.mem_append_left _ (List.mem_append_left _ (List.mem_of_getElem? (i := 1) rfl))))))))
theorem LX10_then_54 : Cond.fieldLink RX10 54 "GuessFerry" "crossing" "LGuessFerry$Crossing;" ∈ wsX10_then := (List.mem_cons_of_mem _ (List.mem_append_left _ (List.mem_append_left _ (List.mem_append_left _ (List.mem_append_left _ (List.mem_append_left _ (List.mem_append_left _ (List.mem_of_getElem? (i := 3) rfl))))))))
theorem LX10_then_E_X0_mayBe : Cond.selects RX0 yX0_mayBe yX0_mayBe ∈ wsX10_then := (List.mem_cons_of_mem _ (List.mem_append_left _ (List.mem_append_left _ (List.mem_append_left _ (List.mem_append_left _ (List.mem_append_left _ (List.mem_append_left _ (List.mem_of_getElem? (i := 14) rfl))))))))
theorem LX10_then_E_X0_passYears : Cond.selects RX0 yX0_passYears yX0_passYears ∈ wsX10_then := (List.mem_cons_of_mem _ (List.mem_append_left _ (List.mem_append_left _ (List.mem_append_left _ (List.mem_append_left _ (List.mem_append_left _ (List.mem_append_left _ (List.mem_of_getElem? (i := 12) rfl))))))))
theorem LX10_then_E_X0_thereNow : Cond.selects RX0 yX0_thereNow yX0_thereNow ∈ wsX10_then := (List.mem_cons_of_mem _ (List.mem_append_left _ (List.mem_append_left _ (List.mem_append_left _ (List.mem_append_left _ (List.mem_append_left _ (List.mem_append_left _ (List.mem_of_getElem? (i := 16) rfl))))))))
theorem LX10_then_E_X5_hasWave : Cond.selects RX5 yX5_hasWave yX5_hasWave ∈ wsX10_then := (List.mem_cons_of_mem _ (List.mem_append_left _ (List.mem_append_left _ (List.mem_append_left _ (List.mem_append_left _ (List.mem_append_left _ (List.mem_append_left _ (List.mem_of_getElem? (i := 6) rfl))))))))
theorem LX10_then_E_X6_copyFrom : Cond.selects RX6 yX6_copyFrom yX6_copyFrom ∈ wsX10_then := (List.mem_cons_of_mem _ (List.mem_append_left _ (List.mem_append_left _ (List.mem_append_left _ (List.mem_append_left _ (List.mem_append_left _ (List.mem_append_left _ (List.mem_of_getElem? (i := 9) rfl))))))))
theorem LX10_then_I_X0 : Cond.initialized RX0 ∈ wsX10_then := (List.mem_cons_of_mem _ (List.mem_append_left _ (List.mem_append_left _ (List.mem_append_left _ (List.mem_append_left _ (List.mem_append_left _ (List.mem_append_left _ (List.mem_of_getElem? (i := 11) rfl))))))))
theorem LX10_then_I_X5 : Cond.initialized RX5 ∈ wsX10_then := (List.mem_cons_of_mem _ (List.mem_append_left _ (List.mem_append_left _ (List.mem_append_left _ (List.mem_append_left _ (List.mem_append_left _ (List.mem_append_left _ (List.mem_of_getElem? (i := 5) rfl))))))))
theorem LX10_then_I_X6 : Cond.initialized RX6 ∈ wsX10_then := (List.mem_cons_of_mem _ (List.mem_append_left _ (List.mem_append_left _ (List.mem_append_left _ (List.mem_append_left _ (List.mem_append_left _ (List.mem_append_left _ (List.mem_of_getElem? (i := 8) rfl))))))))
theorem LX10_then_N_X0_mayBe : Cond.instanceMethod yX0_mayBe ∈ wsX10_then := (List.mem_cons_of_mem _ (List.mem_append_left _ (List.mem_append_left _ (List.mem_append_left _ (List.mem_append_left _ (List.mem_append_left _ (List.mem_append_left _ (List.mem_of_getElem? (i := 13) rfl))))))))
theorem LX10_then_N_X0_passYears : Cond.instanceMethod yX0_passYears ∈ wsX10_then := (List.mem_cons_of_mem _ (List.mem_append_left _ (List.mem_append_left _ (List.mem_append_left _ (List.mem_append_left _ (List.mem_append_left _ (List.mem_append_left _ (List.mem_of_getElem? (i := 10) rfl))))))))
theorem LX10_then_N_X0_thereNow : Cond.instanceMethod yX0_thereNow ∈ wsX10_then := (List.mem_cons_of_mem _ (List.mem_append_left _ (List.mem_append_left _ (List.mem_append_left _ (List.mem_append_left _ (List.mem_append_left _ (List.mem_append_left _ (List.mem_of_getElem? (i := 15) rfl))))))))
theorem LX10_then_N_X5_hasWave : Cond.instanceMethod yX5_hasWave ∈ wsX10_then := (List.mem_cons_of_mem _ (List.mem_append_left _ (List.mem_append_left _ (List.mem_append_left _ (List.mem_append_left _ (List.mem_append_left _ (List.mem_append_left _ (List.mem_of_getElem? (i := 4) rfl))))))))
theorem LX10_then_N_X6_copyFrom : Cond.instanceMethod yX6_copyFrom ∈ wsX10_then := (List.mem_cons_of_mem _ (List.mem_append_left _ (List.mem_append_left _ (List.mem_append_left _ (List.mem_append_left _ (List.mem_append_left _ (List.mem_append_left _ (List.mem_of_getElem? (i := 7) rfl))))))))
theorem inX10_then_X10 : ∀ w ∈ u_ws RX10 TX10 9, w ∈ wsX10_then := fun w h => (List.mem_cons_of_mem _ (List.mem_append_left _ (List.mem_append_left _ (List.mem_append_left _ (List.mem_append_left _ (List.mem_append_right _ h))))))
theorem inX10_then_X6 : ∀ w ∈ u_ws RX6 TX6 7, w ∈ wsX10_then := fun w h => (List.mem_cons_of_mem _ (List.mem_append_left _ (List.mem_append_left _ (List.mem_append_left _ (List.mem_append_right _ h)))))
set_option maxHeartbeats 4000000 in
set_option maxRecDepth 100000 in
theorem bkX10_then {l : Launch} {dC : Nat → ClassId} {dI : Nat → Nat → Nat} {cB cI cJ cZ cS : ClassId} {a b b2 c0 : Nat → Nat} {rg sl : Nat → Option Nat} {as : List Value} {r : Int32} {s' : XS} (s : XS) (x1 : Int32) (x2 : Int32) (x3 : Int32) (hB : kX10_then s x1 x2 x3 = some (r, s')) : BlkI l yX10_then wsX10_then ({ frames := 6, cells := 0, slots := 0, locals := 145 }) cX10_then 4 (some .int) (dC, dI) (tysA cB cI cJ cZ cS) as 0 (wX cB cI cJ cZ cS a b b2 c0 rg sl s) [(0, .ref (c0 0)), (1, .int x1), (2, .int x2), (3, .int x3)] [] (fun x u => x = r ∧ u = (wX cB cI cJ cZ cS a b b2 c0 rg sl s')) := by
  intro p e s0 m below meth c A E H locs ls hP hD hS hl
  obtain ⟨C, hr, hlocks, hA, hK, hN⟩ := id E
  obtain ⟨hx, hb, hml, hown, hts⟩ := id C
  unfold kX10_then at hB
  refine lv_aload_n hx hb dX10_then_0 rfl (lv_at hl 0 rfl) ?_
  refine q_get (v := .ref (a 2)) C inX10_then_X10 hK hP 0 rfl rfl 1 (by decide) rfl LX10_then_19 rfl dX10_then_1 ?_
  refine lv_iload_n hx hb dX10_then_4 rfl (lv_at hl 1 rfl) ?_
  obtain ⟨q_, s1, hc, hB⟩ := bindI_inv hB
  refine q_goi (wr := ((wG cZ cS a b b2 c0 rg sl s.g) ++ (wD cI b2 s.t) ++ (wD cI b s.n))) (va_runVN (As := [.int x1]) (rest := []) C (ckX5_hasWave hc _) ⟨va_cnB 1 hts gX10_then_X5_hasWave_n108 rfl rfl rfl (hN _ nwM_X10_108 rfl) (hts _ LX10_then_I_X5) (by decide +kernel) ⟨Nat.le_of_ble_eq_true rfl, Nat.le_of_ble_eq_true rfl⟩, hts _ LX10_then_N_X5_hasWave, hts _ LX10_then_E_X5_hasWave⟩ (q_preV hK hP (ci := 5) (q0 := 19) rfl rfl rfl (q_pre hN hK hP hD [17, 18, 19, 20, 21, 22, 23, 24, 25, 26, 27, 28, 29, 30, 31, 32, 33, 34, 35, 36, 37, 38, 39, 40, 41, 42, 43, 44, 45, 46, 47, 48, 49, 50, 51, 52, 53, 54, 55, 56, 57, 58, 59, 60, 61, 62, 63] (by first | exact zqs_0X | rfl) zqn_0)) rfl rfl hl.1 rfl (lv_room (Nat.le_of_ble_eq_true rfl)) dX10_then_5 ⟨Nat.le_of_ble_eq_true rfl, Nat.le_of_ble_eq_true rfl⟩) hP hD hS hA [17, 18, 19, 20, 21, 22, 23, 24, 25, 26, 27, 28, 29, 30, 31, 32, 33, 34, 35, 36, 37, 38, 39, 40, 41, 42, 43, 44, 45, 46, 47, 48, 49, 50, 51, 52, 53, 54, 55, 56, 57, 58, 59, 60, 61, 62, 63] [0, 1, 2, 3, 4, 5, 6, 7, 8, 9, 10, 11, 12, 13, 14, 15, 16] (by first | exact zqs_0X | rfl) (by first | exact zqs_1X | rfl) zqn_1 zqd_0 (fun r2 w1 H locs hw hP hD hS => ?_)
  obtain ⟨hq_, hw⟩ := hw; subst hw; subst hq_
  obtain ⟨s3, hs4, hB⟩ := letS_inv hB
  have hP : va_P (dC, dI) vwCl (wX cB cI cJ cZ cS a b b2 c0 rg sl s3) H := by subst hs4; exact hP
  have hD : va_D A (wX cB cI cJ cZ cS a b b2 c0 rg sl s3) := by subst hs4; exact hD
  refine lv_if_eq (tgt := 21) hx hb dX10_then_8 (by decide) (fun c5 => ?_) (fun c5 => ?_)
  · have hB := if_p hB c5
    refine lv_iconst (v := (-1)) hx hb dX10_then_21 (by decide) ?_
    exact q_iret C hr hlocks hK hP hD hS (Nat.le_of_ble_eq_true rfl) (Nat.le_of_ble_eq_true rfl) dX10_then_22 (by cases hB; exact ⟨rfl, rfl⟩)
  · have hB := if_n hB c5
    refine lv_iload_n hx hb dX10_then_11 rfl (lv_at hl 2 rfl) ?_
    refine lv_if_lt (tgt := 21) hx hb dX10_then_12 (by decide) (fun c6 => ?_) (fun c6 => ?_)
    · have hB := if_p hB c6
      refine lv_iconst (v := (-1)) hx hb dX10_then_21 (by decide) ?_
      exact q_iret C hr hlocks hK hP hD hS (Nat.le_of_ble_eq_true rfl) (Nat.le_of_ble_eq_true rfl) dX10_then_22 (by cases hB; exact ⟨rfl, rfl⟩)
    · have hB := if_n hB c6
      refine lv_iload_n hx hb dX10_then_15 rfl (lv_at hl 2 rfl) ?_
      refine lv_bipush (v := 40) hx hb dX10_then_16 (by decide) ?_
      refine lv_icmp_le (tgt := 23) hx hb dX10_then_18 (by decide) (fun c7 => ?_) (fun c7 => ?_)
      · have hB := if_p hB c7
        refine lv_aload_n hx hb dX10_then_23 rfl (lv_at hl 0 rfl) ?_
        refine q_get (v := .ref (b2 0)) C inX10_then_X10 hK hP 0 rfl rfl 4 (by decide) rfl LX10_then_39 rfl dX10_then_24 ?_
        refine lv_aload_n hx hb dX10_then_27 rfl (lv_at hl 0 rfl) ?_
        refine q_get (v := .ref (b 0)) C inX10_then_X10 hK hP 0 rfl rfl 3 (by decide) rfl LX10_then_35 rfl dX10_then_28 ?_
        obtain ⟨s8, hc, hB⟩ := bindP_inv hB
        refine q_gov (wr := ((wG cZ cS a b b2 c0 rg sl s3.g) ++ (wK cB cI cJ cZ cS a s3.k))) (va_runVN (As := [.ref (b 0)]) (rest := []) C (ckX6_copyFrom hc _) ⟨va_cnB 1 hts gX10_then_X6_copyFrom_n227 rfl rfl rfl (hN _ nwM_X10_227 rfl) (hts _ LX10_then_I_X6) (by decide +kernel) ⟨Nat.le_of_ble_eq_true rfl, Nat.le_of_ble_eq_true rfl⟩, hts _ LX10_then_N_X6_copyFrom, hts _ LX10_then_E_X6_copyFrom⟩ (q_preV hK hP (ci := 6) (q0 := 5) rfl rfl rfl (q_pre hN hK hP hD [11, 12, 13, 14, 15, 16, 5, 6, 7, 8, 9, 10] (by first | exact zqs_26X | rfl) zqn_25)) rfl rfl hl.1 rfl (lv_room (Nat.le_of_ble_eq_true rfl)) dX10_then_31 ⟨Nat.le_of_ble_eq_true rfl, Nat.le_of_ble_eq_true rfl⟩) hP hD hS hA [11, 12, 13, 14, 15, 16, 5, 6, 7, 8, 9, 10] [0, 1, 2, 3, 4, 17, 18, 19, 20, 21, 22, 23, 24, 25, 26, 27, 28, 29, 30, 31, 32, 33, 34, 35, 36, 37, 38, 39, 40, 41, 42, 43, 44, 45, 46, 47, 48, 49, 50, 51, 52, 53, 54, 55, 56, 57, 58, 59, 60, 61, 62, 63] (by first | exact zqs_26X | rfl) (by first | exact zqs_27X | rfl) zqn_26 zqd_13 (fun w1 H locs hw hP hD hS => ?_)
        subst hw
        obtain ⟨s9, hs10, hB⟩ := letS_inv hB
        have hP : va_P (dC, dI) vwCl (wX cB cI cJ cZ cS a b b2 c0 rg sl s9) H := by subst hs10; exact hP.sub [0, 1, 2, 3, 4, 58, 59, 60, 61, 62, 63, 52, 53, 54, 55, 56, 57, 5, 6, 7, 8, 9, 10, 11, 12, 13, 14, 15, 16, 17, 18, 19, 20, 21, 22, 23, 24, 25, 26, 27, 28, 29, 30, 31, 32, 33, 34, 35, 36, 37, 38, 39, 40, 41, 42, 43, 44, 45, 46, 47, 48, 49, 50, 51] rfl
        have hD : va_D A (wX cB cI cJ cZ cS a b b2 c0 rg sl s9) := by subst hs10; exact hD.sub [0, 1, 2, 3, 4, 58, 59, 60, 61, 62, 63, 52, 53, 54, 55, 56, 57, 5, 6, 7, 8, 9, 10, 11, 12, 13, 14, 15, 16, 17, 18, 19, 20, 21, 22, 23, 24, 25, 26, 27, 28, 29, 30, 31, 32, 33, 34, 35, 36, 37, 38, 39, 40, 41, 42, 43, 44, 45, 46, 47, 48, 49, 50, 51] (by decide +kernel) rfl
        refine lv_aload_n hx hb dX10_then_34 rfl (lv_at hl 0 rfl) ?_
        refine q_get (v := .ref (a 35)) C inX10_then_X10 hK hP 0 rfl rfl 6 (by decide) rfl LX10_then_54 rfl dX10_then_35 ?_
        refine lv_aload_n hx hb dX10_then_38 rfl (lv_at hl 0 rfl) ?_
        refine q_get (v := .ref (b2 0)) C inX10_then_X10 hK hP 0 rfl rfl 4 (by decide) rfl LX10_then_39 rfl dX10_then_39 ?_
        refine lv_iload_n hx hb dX10_then_42 rfl (lv_at hl 2 rfl) ?_
        obtain ⟨s11, hc, hB⟩ := bindP_inv hB
        refine q_gov (wr := ((wG cZ cS a b b2 c0 rg sl s9.g) ++ (wD cI b s9.n))) (va_runVN (As := [.ref (b2 0), .int x2]) (rest := []) C (ckX0_passYears hc _) ⟨va_cnB 2 hts gX10_then_X0_passYears_n185 rfl rfl rfl (hN _ nwM_X10_185 rfl) (hts _ LX10_then_I_X0) (by decide +kernel) ⟨Nat.le_of_ble_eq_true rfl, Nat.le_of_ble_eq_true rfl⟩, hts _ LX10_then_N_X0_passYears, hts _ LX10_then_E_X0_passYears⟩ (q_preV hK hP (ci := 0) (q0 := 52) rfl rfl rfl (q_pre hN hK hP hD [5, 6, 7, 8, 9, 10, 17, 18, 19, 20, 21, 22, 23, 24, 25, 26, 27, 28, 29, 30, 31, 32, 33, 34, 35, 36, 37, 38, 39, 40, 41, 42, 43, 44, 45, 46, 47, 48, 49, 50, 51, 52, 53, 54, 55, 56, 57, 58, 59, 60, 61, 62, 63] (by first | exact zqs_24X | rfl) zqn_23)) rfl rfl hl.1 rfl (lv_room (Nat.le_of_ble_eq_true rfl)) dX10_then_43 ⟨Nat.le_of_ble_eq_true rfl, Nat.le_of_ble_eq_true rfl⟩) hP hD hS hA [5, 6, 7, 8, 9, 10, 17, 18, 19, 20, 21, 22, 23, 24, 25, 26, 27, 28, 29, 30, 31, 32, 33, 34, 35, 36, 37, 38, 39, 40, 41, 42, 43, 44, 45, 46, 47, 48, 49, 50, 51, 52, 53, 54, 55, 56, 57, 58, 59, 60, 61, 62, 63] [0, 1, 2, 3, 4, 11, 12, 13, 14, 15, 16] (by first | exact zqs_24X | rfl) (by first | exact zqs_25X | rfl) zqn_24 zqd_12 (fun w1 H locs hw hP hD hS => ?_)
        subst hw
        obtain ⟨s12, hs13, hB⟩ := letS_inv hB
        have hP : va_P (dC, dI) vwCl (wX cB cI cJ cZ cS a b b2 c0 rg sl s12) H := by subst hs13; exact hP.sub [0, 1, 2, 3, 4, 11, 12, 13, 14, 15, 16, 5, 6, 7, 8, 9, 10, 17, 18, 19, 20, 21, 22, 23, 24, 25, 26, 27, 28, 29, 30, 31, 32, 33, 34, 35, 36, 37, 38, 39, 40, 41, 42, 43, 44, 45, 46, 47, 48, 49, 50, 51, 52, 53, 54, 55, 56, 57, 58, 59, 60, 61, 62, 63] rfl
        have hD : va_D A (wX cB cI cJ cZ cS a b b2 c0 rg sl s12) := by subst hs13; exact hD.sub [0, 1, 2, 3, 4, 11, 12, 13, 14, 15, 16, 5, 6, 7, 8, 9, 10, 17, 18, 19, 20, 21, 22, 23, 24, 25, 26, 27, 28, 29, 30, 31, 32, 33, 34, 35, 36, 37, 38, 39, 40, 41, 42, 43, 44, 45, 46, 47, 48, 49, 50, 51, 52, 53, 54, 55, 56, 57, 58, 59, 60, 61, 62, 63] (by decide +kernel) rfl
        refine lv_iload_n hx hb dX10_then_46 rfl (lv_at hl 3 rfl) ?_
        by_cases e14 : x3 = 0
        · have hB := if_p hB e14
          refine q_top (y := 0) e14 ?_
          refine lv_tableIn (off := 25) (tgt := 72) hx hb dX10_then_47 (by decide +kernel) (by decide +kernel) (by decide +kernel) (by decide) ?_
          refine lv_aload_n hx hb dX10_then_72 rfl (lv_at hl 0 rfl) ?_
          refine q_get (v := .ref (a 35)) C inX10_then_X10 hK hP 0 rfl rfl 6 (by decide) rfl LX10_then_54 rfl dX10_then_73 ?_
          refine lv_aload_n hx hb dX10_then_76 rfl (lv_at hl 0 rfl) ?_
          refine q_get (v := .ref (b2 0)) C inX10_then_X10 hK hP 0 rfl rfl 4 (by decide) rfl LX10_then_39 rfl dX10_then_77 ?_
          refine lv_iload_n hx hb dX10_then_80 rfl (lv_at hl 1 rfl) ?_
          obtain ⟨q_, s15, hc, hB⟩ := bindI_inv hB
          refine q_goi (wr := ((wG cZ cS a b b2 c0 rg sl s12.g) ++ (wD cI b s12.n))) (va_runVN (As := [.ref (b2 0), .int x1]) (rest := []) C (ckX0_mayBe hc _) ⟨va_cnB 2 hts gX10_then_X0_mayBe_n111 rfl rfl rfl (hN _ nwM_X10_111 rfl) (hts _ LX10_then_I_X0) (by decide +kernel) ⟨Nat.le_of_ble_eq_true rfl, Nat.le_of_ble_eq_true rfl⟩, hts _ LX10_then_N_X0_mayBe, hts _ LX10_then_E_X0_mayBe⟩ (q_preV hK hP (ci := 0) (q0 := 52) rfl rfl rfl (q_pre hN hK hP hD [5, 6, 7, 8, 9, 10, 17, 18, 19, 20, 21, 22, 23, 24, 25, 26, 27, 28, 29, 30, 31, 32, 33, 34, 35, 36, 37, 38, 39, 40, 41, 42, 43, 44, 45, 46, 47, 48, 49, 50, 51, 52, 53, 54, 55, 56, 57, 58, 59, 60, 61, 62, 63] (by first | exact zqs_24X | rfl) zqn_23)) rfl rfl hl.1 rfl (lv_room (Nat.le_of_ble_eq_true rfl)) dX10_then_81 ⟨Nat.le_of_ble_eq_true rfl, Nat.le_of_ble_eq_true rfl⟩) hP hD hS hA [5, 6, 7, 8, 9, 10, 17, 18, 19, 20, 21, 22, 23, 24, 25, 26, 27, 28, 29, 30, 31, 32, 33, 34, 35, 36, 37, 38, 39, 40, 41, 42, 43, 44, 45, 46, 47, 48, 49, 50, 51, 52, 53, 54, 55, 56, 57, 58, 59, 60, 61, 62, 63] [0, 1, 2, 3, 4, 11, 12, 13, 14, 15, 16] (by first | exact zqs_24X | rfl) (by first | exact zqs_25X | rfl) zqn_24 zqd_12 (fun r16 w1 H locs hw hP hD hS => ?_)
          obtain ⟨hq_, hw⟩ := hw; subst hw; subst hq_
          obtain ⟨s17, hs18, hB⟩ := letS_inv hB
          have hP : va_P (dC, dI) vwCl (wX cB cI cJ cZ cS a b b2 c0 rg sl s17) H := by subst hs18; exact hP.sub [0, 1, 2, 3, 4, 11, 12, 13, 14, 15, 16, 5, 6, 7, 8, 9, 10, 17, 18, 19, 20, 21, 22, 23, 24, 25, 26, 27, 28, 29, 30, 31, 32, 33, 34, 35, 36, 37, 38, 39, 40, 41, 42, 43, 44, 45, 46, 47, 48, 49, 50, 51, 52, 53, 54, 55, 56, 57, 58, 59, 60, 61, 62, 63] rfl
          have hD : va_D A (wX cB cI cJ cZ cS a b b2 c0 rg sl s17) := by subst hs18; exact hD.sub [0, 1, 2, 3, 4, 11, 12, 13, 14, 15, 16, 5, 6, 7, 8, 9, 10, 17, 18, 19, 20, 21, 22, 23, 24, 25, 26, 27, 28, 29, 30, 31, 32, 33, 34, 35, 36, 37, 38, 39, 40, 41, 42, 43, 44, 45, 46, 47, 48, 49, 50, 51, 52, 53, 54, 55, 56, 57, 58, 59, 60, 61, 62, 63] (by decide +kernel) rfl
          exact q_iret C hr hlocks hK hP hD hS (Nat.le_of_ble_eq_true rfl) (Nat.le_of_ble_eq_true rfl) dX10_then_84 (by cases hB; exact ⟨rfl, rfl⟩)
        · have hB := if_n hB e14
          by_cases e19 : x3 = 1
          · have hB := if_p hB e19
            refine q_top (y := 1) e19 ?_
            refine lv_tableIn (off := 38) (tgt := 85) hx hb dX10_then_47 (by decide +kernel) (by decide +kernel) (by decide +kernel) (by decide) ?_
            refine lv_aload_n hx hb dX10_then_85 rfl (lv_at hl 0 rfl) ?_
            refine q_get (v := .ref (b2 0)) C inX10_then_X10 hK hP 0 rfl rfl 4 (by decide) rfl LX10_then_39 rfl dX10_then_86 ?_
            refine q_getN (v := .ref (b2 3)) C hN inX10_then_X6 hK hP 5 rfl rfl 2 (by decide) rfl nwF_X10_122 rfl dX10_then_89 ?_
            refine lv_iload_n hx hb dX10_then_92 rfl (lv_at hl 1 rfl) ?_
            obtain ⟨g20, hB⟩ := guard_inv hB
            refine q_iald (x := ((s12.t.f 2) (Int32.toNatClampNeg x1))) C hK hP 8 1 rfl rfl (vpb_in g20) dX10_then_93 rfl ?_
            exact q_iret C hr hlocks hK hP hD hS (Nat.le_of_ble_eq_true rfl) (Nat.le_of_ble_eq_true rfl) dX10_then_94 (by cases hB; exact ⟨rfl, rfl⟩)
          · have hB := if_n hB e19
            by_cases e21 : x3 = 2
            · have hB := if_p hB e21
              refine q_top (y := 2) e21 ?_
              refine lv_tableIn (off := 48) (tgt := 95) hx hb dX10_then_47 (by decide +kernel) (by decide +kernel) (by decide +kernel) (by decide) ?_
              refine lv_aload_n hx hb dX10_then_95 rfl (lv_at hl 0 rfl) ?_
              refine q_get (v := .ref (a 35)) C inX10_then_X10 hK hP 0 rfl rfl 6 (by decide) rfl LX10_then_54 rfl dX10_then_96 ?_
              refine lv_aload_n hx hb dX10_then_99 rfl (lv_at hl 0 rfl) ?_
              refine q_get (v := .ref (b2 0)) C inX10_then_X10 hK hP 0 rfl rfl 4 (by decide) rfl LX10_then_39 rfl dX10_then_100 ?_
              refine lv_iload_n hx hb dX10_then_103 rfl (lv_at hl 1 rfl) ?_
              obtain ⟨q_, s22, hc, hB⟩ := bindI_inv hB
              refine q_goi (wr := ((wG cZ cS a b b2 c0 rg sl s12.g) ++ (wD cI b s12.n))) (va_runVN (As := [.ref (b2 0), .int x1]) (rest := []) C (ckX0_thereNow hc _) ⟨va_cnB 2 hts gX10_then_X0_thereNow_n125 rfl rfl rfl (hN _ nwM_X10_125 rfl) (hts _ LX10_then_I_X0) (by decide +kernel) ⟨Nat.le_of_ble_eq_true rfl, Nat.le_of_ble_eq_true rfl⟩, hts _ LX10_then_N_X0_thereNow, hts _ LX10_then_E_X0_thereNow⟩ (q_preV hK hP (ci := 0) (q0 := 52) rfl rfl rfl (q_pre hN hK hP hD [5, 6, 7, 8, 9, 10, 17, 18, 19, 20, 21, 22, 23, 24, 25, 26, 27, 28, 29, 30, 31, 32, 33, 34, 35, 36, 37, 38, 39, 40, 41, 42, 43, 44, 45, 46, 47, 48, 49, 50, 51, 52, 53, 54, 55, 56, 57, 58, 59, 60, 61, 62, 63] (by first | exact zqs_24X | rfl) zqn_23)) rfl rfl hl.1 rfl (lv_room (Nat.le_of_ble_eq_true rfl)) dX10_then_104 ⟨Nat.le_of_ble_eq_true rfl, Nat.le_of_ble_eq_true rfl⟩) hP hD hS hA [5, 6, 7, 8, 9, 10, 17, 18, 19, 20, 21, 22, 23, 24, 25, 26, 27, 28, 29, 30, 31, 32, 33, 34, 35, 36, 37, 38, 39, 40, 41, 42, 43, 44, 45, 46, 47, 48, 49, 50, 51, 52, 53, 54, 55, 56, 57, 58, 59, 60, 61, 62, 63] [0, 1, 2, 3, 4, 11, 12, 13, 14, 15, 16] (by first | exact zqs_24X | rfl) (by first | exact zqs_25X | rfl) zqn_24 zqd_12 (fun r23 w1 H locs hw hP hD hS => ?_)
              obtain ⟨hq_, hw⟩ := hw; subst hw; subst hq_
              obtain ⟨s24, hs25, hB⟩ := letS_inv hB
              have hP : va_P (dC, dI) vwCl (wX cB cI cJ cZ cS a b b2 c0 rg sl s24) H := by subst hs25; exact hP.sub [0, 1, 2, 3, 4, 11, 12, 13, 14, 15, 16, 5, 6, 7, 8, 9, 10, 17, 18, 19, 20, 21, 22, 23, 24, 25, 26, 27, 28, 29, 30, 31, 32, 33, 34, 35, 36, 37, 38, 39, 40, 41, 42, 43, 44, 45, 46, 47, 48, 49, 50, 51, 52, 53, 54, 55, 56, 57, 58, 59, 60, 61, 62, 63] rfl
              have hD : va_D A (wX cB cI cJ cZ cS a b b2 c0 rg sl s24) := by subst hs25; exact hD.sub [0, 1, 2, 3, 4, 11, 12, 13, 14, 15, 16, 5, 6, 7, 8, 9, 10, 17, 18, 19, 20, 21, 22, 23, 24, 25, 26, 27, 28, 29, 30, 31, 32, 33, 34, 35, 36, 37, 38, 39, 40, 41, 42, 43, 44, 45, 46, 47, 48, 49, 50, 51, 52, 53, 54, 55, 56, 57, 58, 59, 60, 61, 62, 63] (by decide +kernel) rfl
              exact q_iret C hr hlocks hK hP hD hS (Nat.le_of_ble_eq_true rfl) (Nat.le_of_ble_eq_true rfl) dX10_then_107 (by cases hB; exact ⟨rfl, rfl⟩)
            · have hB := if_n hB e21
              refine lv_tableOut (tgt := 108) hx hb dX10_then_47 (by have := ne_toInt (k := 0) rfl e14; have := ne_toInt (k := 1) rfl e19; have := ne_toInt (k := 2) rfl e21; omega) (by decide) ?_
              refine lv_iconst (v := (-1)) hx hb dX10_then_108 (by decide) ?_
              exact q_iret C hr hlocks hK hP hD hS (Nat.le_of_ble_eq_true rfl) (Nat.le_of_ble_eq_true rfl) dX10_then_109 (by cases hB; exact ⟨rfl, rfl⟩)
      · have hB := if_n hB c7
        refine lv_iconst (v := (-1)) hx hb dX10_then_21 (by decide) ?_
        exact q_iret C hr hlocks hK hP hD hS (Nat.le_of_ble_eq_true rfl) (Nat.le_of_ble_eq_true rfl) dX10_then_22 (by cases hB; exact ⟨rfl, rfl⟩)
theorem ckX10_then {l : Launch} {dC : Nat → ClassId} {dI : Nat → Nat → Nat} {cB cI cJ cZ cS : ClassId} {a b b2 c0 : Nat → Nat} {rg sl : Nat → Option Nat} {r : Int32} {s' : XS} {s : XS} {x1 : Int32} {x2 : Int32} {x3 : Int32} (hB : kX10_then s x1 x2 x3 = some (r, s')) : CI l yX10_then wsX10_then ({ frames := 6, cells := 0, slots := 0, locals := 145 }) (dC, dI) (tysA cB cI cJ cZ cS) (wX cB cI cJ cZ cS a b b2 c0 rg sl s) [.ref (c0 0), .int x1, .int x2, .int x3] (fun x u => x = r ∧ u = (wX cB cI cJ cZ cS a b b2 c0 rg sl s')) :=
  CI_of (cc := cX10_then) (maxL := 4) (ret := (some .int)) (by decide) rfl (Nat.le_of_ble_eq_true rfl) (bkX10_then _ _ _ _ hB)
theorem LX10_next_19 : Cond.fieldLink RX10 19 "GuessFerry" "sound" "LGuessFerry$Sound;" ∈ wsX10_next := (List.mem_cons_of_mem _ (List.mem_append_left _ (List.mem_append_left _ (List.mem_append_left _ (List.mem_append_left _ (List.mem_append_left _ (List.mem_append_left _ (List.mem_of_getElem? (i := 0) rfl))))))))
theorem LX10_next_35 : Cond.fieldLink RX10 35 "GuessFerry" "now" "LGuessFerry$Standing;" ∈ wsX10_next := (List.mem_cons_of_mem _ (List.mem_append_left _ (List.mem_append_left _ (List.mem_append_left _ (List.mem_append_left _ (List.mem_append_left _ (List.mem_append_left _ (List.mem_of_getElem? (i := 2) rfl))))))))
theorem LX10_next_39 : Cond.fieldLink RX10 39 "GuessFerry" "trial" "LGuessFerry$Standing;" ∈ wsX10_next := (List.mem_cons_of_mem _ (List.mem_append_left _ (List.mem_append_left _ (List.mem_append_left _ (List.mem_append_left _ (List.mem_append_left _ (List.mem_append_left _ (List.mem_of_getElem? (i := 1) rfl))))))))
theorem LX10_next_54 : Cond.fieldLink RX10 54 "GuessFerry" "crossing" "LGuessFerry$Crossing;" ∈ wsX10_next := (List.mem_cons_of_mem _ (List.mem_append_left _ (List.mem_append_left _ (List.mem_append_left _ (List.mem_append_left _ (List.mem_append_left _ (List.mem_append_left _ (List.mem_of_getElem? (i := 3) rfl))))))))
theorem LX10_next_E_X0_passYears : Cond.selects RX0 yX0_passYears yX0_passYears ∈ wsX10_next := (List.mem_cons_of_mem _ (List.mem_append_left _ (List.mem_append_left _ (List.mem_append_left _ (List.mem_append_left _ (List.mem_append_left _ (List.mem_append_left _ (List.mem_of_getElem? (i := 12) rfl))))))))
theorem LX10_next_E_X5_hasWave : Cond.selects RX5 yX5_hasWave yX5_hasWave ∈ wsX10_next := (List.mem_cons_of_mem _ (List.mem_append_left _ (List.mem_append_left _ (List.mem_append_left _ (List.mem_append_left _ (List.mem_append_left _ (List.mem_append_left _ (List.mem_of_getElem? (i := 6) rfl))))))))
theorem LX10_next_E_X6_copyFrom : Cond.selects RX6 yX6_copyFrom yX6_copyFrom ∈ wsX10_next := (List.mem_cons_of_mem _ (List.mem_append_left _ (List.mem_append_left _ (List.mem_append_left _ (List.mem_append_left _ (List.mem_append_left _ (List.mem_append_left _ (List.mem_of_getElem? (i := 9) rfl))))))))
theorem LX10_next_I_X0 : Cond.initialized RX0 ∈ wsX10_next := (List.mem_cons_of_mem _ (List.mem_append_left _ (List.mem_append_left _ (List.mem_append_left _ (List.mem_append_left _ (List.mem_append_left _ (List.mem_append_left _ (List.mem_of_getElem? (i := 11) rfl))))))))
theorem LX10_next_I_X5 : Cond.initialized RX5 ∈ wsX10_next := (List.mem_cons_of_mem _ (List.mem_append_left _ (List.mem_append_left _ (List.mem_append_left _ (List.mem_append_left _ (List.mem_append_left _ (List.mem_append_left _ (List.mem_of_getElem? (i := 5) rfl))))))))
theorem LX10_next_I_X6 : Cond.initialized RX6 ∈ wsX10_next := (List.mem_cons_of_mem _ (List.mem_append_left _ (List.mem_append_left _ (List.mem_append_left _ (List.mem_append_left _ (List.mem_append_left _ (List.mem_append_left _ (List.mem_of_getElem? (i := 8) rfl))))))))
theorem LX10_next_N_X0_passYears : Cond.instanceMethod yX0_passYears ∈ wsX10_next := (List.mem_cons_of_mem _ (List.mem_append_left _ (List.mem_append_left _ (List.mem_append_left _ (List.mem_append_left _ (List.mem_append_left _ (List.mem_append_left _ (List.mem_of_getElem? (i := 10) rfl))))))))
theorem LX10_next_N_X5_hasWave : Cond.instanceMethod yX5_hasWave ∈ wsX10_next := (List.mem_cons_of_mem _ (List.mem_append_left _ (List.mem_append_left _ (List.mem_append_left _ (List.mem_append_left _ (List.mem_append_left _ (List.mem_append_left _ (List.mem_of_getElem? (i := 4) rfl))))))))
theorem LX10_next_N_X6_copyFrom : Cond.instanceMethod yX6_copyFrom ∈ wsX10_next := (List.mem_cons_of_mem _ (List.mem_append_left _ (List.mem_append_left _ (List.mem_append_left _ (List.mem_append_left _ (List.mem_append_left _ (List.mem_append_left _ (List.mem_of_getElem? (i := 7) rfl))))))))
theorem inX10_next_X10 : ∀ w ∈ u_ws RX10 TX10 9, w ∈ wsX10_next := fun w h => (List.mem_cons_of_mem _ (List.mem_append_left _ (List.mem_append_left _ (List.mem_append_left _ (List.mem_append_left _ (List.mem_append_right _ h))))))
theorem inX10_next_X6 : ∀ w ∈ u_ws RX6 TX6 7, w ∈ wsX10_next := fun w h => (List.mem_cons_of_mem _ (List.mem_append_left _ (List.mem_append_left _ (List.mem_append_left _ (List.mem_append_right _ h)))))
set_option maxHeartbeats 4000000 in
set_option maxRecDepth 100000 in
theorem bkX10_next_26 {l : Launch} {dC : Nat → ClassId} {dI : Nat → Nat → Nat} {cB cI cJ cZ cS : ClassId} {a b b2 c0 : Nat → Nat} {rg sl : Nat → Option Nat} {as : List Value} {r : Int32} {s' : XS} {k26 : XS → Int32 → Int32 → Option (Int32 × XS)} (hk26 : ∀ (s : XS) (x1 : Int32) (x2 : Int32), k26 s x1 x2 = some (r, s') → BlkI l yX10_next wsX10_next ({ frames := 6, cells := 0, slots := 0, locals := 145 }) cX10_next 3 (some .int) (dC, dI) (tysA cB cI cJ cZ cS) as 26 (wX cB cI cJ cZ cS a b b2 c0 rg sl s) [(0, .ref (c0 0)), (1, .int x1), (2, .int x2)] [] (fun x u => x = r ∧ u = (wX cB cI cJ cZ cS a b b2 c0 rg sl s'))) (s : XS) (x1 : Int32) (x2 : Int32) (hB : kX10_next_26 k26 s x1 x2 = some (r, s')) : BlkI l yX10_next wsX10_next ({ frames := 6, cells := 0, slots := 0, locals := 145 }) cX10_next 3 (some .int) (dC, dI) (tysA cB cI cJ cZ cS) as 26 (wX cB cI cJ cZ cS a b b2 c0 rg sl s) [(0, .ref (c0 0)), (1, .int x1), (2, .int x2)] [] (fun x u => x = r ∧ u = (wX cB cI cJ cZ cS a b b2 c0 rg sl s')) := by
  intro p e s0 m below meth c A E H locs ls hP hD hS hl
  obtain ⟨C, hr, hlocks, hA, hK, hN⟩ := id E
  obtain ⟨hx, hb, hml, hown, hts⟩ := id C
  unfold kX10_next_26 at hB
  refine lv_iload_n hx hb dX10_next_26 rfl (lv_at hl 2 rfl) ?_
  refine lv_bipush (v := 40) hx hb dX10_next_27 (by decide) ?_
  refine lv_icmp_gt (tgt := 73) hx hb dX10_next_29 (by decide) (fun c1 => ?_) (fun c1 => ?_)
  · have hB := if_p hB c1
    refine lv_bipush (v := (-2)) hx hb dX10_next_73 (by decide) ?_
    exact q_iret C hr hlocks hK hP hD hS (Nat.le_of_ble_eq_true rfl) (Nat.le_of_ble_eq_true rfl) dX10_next_75 (by cases hB; exact ⟨rfl, rfl⟩)
  · have hB := if_n hB c1
    refine lv_aload_n hx hb dX10_next_32 rfl (lv_at hl 0 rfl) ?_
    refine q_get (v := .ref (a 35)) C inX10_next_X10 hK hP 0 rfl rfl 6 (by decide) rfl LX10_next_54 rfl dX10_next_33 ?_
    refine lv_aload_n hx hb dX10_next_36 rfl (lv_at hl 0 rfl) ?_
    refine q_get (v := .ref (b2 0)) C inX10_next_X10 hK hP 0 rfl rfl 4 (by decide) rfl LX10_next_39 rfl dX10_next_37 ?_
    refine lv_iconst (v := 1) hx hb dX10_next_40 (by decide) ?_
    obtain ⟨s2, hc, hB⟩ := bindP_inv hB
    refine q_gov (wr := ((wG cZ cS a b b2 c0 rg sl s.g) ++ (wD cI b s.n))) (va_runVN (As := [.ref (b2 0), .int 1]) (rest := []) C (ckX0_passYears hc _) ⟨va_cnB 2 hts gX10_next_X0_passYears_n185 rfl rfl rfl (hN _ nwM_X10_185 rfl) (hts _ LX10_next_I_X0) (by decide +kernel) ⟨Nat.le_of_ble_eq_true rfl, Nat.le_of_ble_eq_true rfl⟩, hts _ LX10_next_N_X0_passYears, hts _ LX10_next_E_X0_passYears⟩ (q_preV hK hP (ci := 0) (q0 := 52) rfl rfl rfl (q_pre hN hK hP hD [5, 6, 7, 8, 9, 10, 17, 18, 19, 20, 21, 22, 23, 24, 25, 26, 27, 28, 29, 30, 31, 32, 33, 34, 35, 36, 37, 38, 39, 40, 41, 42, 43, 44, 45, 46, 47, 48, 49, 50, 51, 52, 53, 54, 55, 56, 57, 58, 59, 60, 61, 62, 63] (by first | exact zqs_24X | rfl) zqn_23)) rfl rfl hl.1 rfl (lv_room (Nat.le_of_ble_eq_true rfl)) dX10_next_41 ⟨Nat.le_of_ble_eq_true rfl, Nat.le_of_ble_eq_true rfl⟩) hP hD hS hA [5, 6, 7, 8, 9, 10, 17, 18, 19, 20, 21, 22, 23, 24, 25, 26, 27, 28, 29, 30, 31, 32, 33, 34, 35, 36, 37, 38, 39, 40, 41, 42, 43, 44, 45, 46, 47, 48, 49, 50, 51, 52, 53, 54, 55, 56, 57, 58, 59, 60, 61, 62, 63] [0, 1, 2, 3, 4, 11, 12, 13, 14, 15, 16] (by first | exact zqs_24X | rfl) (by first | exact zqs_25X | rfl) zqn_24 zqd_12 (fun w1 H locs hw hP hD hS => ?_)
    subst hw
    obtain ⟨s3, hs4, hB⟩ := letS_inv hB
    have hP : va_P (dC, dI) vwCl (wX cB cI cJ cZ cS a b b2 c0 rg sl s3) H := by subst hs4; exact hP.sub [0, 1, 2, 3, 4, 11, 12, 13, 14, 15, 16, 5, 6, 7, 8, 9, 10, 17, 18, 19, 20, 21, 22, 23, 24, 25, 26, 27, 28, 29, 30, 31, 32, 33, 34, 35, 36, 37, 38, 39, 40, 41, 42, 43, 44, 45, 46, 47, 48, 49, 50, 51, 52, 53, 54, 55, 56, 57, 58, 59, 60, 61, 62, 63] rfl
    have hD : va_D A (wX cB cI cJ cZ cS a b b2 c0 rg sl s3) := by subst hs4; exact hD.sub [0, 1, 2, 3, 4, 11, 12, 13, 14, 15, 16, 5, 6, 7, 8, 9, 10, 17, 18, 19, 20, 21, 22, 23, 24, 25, 26, 27, 28, 29, 30, 31, 32, 33, 34, 35, 36, 37, 38, 39, 40, 41, 42, 43, 44, 45, 46, 47, 48, 49, 50, 51, 52, 53, 54, 55, 56, 57, 58, 59, 60, 61, 62, 63] (by decide +kernel) rfl
    refine lv_aload_n hx hb dX10_next_44 rfl (lv_at hl 0 rfl) ?_
    refine q_get (v := .ref (b2 0)) C inX10_next_X10 hK hP 0 rfl rfl 4 (by decide) rfl LX10_next_39 rfl dX10_next_45 ?_
    refine q_getN (v := .ref (b2 3)) C hN inX10_next_X6 hK hP 5 rfl rfl 2 (by decide) rfl nwF_X10_122 rfl dX10_next_48 ?_
    refine lv_iload_n hx hb dX10_next_51 rfl (lv_at hl 1 rfl) ?_
    obtain ⟨g5, hB⟩ := guard_inv hB
    refine q_iald (x := ((s3.t.f 2) (Int32.toNatClampNeg x1))) C hK hP 8 1 rfl rfl (vpb_in g5) dX10_next_52 rfl ?_
    refine lv_aload_n hx hb dX10_next_53 rfl (lv_at hl 0 rfl) ?_
    refine q_get (v := .ref (b 0)) C inX10_next_X10 hK hP 0 rfl rfl 3 (by decide) rfl LX10_next_35 rfl dX10_next_54 ?_
    refine q_getN (v := .ref (b 3)) C hN inX10_next_X6 hK hP 11 rfl rfl 2 (by decide) rfl nwF_X10_122 rfl dX10_next_57 ?_
    refine lv_iload_n hx hb dX10_next_60 rfl (lv_at hl 1 rfl) ?_
    obtain ⟨g6, hB⟩ := guard_inv hB
    refine q_iald (x := ((s3.n.f 2) (Int32.toNatClampNeg x1))) C hK hP 14 1 rfl rfl (vpb_in g6) dX10_next_61 rfl ?_
    refine lv_icmp_eq (tgt := 67) hx hb dX10_next_62 (by decide) (fun c7 => ?_) (fun c7 => ?_)
    · have hB := if_p hB c7
      refine lv_iinc (v := (x2 + 1)) (lv' := [(2, .int (x2 + 1)), (0, .ref (c0 0)), (1, .int x1)]) hx hb dX10_next_67 hl (k := 2) rfl (rfl) (by decide) rfl (fun ls hl => ?_)
      refine lv_goto (tgt := 26) hx hb dX10_next_70 (by decide) ?_
      exact hk26 _ _ _ hB p e s0 m below meth c A E H locs ls hP hD hS (lv_sub hl [1, 2, 0] rfl)
    · have hB := if_n hB c7
      refine lv_iload_n hx hb dX10_next_65 rfl (lv_at hl 2 rfl) ?_
      exact q_iret C hr hlocks hK hP hD hS (Nat.le_of_ble_eq_true rfl) (Nat.le_of_ble_eq_true rfl) dX10_next_66 (by cases hB; exact ⟨rfl, rfl⟩)
theorem bkX10_next_26L {l : Launch} {dC : Nat → ClassId} {dI : Nat → Nat → Nat} {cB cI cJ cZ cS : ClassId} {a b b2 c0 : Nat → Nat} {rg sl : Nat → Option Nat} {as : List Value} {r : Int32} {s' : XS} : ∀ (n : Nat) (s : XS) (x1 : Int32) (x2 : Int32), kX10_next_26L n s x1 x2 = some (r, s') → BlkI l yX10_next wsX10_next ({ frames := 6, cells := 0, slots := 0, locals := 145 }) cX10_next 3 (some .int) (dC, dI) (tysA cB cI cJ cZ cS) as 26 (wX cB cI cJ cZ cS a b b2 c0 rg sl s) [(0, .ref (c0 0)), (1, .int x1), (2, .int x2)] [] (fun x u => x = r ∧ u = (wX cB cI cJ cZ cS a b b2 c0 rg sl s')) := by
  intro n
  induction n with
  | zero => intro s x1 x2 hB; exact none_ne hB
  | succ n ih => intro s x1 x2 hB; exact bkX10_next_26 ih _ _ _ hB
set_option maxHeartbeats 4000000 in
set_option maxRecDepth 100000 in
theorem bkX10_next {l : Launch} {dC : Nat → ClassId} {dI : Nat → Nat → Nat} {cB cI cJ cZ cS : ClassId} {a b b2 c0 : Nat → Nat} {rg sl : Nat → Option Nat} {as : List Value} {r : Int32} {s' : XS} (s : XS) (x1 : Int32) (hB : kX10_next s x1 = some (r, s')) : BlkI l yX10_next wsX10_next ({ frames := 6, cells := 0, slots := 0, locals := 145 }) cX10_next 3 (some .int) (dC, dI) (tysA cB cI cJ cZ cS) as 0 (wX cB cI cJ cZ cS a b b2 c0 rg sl s) [(0, .ref (c0 0)), (1, .int x1)] [] (fun x u => x = r ∧ u = (wX cB cI cJ cZ cS a b b2 c0 rg sl s')) := by
  intro p e s0 m below meth c A E H locs ls hP hD hS hl
  obtain ⟨C, hr, hlocks, hA, hK, hN⟩ := id E
  obtain ⟨hx, hb, hml, hown, hts⟩ := id C
  unfold kX10_next at hB
  refine lv_aload_n hx hb dX10_next_0 rfl (lv_at hl 0 rfl) ?_
  refine q_get (v := .ref (a 2)) C inX10_next_X10 hK hP 0 rfl rfl 1 (by decide) rfl LX10_next_19 rfl dX10_next_1 ?_
  refine lv_iload_n hx hb dX10_next_4 rfl (lv_at hl 1 rfl) ?_
  obtain ⟨q_, s1, hc, hB⟩ := bindI_inv hB
  refine q_goi (wr := ((wG cZ cS a b b2 c0 rg sl s.g) ++ (wD cI b2 s.t) ++ (wD cI b s.n))) (va_runVN (As := [.int x1]) (rest := []) C (ckX5_hasWave hc _) ⟨va_cnB 1 hts gX10_next_X5_hasWave_n108 rfl rfl rfl (hN _ nwM_X10_108 rfl) (hts _ LX10_next_I_X5) (by decide +kernel) ⟨Nat.le_of_ble_eq_true rfl, Nat.le_of_ble_eq_true rfl⟩, hts _ LX10_next_N_X5_hasWave, hts _ LX10_next_E_X5_hasWave⟩ (q_preV hK hP (ci := 5) (q0 := 19) rfl rfl rfl (q_pre hN hK hP hD [17, 18, 19, 20, 21, 22, 23, 24, 25, 26, 27, 28, 29, 30, 31, 32, 33, 34, 35, 36, 37, 38, 39, 40, 41, 42, 43, 44, 45, 46, 47, 48, 49, 50, 51, 52, 53, 54, 55, 56, 57, 58, 59, 60, 61, 62, 63] (by first | exact zqs_0X | rfl) zqn_0)) rfl rfl hl.1 rfl (lv_room (Nat.le_of_ble_eq_true rfl)) dX10_next_5 ⟨Nat.le_of_ble_eq_true rfl, Nat.le_of_ble_eq_true rfl⟩) hP hD hS hA [17, 18, 19, 20, 21, 22, 23, 24, 25, 26, 27, 28, 29, 30, 31, 32, 33, 34, 35, 36, 37, 38, 39, 40, 41, 42, 43, 44, 45, 46, 47, 48, 49, 50, 51, 52, 53, 54, 55, 56, 57, 58, 59, 60, 61, 62, 63] [0, 1, 2, 3, 4, 5, 6, 7, 8, 9, 10, 11, 12, 13, 14, 15, 16] (by first | exact zqs_0X | rfl) (by first | exact zqs_1X | rfl) zqn_1 zqd_0 (fun r2 w1 H locs hw hP hD hS => ?_)
  obtain ⟨hq_, hw⟩ := hw; subst hw; subst hq_
  obtain ⟨s3, hs4, hB⟩ := letS_inv hB
  have hP : va_P (dC, dI) vwCl (wX cB cI cJ cZ cS a b b2 c0 rg sl s3) H := by subst hs4; exact hP
  have hD : va_D A (wX cB cI cJ cZ cS a b b2 c0 rg sl s3) := by subst hs4; exact hD
  refine lv_if_ne (tgt := 13) hx hb dX10_next_8 (by decide) (fun c5 => ?_) (fun c5 => ?_)
  · have hB := if_n hB c5
    refine lv_aload_n hx hb dX10_next_13 rfl (lv_at hl 0 rfl) ?_
    refine q_get (v := .ref (b2 0)) C inX10_next_X10 hK hP 0 rfl rfl 4 (by decide) rfl LX10_next_39 rfl dX10_next_14 ?_
    refine lv_aload_n hx hb dX10_next_17 rfl (lv_at hl 0 rfl) ?_
    refine q_get (v := .ref (b 0)) C inX10_next_X10 hK hP 0 rfl rfl 3 (by decide) rfl LX10_next_35 rfl dX10_next_18 ?_
    obtain ⟨s6, hc, hB⟩ := bindP_inv hB
    refine q_gov (wr := ((wG cZ cS a b b2 c0 rg sl s3.g) ++ (wK cB cI cJ cZ cS a s3.k))) (va_runVN (As := [.ref (b 0)]) (rest := []) C (ckX6_copyFrom hc _) ⟨va_cnB 1 hts gX10_next_X6_copyFrom_n227 rfl rfl rfl (hN _ nwM_X10_227 rfl) (hts _ LX10_next_I_X6) (by decide +kernel) ⟨Nat.le_of_ble_eq_true rfl, Nat.le_of_ble_eq_true rfl⟩, hts _ LX10_next_N_X6_copyFrom, hts _ LX10_next_E_X6_copyFrom⟩ (q_preV hK hP (ci := 6) (q0 := 5) rfl rfl rfl (q_pre hN hK hP hD [11, 12, 13, 14, 15, 16, 5, 6, 7, 8, 9, 10] (by first | exact zqs_26X | rfl) zqn_25)) rfl rfl hl.1 rfl (lv_room (Nat.le_of_ble_eq_true rfl)) dX10_next_21 ⟨Nat.le_of_ble_eq_true rfl, Nat.le_of_ble_eq_true rfl⟩) hP hD hS hA [11, 12, 13, 14, 15, 16, 5, 6, 7, 8, 9, 10] [0, 1, 2, 3, 4, 17, 18, 19, 20, 21, 22, 23, 24, 25, 26, 27, 28, 29, 30, 31, 32, 33, 34, 35, 36, 37, 38, 39, 40, 41, 42, 43, 44, 45, 46, 47, 48, 49, 50, 51, 52, 53, 54, 55, 56, 57, 58, 59, 60, 61, 62, 63] (by first | exact zqs_26X | rfl) (by first | exact zqs_27X | rfl) zqn_26 zqd_13 (fun w1 H locs hw hP hD hS => ?_)
    subst hw
    obtain ⟨s7, hs8, hB⟩ := letS_inv hB
    have hP : va_P (dC, dI) vwCl (wX cB cI cJ cZ cS a b b2 c0 rg sl s7) H := by subst hs8; exact hP.sub [0, 1, 2, 3, 4, 58, 59, 60, 61, 62, 63, 52, 53, 54, 55, 56, 57, 5, 6, 7, 8, 9, 10, 11, 12, 13, 14, 15, 16, 17, 18, 19, 20, 21, 22, 23, 24, 25, 26, 27, 28, 29, 30, 31, 32, 33, 34, 35, 36, 37, 38, 39, 40, 41, 42, 43, 44, 45, 46, 47, 48, 49, 50, 51] rfl
    have hD : va_D A (wX cB cI cJ cZ cS a b b2 c0 rg sl s7) := by subst hs8; exact hD.sub [0, 1, 2, 3, 4, 58, 59, 60, 61, 62, 63, 52, 53, 54, 55, 56, 57, 5, 6, 7, 8, 9, 10, 11, 12, 13, 14, 15, 16, 17, 18, 19, 20, 21, 22, 23, 24, 25, 26, 27, 28, 29, 30, 31, 32, 33, 34, 35, 36, 37, 38, 39, 40, 41, 42, 43, 44, 45, 46, 47, 48, 49, 50, 51] (by decide +kernel) rfl
    refine lv_iconst (v := 1) hx hb dX10_next_24 (by decide) ?_
    refine lv_istore_n (lv' := [(2, .int 1), (0, .ref (c0 0)), (1, .int x1)]) hx hb dX10_next_25 rfl hl (by decide) rfl (fun ls hl => ?_)
    exact bkX10_next_26L fu _ _ _ hB p e s0 m below meth c A E H locs ls hP hD hS (lv_sub hl [1, 2, 0] rfl)
  · have hB := if_p hB c5
    refine lv_iconst (v := (-1)) hx hb dX10_next_11 (by decide) ?_
    exact q_iret C hr hlocks hK hP hD hS (Nat.le_of_ble_eq_true rfl) (Nat.le_of_ble_eq_true rfl) dX10_next_12 (by cases hB; exact ⟨rfl, rfl⟩)
theorem ckX10_next {l : Launch} {dC : Nat → ClassId} {dI : Nat → Nat → Nat} {cB cI cJ cZ cS : ClassId} {a b b2 c0 : Nat → Nat} {rg sl : Nat → Option Nat} {r : Int32} {s' : XS} {s : XS} {x1 : Int32} (hB : kX10_next s x1 = some (r, s')) : CI l yX10_next wsX10_next ({ frames := 6, cells := 0, slots := 0, locals := 145 }) (dC, dI) (tysA cB cI cJ cZ cS) (wX cB cI cJ cZ cS a b b2 c0 rg sl s) [.ref (c0 0), .int x1] (fun x u => x = r ∧ u = (wX cB cI cJ cZ cS a b b2 c0 rg sl s')) :=
  CI_of (cc := cX10_next) (maxL := 3) (ret := (some .int)) (by decide) rfl (Nat.le_of_ble_eq_true rfl) (bkX10_next _ _ hB)
theorem LX10_count_10 : Cond.fieldLink RX10 10 "GuessFerry" "tape" "LGuessFerry$Tape;" ∈ wsX10_count := (List.mem_cons_of_mem _ (List.mem_append_left _ (List.mem_append_left _ (List.mem_append_left _ (List.mem_append_left _ (List.mem_append_left _ (List.mem_append_left _ (List.mem_append_left _ (List.mem_append_left _ (List.mem_append_left _ (List.mem_of_getElem? (i := 2) rfl)))))))))))
theorem LX10_count_19 : Cond.fieldLink RX10 19 "GuessFerry" "sound" "LGuessFerry$Sound;" ∈ wsX10_count := (List.mem_cons_of_mem _ (List.mem_append_left _ (List.mem_append_left _ (List.mem_append_left _ (List.mem_append_left _ (List.mem_append_left _ (List.mem_append_left _ (List.mem_append_left _ (List.mem_append_left _ (List.mem_append_left _ (List.mem_of_getElem? (i := 0) rfl)))))))))))
theorem LX10_count_35 : Cond.fieldLink RX10 35 "GuessFerry" "now" "LGuessFerry$Standing;" ∈ wsX10_count := (List.mem_cons_of_mem _ (List.mem_append_left _ (List.mem_append_left _ (List.mem_append_left _ (List.mem_append_left _ (List.mem_append_left _ (List.mem_append_left _ (List.mem_append_left _ (List.mem_append_left _ (List.mem_append_left _ (List.mem_of_getElem? (i := 1) rfl)))))))))))
theorem LX10_count_45 : Cond.fieldLink RX10 45 "GuessFerry" "past" "LGuessFerry$Past;" ∈ wsX10_count := (List.mem_cons_of_mem _ (List.mem_append_left _ (List.mem_append_left _ (List.mem_append_left _ (List.mem_append_left _ (List.mem_append_left _ (List.mem_append_left _ (List.mem_append_left _ (List.mem_append_left _ (List.mem_append_left _ (List.mem_of_getElem? (i := 3) rfl)))))))))))
theorem LX10_count_54 : Cond.fieldLink RX10 54 "GuessFerry" "crossing" "LGuessFerry$Crossing;" ∈ wsX10_count := (List.mem_cons_of_mem _ (List.mem_append_left _ (List.mem_append_left _ (List.mem_append_left _ (List.mem_append_left _ (List.mem_append_left _ (List.mem_append_left _ (List.mem_append_left _ (List.mem_append_left _ (List.mem_append_left _ (List.mem_of_getElem? (i := 5) rfl)))))))))))
theorem LX10_count_70 : Cond.fieldLink RX10 70 "GuessFerry" "tellers" "LGuessFerry$Tellers;" ∈ wsX10_count := (List.mem_cons_of_mem _ (List.mem_append_left _ (List.mem_append_left _ (List.mem_append_left _ (List.mem_append_left _ (List.mem_append_left _ (List.mem_append_left _ (List.mem_append_left _ (List.mem_append_left _ (List.mem_append_left _ (List.mem_of_getElem? (i := 4) rfl)))))))))))
theorem LX10_count_E_X0_guessThere : Cond.selects RX0 yX0_guessThere yX0_guessThere ∈ wsX10_count := (List.mem_cons_of_mem _ (List.mem_append_left _ (List.mem_append_left _ (List.mem_append_left _ (List.mem_append_left _ (List.mem_append_left _ (List.mem_append_left _ (List.mem_append_left _ (List.mem_append_left _ (List.mem_append_left _ (List.mem_of_getElem? (i := 24) rfl)))))))))))
theorem LX10_count_E_X3_slotsHeld : Cond.selects RX3 yX3_slotsHeld yX3_slotsHeld ∈ wsX10_count := (List.mem_cons_of_mem _ (List.mem_append_left _ (List.mem_append_left _ (List.mem_append_left _ (List.mem_append_left _ (List.mem_append_left _ (List.mem_append_left _ (List.mem_append_left _ (List.mem_append_left _ (List.mem_append_left _ (List.mem_of_getElem? (i := 14) rfl)))))))))))
theorem LX10_count_I_X0 : Cond.initialized RX0 ∈ wsX10_count := (List.mem_cons_of_mem _ (List.mem_append_left _ (List.mem_append_left _ (List.mem_append_left _ (List.mem_append_left _ (List.mem_append_left _ (List.mem_append_left _ (List.mem_append_left _ (List.mem_append_left _ (List.mem_append_left _ (List.mem_of_getElem? (i := 23) rfl)))))))))))
theorem LX10_count_I_X3 : Cond.initialized RX3 ∈ wsX10_count := (List.mem_cons_of_mem _ (List.mem_append_left _ (List.mem_append_left _ (List.mem_append_left _ (List.mem_append_left _ (List.mem_append_left _ (List.mem_append_left _ (List.mem_append_left _ (List.mem_append_left _ (List.mem_append_left _ (List.mem_of_getElem? (i := 13) rfl)))))))))))
theorem LX10_count_N_X0_guessThere : Cond.instanceMethod yX0_guessThere ∈ wsX10_count := (List.mem_cons_of_mem _ (List.mem_append_left _ (List.mem_append_left _ (List.mem_append_left _ (List.mem_append_left _ (List.mem_append_left _ (List.mem_append_left _ (List.mem_append_left _ (List.mem_append_left _ (List.mem_append_left _ (List.mem_of_getElem? (i := 22) rfl)))))))))))
theorem LX10_count_N_X3_slotsHeld : Cond.instanceMethod yX3_slotsHeld ∈ wsX10_count := (List.mem_cons_of_mem _ (List.mem_append_left _ (List.mem_append_left _ (List.mem_append_left _ (List.mem_append_left _ (List.mem_append_left _ (List.mem_append_left _ (List.mem_append_left _ (List.mem_append_left _ (List.mem_append_left _ (List.mem_of_getElem? (i := 12) rfl)))))))))))
theorem inX10_count_X10 : ∀ w ∈ u_ws RX10 TX10 9, w ∈ wsX10_count := fun w h => (List.mem_cons_of_mem _ (List.mem_append_left _ (List.mem_append_left _ (List.mem_append_left _ (List.mem_append_left _ (List.mem_append_left _ (List.mem_append_left _ (List.mem_append_left _ (List.mem_append_right _ h)))))))))
theorem inX10_count_X3 : ∀ w ∈ u_ws RX3 TX3 5, w ∈ wsX10_count := fun w h => (List.mem_cons_of_mem _ (List.mem_append_left _ (List.mem_append_left _ (List.mem_append_left _ (List.mem_append_right _ h)))))
theorem inX10_count_X5 : ∀ w ∈ u_ws RX5 TX5 10, w ∈ wsX10_count := fun w h => (List.mem_cons_of_mem _ (List.mem_append_left _ (List.mem_append_left _ (List.mem_append_left _ (List.mem_append_left _ (List.mem_append_left _ (List.mem_append_left _ (List.mem_append_right _ h))))))))
theorem inX10_count_X6 : ∀ w ∈ u_ws RX6 TX6 7, w ∈ wsX10_count := fun w h => (List.mem_cons_of_mem _ (List.mem_append_left _ (List.mem_append_left _ (List.mem_append_left _ (List.mem_append_left _ (List.mem_append_left _ (List.mem_append_right _ h)))))))
theorem inX10_count_X7 : ∀ w ∈ u_ws RX7 TX7 2, w ∈ wsX10_count := fun w h => (List.mem_cons_of_mem _ (List.mem_append_left _ (List.mem_append_left _ (List.mem_append_left _ (List.mem_append_left _ (List.mem_append_right _ h))))))
theorem inX10_count_X8 : ∀ w ∈ u_ws RX8 TX8 8, w ∈ wsX10_count := fun w h => (List.mem_cons_of_mem _ (List.mem_append_left _ (List.mem_append_left _ (List.mem_append_right _ h))))
set_option maxHeartbeats 4000000 in
set_option maxRecDepth 100000 in
theorem bkX10_count {l : Launch} {dC : Nat → ClassId} {dI : Nat → Nat → Nat} {cB cI cJ cZ cS : ClassId} {a b b2 c0 : Nat → Nat} {rg sl : Nat → Option Nat} {as : List Value} {r : Int32} {s' : XS} (s : XS) (x1 : Int32) (hB : kX10_count s x1 = some (r, s')) : BlkI l yX10_count wsX10_count ({ frames := 5, cells := 0, slots := 0, locals := 120 }) cX10_count 2 (some .int) (dC, dI) (tysA cB cI cJ cZ cS) as 0 (wX cB cI cJ cZ cS a b b2 c0 rg sl s) [(0, .ref (c0 0)), (1, .int x1)] [] (fun x u => x = r ∧ u = (wX cB cI cJ cZ cS a b b2 c0 rg sl s')) := by
  intro p e s0 m below meth c A E H locs ls hP hD hS hl
  obtain ⟨C, hr, hlocks, hA, hK, hN⟩ := id E
  obtain ⟨hx, hb, hml, hown, hts⟩ := id C
  unfold kX10_count at hB
  refine lv_iload_n hx hb dX10_count_0 rfl (lv_at hl 1 rfl) ?_
  by_cases e1 : x1 = 0
  · have hB := if_p hB e1
    refine q_top (y := 0) e1 ?_
    refine lv_tableIn (off := 91) (tgt := 92) hx hb dX10_count_1 (by decide +kernel) (by decide +kernel) (by decide +kernel) (by decide) ?_
    refine lv_aload_n hx hb dX10_count_92 rfl (lv_at hl 0 rfl) ?_
    refine q_get (v := .ref (a 2)) C inX10_count_X10 hK hP 0 rfl rfl 1 (by decide) rfl LX10_count_19 rfl dX10_count_93 ?_
    refine q_getN (v := .int (s.k.v 1)) C hN inX10_count_X5 hK hP 19 rfl rfl 6 (by decide) rfl nwF_X10_167 rfl dX10_count_96 ?_
    exact q_iret C hr hlocks hK hP hD hS (Nat.le_of_ble_eq_true rfl) (Nat.le_of_ble_eq_true rfl) dX10_count_99 (by cases hB; exact ⟨rfl, rfl⟩)
  · have hB := if_n hB e1
    by_cases e2 : x1 = 1
    · have hB := if_p hB e2
      refine q_top (y := 1) e2 ?_
      refine lv_tableIn (off := 99) (tgt := 100) hx hb dX10_count_1 (by decide +kernel) (by decide +kernel) (by decide +kernel) (by decide) ?_
      refine lv_aload_n hx hb dX10_count_100 rfl (lv_at hl 0 rfl) ?_
      refine q_get (v := .ref (a 2)) C inX10_count_X10 hK hP 0 rfl rfl 1 (by decide) rfl LX10_count_19 rfl dX10_count_101 ?_
      refine q_getN (v := .int (s.k.v 2)) C hN inX10_count_X5 hK hP 19 rfl rfl 7 (by decide) rfl nwF_X10_235 rfl dX10_count_104 ?_
      exact q_iret C hr hlocks hK hP hD hS (Nat.le_of_ble_eq_true rfl) (Nat.le_of_ble_eq_true rfl) dX10_count_107 (by cases hB; exact ⟨rfl, rfl⟩)
    · have hB := if_n hB e2
      by_cases e3 : x1 = 2
      · have hB := if_p hB e3
        refine q_top (y := 2) e3 ?_
        refine lv_tableIn (off := 107) (tgt := 108) hx hb dX10_count_1 (by decide +kernel) (by decide +kernel) (by decide +kernel) (by decide) ?_
        refine lv_aload_n hx hb dX10_count_108 rfl (lv_at hl 0 rfl) ?_
        refine q_get (v := .ref (b 0)) C inX10_count_X10 hK hP 0 rfl rfl 3 (by decide) rfl LX10_count_35 rfl dX10_count_109 ?_
        refine q_getN (v := .int (s.n.v 5)) C hN inX10_count_X6 hK hP 11 rfl rfl 5 (by decide) rfl nwF_X10_189 rfl dX10_count_112 ?_
        exact q_iret C hr hlocks hK hP hD hS (Nat.le_of_ble_eq_true rfl) (Nat.le_of_ble_eq_true rfl) dX10_count_115 (by cases hB; exact ⟨rfl, rfl⟩)
      · have hB := if_n hB e3
        by_cases e4 : x1 = 3
        · have hB := if_p hB e4
          refine q_top (y := 3) e4 ?_
          refine lv_tableIn (off := 115) (tgt := 116) hx hb dX10_count_1 (by decide +kernel) (by decide +kernel) (by decide +kernel) (by decide) ?_
          refine lv_aload_n hx hb dX10_count_116 rfl (lv_at hl 0 rfl) ?_
          refine q_get (v := .ref (b 0)) C inX10_count_X10 hK hP 0 rfl rfl 3 (by decide) rfl LX10_count_35 rfl dX10_count_117 ?_
          refine q_getN (v := .int (s.n.v 6)) C hN inX10_count_X6 hK hP 11 rfl rfl 6 (by decide) rfl nwF_X10_241 rfl dX10_count_120 ?_
          exact q_iret C hr hlocks hK hP hD hS (Nat.le_of_ble_eq_true rfl) (Nat.le_of_ble_eq_true rfl) dX10_count_123 (by cases hB; exact ⟨rfl, rfl⟩)
        · have hB := if_n hB e4
          by_cases e5 : x1 = 4
          · have hB := if_p hB e5
            refine q_top (y := 4) e5 ?_
            refine lv_tableIn (off := 123) (tgt := 124) hx hb dX10_count_1 (by decide +kernel) (by decide +kernel) (by decide +kernel) (by decide) ?_
            refine lv_aload_n hx hb dX10_count_124 rfl (lv_at hl 0 rfl) ?_
            refine lv_aload_n hx hb dX10_count_125 rfl (lv_at hl 0 rfl) ?_
            refine q_get (v := .ref (b 0)) C inX10_count_X10 hK hP 0 rfl rfl 3 (by decide) rfl LX10_count_35 rfl dX10_count_126 ?_
            refine lv_iconst (v := 0) hx hb dX10_count_129 (by decide) ?_
            obtain ⟨q_, s6, hc, hB⟩ := bindI_inv hB
            refine q_goiF (va_runV (As := [.ref (b 0), .int 0]) (rest := []) C (ckX10_partiesThatAre hc _) (cwV 2 hts gX10_count_X10_partiesThatAre rfl rfl rfl (by decide +kernel) ⟨Nat.le_of_ble_eq_true rfl, Nat.le_of_ble_eq_true rfl⟩) (q_preV hK hP (ci := 10) (q0 := 0) rfl rfl rfl (q_preF hN hK hP hD)) rfl rfl hl.1 rfl (lv_room (Nat.le_of_ble_eq_true rfl)) dX10_count_130 ⟨Nat.le_of_ble_eq_true rfl, Nat.le_of_ble_eq_true rfl⟩) hD hS hA (fun r7 w1 H locs hw hP hD hS => ?_)
            obtain ⟨hq_, hw⟩ := hw; subst hw; subst hq_
            exact q_iret C hr hlocks hK hP hD hS (Nat.le_of_ble_eq_true rfl) (Nat.le_of_ble_eq_true rfl) dX10_count_133 (by cases hB; exact ⟨rfl, rfl⟩)
          · have hB := if_n hB e5
            by_cases e8 : x1 = 5
            · have hB := if_p hB e8
              refine q_top (y := 5) e8 ?_
              refine lv_tableIn (off := 133) (tgt := 134) hx hb dX10_count_1 (by decide +kernel) (by decide +kernel) (by decide +kernel) (by decide) ?_
              refine lv_aload_n hx hb dX10_count_134 rfl (lv_at hl 0 rfl) ?_
              refine lv_aload_n hx hb dX10_count_135 rfl (lv_at hl 0 rfl) ?_
              refine q_get (v := .ref (b 0)) C inX10_count_X10 hK hP 0 rfl rfl 3 (by decide) rfl LX10_count_35 rfl dX10_count_136 ?_
              refine lv_iconst (v := 1) hx hb dX10_count_139 (by decide) ?_
              obtain ⟨q_, s9, hc, hB⟩ := bindI_inv hB
              refine q_goiF (va_runV (As := [.ref (b 0), .int 1]) (rest := []) C (ckX10_partiesThatAre hc _) (cwV 2 hts gX10_count_X10_partiesThatAre rfl rfl rfl (by decide +kernel) ⟨Nat.le_of_ble_eq_true rfl, Nat.le_of_ble_eq_true rfl⟩) (q_preV hK hP (ci := 10) (q0 := 0) rfl rfl rfl (q_preF hN hK hP hD)) rfl rfl hl.1 rfl (lv_room (Nat.le_of_ble_eq_true rfl)) dX10_count_140 ⟨Nat.le_of_ble_eq_true rfl, Nat.le_of_ble_eq_true rfl⟩) hD hS hA (fun r10 w1 H locs hw hP hD hS => ?_)
              obtain ⟨hq_, hw⟩ := hw; subst hw; subst hq_
              exact q_iret C hr hlocks hK hP hD hS (Nat.le_of_ble_eq_true rfl) (Nat.le_of_ble_eq_true rfl) dX10_count_143 (by cases hB; exact ⟨rfl, rfl⟩)
            · have hB := if_n hB e8
              by_cases e11 : x1 = 6
              · have hB := if_p hB e11
                refine q_top (y := 6) e11 ?_
                refine lv_tableIn (off := 143) (tgt := 144) hx hb dX10_count_1 (by decide +kernel) (by decide +kernel) (by decide +kernel) (by decide) ?_
                refine lv_aload_n hx hb dX10_count_144 rfl (lv_at hl 0 rfl) ?_
                refine lv_aload_n hx hb dX10_count_145 rfl (lv_at hl 0 rfl) ?_
                refine q_get (v := .ref (b 0)) C inX10_count_X10 hK hP 0 rfl rfl 3 (by decide) rfl LX10_count_35 rfl dX10_count_146 ?_
                refine lv_iconst (v := 2) hx hb dX10_count_149 (by decide) ?_
                obtain ⟨q_, s12, hc, hB⟩ := bindI_inv hB
                refine q_goiF (va_runV (As := [.ref (b 0), .int 2]) (rest := []) C (ckX10_partiesThatAre hc _) (cwV 2 hts gX10_count_X10_partiesThatAre rfl rfl rfl (by decide +kernel) ⟨Nat.le_of_ble_eq_true rfl, Nat.le_of_ble_eq_true rfl⟩) (q_preV hK hP (ci := 10) (q0 := 0) rfl rfl rfl (q_preF hN hK hP hD)) rfl rfl hl.1 rfl (lv_room (Nat.le_of_ble_eq_true rfl)) dX10_count_150 ⟨Nat.le_of_ble_eq_true rfl, Nat.le_of_ble_eq_true rfl⟩) hD hS hA (fun r13 w1 H locs hw hP hD hS => ?_)
                obtain ⟨hq_, hw⟩ := hw; subst hw; subst hq_
                exact q_iret C hr hlocks hK hP hD hS (Nat.le_of_ble_eq_true rfl) (Nat.le_of_ble_eq_true rfl) dX10_count_153 (by cases hB; exact ⟨rfl, rfl⟩)
              · have hB := if_n hB e11
                by_cases e14 : x1 = 7
                · have hB := if_p hB e14
                  refine q_top (y := 7) e14 ?_
                  refine lv_tableIn (off := 153) (tgt := 154) hx hb dX10_count_1 (by decide +kernel) (by decide +kernel) (by decide +kernel) (by decide) ?_
                  refine lv_aload_n hx hb dX10_count_154 rfl (lv_at hl 0 rfl) ?_
                  refine q_get (v := .ref (b 0)) C inX10_count_X10 hK hP 0 rfl rfl 3 (by decide) rfl LX10_count_35 rfl dX10_count_155 ?_
                  refine q_getN (v := .ref (b 5)) C hN inX10_count_X6 hK hP 11 rfl rfl 4 (by decide) rfl nwF_X10_150 rfl dX10_count_158 ?_
                  obtain ⟨q_, s15, hc, hB⟩ := bindI_inv hB
                  refine q_goi (wr := (((wX cB cI cJ cZ cS a b b2 c0 rg sl s)).eraseIdx 16)) (va_runS (As := [.ref (b 5)]) (rest := []) C (ckX10_sumOf_6 hc _) (va_cwS 1 hts gX10_count_X10_sumOf rfl rfl rfl (by decide +kernel) ⟨Nat.le_of_ble_eq_true rfl, Nat.le_of_ble_eq_true rfl⟩) (q_pre hN hK hP hD [16] rfl zqn_27) rfl rfl hl.1 rfl (lv_room (Nat.le_of_ble_eq_true rfl)) dX10_count_161 ⟨Nat.le_of_ble_eq_true rfl, Nat.le_of_ble_eq_true rfl⟩) hP hD hS hA [16] [0, 1, 2, 3, 4, 5, 6, 7, 8, 9, 10, 11, 12, 13, 14, 15, 17, 18, 19, 20, 21, 22, 23, 24, 25, 26, 27, 28, 29, 30, 31, 32, 33, 34, 35, 36, 37, 38, 39, 40, 41, 42, 43, 44, 45, 46, 47, 48, 49, 50, 51, 52, 53, 54, 55, 56, 57, 58, 59, 60, 61, 62, 63] rfl rfl zqn_29 zqd_14 (fun r16 w1 H locs hw hP hD hS => ?_)
                  obtain ⟨hq_, hw⟩ := hw; subst hw; subst hq_
                  obtain ⟨s17, hs18, hB⟩ := letS_inv hB
                  have hP : va_P (dC, dI) vwCl (wX cB cI cJ cZ cS a b b2 c0 rg sl s17) H := by subst hs18; exact hP.sub [0, 1, 2, 3, 4, 5, 6, 7, 8, 9, 10, 11, 12, 13, 14, 15, 63, 16, 17, 18, 19, 20, 21, 22, 23, 24, 25, 26, 27, 28, 29, 30, 31, 32, 33, 34, 35, 36, 37, 38, 39, 40, 41, 42, 43, 44, 45, 46, 47, 48, 49, 50, 51, 52, 53, 54, 55, 56, 57, 58, 59, 60, 61, 62] rfl
                  have hD : va_D A (wX cB cI cJ cZ cS a b b2 c0 rg sl s17) := by subst hs18; exact hD.sub [0, 1, 2, 3, 4, 5, 6, 7, 8, 9, 10, 11, 12, 13, 14, 15, 63, 16, 17, 18, 19, 20, 21, 22, 23, 24, 25, 26, 27, 28, 29, 30, 31, 32, 33, 34, 35, 36, 37, 38, 39, 40, 41, 42, 43, 44, 45, 46, 47, 48, 49, 50, 51, 52, 53, 54, 55, 56, 57, 58, 59, 60, 61, 62] (by decide +kernel) rfl
                  exact q_iret C hr hlocks hK hP hD hS (Nat.le_of_ble_eq_true rfl) (Nat.le_of_ble_eq_true rfl) dX10_count_164 (by cases hB; exact ⟨rfl, rfl⟩)
                · have hB := if_n hB e14
                  by_cases e19 : x1 = 8
                  · have hB := if_p hB e19
                    refine q_top (y := 8) e19 ?_
                    refine lv_tableIn (off := 164) (tgt := 165) hx hb dX10_count_1 (by decide +kernel) (by decide +kernel) (by decide +kernel) (by decide) ?_
                    refine lv_aload_n hx hb dX10_count_165 rfl (lv_at hl 0 rfl) ?_
                    refine q_get (v := .ref (a 0)) C inX10_count_X10 hK hP 0 rfl rfl 0 (by decide) rfl LX10_count_10 rfl dX10_count_166 ?_
                    refine q_getN (v := .int (s.k.v 0)) C hN inX10_count_X7 hK hP 17 rfl rfl 1 (by decide) rfl nwF_X10_85 rfl dX10_count_169 ?_
                    exact q_iret C hr hlocks hK hP hD hS (Nat.le_of_ble_eq_true rfl) (Nat.le_of_ble_eq_true rfl) dX10_count_172 (by cases hB; exact ⟨rfl, rfl⟩)
                  · have hB := if_n hB e19
                    by_cases e20 : x1 = 9
                    · have hB := if_p hB e20
                      refine q_top (y := 9) e20 ?_
                      refine lv_tableIn (off := 172) (tgt := 173) hx hb dX10_count_1 (by decide +kernel) (by decide +kernel) (by decide +kernel) (by decide) ?_
                      refine lv_aload_n hx hb dX10_count_173 rfl (lv_at hl 0 rfl) ?_
                      refine q_get (v := .ref (c0 1)) C inX10_count_X10 hK hP 0 rfl rfl 5 (by decide) rfl LX10_count_45 rfl dX10_count_174 ?_
                      refine q_getN (v := .int (s.g.v 4)) C hN inX10_count_X3 hK hP 1 rfl rfl 4 (by decide) rfl nwF_X10_293 rfl dX10_count_177 ?_
                      exact q_iret C hr hlocks hK hP hD hS (Nat.le_of_ble_eq_true rfl) (Nat.le_of_ble_eq_true rfl) dX10_count_180 (by cases hB; exact ⟨rfl, rfl⟩)
                    · have hB := if_n hB e20
                      by_cases e21 : x1 = 10
                      · have hB := if_p hB e21
                        refine q_top (y := 10) e21 ?_
                        refine lv_tableIn (off := 180) (tgt := 181) hx hb dX10_count_1 (by decide +kernel) (by decide +kernel) (by decide +kernel) (by decide) ?_
                        refine lv_aload_n hx hb dX10_count_181 rfl (lv_at hl 0 rfl) ?_
                        refine q_get (v := .ref (a 41)) C inX10_count_X10 hK hP 0 rfl rfl 8 (by decide) rfl LX10_count_70 rfl dX10_count_182 ?_
                        refine q_getN (v := .int (s.k.v 21)) C hN inX10_count_X8 hK hP 58 rfl rfl 7 (by decide) rfl nwF_X10_102 rfl dX10_count_185 ?_
                        exact q_iret C hr hlocks hK hP hD hS (Nat.le_of_ble_eq_true rfl) (Nat.le_of_ble_eq_true rfl) dX10_count_188 (by cases hB; exact ⟨rfl, rfl⟩)
                      · have hB := if_n hB e21
                        by_cases e22 : x1 = 11
                        · have hB := if_p hB e22
                          refine q_top (y := 11) e22 ?_
                          refine lv_tableIn (off := 188) (tgt := 189) hx hb dX10_count_1 (by decide +kernel) (by decide +kernel) (by decide +kernel) (by decide) ?_
                          refine lv_aload_n hx hb dX10_count_189 rfl (lv_at hl 0 rfl) ?_
                          refine q_get (v := .ref (c0 1)) C inX10_count_X10 hK hP 0 rfl rfl 5 (by decide) rfl LX10_count_45 rfl dX10_count_190 ?_
                          obtain ⟨q_, s23, hc, hB⟩ := bindI_inv hB
                          refine q_goi (wr := ((wD cI b2 s.t) ++ (wD cI b s.n) ++ (wK cB cI cJ cZ cS a s.k))) (va_runVN (As := []) (rest := []) C (ckX3_slotsHeld hc _) ⟨va_cnB 0 hts gX10_count_X3_slotsHeld_n296 rfl rfl rfl (hN _ nwM_X10_296 rfl) (hts _ LX10_count_I_X3) (by decide +kernel) ⟨Nat.le_of_ble_eq_true rfl, Nat.le_of_ble_eq_true rfl⟩, hts _ LX10_count_N_X3_slotsHeld, hts _ LX10_count_E_X3_slotsHeld⟩ (q_preV hK hP (ci := 3) (q0 := 1) rfl rfl rfl (q_pre hN hK hP hD [0, 1, 2, 3, 4] (by first | exact zqs_29X | rfl) zqn_21)) rfl rfl hl.1 rfl (lv_room (Nat.le_of_ble_eq_true rfl)) dX10_count_193 ⟨Nat.le_of_ble_eq_true rfl, Nat.le_of_ble_eq_true rfl⟩) hP hD hS hA [0, 1, 2, 3, 4] [5, 6, 7, 8, 9, 10, 11, 12, 13, 14, 15, 16, 17, 18, 19, 20, 21, 22, 23, 24, 25, 26, 27, 28, 29, 30, 31, 32, 33, 34, 35, 36, 37, 38, 39, 40, 41, 42, 43, 44, 45, 46, 47, 48, 49, 50, 51, 52, 53, 54, 55, 56, 57, 58, 59, 60, 61, 62, 63] (by first | exact zqs_29X | rfl) (by first | exact zqs_32X | rfl) zqn_30 zqd_15 (fun r24 w1 H locs hw hP hD hS => ?_)
                          obtain ⟨hq_, hw⟩ := hw; subst hw; subst hq_
                          obtain ⟨s25, hs26, hB⟩ := letS_inv hB
                          have hP : va_P (dC, dI) vwCl (wX cB cI cJ cZ cS a b b2 c0 rg sl s25) H := by subst hs26; exact hP.sub [59, 60, 61, 62, 63, 0, 1, 2, 3, 4, 5, 6, 7, 8, 9, 10, 11, 12, 13, 14, 15, 16, 17, 18, 19, 20, 21, 22, 23, 24, 25, 26, 27, 28, 29, 30, 31, 32, 33, 34, 35, 36, 37, 38, 39, 40, 41, 42, 43, 44, 45, 46, 47, 48, 49, 50, 51, 52, 53, 54, 55, 56, 57, 58] rfl
                          have hD : va_D A (wX cB cI cJ cZ cS a b b2 c0 rg sl s25) := by subst hs26; exact hD.sub [59, 60, 61, 62, 63, 0, 1, 2, 3, 4, 5, 6, 7, 8, 9, 10, 11, 12, 13, 14, 15, 16, 17, 18, 19, 20, 21, 22, 23, 24, 25, 26, 27, 28, 29, 30, 31, 32, 33, 34, 35, 36, 37, 38, 39, 40, 41, 42, 43, 44, 45, 46, 47, 48, 49, 50, 51, 52, 53, 54, 55, 56, 57, 58] (by decide +kernel) rfl
                          exact q_iret C hr hlocks hK hP hD hS (Nat.le_of_ble_eq_true rfl) (Nat.le_of_ble_eq_true rfl) dX10_count_196 (by cases hB; exact ⟨rfl, rfl⟩)
                        · have hB := if_n hB e22
                          by_cases e27 : x1 = 12
                          · have hB := if_p hB e27
                            refine q_top (y := 12) e27 ?_
                            refine lv_tableIn (off := 196) (tgt := 197) hx hb dX10_count_1 (by decide +kernel) (by decide +kernel) (by decide +kernel) (by decide) ?_
                            refine lv_aload_n hx hb dX10_count_197 rfl (lv_at hl 0 rfl) ?_
                            obtain ⟨q_, s28, hc, hB⟩ := bindI_inv hB
                            refine q_goiF (va_runV (As := []) (rest := []) C (ckX10_buoysLying hc _) (cwV 0 hts gX10_count_X10_buoysLying rfl rfl rfl (by decide +kernel) ⟨Nat.le_of_ble_eq_true rfl, Nat.le_of_ble_eq_true rfl⟩) (q_preV hK hP (ci := 10) (q0 := 0) rfl rfl rfl (q_preF hN hK hP hD)) rfl rfl hl.1 rfl (lv_room (Nat.le_of_ble_eq_true rfl)) dX10_count_198 ⟨Nat.le_of_ble_eq_true rfl, Nat.le_of_ble_eq_true rfl⟩) hD hS hA (fun r29 w1 H locs hw hP hD hS => ?_)
                            obtain ⟨hq_, hw⟩ := hw; subst hw; subst hq_
                            exact q_iret C hr hlocks hK hP hD hS (Nat.le_of_ble_eq_true rfl) (Nat.le_of_ble_eq_true rfl) dX10_count_201 (by cases hB; exact ⟨rfl, rfl⟩)
                          · have hB := if_n hB e27
                            by_cases e30 : x1 = 13
                            · have hB := if_p hB e30
                              refine q_top (y := 13) e30 ?_
                              refine lv_tableIn (off := 201) (tgt := 202) hx hb dX10_count_1 (by decide +kernel) (by decide +kernel) (by decide +kernel) (by decide) ?_
                              refine lv_aload_n hx hb dX10_count_202 rfl (lv_at hl 0 rfl) ?_
                              obtain ⟨q_, s31, hc, hB⟩ := bindI_inv hB
                              refine q_goiF (va_runV (As := []) (rest := []) C (ckX10_wavesFound hc _) (cwV 0 hts gX10_count_X10_wavesFound rfl rfl rfl (by decide +kernel) ⟨Nat.le_of_ble_eq_true rfl, Nat.le_of_ble_eq_true rfl⟩) (q_preV hK hP (ci := 10) (q0 := 0) rfl rfl rfl (q_preF hN hK hP hD)) rfl rfl hl.1 rfl (lv_room (Nat.le_of_ble_eq_true rfl)) dX10_count_203 ⟨Nat.le_of_ble_eq_true rfl, Nat.le_of_ble_eq_true rfl⟩) hD hS hA (fun r32 w1 H locs hw hP hD hS => ?_)
                              obtain ⟨hq_, hw⟩ := hw; subst hw; subst hq_
                              exact q_iret C hr hlocks hK hP hD hS (Nat.le_of_ble_eq_true rfl) (Nat.le_of_ble_eq_true rfl) dX10_count_206 (by cases hB; exact ⟨rfl, rfl⟩)
                            · have hB := if_n hB e30
                              by_cases e33 : x1 = 14
                              · have hB := if_p hB e33
                                refine q_top (y := 14) e33 ?_
                                refine lv_tableIn (off := 206) (tgt := 207) hx hb dX10_count_1 (by decide +kernel) (by decide +kernel) (by decide +kernel) (by decide) ?_
                                refine lv_aload_n hx hb dX10_count_207 rfl (lv_at hl 0 rfl) ?_
                                refine q_get (v := .ref (a 2)) C inX10_count_X10 hK hP 0 rfl rfl 1 (by decide) rfl LX10_count_19 rfl dX10_count_208 ?_
                                refine q_getN (v := .int (s.k.v 3)) C hN inX10_count_X5 hK hP 19 rfl rfl 8 (by decide) rfl nwF_X10_305 rfl dX10_count_211 ?_
                                exact q_iret C hr hlocks hK hP hD hS (Nat.le_of_ble_eq_true rfl) (Nat.le_of_ble_eq_true rfl) dX10_count_214 (by cases hB; exact ⟨rfl, rfl⟩)
                              · have hB := if_n hB e33
                                by_cases e34 : x1 = 15
                                · have hB := if_p hB e34
                                  refine q_top (y := 15) e34 ?_
                                  refine lv_tableIn (off := 214) (tgt := 215) hx hb dX10_count_1 (by decide +kernel) (by decide +kernel) (by decide +kernel) (by decide) ?_
                                  refine lv_aload_n hx hb dX10_count_215 rfl (lv_at hl 0 rfl) ?_
                                  refine q_get (v := .ref (a 35)) C inX10_count_X10 hK hP 0 rfl rfl 6 (by decide) rfl LX10_count_54 rfl dX10_count_216 ?_
                                  refine lv_aload_n hx hb dX10_count_219 rfl (lv_at hl 0 rfl) ?_
                                  refine q_get (v := .ref (b 0)) C inX10_count_X10 hK hP 0 rfl rfl 3 (by decide) rfl LX10_count_35 rfl dX10_count_220 ?_
                                  refine lv_aload_n hx hb dX10_count_223 rfl (lv_at hl 0 rfl) ?_
                                  refine q_get (v := .ref (a 2)) C inX10_count_X10 hK hP 0 rfl rfl 1 (by decide) rfl LX10_count_19 rfl dX10_count_224 ?_
                                  refine q_getN (v := .int (s.k.v 4)) C hN inX10_count_X5 hK hP 19 rfl rfl 9 (by decide) rfl nwF_X10_253 rfl dX10_count_227 ?_
                                  obtain ⟨q_, s35, hc, hB⟩ := bindI_inv hB
                                  refine q_goi (wr := ((wG cZ cS a b b2 c0 rg sl s.g) ++ (wD cI b2 s.t))) (va_runVN (As := [.ref (b 0), .int (s.k.v 4)]) (rest := []) C (ckX0_guessThere hc _) ⟨va_cnB 2 hts gX10_count_X0_guessThere_n256 rfl rfl rfl (hN _ nwM_X10_256 rfl) (hts _ LX10_count_I_X0) (by decide +kernel) ⟨Nat.le_of_ble_eq_true rfl, Nat.le_of_ble_eq_true rfl⟩, hts _ LX10_count_N_X0_guessThere, hts _ LX10_count_E_X0_guessThere⟩ (q_preV hK hP (ci := 0) (q0 := 52) rfl rfl rfl (q_pre hN hK hP hD [11, 12, 13, 14, 15, 16, 17, 18, 19, 20, 21, 22, 23, 24, 25, 26, 27, 28, 29, 30, 31, 32, 33, 34, 35, 36, 37, 38, 39, 40, 41, 42, 43, 44, 45, 46, 47, 48, 49, 50, 51, 52, 53, 54, 55, 56, 57, 58, 59, 60, 61, 62, 63] (by first | exact zqs_2X | rfl) zqn_2)) rfl rfl hl.1 rfl (lv_room (Nat.le_of_ble_eq_true rfl)) dX10_count_230 ⟨Nat.le_of_ble_eq_true rfl, Nat.le_of_ble_eq_true rfl⟩) hP hD hS hA [11, 12, 13, 14, 15, 16, 17, 18, 19, 20, 21, 22, 23, 24, 25, 26, 27, 28, 29, 30, 31, 32, 33, 34, 35, 36, 37, 38, 39, 40, 41, 42, 43, 44, 45, 46, 47, 48, 49, 50, 51, 52, 53, 54, 55, 56, 57, 58, 59, 60, 61, 62, 63] [0, 1, 2, 3, 4, 5, 6, 7, 8, 9, 10] (by first | exact zqs_2X | rfl) (by first | exact zqs_3X | rfl) zqn_3 zqd_1 (fun r36 w1 H locs hw hP hD hS => ?_)
                                  obtain ⟨hq_, hw⟩ := hw; subst hw; subst hq_
                                  obtain ⟨s37, hs38, hB⟩ := letS_inv hB
                                  have hP : va_P (dC, dI) vwCl (wX cB cI cJ cZ cS a b b2 c0 rg sl s37) H := by subst hs38; exact hP
                                  have hD : va_D A (wX cB cI cJ cZ cS a b b2 c0 rg sl s37) := by subst hs38; exact hD
                                  exact q_iret C hr hlocks hK hP hD hS (Nat.le_of_ble_eq_true rfl) (Nat.le_of_ble_eq_true rfl) dX10_count_233 (by cases hB; exact ⟨rfl, rfl⟩)
                                · have hB := if_n hB e34
                                  by_cases e39 : x1 = 16
                                  · have hB := if_p hB e39
                                    refine q_top (y := 16) e39 ?_
                                    refine lv_tableIn (off := 233) (tgt := 234) hx hb dX10_count_1 (by decide +kernel) (by decide +kernel) (by decide +kernel) (by decide) ?_
                                    refine lv_aload_n hx hb dX10_count_234 rfl (lv_at hl 0 rfl) ?_
                                    refine q_get (v := .ref (b 0)) C inX10_count_X10 hK hP 0 rfl rfl 3 (by decide) rfl LX10_count_35 rfl dX10_count_235 ?_
                                    refine q_getN (v := .ref (b 3)) C hN inX10_count_X6 hK hP 11 rfl rfl 2 (by decide) rfl nwF_X10_122 rfl dX10_count_238 ?_
                                    obtain ⟨q_, s40, hc, hB⟩ := bindI_inv hB
                                    refine q_goi (wr := (((wX cB cI cJ cZ cS a b b2 c0 rg sl s)).eraseIdx 14)) (va_runS (As := [.ref (b 3)]) (rest := []) C (ckX10_sumOf_5 hc _) (va_cwS 1 hts gX10_count_X10_sumOf rfl rfl rfl (by decide +kernel) ⟨Nat.le_of_ble_eq_true rfl, Nat.le_of_ble_eq_true rfl⟩) (q_pre hN hK hP hD [14] rfl zqn_28) rfl rfl hl.1 rfl (lv_room (Nat.le_of_ble_eq_true rfl)) dX10_count_241 ⟨Nat.le_of_ble_eq_true rfl, Nat.le_of_ble_eq_true rfl⟩) hP hD hS hA [14] [0, 1, 2, 3, 4, 5, 6, 7, 8, 9, 10, 11, 12, 13, 15, 16, 17, 18, 19, 20, 21, 22, 23, 24, 25, 26, 27, 28, 29, 30, 31, 32, 33, 34, 35, 36, 37, 38, 39, 40, 41, 42, 43, 44, 45, 46, 47, 48, 49, 50, 51, 52, 53, 54, 55, 56, 57, 58, 59, 60, 61, 62, 63] rfl rfl zqn_31 zqd_16 (fun r41 w1 H locs hw hP hD hS => ?_)
                                    obtain ⟨hq_, hw⟩ := hw; subst hw; subst hq_
                                    obtain ⟨s42, hs43, hB⟩ := letS_inv hB
                                    have hP : va_P (dC, dI) vwCl (wX cB cI cJ cZ cS a b b2 c0 rg sl s42) H := by subst hs43; exact hP.sub [0, 1, 2, 3, 4, 5, 6, 7, 8, 9, 10, 11, 12, 13, 63, 14, 15, 16, 17, 18, 19, 20, 21, 22, 23, 24, 25, 26, 27, 28, 29, 30, 31, 32, 33, 34, 35, 36, 37, 38, 39, 40, 41, 42, 43, 44, 45, 46, 47, 48, 49, 50, 51, 52, 53, 54, 55, 56, 57, 58, 59, 60, 61, 62] rfl
                                    have hD : va_D A (wX cB cI cJ cZ cS a b b2 c0 rg sl s42) := by subst hs43; exact hD.sub [0, 1, 2, 3, 4, 5, 6, 7, 8, 9, 10, 11, 12, 13, 63, 14, 15, 16, 17, 18, 19, 20, 21, 22, 23, 24, 25, 26, 27, 28, 29, 30, 31, 32, 33, 34, 35, 36, 37, 38, 39, 40, 41, 42, 43, 44, 45, 46, 47, 48, 49, 50, 51, 52, 53, 54, 55, 56, 57, 58, 59, 60, 61, 62] (by decide +kernel) rfl
                                    exact q_iret C hr hlocks hK hP hD hS (Nat.le_of_ble_eq_true rfl) (Nat.le_of_ble_eq_true rfl) dX10_count_244 (by cases hB; exact ⟨rfl, rfl⟩)
                                  · have hB := if_n hB e39
                                    by_cases e44 : x1 = 17
                                    · have hB := if_p hB e44
                                      refine q_top (y := 17) e44 ?_
                                      refine lv_tableIn (off := 244) (tgt := 245) hx hb dX10_count_1 (by decide +kernel) (by decide +kernel) (by decide +kernel) (by decide) ?_
                                      refine lv_aload_n hx hb dX10_count_245 rfl (lv_at hl 0 rfl) ?_
                                      obtain ⟨q_, s45, hc, hB⟩ := bindI_inv hB
                                      refine q_goiF (va_runV (As := []) (rest := []) C (ckX10_wavesWithNothing hc _) (cwV 0 hts gX10_count_X10_wavesWithNothing rfl rfl rfl (by decide +kernel) ⟨Nat.le_of_ble_eq_true rfl, Nat.le_of_ble_eq_true rfl⟩) (q_preV hK hP (ci := 10) (q0 := 0) rfl rfl rfl (q_preF hN hK hP hD)) rfl rfl hl.1 rfl (lv_room (Nat.le_of_ble_eq_true rfl)) dX10_count_246 ⟨Nat.le_of_ble_eq_true rfl, Nat.le_of_ble_eq_true rfl⟩) hD hS hA (fun r46 w1 H locs hw hP hD hS => ?_)
                                      obtain ⟨hq_, hw⟩ := hw; subst hw; subst hq_
                                      exact q_iret C hr hlocks hK hP hD hS (Nat.le_of_ble_eq_true rfl) (Nat.le_of_ble_eq_true rfl) dX10_count_249 (by cases hB; exact ⟨rfl, rfl⟩)
                                    · have hB := if_n hB e44
                                      by_cases e47 : x1 = 18
                                      · have hB := if_p hB e47
                                        refine q_top (y := 18) e47 ?_
                                        refine lv_tableIn (off := 249) (tgt := 250) hx hb dX10_count_1 (by decide +kernel) (by decide +kernel) (by decide +kernel) (by decide) ?_
                                        refine lv_aload_n hx hb dX10_count_250 rfl (lv_at hl 0 rfl) ?_
                                        obtain ⟨q_, s48, hc, hB⟩ := bindI_inv hB
                                        refine q_goiF (va_runV (As := []) (rest := []) C (ckX10_faresOfAllHere hc _) (cwV 0 hts gX10_count_X10_faresOfAllHere rfl rfl rfl (by decide +kernel) ⟨Nat.le_of_ble_eq_true rfl, Nat.le_of_ble_eq_true rfl⟩) (q_preV hK hP (ci := 10) (q0 := 0) rfl rfl rfl (q_preF hN hK hP hD)) rfl rfl hl.1 rfl (lv_room (Nat.le_of_ble_eq_true rfl)) dX10_count_251 ⟨Nat.le_of_ble_eq_true rfl, Nat.le_of_ble_eq_true rfl⟩) hD hS hA (fun r49 w1 H locs hw hP hD hS => ?_)
                                        obtain ⟨hq_, hw⟩ := hw; subst hw; subst hq_
                                        exact q_iret C hr hlocks hK hP hD hS (Nat.le_of_ble_eq_true rfl) (Nat.le_of_ble_eq_true rfl) dX10_count_254 (by cases hB; exact ⟨rfl, rfl⟩)
                                      · have hB := if_n hB e47
                                        refine lv_tableOut (tgt := 255) hx hb dX10_count_1 (by have := ne_toInt (k := 0) rfl e1; have := ne_toInt (k := 1) rfl e2; have := ne_toInt (k := 2) rfl e3; have := ne_toInt (k := 3) rfl e4; have := ne_toInt (k := 4) rfl e5; have := ne_toInt (k := 5) rfl e8; have := ne_toInt (k := 6) rfl e11; have := ne_toInt (k := 7) rfl e14; have := ne_toInt (k := 8) rfl e19; have := ne_toInt (k := 9) rfl e20; have := ne_toInt (k := 10) rfl e21; have := ne_toInt (k := 11) rfl e22; have := ne_toInt (k := 12) rfl e27; have := ne_toInt (k := 13) rfl e30; have := ne_toInt (k := 14) rfl e33; have := ne_toInt (k := 15) rfl e34; have := ne_toInt (k := 16) rfl e39; have := ne_toInt (k := 17) rfl e44; have := ne_toInt (k := 18) rfl e47; omega) (by decide) ?_
                                        refine lv_iconst (v := (-1)) hx hb dX10_count_255 (by decide) ?_
                                        exact q_iret C hr hlocks hK hP hD hS (Nat.le_of_ble_eq_true rfl) (Nat.le_of_ble_eq_true rfl) dX10_count_256 (by cases hB; exact ⟨rfl, rfl⟩)
theorem ckX10_count {l : Launch} {dC : Nat → ClassId} {dI : Nat → Nat → Nat} {cB cI cJ cZ cS : ClassId} {a b b2 c0 : Nat → Nat} {rg sl : Nat → Option Nat} {r : Int32} {s' : XS} {s : XS} {x1 : Int32} (hB : kX10_count s x1 = some (r, s')) : CI l yX10_count wsX10_count ({ frames := 5, cells := 0, slots := 0, locals := 120 }) (dC, dI) (tysA cB cI cJ cZ cS) (wX cB cI cJ cZ cS a b b2 c0 rg sl s) [.ref (c0 0), .int x1] (fun x u => x = r ∧ u = (wX cB cI cJ cZ cS a b b2 c0 rg sl s')) :=
  CI_of (cc := cX10_count) (maxL := 2) (ret := (some .int)) (by decide) rfl (Nat.le_of_ble_eq_true rfl) (bkX10_count _ _ hB)
end
section
theorem ggX3_remember_X6_copyFrom : GoodIn wsX3_remember wsX6_copyFrom := gi_sub (fun w h => List.mem_cons_of_mem _ (List.mem_append_left _ (List.mem_append_left _ (List.mem_append_right _ h)))) gd_wsX6_copyFrom
set_option maxRecDepth 20000 in
theorem gX3_remember_X6_copyFrom_n32 : GoodIn wsX3_remember (wsX6_copyFrom) := ggX3_remember_X6_copyFrom
theorem dX3_remember_0 : decode cX3_remember 0 = .ok (.aload_n 0, 1) := dc1_42 (by decide +kernel)
theorem dX3_remember_1 : decode cX3_remember 1 = .ok (.getfield 11, 3) := dcw_180 (by decide +kernel)
theorem dX3_remember_4 : decode cX3_remember 4 = .ok (.aload_n 0, 1) := dc1_42 (by decide +kernel)
theorem dX3_remember_5 : decode cX3_remember 5 = .ok (.getfield 29, 3) := dcw_180 (by decide +kernel)
theorem dX3_remember_8 : decode cX3_remember 8 = .ok (.aload_n 0, 1) := dc1_42 (by decide +kernel)
theorem dX3_remember_9 : decode cX3_remember 9 = .ok (.getfield 25, 3) := dcw_180 (by decide +kernel)
theorem dX3_remember_12 : decode cX3_remember 12 = .ok (.iadd, 1) := dc1_96 (by decide +kernel)
theorem dX3_remember_13 : decode cX3_remember 13 = .ok (.bipush 40, 2) := dcb_16 (n := 40) (by decide +kernel)
theorem dX3_remember_15 : decode cX3_remember 15 = .ok (.irem, 1) := dc1_112 (by decide +kernel)
theorem dX3_remember_16 : decode cX3_remember 16 = .ok (.aaload, 1) := dc1_50 (by decide +kernel)
theorem dX3_remember_17 : decode cX3_remember 17 = .ok (.aload_n 1, 1) := dc1_43 (by decide +kernel)
theorem dX3_remember_18 : decode cX3_remember 18 = .ok (.invokevirtual 32, 3) := dcw_182 (by decide +kernel)
theorem dX3_remember_21 : decode cX3_remember 21 = .ok (.aload_n 0, 1) := dc1_42 (by decide +kernel)
theorem dX3_remember_22 : decode cX3_remember 22 = .ok (.getfield 25, 3) := dcw_180 (by decide +kernel)
theorem dX3_remember_25 : decode cX3_remember 25 = .ok (.bipush 40, 2) := dcb_16 (n := 40) (by decide +kernel)
theorem dX3_remember_27 : decode cX3_remember 27 = .ok (.if_icmp .ge 16, 3) := dcs_162 (n := 16) (by decide +kernel)
theorem dX3_remember_30 : decode cX3_remember 30 = .ok (.aload_n 0, 1) := dc1_42 (by decide +kernel)
theorem dX3_remember_31 : decode cX3_remember 31 = .ok (.dup, 1) := dc1_89 (by decide +kernel)
theorem dX3_remember_32 : decode cX3_remember 32 = .ok (.getfield 25, 3) := dcw_180 (by decide +kernel)
theorem dX3_remember_35 : decode cX3_remember 35 = .ok (.iconst 1, 1) := dc1_4 (by decide +kernel)
theorem dX3_remember_36 : decode cX3_remember 36 = .ok (.iadd, 1) := dc1_96 (by decide +kernel)
theorem dX3_remember_37 : decode cX3_remember 37 = .ok (.putfield 25, 3) := dcw_181 (by decide +kernel)
theorem dX3_remember_40 : decode cX3_remember 40 = .ok (.goto 16, 3) := dcs_167 (n := 16) (by decide +kernel)
theorem dX3_remember_43 : decode cX3_remember 43 = .ok (.aload_n 0, 1) := dc1_42 (by decide +kernel)
theorem dX3_remember_44 : decode cX3_remember 44 = .ok (.aload_n 0, 1) := dc1_42 (by decide +kernel)
theorem dX3_remember_45 : decode cX3_remember 45 = .ok (.getfield 29, 3) := dcw_180 (by decide +kernel)
theorem dX3_remember_48 : decode cX3_remember 48 = .ok (.iconst 1, 1) := dc1_4 (by decide +kernel)
theorem dX3_remember_49 : decode cX3_remember 49 = .ok (.iadd, 1) := dc1_96 (by decide +kernel)
theorem dX3_remember_50 : decode cX3_remember 50 = .ok (.bipush 40, 2) := dcb_16 (n := 40) (by decide +kernel)
theorem dX3_remember_52 : decode cX3_remember 52 = .ok (.irem, 1) := dc1_112 (by decide +kernel)
theorem dX3_remember_53 : decode cX3_remember 53 = .ok (.putfield 29, 3) := dcw_181 (by decide +kernel)
theorem dX3_remember_56 : decode cX3_remember 56 = .ok (.return_, 1) := dc1_177 (by decide +kernel)
theorem ggX3_takeBack_X6_copyFrom : GoodIn wsX3_takeBack wsX6_copyFrom := gi_sub (fun w h => List.mem_cons_of_mem _ (List.mem_append_left _ (List.mem_append_left _ (List.mem_append_right _ h)))) gd_wsX6_copyFrom
set_option maxRecDepth 20000 in
theorem gX3_takeBack_X6_copyFrom_n32 : GoodIn wsX3_takeBack (wsX6_copyFrom) := ggX3_takeBack_X6_copyFrom
theorem dX3_takeBack_0 : decode cX3_takeBack 0 = .ok (.aload_n 0, 1) := dc1_42 (by decide +kernel)
theorem dX3_takeBack_1 : decode cX3_takeBack 1 = .ok (.getfield 25, 3) := dcw_180 (by decide +kernel)
theorem dX3_takeBack_4 : decode cX3_takeBack 4 = .ok (.ifCond .ne 5, 3) := dcs_154 (n := 5) (by decide +kernel)
theorem dX3_takeBack_7 : decode cX3_takeBack 7 = .ok (.iconst 0, 1) := dc1_3 (by decide +kernel)
theorem dX3_takeBack_8 : decode cX3_takeBack 8 = .ok (.ireturn, 1) := dc1_172 (by decide +kernel)
theorem dX3_takeBack_9 : decode cX3_takeBack 9 = .ok (.aload_n 0, 1) := dc1_42 (by decide +kernel)
theorem dX3_takeBack_10 : decode cX3_takeBack 10 = .ok (.dup, 1) := dc1_89 (by decide +kernel)
theorem dX3_takeBack_11 : decode cX3_takeBack 11 = .ok (.getfield 25, 3) := dcw_180 (by decide +kernel)
theorem dX3_takeBack_14 : decode cX3_takeBack 14 = .ok (.iconst 1, 1) := dc1_4 (by decide +kernel)
theorem dX3_takeBack_15 : decode cX3_takeBack 15 = .ok (.isub, 1) := dc1_100 (by decide +kernel)
theorem dX3_takeBack_16 : decode cX3_takeBack 16 = .ok (.putfield 25, 3) := dcw_181 (by decide +kernel)
theorem dX3_takeBack_19 : decode cX3_takeBack 19 = .ok (.aload_n 1, 1) := dc1_43 (by decide +kernel)
theorem dX3_takeBack_20 : decode cX3_takeBack 20 = .ok (.aload_n 0, 1) := dc1_42 (by decide +kernel)
theorem dX3_takeBack_21 : decode cX3_takeBack 21 = .ok (.getfield 11, 3) := dcw_180 (by decide +kernel)
theorem dX3_takeBack_24 : decode cX3_takeBack 24 = .ok (.aload_n 0, 1) := dc1_42 (by decide +kernel)
theorem dX3_takeBack_25 : decode cX3_takeBack 25 = .ok (.getfield 29, 3) := dcw_180 (by decide +kernel)
theorem dX3_takeBack_28 : decode cX3_takeBack 28 = .ok (.aload_n 0, 1) := dc1_42 (by decide +kernel)
theorem dX3_takeBack_29 : decode cX3_takeBack 29 = .ok (.getfield 25, 3) := dcw_180 (by decide +kernel)
theorem dX3_takeBack_32 : decode cX3_takeBack 32 = .ok (.iadd, 1) := dc1_96 (by decide +kernel)
theorem dX3_takeBack_33 : decode cX3_takeBack 33 = .ok (.bipush 40, 2) := dcb_16 (n := 40) (by decide +kernel)
theorem dX3_takeBack_35 : decode cX3_takeBack 35 = .ok (.irem, 1) := dc1_112 (by decide +kernel)
theorem dX3_takeBack_36 : decode cX3_takeBack 36 = .ok (.aaload, 1) := dc1_50 (by decide +kernel)
theorem dX3_takeBack_37 : decode cX3_takeBack 37 = .ok (.invokevirtual 32, 3) := dcw_182 (by decide +kernel)
theorem dX3_takeBack_40 : decode cX3_takeBack 40 = .ok (.iconst 1, 1) := dc1_4 (by decide +kernel)
theorem dX3_takeBack_41 : decode cX3_takeBack 41 = .ok (.ireturn, 1) := dc1_172 (by decide +kernel)
theorem ggX3_keepIn_X6_copyFrom : GoodIn wsX3_keepIn wsX6_copyFrom := gi_sub (fun w h => List.mem_cons_of_mem _ (List.mem_append_left _ (List.mem_append_left _ (List.mem_append_right _ h)))) gd_wsX6_copyFrom
set_option maxRecDepth 20000 in
theorem gX3_keepIn_X6_copyFrom_n32 : GoodIn wsX3_keepIn (wsX6_copyFrom) := ggX3_keepIn_X6_copyFrom
theorem dX3_keepIn_0 : decode cX3_keepIn 0 = .ok (.iload_n 1, 1) := dc1_27 (by decide +kernel)
theorem dX3_keepIn_1 : decode cX3_keepIn 1 = .ok (.ifCond .lt 8, 3) := dcs_155 (n := 8) (by decide +kernel)
theorem dX3_keepIn_4 : decode cX3_keepIn 4 = .ok (.iload_n 1, 1) := dc1_27 (by decide +kernel)
theorem dX3_keepIn_5 : decode cX3_keepIn 5 = .ok (.iconst 3, 1) := dc1_6 (by decide +kernel)
theorem dX3_keepIn_6 : decode cX3_keepIn 6 = .ok (.if_icmp .lt 5, 3) := dcs_161 (n := 5) (by decide +kernel)
theorem dX3_keepIn_9 : decode cX3_keepIn 9 = .ok (.iconst 0, 1) := dc1_3 (by decide +kernel)
theorem dX3_keepIn_10 : decode cX3_keepIn 10 = .ok (.ireturn, 1) := dc1_172 (by decide +kernel)
theorem dX3_keepIn_11 : decode cX3_keepIn 11 = .ok (.aload_n 0, 1) := dc1_42 (by decide +kernel)
theorem dX3_keepIn_12 : decode cX3_keepIn 12 = .ok (.getfield 17, 3) := dcw_180 (by decide +kernel)
theorem dX3_keepIn_15 : decode cX3_keepIn 15 = .ok (.iload_n 1, 1) := dc1_27 (by decide +kernel)
theorem dX3_keepIn_16 : decode cX3_keepIn 16 = .ok (.aaload, 1) := dc1_50 (by decide +kernel)
theorem dX3_keepIn_17 : decode cX3_keepIn 17 = .ok (.aload_n 2, 1) := dc1_44 (by decide +kernel)
theorem dX3_keepIn_18 : decode cX3_keepIn 18 = .ok (.invokevirtual 32, 3) := dcw_182 (by decide +kernel)
theorem dX3_keepIn_21 : decode cX3_keepIn 21 = .ok (.aload_n 0, 1) := dc1_42 (by decide +kernel)
theorem dX3_keepIn_22 : decode cX3_keepIn 22 = .ok (.getfield 20, 3) := dcw_180 (by decide +kernel)
theorem dX3_keepIn_25 : decode cX3_keepIn 25 = .ok (.iload_n 1, 1) := dc1_27 (by decide +kernel)
theorem dX3_keepIn_26 : decode cX3_keepIn 26 = .ok (.iconst 1, 1) := dc1_4 (by decide +kernel)
theorem dX3_keepIn_27 : decode cX3_keepIn 27 = .ok (.bastore, 1) := dc1_84 (by decide +kernel)
theorem dX3_keepIn_28 : decode cX3_keepIn 28 = .ok (.iconst 1, 1) := dc1_4 (by decide +kernel)
theorem dX3_keepIn_29 : decode cX3_keepIn 29 = .ok (.ireturn, 1) := dc1_172 (by decide +kernel)
theorem ggX3_goOnFrom_X6_copyFrom : GoodIn wsX3_goOnFrom wsX6_copyFrom := gi_sub (fun w h => List.mem_cons_of_mem _ (List.mem_append_left _ (List.mem_append_left _ (List.mem_append_right _ h)))) gd_wsX6_copyFrom
set_option maxRecDepth 20000 in
theorem gX3_goOnFrom_X6_copyFrom_n32 : GoodIn wsX3_goOnFrom (wsX6_copyFrom) := ggX3_goOnFrom_X6_copyFrom
theorem dX3_goOnFrom_0 : decode cX3_goOnFrom 0 = .ok (.iload_n 1, 1) := dc1_27 (by decide +kernel)
theorem dX3_goOnFrom_1 : decode cX3_goOnFrom 1 = .ok (.ifCond .lt 17, 3) := dcs_155 (n := 17) (by decide +kernel)
theorem dX3_goOnFrom_4 : decode cX3_goOnFrom 4 = .ok (.iload_n 1, 1) := dc1_27 (by decide +kernel)
theorem dX3_goOnFrom_5 : decode cX3_goOnFrom 5 = .ok (.iconst 3, 1) := dc1_6 (by decide +kernel)
theorem dX3_goOnFrom_6 : decode cX3_goOnFrom 6 = .ok (.if_icmp .ge 12, 3) := dcs_162 (n := 12) (by decide +kernel)
theorem dX3_goOnFrom_9 : decode cX3_goOnFrom 9 = .ok (.aload_n 0, 1) := dc1_42 (by decide +kernel)
theorem dX3_goOnFrom_10 : decode cX3_goOnFrom 10 = .ok (.getfield 20, 3) := dcw_180 (by decide +kernel)
theorem dX3_goOnFrom_13 : decode cX3_goOnFrom 13 = .ok (.iload_n 1, 1) := dc1_27 (by decide +kernel)
theorem dX3_goOnFrom_14 : decode cX3_goOnFrom 14 = .ok (.baload, 1) := dc1_51 (by decide +kernel)
theorem dX3_goOnFrom_15 : decode cX3_goOnFrom 15 = .ok (.ifCond .ne 5, 3) := dcs_154 (n := 5) (by decide +kernel)
theorem dX3_goOnFrom_18 : decode cX3_goOnFrom 18 = .ok (.iconst 0, 1) := dc1_3 (by decide +kernel)
theorem dX3_goOnFrom_19 : decode cX3_goOnFrom 19 = .ok (.ireturn, 1) := dc1_172 (by decide +kernel)
theorem dX3_goOnFrom_20 : decode cX3_goOnFrom 20 = .ok (.aload_n 2, 1) := dc1_44 (by decide +kernel)
theorem dX3_goOnFrom_21 : decode cX3_goOnFrom 21 = .ok (.aload_n 0, 1) := dc1_42 (by decide +kernel)
theorem dX3_goOnFrom_22 : decode cX3_goOnFrom 22 = .ok (.getfield 17, 3) := dcw_180 (by decide +kernel)
theorem dX3_goOnFrom_25 : decode cX3_goOnFrom 25 = .ok (.iload_n 1, 1) := dc1_27 (by decide +kernel)
theorem dX3_goOnFrom_26 : decode cX3_goOnFrom 26 = .ok (.aaload, 1) := dc1_50 (by decide +kernel)
theorem dX3_goOnFrom_27 : decode cX3_goOnFrom 27 = .ok (.invokevirtual 32, 3) := dcw_182 (by decide +kernel)
theorem dX3_goOnFrom_30 : decode cX3_goOnFrom 30 = .ok (.aload_n 0, 1) := dc1_42 (by decide +kernel)
theorem dX3_goOnFrom_31 : decode cX3_goOnFrom 31 = .ok (.iconst 0, 1) := dc1_3 (by decide +kernel)
theorem dX3_goOnFrom_32 : decode cX3_goOnFrom 32 = .ok (.putfield 25, 3) := dcw_181 (by decide +kernel)
theorem dX3_goOnFrom_35 : decode cX3_goOnFrom 35 = .ok (.iconst 1, 1) := dc1_4 (by decide +kernel)
theorem dX3_goOnFrom_36 : decode cX3_goOnFrom 36 = .ok (.ireturn, 1) := dc1_172 (by decide +kernel)
theorem ggX4_readUnit_X4_isAt : GoodIn wsX4_readUnit wsX4_isAt := gi_sub (fun w h => List.mem_cons_of_mem _ (List.mem_append_left _ (List.mem_append_left _ (List.mem_append_left _ (List.mem_append_left _ (List.mem_append_right _ (List.mem_append_left _ h))))))) gd_wsX4_isAt
set_option maxRecDepth 20000 in
theorem gX4_readUnit_X4_isAt : GoodIn wsX4_readUnit (wsV RX4 53 RX4 yX4_isAt wsX4_isAt) := goodIn_app (goodIn_r _ [8, 9, 10, 7] (by decide +kernel) (by decide +kernel)) ggX4_readUnit_X4_isAt
theorem ggX4_readUnit_X1_putNumber : GoodIn wsX4_readUnit wsX1_putNumber := gi_sub (fun w h => List.mem_cons_of_mem _ (List.mem_append_left _ (List.mem_append_left _ (List.mem_append_left _ (List.mem_append_left _ (List.mem_append_right _ (List.mem_append_right _ (List.mem_append_right _ (List.mem_append_right _ (List.mem_append_left _ h)))))))))) gd_wsX1_putNumber
set_option maxRecDepth 20000 in
theorem gX4_readUnit_X1_putNumber_n146 : GoodIn wsX4_readUnit (wsX1_putNumber) := ggX4_readUnit_X1_putNumber
theorem ggX4_readUnit_X4_take : GoodIn wsX4_readUnit wsX4_take := gi_sub (fun w h => List.mem_cons_of_mem _ (List.mem_append_left _ (List.mem_append_left _ (List.mem_append_left _ (List.mem_append_left _ (List.mem_append_right _ (List.mem_append_right _ (List.mem_append_left _ h)))))))) gd_wsX4_take
set_option maxRecDepth 20000 in
theorem gX4_readUnit_X4_take : GoodIn wsX4_readUnit (wsV RX4 81 RX4 yX4_take wsX4_take) := goodIn_app (goodIn_r _ [11, 12, 13, 7] (by decide +kernel) (by decide +kernel)) ggX4_readUnit_X4_take
theorem ggX4_readUnit_X1_putVar : GoodIn wsX4_readUnit wsX1_putVar := gi_sub (fun w h => List.mem_cons_of_mem _ (List.mem_append_left _ (List.mem_append_left _ (List.mem_append_left _ (List.mem_append_left _ (List.mem_append_right _ (List.mem_append_right _ (List.mem_append_right _ (List.mem_append_right _ (List.mem_append_right _ (List.mem_append_left _ h))))))))))) gd_wsX1_putVar
set_option maxRecDepth 20000 in
theorem gX4_readUnit_X1_putVar_n149 : GoodIn wsX4_readUnit (wsX1_putVar) := ggX4_readUnit_X1_putVar
theorem ggX4_readUnit_X4_fail : GoodIn wsX4_readUnit wsX4_fail := gi_sub (fun w h => List.mem_cons_of_mem _ (List.mem_append_left _ (List.mem_append_left _ (List.mem_append_left _ (List.mem_append_left _ (List.mem_append_right _ (List.mem_append_right _ (List.mem_append_right _ (List.mem_append_right _ (List.mem_append_right _ (List.mem_append_right _ h))))))))))) gd_wsX4_fail
set_option maxRecDepth 20000 in
theorem gX4_readUnit_X4_fail : GoodIn wsX4_readUnit (wsV RX4 70 RX4 yX4_fail wsX4_fail) := goodIn_app (goodIn_r _ [14, 15, 16, 7] (by decide +kernel) (by decide +kernel)) ggX4_readUnit_X4_fail
theorem ggX4_readUnit_X4_readSum : GoodIn wsX4_readUnit wsX4_readSum := gi_sub (fun w h => (List.mem_cons.mp h).elim (fun e => by subst e; exact List.mem_cons_of_mem _ (List.mem_append_left _ (List.mem_append_left _ (List.mem_append_left _ (List.mem_append_left _ (List.mem_append_left _ (List.mem_of_getElem? (i := 30) rfl))))))) (fun h => List.mem_cons_of_mem _ h)) gd_wsX4_readSum
set_option maxRecDepth 20000 in
theorem gX4_readUnit_X4_readSum : GoodIn wsX4_readUnit (wsV RX4 131 RX4 yX4_readSum wsX4_readSum) := goodIn_app (goodIn_r _ [27, 28, 29, 7] (by decide +kernel) (by decide +kernel)) ggX4_readUnit_X4_readSum
theorem dX4_readUnit_0 : decode cX4_readUnit 0 = .ok (.aload_n 0, 1) := dc1_42 (by decide +kernel)
theorem dX4_readUnit_1 : decode cX4_readUnit 1 = .ok (.getfield 31, 3) := dcw_180 (by decide +kernel)
theorem dX4_readUnit_4 : decode cX4_readUnit 4 = .ok (.getfield 63, 3) := dcw_180 (by decide +kernel)
theorem dX4_readUnit_7 : decode cX4_readUnit 7 = .ok (.aload_n 0, 1) := dc1_42 (by decide +kernel)
theorem dX4_readUnit_8 : decode cX4_readUnit 8 = .ok (.getfield 38, 3) := dcw_180 (by decide +kernel)
theorem dX4_readUnit_11 : decode cX4_readUnit 11 = .ok (.iaload, 1) := dc1_46 (by decide +kernel)
theorem dX4_readUnit_12 : decode cX4_readUnit 12 = .ok (.istore_n 2, 1) := dc1_61 (by decide +kernel)
theorem dX4_readUnit_13 : decode cX4_readUnit 13 = .ok (.iload_n 2, 1) := dc1_28 (by decide +kernel)
theorem dX4_readUnit_14 : decode cX4_readUnit 14 = .ok (.sipush 266, 3) := dcs_17 (n := 266) (by decide +kernel)
theorem dX4_readUnit_17 : decode cX4_readUnit 17 = .ok (.isub, 1) := dc1_100 (by decide +kernel)
theorem dX4_readUnit_18 : decode cX4_readUnit 18 = .ok (.istore_n 3, 1) := dc1_62 (by decide +kernel)
theorem dX4_readUnit_19 : decode cX4_readUnit 19 = .ok (.aload_n 0, 1) := dc1_42 (by decide +kernel)
theorem dX4_readUnit_20 : decode cX4_readUnit 20 = .ok (.sipush 301, 3) := dcs_17 (n := 301) (by decide +kernel)
theorem dX4_readUnit_23 : decode cX4_readUnit 23 = .ok (.invokevirtual 53, 3) := dcw_182 (by decide +kernel)
theorem dX4_readUnit_26 : decode cX4_readUnit 26 = .ok (.ifCond .eq 36, 3) := dcs_153 (n := 36) (by decide +kernel)
theorem dX4_readUnit_29 : decode cX4_readUnit 29 = .ok (.aload_n 0, 1) := dc1_42 (by decide +kernel)
theorem dX4_readUnit_30 : decode cX4_readUnit 30 = .ok (.getfield 12, 3) := dcw_180 (by decide +kernel)
theorem dX4_readUnit_33 : decode cX4_readUnit 33 = .ok (.getfield 119, 3) := dcw_180 (by decide +kernel)
theorem dX4_readUnit_36 : decode cX4_readUnit 36 = .ok (.aload_n 0, 1) := dc1_42 (by decide +kernel)
theorem dX4_readUnit_37 : decode cX4_readUnit 37 = .ok (.getfield 31, 3) := dcw_180 (by decide +kernel)
theorem dX4_readUnit_40 : decode cX4_readUnit 40 = .ok (.getfield 74, 3) := dcw_180 (by decide +kernel)
theorem dX4_readUnit_43 : decode cX4_readUnit 43 = .ok (.aload_n 0, 1) := dc1_42 (by decide +kernel)
theorem dX4_readUnit_44 : decode cX4_readUnit 44 = .ok (.getfield 38, 3) := dcw_180 (by decide +kernel)
theorem dX4_readUnit_47 : decode cX4_readUnit 47 = .ok (.laload, 1) := dc1_47 (by decide +kernel)
theorem dX4_readUnit_48 : decode cX4_readUnit 48 = .ok (.l2i, 1) := dc1_136 (by decide +kernel)
theorem dX4_readUnit_49 : decode cX4_readUnit 49 = .ok (.invokevirtual 146, 3) := dcw_182 (by decide +kernel)
theorem dX4_readUnit_52 : decode cX4_readUnit 52 = .ok (.aload_n 0, 1) := dc1_42 (by decide +kernel)
theorem dX4_readUnit_53 : decode cX4_readUnit 53 = .ok (.sipush 301, 3) := dcs_17 (n := 301) (by decide +kernel)
theorem dX4_readUnit_56 : decode cX4_readUnit 56 = .ok (.invokevirtual 81, 3) := dcw_182 (by decide +kernel)
theorem dX4_readUnit_59 : decode cX4_readUnit 59 = .ok (.goto 91, 3) := dcs_167 (n := 91) (by decide +kernel)
theorem dX4_readUnit_62 : decode cX4_readUnit 62 = .ok (.iload_n 3, 1) := dc1_29 (by decide +kernel)
theorem dX4_readUnit_63 : decode cX4_readUnit 63 = .ok (.ifCond .lt 28, 3) := dcs_155 (n := 28) (by decide +kernel)
theorem dX4_readUnit_66 : decode cX4_readUnit 66 = .ok (.iload_n 3, 1) := dc1_29 (by decide +kernel)
theorem dX4_readUnit_67 : decode cX4_readUnit 67 = .ok (.bipush 9, 2) := dcb_16 (n := 9) (by decide +kernel)
theorem dX4_readUnit_69 : decode cX4_readUnit 69 = .ok (.if_icmp .ge 22, 3) := dcs_162 (n := 22) (by decide +kernel)
theorem dX4_readUnit_72 : decode cX4_readUnit 72 = .ok (.aload_n 0, 1) := dc1_42 (by decide +kernel)
theorem dX4_readUnit_73 : decode cX4_readUnit 73 = .ok (.getfield 12, 3) := dcw_180 (by decide +kernel)
theorem dX4_readUnit_76 : decode cX4_readUnit 76 = .ok (.getfield 119, 3) := dcw_180 (by decide +kernel)
theorem dX4_readUnit_79 : decode cX4_readUnit 79 = .ok (.iload_n 3, 1) := dc1_29 (by decide +kernel)
theorem dX4_readUnit_80 : decode cX4_readUnit 80 = .ok (.invokevirtual 149, 3) := dcw_182 (by decide +kernel)
theorem dX4_readUnit_83 : decode cX4_readUnit 83 = .ok (.aload_n 0, 1) := dc1_42 (by decide +kernel)
theorem dX4_readUnit_84 : decode cX4_readUnit 84 = .ok (.iload_n 2, 1) := dc1_28 (by decide +kernel)
theorem dX4_readUnit_85 : decode cX4_readUnit 85 = .ok (.invokevirtual 81, 3) := dcw_182 (by decide +kernel)
theorem dX4_readUnit_88 : decode cX4_readUnit 88 = .ok (.goto 62, 3) := dcs_167 (n := 62) (by decide +kernel)
theorem dX4_readUnit_91 : decode cX4_readUnit 91 = .ok (.aload_n 0, 1) := dc1_42 (by decide +kernel)
theorem dX4_readUnit_92 : decode cX4_readUnit 92 = .ok (.bipush 40, 2) := dcb_16 (n := 40) (by decide +kernel)
theorem dX4_readUnit_94 : decode cX4_readUnit 94 = .ok (.invokevirtual 53, 3) := dcw_182 (by decide +kernel)
theorem dX4_readUnit_97 : decode cX4_readUnit 97 = .ok (.ifCond .eq 17, 3) := dcs_153 (n := 17) (by decide +kernel)
theorem dX4_readUnit_100 : decode cX4_readUnit 100 = .ok (.iload_n 1, 1) := dc1_27 (by decide +kernel)
theorem dX4_readUnit_101 : decode cX4_readUnit 101 = .ok (.bipush 6, 2) := dcb_16 (n := 6) (by decide +kernel)
theorem dX4_readUnit_103 : decode cX4_readUnit 103 = .ok (.if_icmp .lt 11, 3) := dcs_161 (n := 11) (by decide +kernel)
theorem dX4_readUnit_106 : decode cX4_readUnit 106 = .ok (.aload_n 0, 1) := dc1_42 (by decide +kernel)
theorem dX4_readUnit_107 : decode cX4_readUnit 107 = .ok (.iconst 2, 1) := dc1_5 (by decide +kernel)
theorem dX4_readUnit_108 : decode cX4_readUnit 108 = .ok (.invokevirtual 70, 3) := dcw_182 (by decide +kernel)
theorem dX4_readUnit_111 : decode cX4_readUnit 111 = .ok (.goto 39, 3) := dcs_167 (n := 39) (by decide +kernel)
theorem dX4_readUnit_114 : decode cX4_readUnit 114 = .ok (.aload_n 0, 1) := dc1_42 (by decide +kernel)
theorem dX4_readUnit_115 : decode cX4_readUnit 115 = .ok (.bipush 40, 2) := dcb_16 (n := 40) (by decide +kernel)
theorem dX4_readUnit_117 : decode cX4_readUnit 117 = .ok (.invokevirtual 53, 3) := dcw_182 (by decide +kernel)
theorem dX4_readUnit_120 : decode cX4_readUnit 120 = .ok (.ifCond .eq 25, 3) := dcs_153 (n := 25) (by decide +kernel)
theorem dX4_readUnit_123 : decode cX4_readUnit 123 = .ok (.aload_n 0, 1) := dc1_42 (by decide +kernel)
theorem dX4_readUnit_124 : decode cX4_readUnit 124 = .ok (.bipush 40, 2) := dcb_16 (n := 40) (by decide +kernel)
theorem dX4_readUnit_126 : decode cX4_readUnit 126 = .ok (.invokevirtual 81, 3) := dcw_182 (by decide +kernel)
theorem dX4_readUnit_129 : decode cX4_readUnit 129 = .ok (.aload_n 0, 1) := dc1_42 (by decide +kernel)
theorem dX4_readUnit_130 : decode cX4_readUnit 130 = .ok (.iload_n 1, 1) := dc1_27 (by decide +kernel)
theorem dX4_readUnit_131 : decode cX4_readUnit 131 = .ok (.iconst 1, 1) := dc1_4 (by decide +kernel)
theorem dX4_readUnit_132 : decode cX4_readUnit 132 = .ok (.iadd, 1) := dc1_96 (by decide +kernel)
theorem dX4_readUnit_133 : decode cX4_readUnit 133 = .ok (.invokevirtual 131, 3) := dcw_182 (by decide +kernel)
theorem dX4_readUnit_136 : decode cX4_readUnit 136 = .ok (.aload_n 0, 1) := dc1_42 (by decide +kernel)
theorem dX4_readUnit_137 : decode cX4_readUnit 137 = .ok (.bipush 41, 2) := dcb_16 (n := 41) (by decide +kernel)
theorem dX4_readUnit_139 : decode cX4_readUnit 139 = .ok (.invokevirtual 81, 3) := dcw_182 (by decide +kernel)
theorem dX4_readUnit_142 : decode cX4_readUnit 142 = .ok (.goto 8, 3) := dcs_167 (n := 8) (by decide +kernel)
theorem dX4_readUnit_145 : decode cX4_readUnit 145 = .ok (.aload_n 0, 1) := dc1_42 (by decide +kernel)
theorem dX4_readUnit_146 : decode cX4_readUnit 146 = .ok (.iconst 1, 1) := dc1_4 (by decide +kernel)
theorem dX4_readUnit_147 : decode cX4_readUnit 147 = .ok (.invokevirtual 70, 3) := dcw_182 (by decide +kernel)
theorem dX4_readUnit_150 : decode cX4_readUnit 150 = .ok (.return_, 1) := dc1_177 (by decide +kernel)
theorem ggJ0_length_8abf5_J0_coder_7d493 : GoodIn wsJ0_length_8abf5 wsJ0_coder_7d493 := gi_sub (fun w h => List.mem_cons_of_mem _ (List.mem_append_right _ h)) gd_wsJ0_coder_7d493
set_option maxRecDepth 20000 in
theorem gJ0_length_8abf5_J0_coder_7d493 : GoodIn wsJ0_length_8abf5 (wsV RJ0 335 RJ0 yJ0_coder_7d493 wsJ0_coder_7d493) := goodIn_app (goodIn_r _ [2, 3, 4, 5] (by decide +kernel) (by decide +kernel)) ggJ0_length_8abf5_J0_coder_7d493
theorem dJ0_length_8abf5_0 : decode cJ0_length_8abf5 0 = .ok (.aload_n 0, 1) := dc1_42 (by decide +kernel)
theorem dJ0_length_8abf5_1 : decode cJ0_length_8abf5 1 = .ok (.getfield 9, 3) := dcw_180 (by decide +kernel)
theorem dJ0_length_8abf5_4 : decode cJ0_length_8abf5 4 = .ok (.arraylength, 1) := dc1_190 (by decide +kernel)
theorem dJ0_length_8abf5_5 : decode cJ0_length_8abf5 5 = .ok (.aload_n 0, 1) := dc1_42 (by decide +kernel)
theorem dJ0_length_8abf5_6 : decode cJ0_length_8abf5 6 = .ok (.invokevirtual 335, 3) := dcw_182 (by decide +kernel)
theorem dJ0_length_8abf5_9 : decode cJ0_length_8abf5 9 = .ok (.ishr, 1) := dc1_122 (by decide +kernel)
theorem dJ0_length_8abf5_10 : decode cJ0_length_8abf5 10 = .ok (.ireturn, 1) := dc1_172 (by decide +kernel)
theorem ggJ0_indexOf_0f7a4_J0_indexOf_7cf53 : GoodIn wsJ0_indexOf_0f7a4 wsJ0_indexOf_7cf53 := gi_sub (fun w h => List.mem_cons_of_mem _ (List.mem_append_right _ h)) gd_wsJ0_indexOf_7cf53
set_option maxRecDepth 20000 in
theorem gJ0_indexOf_0f7a4_J0_indexOf_7cf53 : GoodIn wsJ0_indexOf_0f7a4 (wsV RJ0 633 RJ0 yJ0_indexOf_7cf53 wsJ0_indexOf_7cf53) := goodIn_app (goodIn_r _ [1, 2, 3, 4] (by decide +kernel) (by decide +kernel)) ggJ0_indexOf_0f7a4_J0_indexOf_7cf53
theorem dJ0_indexOf_0f7a4_0 : decode cJ0_indexOf_0f7a4 0 = .ok (.aload_n 0, 1) := dc1_42 (by decide +kernel)
theorem dJ0_indexOf_0f7a4_1 : decode cJ0_indexOf_0f7a4 1 = .ok (.iload_n 1, 1) := dc1_27 (by decide +kernel)
theorem dJ0_indexOf_0f7a4_2 : decode cJ0_indexOf_0f7a4 2 = .ok (.iconst 0, 1) := dc1_3 (by decide +kernel)
theorem dJ0_indexOf_0f7a4_3 : decode cJ0_indexOf_0f7a4 3 = .ok (.invokevirtual 633, 3) := dcw_182 (by decide +kernel)
theorem dJ0_indexOf_0f7a4_6 : decode cJ0_indexOf_0f7a4 6 = .ok (.ireturn, 1) := dc1_172 (by decide +kernel)
theorem ggJ0_indexOf_7cf53_J0_isLatin1_aae02 : GoodIn wsJ0_indexOf_7cf53 wsJ0_isLatin1_aae02 := gi_sub (fun w h => List.mem_cons_of_mem _ (List.mem_append_right _ (List.mem_append_left _ h))) gd_wsJ0_isLatin1_aae02
set_option maxRecDepth 20000 in
theorem gJ0_indexOf_7cf53_J0_isLatin1_aae02 : GoodIn wsJ0_indexOf_7cf53 (wsV RJ0 492 RJ0 yJ0_isLatin1_aae02 wsJ0_isLatin1_aae02) := goodIn_app (goodIn_r _ [2, 3, 4, 5] (by decide +kernel) (by decide +kernel)) ggJ0_indexOf_7cf53_J0_isLatin1_aae02
theorem ggJ0_indexOf_7cf53_J0_length_8abf5 : GoodIn wsJ0_indexOf_7cf53 wsJ0_length_8abf5 := gi_sub (fun w h => List.mem_cons_of_mem _ (List.mem_append_right _ (List.mem_append_right _ (List.mem_append_left _ h)))) gd_wsJ0_length_8abf5
set_option maxRecDepth 20000 in
theorem gJ0_indexOf_7cf53_J0_length_8abf5 : GoodIn wsJ0_indexOf_7cf53 (wsV RJ0 505 RJ0 yJ0_length_8abf5 wsJ0_length_8abf5) := goodIn_app (goodIn_r _ [6, 7, 8, 5] (by decide +kernel) (by decide +kernel)) ggJ0_indexOf_7cf53_J0_length_8abf5
theorem ggJ0_indexOf_7cf53_J1_indexOf_4cfef : GoodIn wsJ0_indexOf_7cf53 wsJ1_indexOf_4cfef := gi_sub (fun w h => List.mem_cons_of_mem _ (List.mem_append_right _ (List.mem_append_right _ (List.mem_append_right _ (List.mem_append_left _ h))))) gd_wsJ1_indexOf_4cfef
set_option maxRecDepth 20000 in
theorem gJ0_indexOf_7cf53_J1_indexOf_4cfef : GoodIn wsJ0_indexOf_7cf53 (va_wsS RJ0 637 yJ1_indexOf_4cfef wsJ1_indexOf_4cfef) := goodIn_app (goodIn_of _ (by decide +kernel)) ggJ0_indexOf_7cf53_J1_indexOf_4cfef
theorem dJ0_indexOf_7cf53_0 : decode cJ0_indexOf_7cf53 0 = .ok (.aload_n 0, 1) := dc1_42 (by decide +kernel)
theorem dJ0_indexOf_7cf53_1 : decode cJ0_indexOf_7cf53 1 = .ok (.invokevirtual 492, 3) := dcw_182 (by decide +kernel)
theorem dJ0_indexOf_7cf53_4 : decode cJ0_indexOf_7cf53 4 = .ok (.ifCond .eq 19, 3) := dcs_153 (n := 19) (by decide +kernel)
theorem dJ0_indexOf_7cf53_7 : decode cJ0_indexOf_7cf53 7 = .ok (.aload_n 0, 1) := dc1_42 (by decide +kernel)
theorem dJ0_indexOf_7cf53_8 : decode cJ0_indexOf_7cf53 8 = .ok (.getfield 9, 3) := dcw_180 (by decide +kernel)
theorem dJ0_indexOf_7cf53_11 : decode cJ0_indexOf_7cf53 11 = .ok (.iload_n 1, 1) := dc1_27 (by decide +kernel)
theorem dJ0_indexOf_7cf53_12 : decode cJ0_indexOf_7cf53 12 = .ok (.iload_n 2, 1) := dc1_28 (by decide +kernel)
theorem dJ0_indexOf_7cf53_13 : decode cJ0_indexOf_7cf53 13 = .ok (.aload_n 0, 1) := dc1_42 (by decide +kernel)
theorem dJ0_indexOf_7cf53_14 : decode cJ0_indexOf_7cf53 14 = .ok (.invokevirtual 505, 3) := dcw_182 (by decide +kernel)
theorem dJ0_indexOf_7cf53_17 : decode cJ0_indexOf_7cf53 17 = .ok (.invokestatic 637, 3) := dcw_184 (by decide +kernel)
theorem dJ0_indexOf_7cf53_20 : decode cJ0_indexOf_7cf53 20 = .ok (.goto 16, 3) := dcs_167 (n := 16) (by decide +kernel)
theorem dJ0_indexOf_7cf53_36 : decode cJ0_indexOf_7cf53 36 = .ok (.ireturn, 1) := dc1_172 (by decide +kernel)
theorem dJ0_coder_7d493_0 : decode cJ0_coder_7d493 0 = .ok (.getstatic 38, 3) := dcw_178 (by decide +kernel)
theorem dJ0_coder_7d493_3 : decode cJ0_coder_7d493 3 = .ok (.ifCond .eq 10, 3) := dcs_153 (n := 10) (by decide +kernel)
theorem dJ0_coder_7d493_6 : decode cJ0_coder_7d493 6 = .ok (.aload_n 0, 1) := dc1_42 (by decide +kernel)
theorem dJ0_coder_7d493_7 : decode cJ0_coder_7d493 7 = .ok (.getfield 15, 3) := dcw_180 (by decide +kernel)
theorem dJ0_coder_7d493_10 : decode cJ0_coder_7d493 10 = .ok (.goto 4, 3) := dcs_167 (n := 4) (by decide +kernel)
theorem dJ0_coder_7d493_14 : decode cJ0_coder_7d493 14 = .ok (.ireturn, 1) := dc1_172 (by decide +kernel)
theorem dJ0_isLatin1_aae02_0 : decode cJ0_isLatin1_aae02 0 = .ok (.getstatic 38, 3) := dcw_178 (by decide +kernel)
theorem dJ0_isLatin1_aae02_3 : decode cJ0_isLatin1_aae02 3 = .ok (.ifCond .eq 14, 3) := dcs_153 (n := 14) (by decide +kernel)
theorem dJ0_isLatin1_aae02_6 : decode cJ0_isLatin1_aae02 6 = .ok (.aload_n 0, 1) := dc1_42 (by decide +kernel)
theorem dJ0_isLatin1_aae02_7 : decode cJ0_isLatin1_aae02 7 = .ok (.getfield 15, 3) := dcw_180 (by decide +kernel)
theorem dJ0_isLatin1_aae02_10 : decode cJ0_isLatin1_aae02 10 = .ok (.ifCond .ne 7, 3) := dcs_154 (n := 7) (by decide +kernel)
theorem dJ0_isLatin1_aae02_13 : decode cJ0_isLatin1_aae02 13 = .ok (.iconst 1, 1) := dc1_4 (by decide +kernel)
theorem dJ0_isLatin1_aae02_14 : decode cJ0_isLatin1_aae02 14 = .ok (.goto 4, 3) := dcs_167 (n := 4) (by decide +kernel)
theorem dJ0_isLatin1_aae02_18 : decode cJ0_isLatin1_aae02 18 = .ok (.ireturn, 1) := dc1_172 (by decide +kernel)
theorem dJ1_canEncode_9a6ad_0 : decode cJ1_canEncode_9a6ad 0 = .ok (.iload_n 0, 1) := dc1_26 (by decide +kernel)
theorem dJ1_canEncode_9a6ad_1 : decode cJ1_canEncode_9a6ad 1 = .ok (.ifCond .lt 14, 3) := dcs_155 (n := 14) (by decide +kernel)
theorem dJ1_canEncode_9a6ad_4 : decode cJ1_canEncode_9a6ad 4 = .ok (.iload_n 0, 1) := dc1_26 (by decide +kernel)
theorem dJ1_canEncode_9a6ad_5 : decode cJ1_canEncode_9a6ad 5 = .ok (.sipush 255, 3) := dcs_17 (n := 255) (by decide +kernel)
theorem dJ1_canEncode_9a6ad_8 : decode cJ1_canEncode_9a6ad 8 = .ok (.if_icmp .gt 7, 3) := dcs_163 (n := 7) (by decide +kernel)
theorem dJ1_canEncode_9a6ad_11 : decode cJ1_canEncode_9a6ad 11 = .ok (.iconst 1, 1) := dc1_4 (by decide +kernel)
theorem dJ1_canEncode_9a6ad_12 : decode cJ1_canEncode_9a6ad 12 = .ok (.goto 4, 3) := dcs_167 (n := 4) (by decide +kernel)
theorem dJ1_canEncode_9a6ad_15 : decode cJ1_canEncode_9a6ad 15 = .ok (.iconst 0, 1) := dc1_3 (by decide +kernel)
theorem dJ1_canEncode_9a6ad_16 : decode cJ1_canEncode_9a6ad 16 = .ok (.ireturn, 1) := dc1_172 (by decide +kernel)
theorem ggJ1_indexOf_4cfef_J1_canEncode_9a6ad : GoodIn wsJ1_indexOf_4cfef wsJ1_canEncode_9a6ad := gi_sub (fun w h => List.mem_cons_of_mem _ (List.mem_append_right _ (List.mem_append_left _ h))) gd_wsJ1_canEncode_9a6ad
set_option maxRecDepth 20000 in
theorem gJ1_indexOf_4cfef_J1_canEncode_9a6ad : GoodIn wsJ1_indexOf_4cfef (va_wsS RJ1 88 yJ1_canEncode_9a6ad wsJ1_canEncode_9a6ad) := goodIn_app (goodIn_of _ (by decide +kernel)) ggJ1_indexOf_4cfef_J1_canEncode_9a6ad
theorem ggJ1_indexOf_4cfef_J1_indexOfChar_4cfef : GoodIn wsJ1_indexOf_4cfef wsJ1_indexOfChar_4cfef := gi_sub (fun w h => List.mem_cons_of_mem _ (List.mem_append_right _ (List.mem_append_right _ h))) gd_wsJ1_indexOfChar_4cfef
set_option maxRecDepth 20000 in
theorem gJ1_indexOf_4cfef_J1_indexOfChar_4cfef : GoodIn wsJ1_indexOf_4cfef (va_wsS RJ1 95 yJ1_indexOfChar_4cfef wsJ1_indexOfChar_4cfef) := goodIn_app (goodIn_of _ (by decide +kernel)) ggJ1_indexOf_4cfef_J1_indexOfChar_4cfef
theorem dJ1_indexOf_4cfef_0 : decode cJ1_indexOf_4cfef 0 = .ok (.iload_n 1, 1) := dc1_27 (by decide +kernel)
theorem dJ1_indexOf_4cfef_1 : decode cJ1_indexOf_4cfef 1 = .ok (.invokestatic 88, 3) := dcw_184 (by decide +kernel)
theorem dJ1_indexOf_4cfef_4 : decode cJ1_indexOf_4cfef 4 = .ok (.ifCond .ne 5, 3) := dcs_154 (n := 5) (by decide +kernel)
theorem dJ1_indexOf_4cfef_7 : decode cJ1_indexOf_4cfef 7 = .ok (.iconst (-1), 1) := dc1_2 (by decide +kernel)
theorem dJ1_indexOf_4cfef_8 : decode cJ1_indexOf_4cfef 8 = .ok (.ireturn, 1) := dc1_172 (by decide +kernel)
theorem dJ1_indexOf_4cfef_9 : decode cJ1_indexOf_4cfef 9 = .ok (.iload_n 2, 1) := dc1_28 (by decide +kernel)
theorem dJ1_indexOf_4cfef_10 : decode cJ1_indexOf_4cfef 10 = .ok (.iconst 0, 1) := dc1_3 (by decide +kernel)
theorem dJ1_indexOf_4cfef_11 : decode cJ1_indexOf_4cfef 11 = .ok (.invokestatic 92, 3) := dcw_184 (by decide +kernel)
theorem dJ1_indexOf_4cfef_14 : decode cJ1_indexOf_4cfef 14 = .ok (.istore_n 2, 1) := dc1_61 (by decide +kernel)
theorem dJ1_indexOf_4cfef_15 : decode cJ1_indexOf_4cfef 15 = .ok (.iload_n 3, 1) := dc1_29 (by decide +kernel)
theorem dJ1_indexOf_4cfef_16 : decode cJ1_indexOf_4cfef 16 = .ok (.aload_n 0, 1) := dc1_42 (by decide +kernel)
theorem dJ1_indexOf_4cfef_17 : decode cJ1_indexOf_4cfef 17 = .ok (.arraylength, 1) := dc1_190 (by decide +kernel)
theorem dJ1_indexOf_4cfef_18 : decode cJ1_indexOf_4cfef 18 = .ok (.invokestatic 38, 3) := dcw_184 (by decide +kernel)
theorem dJ1_indexOf_4cfef_21 : decode cJ1_indexOf_4cfef 21 = .ok (.istore_n 3, 1) := dc1_62 (by decide +kernel)
theorem dJ1_indexOf_4cfef_22 : decode cJ1_indexOf_4cfef 22 = .ok (.iload_n 2, 1) := dc1_28 (by decide +kernel)
theorem dJ1_indexOf_4cfef_23 : decode cJ1_indexOf_4cfef 23 = .ok (.iload_n 3, 1) := dc1_29 (by decide +kernel)
theorem dJ1_indexOf_4cfef_24 : decode cJ1_indexOf_4cfef 24 = .ok (.if_icmp .lt 5, 3) := dcs_161 (n := 5) (by decide +kernel)
theorem dJ1_indexOf_4cfef_27 : decode cJ1_indexOf_4cfef 27 = .ok (.iconst (-1), 1) := dc1_2 (by decide +kernel)
theorem dJ1_indexOf_4cfef_28 : decode cJ1_indexOf_4cfef 28 = .ok (.ireturn, 1) := dc1_172 (by decide +kernel)
theorem dJ1_indexOf_4cfef_29 : decode cJ1_indexOf_4cfef 29 = .ok (.aload_n 0, 1) := dc1_42 (by decide +kernel)
theorem dJ1_indexOf_4cfef_30 : decode cJ1_indexOf_4cfef 30 = .ok (.iload_n 1, 1) := dc1_27 (by decide +kernel)
theorem dJ1_indexOf_4cfef_31 : decode cJ1_indexOf_4cfef 31 = .ok (.iload_n 2, 1) := dc1_28 (by decide +kernel)
theorem dJ1_indexOf_4cfef_32 : decode cJ1_indexOf_4cfef 32 = .ok (.iload_n 3, 1) := dc1_29 (by decide +kernel)
theorem dJ1_indexOf_4cfef_33 : decode cJ1_indexOf_4cfef 33 = .ok (.invokestatic 95, 3) := dcw_184 (by decide +kernel)
theorem dJ1_indexOf_4cfef_36 : decode cJ1_indexOf_4cfef 36 = .ok (.ireturn, 1) := dc1_172 (by decide +kernel)
theorem dJ1_indexOfChar_4cfef_0 : decode cJ1_indexOfChar_4cfef 0 = .ok (.iload_n 1, 1) := dc1_27 (by decide +kernel)
theorem dJ1_indexOfChar_4cfef_1 : decode cJ1_indexOfChar_4cfef 1 = .ok (.i2b, 1) := dc1_145 (by decide +kernel)
theorem dJ1_indexOfChar_4cfef_2 : decode cJ1_indexOfChar_4cfef 2 = .ok (.istore 4, 2) := dcu_54 (by decide +kernel)
theorem dJ1_indexOfChar_4cfef_4 : decode cJ1_indexOfChar_4cfef 4 = .ok (.iload_n 2, 1) := dc1_28 (by decide +kernel)
theorem dJ1_indexOfChar_4cfef_5 : decode cJ1_indexOfChar_4cfef 5 = .ok (.istore 5, 2) := dcu_54 (by decide +kernel)
theorem dJ1_indexOfChar_4cfef_7 : decode cJ1_indexOfChar_4cfef 7 = .ok (.iload 5, 2) := dcu_21 (by decide +kernel)
theorem dJ1_indexOfChar_4cfef_9 : decode cJ1_indexOfChar_4cfef 9 = .ok (.iload_n 3, 1) := dc1_29 (by decide +kernel)
theorem dJ1_indexOfChar_4cfef_10 : decode cJ1_indexOfChar_4cfef 10 = .ok (.if_icmp .ge 21, 3) := dcs_162 (n := 21) (by decide +kernel)
theorem dJ1_indexOfChar_4cfef_13 : decode cJ1_indexOfChar_4cfef 13 = .ok (.aload_n 0, 1) := dc1_42 (by decide +kernel)
theorem dJ1_indexOfChar_4cfef_14 : decode cJ1_indexOfChar_4cfef 14 = .ok (.iload 5, 2) := dcu_21 (by decide +kernel)
theorem dJ1_indexOfChar_4cfef_16 : decode cJ1_indexOfChar_4cfef 16 = .ok (.baload, 1) := dc1_51 (by decide +kernel)
theorem dJ1_indexOfChar_4cfef_17 : decode cJ1_indexOfChar_4cfef 17 = .ok (.iload 4, 2) := dcu_21 (by decide +kernel)
theorem dJ1_indexOfChar_4cfef_19 : decode cJ1_indexOfChar_4cfef 19 = .ok (.if_icmp .ne 6, 3) := dcs_160 (n := 6) (by decide +kernel)
theorem dJ1_indexOfChar_4cfef_22 : decode cJ1_indexOfChar_4cfef 22 = .ok (.iload 5, 2) := dcu_21 (by decide +kernel)
theorem dJ1_indexOfChar_4cfef_24 : decode cJ1_indexOfChar_4cfef 24 = .ok (.ireturn, 1) := dc1_172 (by decide +kernel)
theorem dJ1_indexOfChar_4cfef_25 : decode cJ1_indexOfChar_4cfef 25 = .ok (.iinc 5 1, 3) := dc_iinc (m := 1) (by decide +kernel)
theorem dJ1_indexOfChar_4cfef_28 : decode cJ1_indexOfChar_4cfef 28 = .ok (.goto (-21), 3) := dcs_167 (n := 65515) (by decide +kernel)
theorem dJ1_indexOfChar_4cfef_31 : decode cJ1_indexOfChar_4cfef 31 = .ok (.iconst (-1), 1) := dc1_2 (by decide +kernel)
theorem dJ1_indexOfChar_4cfef_32 : decode cJ1_indexOfChar_4cfef 32 = .ok (.ireturn, 1) := dc1_172 (by decide +kernel)
set_option maxHeartbeats 4000000 in
set_option maxRecDepth 100000 in
theorem bkJ1_canEncode_9a6ad {l : Launch} {dC : Nat → ClassId} {dI : Nat → Nat → Nat} {cB cI cJ cZ cS : ClassId} {as : List Value} {r : Int32} (x0 : Int32) (hB : kJ1_canEncode_9a6ad x0 = some r) : BlkI l yJ1_canEncode_9a6ad wsJ1_canEncode_9a6ad ({ frames := 0, cells := 0, slots := 0, locals := 0 }) cJ1_canEncode_9a6ad 1 (some .boolean) (dC, dI) (tysA cB cI cJ cZ cS) as 0 [] [(0, .int x0)] [] (fun x _ => x = r) := by
  intro p e s0 m below meth c A E H locs ls hP hD hS hl
  obtain ⟨C, hr, hlocks, hA, hK, hN⟩ := id E
  obtain ⟨hx, hb, hml, hown, hts⟩ := id C
  unfold kJ1_canEncode_9a6ad at hB
  refine lv_iload_n hx hb dJ1_canEncode_9a6ad_0 rfl (lv_at hl 0 rfl) ?_
  refine lv_if_lt (tgt := 15) hx hb dJ1_canEncode_9a6ad_1 (by decide) (fun c1 => ?_) (fun c1 => ?_)
  · have hB := if_p hB c1
    refine lv_iconst (v := 0) hx hb dJ1_canEncode_9a6ad_15 (by decide) ?_
    exact q_zret C hr hlocks (Or.inl rfl) hK hP hD hS (Nat.le_of_ble_eq_true rfl) (Nat.le_of_ble_eq_true rfl) dJ1_canEncode_9a6ad_16 (by cases hB; rfl)
  · have hB := if_n hB c1
    refine lv_iload_n hx hb dJ1_canEncode_9a6ad_4 rfl (lv_at hl 0 rfl) ?_
    refine lv_sipush (v := 255) hx hb dJ1_canEncode_9a6ad_5 (by decide) ?_
    refine lv_icmp_gt (tgt := 15) hx hb dJ1_canEncode_9a6ad_8 (by decide) (fun c2 => ?_) (fun c2 => ?_)
    · have hB := if_p hB c2
      refine lv_iconst (v := 0) hx hb dJ1_canEncode_9a6ad_15 (by decide) ?_
      exact q_zret C hr hlocks (Or.inl rfl) hK hP hD hS (Nat.le_of_ble_eq_true rfl) (Nat.le_of_ble_eq_true rfl) dJ1_canEncode_9a6ad_16 (by cases hB; rfl)
    · have hB := if_n hB c2
      refine lv_iconst (v := 1) hx hb dJ1_canEncode_9a6ad_11 (by decide) ?_
      refine lv_goto (tgt := 16) hx hb dJ1_canEncode_9a6ad_12 (by decide) ?_
      exact q_zret C hr hlocks (Or.inr rfl) hK hP hD hS (Nat.le_of_ble_eq_true rfl) (Nat.le_of_ble_eq_true rfl) dJ1_canEncode_9a6ad_16 (by cases hB; rfl)
theorem ckJ1_canEncode_9a6ad {l : Launch} {dC : Nat → ClassId} {dI : Nat → Nat → Nat} {cB cI cJ cZ cS : ClassId} {r : Int32} {x0 : Int32} (hB : kJ1_canEncode_9a6ad x0 = some r) : CI l yJ1_canEncode_9a6ad wsJ1_canEncode_9a6ad ({ frames := 0, cells := 0, slots := 0, locals := 0 }) (dC, dI) (tysA cB cI cJ cZ cS) [] [.int x0] (fun x _ => x = r) :=
  CI_of (cc := cJ1_canEncode_9a6ad) (maxL := 1) (ret := (some .boolean)) (by decide) rfl (Nat.le_of_ble_eq_true rfl) (bkJ1_canEncode_9a6ad _ hB)
set_option maxHeartbeats 4000000 in
set_option maxRecDepth 100000 in
theorem bkJ1_indexOfChar_4cfef_7 {l : Launch} {dC : Nat → ClassId} {dI : Nat → Nat → Nat} {cB cI cJ cZ cS : ClassId} {ak av : Nat} {as : List Value} {r : Int32} {k7 : Int32 → Int32 → Int32 → Option Int32} (hk7 : ∀ (x3 : Int32) (x4 : Int32) (x5 : Int32), k7 x3 x4 x5 = some r → BlkIS ak av l yJ1_indexOfChar_4cfef wsJ1_indexOfChar_4cfef ({ frames := 0, cells := 0, slots := 0, locals := 0 }) cJ1_indexOfChar_4cfef 6 (some .int) (dC, dI) (tysA cB cI cJ cZ cS) as 7 [] [(0, .ref av), (3, .int x3), (4, .int x4), (5, .int x5)] [] (fun x _ => x = r)) (x3 : Int32) (x4 : Int32) (x5 : Int32) (hB : kJ1_indexOfChar_4cfef_7 k7 x3 x4 x5 = some r) : BlkIS ak av l yJ1_indexOfChar_4cfef wsJ1_indexOfChar_4cfef ({ frames := 0, cells := 0, slots := 0, locals := 0 }) cJ1_indexOfChar_4cfef 6 (some .int) (dC, dI) (tysA cB cI cJ cZ cS) as 7 [] [(0, .ref av), (3, .int x3), (4, .int x4), (5, .int x5)] [] (fun x _ => x = r) := by
  intro p e s0 m below meth c A E hX H locs ls hP hD hS hl
  obtain ⟨C, hr, hlocks, hA, hK, hN⟩ := id E
  obtain ⟨hx, hb, hml, hown, hts⟩ := id C
  unfold kJ1_indexOfChar_4cfef_7 at hB
  refine lv_iload hx hb dJ1_indexOfChar_4cfef_7 (lv_at hl 3 rfl) ?_
  refine lv_iload_n hx hb dJ1_indexOfChar_4cfef_9 rfl (lv_at hl 1 rfl) ?_
  refine lv_icmp_ge (tgt := 31) hx hb dJ1_indexOfChar_4cfef_10 (by decide) (fun c1 => ?_) (fun c1 => ?_)
  · have hB := if_p hB c1
    refine lv_iconst (v := (-1)) hx hb dJ1_indexOfChar_4cfef_31 (by decide) ?_
    exact q_iret C hr hlocks hK hP hD hS (Nat.le_of_ble_eq_true rfl) (Nat.le_of_ble_eq_true rfl) dJ1_indexOfChar_4cfef_32 (by cases hB; rfl)
  · have hB := if_n hB c1
    refine lv_aload_n hx hb dJ1_indexOfChar_4cfef_13 rfl (lv_at hl 0 rfl) ?_
    refine lv_iload hx hb dJ1_indexOfChar_4cfef_14 (lv_at hl 3 rfl) ?_
    obtain ⟨g2, hB⟩ := guard_inv hB
    refine va_tb (v := .int (sgn (Int32.toNatClampNeg x5))) hx hb hX.2.2.2.2.1 hS (vpb_in g2) rfl dJ1_indexOfChar_4cfef_16 ?_
    refine lv_iload hx hb dJ1_indexOfChar_4cfef_17 (lv_at hl 2 rfl) ?_
    refine lv_icmp_ne (tgt := 25) hx hb dJ1_indexOfChar_4cfef_19 (by decide) (fun c3 => ?_) (fun c3 => ?_)
    · have hB := if_n hB c3
      refine lv_iinc (v := (x5 + 1)) (lv' := [(5, .int (x5 + 1)), (0, .ref av), (3, .int x3), (4, .int x4)]) hx hb dJ1_indexOfChar_4cfef_25 hl (k := 3) rfl (rfl) (by decide) rfl (fun ls hl => ?_)
      refine lv_goto (tgt := 7) hx hb dJ1_indexOfChar_4cfef_28 (by decide) ?_
      exact hk7 _ _ _ hB p e s0 m below meth c A E hX H locs ls hP hD hS (lv_sub hl [1, 2, 3, 0] rfl)
    · have hB := if_p hB c3
      refine lv_iload hx hb dJ1_indexOfChar_4cfef_22 (lv_at hl 3 rfl) ?_
      exact q_iret C hr hlocks hK hP hD hS (Nat.le_of_ble_eq_true rfl) (Nat.le_of_ble_eq_true rfl) dJ1_indexOfChar_4cfef_24 (by cases hB; rfl)
theorem bkJ1_indexOfChar_4cfef_7L {l : Launch} {dC : Nat → ClassId} {dI : Nat → Nat → Nat} {cB cI cJ cZ cS : ClassId} {ak av : Nat} {as : List Value} {r : Int32} : ∀ (n : Nat) (x3 : Int32) (x4 : Int32) (x5 : Int32), kJ1_indexOfChar_4cfef_7L n x3 x4 x5 = some r → BlkIS ak av l yJ1_indexOfChar_4cfef wsJ1_indexOfChar_4cfef ({ frames := 0, cells := 0, slots := 0, locals := 0 }) cJ1_indexOfChar_4cfef 6 (some .int) (dC, dI) (tysA cB cI cJ cZ cS) as 7 [] [(0, .ref av), (3, .int x3), (4, .int x4), (5, .int x5)] [] (fun x _ => x = r) := by
  intro n
  induction n with
  | zero => intro x3 x4 x5 hB; exact none_ne hB
  | succ n ih => intro x3 x4 x5 hB; exact bkJ1_indexOfChar_4cfef_7 ih _ _ _ hB
set_option maxHeartbeats 4000000 in
set_option maxRecDepth 100000 in
theorem bkJ1_indexOfChar_4cfef {l : Launch} {dC : Nat → ClassId} {dI : Nat → Nat → Nat} {cB cI cJ cZ cS : ClassId} {ak av : Nat} {as : List Value} {r : Int32} (x1 : Int32) (x2 : Int32) (x3 : Int32) (hB : kJ1_indexOfChar_4cfef x1 x2 x3 = some r) : BlkIS ak av l yJ1_indexOfChar_4cfef wsJ1_indexOfChar_4cfef ({ frames := 0, cells := 0, slots := 0, locals := 0 }) cJ1_indexOfChar_4cfef 6 (some .int) (dC, dI) (tysA cB cI cJ cZ cS) as 0 [] [(0, .ref av), (1, .int x1), (2, .int x2), (3, .int x3)] [] (fun x _ => x = r) := by
  intro p e s0 m below meth c A E hX H locs ls hP hD hS hl
  obtain ⟨C, hr, hlocks, hA, hK, hN⟩ := id E
  obtain ⟨hx, hb, hml, hown, hts⟩ := id C
  unfold kJ1_indexOfChar_4cfef at hB
  refine lv_iload_n hx hb dJ1_indexOfChar_4cfef_0 rfl (lv_at hl 1 rfl) ?_
  refine lv_i2b (v := (Int8.toInt32 (Int32.toInt8 x1))) hx hb dJ1_indexOfChar_4cfef_1 rfl ?_
  refine lv_istore (lv' := [(4, .int (Int8.toInt32 (Int32.toInt8 x1))), (0, .ref av), (1, .int x1), (2, .int x2), (3, .int x3)]) hx hb dJ1_indexOfChar_4cfef_2 hl (by decide) rfl (fun ls hl => ?_)
  refine lv_iload_n hx hb dJ1_indexOfChar_4cfef_4 rfl (lv_at hl 3 rfl) ?_
  refine lv_istore (lv' := [(5, .int x2), (4, .int (Int8.toInt32 (Int32.toInt8 x1))), (0, .ref av), (1, .int x1), (2, .int x2), (3, .int x3)]) hx hb dJ1_indexOfChar_4cfef_5 hl (by decide) rfl (fun ls hl => ?_)
  exact bkJ1_indexOfChar_4cfef_7L fu _ _ _ hB p e s0 m below meth c A E hX H locs ls hP hD hS (lv_sub hl [2, 5, 1, 0] rfl)
theorem ckJ1_indexOfChar_4cfef {l : Launch} {dC : Nat → ClassId} {dI : Nat → Nat → Nat} {cB cI cJ cZ cS : ClassId} {ak av : Nat} {r : Int32} {x1 : Int32} {x2 : Int32} {x3 : Int32} (hB : kJ1_indexOfChar_4cfef x1 x2 x3 = some r) : CIS ak av l yJ1_indexOfChar_4cfef wsJ1_indexOfChar_4cfef ({ frames := 0, cells := 0, slots := 0, locals := 0 }) (dC, dI) (tysA cB cI cJ cZ cS) [] [.ref av, .int x1, .int x2, .int x3] (fun x _ => x = r) :=
  CIS_of (cc := cJ1_indexOfChar_4cfef) (maxL := 6) (ret := (some .int)) (by decide) rfl (Nat.le_of_ble_eq_true rfl) (bkJ1_indexOfChar_4cfef _ _ _ hB)
theorem LJ1_indexOf_4cfef_M38 : Cond.methodLink RJ1 38 Lib.Math.min.name ∈ wsJ1_indexOf_4cfef := (List.mem_cons_of_mem _ (List.mem_append_left _ (List.mem_of_getElem? (i := 4) rfl)))
theorem LJ1_indexOf_4cfef_M92 : Cond.methodLink RJ1 92 Lib.Math.max.name ∈ wsJ1_indexOf_4cfef := (List.mem_cons_of_mem _ (List.mem_append_left _ (List.mem_of_getElem? (i := 0) rfl)))
theorem LJ1_indexOf_4cfef_MCmax : Cond.code Lib.Math.max.name Lib.Math.max.code 2 (some .int) ∈ wsJ1_indexOf_4cfef := (List.mem_cons_of_mem _ (List.mem_append_left _ (List.mem_of_getElem? (i := 3) rfl)))
theorem LJ1_indexOf_4cfef_MCmin : Cond.code Lib.Math.min.name Lib.Math.min.code 2 (some .int) ∈ wsJ1_indexOf_4cfef := (List.mem_cons_of_mem _ (List.mem_append_left _ (List.mem_of_getElem? (i := 6) rfl)))
theorem LJ1_indexOf_4cfef_MI : Cond.initialized "java/lang/Math" ∈ wsJ1_indexOf_4cfef := (List.mem_cons_of_mem _ (List.mem_append_left _ (List.mem_of_getElem? (i := 2) rfl)))
theorem LJ1_indexOf_4cfef_MSmax : Cond.static Lib.Math.max.name ∈ wsJ1_indexOf_4cfef := (List.mem_cons_of_mem _ (List.mem_append_left _ (List.mem_of_getElem? (i := 1) rfl)))
theorem LJ1_indexOf_4cfef_MSmin : Cond.static Lib.Math.min.name ∈ wsJ1_indexOf_4cfef := (List.mem_cons_of_mem _ (List.mem_append_left _ (List.mem_of_getElem? (i := 5) rfl)))
set_option maxHeartbeats 4000000 in
set_option maxRecDepth 100000 in
theorem bkJ1_indexOf_4cfef {l : Launch} {dC : Nat → ClassId} {dI : Nat → Nat → Nat} {cB cI cJ cZ cS : ClassId} {ak av : Nat} {as : List Value} {r : Int32} (x1 : Int32) (x2 : Int32) (x3 : Int32) (hB : kJ1_indexOf_4cfef x1 x2 x3 = some r) : BlkIS ak av l yJ1_indexOf_4cfef wsJ1_indexOf_4cfef ({ frames := 1, cells := 0, slots := 0, locals := 25 }) cJ1_indexOf_4cfef 4 (some .int) (dC, dI) (tysA cB cI cJ cZ cS) as 0 [] [(0, .ref av), (1, .int x1), (2, .int x2), (3, .int x3)] [] (fun x _ => x = r) := by
  intro p e s0 m below meth c A E hX H locs ls hP hD hS hl
  obtain ⟨C, hr, hlocks, hA, hK, hN⟩ := id E
  obtain ⟨hx, hb, hml, hown, hts⟩ := id C
  unfold kJ1_indexOf_4cfef at hB
  refine lv_iload_n hx hb dJ1_indexOf_4cfef_0 rfl (lv_at hl 1 rfl) ?_
  obtain ⟨q_, hc, hB⟩ := bindP_inv hB
  refine q_goi0 (va_runS (As := [.int x1]) (rest := []) C (ckJ1_canEncode_9a6ad hc _) (va_cwS 1 hts gJ1_indexOf_4cfef_J1_canEncode_9a6ad rfl rfl rfl (by decide +kernel) ⟨Nat.le_of_ble_eq_true rfl, Nat.le_of_ble_eq_true rfl⟩) (q_pre0 hN hK) rfl rfl hl.1 rfl (lv_room (Nat.le_of_ble_eq_true rfl)) dJ1_indexOf_4cfef_1 ⟨Nat.le_of_ble_eq_true rfl, Nat.le_of_ble_eq_true rfl⟩) hP hD hS hA (fun r1 w1 H locs hw hP hS => ?_)
  subst hw
  refine lv_if_ne (tgt := 9) hx hb dJ1_indexOf_4cfef_4 (by decide) (fun c2 => ?_) (fun c2 => ?_)
  · have hB := if_n hB c2
    refine lv_iload_n hx hb dJ1_indexOf_4cfef_9 rfl (lv_at hl 2 rfl) ?_
    refine lv_iconst (v := 0) hx hb dJ1_indexOf_4cfef_10 (by decide) ?_
    refine va_mmax hx hb (hml.trans hl.1.symm) hown (hts _ LJ1_indexOf_4cfef_M92) (hts _ LJ1_indexOf_4cfef_MSmax) (hts _ LJ1_indexOf_4cfef_MI) (hts _ LJ1_indexOf_4cfef_MCmax) (Nat.le_of_ble_eq_true rfl) (Nat.le_of_ble_eq_true rfl) (Nat.zero_le _) (Nat.zero_le _) dJ1_indexOf_4cfef_11 ?_
    refine q_top (y := (mmax x2 0)) rfl ?_
    refine lv_istore_n (lv' := [(2, .int (mmax x2 0)), (0, .ref av), (1, .int x1), (3, .int x3)]) hx hb dJ1_indexOf_4cfef_14 rfl hl (by decide) rfl (fun ls hl => ?_)
    refine lv_iload_n hx hb dJ1_indexOf_4cfef_15 rfl (lv_at hl 3 rfl) ?_
    refine lv_aload_n hx hb dJ1_indexOf_4cfef_16 rfl (lv_at hl 1 rfl) ?_
    refine va_tlen (v := 9) hx hb hX.2.2.2.2.1 hS (by decide +kernel) dJ1_indexOf_4cfef_17 ?_
    refine va_mmin hx hb (hml.trans hl.1.symm) hown (hts _ LJ1_indexOf_4cfef_M38) (hts _ LJ1_indexOf_4cfef_MSmin) (hts _ LJ1_indexOf_4cfef_MI) (hts _ LJ1_indexOf_4cfef_MCmin) (Nat.le_of_ble_eq_true rfl) (Nat.le_of_ble_eq_true rfl) (Nat.zero_le _) (Nat.zero_le _) dJ1_indexOf_4cfef_18 ?_
    refine q_top (y := (mmin x3 9)) rfl ?_
    refine lv_istore_n (lv' := [(3, .int (mmin x3 9)), (2, .int (mmax x2 0)), (0, .ref av), (1, .int x1)]) hx hb dJ1_indexOf_4cfef_21 rfl hl (by decide) rfl (fun ls hl => ?_)
    refine lv_iload_n hx hb dJ1_indexOf_4cfef_22 rfl (lv_at hl 1 rfl) ?_
    refine lv_iload_n hx hb dJ1_indexOf_4cfef_23 rfl (lv_at hl 0 rfl) ?_
    refine lv_icmp_lt (tgt := 29) hx hb dJ1_indexOf_4cfef_24 (by decide) (fun c3 => ?_) (fun c3 => ?_)
    · have hB := if_p hB c3
      refine lv_aload_n hx hb dJ1_indexOf_4cfef_29 rfl (lv_at hl 2 rfl) ?_
      refine lv_iload_n hx hb dJ1_indexOf_4cfef_30 rfl (lv_at hl 3 rfl) ?_
      refine lv_iload_n hx hb dJ1_indexOf_4cfef_31 rfl (lv_at hl 1 rfl) ?_
      refine lv_iload_n hx hb dJ1_indexOf_4cfef_32 rfl (lv_at hl 0 rfl) ?_
      obtain ⟨q_, hc, hB⟩ := bindP_inv hB
      refine q_goi0 (va_runS (As := [.ref av, .int x1, .int (mmax x2 0), .int (mmin x3 9)]) (rest := []) C (ckJ1_indexOfChar_4cfef hc _) (va_cwS 4 hts gJ1_indexOf_4cfef_J1_indexOfChar_4cfef rfl rfl rfl (by decide +kernel) ⟨Nat.le_of_ble_eq_true rfl, Nat.le_of_ble_eq_true rfl⟩) (q_preS0 hN hK hS hA hX) rfl rfl hl.1 rfl (lv_room (Nat.le_of_ble_eq_true rfl)) dJ1_indexOf_4cfef_33 ⟨Nat.le_of_ble_eq_true rfl, Nat.le_of_ble_eq_true rfl⟩) hP hD hS hA (fun r4 w1 H locs hw hP hS => ?_)
      subst hw
      exact q_iret C hr hlocks hK hP hD hS (Nat.le_of_ble_eq_true rfl) (Nat.le_of_ble_eq_true rfl) dJ1_indexOf_4cfef_36 (by cases hB; rfl)
    · have hB := if_n hB c3
      refine lv_iconst (v := (-1)) hx hb dJ1_indexOf_4cfef_27 (by decide) ?_
      exact q_iret C hr hlocks hK hP hD hS (Nat.le_of_ble_eq_true rfl) (Nat.le_of_ble_eq_true rfl) dJ1_indexOf_4cfef_28 (by cases hB; rfl)
  · have hB := if_p hB c2
    refine lv_iconst (v := (-1)) hx hb dJ1_indexOf_4cfef_7 (by decide) ?_
    exact q_iret C hr hlocks hK hP hD hS (Nat.le_of_ble_eq_true rfl) (Nat.le_of_ble_eq_true rfl) dJ1_indexOf_4cfef_8 (by cases hB; rfl)
theorem ckJ1_indexOf_4cfef {l : Launch} {dC : Nat → ClassId} {dI : Nat → Nat → Nat} {cB cI cJ cZ cS : ClassId} {ak av : Nat} {r : Int32} {x1 : Int32} {x2 : Int32} {x3 : Int32} (hB : kJ1_indexOf_4cfef x1 x2 x3 = some r) : CIS ak av l yJ1_indexOf_4cfef wsJ1_indexOf_4cfef ({ frames := 1, cells := 0, slots := 0, locals := 25 }) (dC, dI) (tysA cB cI cJ cZ cS) [] [.ref av, .int x1, .int x2, .int x3] (fun x _ => x = r) :=
  CIS_of (cc := cJ1_indexOf_4cfef) (maxL := 4) (ret := (some .int)) (by decide) rfl (Nat.le_of_ble_eq_true rfl) (bkJ1_indexOf_4cfef _ _ _ hB)
theorem LJ0_coder_7d493_15 : Cond.fieldLink RJ0 15 "java/lang/String" "coder" "B" ∈ wsJ0_coder_7d493 := (List.mem_cons_of_mem _ (List.mem_of_getElem? (i := 1) rfl))
theorem LJ0_coder_7d493_G38 : Cond.fieldLink RJ0 38 "java/lang/String" "COMPACT_STRINGS" "Z" ∈ wsJ0_coder_7d493 := (List.mem_cons_of_mem _ (List.mem_of_getElem? (i := 0) rfl))
set_option maxHeartbeats 4000000 in
set_option maxRecDepth 100000 in
theorem bkJ0_coder_7d493 {l : Launch} {dC : Nat → ClassId} {dI : Nat → Nat → Nat} {cB cI cJ cZ cS : ClassId} {ak av : Nat} {as : List Value} {r : Int32} (hB : kJ0_coder_7d493  = some r) : BlkIS ak av l yJ0_coder_7d493 wsJ0_coder_7d493 ({ frames := 0, cells := 0, slots := 0, locals := 0 }) cJ0_coder_7d493 1 (some .byte) (dC, dI) (tysA cB cI cJ cZ cS) as 0 [] [(0, .ref ak)] [] (fun x _ => x = r) := by
  intro p e s0 m below meth c A E hX H locs ls hP hD hS hl
  obtain ⟨C, hr, hlocks, hA, hK, hN⟩ := id E
  obtain ⟨hx, hb, hml, hown, hts⟩ := id C
  unfold kJ0_coder_7d493 at hB
  refine va_gets hx hb hX.2.2.2.2.2 hS hown (hts _ LJ0_coder_7d493_G38) (fun _ h9 => h9) dJ0_coder_7d493_0 ?_
  refine lv_if_eq (tgt := 13) hx hb dJ0_coder_7d493_3 (by decide) (fun h => absurd h (by decide +kernel)) (fun _ => ?_)
  refine lv_aload_n hx hb dJ0_coder_7d493_6 rfl (lv_at hl 0 rfl) ?_
  refine vk_getf hx hb hX.2.2.1 hS hown (hts _ LJ0_coder_7d493_15) (fun _ h9 => h9) dJ0_coder_7d493_7 ?_
  refine lv_goto (tgt := 14) hx hb dJ0_coder_7d493_10 (by decide) ?_
  exact q_nret C hr hlocks (by decide +kernel) hK hP hD hS (Nat.le_of_ble_eq_true rfl) (Nat.le_of_ble_eq_true rfl) dJ0_coder_7d493_14 (by cases hB; rfl)
theorem ckJ0_coder_7d493 {l : Launch} {dC : Nat → ClassId} {dI : Nat → Nat → Nat} {cB cI cJ cZ cS : ClassId} {ak av : Nat} {r : Int32} (hB : kJ0_coder_7d493  = some r) : CIS ak av l yJ0_coder_7d493 wsJ0_coder_7d493 ({ frames := 0, cells := 0, slots := 0, locals := 0 }) (dC, dI) (tysA cB cI cJ cZ cS) [] [.ref ak] (fun x _ => x = r) :=
  CIS_of (cc := cJ0_coder_7d493) (maxL := 1) (ret := (some .byte)) (by decide) rfl (Nat.le_of_ble_eq_true rfl) (bkJ0_coder_7d493 hB)
theorem LJ0_length_8abf5_9 : Cond.fieldLink RJ0 9 "java/lang/String" "value" "[B" ∈ wsJ0_length_8abf5 := (List.mem_cons_of_mem _ (List.mem_append_left _ (List.mem_of_getElem? (i := 0) rfl)))
set_option maxHeartbeats 4000000 in
set_option maxRecDepth 100000 in
theorem bkJ0_length_8abf5 {l : Launch} {dC : Nat → ClassId} {dI : Nat → Nat → Nat} {cB cI cJ cZ cS : ClassId} {ak av : Nat} {as : List Value} {r : Int32} (hB : kJ0_length_8abf5  = some r) : BlkIS ak av l yJ0_length_8abf5 wsJ0_length_8abf5 ({ frames := 1, cells := 0, slots := 0, locals := 20 }) cJ0_length_8abf5 1 (some .int) (dC, dI) (tysA cB cI cJ cZ cS) as 0 [] [(0, .ref ak)] [] (fun x _ => x = r) := by
  intro p e s0 m below meth c A E hX H locs ls hP hD hS hl
  obtain ⟨C, hr, hlocks, hA, hK, hN⟩ := id E
  obtain ⟨hx, hb, hml, hown, hts⟩ := id C
  unfold kJ0_length_8abf5 at hB
  refine lv_aload_n hx hb dJ0_length_8abf5_0 rfl (lv_at hl 0 rfl) ?_
  refine vk_getf hx hb hX.2.2.2.1 hS hown (hts _ LJ0_length_8abf5_9) (fun _ h9 => h9) dJ0_length_8abf5_1 ?_
  refine va_tlen (v := 9) hx hb hX.2.2.2.2.1 hS (by decide +kernel) dJ0_length_8abf5_4 ?_
  refine lv_aload_n hx hb dJ0_length_8abf5_5 rfl (lv_at hl 0 rfl) ?_
  obtain ⟨q_, hc, hB⟩ := bindP_inv hB
  refine q_goi0 (va_runV (As := []) (rest := [.int 9]) C (ckJ0_coder_7d493 hc _) (cwV 0 hts gJ0_length_8abf5_J0_coder_7d493 rfl rfl rfl (by decide +kernel) ⟨Nat.le_of_ble_eq_true rfl, Nat.le_of_ble_eq_true rfl⟩) ⟨(q_preS0 hN hK hS hA hX).1, va_Orecv hX.2.1 hS, (q_preS0 hN hK hS hA hX).2⟩ rfl rfl hl.1 rfl (lv_room (Nat.le_of_ble_eq_true rfl)) dJ0_length_8abf5_6 ⟨Nat.le_of_ble_eq_true rfl, Nat.le_of_ble_eq_true rfl⟩) hP hD hS hA (fun r1 w1 H locs hw hP hS => ?_)
  subst hw
  obtain rfl : r1 = 0 := Option.some.inj (hc.symm.trans rfl)
  refine lv_ishr hx hb dJ0_length_8abf5_9 ?_
  refine q_top (y := 9) (by decide +kernel) ?_
  exact q_iret C hr hlocks hK hP hD hS (Nat.le_of_ble_eq_true rfl) (Nat.le_of_ble_eq_true rfl) dJ0_length_8abf5_10 (by cases hB; rfl)
theorem ckJ0_length_8abf5 {l : Launch} {dC : Nat → ClassId} {dI : Nat → Nat → Nat} {cB cI cJ cZ cS : ClassId} {ak av : Nat} {r : Int32} (hB : kJ0_length_8abf5  = some r) : CIS ak av l yJ0_length_8abf5 wsJ0_length_8abf5 ({ frames := 1, cells := 0, slots := 0, locals := 20 }) (dC, dI) (tysA cB cI cJ cZ cS) [] [.ref ak] (fun x _ => x = r) :=
  CIS_of (cc := cJ0_length_8abf5) (maxL := 1) (ret := (some .int)) (by decide) rfl (Nat.le_of_ble_eq_true rfl) (bkJ0_length_8abf5 hB)
theorem LJ0_isLatin1_aae02_15 : Cond.fieldLink RJ0 15 "java/lang/String" "coder" "B" ∈ wsJ0_isLatin1_aae02 := (List.mem_cons_of_mem _ (List.mem_of_getElem? (i := 1) rfl))
theorem LJ0_isLatin1_aae02_G38 : Cond.fieldLink RJ0 38 "java/lang/String" "COMPACT_STRINGS" "Z" ∈ wsJ0_isLatin1_aae02 := (List.mem_cons_of_mem _ (List.mem_of_getElem? (i := 0) rfl))
set_option maxHeartbeats 4000000 in
set_option maxRecDepth 100000 in
theorem bkJ0_isLatin1_aae02 {l : Launch} {dC : Nat → ClassId} {dI : Nat → Nat → Nat} {cB cI cJ cZ cS : ClassId} {ak av : Nat} {as : List Value} {r : Int32} (hB : kJ0_isLatin1_aae02  = some r) : BlkIS ak av l yJ0_isLatin1_aae02 wsJ0_isLatin1_aae02 ({ frames := 0, cells := 0, slots := 0, locals := 0 }) cJ0_isLatin1_aae02 1 (some .boolean) (dC, dI) (tysA cB cI cJ cZ cS) as 0 [] [(0, .ref ak)] [] (fun x _ => x = r) := by
  intro p e s0 m below meth c A E hX H locs ls hP hD hS hl
  obtain ⟨C, hr, hlocks, hA, hK, hN⟩ := id E
  obtain ⟨hx, hb, hml, hown, hts⟩ := id C
  unfold kJ0_isLatin1_aae02 at hB
  refine va_gets hx hb hX.2.2.2.2.2 hS hown (hts _ LJ0_isLatin1_aae02_G38) (fun _ h9 => h9) dJ0_isLatin1_aae02_0 ?_
  refine lv_if_eq (tgt := 17) hx hb dJ0_isLatin1_aae02_3 (by decide) (fun h => absurd h (by decide +kernel)) (fun _ => ?_)
  refine lv_aload_n hx hb dJ0_isLatin1_aae02_6 rfl (lv_at hl 0 rfl) ?_
  refine vk_getf hx hb hX.2.2.1 hS hown (hts _ LJ0_isLatin1_aae02_15) (fun _ h9 => h9) dJ0_isLatin1_aae02_7 ?_
  refine lv_if_ne (tgt := 17) hx hb dJ0_isLatin1_aae02_10 (by decide) (fun h => absurd (by decide +kernel) h) (fun _ => ?_)
  refine lv_iconst (v := 1) hx hb dJ0_isLatin1_aae02_13 (by decide) ?_
  refine lv_goto (tgt := 18) hx hb dJ0_isLatin1_aae02_14 (by decide) ?_
  exact q_zret C hr hlocks (Or.inr rfl) hK hP hD hS (Nat.le_of_ble_eq_true rfl) (Nat.le_of_ble_eq_true rfl) dJ0_isLatin1_aae02_18 (by cases hB; rfl)
theorem ckJ0_isLatin1_aae02 {l : Launch} {dC : Nat → ClassId} {dI : Nat → Nat → Nat} {cB cI cJ cZ cS : ClassId} {ak av : Nat} {r : Int32} (hB : kJ0_isLatin1_aae02  = some r) : CIS ak av l yJ0_isLatin1_aae02 wsJ0_isLatin1_aae02 ({ frames := 0, cells := 0, slots := 0, locals := 0 }) (dC, dI) (tysA cB cI cJ cZ cS) [] [.ref ak] (fun x _ => x = r) :=
  CIS_of (cc := cJ0_isLatin1_aae02) (maxL := 1) (ret := (some .boolean)) (by decide) rfl (Nat.le_of_ble_eq_true rfl) (bkJ0_isLatin1_aae02 hB)
theorem LJ0_indexOf_7cf53_9 : Cond.fieldLink RJ0 9 "java/lang/String" "value" "[B" ∈ wsJ0_indexOf_7cf53 := (List.mem_cons_of_mem _ (List.mem_append_left _ (List.mem_of_getElem? (i := 0) rfl)))
set_option maxHeartbeats 4000000 in
set_option maxRecDepth 100000 in
theorem bkJ0_indexOf_7cf53 {l : Launch} {dC : Nat → ClassId} {dI : Nat → Nat → Nat} {cB cI cJ cZ cS : ClassId} {ak av : Nat} {as : List Value} {r : Int32} (x1 : Int32) (x2 : Int32) (hB : kJ0_indexOf_7cf53 x1 x2 = some r) : BlkIS ak av l yJ0_indexOf_7cf53 wsJ0_indexOf_7cf53 ({ frames := 2, cells := 0, slots := 0, locals := 48 }) cJ0_indexOf_7cf53 3 (some .int) (dC, dI) (tysA cB cI cJ cZ cS) as 0 [] [(0, .ref ak), (1, .int x1), (2, .int x2)] [] (fun x _ => x = r) := by
  intro p e s0 m below meth c A E hX H locs ls hP hD hS hl
  obtain ⟨C, hr, hlocks, hA, hK, hN⟩ := id E
  obtain ⟨hx, hb, hml, hown, hts⟩ := id C
  unfold kJ0_indexOf_7cf53 at hB
  refine lv_aload_n hx hb dJ0_indexOf_7cf53_0 rfl (lv_at hl 0 rfl) ?_
  obtain ⟨q_, hc, hB⟩ := bindP_inv hB
  refine q_goi0 (va_runV (As := []) (rest := []) C (ckJ0_isLatin1_aae02 hc _) (cwV 0 hts gJ0_indexOf_7cf53_J0_isLatin1_aae02 rfl rfl rfl (by decide +kernel) ⟨Nat.le_of_ble_eq_true rfl, Nat.le_of_ble_eq_true rfl⟩) ⟨(q_preS0 hN hK hS hA hX).1, va_Orecv hX.2.1 hS, (q_preS0 hN hK hS hA hX).2⟩ rfl rfl hl.1 rfl (lv_room (Nat.le_of_ble_eq_true rfl)) dJ0_indexOf_7cf53_1 ⟨Nat.le_of_ble_eq_true rfl, Nat.le_of_ble_eq_true rfl⟩) hP hD hS hA (fun r1 w1 H locs hw hP hS => ?_)
  subst hw
  obtain rfl : r1 = 1 := Option.some.inj (hc.symm.trans rfl)
  refine lv_if_eq (tgt := 23) hx hb dJ0_indexOf_7cf53_4 (by decide) (fun h => absurd h (by decide +kernel)) (fun _ => ?_)
  refine lv_aload_n hx hb dJ0_indexOf_7cf53_7 rfl (lv_at hl 0 rfl) ?_
  refine vk_getf hx hb hX.2.2.2.1 hS hown (hts _ LJ0_indexOf_7cf53_9) (fun _ h9 => h9) dJ0_indexOf_7cf53_8 ?_
  refine lv_iload_n hx hb dJ0_indexOf_7cf53_11 rfl (lv_at hl 1 rfl) ?_
  refine lv_iload_n hx hb dJ0_indexOf_7cf53_12 rfl (lv_at hl 2 rfl) ?_
  refine lv_aload_n hx hb dJ0_indexOf_7cf53_13 rfl (lv_at hl 0 rfl) ?_
  obtain ⟨q_, hc, hB⟩ := bindP_inv hB
  refine q_goi0 (va_runV (As := []) (rest := [.int x2, .int x1, .ref av]) C (ckJ0_length_8abf5 hc _) (cwV 0 hts gJ0_indexOf_7cf53_J0_length_8abf5 rfl rfl rfl (by decide +kernel) ⟨Nat.le_of_ble_eq_true rfl, Nat.le_of_ble_eq_true rfl⟩) ⟨(q_preS0 hN hK hS hA hX).1, va_Orecv hX.2.1 hS, (q_preS0 hN hK hS hA hX).2⟩ rfl rfl hl.1 rfl (lv_room (Nat.le_of_ble_eq_true rfl)) dJ0_indexOf_7cf53_14 ⟨Nat.le_of_ble_eq_true rfl, Nat.le_of_ble_eq_true rfl⟩) hP hD hS hA (fun r2 w1 H locs hw hP hS => ?_)
  subst hw
  obtain rfl : r2 = 9 := Option.some.inj (hc.symm.trans rfl)
  obtain ⟨q_, hc, hB⟩ := bindP_inv hB
  refine q_goi0 (va_runS (As := [.ref av, .int x1, .int x2, .int 9]) (rest := []) C (ckJ1_indexOf_4cfef hc _) (va_cwS 4 hts gJ0_indexOf_7cf53_J1_indexOf_4cfef rfl rfl rfl (by decide +kernel) ⟨Nat.le_of_ble_eq_true rfl, Nat.le_of_ble_eq_true rfl⟩) (q_preS0 hN hK hS hA hX) rfl rfl hl.1 rfl (lv_room (Nat.le_of_ble_eq_true rfl)) dJ0_indexOf_7cf53_17 ⟨Nat.le_of_ble_eq_true rfl, Nat.le_of_ble_eq_true rfl⟩) hP hD hS hA (fun r3 w1 H locs hw hP hS => ?_)
  subst hw
  refine lv_goto (tgt := 36) hx hb dJ0_indexOf_7cf53_20 (by decide) ?_
  exact q_iret C hr hlocks hK hP hD hS (Nat.le_of_ble_eq_true rfl) (Nat.le_of_ble_eq_true rfl) dJ0_indexOf_7cf53_36 (by cases hB; rfl)
theorem ckJ0_indexOf_7cf53 {l : Launch} {dC : Nat → ClassId} {dI : Nat → Nat → Nat} {cB cI cJ cZ cS : ClassId} {ak av : Nat} {r : Int32} {x1 : Int32} {x2 : Int32} (hB : kJ0_indexOf_7cf53 x1 x2 = some r) : CIS ak av l yJ0_indexOf_7cf53 wsJ0_indexOf_7cf53 ({ frames := 2, cells := 0, slots := 0, locals := 48 }) (dC, dI) (tysA cB cI cJ cZ cS) [] [.ref ak, .int x1, .int x2] (fun x _ => x = r) :=
  CIS_of (cc := cJ0_indexOf_7cf53) (maxL := 3) (ret := (some .int)) (by decide) rfl (Nat.le_of_ble_eq_true rfl) (bkJ0_indexOf_7cf53 _ _ hB)
set_option maxHeartbeats 4000000 in
set_option maxRecDepth 100000 in
theorem bkJ0_indexOf_0f7a4 {l : Launch} {dC : Nat → ClassId} {dI : Nat → Nat → Nat} {cB cI cJ cZ cS : ClassId} {ak av : Nat} {as : List Value} {r : Int32} (x1 : Int32) (hB : kJ0_indexOf_0f7a4 x1 = some r) : BlkIS ak av l yJ0_indexOf_0f7a4 wsJ0_indexOf_0f7a4 ({ frames := 3, cells := 0, slots := 0, locals := 70 }) cJ0_indexOf_0f7a4 2 (some .int) (dC, dI) (tysA cB cI cJ cZ cS) as 0 [] [(0, .ref ak), (1, .int x1)] [] (fun x _ => x = r) := by
  intro p e s0 m below meth c A E hX H locs ls hP hD hS hl
  obtain ⟨C, hr, hlocks, hA, hK, hN⟩ := id E
  obtain ⟨hx, hb, hml, hown, hts⟩ := id C
  unfold kJ0_indexOf_0f7a4 at hB
  refine lv_aload_n hx hb dJ0_indexOf_0f7a4_0 rfl (lv_at hl 0 rfl) ?_
  refine lv_iload_n hx hb dJ0_indexOf_0f7a4_1 rfl (lv_at hl 1 rfl) ?_
  refine lv_iconst (v := 0) hx hb dJ0_indexOf_0f7a4_2 (by decide) ?_
  obtain ⟨q_, hc, hB⟩ := bindP_inv hB
  refine q_goi0 (va_runV (As := [.int x1, .int 0]) (rest := []) C (ckJ0_indexOf_7cf53 hc _) (cwV 2 hts gJ0_indexOf_0f7a4_J0_indexOf_7cf53 rfl rfl rfl (by decide +kernel) ⟨Nat.le_of_ble_eq_true rfl, Nat.le_of_ble_eq_true rfl⟩) ⟨(q_preS0 hN hK hS hA hX).1, va_Orecv hX.2.1 hS, (q_preS0 hN hK hS hA hX).2⟩ rfl rfl hl.1 rfl (lv_room (Nat.le_of_ble_eq_true rfl)) dJ0_indexOf_0f7a4_3 ⟨Nat.le_of_ble_eq_true rfl, Nat.le_of_ble_eq_true rfl⟩) hP hD hS hA (fun r1 w1 H locs hw hP hS => ?_)
  subst hw
  exact q_iret C hr hlocks hK hP hD hS (Nat.le_of_ble_eq_true rfl) (Nat.le_of_ble_eq_true rfl) dJ0_indexOf_0f7a4_6 (by cases hB; rfl)
theorem ckJ0_indexOf_0f7a4 {l : Launch} {dC : Nat → ClassId} {dI : Nat → Nat → Nat} {cB cI cJ cZ cS : ClassId} {ak av : Nat} {r : Int32} {x1 : Int32} (hB : kJ0_indexOf_0f7a4 x1 = some r) : CIS ak av l yJ0_indexOf_0f7a4 wsJ0_indexOf_0f7a4 ({ frames := 3, cells := 0, slots := 0, locals := 70 }) (dC, dI) (tysA cB cI cJ cZ cS) [] [.ref ak, .int x1] (fun x _ => x = r) :=
  CIS_of (cc := cJ0_indexOf_0f7a4) (maxL := 2) (ret := (some .int)) (by decide) rfl (Nat.le_of_ble_eq_true rfl) (bkJ0_indexOf_0f7a4 _ hB)
theorem LX3_remember_11 : Cond.fieldLink RX3 11 "GuessFerry$Past" "ring" "[LGuessFerry$Standing;" ∈ wsX3_remember := (List.mem_cons_of_mem _ (List.mem_append_left _ (List.mem_append_left _ (List.mem_append_left _ (List.mem_of_getElem? (i := 0) rfl)))))
theorem LX3_remember_25 : Cond.fieldLink RX3 25 "GuessFerry$Past" "size" "I" ∈ wsX3_remember := (List.mem_cons_of_mem _ (List.mem_append_left _ (List.mem_append_left _ (List.mem_append_left _ (List.mem_of_getElem? (i := 2) rfl)))))
theorem LX3_remember_29 : Cond.fieldLink RX3 29 "GuessFerry$Past" "first" "I" ∈ wsX3_remember := (List.mem_cons_of_mem _ (List.mem_append_left _ (List.mem_append_left _ (List.mem_append_left _ (List.mem_of_getElem? (i := 1) rfl)))))
theorem LX3_remember_E_X6_copyFrom : Cond.selects RX6 yX6_copyFrom yX6_copyFrom ∈ wsX3_remember := (List.mem_cons_of_mem _ (List.mem_append_left _ (List.mem_append_left _ (List.mem_append_left _ (List.mem_of_getElem? (i := 5) rfl)))))
theorem LX3_remember_I_X6 : Cond.initialized RX6 ∈ wsX3_remember := (List.mem_cons_of_mem _ (List.mem_append_left _ (List.mem_append_left _ (List.mem_append_left _ (List.mem_of_getElem? (i := 4) rfl)))))
theorem LX3_remember_N_X6_copyFrom : Cond.instanceMethod yX6_copyFrom ∈ wsX3_remember := (List.mem_cons_of_mem _ (List.mem_append_left _ (List.mem_append_left _ (List.mem_append_left _ (List.mem_of_getElem? (i := 3) rfl)))))
theorem inX3_remember_X3 : ∀ w ∈ u_ws RX3 TX3 5, w ∈ wsX3_remember := fun w h => (List.mem_cons_of_mem _ (List.mem_append_left _ (List.mem_append_right _ h)))
set_option maxHeartbeats 4000000 in
set_option maxRecDepth 100000 in
theorem bkX3_remember {l : Launch} {dC : Nat → ClassId} {dI : Nat → Nat → Nat} {cB cI cJ cZ cS : ClassId} {a b b2 c0 : Nat → Nat} {bb : Nat → Nat → Nat} {as : List Value} {s' : PS} (s : PS) (hB : kX3_remember s = some s') : BlkV l yX3_remember wsX3_remember ({ frames := 2, cells := 0, slots := 0, locals := 85 }) cX3_remember 2 none (dC, dI) (tysA cB cI cJ cZ cS) as 0 (wR cI cZ cS a b b2 c0 bb s) [(0, .ref (c0 1)), (1, .ref (b 0))] [] (fun u => u = (wR cI cZ cS a b b2 c0 bb s')) := by
  intro p e s0 m below meth c A E H locs ls hP hD hS hl
  obtain ⟨C, hr, hlocks, hA, hK, hN⟩ := id E
  obtain ⟨hx, hb, hml, hown, hts⟩ := id C
  unfold kX3_remember at hB
  refine lv_aload_n hx hb dX3_remember_0 rfl (lv_at hl 0 rfl) ?_
  refine q_get (v := .ref (c0 2)) C inX3_remember_X3 hK hP 1 rfl rfl 0 (by decide) rfl LX3_remember_11 rfl dX3_remember_1 ?_
  refine lv_aload_n hx hb dX3_remember_4 rfl (lv_at hl 0 rfl) ?_
  refine q_get (v := .int (s.g.v 3)) C inX3_remember_X3 hK hP 1 rfl rfl 3 (by decide) rfl LX3_remember_29 rfl dX3_remember_5 ?_
  refine lv_aload_n hx hb dX3_remember_8 rfl (lv_at hl 0 rfl) ?_
  refine q_get (v := .int (s.g.v 4)) C inX3_remember_X3 hK hP 1 rfl rfl 4 (by decide) rfl LX3_remember_25 rfl dX3_remember_9 ?_
  refine lv_iadd hx hb dX3_remember_12 ?_
  refine lv_bipush (v := 40) hx hb dX3_remember_13 (by decide) ?_
  refine lv_irem hx hb dX3_remember_15 (by decide) ?_
  obtain ⟨g1, hB⟩ := guard_inv hB
  refine q_aldq (x := bb (Int32.toNatClampNeg (((s.g.v 3) + (s.g.v 4)) - ((s.g.v 3) + (s.g.v 4)) / 40 * 40)) 0) C hK hP 2 4 rfl rfl (vpb_in g1) dX3_remember_16 rfl ?_
  refine lv_aload_n hx hb dX3_remember_17 rfl (lv_at hl 1 rfl) ?_
  have hK_ : (Int32.toNatClampNeg (((s.g.v 3) + (s.g.v 4)) - ((s.g.v 3) + (s.g.v 4)) / 40 * 40)) < 43 := by have := vpb_lt g1; omega
  obtain ⟨pre, suf, hp1, hp2⟩ := pool_at (cI := cI) (bb := bb) (r := s.r) (n := 43) hK_
  have hP : va_P (dC, dI) vwCl (((wG cZ cS a b b2 c0 (rgP bb) (slP bb) s.g ++ wD cI b s.n) ++ wD cI (bb (Int32.toNatClampNeg (((s.g.v 3) + (s.g.v 4)) - ((s.g.v 3) + (s.g.v 4)) / 40 * 40))) (s.r (Int32.toNatClampNeg (((s.g.v 3) + (s.g.v 4)) - ((s.g.v 3) + (s.g.v 4)) / 40 * 40)))) ++ (pre ++ suf)) H := pool_outP hp1 hP
  have hD : va_D A (((wG cZ cS a b b2 c0 (rgP bb) (slP bb) s.g ++ wD cI b s.n) ++ wD cI (bb (Int32.toNatClampNeg (((s.g.v 3) + (s.g.v 4)) - ((s.g.v 3) + (s.g.v 4)) / 40 * 40))) (s.r (Int32.toNatClampNeg (((s.g.v 3) + (s.g.v 4)) - ((s.g.v 3) + (s.g.v 4)) / 40 * 40)))) ++ (pre ++ suf)) := pool_outD hp1 hD
  obtain ⟨s2, hc, hB⟩ := bindP_inv hB
  refine q_govT (X := ((wG cZ cS a b b2 c0 (rgP bb) (slP bb) s.g ++ wD cI b s.n) ++ wD cI (bb (Int32.toNatClampNeg (((s.g.v 3) + (s.g.v 4)) - ((s.g.v 3) + (s.g.v 4)) / 40 * 40))) (s.r (Int32.toNatClampNeg (((s.g.v 3) + (s.g.v 4)) - ((s.g.v 3) + (s.g.v 4)) / 40 * 40))))) (wr := wG cZ cS a b b2 c0 (rgP bb) (slP bb) s.g) (va_runVN (As := [.ref (b 0)]) (rest := []) C (ckX6_copyFrom (b := bb (Int32.toNatClampNeg (((s.g.v 3) + (s.g.v 4)) - ((s.g.v 3) + (s.g.v 4)) / 40 * 40))) (b2 := b) hc _) ⟨va_cnB 1 hts gX3_remember_X6_copyFrom_n32 rfl rfl rfl (hN _ nwM_X3_32 rfl) (hts _ LX3_remember_I_X6) (by decide +kernel) ⟨Nat.le_of_ble_eq_true rfl, Nat.le_of_ble_eq_true rfl⟩, hts _ LX3_remember_N_X6_copyFrom, hts _ LX3_remember_E_X6_copyFrom⟩ (q_preV hK hP (ci := 6) (q0 := 11) rfl rfl rfl (q_pre hN hK hP hD [5, 6, 7, 8, 9, 10, 11, 12, 13, 14, 15, 16] rfl zqn_32)) rfl rfl hl.1 rfl (lv_room (Nat.le_of_ble_eq_true rfl)) dX3_remember_18 ⟨Nat.le_of_ble_eq_true rfl, Nat.le_of_ble_eq_true rfl⟩) hP hD hS hA [5, 6, 7, 8, 9, 10, 11, 12, 13, 14, 15, 16] [0, 1, 2, 3, 4] rfl rfl zqn_21 zqd_17 (fun w1 H locs hw hP hD hS => ?_)
  subst hw
  obtain ⟨s3, hs4, hB⟩ := letS_inv hB
  have hP : va_P (dC, dI) vwCl (((wG cZ cS a b b2 c0 (rgP bb) (slP bb) s.g ++ wD cI b s2.e) ++ wD cI (bb (Int32.toNatClampNeg (((s.g.v 3) + (s.g.v 4)) - ((s.g.v 3) + (s.g.v 4)) / 40 * 40))) s2.d) ++ (pre ++ suf)) H := hP.part [0, 1, 2, 3, 4, 5, 6, 7, 8, 9, 10, 11, 12, 13, 14, 15, 16] rfl
  have hD : va_D A (((wG cZ cS a b b2 c0 (rgP bb) (slP bb) s.g ++ wD cI b s2.e) ++ wD cI (bb (Int32.toNatClampNeg (((s.g.v 3) + (s.g.v 4)) - ((s.g.v 3) + (s.g.v 4)) / 40 * 40))) s2.d) ++ (pre ++ suf)) := hD.part [0, 1, 2, 3, 4, 5, 6, 7, 8, 9, 10, 11, 12, 13, 14, 15, 16] (by decide +kernel) rfl
  have hP : va_P (dC, dI) vwCl (wR cI cZ cS a b b2 c0 bb s3) H := by subst hs4; exact pool_inP (hp2 s2.d) hP
  have hD : va_D A (wR cI cZ cS a b b2 c0 bb s3) := by subst hs4; exact pool_inD (hp2 s2.d) hD
  refine lv_aload_n hx hb dX3_remember_21 rfl (lv_at hl 0 rfl) ?_
  refine q_get (v := .int (s3.g.v 4)) C inX3_remember_X3 hK hP 1 rfl rfl 4 (by decide) rfl LX3_remember_25 rfl dX3_remember_22 ?_
  refine lv_bipush (v := 40) hx hb dX3_remember_25 (by decide) ?_
  refine lv_icmp_ge (tgt := 43) hx hb dX3_remember_27 (by decide) (fun c5 => ?_) (fun c5 => ?_)
  · have hB := if_p hB c5
    refine lv_aload_n hx hb dX3_remember_43 rfl (lv_at hl 0 rfl) ?_
    refine lv_aload_n hx hb dX3_remember_44 rfl (lv_at hl 0 rfl) ?_
    refine q_get (v := .int (s3.g.v 3)) C inX3_remember_X3 hK hP 1 rfl rfl 3 (by decide) rfl LX3_remember_29 rfl dX3_remember_45 ?_
    refine lv_iconst (v := 1) hx hb dX3_remember_48 (by decide) ?_
    refine lv_iadd hx hb dX3_remember_49 ?_
    refine lv_bipush (v := 40) hx hb dX3_remember_50 (by decide) ?_
    refine lv_irem hx hb dX3_remember_52 (by decide) ?_
    obtain ⟨s6, hs7, hB⟩ := letS_inv hB
    refine q_put (ty := .int) (w2 := (wR cI cZ cS a b b2 c0 bb s6)) tyX3 tyX3_ok nmX3 C inX3_remember_X3 hK hP hD hS 1 rfl rfl 3 (by decide) rfl LX3_remember_29 rfl (by decide +kernel) (rfl) rfl (Nat.le_of_ble_eq_true rfl) dX3_remember_53 (by subst hs7; rfl) (fun H locs hP hD hS => ?_)
    exact q_vret C hr hlocks hK hP hD hS (Nat.le_of_ble_eq_true rfl) (Nat.le_of_ble_eq_true rfl) dX3_remember_56 (by cases hB; rfl)
  · have hB := if_n hB c5
    refine lv_aload_n hx hb dX3_remember_30 rfl (lv_at hl 0 rfl) ?_
    refine lv_dup hx hb dX3_remember_31 rfl ?_
    refine q_get (v := .int (s3.g.v 4)) C inX3_remember_X3 hK hP 1 rfl rfl 4 (by decide) rfl LX3_remember_25 rfl dX3_remember_32 ?_
    refine lv_iconst (v := 1) hx hb dX3_remember_35 (by decide) ?_
    refine lv_iadd hx hb dX3_remember_36 ?_
    obtain ⟨s8, hs9, hB⟩ := letS_inv hB
    refine q_put (ty := .int) (w2 := (wR cI cZ cS a b b2 c0 bb s8)) tyX3 tyX3_ok nmX3 C inX3_remember_X3 hK hP hD hS 1 rfl rfl 4 (by decide) rfl LX3_remember_25 rfl (by decide +kernel) (rfl) rfl (Nat.le_of_ble_eq_true rfl) dX3_remember_37 (by subst hs9; rfl) (fun H locs hP hD hS => ?_)
    refine lv_goto (tgt := 56) hx hb dX3_remember_40 (by decide) ?_
    exact q_vret C hr hlocks hK hP hD hS (Nat.le_of_ble_eq_true rfl) (Nat.le_of_ble_eq_true rfl) dX3_remember_56 (by cases hB; rfl)
theorem ckX3_remember {l : Launch} {dC : Nat → ClassId} {dI : Nat → Nat → Nat} {cB cI cJ cZ cS : ClassId} {a b b2 c0 : Nat → Nat} {bb : Nat → Nat → Nat} {s' : PS} {s : PS} (hB : kX3_remember s = some s') : CV l yX3_remember wsX3_remember ({ frames := 2, cells := 0, slots := 0, locals := 85 }) (dC, dI) (tysA cB cI cJ cZ cS) (wR cI cZ cS a b b2 c0 bb s) [.ref (c0 1), .ref (b 0)] (fun u => u = (wR cI cZ cS a b b2 c0 bb s')) :=
  CV_of (cc := cX3_remember) (maxL := 2) (ret := none) (by decide) rfl (Nat.le_of_ble_eq_true rfl) (bkX3_remember _ hB)
theorem LX3_takeBack_11 : Cond.fieldLink RX3 11 "GuessFerry$Past" "ring" "[LGuessFerry$Standing;" ∈ wsX3_takeBack := (List.mem_cons_of_mem _ (List.mem_append_left _ (List.mem_append_left _ (List.mem_append_left _ (List.mem_of_getElem? (i := 1) rfl)))))
theorem LX3_takeBack_25 : Cond.fieldLink RX3 25 "GuessFerry$Past" "size" "I" ∈ wsX3_takeBack := (List.mem_cons_of_mem _ (List.mem_append_left _ (List.mem_append_left _ (List.mem_append_left _ (List.mem_of_getElem? (i := 0) rfl)))))
theorem LX3_takeBack_29 : Cond.fieldLink RX3 29 "GuessFerry$Past" "first" "I" ∈ wsX3_takeBack := (List.mem_cons_of_mem _ (List.mem_append_left _ (List.mem_append_left _ (List.mem_append_left _ (List.mem_of_getElem? (i := 2) rfl)))))
theorem LX3_takeBack_E_X6_copyFrom : Cond.selects RX6 yX6_copyFrom yX6_copyFrom ∈ wsX3_takeBack := (List.mem_cons_of_mem _ (List.mem_append_left _ (List.mem_append_left _ (List.mem_append_left _ (List.mem_of_getElem? (i := 5) rfl)))))
theorem LX3_takeBack_I_X6 : Cond.initialized RX6 ∈ wsX3_takeBack := (List.mem_cons_of_mem _ (List.mem_append_left _ (List.mem_append_left _ (List.mem_append_left _ (List.mem_of_getElem? (i := 4) rfl)))))
theorem LX3_takeBack_N_X6_copyFrom : Cond.instanceMethod yX6_copyFrom ∈ wsX3_takeBack := (List.mem_cons_of_mem _ (List.mem_append_left _ (List.mem_append_left _ (List.mem_append_left _ (List.mem_of_getElem? (i := 3) rfl)))))
theorem inX3_takeBack_X3 : ∀ w ∈ u_ws RX3 TX3 5, w ∈ wsX3_takeBack := fun w h => (List.mem_cons_of_mem _ (List.mem_append_left _ (List.mem_append_right _ h)))
set_option maxHeartbeats 4000000 in
set_option maxRecDepth 100000 in
theorem bkX3_takeBack {l : Launch} {dC : Nat → ClassId} {dI : Nat → Nat → Nat} {cB cI cJ cZ cS : ClassId} {a b b2 c0 : Nat → Nat} {bb : Nat → Nat → Nat} {as : List Value} {r : Int32} {s' : PS} (s : PS) (hB : kX3_takeBack s = some (r, s')) : BlkI l yX3_takeBack wsX3_takeBack ({ frames := 2, cells := 0, slots := 0, locals := 85 }) cX3_takeBack 2 (some .boolean) (dC, dI) (tysA cB cI cJ cZ cS) as 0 (wR cI cZ cS a b b2 c0 bb s) [(0, .ref (c0 1)), (1, .ref (b 0))] [] (fun x u => x = r ∧ u = (wR cI cZ cS a b b2 c0 bb s')) := by
  intro p e s0 m below meth c A E H locs ls hP hD hS hl
  obtain ⟨C, hr, hlocks, hA, hK, hN⟩ := id E
  obtain ⟨hx, hb, hml, hown, hts⟩ := id C
  unfold kX3_takeBack at hB
  refine lv_aload_n hx hb dX3_takeBack_0 rfl (lv_at hl 0 rfl) ?_
  refine q_get (v := .int (s.g.v 4)) C inX3_takeBack_X3 hK hP 1 rfl rfl 4 (by decide) rfl LX3_takeBack_25 rfl dX3_takeBack_1 ?_
  refine lv_if_ne (tgt := 9) hx hb dX3_takeBack_4 (by decide) (fun c1 => ?_) (fun c1 => ?_)
  · have hB := if_n hB c1
    refine lv_aload_n hx hb dX3_takeBack_9 rfl (lv_at hl 0 rfl) ?_
    refine lv_dup hx hb dX3_takeBack_10 rfl ?_
    refine q_get (v := .int (s.g.v 4)) C inX3_takeBack_X3 hK hP 1 rfl rfl 4 (by decide) rfl LX3_takeBack_25 rfl dX3_takeBack_11 ?_
    refine lv_iconst (v := 1) hx hb dX3_takeBack_14 (by decide) ?_
    refine lv_isub hx hb dX3_takeBack_15 ?_
    obtain ⟨s2, hs3, hB⟩ := letS_inv hB
    refine q_put (ty := .int) (w2 := (wR cI cZ cS a b b2 c0 bb s2)) tyX3 tyX3_ok nmX3 C inX3_takeBack_X3 hK hP hD hS 1 rfl rfl 4 (by decide) rfl LX3_takeBack_25 rfl (by decide +kernel) (rfl) rfl (Nat.le_of_ble_eq_true rfl) dX3_takeBack_16 (by subst hs3; rfl) (fun H locs hP hD hS => ?_)
    refine lv_aload_n hx hb dX3_takeBack_19 rfl (lv_at hl 1 rfl) ?_
    refine lv_aload_n hx hb dX3_takeBack_20 rfl (lv_at hl 0 rfl) ?_
    refine q_get (v := .ref (c0 2)) C inX3_takeBack_X3 hK hP 1 rfl rfl 0 (by decide) rfl LX3_takeBack_11 rfl dX3_takeBack_21 ?_
    refine lv_aload_n hx hb dX3_takeBack_24 rfl (lv_at hl 0 rfl) ?_
    refine q_get (v := .int (s2.g.v 3)) C inX3_takeBack_X3 hK hP 1 rfl rfl 3 (by decide) rfl LX3_takeBack_29 rfl dX3_takeBack_25 ?_
    refine lv_aload_n hx hb dX3_takeBack_28 rfl (lv_at hl 0 rfl) ?_
    refine q_get (v := .int (s2.g.v 4)) C inX3_takeBack_X3 hK hP 1 rfl rfl 4 (by decide) rfl LX3_takeBack_25 rfl dX3_takeBack_29 ?_
    refine lv_iadd hx hb dX3_takeBack_32 ?_
    refine lv_bipush (v := 40) hx hb dX3_takeBack_33 (by decide) ?_
    refine lv_irem hx hb dX3_takeBack_35 (by decide) ?_
    obtain ⟨g4, hB⟩ := guard_inv hB
    refine q_aldq (x := bb (Int32.toNatClampNeg (((s2.g.v 3) + (s2.g.v 4)) - ((s2.g.v 3) + (s2.g.v 4)) / 40 * 40)) 0) C hK hP 2 4 rfl rfl (vpb_in g4) dX3_takeBack_36 rfl ?_
    have hK_ : (Int32.toNatClampNeg (((s2.g.v 3) + (s2.g.v 4)) - ((s2.g.v 3) + (s2.g.v 4)) / 40 * 40)) < 43 := by have := vpb_lt g4; omega
    obtain ⟨pre, suf, hp1, hp2⟩ := pool_at (cI := cI) (bb := bb) (r := s2.r) (n := 43) hK_
    have hP : va_P (dC, dI) vwCl (((wG cZ cS a b b2 c0 (rgP bb) (slP bb) s2.g ++ wD cI b s2.n) ++ wD cI (bb (Int32.toNatClampNeg (((s2.g.v 3) + (s2.g.v 4)) - ((s2.g.v 3) + (s2.g.v 4)) / 40 * 40))) (s2.r (Int32.toNatClampNeg (((s2.g.v 3) + (s2.g.v 4)) - ((s2.g.v 3) + (s2.g.v 4)) / 40 * 40)))) ++ (pre ++ suf)) H := pool_outP hp1 hP
    have hD : va_D A (((wG cZ cS a b b2 c0 (rgP bb) (slP bb) s2.g ++ wD cI b s2.n) ++ wD cI (bb (Int32.toNatClampNeg (((s2.g.v 3) + (s2.g.v 4)) - ((s2.g.v 3) + (s2.g.v 4)) / 40 * 40))) (s2.r (Int32.toNatClampNeg (((s2.g.v 3) + (s2.g.v 4)) - ((s2.g.v 3) + (s2.g.v 4)) / 40 * 40)))) ++ (pre ++ suf)) := pool_outD hp1 hD
    obtain ⟨s5, hc, hB⟩ := bindP_inv hB
    refine q_govT (X := ((wG cZ cS a b b2 c0 (rgP bb) (slP bb) s2.g ++ wD cI b s2.n) ++ wD cI (bb (Int32.toNatClampNeg (((s2.g.v 3) + (s2.g.v 4)) - ((s2.g.v 3) + (s2.g.v 4)) / 40 * 40))) (s2.r (Int32.toNatClampNeg (((s2.g.v 3) + (s2.g.v 4)) - ((s2.g.v 3) + (s2.g.v 4)) / 40 * 40))))) (wr := wG cZ cS a b b2 c0 (rgP bb) (slP bb) s2.g) (va_runVN (As := [.ref (bb (Int32.toNatClampNeg (((s2.g.v 3) + (s2.g.v 4)) - ((s2.g.v 3) + (s2.g.v 4)) / 40 * 40)) 0)]) (rest := []) C (ckX6_copyFrom (b := b) (b2 := bb (Int32.toNatClampNeg (((s2.g.v 3) + (s2.g.v 4)) - ((s2.g.v 3) + (s2.g.v 4)) / 40 * 40))) hc _) ⟨va_cnB 1 hts gX3_takeBack_X6_copyFrom_n32 rfl rfl rfl (hN _ nwM_X3_32 rfl) (hts _ LX3_takeBack_I_X6) (by decide +kernel) ⟨Nat.le_of_ble_eq_true rfl, Nat.le_of_ble_eq_true rfl⟩, hts _ LX3_takeBack_N_X6_copyFrom, hts _ LX3_takeBack_E_X6_copyFrom⟩ (q_preV hK hP (ci := 6) (q0 := 5) rfl rfl rfl (q_pre hN hK hP hD [11, 12, 13, 14, 15, 16, 5, 6, 7, 8, 9, 10] rfl zqn_25)) rfl rfl hl.1 rfl (lv_room (Nat.le_of_ble_eq_true rfl)) dX3_takeBack_37 ⟨Nat.le_of_ble_eq_true rfl, Nat.le_of_ble_eq_true rfl⟩) hP hD hS hA [11, 12, 13, 14, 15, 16, 5, 6, 7, 8, 9, 10] [0, 1, 2, 3, 4] rfl rfl zqn_21 zqd_18 (fun w1 H locs hw hP hD hS => ?_)
    subst hw
    obtain ⟨s6, hs7, hB⟩ := letS_inv hB
    have hP : va_P (dC, dI) vwCl (((wG cZ cS a b b2 c0 (rgP bb) (slP bb) s2.g ++ wD cI b s5.d) ++ wD cI (bb (Int32.toNatClampNeg (((s2.g.v 3) + (s2.g.v 4)) - ((s2.g.v 3) + (s2.g.v 4)) / 40 * 40))) s5.e) ++ (pre ++ suf)) H := hP.part [0, 1, 2, 3, 4, 11, 12, 13, 14, 15, 16, 5, 6, 7, 8, 9, 10] rfl
    have hD : va_D A (((wG cZ cS a b b2 c0 (rgP bb) (slP bb) s2.g ++ wD cI b s5.d) ++ wD cI (bb (Int32.toNatClampNeg (((s2.g.v 3) + (s2.g.v 4)) - ((s2.g.v 3) + (s2.g.v 4)) / 40 * 40))) s5.e) ++ (pre ++ suf)) := hD.part [0, 1, 2, 3, 4, 11, 12, 13, 14, 15, 16, 5, 6, 7, 8, 9, 10] (by decide +kernel) rfl
    have hP : va_P (dC, dI) vwCl (wR cI cZ cS a b b2 c0 bb s6) H := by subst hs7; exact pool_inP (hp2 s5.e) hP
    have hD : va_D A (wR cI cZ cS a b b2 c0 bb s6) := by subst hs7; exact pool_inD (hp2 s5.e) hD
    refine lv_iconst (v := 1) hx hb dX3_takeBack_40 (by decide) ?_
    exact q_zret C hr hlocks (Or.inr rfl) hK hP hD hS (Nat.le_of_ble_eq_true rfl) (Nat.le_of_ble_eq_true rfl) dX3_takeBack_41 (by cases hB; exact ⟨rfl, rfl⟩)
  · have hB := if_p hB c1
    refine lv_iconst (v := 0) hx hb dX3_takeBack_7 (by decide) ?_
    exact q_zret C hr hlocks (Or.inl rfl) hK hP hD hS (Nat.le_of_ble_eq_true rfl) (Nat.le_of_ble_eq_true rfl) dX3_takeBack_8 (by cases hB; exact ⟨rfl, rfl⟩)
theorem ckX3_takeBack {l : Launch} {dC : Nat → ClassId} {dI : Nat → Nat → Nat} {cB cI cJ cZ cS : ClassId} {a b b2 c0 : Nat → Nat} {bb : Nat → Nat → Nat} {r : Int32} {s' : PS} {s : PS} (hB : kX3_takeBack s = some (r, s')) : CI l yX3_takeBack wsX3_takeBack ({ frames := 2, cells := 0, slots := 0, locals := 85 }) (dC, dI) (tysA cB cI cJ cZ cS) (wR cI cZ cS a b b2 c0 bb s) [.ref (c0 1), .ref (b 0)] (fun x u => x = r ∧ u = (wR cI cZ cS a b b2 c0 bb s')) :=
  CI_of (cc := cX3_takeBack) (maxL := 2) (ret := (some .boolean)) (by decide) rfl (Nat.le_of_ble_eq_true rfl) (bkX3_takeBack _ hB)
theorem LX3_keepIn_17 : Cond.fieldLink RX3 17 "GuessFerry$Past" "slots" "[LGuessFerry$Standing;" ∈ wsX3_keepIn := (List.mem_cons_of_mem _ (List.mem_append_left _ (List.mem_append_left _ (List.mem_append_left _ (List.mem_of_getElem? (i := 0) rfl)))))
theorem LX3_keepIn_20 : Cond.fieldLink RX3 20 "GuessFerry$Past" "isHeld" "[Z" ∈ wsX3_keepIn := (List.mem_cons_of_mem _ (List.mem_append_left _ (List.mem_append_left _ (List.mem_append_left _ (List.mem_of_getElem? (i := 1) rfl)))))
theorem LX3_keepIn_E_X6_copyFrom : Cond.selects RX6 yX6_copyFrom yX6_copyFrom ∈ wsX3_keepIn := (List.mem_cons_of_mem _ (List.mem_append_left _ (List.mem_append_left _ (List.mem_append_left _ (List.mem_of_getElem? (i := 4) rfl)))))
theorem LX3_keepIn_I_X6 : Cond.initialized RX6 ∈ wsX3_keepIn := (List.mem_cons_of_mem _ (List.mem_append_left _ (List.mem_append_left _ (List.mem_append_left _ (List.mem_of_getElem? (i := 3) rfl)))))
theorem LX3_keepIn_N_X6_copyFrom : Cond.instanceMethod yX6_copyFrom ∈ wsX3_keepIn := (List.mem_cons_of_mem _ (List.mem_append_left _ (List.mem_append_left _ (List.mem_append_left _ (List.mem_of_getElem? (i := 2) rfl)))))
theorem inX3_keepIn_X3 : ∀ w ∈ u_ws RX3 TX3 5, w ∈ wsX3_keepIn := fun w h => (List.mem_cons_of_mem _ (List.mem_append_left _ (List.mem_append_right _ h)))
set_option maxHeartbeats 4000000 in
set_option maxRecDepth 100000 in
theorem bkX3_keepIn {l : Launch} {dC : Nat → ClassId} {dI : Nat → Nat → Nat} {cB cI cJ cZ cS : ClassId} {a b b2 c0 : Nat → Nat} {bb : Nat → Nat → Nat} {as : List Value} {r : Int32} {s' : PS} (s : PS) (x1 : Int32) (hB : kX3_keepIn s x1 = some (r, s')) : BlkI l yX3_keepIn wsX3_keepIn ({ frames := 2, cells := 0, slots := 0, locals := 85 }) cX3_keepIn 3 (some .boolean) (dC, dI) (tysA cB cI cJ cZ cS) as 0 (wR cI cZ cS a b b2 c0 bb s) [(0, .ref (c0 1)), (1, .int x1), (2, .ref (b 0))] [] (fun x u => x = r ∧ u = (wR cI cZ cS a b b2 c0 bb s')) := by
  intro p e s0 m below meth c A E H locs ls hP hD hS hl
  obtain ⟨C, hr, hlocks, hA, hK, hN⟩ := id E
  obtain ⟨hx, hb, hml, hown, hts⟩ := id C
  unfold kX3_keepIn at hB
  refine lv_iload_n hx hb dX3_keepIn_0 rfl (lv_at hl 1 rfl) ?_
  refine lv_if_lt (tgt := 9) hx hb dX3_keepIn_1 (by decide) (fun c1 => ?_) (fun c1 => ?_)
  · have hB := if_p hB c1
    refine lv_iconst (v := 0) hx hb dX3_keepIn_9 (by decide) ?_
    exact q_zret C hr hlocks (Or.inl rfl) hK hP hD hS (Nat.le_of_ble_eq_true rfl) (Nat.le_of_ble_eq_true rfl) dX3_keepIn_10 (by cases hB; exact ⟨rfl, rfl⟩)
  · have hB := if_n hB c1
    refine lv_iload_n hx hb dX3_keepIn_4 rfl (lv_at hl 1 rfl) ?_
    refine lv_iconst (v := 3) hx hb dX3_keepIn_5 (by decide) ?_
    refine lv_icmp_lt (tgt := 11) hx hb dX3_keepIn_6 (by decide) (fun c2 => ?_) (fun c2 => ?_)
    · have hB := if_p hB c2
      refine lv_aload_n hx hb dX3_keepIn_11 rfl (lv_at hl 0 rfl) ?_
      refine q_get (v := .ref (c0 3)) C inX3_keepIn_X3 hK hP 1 rfl rfl 1 (by decide) rfl LX3_keepIn_17 rfl dX3_keepIn_12 ?_
      refine lv_iload_n hx hb dX3_keepIn_15 rfl (lv_at hl 1 rfl) ?_
      obtain ⟨g3, hB⟩ := guard_inv hB
      refine q_aldq (x := bb (40 + (Int32.toNatClampNeg x1)) 0) C hK hP 3 4 rfl rfl (vpb_in g3) dX3_keepIn_16 rfl ?_
      refine lv_aload_n hx hb dX3_keepIn_17 rfl (lv_at hl 2 rfl) ?_
      have hK_ : (40 + (Int32.toNatClampNeg x1)) < 43 := by have := vpb_lt g3; omega
      obtain ⟨pre, suf, hp1, hp2⟩ := pool_at (cI := cI) (bb := bb) (r := s.r) (n := 43) hK_
      have hP : va_P (dC, dI) vwCl (((wG cZ cS a b b2 c0 (rgP bb) (slP bb) s.g ++ wD cI b s.n) ++ wD cI (bb (40 + (Int32.toNatClampNeg x1))) (s.r (40 + (Int32.toNatClampNeg x1)))) ++ (pre ++ suf)) H := pool_outP hp1 hP
      have hD : va_D A (((wG cZ cS a b b2 c0 (rgP bb) (slP bb) s.g ++ wD cI b s.n) ++ wD cI (bb (40 + (Int32.toNatClampNeg x1))) (s.r (40 + (Int32.toNatClampNeg x1)))) ++ (pre ++ suf)) := pool_outD hp1 hD
      obtain ⟨s4, hc, hB⟩ := bindP_inv hB
      refine q_govT (X := ((wG cZ cS a b b2 c0 (rgP bb) (slP bb) s.g ++ wD cI b s.n) ++ wD cI (bb (40 + (Int32.toNatClampNeg x1))) (s.r (40 + (Int32.toNatClampNeg x1))))) (wr := wG cZ cS a b b2 c0 (rgP bb) (slP bb) s.g) (va_runVN (As := [.ref (b 0)]) (rest := []) C (ckX6_copyFrom (b := bb (40 + (Int32.toNatClampNeg x1))) (b2 := b) hc _) ⟨va_cnB 1 hts gX3_keepIn_X6_copyFrom_n32 rfl rfl rfl (hN _ nwM_X3_32 rfl) (hts _ LX3_keepIn_I_X6) (by decide +kernel) ⟨Nat.le_of_ble_eq_true rfl, Nat.le_of_ble_eq_true rfl⟩, hts _ LX3_keepIn_N_X6_copyFrom, hts _ LX3_keepIn_E_X6_copyFrom⟩ (q_preV hK hP (ci := 6) (q0 := 11) rfl rfl rfl (q_pre hN hK hP hD [5, 6, 7, 8, 9, 10, 11, 12, 13, 14, 15, 16] rfl zqn_32)) rfl rfl hl.1 rfl (lv_room (Nat.le_of_ble_eq_true rfl)) dX3_keepIn_18 ⟨Nat.le_of_ble_eq_true rfl, Nat.le_of_ble_eq_true rfl⟩) hP hD hS hA [5, 6, 7, 8, 9, 10, 11, 12, 13, 14, 15, 16] [0, 1, 2, 3, 4] rfl rfl zqn_21 zqd_17 (fun w1 H locs hw hP hD hS => ?_)
      subst hw
      obtain ⟨s5, hs6, hB⟩ := letS_inv hB
      have hP : va_P (dC, dI) vwCl (((wG cZ cS a b b2 c0 (rgP bb) (slP bb) s.g ++ wD cI b s4.e) ++ wD cI (bb (40 + (Int32.toNatClampNeg x1))) s4.d) ++ (pre ++ suf)) H := hP.part [0, 1, 2, 3, 4, 5, 6, 7, 8, 9, 10, 11, 12, 13, 14, 15, 16] rfl
      have hD : va_D A (((wG cZ cS a b b2 c0 (rgP bb) (slP bb) s.g ++ wD cI b s4.e) ++ wD cI (bb (40 + (Int32.toNatClampNeg x1))) s4.d) ++ (pre ++ suf)) := hD.part [0, 1, 2, 3, 4, 5, 6, 7, 8, 9, 10, 11, 12, 13, 14, 15, 16] (by decide +kernel) rfl
      have hP : va_P (dC, dI) vwCl (wR cI cZ cS a b b2 c0 bb s5) H := by subst hs6; exact pool_inP (hp2 s4.d) hP
      have hD : va_D A (wR cI cZ cS a b b2 c0 bb s5) := by subst hs6; exact pool_inD (hp2 s4.d) hD
      refine lv_aload_n hx hb dX3_keepIn_21 rfl (lv_at hl 0 rfl) ?_
      refine q_get (v := .ref (c0 4)) C inX3_keepIn_X3 hK hP 1 rfl rfl 2 (by decide) rfl LX3_keepIn_20 rfl dX3_keepIn_22 ?_
      refine lv_iload_n hx hb dX3_keepIn_25 rfl (lv_at hl 1 rfl) ?_
      refine lv_iconst (v := 1) hx hb dX3_keepIn_26 (by decide) ?_
      obtain ⟨g7, hB⟩ := guard_inv hB
      obtain ⟨s8, hs9, hB⟩ := letS_inv hB
      refine q_zast (f2 := (upd (s5.g.f 4) (Int32.toNatClampNeg x1) (vp_nar .boolean 1))) (w2 := (wR cI cZ cS a b b2 c0 bb s8)) C hK hP hD hS 4 3 rfl rfl (vpb_in g7) dX3_keepIn_27 rfl (by subst hs9; rfl) (fun H locs hP hD hS => ?_)
      refine lv_iconst (v := 1) hx hb dX3_keepIn_28 (by decide) ?_
      exact q_zret C hr hlocks (Or.inr rfl) hK hP hD hS (Nat.le_of_ble_eq_true rfl) (Nat.le_of_ble_eq_true rfl) dX3_keepIn_29 (by cases hB; exact ⟨rfl, rfl⟩)
    · have hB := if_n hB c2
      refine lv_iconst (v := 0) hx hb dX3_keepIn_9 (by decide) ?_
      exact q_zret C hr hlocks (Or.inl rfl) hK hP hD hS (Nat.le_of_ble_eq_true rfl) (Nat.le_of_ble_eq_true rfl) dX3_keepIn_10 (by cases hB; exact ⟨rfl, rfl⟩)
theorem ckX3_keepIn {l : Launch} {dC : Nat → ClassId} {dI : Nat → Nat → Nat} {cB cI cJ cZ cS : ClassId} {a b b2 c0 : Nat → Nat} {bb : Nat → Nat → Nat} {r : Int32} {s' : PS} {s : PS} {x1 : Int32} (hB : kX3_keepIn s x1 = some (r, s')) : CI l yX3_keepIn wsX3_keepIn ({ frames := 2, cells := 0, slots := 0, locals := 85 }) (dC, dI) (tysA cB cI cJ cZ cS) (wR cI cZ cS a b b2 c0 bb s) [.ref (c0 1), .int x1, .ref (b 0)] (fun x u => x = r ∧ u = (wR cI cZ cS a b b2 c0 bb s')) :=
  CI_of (cc := cX3_keepIn) (maxL := 3) (ret := (some .boolean)) (by decide) rfl (Nat.le_of_ble_eq_true rfl) (bkX3_keepIn _ _ hB)
theorem LX3_goOnFrom_17 : Cond.fieldLink RX3 17 "GuessFerry$Past" "slots" "[LGuessFerry$Standing;" ∈ wsX3_goOnFrom := (List.mem_cons_of_mem _ (List.mem_append_left _ (List.mem_append_left _ (List.mem_append_left _ (List.mem_of_getElem? (i := 1) rfl)))))
theorem LX3_goOnFrom_20 : Cond.fieldLink RX3 20 "GuessFerry$Past" "isHeld" "[Z" ∈ wsX3_goOnFrom := (List.mem_cons_of_mem _ (List.mem_append_left _ (List.mem_append_left _ (List.mem_append_left _ (List.mem_of_getElem? (i := 0) rfl)))))
theorem LX3_goOnFrom_25 : Cond.fieldLink RX3 25 "GuessFerry$Past" "size" "I" ∈ wsX3_goOnFrom := (List.mem_cons_of_mem _ (List.mem_append_left _ (List.mem_append_left _ (List.mem_append_left _ (List.mem_of_getElem? (i := 2) rfl)))))
theorem LX3_goOnFrom_E_X6_copyFrom : Cond.selects RX6 yX6_copyFrom yX6_copyFrom ∈ wsX3_goOnFrom := (List.mem_cons_of_mem _ (List.mem_append_left _ (List.mem_append_left _ (List.mem_append_left _ (List.mem_of_getElem? (i := 5) rfl)))))
theorem LX3_goOnFrom_I_X6 : Cond.initialized RX6 ∈ wsX3_goOnFrom := (List.mem_cons_of_mem _ (List.mem_append_left _ (List.mem_append_left _ (List.mem_append_left _ (List.mem_of_getElem? (i := 4) rfl)))))
theorem LX3_goOnFrom_N_X6_copyFrom : Cond.instanceMethod yX6_copyFrom ∈ wsX3_goOnFrom := (List.mem_cons_of_mem _ (List.mem_append_left _ (List.mem_append_left _ (List.mem_append_left _ (List.mem_of_getElem? (i := 3) rfl)))))
theorem inX3_goOnFrom_X3 : ∀ w ∈ u_ws RX3 TX3 5, w ∈ wsX3_goOnFrom := fun w h => (List.mem_cons_of_mem _ (List.mem_append_left _ (List.mem_append_right _ h)))
set_option maxHeartbeats 4000000 in
set_option maxRecDepth 100000 in
theorem bkX3_goOnFrom {l : Launch} {dC : Nat → ClassId} {dI : Nat → Nat → Nat} {cB cI cJ cZ cS : ClassId} {a b b2 c0 : Nat → Nat} {bb : Nat → Nat → Nat} {as : List Value} {r : Int32} {s' : PS} (s : PS) (x1 : Int32) (hB : kX3_goOnFrom s x1 = some (r, s')) : BlkI l yX3_goOnFrom wsX3_goOnFrom ({ frames := 2, cells := 0, slots := 0, locals := 85 }) cX3_goOnFrom 3 (some .boolean) (dC, dI) (tysA cB cI cJ cZ cS) as 0 (wR cI cZ cS a b b2 c0 bb s) [(0, .ref (c0 1)), (1, .int x1), (2, .ref (b 0))] [] (fun x u => x = r ∧ u = (wR cI cZ cS a b b2 c0 bb s')) := by
  intro p e s0 m below meth c A E H locs ls hP hD hS hl
  obtain ⟨C, hr, hlocks, hA, hK, hN⟩ := id E
  obtain ⟨hx, hb, hml, hown, hts⟩ := id C
  unfold kX3_goOnFrom at hB
  refine lv_iload_n hx hb dX3_goOnFrom_0 rfl (lv_at hl 1 rfl) ?_
  refine lv_if_lt (tgt := 18) hx hb dX3_goOnFrom_1 (by decide) (fun c1 => ?_) (fun c1 => ?_)
  · have hB := if_p hB c1
    refine lv_iconst (v := 0) hx hb dX3_goOnFrom_18 (by decide) ?_
    exact q_zret C hr hlocks (Or.inl rfl) hK hP hD hS (Nat.le_of_ble_eq_true rfl) (Nat.le_of_ble_eq_true rfl) dX3_goOnFrom_19 (by cases hB; exact ⟨rfl, rfl⟩)
  · have hB := if_n hB c1
    refine lv_iload_n hx hb dX3_goOnFrom_4 rfl (lv_at hl 1 rfl) ?_
    refine lv_iconst (v := 3) hx hb dX3_goOnFrom_5 (by decide) ?_
    refine lv_icmp_ge (tgt := 18) hx hb dX3_goOnFrom_6 (by decide) (fun c2 => ?_) (fun c2 => ?_)
    · have hB := if_p hB c2
      refine lv_iconst (v := 0) hx hb dX3_goOnFrom_18 (by decide) ?_
      exact q_zret C hr hlocks (Or.inl rfl) hK hP hD hS (Nat.le_of_ble_eq_true rfl) (Nat.le_of_ble_eq_true rfl) dX3_goOnFrom_19 (by cases hB; exact ⟨rfl, rfl⟩)
    · have hB := if_n hB c2
      refine lv_aload_n hx hb dX3_goOnFrom_9 rfl (lv_at hl 0 rfl) ?_
      refine q_get (v := .ref (c0 4)) C inX3_goOnFrom_X3 hK hP 1 rfl rfl 2 (by decide) rfl LX3_goOnFrom_20 rfl dX3_goOnFrom_10 ?_
      refine lv_iload_n hx hb dX3_goOnFrom_13 rfl (lv_at hl 1 rfl) ?_
      obtain ⟨g3, hB⟩ := guard_inv hB
      refine q_zald (x := ((s.g.f 4) (Int32.toNatClampNeg x1))) C hK hP 4 3 rfl rfl (vpb_in g3) dX3_goOnFrom_14 rfl ?_
      refine lv_if_ne (tgt := 20) hx hb dX3_goOnFrom_15 (by decide) (fun c4 => ?_) (fun c4 => ?_)
      · have hB := if_n hB c4
        refine lv_aload_n hx hb dX3_goOnFrom_20 rfl (lv_at hl 2 rfl) ?_
        refine lv_aload_n hx hb dX3_goOnFrom_21 rfl (lv_at hl 0 rfl) ?_
        refine q_get (v := .ref (c0 3)) C inX3_goOnFrom_X3 hK hP 1 rfl rfl 1 (by decide) rfl LX3_goOnFrom_17 rfl dX3_goOnFrom_22 ?_
        refine lv_iload_n hx hb dX3_goOnFrom_25 rfl (lv_at hl 1 rfl) ?_
        obtain ⟨g5, hB⟩ := guard_inv hB
        refine q_aldq (x := bb (40 + (Int32.toNatClampNeg x1)) 0) C hK hP 3 4 rfl rfl (vpb_in g5) dX3_goOnFrom_26 rfl ?_
        have hK_ : (40 + (Int32.toNatClampNeg x1)) < 43 := by have := vpb_lt g5; omega
        obtain ⟨pre, suf, hp1, hp2⟩ := pool_at (cI := cI) (bb := bb) (r := s.r) (n := 43) hK_
        have hP : va_P (dC, dI) vwCl (((wG cZ cS a b b2 c0 (rgP bb) (slP bb) s.g ++ wD cI b s.n) ++ wD cI (bb (40 + (Int32.toNatClampNeg x1))) (s.r (40 + (Int32.toNatClampNeg x1)))) ++ (pre ++ suf)) H := pool_outP hp1 hP
        have hD : va_D A (((wG cZ cS a b b2 c0 (rgP bb) (slP bb) s.g ++ wD cI b s.n) ++ wD cI (bb (40 + (Int32.toNatClampNeg x1))) (s.r (40 + (Int32.toNatClampNeg x1)))) ++ (pre ++ suf)) := pool_outD hp1 hD
        obtain ⟨s6, hc, hB⟩ := bindP_inv hB
        refine q_govT (X := ((wG cZ cS a b b2 c0 (rgP bb) (slP bb) s.g ++ wD cI b s.n) ++ wD cI (bb (40 + (Int32.toNatClampNeg x1))) (s.r (40 + (Int32.toNatClampNeg x1))))) (wr := wG cZ cS a b b2 c0 (rgP bb) (slP bb) s.g) (va_runVN (As := [.ref (bb (40 + (Int32.toNatClampNeg x1)) 0)]) (rest := []) C (ckX6_copyFrom (b := b) (b2 := bb (40 + (Int32.toNatClampNeg x1))) hc _) ⟨va_cnB 1 hts gX3_goOnFrom_X6_copyFrom_n32 rfl rfl rfl (hN _ nwM_X3_32 rfl) (hts _ LX3_goOnFrom_I_X6) (by decide +kernel) ⟨Nat.le_of_ble_eq_true rfl, Nat.le_of_ble_eq_true rfl⟩, hts _ LX3_goOnFrom_N_X6_copyFrom, hts _ LX3_goOnFrom_E_X6_copyFrom⟩ (q_preV hK hP (ci := 6) (q0 := 5) rfl rfl rfl (q_pre hN hK hP hD [11, 12, 13, 14, 15, 16, 5, 6, 7, 8, 9, 10] rfl zqn_25)) rfl rfl hl.1 rfl (lv_room (Nat.le_of_ble_eq_true rfl)) dX3_goOnFrom_27 ⟨Nat.le_of_ble_eq_true rfl, Nat.le_of_ble_eq_true rfl⟩) hP hD hS hA [11, 12, 13, 14, 15, 16, 5, 6, 7, 8, 9, 10] [0, 1, 2, 3, 4] rfl rfl zqn_21 zqd_18 (fun w1 H locs hw hP hD hS => ?_)
        subst hw
        obtain ⟨s7, hs8, hB⟩ := letS_inv hB
        have hP : va_P (dC, dI) vwCl (((wG cZ cS a b b2 c0 (rgP bb) (slP bb) s.g ++ wD cI b s6.d) ++ wD cI (bb (40 + (Int32.toNatClampNeg x1))) s6.e) ++ (pre ++ suf)) H := hP.part [0, 1, 2, 3, 4, 11, 12, 13, 14, 15, 16, 5, 6, 7, 8, 9, 10] rfl
        have hD : va_D A (((wG cZ cS a b b2 c0 (rgP bb) (slP bb) s.g ++ wD cI b s6.d) ++ wD cI (bb (40 + (Int32.toNatClampNeg x1))) s6.e) ++ (pre ++ suf)) := hD.part [0, 1, 2, 3, 4, 11, 12, 13, 14, 15, 16, 5, 6, 7, 8, 9, 10] (by decide +kernel) rfl
        have hP : va_P (dC, dI) vwCl (wR cI cZ cS a b b2 c0 bb s7) H := by subst hs8; exact pool_inP (hp2 s6.e) hP
        have hD : va_D A (wR cI cZ cS a b b2 c0 bb s7) := by subst hs8; exact pool_inD (hp2 s6.e) hD
        refine lv_aload_n hx hb dX3_goOnFrom_30 rfl (lv_at hl 0 rfl) ?_
        refine lv_iconst (v := 0) hx hb dX3_goOnFrom_31 (by decide) ?_
        obtain ⟨s9, hs10, hB⟩ := letS_inv hB
        refine q_put (ty := .int) (w2 := (wR cI cZ cS a b b2 c0 bb s9)) tyX3 tyX3_ok nmX3 C inX3_goOnFrom_X3 hK hP hD hS 1 rfl rfl 4 (by decide) rfl LX3_goOnFrom_25 rfl (by decide +kernel) (rfl) rfl (Nat.le_of_ble_eq_true rfl) dX3_goOnFrom_32 (by subst hs10; rfl) (fun H locs hP hD hS => ?_)
        refine lv_iconst (v := 1) hx hb dX3_goOnFrom_35 (by decide) ?_
        exact q_zret C hr hlocks (Or.inr rfl) hK hP hD hS (Nat.le_of_ble_eq_true rfl) (Nat.le_of_ble_eq_true rfl) dX3_goOnFrom_36 (by cases hB; exact ⟨rfl, rfl⟩)
      · have hB := if_p hB c4
        refine lv_iconst (v := 0) hx hb dX3_goOnFrom_18 (by decide) ?_
        exact q_zret C hr hlocks (Or.inl rfl) hK hP hD hS (Nat.le_of_ble_eq_true rfl) (Nat.le_of_ble_eq_true rfl) dX3_goOnFrom_19 (by cases hB; exact ⟨rfl, rfl⟩)
theorem ckX3_goOnFrom {l : Launch} {dC : Nat → ClassId} {dI : Nat → Nat → Nat} {cB cI cJ cZ cS : ClassId} {a b b2 c0 : Nat → Nat} {bb : Nat → Nat → Nat} {r : Int32} {s' : PS} {s : PS} {x1 : Int32} (hB : kX3_goOnFrom s x1 = some (r, s')) : CI l yX3_goOnFrom wsX3_goOnFrom ({ frames := 2, cells := 0, slots := 0, locals := 85 }) (dC, dI) (tysA cB cI cJ cZ cS) (wR cI cZ cS a b b2 c0 bb s) [.ref (c0 1), .int x1, .ref (b 0)] (fun x u => x = r ∧ u = (wR cI cZ cS a b b2 c0 bb s')) :=
  CI_of (cc := cX3_goOnFrom) (maxL := 3) (ret := (some .boolean)) (by decide) rfl (Nat.le_of_ble_eq_true rfl) (bkX3_goOnFrom _ _ hB)
theorem LX4_readUnit_12 : Cond.fieldLink RX4 12 "GuessFerry$Reader" "draft" "LGuessFerry$Sound;" ∈ wsX4_readUnit := (List.mem_cons_of_mem _ (List.mem_append_left _ (List.mem_append_left _ (List.mem_append_left _ (List.mem_append_left _ (List.mem_append_left _ (List.mem_of_getElem? (i := 2) rfl)))))))
theorem LX4_readUnit_31 : Cond.fieldLink RX4 31 "GuessFerry$Reader" "tokens" "LGuessFerry$Tokens;" ∈ wsX4_readUnit := (List.mem_cons_of_mem _ (List.mem_append_left _ (List.mem_append_left _ (List.mem_append_left _ (List.mem_append_left _ (List.mem_append_left _ (List.mem_of_getElem? (i := 0) rfl)))))))
theorem LX4_readUnit_38 : Cond.fieldLink RX4 38 "GuessFerry$Reader" "at" "I" ∈ wsX4_readUnit := (List.mem_cons_of_mem _ (List.mem_append_left _ (List.mem_append_left _ (List.mem_append_left _ (List.mem_append_left _ (List.mem_append_left _ (List.mem_of_getElem? (i := 1) rfl)))))))
theorem LX4_readUnit_E_X1_putNumber : Cond.selects RX1 yX1_putNumber yX1_putNumber ∈ wsX4_readUnit := (List.mem_cons_of_mem _ (List.mem_append_left _ (List.mem_append_left _ (List.mem_append_left _ (List.mem_append_left _ (List.mem_append_left _ (List.mem_of_getElem? (i := 23) rfl)))))))
theorem LX4_readUnit_E_X1_putVar : Cond.selects RX1 yX1_putVar yX1_putVar ∈ wsX4_readUnit := (List.mem_cons_of_mem _ (List.mem_append_left _ (List.mem_append_left _ (List.mem_append_left _ (List.mem_append_left _ (List.mem_append_left _ (List.mem_of_getElem? (i := 25) rfl)))))))
theorem LX4_readUnit_I_X1 : Cond.initialized RX1 ∈ wsX4_readUnit := (List.mem_cons_of_mem _ (List.mem_append_left _ (List.mem_append_left _ (List.mem_append_left _ (List.mem_append_left _ (List.mem_append_left _ (List.mem_of_getElem? (i := 17) rfl)))))))
theorem LX4_readUnit_N_X1_putNumber : Cond.instanceMethod yX1_putNumber ∈ wsX4_readUnit := (List.mem_cons_of_mem _ (List.mem_append_left _ (List.mem_append_left _ (List.mem_append_left _ (List.mem_append_left _ (List.mem_append_left _ (List.mem_of_getElem? (i := 22) rfl)))))))
theorem LX4_readUnit_N_X1_putVar : Cond.instanceMethod yX1_putVar ∈ wsX4_readUnit := (List.mem_cons_of_mem _ (List.mem_append_left _ (List.mem_append_left _ (List.mem_append_left _ (List.mem_append_left _ (List.mem_append_left _ (List.mem_of_getElem? (i := 24) rfl)))))))
theorem inX4_readUnit_X4 : ∀ w ∈ u_ws RX4 TX4 8, w ∈ wsX4_readUnit := fun w h => (List.mem_cons_of_mem _ (List.mem_append_left _ (List.mem_append_left _ (List.mem_append_left _ (List.mem_append_right _ h)))))
theorem inX4_readUnit_X5 : ∀ w ∈ u_ws RX5 TX5 10, w ∈ wsX4_readUnit := fun w h => (List.mem_cons_of_mem _ (List.mem_append_left _ (List.mem_append_right _ h)))
theorem inX4_readUnit_X9 : ∀ w ∈ u_ws RX9 TX9 7, w ∈ wsX4_readUnit := fun w h => (List.mem_cons_of_mem _ (List.mem_append_left _ (List.mem_append_left _ (List.mem_append_right _ h))))
set_option maxHeartbeats 4000000 in
set_option maxRecDepth 100000 in
theorem bkX4_readUnit_114 {l : Launch} {dC : Nat → ClassId} {dI : Nat → Nat → Nat} {cB cI cJ cZ cS : ClassId} {a : Nat → Nat} {R : KS → Int32 → Option KS} {fr lo : Nat} (hR : ∀ {s : KS} {x1 : Int32} {s' : KS}, R s x1 = some s' → CV l yX4_readSum wsX4_readSum ({ frames := fr, cells := 0, slots := 0, locals := lo }) (dC, dI) (tysA cB cI cJ cZ cS) (wK cB cI cJ cZ cS a s) [.ref (a 28), .int x1] (fun u => u = wK cB cI cJ cZ cS a s')) (hfr : 2 ≤ fr) (hlo : 42 ≤ lo) {as : List Value} {s' : KS} (s : KS) (x1 : Int32) (hB : kX4_readUnit_114 R s x1 = some s') : BlkV l yX4_readUnit wsX4_readUnit ({ frames := fr + 1, cells := 0, slots := 0, locals := lo + 23 }) cX4_readUnit 4 none (dC, dI) (tysA cB cI cJ cZ cS) as 114 (wK cB cI cJ cZ cS a s) [(0, .ref (a 28)), (1, .int x1)] [] (fun u => u = (wK cB cI cJ cZ cS a s')) := by
  intro p e s0 m below meth c A E H locs ls hP hD hS hl
  obtain ⟨C, hr, hlocks, hA, hK, hN⟩ := id E
  obtain ⟨hx, hb, hml, hown, hts⟩ := id C
  unfold kX4_readUnit_114 at hB
  refine lv_aload_n hx hb dX4_readUnit_114 rfl (lv_at hl 0 rfl) ?_
  refine lv_bipush (v := 40) hx hb dX4_readUnit_115 (by decide) ?_
  obtain ⟨q_, s1, hc, hB⟩ := bindI_inv hB
  refine q_goiF (va_runV (As := [.int 40]) (rest := []) C (ckX4_isAt hc _) (cwV 1 hts gX4_readUnit_X4_isAt rfl rfl rfl (by decide +kernel) ⟨by dsimp only; omega, by dsimp only; omega⟩) (q_preV hK hP (ci := 4) (q0 := 28) rfl rfl rfl (q_preF hN hK hP hD)) rfl rfl hl.1 rfl (lv_room (Nat.le_of_ble_eq_true rfl)) dX4_readUnit_117 ⟨Nat.le_of_ble_eq_true rfl, Nat.le_of_ble_eq_true rfl⟩) hD hS hA (fun r2 w1 H locs hw hP hD hS => ?_)
  obtain ⟨hq_, hw⟩ := hw; subst hw; subst hq_
  refine lv_if_eq (tgt := 145) hx hb dX4_readUnit_120 (by decide) (fun c3 => ?_) (fun c3 => ?_)
  · have hB := if_p hB c3
    refine lv_aload_n hx hb dX4_readUnit_145 rfl (lv_at hl 0 rfl) ?_
    refine lv_iconst (v := 1) hx hb dX4_readUnit_146 (by decide) ?_
    obtain ⟨s4, hc, hB⟩ := bindP_inv hB
    refine q_govF (va_runV (As := [.int 1]) (rest := []) C (ckX4_fail hc _) (cwV 1 hts gX4_readUnit_X4_fail rfl rfl rfl (by decide +kernel) ⟨by dsimp only; omega, by dsimp only; omega⟩) (q_preV hK hP (ci := 4) (q0 := 28) rfl rfl rfl (q_preF hN hK hP hD)) rfl rfl hl.1 rfl (lv_room (Nat.le_of_ble_eq_true rfl)) dX4_readUnit_147 ⟨Nat.le_of_ble_eq_true rfl, Nat.le_of_ble_eq_true rfl⟩) hD hS hA (fun w1 H locs hw hP hD hS => ?_)
    subst hw
    exact q_vret C hr hlocks hK hP hD hS (Nat.le_of_ble_eq_true rfl) (Nat.le_of_ble_eq_true rfl) dX4_readUnit_150 (by cases hB; rfl)
  · have hB := if_n hB c3
    refine lv_aload_n hx hb dX4_readUnit_123 rfl (lv_at hl 0 rfl) ?_
    refine lv_bipush (v := 40) hx hb dX4_readUnit_124 (by decide) ?_
    obtain ⟨s5, hc, hB⟩ := bindP_inv hB
    refine q_govF (va_runV (As := [.int 40]) (rest := []) C (ckX4_take hc _) (cwV 1 hts gX4_readUnit_X4_take rfl rfl rfl (by decide +kernel) ⟨by dsimp only; omega, by dsimp only; omega⟩) (q_preV hK hP (ci := 4) (q0 := 28) rfl rfl rfl (q_preF hN hK hP hD)) rfl rfl hl.1 rfl (lv_room (Nat.le_of_ble_eq_true rfl)) dX4_readUnit_126 ⟨Nat.le_of_ble_eq_true rfl, Nat.le_of_ble_eq_true rfl⟩) hD hS hA (fun w1 H locs hw hP hD hS => ?_)
    subst hw
    refine lv_aload_n hx hb dX4_readUnit_129 rfl (lv_at hl 0 rfl) ?_
    refine lv_iload_n hx hb dX4_readUnit_130 rfl (lv_at hl 1 rfl) ?_
    refine lv_iconst (v := 1) hx hb dX4_readUnit_131 (by decide) ?_
    refine lv_iadd hx hb dX4_readUnit_132 ?_
    obtain ⟨s6, hc, hB⟩ := bindP_inv hB
    refine q_govF (va_runV (As := [.int (x1 + 1)]) (rest := []) C (hR hc _) (cwV 1 hts gX4_readUnit_X4_readSum rfl rfl rfl (by decide +kernel) ⟨by dsimp only; omega, by dsimp only; omega⟩) (q_preV hK hP (ci := 4) (q0 := 28) rfl rfl rfl (q_preF hN hK hP hD)) rfl rfl hl.1 rfl (lv_room (Nat.le_of_ble_eq_true rfl)) dX4_readUnit_133 ⟨Nat.le_of_ble_eq_true rfl, Nat.le_of_ble_eq_true rfl⟩) hD hS hA (fun w1 H locs hw hP hD hS => ?_)
    subst hw
    refine lv_aload_n hx hb dX4_readUnit_136 rfl (lv_at hl 0 rfl) ?_
    refine lv_bipush (v := 41) hx hb dX4_readUnit_137 (by decide) ?_
    obtain ⟨s7, hc, hB⟩ := bindP_inv hB
    refine q_govF (va_runV (As := [.int 41]) (rest := []) C (ckX4_take hc _) (cwV 1 hts gX4_readUnit_X4_take rfl rfl rfl (by decide +kernel) ⟨by dsimp only; omega, by dsimp only; omega⟩) (q_preV hK hP (ci := 4) (q0 := 28) rfl rfl rfl (q_preF hN hK hP hD)) rfl rfl hl.1 rfl (lv_room (Nat.le_of_ble_eq_true rfl)) dX4_readUnit_139 ⟨Nat.le_of_ble_eq_true rfl, Nat.le_of_ble_eq_true rfl⟩) hD hS hA (fun w1 H locs hw hP hD hS => ?_)
    subst hw
    refine lv_goto (tgt := 150) hx hb dX4_readUnit_142 (by decide) ?_
    exact q_vret C hr hlocks hK hP hD hS (Nat.le_of_ble_eq_true rfl) (Nat.le_of_ble_eq_true rfl) dX4_readUnit_150 (by cases hB; rfl)
set_option maxHeartbeats 4000000 in
set_option maxRecDepth 100000 in
theorem bkX4_readUnit_91 {l : Launch} {dC : Nat → ClassId} {dI : Nat → Nat → Nat} {cB cI cJ cZ cS : ClassId} {a : Nat → Nat} {R : KS → Int32 → Option KS} {fr lo : Nat} (hR : ∀ {s : KS} {x1 : Int32} {s' : KS}, R s x1 = some s' → CV l yX4_readSum wsX4_readSum ({ frames := fr, cells := 0, slots := 0, locals := lo }) (dC, dI) (tysA cB cI cJ cZ cS) (wK cB cI cJ cZ cS a s) [.ref (a 28), .int x1] (fun u => u = wK cB cI cJ cZ cS a s')) (hfr : 2 ≤ fr) (hlo : 42 ≤ lo) {as : List Value} {s' : KS} (s : KS) (x1 : Int32) (hB : kX4_readUnit_91 R s x1 = some s') : BlkV l yX4_readUnit wsX4_readUnit ({ frames := fr + 1, cells := 0, slots := 0, locals := lo + 23 }) cX4_readUnit 4 none (dC, dI) (tysA cB cI cJ cZ cS) as 91 (wK cB cI cJ cZ cS a s) [(0, .ref (a 28)), (1, .int x1)] [] (fun u => u = (wK cB cI cJ cZ cS a s')) := by
  intro p e s0 m below meth c A E H locs ls hP hD hS hl
  obtain ⟨C, hr, hlocks, hA, hK, hN⟩ := id E
  obtain ⟨hx, hb, hml, hown, hts⟩ := id C
  unfold kX4_readUnit_91 at hB
  refine lv_aload_n hx hb dX4_readUnit_91 rfl (lv_at hl 0 rfl) ?_
  refine lv_bipush (v := 40) hx hb dX4_readUnit_92 (by decide) ?_
  obtain ⟨q_, s1, hc, hB⟩ := bindI_inv hB
  refine q_goiF (va_runV (As := [.int 40]) (rest := []) C (ckX4_isAt hc _) (cwV 1 hts gX4_readUnit_X4_isAt rfl rfl rfl (by decide +kernel) ⟨by dsimp only; omega, by dsimp only; omega⟩) (q_preV hK hP (ci := 4) (q0 := 28) rfl rfl rfl (q_preF hN hK hP hD)) rfl rfl hl.1 rfl (lv_room (Nat.le_of_ble_eq_true rfl)) dX4_readUnit_94 ⟨Nat.le_of_ble_eq_true rfl, Nat.le_of_ble_eq_true rfl⟩) hD hS hA (fun r2 w1 H locs hw hP hD hS => ?_)
  obtain ⟨hq_, hw⟩ := hw; subst hw; subst hq_
  refine lv_if_eq (tgt := 114) hx hb dX4_readUnit_97 (by decide) (fun c3 => ?_) (fun c3 => ?_)
  · have hB := if_p hB c3
    exact bkX4_readUnit_114 hR hfr hlo _ _ hB p e s0 m below meth c A E H locs ls hP hD hS (lv_sub hl [0, 1] rfl)
  · have hB := if_n hB c3
    refine lv_iload_n hx hb dX4_readUnit_100 rfl (lv_at hl 1 rfl) ?_
    refine lv_bipush (v := 6) hx hb dX4_readUnit_101 (by decide) ?_
    refine lv_icmp_lt (tgt := 114) hx hb dX4_readUnit_103 (by decide) (fun c4 => ?_) (fun c4 => ?_)
    · have hB := if_p hB c4
      exact bkX4_readUnit_114 hR hfr hlo _ _ hB p e s0 m below meth c A E H locs ls hP hD hS (lv_sub hl [0, 1] rfl)
    · have hB := if_n hB c4
      refine lv_aload_n hx hb dX4_readUnit_106 rfl (lv_at hl 0 rfl) ?_
      refine lv_iconst (v := 2) hx hb dX4_readUnit_107 (by decide) ?_
      obtain ⟨s5, hc, hB⟩ := bindP_inv hB
      refine q_govF (va_runV (As := [.int 2]) (rest := []) C (ckX4_fail hc _) (cwV 1 hts gX4_readUnit_X4_fail rfl rfl rfl (by decide +kernel) ⟨by dsimp only; omega, by dsimp only; omega⟩) (q_preV hK hP (ci := 4) (q0 := 28) rfl rfl rfl (q_preF hN hK hP hD)) rfl rfl hl.1 rfl (lv_room (Nat.le_of_ble_eq_true rfl)) dX4_readUnit_108 ⟨Nat.le_of_ble_eq_true rfl, Nat.le_of_ble_eq_true rfl⟩) hD hS hA (fun w1 H locs hw hP hD hS => ?_)
      subst hw
      refine lv_goto (tgt := 150) hx hb dX4_readUnit_111 (by decide) ?_
      exact q_vret C hr hlocks hK hP hD hS (Nat.le_of_ble_eq_true rfl) (Nat.le_of_ble_eq_true rfl) dX4_readUnit_150 (by cases hB; rfl)
set_option maxHeartbeats 4000000 in
set_option maxRecDepth 100000 in
theorem bkX4_readUnit {l : Launch} {dC : Nat → ClassId} {dI : Nat → Nat → Nat} {cB cI cJ cZ cS : ClassId} {a : Nat → Nat} {R : KS → Int32 → Option KS} {fr lo : Nat} (hR : ∀ {s : KS} {x1 : Int32} {s' : KS}, R s x1 = some s' → CV l yX4_readSum wsX4_readSum ({ frames := fr, cells := 0, slots := 0, locals := lo }) (dC, dI) (tysA cB cI cJ cZ cS) (wK cB cI cJ cZ cS a s) [.ref (a 28), .int x1] (fun u => u = wK cB cI cJ cZ cS a s')) (hfr : 2 ≤ fr) (hlo : 42 ≤ lo) {as : List Value} {s' : KS} (s : KS) (x1 : Int32) (hB : kX4_readUnit R s x1 = some s') : BlkV l yX4_readUnit wsX4_readUnit ({ frames := fr + 1, cells := 0, slots := 0, locals := lo + 23 }) cX4_readUnit 4 none (dC, dI) (tysA cB cI cJ cZ cS) as 0 (wK cB cI cJ cZ cS a s) [(0, .ref (a 28)), (1, .int x1)] [] (fun u => u = (wK cB cI cJ cZ cS a s')) := by
  intro p e s0 m below meth c A E H locs ls hP hD hS hl
  obtain ⟨C, hr, hlocks, hA, hK, hN⟩ := id E
  obtain ⟨hx, hb, hml, hown, hts⟩ := id C
  unfold kX4_readUnit at hB
  refine lv_aload_n hx hb dX4_readUnit_0 rfl (lv_at hl 0 rfl) ?_
  refine q_get (v := .ref (a 30)) C inX4_readUnit_X4 hK hP 28 rfl rfl 0 (by decide) rfl LX4_readUnit_31 rfl dX4_readUnit_1 ?_
  refine q_getN (v := .ref (a 32)) C hN inX4_readUnit_X9 hK hP 30 rfl rfl 2 (by decide) rfl nwF_X4_63 rfl dX4_readUnit_4 ?_
  refine lv_aload_n hx hb dX4_readUnit_7 rfl (lv_at hl 0 rfl) ?_
  refine q_get (v := .int (s.v 15)) C inX4_readUnit_X4 hK hP 28 rfl rfl 3 (by decide) rfl LX4_readUnit_38 rfl dX4_readUnit_8 ?_
  obtain ⟨g1, hB⟩ := guard_inv hB
  refine q_iald (x := ((s.f 32) (Int32.toNatClampNeg (s.v 15)))) C hK hP 32 1 rfl rfl (vpb_in g1) dX4_readUnit_11 rfl ?_
  refine lv_istore_n (lv' := [(2, .int ((s.f 32) (Int32.toNatClampNeg (s.v 15)))), (0, .ref (a 28)), (1, .int x1)]) hx hb dX4_readUnit_12 rfl hl (by decide) rfl (fun ls hl => ?_)
  refine lv_iload_n hx hb dX4_readUnit_13 rfl (lv_at hl 0 rfl) ?_
  refine lv_sipush (v := 266) hx hb dX4_readUnit_14 (by decide) ?_
  refine lv_isub hx hb dX4_readUnit_17 ?_
  refine lv_istore_n (lv' := [(3, .int (((s.f 32) (Int32.toNatClampNeg (s.v 15))) - 266)), (2, .int ((s.f 32) (Int32.toNatClampNeg (s.v 15)))), (0, .ref (a 28)), (1, .int x1)]) hx hb dX4_readUnit_18 rfl hl (by decide) rfl (fun ls hl => ?_)
  refine lv_aload_n hx hb dX4_readUnit_19 rfl (lv_at hl 2 rfl) ?_
  refine lv_sipush (v := 301) hx hb dX4_readUnit_20 (by decide) ?_
  obtain ⟨q_, s2, hc, hB⟩ := bindI_inv hB
  refine q_goiF (va_runV (As := [.int 301]) (rest := []) C (ckX4_isAt hc _) (cwV 1 hts gX4_readUnit_X4_isAt rfl rfl rfl (by decide +kernel) ⟨by dsimp only; omega, by dsimp only; omega⟩) (q_preV hK hP (ci := 4) (q0 := 28) rfl rfl rfl (q_preF hN hK hP hD)) rfl rfl hl.1 rfl (lv_room (Nat.le_of_ble_eq_true rfl)) dX4_readUnit_23 ⟨Nat.le_of_ble_eq_true rfl, Nat.le_of_ble_eq_true rfl⟩) hD hS hA (fun r3 w1 H locs hw hP hD hS => ?_)
  obtain ⟨hq_, hw⟩ := hw; subst hw; subst hq_
  refine lv_if_eq (tgt := 62) hx hb dX4_readUnit_26 (by decide) (fun c4 => ?_) (fun c4 => ?_)
  · have hB := if_p hB c4
    refine lv_iload_n hx hb dX4_readUnit_62 rfl (lv_at hl 0 rfl) ?_
    refine lv_if_lt (tgt := 91) hx hb dX4_readUnit_63 (by decide) (fun c5 => ?_) (fun c5 => ?_)
    · have hB := if_p hB c5
      exact bkX4_readUnit_91 hR hfr hlo _ _ hB p e s0 m below meth c A E H locs ls hP hD hS (lv_sub hl [2, 3] rfl)
    · have hB := if_n hB c5
      refine lv_iload_n hx hb dX4_readUnit_66 rfl (lv_at hl 0 rfl) ?_
      refine lv_bipush (v := 9) hx hb dX4_readUnit_67 (by decide) ?_
      refine lv_icmp_ge (tgt := 91) hx hb dX4_readUnit_69 (by decide) (fun c6 => ?_) (fun c6 => ?_)
      · have hB := if_p hB c6
        exact bkX4_readUnit_91 hR hfr hlo _ _ hB p e s0 m below meth c A E H locs ls hP hD hS (lv_sub hl [2, 3] rfl)
      · have hB := if_n hB c6
        refine lv_aload_n hx hb dX4_readUnit_72 rfl (lv_at hl 2 rfl) ?_
        refine q_get (v := .ref (a 15)) C inX4_readUnit_X4 hK hP 28 rfl rfl 1 (by decide) rfl LX4_readUnit_12 rfl dX4_readUnit_73 ?_
        refine q_getN (v := .ref (a 21)) C hN inX4_readUnit_X5 hK hP 15 rfl rfl 5 (by decide) rfl nwF_X4_119 rfl dX4_readUnit_76 ?_
        refine lv_iload_n hx hb dX4_readUnit_79 rfl (lv_at hl 0 rfl) ?_
        obtain ⟨s7, hc, hB⟩ := bindP_inv hB
        refine q_govF (va_runVN (As := [.int (((s.f 32) (Int32.toNatClampNeg (s.v 15))) - 266)]) (rest := []) C (ckX1_putVar hc _) ⟨va_cnB 1 hts gX4_readUnit_X1_putVar_n149 rfl rfl rfl (hN _ nwM_X4_149 rfl) (hts _ LX4_readUnit_I_X1) (by decide +kernel) ⟨by dsimp only; omega, by dsimp only; omega⟩, hts _ LX4_readUnit_N_X1_putVar, hts _ LX4_readUnit_E_X1_putVar⟩ (q_preV hK hP (ci := 1) (q0 := 21) rfl rfl rfl (q_preF hN hK hP hD)) rfl rfl hl.1 rfl (lv_room (Nat.le_of_ble_eq_true rfl)) dX4_readUnit_80 ⟨Nat.le_of_ble_eq_true rfl, Nat.le_of_ble_eq_true rfl⟩) hD hS hA (fun w1 H locs hw hP hD hS => ?_)
        subst hw
        refine lv_aload_n hx hb dX4_readUnit_83 rfl (lv_at hl 2 rfl) ?_
        refine lv_iload_n hx hb dX4_readUnit_84 rfl (lv_at hl 1 rfl) ?_
        obtain ⟨s8, hc, hB⟩ := bindP_inv hB
        refine q_govF (va_runV (As := [.int ((s.f 32) (Int32.toNatClampNeg (s.v 15)))]) (rest := []) C (ckX4_take hc _) (cwV 1 hts gX4_readUnit_X4_take rfl rfl rfl (by decide +kernel) ⟨by dsimp only; omega, by dsimp only; omega⟩) (q_preV hK hP (ci := 4) (q0 := 28) rfl rfl rfl (q_preF hN hK hP hD)) rfl rfl hl.1 rfl (lv_room (Nat.le_of_ble_eq_true rfl)) dX4_readUnit_85 ⟨Nat.le_of_ble_eq_true rfl, Nat.le_of_ble_eq_true rfl⟩) hD hS hA (fun w1 H locs hw hP hD hS => ?_)
        subst hw
        refine lv_goto (tgt := 150) hx hb dX4_readUnit_88 (by decide) ?_
        exact q_vret C hr hlocks hK hP hD hS (Nat.le_of_ble_eq_true rfl) (Nat.le_of_ble_eq_true rfl) dX4_readUnit_150 (by cases hB; rfl)
  · have hB := if_n hB c4
    refine lv_aload_n hx hb dX4_readUnit_29 rfl (lv_at hl 2 rfl) ?_
    refine q_get (v := .ref (a 15)) C inX4_readUnit_X4 hK hP 28 rfl rfl 1 (by decide) rfl LX4_readUnit_12 rfl dX4_readUnit_30 ?_
    refine q_getN (v := .ref (a 21)) C hN inX4_readUnit_X5 hK hP 15 rfl rfl 5 (by decide) rfl nwF_X4_119 rfl dX4_readUnit_33 ?_
    refine lv_aload_n hx hb dX4_readUnit_36 rfl (lv_at hl 2 rfl) ?_
    refine q_get (v := .ref (a 30)) C inX4_readUnit_X4 hK hP 28 rfl rfl 0 (by decide) rfl LX4_readUnit_31 rfl dX4_readUnit_37 ?_
    refine q_getN (v := .ref (a 34)) C hN inX4_readUnit_X9 hK hP 30 rfl rfl 4 (by decide) rfl nwF_X4_74 rfl dX4_readUnit_40 ?_
    refine lv_aload_n hx hb dX4_readUnit_43 rfl (lv_at hl 2 rfl) ?_
    refine q_get (v := .int (s2.v 15)) C inX4_readUnit_X4 hK hP 28 rfl rfl 3 (by decide) rfl LX4_readUnit_38 rfl dX4_readUnit_44 ?_
    obtain ⟨g9, hB⟩ := guard_inv hB
    refine q_lald (x := ((s2.g 34) (Int32.toNatClampNeg (s2.v 15)))) C hK hP 34 2 rfl rfl (vpb_in g9) dX4_readUnit_47 rfl ?_
    refine lv_l2i (v := (Int64.toInt32 ((s2.g 34) (Int32.toNatClampNeg (s2.v 15))))) hx hb dX4_readUnit_48 rfl ?_
    obtain ⟨s10, hc, hB⟩ := bindP_inv hB
    refine q_govF (va_runVN (As := [.int (Int64.toInt32 ((s2.g 34) (Int32.toNatClampNeg (s2.v 15))))]) (rest := []) C (ckX1_putNumber hc _) ⟨va_cnB 1 hts gX4_readUnit_X1_putNumber_n146 rfl rfl rfl (hN _ nwM_X4_146 rfl) (hts _ LX4_readUnit_I_X1) (by decide +kernel) ⟨by dsimp only; omega, by dsimp only; omega⟩, hts _ LX4_readUnit_N_X1_putNumber, hts _ LX4_readUnit_E_X1_putNumber⟩ (q_preV hK hP (ci := 1) (q0 := 21) rfl rfl rfl (q_preF hN hK hP hD)) rfl rfl hl.1 rfl (lv_room (Nat.le_of_ble_eq_true rfl)) dX4_readUnit_49 ⟨Nat.le_of_ble_eq_true rfl, Nat.le_of_ble_eq_true rfl⟩) hD hS hA (fun w1 H locs hw hP hD hS => ?_)
    subst hw
    refine lv_aload_n hx hb dX4_readUnit_52 rfl (lv_at hl 2 rfl) ?_
    refine lv_sipush (v := 301) hx hb dX4_readUnit_53 (by decide) ?_
    obtain ⟨s11, hc, hB⟩ := bindP_inv hB
    refine q_govF (va_runV (As := [.int 301]) (rest := []) C (ckX4_take hc _) (cwV 1 hts gX4_readUnit_X4_take rfl rfl rfl (by decide +kernel) ⟨by dsimp only; omega, by dsimp only; omega⟩) (q_preV hK hP (ci := 4) (q0 := 28) rfl rfl rfl (q_preF hN hK hP hD)) rfl rfl hl.1 rfl (lv_room (Nat.le_of_ble_eq_true rfl)) dX4_readUnit_56 ⟨Nat.le_of_ble_eq_true rfl, Nat.le_of_ble_eq_true rfl⟩) hD hS hA (fun w1 H locs hw hP hD hS => ?_)
    subst hw
    refine lv_goto (tgt := 150) hx hb dX4_readUnit_59 (by decide) ?_
    exact q_vret C hr hlocks hK hP hD hS (Nat.le_of_ble_eq_true rfl) (Nat.le_of_ble_eq_true rfl) dX4_readUnit_150 (by cases hB; rfl)
theorem ckX4_readUnit {l : Launch} {dC : Nat → ClassId} {dI : Nat → Nat → Nat} {cB cI cJ cZ cS : ClassId} {a : Nat → Nat} {R : KS → Int32 → Option KS} {fr lo : Nat} (hR : ∀ {s : KS} {x1 : Int32} {s' : KS}, R s x1 = some s' → CV l yX4_readSum wsX4_readSum ({ frames := fr, cells := 0, slots := 0, locals := lo }) (dC, dI) (tysA cB cI cJ cZ cS) (wK cB cI cJ cZ cS a s) [.ref (a 28), .int x1] (fun u => u = wK cB cI cJ cZ cS a s')) (hfr : 2 ≤ fr) (hlo : 42 ≤ lo) {s' : KS} {s : KS} {x1 : Int32} (hB : kX4_readUnit R s x1 = some s') : CV l yX4_readUnit wsX4_readUnit ({ frames := fr + 1, cells := 0, slots := 0, locals := lo + 23 }) (dC, dI) (tysA cB cI cJ cZ cS) (wK cB cI cJ cZ cS a s) [.ref (a 28), .int x1] (fun u => u = (wK cB cI cJ cZ cS a s')) :=
  CV_of (cc := cX4_readUnit) (maxL := 4) (ret := none) (by decide) rfl (Nat.le_of_ble_eq_true rfl) (bkX4_readUnit hR hfr hlo _ _ hB)
end
