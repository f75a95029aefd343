theorem ggX10_tell_X5_hasWave : GoodIn wsX10_tell wsX5_hasWave := gi_sub (fun w h => List.mem_cons_of_mem _ (List.mem_append_left _ (List.mem_append_left _ (List.mem_append_left _ (List.mem_append_right _ (List.mem_append_left _ h)))))) gd_wsX5_hasWave
set_option maxRecDepth 20000 in
theorem gX10_tell_X5_hasWave_n108 : GoodIn wsX10_tell (wsX5_hasWave) := ggX10_tell_X5_hasWave
theorem ggX10_tell_X8_add : GoodIn wsX10_tell wsX8_add := gi_sub (fun w h => List.mem_cons_of_mem _ (List.mem_append_left _ (List.mem_append_left _ (List.mem_append_left _ (List.mem_append_right _ (List.mem_append_right _ h)))))) gd_wsX8_add
set_option maxRecDepth 20000 in
theorem gX10_tell_X8_add_n263 : GoodIn wsX10_tell (wsX8_add) := ggX10_tell_X8_add
theorem dX10_tell_0 : decode cX10_tell 0 = .ok (.aload_n 0, 1) := dc1_42 (by decide +kernel)
theorem dX10_tell_1 : decode cX10_tell 1 = .ok (.getfield 19, 3) := dcw_180 (by decide +kernel)
theorem dX10_tell_4 : decode cX10_tell 4 = .ok (.iload_n 1, 1) := dc1_27 (by decide +kernel)
theorem dX10_tell_5 : decode cX10_tell 5 = .ok (.invokevirtual 108, 3) := dcw_182 (by decide +kernel)
theorem dX10_tell_8 : decode cX10_tell 8 = .ok (.ifCond .eq 14, 3) := dcs_153 (n := 14) (by decide +kernel)
theorem dX10_tell_11 : decode cX10_tell 11 = .ok (.iload_n 2, 1) := dc1_28 (by decide +kernel)
theorem dX10_tell_12 : decode cX10_tell 12 = .ok (.iconst 1, 1) := dc1_4 (by decide +kernel)
theorem dX10_tell_13 : decode cX10_tell 13 = .ok (.if_icmp .lt 9, 3) := dcs_161 (n := 9) (by decide +kernel)
theorem dX10_tell_16 : decode cX10_tell 16 = .ok (.iload_n 2, 1) := dc1_28 (by decide +kernel)
theorem dX10_tell_17 : decode cX10_tell 17 = .ok (.bipush 63, 2) := dcb_16 (n := 63) (by decide +kernel)
theorem dX10_tell_19 : decode cX10_tell 19 = .ok (.if_icmp .le 5, 3) := dcs_164 (n := 5) (by decide +kernel)
theorem dX10_tell_22 : decode cX10_tell 22 = .ok (.iconst (-1), 1) := dc1_2 (by decide +kernel)
theorem dX10_tell_23 : decode cX10_tell 23 = .ok (.ireturn, 1) := dc1_172 (by decide +kernel)
theorem dX10_tell_24 : decode cX10_tell 24 = .ok (.aload_n 0, 1) := dc1_42 (by decide +kernel)
theorem dX10_tell_25 : decode cX10_tell 25 = .ok (.getfield 70, 3) := dcw_180 (by decide +kernel)
theorem dX10_tell_28 : decode cX10_tell 28 = .ok (.iload_n 1, 1) := dc1_27 (by decide +kernel)
theorem dX10_tell_29 : decode cX10_tell 29 = .ok (.iload_n 3, 1) := dc1_29 (by decide +kernel)
theorem dX10_tell_30 : decode cX10_tell 30 = .ok (.ifCond .eq 7, 3) := dcs_153 (n := 7) (by decide +kernel)
theorem dX10_tell_33 : decode cX10_tell 33 = .ok (.iload_n 2, 1) := dc1_28 (by decide +kernel)
theorem dX10_tell_34 : decode cX10_tell 34 = .ok (.goto 9, 3) := dcs_167 (n := 9) (by decide +kernel)
theorem dX10_tell_37 : decode cX10_tell 37 = .ok (.bipush 63, 2) := dcb_16 (n := 63) (by decide +kernel)
theorem dX10_tell_39 : decode cX10_tell 39 = .ok (.iload_n 2, 1) := dc1_28 (by decide +kernel)
theorem dX10_tell_40 : decode cX10_tell 40 = .ok (.iconst (-1), 1) := dc1_2 (by decide +kernel)
theorem dX10_tell_41 : decode cX10_tell 41 = .ok (.ixor, 1) := dc1_130 (by decide +kernel)
theorem dX10_tell_42 : decode cX10_tell 42 = .ok (.iand, 1) := dc1_126 (by decide +kernel)
theorem dX10_tell_43 : decode cX10_tell 43 = .ok (.invokevirtual 263, 3) := dcw_182 (by decide +kernel)
theorem dX10_tell_46 : decode cX10_tell 46 = .ok (.ireturn, 1) := dc1_172 (by decide +kernel)
theorem dX10_forget_0 : decode cX10_forget 0 = .ok (.aload_n 0, 1) := dc1_42 (by decide +kernel)
theorem dX10_forget_1 : decode cX10_forget 1 = .ok (.getfield 70, 3) := dcw_180 (by decide +kernel)
theorem dX10_forget_4 : decode cX10_forget 4 = .ok (.getfield 102, 3) := dcw_180 (by decide +kernel)
theorem dX10_forget_7 : decode cX10_forget 7 = .ok (.istore_n 1, 1) := dc1_60 (by decide +kernel)
theorem dX10_forget_8 : decode cX10_forget 8 = .ok (.aload_n 0, 1) := dc1_42 (by decide +kernel)
theorem dX10_forget_9 : decode cX10_forget 9 = .ok (.getfield 70, 3) := dcw_180 (by decide +kernel)
theorem dX10_forget_12 : decode cX10_forget 12 = .ok (.iconst 0, 1) := dc1_3 (by decide +kernel)
theorem dX10_forget_13 : decode cX10_forget 13 = .ok (.putfield 102, 3) := dcw_181 (by decide +kernel)
theorem dX10_forget_16 : decode cX10_forget 16 = .ok (.iload_n 1, 1) := dc1_27 (by decide +kernel)
theorem dX10_forget_17 : decode cX10_forget 17 = .ok (.ireturn, 1) := dc1_172 (by decide +kernel)
theorem ggX10_isHere_X5_hasParty : GoodIn wsX10_isHere wsX5_hasParty := gi_sub (fun w h => List.mem_cons_of_mem _ (List.mem_append_left _ (List.mem_append_left _ (List.mem_append_left _ (List.mem_append_right _ h))))) gd_wsX5_hasParty
set_option maxRecDepth 20000 in
theorem gX10_isHere_X5_hasParty_n138 : GoodIn wsX10_isHere (wsX5_hasParty) := ggX10_isHere_X5_hasParty
theorem dX10_isHere_0 : decode cX10_isHere 0 = .ok (.aload_n 0, 1) := dc1_42 (by decide +kernel)
theorem dX10_isHere_1 : decode cX10_isHere 1 = .ok (.getfield 19, 3) := dcw_180 (by decide +kernel)
theorem dX10_isHere_4 : decode cX10_isHere 4 = .ok (.iload_n 1, 1) := dc1_27 (by decide +kernel)
theorem dX10_isHere_5 : decode cX10_isHere 5 = .ok (.invokevirtual 138, 3) := dcw_182 (by decide +kernel)
theorem dX10_isHere_8 : decode cX10_isHere 8 = .ok (.ifCond .eq 19, 3) := dcs_153 (n := 19) (by decide +kernel)
theorem dX10_isHere_11 : decode cX10_isHere 11 = .ok (.aload_n 0, 1) := dc1_42 (by decide +kernel)
theorem dX10_isHere_12 : decode cX10_isHere 12 = .ok (.getfield 35, 3) := dcw_180 (by decide +kernel)
theorem dX10_isHere_15 : decode cX10_isHere 15 = .ok (.getfield 147, 3) := dcw_180 (by decide +kernel)
theorem dX10_isHere_18 : decode cX10_isHere 18 = .ok (.iload_n 1, 1) := dc1_27 (by decide +kernel)
theorem dX10_isHere_19 : decode cX10_isHere 19 = .ok (.iaload, 1) := dc1_46 (by decide +kernel)
theorem dX10_isHere_20 : decode cX10_isHere 20 = .ok (.ifCond .ne 7, 3) := dcs_154 (n := 7) (by decide +kernel)
theorem dX10_isHere_23 : decode cX10_isHere 23 = .ok (.iconst 1, 1) := dc1_4 (by decide +kernel)
theorem dX10_isHere_24 : decode cX10_isHere 24 = .ok (.goto 4, 3) := dcs_167 (n := 4) (by decide +kernel)
theorem dX10_isHere_27 : decode cX10_isHere 27 = .ok (.iconst 0, 1) := dc1_3 (by decide +kernel)
theorem dX10_isHere_28 : decode cX10_isHere 28 = .ok (.ireturn, 1) := dc1_172 (by decide +kernel)
theorem dX10_partiesThatAre_0 : decode cX10_partiesThatAre 0 = .ok (.iconst 0, 1) := dc1_3 (by decide +kernel)
theorem dX10_partiesThatAre_1 : decode cX10_partiesThatAre 1 = .ok (.istore_n 3, 1) := dc1_62 (by decide +kernel)
theorem dX10_partiesThatAre_2 : decode cX10_partiesThatAre 2 = .ok (.iconst 0, 1) := dc1_3 (by decide +kernel)
theorem dX10_partiesThatAre_3 : decode cX10_partiesThatAre 3 = .ok (.istore 4, 2) := dcu_54 (by decide +kernel)
theorem dX10_partiesThatAre_5 : decode cX10_partiesThatAre 5 = .ok (.iload 4, 2) := dcu_21 (by decide +kernel)
theorem dX10_partiesThatAre_7 : decode cX10_partiesThatAre 7 = .ok (.aload_n 0, 1) := dc1_42 (by decide +kernel)
theorem dX10_partiesThatAre_8 : decode cX10_partiesThatAre 8 = .ok (.getfield 19, 3) := dcw_180 (by decide +kernel)
theorem dX10_partiesThatAre_11 : decode cX10_partiesThatAre 11 = .ok (.getfield 235, 3) := dcw_180 (by decide +kernel)
theorem dX10_partiesThatAre_14 : decode cX10_partiesThatAre 14 = .ok (.if_icmp .ge 27, 3) := dcs_162 (n := 27) (by decide +kernel)
theorem dX10_partiesThatAre_17 : decode cX10_partiesThatAre 17 = .ok (.aload_n 1, 1) := dc1_43 (by decide +kernel)
theorem dX10_partiesThatAre_18 : decode cX10_partiesThatAre 18 = .ok (.getfield 147, 3) := dcw_180 (by decide +kernel)
theorem dX10_partiesThatAre_21 : decode cX10_partiesThatAre 21 = .ok (.iload 4, 2) := dcu_21 (by decide +kernel)
theorem dX10_partiesThatAre_23 : decode cX10_partiesThatAre 23 = .ok (.iaload, 1) := dc1_46 (by decide +kernel)
theorem dX10_partiesThatAre_24 : decode cX10_partiesThatAre 24 = .ok (.iload_n 2, 1) := dc1_28 (by decide +kernel)
theorem dX10_partiesThatAre_25 : decode cX10_partiesThatAre 25 = .ok (.if_icmp .ne 10, 3) := dcs_160 (n := 10) (by decide +kernel)
theorem dX10_partiesThatAre_28 : decode cX10_partiesThatAre 28 = .ok (.iload_n 3, 1) := dc1_29 (by decide +kernel)
theorem dX10_partiesThatAre_29 : decode cX10_partiesThatAre 29 = .ok (.iconst 1, 1) := dc1_4 (by decide +kernel)
theorem dX10_partiesThatAre_30 : decode cX10_partiesThatAre 30 = .ok (.iload 4, 2) := dcu_21 (by decide +kernel)
theorem dX10_partiesThatAre_32 : decode cX10_partiesThatAre 32 = .ok (.ishl, 1) := dc1_120 (by decide +kernel)
theorem dX10_partiesThatAre_33 : decode cX10_partiesThatAre 33 = .ok (.ior, 1) := dc1_128 (by decide +kernel)
theorem dX10_partiesThatAre_34 : decode cX10_partiesThatAre 34 = .ok (.istore_n 3, 1) := dc1_62 (by decide +kernel)
theorem dX10_partiesThatAre_35 : decode cX10_partiesThatAre 35 = .ok (.iinc 4 1, 3) := dc_iinc (m := 1) (by decide +kernel)
theorem dX10_partiesThatAre_38 : decode cX10_partiesThatAre 38 = .ok (.goto (-33), 3) := dcs_167 (n := 65503) (by decide +kernel)
theorem dX10_partiesThatAre_41 : decode cX10_partiesThatAre 41 = .ok (.iload_n 3, 1) := dc1_29 (by decide +kernel)
theorem dX10_partiesThatAre_42 : decode cX10_partiesThatAre 42 = .ok (.ireturn, 1) := dc1_172 (by decide +kernel)
theorem dX10_wavesFound_0 : decode cX10_wavesFound 0 = .ok (.iconst 0, 1) := dc1_3 (by decide +kernel)
theorem dX10_wavesFound_1 : decode cX10_wavesFound 1 = .ok (.istore_n 1, 1) := dc1_60 (by decide +kernel)
theorem dX10_wavesFound_2 : decode cX10_wavesFound 2 = .ok (.iconst 0, 1) := dc1_3 (by decide +kernel)
theorem dX10_wavesFound_3 : decode cX10_wavesFound 3 = .ok (.istore_n 2, 1) := dc1_61 (by decide +kernel)
theorem dX10_wavesFound_4 : decode cX10_wavesFound 4 = .ok (.iload_n 2, 1) := dc1_28 (by decide +kernel)
theorem dX10_wavesFound_5 : decode cX10_wavesFound 5 = .ok (.aload_n 0, 1) := dc1_42 (by decide +kernel)
theorem dX10_wavesFound_6 : decode cX10_wavesFound 6 = .ok (.getfield 19, 3) := dcw_180 (by decide +kernel)
theorem dX10_wavesFound_9 : decode cX10_wavesFound 9 = .ok (.getfield 167, 3) := dcw_180 (by decide +kernel)
theorem dX10_wavesFound_12 : decode cX10_wavesFound 12 = .ok (.if_icmp .ge 28, 3) := dcs_162 (n := 28) (by decide +kernel)
theorem dX10_wavesFound_15 : decode cX10_wavesFound 15 = .ok (.aload_n 0, 1) := dc1_42 (by decide +kernel)
theorem dX10_wavesFound_16 : decode cX10_wavesFound 16 = .ok (.getfield 35, 3) := dcw_180 (by decide +kernel)
theorem dX10_wavesFound_19 : decode cX10_wavesFound 19 = .ok (.getfield 115, 3) := dcw_180 (by decide +kernel)
theorem dX10_wavesFound_22 : decode cX10_wavesFound 22 = .ok (.iload_n 2, 1) := dc1_28 (by decide +kernel)
theorem dX10_wavesFound_23 : decode cX10_wavesFound 23 = .ok (.iaload, 1) := dc1_46 (by decide +kernel)
theorem dX10_wavesFound_24 : decode cX10_wavesFound 24 = .ok (.iconst (-1), 1) := dc1_2 (by decide +kernel)
theorem dX10_wavesFound_25 : decode cX10_wavesFound 25 = .ok (.if_icmp .eq 9, 3) := dcs_159 (n := 9) (by decide +kernel)
theorem dX10_wavesFound_28 : decode cX10_wavesFound 28 = .ok (.iload_n 1, 1) := dc1_27 (by decide +kernel)
theorem dX10_wavesFound_29 : decode cX10_wavesFound 29 = .ok (.iconst 1, 1) := dc1_4 (by decide +kernel)
theorem dX10_wavesFound_30 : decode cX10_wavesFound 30 = .ok (.iload_n 2, 1) := dc1_28 (by decide +kernel)
theorem dX10_wavesFound_31 : decode cX10_wavesFound 31 = .ok (.ishl, 1) := dc1_120 (by decide +kernel)
theorem dX10_wavesFound_32 : decode cX10_wavesFound 32 = .ok (.ior, 1) := dc1_128 (by decide +kernel)
theorem dX10_wavesFound_33 : decode cX10_wavesFound 33 = .ok (.istore_n 1, 1) := dc1_60 (by decide +kernel)
theorem dX10_wavesFound_34 : decode cX10_wavesFound 34 = .ok (.iinc 2 1, 3) := dc_iinc (m := 1) (by decide +kernel)
theorem dX10_wavesFound_37 : decode cX10_wavesFound 37 = .ok (.goto (-33), 3) := dcs_167 (n := 65503) (by decide +kernel)
theorem dX10_wavesFound_40 : decode cX10_wavesFound 40 = .ok (.iload_n 1, 1) := dc1_27 (by decide +kernel)
theorem dX10_wavesFound_41 : decode cX10_wavesFound 41 = .ok (.ireturn, 1) := dc1_172 (by decide +kernel)
theorem ggX10_wavesWithNothing_X0_mayBe : GoodIn wsX10_wavesWithNothing wsX0_mayBe := gi_sub (fun w h => List.mem_cons_of_mem _ (List.mem_append_left _ (List.mem_append_left _ (List.mem_append_left _ (List.mem_append_left _ (List.mem_append_right _ h)))))) gd_wsX0_mayBe
set_option maxRecDepth 20000 in
theorem gX10_wavesWithNothing_X0_mayBe_n111 : GoodIn wsX10_wavesWithNothing (wsX0_mayBe) := ggX10_wavesWithNothing_X0_mayBe
theorem dX10_wavesWithNothing_0 : decode cX10_wavesWithNothing 0 = .ok (.iconst 0, 1) := dc1_3 (by decide +kernel)
theorem dX10_wavesWithNothing_1 : decode cX10_wavesWithNothing 1 = .ok (.istore_n 1, 1) := dc1_60 (by decide +kernel)
theorem dX10_wavesWithNothing_2 : decode cX10_wavesWithNothing 2 = .ok (.iconst 0, 1) := dc1_3 (by decide +kernel)
theorem dX10_wavesWithNothing_3 : decode cX10_wavesWithNothing 3 = .ok (.istore_n 2, 1) := dc1_61 (by decide +kernel)
theorem dX10_wavesWithNothing_4 : decode cX10_wavesWithNothing 4 = .ok (.iload_n 2, 1) := dc1_28 (by decide +kernel)
theorem dX10_wavesWithNothing_5 : decode cX10_wavesWithNothing 5 = .ok (.aload_n 0, 1) := dc1_42 (by decide +kernel)
theorem dX10_wavesWithNothing_6 : decode cX10_wavesWithNothing 6 = .ok (.getfield 19, 3) := dcw_180 (by decide +kernel)
theorem dX10_wavesWithNothing_9 : decode cX10_wavesWithNothing 9 = .ok (.getfield 167, 3) := dcw_180 (by decide +kernel)
theorem dX10_wavesWithNothing_12 : decode cX10_wavesWithNothing 12 = .ok (.if_icmp .ge 30, 3) := dcs_162 (n := 30) (by decide +kernel)
theorem dX10_wavesWithNothing_15 : decode cX10_wavesWithNothing 15 = .ok (.aload_n 0, 1) := dc1_42 (by decide +kernel)
theorem dX10_wavesWithNothing_16 : decode cX10_wavesWithNothing 16 = .ok (.getfield 54, 3) := dcw_180 (by decide +kernel)
theorem dX10_wavesWithNothing_19 : decode cX10_wavesWithNothing 19 = .ok (.aload_n 0, 1) := dc1_42 (by decide +kernel)
theorem dX10_wavesWithNothing_20 : decode cX10_wavesWithNothing 20 = .ok (.getfield 35, 3) := dcw_180 (by decide +kernel)
theorem dX10_wavesWithNothing_23 : decode cX10_wavesWithNothing 23 = .ok (.iload_n 2, 1) := dc1_28 (by decide +kernel)
theorem dX10_wavesWithNothing_24 : decode cX10_wavesWithNothing 24 = .ok (.invokevirtual 111, 3) := dcw_182 (by decide +kernel)
theorem dX10_wavesWithNothing_27 : decode cX10_wavesWithNothing 27 = .ok (.ifCond .ne 9, 3) := dcs_154 (n := 9) (by decide +kernel)
theorem dX10_wavesWithNothing_30 : decode cX10_wavesWithNothing 30 = .ok (.iload_n 1, 1) := dc1_27 (by decide +kernel)
theorem dX10_wavesWithNothing_31 : decode cX10_wavesWithNothing 31 = .ok (.iconst 1, 1) := dc1_4 (by decide +kernel)
theorem dX10_wavesWithNothing_32 : decode cX10_wavesWithNothing 32 = .ok (.iload_n 2, 1) := dc1_28 (by decide +kernel)
theorem dX10_wavesWithNothing_33 : decode cX10_wavesWithNothing 33 = .ok (.ishl, 1) := dc1_120 (by decide +kernel)
theorem dX10_wavesWithNothing_34 : decode cX10_wavesWithNothing 34 = .ok (.ior, 1) := dc1_128 (by decide +kernel)
theorem dX10_wavesWithNothing_35 : decode cX10_wavesWithNothing 35 = .ok (.istore_n 1, 1) := dc1_60 (by decide +kernel)
theorem dX10_wavesWithNothing_36 : decode cX10_wavesWithNothing 36 = .ok (.iinc 2 1, 3) := dc_iinc (m := 1) (by decide +kernel)
theorem dX10_wavesWithNothing_39 : decode cX10_wavesWithNothing 39 = .ok (.goto (-35), 3) := dcs_167 (n := 65501) (by decide +kernel)
theorem dX10_wavesWithNothing_42 : decode cX10_wavesWithNothing 42 = .ok (.iload_n 1, 1) := dc1_27 (by decide +kernel)
theorem dX10_wavesWithNothing_43 : decode cX10_wavesWithNothing 43 = .ok (.ireturn, 1) := dc1_172 (by decide +kernel)
theorem dX10_isThing_0 : decode cX10_isThing 0 = .ok (.iload_n 0, 1) := dc1_26 (by decide +kernel)
theorem dX10_isThing_1 : decode cX10_isThing 1 = .ok (.ifCond .lt 13, 3) := dcs_155 (n := 13) (by decide +kernel)
theorem dX10_isThing_4 : decode cX10_isThing 4 = .ok (.iload_n 0, 1) := dc1_26 (by decide +kernel)
theorem dX10_isThing_5 : decode cX10_isThing 5 = .ok (.bipush 6, 2) := dcb_16 (n := 6) (by decide +kernel)
theorem dX10_isThing_7 : decode cX10_isThing 7 = .ok (.if_icmp .ge 7, 3) := dcs_162 (n := 7) (by decide +kernel)
theorem dX10_isThing_10 : decode cX10_isThing 10 = .ok (.iconst 1, 1) := dc1_4 (by decide +kernel)
theorem dX10_isThing_11 : decode cX10_isThing 11 = .ok (.goto 4, 3) := dcs_167 (n := 4) (by decide +kernel)
theorem dX10_isThing_14 : decode cX10_isThing 14 = .ok (.iconst 0, 1) := dc1_3 (by decide +kernel)
theorem dX10_isThing_15 : decode cX10_isThing 15 = .ok (.ireturn, 1) := dc1_172 (by decide +kernel)
theorem dX10_has_0 : decode cX10_has 0 = .ok (.iload_n 0, 1) := dc1_26 (by decide +kernel)
theorem dX10_has_1 : decode cX10_has 1 = .ok (.iload_n 1, 1) := dc1_27 (by decide +kernel)
theorem dX10_has_2 : decode cX10_has 2 = .ok (.ishr, 1) := dc1_122 (by decide +kernel)
theorem dX10_has_3 : decode cX10_has 3 = .ok (.iconst 1, 1) := dc1_4 (by decide +kernel)
theorem dX10_has_4 : decode cX10_has 4 = .ok (.iand, 1) := dc1_126 (by decide +kernel)
theorem dX10_has_5 : decode cX10_has 5 = .ok (.iconst 1, 1) := dc1_4 (by decide +kernel)
theorem dX10_has_6 : decode cX10_has 6 = .ok (.if_icmp .ne 7, 3) := dcs_160 (n := 7) (by decide +kernel)
theorem dX10_has_9 : decode cX10_has 9 = .ok (.iconst 1, 1) := dc1_4 (by decide +kernel)
theorem dX10_has_10 : decode cX10_has 10 = .ok (.goto 4, 3) := dcs_167 (n := 4) (by decide +kernel)
theorem dX10_has_13 : decode cX10_has 13 = .ok (.iconst 0, 1) := dc1_3 (by decide +kernel)
theorem dX10_has_14 : decode cX10_has 14 = .ok (.ireturn, 1) := dc1_172 (by decide +kernel)
theorem dX10_sumOf_0 : decode cX10_sumOf 0 = .ok (.iconst 0, 1) := dc1_3 (by decide +kernel)
theorem dX10_sumOf_1 : decode cX10_sumOf 1 = .ok (.istore_n 1, 1) := dc1_60 (by decide +kernel)
theorem dX10_sumOf_2 : decode cX10_sumOf 2 = .ok (.iconst 0, 1) := dc1_3 (by decide +kernel)
theorem dX10_sumOf_3 : decode cX10_sumOf 3 = .ok (.istore_n 2, 1) := dc1_61 (by decide +kernel)
theorem dX10_sumOf_4 : decode cX10_sumOf 4 = .ok (.iload_n 2, 1) := dc1_28 (by decide +kernel)
theorem dX10_sumOf_5 : decode cX10_sumOf 5 = .ok (.aload_n 0, 1) := dc1_42 (by decide +kernel)
theorem dX10_sumOf_6 : decode cX10_sumOf 6 = .ok (.arraylength, 1) := dc1_190 (by decide +kernel)
theorem dX10_sumOf_7 : decode cX10_sumOf 7 = .ok (.if_icmp .ge 15, 3) := dcs_162 (n := 15) (by decide +kernel)
theorem dX10_sumOf_10 : decode cX10_sumOf 10 = .ok (.iload_n 1, 1) := dc1_27 (by decide +kernel)
theorem dX10_sumOf_11 : decode cX10_sumOf 11 = .ok (.aload_n 0, 1) := dc1_42 (by decide +kernel)
theorem dX10_sumOf_12 : decode cX10_sumOf 12 = .ok (.iload_n 2, 1) := dc1_28 (by decide +kernel)
theorem dX10_sumOf_13 : decode cX10_sumOf 13 = .ok (.iaload, 1) := dc1_46 (by decide +kernel)
theorem dX10_sumOf_14 : decode cX10_sumOf 14 = .ok (.iadd, 1) := dc1_96 (by decide +kernel)
theorem dX10_sumOf_15 : decode cX10_sumOf 15 = .ok (.istore_n 1, 1) := dc1_60 (by decide +kernel)
theorem dX10_sumOf_16 : decode cX10_sumOf 16 = .ok (.iinc 2 1, 3) := dc_iinc (m := 1) (by decide +kernel)
theorem dX10_sumOf_19 : decode cX10_sumOf 19 = .ok (.goto (-15), 3) := dcs_167 (n := 65521) (by decide +kernel)
theorem dX10_sumOf_22 : decode cX10_sumOf 22 = .ok (.iload_n 1, 1) := dc1_27 (by decide +kernel)
theorem dX10_sumOf_23 : decode cX10_sumOf 23 = .ok (.ireturn, 1) := dc1_172 (by decide +kernel)
theorem LX10_tell_19 : Cond.fieldLink RX10 19 "GuessFerry" "sound" "LGuessFerry$Sound;" ∈ wsX10_tell := by decide +kernel
theorem LX10_tell_70 : Cond.fieldLink RX10 70 "GuessFerry" "tellers" "LGuessFerry$Tellers;" ∈ wsX10_tell := by decide +kernel
theorem LX10_tell_E_X5_hasWave : Cond.selects RX5 yX5_hasWave yX5_hasWave ∈ wsX10_tell := by decide +kernel
theorem LX10_tell_E_X8_add : Cond.selects RX8 yX8_add yX8_add ∈ wsX10_tell := by decide +kernel
theorem LX10_tell_I_X5 : Cond.initialized RX5 ∈ wsX10_tell := by decide +kernel
theorem LX10_tell_I_X8 : Cond.initialized RX8 ∈ wsX10_tell := by decide +kernel
theorem LX10_tell_N_X5_hasWave : Cond.instanceMethod yX5_hasWave ∈ wsX10_tell := by decide +kernel
theorem LX10_tell_N_X8_add : Cond.instanceMethod yX8_add ∈ wsX10_tell := by decide +kernel
theorem inX10_tell_X10 : ∀ w ∈ u_ws RX10 TX10 9, w ∈ wsX10_tell := by decide +kernel
set_option maxHeartbeats 4000000 in
set_option maxRecDepth 100000 in
theorem bkX10_tell_43 {l : Launch} {dC : Nat → ClassId} {dI : Nat → Nat → Nat} {cB cI cJ cZ cS : ClassId} {a b b2 c0 : Nat → Nat} {rg sl : Nat → Option Nat} {as : List Value} {r : Int32} {s' : XS} (s : XS) (t0 : Int32) (t1 : Int32) (hB : kX10_tell_43 s t0 t1 = some (r, s')) : BlkI l yX10_tell wsX10_tell ({ frames := 1, cells := 0, slots := 0, locals := 22 }) cX10_tell 4 (some .int) (dC, dI) (tysA cB cI cJ cZ cS) as 43 (wX cB cI cJ cZ cS a b b2 c0 rg sl s) [] [.int t0, .int t1, .ref (a 41)] (fun x u => x = r ∧ u = (wX cB cI cJ cZ cS a b b2 c0 rg sl s')) := by
  intro p e s0 m below meth c A E H locs ls hP hD hS hl
  obtain ⟨C, hr, hlocks, hA, hK, hN⟩ := id E
  obtain ⟨hx, hb, hml, hown, hts⟩ := id C
  unfold kX10_tell_43 at hB
  obtain ⟨q_, s1, hc, hB⟩ := bindI_inv hB
  refine q_goi (wr := ((wG cZ cS a b b2 c0 rg sl s.g) ++ (wD cI b2 s.t) ++ (wD cI b s.n))) (va_runVN (As := [.int t1, .int t0]) (rest := []) C (ckX8_add hc _) ⟨va_cnB 2 hts gX10_tell_X8_add_n263 rfl rfl rfl (hN _ nwM_X10_263 rfl) (hts _ LX10_tell_I_X8) (by decide +kernel) ⟨Nat.le_of_ble_eq_true rfl, Nat.le_of_ble_eq_true rfl⟩, hts _ LX10_tell_N_X8_add, hts _ LX10_tell_E_X8_add⟩ (q_preV hK hP (ci := 8) (q0 := 58) rfl rfl rfl (q_pre hN hK hP hD [17, 18, 19, 20, 21, 22, 23, 24, 25, 26, 27, 28, 29, 30, 31, 32, 33, 34, 35, 36, 37, 38, 39, 40, 41, 42, 43, 44, 45, 46, 47, 48, 49, 50, 51, 52, 53, 54, 55, 56, 57, 58, 59, 60, 61, 62, 63] rfl (by decide))) rfl rfl hl.1 rfl (lv_room (Nat.le_of_ble_eq_true rfl)) dX10_tell_43 ⟨Nat.le_of_ble_eq_true rfl, Nat.le_of_ble_eq_true rfl⟩) hP hD hS hA [17, 18, 19, 20, 21, 22, 23, 24, 25, 26, 27, 28, 29, 30, 31, 32, 33, 34, 35, 36, 37, 38, 39, 40, 41, 42, 43, 44, 45, 46, 47, 48, 49, 50, 51, 52, 53, 54, 55, 56, 57, 58, 59, 60, 61, 62, 63] [0, 1, 2, 3, 4, 5, 6, 7, 8, 9, 10, 11, 12, 13, 14, 15, 16] rfl rfl (by decide) (by decide) (fun r2 w1 H locs hw hP hD hS => ?_)
  obtain ⟨hq_, hw⟩ := hw; subst hw; subst hq_
  obtain ⟨s3, hs4, hB⟩ := letS_inv hB
  have hP : va_P (dC, dI) vwCl (wX cB cI cJ cZ cS a b b2 c0 rg sl s3) H := by subst hs4; exact hP
  have hD : va_D A (wX cB cI cJ cZ cS a b b2 c0 rg sl s3) := by subst hs4; exact hD
  exact q_iret C hr hlocks hK hP hD hS (Nat.le_of_ble_eq_true rfl) (Nat.le_of_ble_eq_true rfl) dX10_tell_46 (by cases hB; exact ⟨rfl, rfl⟩)
set_option maxHeartbeats 4000000 in
set_option maxRecDepth 100000 in
theorem bkX10_tell {l : Launch} {dC : Nat → ClassId} {dI : Nat → Nat → Nat} {cB cI cJ cZ cS : ClassId} {a b b2 c0 : Nat → Nat} {rg sl : Nat → Option Nat} {as : List Value} {r : Int32} {s' : XS} (s : XS) (x1 : Int32) (x2 : Int32) (x3 : Int32) (hB : kX10_tell s x1 x2 x3 = some (r, s')) : BlkI l yX10_tell wsX10_tell ({ frames := 1, cells := 0, slots := 0, locals := 22 }) cX10_tell 4 (some .int) (dC, dI) (tysA cB cI cJ cZ cS) as 0 (wX cB cI cJ cZ cS a b b2 c0 rg sl s) [(0, .ref (c0 0)), (1, .int x1), (2, .int x2), (3, .int x3)] [] (fun x u => x = r ∧ u = (wX cB cI cJ cZ cS a b b2 c0 rg sl s')) := by
  intro p e s0 m below meth c A E H locs ls hP hD hS hl
  obtain ⟨C, hr, hlocks, hA, hK, hN⟩ := id E
  obtain ⟨hx, hb, hml, hown, hts⟩ := id C
  unfold kX10_tell at hB
  refine lv_aload_n hx hb dX10_tell_0 rfl (lv_at hl 0 rfl) ?_
  refine q_get (v := .ref (a 2)) C inX10_tell_X10 hK hP 0 rfl rfl 1 (by decide) rfl LX10_tell_19 rfl dX10_tell_1 ?_
  refine lv_iload_n hx hb dX10_tell_4 rfl (lv_at hl 1 rfl) ?_
  obtain ⟨q_, s1, hc, hB⟩ := bindI_inv hB
  refine q_goi (wr := ((wG cZ cS a b b2 c0 rg sl s.g) ++ (wD cI b2 s.t) ++ (wD cI b s.n))) (va_runVN (As := [.int x1]) (rest := []) C (ckX5_hasWave hc _) ⟨va_cnB 1 hts gX10_tell_X5_hasWave_n108 rfl rfl rfl (hN _ nwM_X10_108 rfl) (hts _ LX10_tell_I_X5) (by decide +kernel) ⟨Nat.le_of_ble_eq_true rfl, Nat.le_of_ble_eq_true rfl⟩, hts _ LX10_tell_N_X5_hasWave, hts _ LX10_tell_E_X5_hasWave⟩ (q_preV hK hP (ci := 5) (q0 := 19) rfl rfl rfl (q_pre hN hK hP hD [17, 18, 19, 20, 21, 22, 23, 24, 25, 26, 27, 28, 29, 30, 31, 32, 33, 34, 35, 36, 37, 38, 39, 40, 41, 42, 43, 44, 45, 46, 47, 48, 49, 50, 51, 52, 53, 54, 55, 56, 57, 58, 59, 60, 61, 62, 63] rfl (by decide))) rfl rfl hl.1 rfl (lv_room (Nat.le_of_ble_eq_true rfl)) dX10_tell_5 ⟨Nat.le_of_ble_eq_true rfl, Nat.le_of_ble_eq_true rfl⟩) hP hD hS hA [17, 18, 19, 20, 21, 22, 23, 24, 25, 26, 27, 28, 29, 30, 31, 32, 33, 34, 35, 36, 37, 38, 39, 40, 41, 42, 43, 44, 45, 46, 47, 48, 49, 50, 51, 52, 53, 54, 55, 56, 57, 58, 59, 60, 61, 62, 63] [0, 1, 2, 3, 4, 5, 6, 7, 8, 9, 10, 11, 12, 13, 14, 15, 16] rfl rfl (by decide) (by decide) (fun r2 w1 H locs hw hP hD hS => ?_)
  obtain ⟨hq_, hw⟩ := hw; subst hw; subst hq_
  obtain ⟨s3, hs4, hB⟩ := letS_inv hB
  have hP : va_P (dC, dI) vwCl (wX cB cI cJ cZ cS a b b2 c0 rg sl s3) H := by subst hs4; exact hP
  have hD : va_D A (wX cB cI cJ cZ cS a b b2 c0 rg sl s3) := by subst hs4; exact hD
  refine lv_if_eq (tgt := 22) hx hb dX10_tell_8 (by decide) (fun c5 => ?_) (fun c5 => ?_)
  · have hB := if_p hB c5
    refine lv_iconst (v := (-1)) hx hb dX10_tell_22 (by decide) ?_
    exact q_iret C hr hlocks hK hP hD hS (Nat.le_of_ble_eq_true rfl) (Nat.le_of_ble_eq_true rfl) dX10_tell_23 (by cases hB; exact ⟨rfl, rfl⟩)
  · have hB := if_n hB c5
    refine lv_iload_n hx hb dX10_tell_11 rfl (lv_at hl 2 rfl) ?_
    refine lv_iconst (v := 1) hx hb dX10_tell_12 (by decide) ?_
    refine lv_icmp_lt (tgt := 22) hx hb dX10_tell_13 (by decide) (fun c6 => ?_) (fun c6 => ?_)
    · have hB := if_p hB c6
      refine lv_iconst (v := (-1)) hx hb dX10_tell_22 (by decide) ?_
      exact q_iret C hr hlocks hK hP hD hS (Nat.le_of_ble_eq_true rfl) (Nat.le_of_ble_eq_true rfl) dX10_tell_23 (by cases hB; exact ⟨rfl, rfl⟩)
    · have hB := if_n hB c6
      refine lv_iload_n hx hb dX10_tell_16 rfl (lv_at hl 2 rfl) ?_
      refine lv_bipush (v := 63) hx hb dX10_tell_17 (by decide) ?_
      refine lv_icmp_le (tgt := 24) hx hb dX10_tell_19 (by decide) (fun c7 => ?_) (fun c7 => ?_)
      · have hB := if_p hB c7
        refine lv_aload_n hx hb dX10_tell_24 rfl (lv_at hl 0 rfl) ?_
        refine q_get (v := .ref (a 41)) C inX10_tell_X10 hK hP 0 rfl rfl 8 (by decide) rfl LX10_tell_70 rfl dX10_tell_25 ?_
        refine lv_iload_n hx hb dX10_tell_28 rfl (lv_at hl 1 rfl) ?_
        refine lv_iload_n hx hb dX10_tell_29 rfl (lv_at hl 3 rfl) ?_
        refine lv_if_eq (tgt := 37) hx hb dX10_tell_30 (by decide) (fun c8 => ?_) (fun c8 => ?_)
        · have hB := if_p hB c8
          refine lv_bipush (v := 63) hx hb dX10_tell_37 (by decide) ?_
          refine lv_iload_n hx hb dX10_tell_39 rfl (lv_at hl 2 rfl) ?_
          refine lv_iconst (v := (-1)) hx hb dX10_tell_40 (by decide) ?_
          refine lv_ixor hx hb dX10_tell_41 ?_
          refine lv_iand hx hb dX10_tell_42 ?_
          exact bkX10_tell_43 _ _ _ hB p e s0 m below meth c A E H locs ls hP hD hS (lv_sub hl [] rfl)
        · have hB := if_n hB c8
          refine lv_iload_n hx hb dX10_tell_33 rfl (lv_at hl 2 rfl) ?_
          refine lv_goto (tgt := 43) hx hb dX10_tell_34 (by decide) ?_
          exact bkX10_tell_43 _ _ _ hB p e s0 m below meth c A E H locs ls hP hD hS (lv_sub hl [] rfl)
      · have hB := if_n hB c7
        refine lv_iconst (v := (-1)) hx hb dX10_tell_22 (by decide) ?_
        exact q_iret C hr hlocks hK hP hD hS (Nat.le_of_ble_eq_true rfl) (Nat.le_of_ble_eq_true rfl) dX10_tell_23 (by cases hB; exact ⟨rfl, rfl⟩)
theorem ckX10_tell {l : Launch} {dC : Nat → ClassId} {dI : Nat → Nat → Nat} {cB cI cJ cZ cS : ClassId} {a b b2 c0 : Nat → Nat} {rg sl : Nat → Option Nat} {r : Int32} {s' : XS} {s : XS} {x1 : Int32} {x2 : Int32} {x3 : Int32} (hB : kX10_tell s x1 x2 x3 = some (r, s')) : CI l yX10_tell wsX10_tell ({ frames := 1, cells := 0, slots := 0, locals := 22 }) (dC, dI) (tysA cB cI cJ cZ cS) (wX cB cI cJ cZ cS a b b2 c0 rg sl s) [.ref (c0 0), .int x1, .int x2, .int x3] (fun x u => x = r ∧ u = (wX cB cI cJ cZ cS a b b2 c0 rg sl s')) :=
  CI_of (cc := cX10_tell) (maxL := 4) (ret := (some .int)) (by decide) rfl (Nat.le_of_ble_eq_true rfl) (bkX10_tell _ _ _ _ hB)
theorem LX10_forget_70 : Cond.fieldLink RX10 70 "GuessFerry" "tellers" "LGuessFerry$Tellers;" ∈ wsX10_forget := by decide +kernel
theorem inX10_forget_X10 : ∀ w ∈ u_ws RX10 TX10 9, w ∈ wsX10_forget := fun _ h => List.mem_cons_of_mem _ (List.mem_append_left _ (List.mem_append_right _ h))
theorem inX10_forget_X8 : ∀ w ∈ u_ws RX8 TX8 8, w ∈ wsX10_forget := fun _ h => List.mem_cons_of_mem _ (List.mem_append_right _ h)
set_option maxHeartbeats 4000000 in
set_option maxRecDepth 100000 in
theorem bkX10_forget {l : Launch} {dC : Nat → ClassId} {dI : Nat → Nat → Nat} {cB cI cJ cZ cS : ClassId} {a b b2 c0 : Nat → Nat} {rg sl : Nat → Option Nat} {as : List Value} {r : Int32} {s' : XS} (s : XS) (hB : kX10_forget s = some (r, s')) : BlkI l yX10_forget wsX10_forget ({ frames := 0, cells := 0, slots := 0, locals := 0 }) cX10_forget 2 (some .int) (dC, dI) (tysA cB cI cJ cZ cS) as 0 (wX cB cI cJ cZ cS a b b2 c0 rg sl s) [(0, .ref (c0 0))] [] (fun x u => x = r ∧ u = (wX cB cI cJ cZ cS a b b2 c0 rg sl s')) := by
  intro p e s0 m below meth c A E H locs ls hP hD hS hl
  obtain ⟨C, hr, hlocks, hA, hK, hN⟩ := id E
  obtain ⟨hx, hb, hml, hown, hts⟩ := id C
  unfold kX10_forget at hB
  refine lv_aload_n hx hb dX10_forget_0 rfl (lv_at hl 0 rfl) ?_
  refine q_get (v := .ref (a 41)) C inX10_forget_X10 hK hP 0 rfl rfl 8 (by decide) rfl LX10_forget_70 rfl dX10_forget_1 ?_
  refine q_getN (v := .int (s.k.v 21)) C hN inX10_forget_X8 hK hP 58 rfl rfl 7 (by decide) rfl nwF_X10_102 rfl dX10_forget_4 ?_
  refine lv_istore_n (lv' := [(1, .int (s.k.v 21)), (0, .ref (c0 0))]) hx hb dX10_forget_7 rfl hl (by decide) rfl (fun ls hl => ?_)
  refine lv_aload_n hx hb dX10_forget_8 rfl (lv_at hl 1 rfl) ?_
  refine q_get (v := .ref (a 41)) C inX10_forget_X10 hK hP 0 rfl rfl 8 (by decide) rfl LX10_forget_70 rfl dX10_forget_9 ?_
  refine lv_iconst (v := 0) hx hb dX10_forget_12 (by decide) ?_
  obtain ⟨s1, hs2, hB⟩ := letS_inv hB
  refine q_putN (ty := .int) (w2 := (wX cB cI cJ cZ cS a b b2 c0 rg sl s1)) tyX8 tyX8_ok nmX8 C hN inX10_forget_X8 hK hP hD hS 58 rfl rfl 7 (by decide) rfl nwF_X10_102 rfl (by decide +kernel) (rfl) rfl (Nat.le_of_ble_eq_true rfl) dX10_forget_13 (by subst hs2; rfl) (fun H locs hP hD hS => ?_)
  refine lv_iload_n hx hb dX10_forget_16 rfl (lv_at hl 0 rfl) ?_
  exact q_iret C hr hlocks hK hP hD hS (Nat.le_of_ble_eq_true rfl) (Nat.le_of_ble_eq_true rfl) dX10_forget_17 (by cases hB; exact ⟨rfl, rfl⟩)
theorem ckX10_forget {l : Launch} {dC : Nat → ClassId} {dI : Nat → Nat → Nat} {cB cI cJ cZ cS : ClassId} {a b b2 c0 : Nat → Nat} {rg sl : Nat → Option Nat} {r : Int32} {s' : XS} {s : XS} (hB : kX10_forget s = some (r, s')) : CI l yX10_forget wsX10_forget ({ frames := 0, cells := 0, slots := 0, locals := 0 }) (dC, dI) (tysA cB cI cJ cZ cS) (wX cB cI cJ cZ cS a b b2 c0 rg sl s) [.ref (c0 0)] (fun x u => x = r ∧ u = (wX cB cI cJ cZ cS a b b2 c0 rg sl s')) :=
  CI_of (cc := cX10_forget) (maxL := 2) (ret := (some .int)) (by decide) rfl (Nat.le_of_ble_eq_true rfl) (bkX10_forget _ hB)
theorem LX10_isHere_19 : Cond.fieldLink RX10 19 "GuessFerry" "sound" "LGuessFerry$Sound;" ∈ wsX10_isHere := by decide +kernel
theorem LX10_isHere_35 : Cond.fieldLink RX10 35 "GuessFerry" "now" "LGuessFerry$Standing;" ∈ wsX10_isHere := by decide +kernel
theorem LX10_isHere_E_X5_hasParty : Cond.selects RX5 yX5_hasParty yX5_hasParty ∈ wsX10_isHere := by decide +kernel
theorem LX10_isHere_I_X5 : Cond.initialized RX5 ∈ wsX10_isHere := by decide +kernel
theorem LX10_isHere_N_X5_hasParty : Cond.instanceMethod yX5_hasParty ∈ wsX10_isHere := by decide +kernel
theorem inX10_isHere_X10 : ∀ w ∈ u_ws RX10 TX10 9, w ∈ wsX10_isHere := by decide +kernel
theorem inX10_isHere_X6 : ∀ w ∈ u_ws RX6 TX6 7, w ∈ wsX10_isHere := by decide +kernel
set_option maxHeartbeats 4000000 in
set_option maxRecDepth 100000 in
theorem bkX10_isHere {l : Launch} {dC : Nat → ClassId} {dI : Nat → Nat → Nat} {cB cI cJ cZ cS : ClassId} {a b b2 c0 : Nat → Nat} {rg sl : Nat → Option Nat} {as : List Value} {r : Int32} {s' : XS} (s : XS) (x1 : Int32) (hB : kX10_isHere s x1 = some (r, s')) : BlkI l yX10_isHere wsX10_isHere ({ frames := 1, cells := 0, slots := 0, locals := 21 }) cX10_isHere 2 (some .boolean) (dC, dI) (tysA cB cI cJ cZ cS) as 0 (wX cB cI cJ cZ cS a b b2 c0 rg sl s) [(0, .ref (c0 0)), (1, .int x1)] [] (fun x u => x = r ∧ u = (wX cB cI cJ cZ cS a b b2 c0 rg sl s')) := by
  intro p e s0 m below meth c A E H locs ls hP hD hS hl
  obtain ⟨C, hr, hlocks, hA, hK, hN⟩ := id E
  obtain ⟨hx, hb, hml, hown, hts⟩ := id C
  unfold kX10_isHere at hB
  refine lv_aload_n hx hb dX10_isHere_0 rfl (lv_at hl 0 rfl) ?_
  refine q_get (v := .ref (a 2)) C inX10_isHere_X10 hK hP 0 rfl rfl 1 (by decide) rfl LX10_isHere_19 rfl dX10_isHere_1 ?_
  refine lv_iload_n hx hb dX10_isHere_4 rfl (lv_at hl 1 rfl) ?_
  obtain ⟨q_, s1, hc, hB⟩ := bindI_inv hB
  refine q_goi (wr := ((wG cZ cS a b b2 c0 rg sl s.g) ++ (wD cI b2 s.t) ++ (wD cI b s.n))) (va_runVN (As := [.int x1]) (rest := []) C (ckX5_hasParty hc _) ⟨va_cnB 1 hts gX10_isHere_X5_hasParty_n138 rfl rfl rfl (hN _ nwM_X10_138 rfl) (hts _ LX10_isHere_I_X5) (by decide +kernel) ⟨Nat.le_of_ble_eq_true rfl, Nat.le_of_ble_eq_true rfl⟩, hts _ LX10_isHere_N_X5_hasParty, hts _ LX10_isHere_E_X5_hasParty⟩ (q_preV hK hP (ci := 5) (q0 := 19) rfl rfl rfl (q_pre hN hK hP hD [17, 18, 19, 20, 21, 22, 23, 24, 25, 26, 27, 28, 29, 30, 31, 32, 33, 34, 35, 36, 37, 38, 39, 40, 41, 42, 43, 44, 45, 46, 47, 48, 49, 50, 51, 52, 53, 54, 55, 56, 57, 58, 59, 60, 61, 62, 63] rfl (by decide))) rfl rfl hl.1 rfl (lv_room (Nat.le_of_ble_eq_true rfl)) dX10_isHere_5 ⟨Nat.le_of_ble_eq_true rfl, Nat.le_of_ble_eq_true rfl⟩) hP hD hS hA [17, 18, 19, 20, 21, 22, 23, 24, 25, 26, 27, 28, 29, 30, 31, 32, 33, 34, 35, 36, 37, 38, 39, 40, 41, 42, 43, 44, 45, 46, 47, 48, 49, 50, 51, 52, 53, 54, 55, 56, 57, 58, 59, 60, 61, 62, 63] [0, 1, 2, 3, 4, 5, 6, 7, 8, 9, 10, 11, 12, 13, 14, 15, 16] rfl rfl (by decide) (by decide) (fun r2 w1 H locs hw hP hD hS => ?_)
  obtain ⟨hq_, hw⟩ := hw; subst hw; subst hq_
  obtain ⟨s3, hs4, hB⟩ := letS_inv hB
  have hP : va_P (dC, dI) vwCl (wX cB cI cJ cZ cS a b b2 c0 rg sl s3) H := by subst hs4; exact hP
  have hD : va_D A (wX cB cI cJ cZ cS a b b2 c0 rg sl s3) := by subst hs4; exact hD
  refine lv_if_eq (tgt := 27) hx hb dX10_isHere_8 (by decide) (fun c5 => ?_) (fun c5 => ?_)
  · have hB := if_p hB c5
    refine lv_iconst (v := 0) hx hb dX10_isHere_27 (by decide) ?_
    exact q_zret C hr hlocks (Or.inl rfl) hK hP hD hS (Nat.le_of_ble_eq_true rfl) (Nat.le_of_ble_eq_true rfl) dX10_isHere_28 (by cases hB; exact ⟨rfl, rfl⟩)
  · have hB := if_n hB c5
    refine lv_aload_n hx hb dX10_isHere_11 rfl (lv_at hl 0 rfl) ?_
    refine q_get (v := .ref (b 0)) C inX10_isHere_X10 hK hP 0 rfl rfl 3 (by decide) rfl LX10_isHere_35 rfl dX10_isHere_12 ?_
    refine q_getN (v := .ref (b 4)) C hN inX10_isHere_X6 hK hP 11 rfl rfl 3 (by decide) rfl nwF_X10_147 rfl dX10_isHere_15 ?_
    refine lv_iload_n hx hb dX10_isHere_18 rfl (lv_at hl 1 rfl) ?_
    obtain ⟨g6, hB⟩ := guard_inv hB
    refine q_iald (x := ((s3.n.f 3) (Int32.toNatClampNeg x1))) C hK hP 15 1 rfl rfl (vpb_in g6) dX10_isHere_19 rfl ?_
    refine lv_if_ne (tgt := 27) hx hb dX10_isHere_20 (by decide) (fun c7 => ?_) (fun c7 => ?_)
    · have hB := if_n hB c7
      refine lv_iconst (v := 0) hx hb dX10_isHere_27 (by decide) ?_
      exact q_zret C hr hlocks (Or.inl rfl) hK hP hD hS (Nat.le_of_ble_eq_true rfl) (Nat.le_of_ble_eq_true rfl) dX10_isHere_28 (by cases hB; exact ⟨rfl, rfl⟩)
    · have hB := if_p hB c7
      refine lv_iconst (v := 1) hx hb dX10_isHere_23 (by decide) ?_
      refine lv_goto (tgt := 28) hx hb dX10_isHere_24 (by decide) ?_
      exact q_zret C hr hlocks (Or.inr rfl) hK hP hD hS (Nat.le_of_ble_eq_true rfl) (Nat.le_of_ble_eq_true rfl) dX10_isHere_28 (by cases hB; exact ⟨rfl, rfl⟩)
theorem ckX10_isHere {l : Launch} {dC : Nat → ClassId} {dI : Nat → Nat → Nat} {cB cI cJ cZ cS : ClassId} {a b b2 c0 : Nat → Nat} {rg sl : Nat → Option Nat} {r : Int32} {s' : XS} {s : XS} {x1 : Int32} (hB : kX10_isHere s x1 = some (r, s')) : CI l yX10_isHere wsX10_isHere ({ frames := 1, cells := 0, slots := 0, locals := 21 }) (dC, dI) (tysA cB cI cJ cZ cS) (wX cB cI cJ cZ cS a b b2 c0 rg sl s) [.ref (c0 0), .int x1] (fun x u => x = r ∧ u = (wX cB cI cJ cZ cS a b b2 c0 rg sl s')) :=
  CI_of (cc := cX10_isHere) (maxL := 2) (ret := (some .boolean)) (by decide) rfl (Nat.le_of_ble_eq_true rfl) (bkX10_isHere _ _ hB)
theorem LX10_partiesThatAre_19 : Cond.fieldLink RX10 19 "GuessFerry" "sound" "LGuessFerry$Sound;" ∈ wsX10_partiesThatAre := by decide +kernel
theorem inX10_partiesThatAre_X10 : ∀ w ∈ u_ws RX10 TX10 9, w ∈ wsX10_partiesThatAre := fun _ h => List.mem_cons_of_mem _ (List.mem_append_left _ (List.mem_append_left _ (List.mem_append_right _ h)))
theorem inX10_partiesThatAre_X5 : ∀ w ∈ u_ws RX5 TX5 10, w ∈ wsX10_partiesThatAre := fun _ h => List.mem_cons_of_mem _ (List.mem_append_left _ (List.mem_append_right _ h))
theorem inX10_partiesThatAre_X6 : ∀ w ∈ u_ws RX6 TX6 7, w ∈ wsX10_partiesThatAre := fun _ h => List.mem_cons_of_mem _ (List.mem_append_right _ h)
set_option maxHeartbeats 4000000 in
set_option maxRecDepth 100000 in
theorem bkX10_partiesThatAre_35 {l : Launch} {dC : Nat → ClassId} {dI : Nat → Nat → Nat} {cB cI cJ cZ cS : ClassId} {a b b2 c0 : Nat → Nat} {rg sl : Nat → Option Nat} {as : List Value} {r : Int32} {s' : XS} {k5 : XS → Int32 → Int32 → Int32 → Option (Int32 × XS)} (hk5 : ∀ (s : XS) (x2 : Int32) (x3 : Int32) (x4 : Int32), k5 s x2 x3 x4 = some (r, s') → BlkI l yX10_partiesThatAre wsX10_partiesThatAre ({ frames := 0, cells := 0, slots := 0, locals := 0 }) cX10_partiesThatAre 5 (some .int) (dC, dI) (tysA cB cI cJ cZ cS) as 5 (wX cB cI cJ cZ cS a b b2 c0 rg sl s) [(0, .ref (c0 0)), (1, .ref (b 0)), (2, .int x2), (3, .int x3), (4, .int x4)] [] (fun x u => x = r ∧ u = (wX cB cI cJ cZ cS a b b2 c0 rg sl s'))) (s : XS) (x2 : Int32) (x3 : Int32) (x4 : Int32) (hB : kX10_partiesThatAre_35 k5 s x2 x3 x4 = some (r, s')) : BlkI l yX10_partiesThatAre wsX10_partiesThatAre ({ frames := 0, cells := 0, slots := 0, locals := 0 }) cX10_partiesThatAre 5 (some .int) (dC, dI) (tysA cB cI cJ cZ cS) as 35 (wX cB cI cJ cZ cS a b b2 c0 rg sl s) [(0, .ref (c0 0)), (1, .ref (b 0)), (2, .int x2), (3, .int x3), (4, .int x4)] [] (fun x u => x = r ∧ u = (wX cB cI cJ cZ cS a b b2 c0 rg sl s')) := by
  intro p e s0 m below meth c A E H locs ls hP hD hS hl
  obtain ⟨C, hr, hlocks, hA, hK, hN⟩ := id E
  obtain ⟨hx, hb, hml, hown, hts⟩ := id C
  unfold kX10_partiesThatAre_35 at hB
  refine lv_iinc (v := (x4 + 1)) (lv' := [(4, .int (x4 + 1)), (0, .ref (c0 0)), (1, .ref (b 0)), (2, .int x2), (3, .int x3)]) hx hb dX10_partiesThatAre_35 hl (k := 4) rfl (rfl) (by decide) rfl (fun ls hl => ?_)
  refine lv_goto (tgt := 5) hx hb dX10_partiesThatAre_38 (by decide) ?_
  exact hk5 _ _ _ _ hB p e s0 m below meth c A E H locs ls hP hD hS (lv_sub hl [1, 2, 3, 4, 0] rfl)
set_option maxHeartbeats 4000000 in
set_option maxRecDepth 100000 in
theorem bkX10_partiesThatAre_5 {l : Launch} {dC : Nat → ClassId} {dI : Nat → Nat → Nat} {cB cI cJ cZ cS : ClassId} {a b b2 c0 : Nat → Nat} {rg sl : Nat → Option Nat} {as : List Value} {r : Int32} {s' : XS} {k5 : XS → Int32 → Int32 → Int32 → Option (Int32 × XS)} (hk5 : ∀ (s : XS) (x2 : Int32) (x3 : Int32) (x4 : Int32), k5 s x2 x3 x4 = some (r, s') → BlkI l yX10_partiesThatAre wsX10_partiesThatAre ({ frames := 0, cells := 0, slots := 0, locals := 0 }) cX10_partiesThatAre 5 (some .int) (dC, dI) (tysA cB cI cJ cZ cS) as 5 (wX cB cI cJ cZ cS a b b2 c0 rg sl s) [(0, .ref (c0 0)), (1, .ref (b 0)), (2, .int x2), (3, .int x3), (4, .int x4)] [] (fun x u => x = r ∧ u = (wX cB cI cJ cZ cS a b b2 c0 rg sl s'))) (s : XS) (x2 : Int32) (x3 : Int32) (x4 : Int32) (hB : kX10_partiesThatAre_5 k5 s x2 x3 x4 = some (r, s')) : BlkI l yX10_partiesThatAre wsX10_partiesThatAre ({ frames := 0, cells := 0, slots := 0, locals := 0 }) cX10_partiesThatAre 5 (some .int) (dC, dI) (tysA cB cI cJ cZ cS) as 5 (wX cB cI cJ cZ cS a b b2 c0 rg sl s) [(0, .ref (c0 0)), (1, .ref (b 0)), (2, .int x2), (3, .int x3), (4, .int x4)] [] (fun x u => x = r ∧ u = (wX cB cI cJ cZ cS a b b2 c0 rg sl s')) := by
  intro p e s0 m below meth c A E H locs ls hP hD hS hl
  obtain ⟨C, hr, hlocks, hA, hK, hN⟩ := id E
  obtain ⟨hx, hb, hml, hown, hts⟩ := id C
  unfold kX10_partiesThatAre_5 at hB
  refine lv_iload hx hb dX10_partiesThatAre_5 (lv_at hl 4 rfl) ?_
  refine lv_aload_n hx hb dX10_partiesThatAre_7 rfl (lv_at hl 0 rfl) ?_
  refine q_get (v := .ref (a 2)) C inX10_partiesThatAre_X10 hK hP 0 rfl rfl 1 (by decide) rfl LX10_partiesThatAre_19 rfl dX10_partiesThatAre_8 ?_
  refine q_getN (v := .int (s.k.v 2)) C hN inX10_partiesThatAre_X5 hK hP 19 rfl rfl 7 (by decide) rfl nwF_X10_235 rfl dX10_partiesThatAre_11 ?_
  refine lv_icmp_ge (tgt := 41) hx hb dX10_partiesThatAre_14 (by decide) (fun c1 => ?_) (fun c1 => ?_)
  · have hB := if_p hB c1
    refine lv_iload_n hx hb dX10_partiesThatAre_41 rfl (lv_at hl 3 rfl) ?_
    exact q_iret C hr hlocks hK hP hD hS (Nat.le_of_ble_eq_true rfl) (Nat.le_of_ble_eq_true rfl) dX10_partiesThatAre_42 (by cases hB; exact ⟨rfl, rfl⟩)
  · have hB := if_n hB c1
    refine lv_aload_n hx hb dX10_partiesThatAre_17 rfl (lv_at hl 1 rfl) ?_
    refine q_getN (v := .ref (b 4)) C hN inX10_partiesThatAre_X6 hK hP 11 rfl rfl 3 (by decide) rfl nwF_X10_147 rfl dX10_partiesThatAre_18 ?_
    refine lv_iload hx hb dX10_partiesThatAre_21 (lv_at hl 4 rfl) ?_
    obtain ⟨g2, hB⟩ := guard_inv hB
    refine q_iald (x := ((s.n.f 3) (Int32.toNatClampNeg x4))) C hK hP 15 1 rfl rfl (vpb_in g2) dX10_partiesThatAre_23 rfl ?_
    refine lv_iload_n hx hb dX10_partiesThatAre_24 rfl (lv_at hl 2 rfl) ?_
    refine lv_icmp_ne (tgt := 35) hx hb dX10_partiesThatAre_25 (by decide) (fun c3 => ?_) (fun c3 => ?_)
    · have hB := if_n hB c3
      exact bkX10_partiesThatAre_35 (hk5) _ _ _ _ hB p e s0 m below meth c A E H locs ls hP hD hS (lv_sub hl [0, 1, 2, 3, 4] rfl)
    · have hB := if_p hB c3
      refine lv_iload_n hx hb dX10_partiesThatAre_28 rfl (lv_at hl 3 rfl) ?_
      refine lv_iconst (v := 1) hx hb dX10_partiesThatAre_29 (by decide) ?_
      refine lv_iload hx hb dX10_partiesThatAre_30 (lv_at hl 4 rfl) ?_
      refine lv_ishl hx hb dX10_partiesThatAre_32 ?_
      refine lv_ior hx hb dX10_partiesThatAre_33 ?_
      refine lv_istore_n (lv' := [(3, .int (x3 ||| (1 <<< (x4 &&& 31)))), (0, .ref (c0 0)), (1, .ref (b 0)), (2, .int x2), (4, .int x4)]) hx hb dX10_partiesThatAre_34 rfl hl (by decide) rfl (fun ls hl => ?_)
      exact bkX10_partiesThatAre_35 (hk5) _ _ _ _ hB p e s0 m below meth c A E H locs ls hP hD hS (lv_sub hl [1, 2, 3, 0, 4] rfl)
theorem bkX10_partiesThatAre_5L {l : Launch} {dC : Nat → ClassId} {dI : Nat → Nat → Nat} {cB cI cJ cZ cS : ClassId} {a b b2 c0 : Nat → Nat} {rg sl : Nat → Option Nat} {as : List Value} {r : Int32} {s' : XS} : ∀ (n : Nat) (s : XS) (x2 : Int32) (x3 : Int32) (x4 : Int32), kX10_partiesThatAre_5L n s x2 x3 x4 = some (r, s') → BlkI l yX10_partiesThatAre wsX10_partiesThatAre ({ frames := 0, cells := 0, slots := 0, locals := 0 }) cX10_partiesThatAre 5 (some .int) (dC, dI) (tysA cB cI cJ cZ cS) as 5 (wX cB cI cJ cZ cS a b b2 c0 rg sl s) [(0, .ref (c0 0)), (1, .ref (b 0)), (2, .int x2), (3, .int x3), (4, .int x4)] [] (fun x u => x = r ∧ u = (wX cB cI cJ cZ cS a b b2 c0 rg sl s')) := by
  intro n
  induction n with
  | zero => intro s x2 x3 x4 hB; exact none_ne hB
  | succ n ih => intro s x2 x3 x4 hB; exact bkX10_partiesThatAre_5 ih _ _ _ _ hB
set_option maxHeartbeats 4000000 in
set_option maxRecDepth 100000 in
theorem bkX10_partiesThatAre {l : Launch} {dC : Nat → ClassId} {dI : Nat → Nat → Nat} {cB cI cJ cZ cS : ClassId} {a b b2 c0 : Nat → Nat} {rg sl : Nat → Option Nat} {as : List Value} {r : Int32} {s' : XS} (s : XS) (x2 : Int32) (hB : kX10_partiesThatAre s x2 = some (r, s')) : BlkI l yX10_partiesThatAre wsX10_partiesThatAre ({ frames := 0, cells := 0, slots := 0, locals := 0 }) cX10_partiesThatAre 5 (some .int) (dC, dI) (tysA cB cI cJ cZ cS) as 0 (wX cB cI cJ cZ cS a b b2 c0 rg sl s) [(0, .ref (c0 0)), (1, .ref (b 0)), (2, .int x2)] [] (fun x u => x = r ∧ u = (wX cB cI cJ cZ cS a b b2 c0 rg sl s')) := by
  intro p e s0 m below meth c A E H locs ls hP hD hS hl
  obtain ⟨C, hr, hlocks, hA, hK, hN⟩ := id E
  obtain ⟨hx, hb, hml, hown, hts⟩ := id C
  unfold kX10_partiesThatAre at hB
  refine lv_iconst (v := 0) hx hb dX10_partiesThatAre_0 (by decide) ?_
  refine lv_istore_n (lv' := [(3, .int 0), (0, .ref (c0 0)), (1, .ref (b 0)), (2, .int x2)]) hx hb dX10_partiesThatAre_1 rfl hl (by decide) rfl (fun ls hl => ?_)
  refine lv_iconst (v := 0) hx hb dX10_partiesThatAre_2 (by decide) ?_
  refine lv_istore (lv' := [(4, .int 0), (3, .int 0), (0, .ref (c0 0)), (1, .ref (b 0)), (2, .int x2)]) hx hb dX10_partiesThatAre_3 hl (by decide) rfl (fun ls hl => ?_)
  exact bkX10_partiesThatAre_5L fu _ _ _ _ hB p e s0 m below meth c A E H locs ls hP hD hS (lv_sub hl [2, 3, 4, 1, 0] rfl)
theorem ckX10_partiesThatAre {l : Launch} {dC : Nat → ClassId} {dI : Nat → Nat → Nat} {cB cI cJ cZ cS : ClassId} {a b b2 c0 : Nat → Nat} {rg sl : Nat → Option Nat} {r : Int32} {s' : XS} {s : XS} {x2 : Int32} (hB : kX10_partiesThatAre s x2 = some (r, s')) : CI l yX10_partiesThatAre wsX10_partiesThatAre ({ frames := 0, cells := 0, slots := 0, locals := 0 }) (dC, dI) (tysA cB cI cJ cZ cS) (wX cB cI cJ cZ cS a b b2 c0 rg sl s) [.ref (c0 0), .ref (b 0), .int x2] (fun x u => x = r ∧ u = (wX cB cI cJ cZ cS a b b2 c0 rg sl s')) :=
  CI_of (cc := cX10_partiesThatAre) (maxL := 5) (ret := (some .int)) (by decide) rfl (Nat.le_of_ble_eq_true rfl) (bkX10_partiesThatAre _ _ hB)
set_option maxHeartbeats 4000000 in
set_option maxRecDepth 100000 in
theorem bkX10_partiesThatAre_t_35 {l : Launch} {dC : Nat → ClassId} {dI : Nat → Nat → Nat} {cB cI cJ cZ cS : ClassId} {a b b2 c0 : Nat → Nat} {rg sl : Nat → Option Nat} {as : List Value} {r : Int32} {s' : XS} {k5 : XS → Int32 → Int32 → Int32 → Option (Int32 × XS)} (hk5 : ∀ (s : XS) (x2 : Int32) (x3 : Int32) (x4 : Int32), k5 s x2 x3 x4 = some (r, s') → BlkI l yX10_partiesThatAre wsX10_partiesThatAre ({ frames := 0, cells := 0, slots := 0, locals := 0 }) cX10_partiesThatAre 5 (some .int) (dC, dI) (tysA cB cI cJ cZ cS) as 5 (wX cB cI cJ cZ cS a b b2 c0 rg sl s) [(0, .ref (c0 0)), (1, .ref (b2 0)), (2, .int x2), (3, .int x3), (4, .int x4)] [] (fun x u => x = r ∧ u = (wX cB cI cJ cZ cS a b b2 c0 rg sl s'))) (s : XS) (x2 : Int32) (x3 : Int32) (x4 : Int32) (hB : kX10_partiesThatAre_t_35 k5 s x2 x3 x4 = some (r, s')) : BlkI l yX10_partiesThatAre wsX10_partiesThatAre ({ frames := 0, cells := 0, slots := 0, locals := 0 }) cX10_partiesThatAre 5 (some .int) (dC, dI) (tysA cB cI cJ cZ cS) as 35 (wX cB cI cJ cZ cS a b b2 c0 rg sl s) [(0, .ref (c0 0)), (1, .ref (b2 0)), (2, .int x2), (3, .int x3), (4, .int x4)] [] (fun x u => x = r ∧ u = (wX cB cI cJ cZ cS a b b2 c0 rg sl s')) := by
  intro p e s0 m below meth c A E H locs ls hP hD hS hl
  obtain ⟨C, hr, hlocks, hA, hK, hN⟩ := id E
  obtain ⟨hx, hb, hml, hown, hts⟩ := id C
  unfold kX10_partiesThatAre_t_35 at hB
  refine lv_iinc (v := (x4 + 1)) (lv' := [(4, .int (x4 + 1)), (0, .ref (c0 0)), (1, .ref (b2 0)), (2, .int x2), (3, .int x3)]) hx hb dX10_partiesThatAre_35 hl (k := 4) rfl (rfl) (by decide) rfl (fun ls hl => ?_)
  refine lv_goto (tgt := 5) hx hb dX10_partiesThatAre_38 (by decide) ?_
  exact hk5 _ _ _ _ hB p e s0 m below meth c A E H locs ls hP hD hS (lv_sub hl [1, 2, 3, 4, 0] rfl)
set_option maxHeartbeats 4000000 in
set_option maxRecDepth 100000 in
theorem bkX10_partiesThatAre_t_5 {l : Launch} {dC : Nat → ClassId} {dI : Nat → Nat → Nat} {cB cI cJ cZ cS : ClassId} {a b b2 c0 : Nat → Nat} {rg sl : Nat → Option Nat} {as : List Value} {r : Int32} {s' : XS} {k5 : XS → Int32 → Int32 → Int32 → Option (Int32 × XS)} (hk5 : ∀ (s : XS) (x2 : Int32) (x3 : Int32) (x4 : Int32), k5 s x2 x3 x4 = some (r, s') → BlkI l yX10_partiesThatAre wsX10_partiesThatAre ({ frames := 0, cells := 0, slots := 0, locals := 0 }) cX10_partiesThatAre 5 (some .int) (dC, dI) (tysA cB cI cJ cZ cS) as 5 (wX cB cI cJ cZ cS a b b2 c0 rg sl s) [(0, .ref (c0 0)), (1, .ref (b2 0)), (2, .int x2), (3, .int x3), (4, .int x4)] [] (fun x u => x = r ∧ u = (wX cB cI cJ cZ cS a b b2 c0 rg sl s'))) (s : XS) (x2 : Int32) (x3 : Int32) (x4 : Int32) (hB : kX10_partiesThatAre_t_5 k5 s x2 x3 x4 = some (r, s')) : BlkI l yX10_partiesThatAre wsX10_partiesThatAre ({ frames := 0, cells := 0, slots := 0, locals := 0 }) cX10_partiesThatAre 5 (some .int) (dC, dI) (tysA cB cI cJ cZ cS) as 5 (wX cB cI cJ cZ cS a b b2 c0 rg sl s) [(0, .ref (c0 0)), (1, .ref (b2 0)), (2, .int x2), (3, .int x3), (4, .int x4)] [] (fun x u => x = r ∧ u = (wX cB cI cJ cZ cS a b b2 c0 rg sl s')) := by
  intro p e s0 m below meth c A E H locs ls hP hD hS hl
  obtain ⟨C, hr, hlocks, hA, hK, hN⟩ := id E
  obtain ⟨hx, hb, hml, hown, hts⟩ := id C
  unfold kX10_partiesThatAre_t_5 at hB
  refine lv_iload hx hb dX10_partiesThatAre_5 (lv_at hl 4 rfl) ?_
  refine lv_aload_n hx hb dX10_partiesThatAre_7 rfl (lv_at hl 0 rfl) ?_
  refine q_get (v := .ref (a 2)) C inX10_partiesThatAre_X10 hK hP 0 rfl rfl 1 (by decide) rfl LX10_partiesThatAre_19 rfl dX10_partiesThatAre_8 ?_
  refine q_getN (v := .int (s.k.v 2)) C hN inX10_partiesThatAre_X5 hK hP 19 rfl rfl 7 (by decide) rfl nwF_X10_235 rfl dX10_partiesThatAre_11 ?_
  refine lv_icmp_ge (tgt := 41) hx hb dX10_partiesThatAre_14 (by decide) (fun c1 => ?_) (fun c1 => ?_)
  · have hB := if_p hB c1
    refine lv_iload_n hx hb dX10_partiesThatAre_41 rfl (lv_at hl 3 rfl) ?_
    exact q_iret C hr hlocks hK hP hD hS (Nat.le_of_ble_eq_true rfl) (Nat.le_of_ble_eq_true rfl) dX10_partiesThatAre_42 (by cases hB; exact ⟨rfl, rfl⟩)
  · have hB := if_n hB c1
    refine lv_aload_n hx hb dX10_partiesThatAre_17 rfl (lv_at hl 1 rfl) ?_
    refine q_getN (v := .ref (b2 4)) C hN inX10_partiesThatAre_X6 hK hP 5 rfl rfl 3 (by decide) rfl nwF_X10_147 rfl dX10_partiesThatAre_18 ?_
    refine lv_iload hx hb dX10_partiesThatAre_21 (lv_at hl 4 rfl) ?_
    obtain ⟨g2, hB⟩ := guard_inv hB
    refine q_iald (x := ((s.t.f 3) (Int32.toNatClampNeg x4))) C hK hP 9 1 rfl rfl (vpb_in g2) dX10_partiesThatAre_23 rfl ?_
    refine lv_iload_n hx hb dX10_partiesThatAre_24 rfl (lv_at hl 2 rfl) ?_
    refine lv_icmp_ne (tgt := 35) hx hb dX10_partiesThatAre_25 (by decide) (fun c3 => ?_) (fun c3 => ?_)
    · have hB := if_n hB c3
      exact bkX10_partiesThatAre_t_35 (hk5) _ _ _ _ hB p e s0 m below meth c A E H locs ls hP hD hS (lv_sub hl [0, 1, 2, 3, 4] rfl)
    · have hB := if_p hB c3
      refine lv_iload_n hx hb dX10_partiesThatAre_28 rfl (lv_at hl 3 rfl) ?_
      refine lv_iconst (v := 1) hx hb dX10_partiesThatAre_29 (by decide) ?_
      refine lv_iload hx hb dX10_partiesThatAre_30 (lv_at hl 4 rfl) ?_
      refine lv_ishl hx hb dX10_partiesThatAre_32 ?_
      refine lv_ior hx hb dX10_partiesThatAre_33 ?_
      refine lv_istore_n (lv' := [(3, .int (x3 ||| (1 <<< (x4 &&& 31)))), (0, .ref (c0 0)), (1, .ref (b2 0)), (2, .int x2), (4, .int x4)]) hx hb dX10_partiesThatAre_34 rfl hl (by decide) rfl (fun ls hl => ?_)
      exact bkX10_partiesThatAre_t_35 (hk5) _ _ _ _ hB p e s0 m below meth c A E H locs ls hP hD hS (lv_sub hl [1, 2, 3, 0, 4] rfl)
theorem bkX10_partiesThatAre_t_5L {l : Launch} {dC : Nat → ClassId} {dI : Nat → Nat → Nat} {cB cI cJ cZ cS : ClassId} {a b b2 c0 : Nat → Nat} {rg sl : Nat → Option Nat} {as : List Value} {r : Int32} {s' : XS} : ∀ (n : Nat) (s : XS) (x2 : Int32) (x3 : Int32) (x4 : Int32), kX10_partiesThatAre_t_5L n s x2 x3 x4 = some (r, s') → BlkI l yX10_partiesThatAre wsX10_partiesThatAre ({ frames := 0, cells := 0, slots := 0, locals := 0 }) cX10_partiesThatAre 5 (some .int) (dC, dI) (tysA cB cI cJ cZ cS) as 5 (wX cB cI cJ cZ cS a b b2 c0 rg sl s) [(0, .ref (c0 0)), (1, .ref (b2 0)), (2, .int x2), (3, .int x3), (4, .int x4)] [] (fun x u => x = r ∧ u = (wX cB cI cJ cZ cS a b b2 c0 rg sl s')) := by
  intro n
  induction n with
  | zero => intro s x2 x3 x4 hB; exact none_ne hB
  | succ n ih => intro s x2 x3 x4 hB; exact bkX10_partiesThatAre_t_5 ih _ _ _ _ hB
set_option maxHeartbeats 4000000 in
set_option maxRecDepth 100000 in
theorem bkX10_partiesThatAre_t {l : Launch} {dC : Nat → ClassId} {dI : Nat → Nat → Nat} {cB cI cJ cZ cS : ClassId} {a b b2 c0 : Nat → Nat} {rg sl : Nat → Option Nat} {as : List Value} {r : Int32} {s' : XS} (s : XS) (x2 : Int32) (hB : kX10_partiesThatAre_t s x2 = some (r, s')) : BlkI l yX10_partiesThatAre wsX10_partiesThatAre ({ frames := 0, cells := 0, slots := 0, locals := 0 }) cX10_partiesThatAre 5 (some .int) (dC, dI) (tysA cB cI cJ cZ cS) as 0 (wX cB cI cJ cZ cS a b b2 c0 rg sl s) [(0, .ref (c0 0)), (1, .ref (b2 0)), (2, .int x2)] [] (fun x u => x = r ∧ u = (wX cB cI cJ cZ cS a b b2 c0 rg sl s')) := by
  intro p e s0 m below meth c A E H locs ls hP hD hS hl
  obtain ⟨C, hr, hlocks, hA, hK, hN⟩ := id E
  obtain ⟨hx, hb, hml, hown, hts⟩ := id C
  unfold kX10_partiesThatAre_t at hB
  refine lv_iconst (v := 0) hx hb dX10_partiesThatAre_0 (by decide) ?_
  refine lv_istore_n (lv' := [(3, .int 0), (0, .ref (c0 0)), (1, .ref (b2 0)), (2, .int x2)]) hx hb dX10_partiesThatAre_1 rfl hl (by decide) rfl (fun ls hl => ?_)
  refine lv_iconst (v := 0) hx hb dX10_partiesThatAre_2 (by decide) ?_
  refine lv_istore (lv' := [(4, .int 0), (3, .int 0), (0, .ref (c0 0)), (1, .ref (b2 0)), (2, .int x2)]) hx hb dX10_partiesThatAre_3 hl (by decide) rfl (fun ls hl => ?_)
  exact bkX10_partiesThatAre_t_5L fu _ _ _ _ hB p e s0 m below meth c A E H locs ls hP hD hS (lv_sub hl [2, 3, 4, 1, 0] rfl)
theorem ckX10_partiesThatAre_t {l : Launch} {dC : Nat → ClassId} {dI : Nat → Nat → Nat} {cB cI cJ cZ cS : ClassId} {a b b2 c0 : Nat → Nat} {rg sl : Nat → Option Nat} {r : Int32} {s' : XS} {s : XS} {x2 : Int32} (hB : kX10_partiesThatAre_t s x2 = some (r, s')) : CI l yX10_partiesThatAre wsX10_partiesThatAre ({ frames := 0, cells := 0, slots := 0, locals := 0 }) (dC, dI) (tysA cB cI cJ cZ cS) (wX cB cI cJ cZ cS a b b2 c0 rg sl s) [.ref (c0 0), .ref (b2 0), .int x2] (fun x u => x = r ∧ u = (wX cB cI cJ cZ cS a b b2 c0 rg sl s')) :=
  CI_of (cc := cX10_partiesThatAre) (maxL := 5) (ret := (some .int)) (by decide) rfl (Nat.le_of_ble_eq_true rfl) (bkX10_partiesThatAre_t _ _ hB)
theorem LX10_wavesFound_19 : Cond.fieldLink RX10 19 "GuessFerry" "sound" "LGuessFerry$Sound;" ∈ wsX10_wavesFound := by decide +kernel
theorem LX10_wavesFound_35 : Cond.fieldLink RX10 35 "GuessFerry" "now" "LGuessFerry$Standing;" ∈ wsX10_wavesFound := by decide +kernel
theorem inX10_wavesFound_X10 : ∀ w ∈ u_ws RX10 TX10 9, w ∈ wsX10_wavesFound := fun _ h => List.mem_cons_of_mem _ (List.mem_append_left _ (List.mem_append_left _ (List.mem_append_right _ h)))
theorem inX10_wavesFound_X5 : ∀ w ∈ u_ws RX5 TX5 10, w ∈ wsX10_wavesFound := fun _ h => List.mem_cons_of_mem _ (List.mem_append_left _ (List.mem_append_right _ h))
theorem inX10_wavesFound_X6 : ∀ w ∈ u_ws RX6 TX6 7, w ∈ wsX10_wavesFound := fun _ h => List.mem_cons_of_mem _ (List.mem_append_right _ h)
set_option maxHeartbeats 4000000 in
set_option maxRecDepth 100000 in
theorem bkX10_wavesFound_34 {l : Launch} {dC : Nat → ClassId} {dI : Nat → Nat → Nat} {cB cI cJ cZ cS : ClassId} {a b b2 c0 : Nat → Nat} {rg sl : Nat → Option Nat} {as : List Value} {r : Int32} {s' : XS} {k4 : XS → Int32 → Int32 → Option (Int32 × XS)} (hk4 : ∀ (s : XS) (x1 : Int32) (x2 : Int32), k4 s x1 x2 = some (r, s') → BlkI l yX10_wavesFound wsX10_wavesFound ({ frames := 0, cells := 0, slots := 0, locals := 0 }) cX10_wavesFound 3 (some .int) (dC, dI) (tysA cB cI cJ cZ cS) as 4 (wX cB cI cJ cZ cS a b b2 c0 rg sl s) [(0, .ref (c0 0)), (1, .int x1), (2, .int x2)] [] (fun x u => x = r ∧ u = (wX cB cI cJ cZ cS a b b2 c0 rg sl s'))) (s : XS) (x1 : Int32) (x2 : Int32) (hB : kX10_wavesFound_34 k4 s x1 x2 = some (r, s')) : BlkI l yX10_wavesFound wsX10_wavesFound ({ frames := 0, cells := 0, slots := 0, locals := 0 }) cX10_wavesFound 3 (some .int) (dC, dI) (tysA cB cI cJ cZ cS) as 34 (wX cB cI cJ cZ cS a b b2 c0 rg sl s) [(0, .ref (c0 0)), (1, .int x1), (2, .int x2)] [] (fun x u => x = r ∧ u = (wX cB cI cJ cZ cS a b b2 c0 rg sl s')) := by
  intro p e s0 m below meth c A E H locs ls hP hD hS hl
  obtain ⟨C, hr, hlocks, hA, hK, hN⟩ := id E
  obtain ⟨hx, hb, hml, hown, hts⟩ := id C
  unfold kX10_wavesFound_34 at hB
  refine lv_iinc (v := (x2 + 1)) (lv' := [(2, .int (x2 + 1)), (0, .ref (c0 0)), (1, .int x1)]) hx hb dX10_wavesFound_34 hl (k := 2) rfl (rfl) (by decide) rfl (fun ls hl => ?_)
  refine lv_goto (tgt := 4) hx hb dX10_wavesFound_37 (by decide) ?_
  exact hk4 _ _ _ hB p e s0 m below meth c A E H locs ls hP hD hS (lv_sub hl [1, 2, 0] rfl)
set_option maxHeartbeats 4000000 in
set_option maxRecDepth 100000 in
theorem bkX10_wavesFound_4 {l : Launch} {dC : Nat → ClassId} {dI : Nat → Nat → Nat} {cB cI cJ cZ cS : ClassId} {a b b2 c0 : Nat → Nat} {rg sl : Nat → Option Nat} {as : List Value} {r : Int32} {s' : XS} {k4 : XS → Int32 → Int32 → Option (Int32 × XS)} (hk4 : ∀ (s : XS) (x1 : Int32) (x2 : Int32), k4 s x1 x2 = some (r, s') → BlkI l yX10_wavesFound wsX10_wavesFound ({ frames := 0, cells := 0, slots := 0, locals := 0 }) cX10_wavesFound 3 (some .int) (dC, dI) (tysA cB cI cJ cZ cS) as 4 (wX cB cI cJ cZ cS a b b2 c0 rg sl s) [(0, .ref (c0 0)), (1, .int x1), (2, .int x2)] [] (fun x u => x = r ∧ u = (wX cB cI cJ cZ cS a b b2 c0 rg sl s'))) (s : XS) (x1 : Int32) (x2 : Int32) (hB : kX10_wavesFound_4 k4 s x1 x2 = some (r, s')) : BlkI l yX10_wavesFound wsX10_wavesFound ({ frames := 0, cells := 0, slots := 0, locals := 0 }) cX10_wavesFound 3 (some .int) (dC, dI) (tysA cB cI cJ cZ cS) as 4 (wX cB cI cJ cZ cS a b b2 c0 rg sl s) [(0, .ref (c0 0)), (1, .int x1), (2, .int x2)] [] (fun x u => x = r ∧ u = (wX cB cI cJ cZ cS a b b2 c0 rg sl s')) := by
  intro p e s0 m below meth c A E H locs ls hP hD hS hl
  obtain ⟨C, hr, hlocks, hA, hK, hN⟩ := id E
  obtain ⟨hx, hb, hml, hown, hts⟩ := id C
  unfold kX10_wavesFound_4 at hB
  refine lv_iload_n hx hb dX10_wavesFound_4 rfl (lv_at hl 2 rfl) ?_
  refine lv_aload_n hx hb dX10_wavesFound_5 rfl (lv_at hl 0 rfl) ?_
  refine q_get (v := .ref (a 2)) C inX10_wavesFound_X10 hK hP 0 rfl rfl 1 (by decide) rfl LX10_wavesFound_19 rfl dX10_wavesFound_6 ?_
  refine q_getN (v := .int (s.k.v 1)) C hN inX10_wavesFound_X5 hK hP 19 rfl rfl 6 (by decide) rfl nwF_X10_167 rfl dX10_wavesFound_9 ?_
  refine lv_icmp_ge (tgt := 40) hx hb dX10_wavesFound_12 (by decide) (fun c1 => ?_) (fun c1 => ?_)
  · have hB := if_p hB c1
    refine lv_iload_n hx hb dX10_wavesFound_40 rfl (lv_at hl 1 rfl) ?_
    exact q_iret C hr hlocks hK hP hD hS (Nat.le_of_ble_eq_true rfl) (Nat.le_of_ble_eq_true rfl) dX10_wavesFound_41 (by cases hB; exact ⟨rfl, rfl⟩)
  · have hB := if_n hB c1
    refine lv_aload_n hx hb dX10_wavesFound_15 rfl (lv_at hl 0 rfl) ?_
    refine q_get (v := .ref (b 0)) C inX10_wavesFound_X10 hK hP 0 rfl rfl 3 (by decide) rfl LX10_wavesFound_35 rfl dX10_wavesFound_16 ?_
    refine q_getN (v := .ref (b 1)) C hN inX10_wavesFound_X6 hK hP 11 rfl rfl 0 (by decide) rfl nwF_X10_115 rfl dX10_wavesFound_19 ?_
    refine lv_iload_n hx hb dX10_wavesFound_22 rfl (lv_at hl 2 rfl) ?_
    obtain ⟨g2, hB⟩ := guard_inv hB
    refine q_iald (x := ((s.n.f 0) (Int32.toNatClampNeg x2))) C hK hP 12 1 rfl rfl (vpb_in g2) dX10_wavesFound_23 rfl ?_
    refine lv_iconst (v := (-1)) hx hb dX10_wavesFound_24 (by decide) ?_
    refine lv_icmp_eq (tgt := 34) hx hb dX10_wavesFound_25 (by decide) (fun c3 => ?_) (fun c3 => ?_)
    · have hB := if_p hB c3
      exact bkX10_wavesFound_34 (hk4) _ _ _ hB p e s0 m below meth c A E H locs ls hP hD hS (lv_sub hl [0, 1, 2] rfl)
    · have hB := if_n hB c3
      refine lv_iload_n hx hb dX10_wavesFound_28 rfl (lv_at hl 1 rfl) ?_
      refine lv_iconst (v := 1) hx hb dX10_wavesFound_29 (by decide) ?_
      refine lv_iload_n hx hb dX10_wavesFound_30 rfl (lv_at hl 2 rfl) ?_
      refine lv_ishl hx hb dX10_wavesFound_31 ?_
      refine lv_ior hx hb dX10_wavesFound_32 ?_
      refine lv_istore_n (lv' := [(1, .int (x1 ||| (1 <<< (x2 &&& 31)))), (0, .ref (c0 0)), (2, .int x2)]) hx hb dX10_wavesFound_33 rfl hl (by decide) rfl (fun ls hl => ?_)
      exact bkX10_wavesFound_34 (hk4) _ _ _ hB p e s0 m below meth c A E H locs ls hP hD hS (lv_sub hl [1, 0, 2] rfl)
theorem bkX10_wavesFound_4L {l : Launch} {dC : Nat → ClassId} {dI : Nat → Nat → Nat} {cB cI cJ cZ cS : ClassId} {a b b2 c0 : Nat → Nat} {rg sl : Nat → Option Nat} {as : List Value} {r : Int32} {s' : XS} : ∀ (n : Nat) (s : XS) (x1 : Int32) (x2 : Int32), kX10_wavesFound_4L n s x1 x2 = some (r, s') → BlkI l yX10_wavesFound wsX10_wavesFound ({ frames := 0, cells := 0, slots := 0, locals := 0 }) cX10_wavesFound 3 (some .int) (dC, dI) (tysA cB cI cJ cZ cS) as 4 (wX cB cI cJ cZ cS a b b2 c0 rg sl s) [(0, .ref (c0 0)), (1, .int x1), (2, .int x2)] [] (fun x u => x = r ∧ u = (wX cB cI cJ cZ cS a b b2 c0 rg sl s')) := by
  intro n
  induction n with
  | zero => intro s x1 x2 hB; exact none_ne hB
  | succ n ih => intro s x1 x2 hB; exact bkX10_wavesFound_4 ih _ _ _ hB
set_option maxHeartbeats 4000000 in
set_option maxRecDepth 100000 in
theorem bkX10_wavesFound {l : Launch} {dC : Nat → ClassId} {dI : Nat → Nat → Nat} {cB cI cJ cZ cS : ClassId} {a b b2 c0 : Nat → Nat} {rg sl : Nat → Option Nat} {as : List Value} {r : Int32} {s' : XS} (s : XS) (hB : kX10_wavesFound s = some (r, s')) : BlkI l yX10_wavesFound wsX10_wavesFound ({ frames := 0, cells := 0, slots := 0, locals := 0 }) cX10_wavesFound 3 (some .int) (dC, dI) (tysA cB cI cJ cZ cS) as 0 (wX cB cI cJ cZ cS a b b2 c0 rg sl s) [(0, .ref (c0 0))] [] (fun x u => x = r ∧ u = (wX cB cI cJ cZ cS a b b2 c0 rg sl s')) := by
  intro p e s0 m below meth c A E H locs ls hP hD hS hl
  obtain ⟨C, hr, hlocks, hA, hK, hN⟩ := id E
  obtain ⟨hx, hb, hml, hown, hts⟩ := id C
  unfold kX10_wavesFound at hB
  refine lv_iconst (v := 0) hx hb dX10_wavesFound_0 (by decide) ?_
  refine lv_istore_n (lv' := [(1, .int 0), (0, .ref (c0 0))]) hx hb dX10_wavesFound_1 rfl hl (by decide) rfl (fun ls hl => ?_)
  refine lv_iconst (v := 0) hx hb dX10_wavesFound_2 (by decide) ?_
  refine lv_istore_n (lv' := [(2, .int 0), (1, .int 0), (0, .ref (c0 0))]) hx hb dX10_wavesFound_3 rfl hl (by decide) rfl (fun ls hl => ?_)
  exact bkX10_wavesFound_4L fu _ _ _ hB p e s0 m below meth c A E H locs ls hP hD hS (lv_sub hl [2, 1, 0] rfl)
theorem ckX10_wavesFound {l : Launch} {dC : Nat → ClassId} {dI : Nat → Nat → Nat} {cB cI cJ cZ cS : ClassId} {a b b2 c0 : Nat → Nat} {rg sl : Nat → Option Nat} {r : Int32} {s' : XS} {s : XS} (hB : kX10_wavesFound s = some (r, s')) : CI l yX10_wavesFound wsX10_wavesFound ({ frames := 0, cells := 0, slots := 0, locals := 0 }) (dC, dI) (tysA cB cI cJ cZ cS) (wX cB cI cJ cZ cS a b b2 c0 rg sl s) [.ref (c0 0)] (fun x u => x = r ∧ u = (wX cB cI cJ cZ cS a b b2 c0 rg sl s')) :=
  CI_of (cc := cX10_wavesFound) (maxL := 3) (ret := (some .int)) (by decide) rfl (Nat.le_of_ble_eq_true rfl) (bkX10_wavesFound _ hB)
theorem LX10_wavesWithNothing_19 : Cond.fieldLink RX10 19 "GuessFerry" "sound" "LGuessFerry$Sound;" ∈ wsX10_wavesWithNothing := by decide +kernel
theorem LX10_wavesWithNothing_35 : Cond.fieldLink RX10 35 "GuessFerry" "now" "LGuessFerry$Standing;" ∈ wsX10_wavesWithNothing := by decide +kernel
theorem LX10_wavesWithNothing_54 : Cond.fieldLink RX10 54 "GuessFerry" "crossing" "LGuessFerry$Crossing;" ∈ wsX10_wavesWithNothing := by decide +kernel
theorem LX10_wavesWithNothing_E_X0_mayBe : Cond.selects RX0 yX0_mayBe yX0_mayBe ∈ wsX10_wavesWithNothing := by decide +kernel
theorem LX10_wavesWithNothing_I_X0 : Cond.initialized RX0 ∈ wsX10_wavesWithNothing := by decide +kernel
theorem LX10_wavesWithNothing_N_X0_mayBe : Cond.instanceMethod yX0_mayBe ∈ wsX10_wavesWithNothing := by decide +kernel
theorem inX10_wavesWithNothing_X10 : ∀ w ∈ u_ws RX10 TX10 9, w ∈ wsX10_wavesWithNothing := by decide +kernel
theorem inX10_wavesWithNothing_X5 : ∀ w ∈ u_ws RX5 TX5 10, w ∈ wsX10_wavesWithNothing := by decide +kernel
set_option maxHeartbeats 4000000 in
set_option maxRecDepth 100000 in
theorem bkX10_wavesWithNothing_36 {l : Launch} {dC : Nat → ClassId} {dI : Nat → Nat → Nat} {cB cI cJ cZ cS : ClassId} {a b b2 c0 : Nat → Nat} {rg sl : Nat → Option Nat} {as : List Value} {r : Int32} {s' : XS} {k4 : XS → Int32 → Int32 → Option (Int32 × XS)} (hk4 : ∀ (s : XS) (x1 : Int32) (x2 : Int32), k4 s x1 x2 = some (r, s') → BlkI l yX10_wavesWithNothing wsX10_wavesWithNothing ({ frames := 1, cells := 0, slots := 0, locals := 22 }) cX10_wavesWithNothing 3 (some .int) (dC, dI) (tysA cB cI cJ cZ cS) as 4 (wX cB cI cJ cZ cS a b b2 c0 rg sl s) [(0, .ref (c0 0)), (1, .int x1), (2, .int x2)] [] (fun x u => x = r ∧ u = (wX cB cI cJ cZ cS a b b2 c0 rg sl s'))) (s : XS) (x1 : Int32) (x2 : Int32) (hB : kX10_wavesWithNothing_36 k4 s x1 x2 = some (r, s')) : BlkI l yX10_wavesWithNothing wsX10_wavesWithNothing ({ frames := 1, cells := 0, slots := 0, locals := 22 }) cX10_wavesWithNothing 3 (some .int) (dC, dI) (tysA cB cI cJ cZ cS) as 36 (wX cB cI cJ cZ cS a b b2 c0 rg sl s) [(0, .ref (c0 0)), (1, .int x1), (2, .int x2)] [] (fun x u => x = r ∧ u = (wX cB cI cJ cZ cS a b b2 c0 rg sl s')) := by
  intro p e s0 m below meth c A E H locs ls hP hD hS hl
  obtain ⟨C, hr, hlocks, hA, hK, hN⟩ := id E
  obtain ⟨hx, hb, hml, hown, hts⟩ := id C
  unfold kX10_wavesWithNothing_36 at hB
  refine lv_iinc (v := (x2 + 1)) (lv' := [(2, .int (x2 + 1)), (0, .ref (c0 0)), (1, .int x1)]) hx hb dX10_wavesWithNothing_36 hl (k := 2) rfl (rfl) (by decide) rfl (fun ls hl => ?_)
  refine lv_goto (tgt := 4) hx hb dX10_wavesWithNothing_39 (by decide) ?_
  exact hk4 _ _ _ hB p e s0 m below meth c A E H locs ls hP hD hS (lv_sub hl [1, 2, 0] rfl)
set_option maxHeartbeats 4000000 in
set_option maxRecDepth 100000 in
theorem bkX10_wavesWithNothing_4 {l : Launch} {dC : Nat → ClassId} {dI : Nat → Nat → Nat} {cB cI cJ cZ cS : ClassId} {a b b2 c0 : Nat → Nat} {rg sl : Nat → Option Nat} {as : List Value} {r : Int32} {s' : XS} {k4 : XS → Int32 → Int32 → Option (Int32 × XS)} (hk4 : ∀ (s : XS) (x1 : Int32) (x2 : Int32), k4 s x1 x2 = some (r, s') → BlkI l yX10_wavesWithNothing wsX10_wavesWithNothing ({ frames := 1, cells := 0, slots := 0, locals := 22 }) cX10_wavesWithNothing 3 (some .int) (dC, dI) (tysA cB cI cJ cZ cS) as 4 (wX cB cI cJ cZ cS a b b2 c0 rg sl s) [(0, .ref (c0 0)), (1, .int x1), (2, .int x2)] [] (fun x u => x = r ∧ u = (wX cB cI cJ cZ cS a b b2 c0 rg sl s'))) (s : XS) (x1 : Int32) (x2 : Int32) (hB : kX10_wavesWithNothing_4 k4 s x1 x2 = some (r, s')) : BlkI l yX10_wavesWithNothing wsX10_wavesWithNothing ({ frames := 1, cells := 0, slots := 0, locals := 22 }) cX10_wavesWithNothing 3 (some .int) (dC, dI) (tysA cB cI cJ cZ cS) as 4 (wX cB cI cJ cZ cS a b b2 c0 rg sl s) [(0, .ref (c0 0)), (1, .int x1), (2, .int x2)] [] (fun x u => x = r ∧ u = (wX cB cI cJ cZ cS a b b2 c0 rg sl s')) := by
  intro p e s0 m below meth c A E H locs ls hP hD hS hl
  obtain ⟨C, hr, hlocks, hA, hK, hN⟩ := id E
  obtain ⟨hx, hb, hml, hown, hts⟩ := id C
  unfold kX10_wavesWithNothing_4 at hB
  refine lv_iload_n hx hb dX10_wavesWithNothing_4 rfl (lv_at hl 2 rfl) ?_
  refine lv_aload_n hx hb dX10_wavesWithNothing_5 rfl (lv_at hl 0 rfl) ?_
  refine q_get (v := .ref (a 2)) C inX10_wavesWithNothing_X10 hK hP 0 rfl rfl 1 (by decide) rfl LX10_wavesWithNothing_19 rfl dX10_wavesWithNothing_6 ?_
  refine q_getN (v := .int (s.k.v 1)) C hN inX10_wavesWithNothing_X5 hK hP 19 rfl rfl 6 (by decide) rfl nwF_X10_167 rfl dX10_wavesWithNothing_9 ?_
  refine lv_icmp_ge (tgt := 42) hx hb dX10_wavesWithNothing_12 (by decide) (fun c1 => ?_) (fun c1 => ?_)
  · have hB := if_p hB c1
    refine lv_iload_n hx hb dX10_wavesWithNothing_42 rfl (lv_at hl 1 rfl) ?_
    exact q_iret C hr hlocks hK hP hD hS (Nat.le_of_ble_eq_true rfl) (Nat.le_of_ble_eq_true rfl) dX10_wavesWithNothing_43 (by cases hB; exact ⟨rfl, rfl⟩)
  · have hB := if_n hB c1
    refine lv_aload_n hx hb dX10_wavesWithNothing_15 rfl (lv_at hl 0 rfl) ?_
    refine q_get (v := .ref (a 35)) C inX10_wavesWithNothing_X10 hK hP 0 rfl rfl 6 (by decide) rfl LX10_wavesWithNothing_54 rfl dX10_wavesWithNothing_16 ?_
    refine lv_aload_n hx hb dX10_wavesWithNothing_19 rfl (lv_at hl 0 rfl) ?_
    refine q_get (v := .ref (b 0)) C inX10_wavesWithNothing_X10 hK hP 0 rfl rfl 3 (by decide) rfl LX10_wavesWithNothing_35 rfl dX10_wavesWithNothing_20 ?_
    refine lv_iload_n hx hb dX10_wavesWithNothing_23 rfl (lv_at hl 2 rfl) ?_
    obtain ⟨q_, s2, hc, hB⟩ := bindI_inv hB
    refine q_goi (wr := ((wG cZ cS a b b2 c0 rg sl s.g) ++ (wD cI b2 s.t))) (va_runVN (As := [.ref (b 0), .int x2]) (rest := []) C (ckX0_mayBe hc _) ⟨va_cnB 2 hts gX10_wavesWithNothing_X0_mayBe_n111 rfl rfl rfl (hN _ nwM_X10_111 rfl) (hts _ LX10_wavesWithNothing_I_X0) (by decide +kernel) ⟨Nat.le_of_ble_eq_true rfl, Nat.le_of_ble_eq_true rfl⟩, hts _ LX10_wavesWithNothing_N_X0_mayBe, hts _ LX10_wavesWithNothing_E_X0_mayBe⟩ (q_preV hK hP (ci := 0) (q0 := 52) rfl rfl rfl (q_pre hN hK hP hD [11, 12, 13, 14, 15, 16, 17, 18, 19, 20, 21, 22, 23, 24, 25, 26, 27, 28, 29, 30, 31, 32, 33, 34, 35, 36, 37, 38, 39, 40, 41, 42, 43, 44, 45, 46, 47, 48, 49, 50, 51, 52, 53, 54, 55, 56, 57, 58, 59, 60, 61, 62, 63] rfl (by decide))) rfl rfl hl.1 rfl (lv_room (Nat.le_of_ble_eq_true rfl)) dX10_wavesWithNothing_24 ⟨Nat.le_of_ble_eq_true rfl, Nat.le_of_ble_eq_true rfl⟩) hP hD hS hA [11, 12, 13, 14, 15, 16, 17, 18, 19, 20, 21, 22, 23, 24, 25, 26, 27, 28, 29, 30, 31, 32, 33, 34, 35, 36, 37, 38, 39, 40, 41, 42, 43, 44, 45, 46, 47, 48, 49, 50, 51, 52, 53, 54, 55, 56, 57, 58, 59, 60, 61, 62, 63] [0, 1, 2, 3, 4, 5, 6, 7, 8, 9, 10] rfl rfl (by decide) (by decide) (fun r3 w1 H locs hw hP hD hS => ?_)
    obtain ⟨hq_, hw⟩ := hw; subst hw; subst hq_
    obtain ⟨s4, hs5, hB⟩ := letS_inv hB
    have hP : va_P (dC, dI) vwCl (wX cB cI cJ cZ cS a b b2 c0 rg sl s4) H := by subst hs5; exact hP
    have hD : va_D A (wX cB cI cJ cZ cS a b b2 c0 rg sl s4) := by subst hs5; exact hD
    refine lv_if_ne (tgt := 36) hx hb dX10_wavesWithNothing_27 (by decide) (fun c6 => ?_) (fun c6 => ?_)
    · have hB := if_n hB c6
      exact bkX10_wavesWithNothing_36 (hk4) _ _ _ hB p e s0 m below meth c A E H locs ls hP hD hS (lv_sub hl [0, 1, 2] rfl)
    · have hB := if_p hB c6
      refine lv_iload_n hx hb dX10_wavesWithNothing_30 rfl (lv_at hl 1 rfl) ?_
      refine lv_iconst (v := 1) hx hb dX10_wavesWithNothing_31 (by decide) ?_
      refine lv_iload_n hx hb dX10_wavesWithNothing_32 rfl (lv_at hl 2 rfl) ?_
      refine lv_ishl hx hb dX10_wavesWithNothing_33 ?_
      refine lv_ior hx hb dX10_wavesWithNothing_34 ?_
      refine lv_istore_n (lv' := [(1, .int (x1 ||| (1 <<< (x2 &&& 31)))), (0, .ref (c0 0)), (2, .int x2)]) hx hb dX10_wavesWithNothing_35 rfl hl (by decide) rfl (fun ls hl => ?_)
      exact bkX10_wavesWithNothing_36 (hk4) _ _ _ hB p e s0 m below meth c A E H locs ls hP hD hS (lv_sub hl [1, 0, 2] rfl)
theorem bkX10_wavesWithNothing_4L {l : Launch} {dC : Nat → ClassId} {dI : Nat → Nat → Nat} {cB cI cJ cZ cS : ClassId} {a b b2 c0 : Nat → Nat} {rg sl : Nat → Option Nat} {as : List Value} {r : Int32} {s' : XS} : ∀ (n : Nat) (s : XS) (x1 : Int32) (x2 : Int32), kX10_wavesWithNothing_4L n s x1 x2 = some (r, s') → BlkI l yX10_wavesWithNothing wsX10_wavesWithNothing ({ frames := 1, cells := 0, slots := 0, locals := 22 }) cX10_wavesWithNothing 3 (some .int) (dC, dI) (tysA cB cI cJ cZ cS) as 4 (wX cB cI cJ cZ cS a b b2 c0 rg sl s) [(0, .ref (c0 0)), (1, .int x1), (2, .int x2)] [] (fun x u => x = r ∧ u = (wX cB cI cJ cZ cS a b b2 c0 rg sl s')) := by
  intro n
  induction n with
  | zero => intro s x1 x2 hB; exact none_ne hB
  | succ n ih => intro s x1 x2 hB; exact bkX10_wavesWithNothing_4 ih _ _ _ hB
set_option maxHeartbeats 4000000 in
set_option maxRecDepth 100000 in
theorem bkX10_wavesWithNothing {l : Launch} {dC : Nat → ClassId} {dI : Nat → Nat → Nat} {cB cI cJ cZ cS : ClassId} {a b b2 c0 : Nat → Nat} {rg sl : Nat → Option Nat} {as : List Value} {r : Int32} {s' : XS} (s : XS) (hB : kX10_wavesWithNothing s = some (r, s')) : BlkI l yX10_wavesWithNothing wsX10_wavesWithNothing ({ frames := 1, cells := 0, slots := 0, locals := 22 }) cX10_wavesWithNothing 3 (some .int) (dC, dI) (tysA cB cI cJ cZ cS) as 0 (wX cB cI cJ cZ cS a b b2 c0 rg sl s) [(0, .ref (c0 0))] [] (fun x u => x = r ∧ u = (wX cB cI cJ cZ cS a b b2 c0 rg sl s')) := by
  intro p e s0 m below meth c A E H locs ls hP hD hS hl
  obtain ⟨C, hr, hlocks, hA, hK, hN⟩ := id E
  obtain ⟨hx, hb, hml, hown, hts⟩ := id C
  unfold kX10_wavesWithNothing at hB
  refine lv_iconst (v := 0) hx hb dX10_wavesWithNothing_0 (by decide) ?_
  refine lv_istore_n (lv' := [(1, .int 0), (0, .ref (c0 0))]) hx hb dX10_wavesWithNothing_1 rfl hl (by decide) rfl (fun ls hl => ?_)
  refine lv_iconst (v := 0) hx hb dX10_wavesWithNothing_2 (by decide) ?_
  refine lv_istore_n (lv' := [(2, .int 0), (1, .int 0), (0, .ref (c0 0))]) hx hb dX10_wavesWithNothing_3 rfl hl (by decide) rfl (fun ls hl => ?_)
  exact bkX10_wavesWithNothing_4L fu _ _ _ hB p e s0 m below meth c A E H locs ls hP hD hS (lv_sub hl [2, 1, 0] rfl)
theorem ckX10_wavesWithNothing {l : Launch} {dC : Nat → ClassId} {dI : Nat → Nat → Nat} {cB cI cJ cZ cS : ClassId} {a b b2 c0 : Nat → Nat} {rg sl : Nat → Option Nat} {r : Int32} {s' : XS} {s : XS} (hB : kX10_wavesWithNothing s = some (r, s')) : CI l yX10_wavesWithNothing wsX10_wavesWithNothing ({ frames := 1, cells := 0, slots := 0, locals := 22 }) (dC, dI) (tysA cB cI cJ cZ cS) (wX cB cI cJ cZ cS a b b2 c0 rg sl s) [.ref (c0 0)] (fun x u => x = r ∧ u = (wX cB cI cJ cZ cS a b b2 c0 rg sl s')) :=
  CI_of (cc := cX10_wavesWithNothing) (maxL := 3) (ret := (some .int)) (by decide) rfl (Nat.le_of_ble_eq_true rfl) (bkX10_wavesWithNothing _ hB)
set_option maxHeartbeats 4000000 in
set_option maxRecDepth 100000 in
theorem bkX10_isThing {l : Launch} {dC : Nat → ClassId} {dI : Nat → Nat → Nat} {cB cI cJ cZ cS : ClassId} {as : List Value} {r : Int32} (x0 : Int32) (hB : kX10_isThing x0 = some r) : BlkI l yX10_isThing wsX10_isThing ({ frames := 0, cells := 0, slots := 0, locals := 0 }) cX10_isThing 1 (some .boolean) (dC, dI) (tysA cB cI cJ cZ cS) as 0 [] [(0, .int x0)] [] (fun x _ => x = r) := by
  intro p e s0 m below meth c A E H locs ls hP hD hS hl
  obtain ⟨C, hr, hlocks, hA, hK, hN⟩ := id E
  obtain ⟨hx, hb, hml, hown, hts⟩ := id C
  unfold kX10_isThing at hB
  refine lv_iload_n hx hb dX10_isThing_0 rfl (lv_at hl 0 rfl) ?_
  refine lv_if_lt (tgt := 14) hx hb dX10_isThing_1 (by decide) (fun c1 => ?_) (fun c1 => ?_)
  · have hB := if_p hB c1
    refine lv_iconst (v := 0) hx hb dX10_isThing_14 (by decide) ?_
    exact q_zret C hr hlocks (Or.inl rfl) hK hP hD hS (Nat.le_of_ble_eq_true rfl) (Nat.le_of_ble_eq_true rfl) dX10_isThing_15 (by cases hB; rfl)
  · have hB := if_n hB c1
    refine lv_iload_n hx hb dX10_isThing_4 rfl (lv_at hl 0 rfl) ?_
    refine lv_bipush (v := 6) hx hb dX10_isThing_5 (by decide) ?_
    refine lv_icmp_ge (tgt := 14) hx hb dX10_isThing_7 (by decide) (fun c2 => ?_) (fun c2 => ?_)
    · have hB := if_p hB c2
      refine lv_iconst (v := 0) hx hb dX10_isThing_14 (by decide) ?_
      exact q_zret C hr hlocks (Or.inl rfl) hK hP hD hS (Nat.le_of_ble_eq_true rfl) (Nat.le_of_ble_eq_true rfl) dX10_isThing_15 (by cases hB; rfl)
    · have hB := if_n hB c2
      refine lv_iconst (v := 1) hx hb dX10_isThing_10 (by decide) ?_
      refine lv_goto (tgt := 15) hx hb dX10_isThing_11 (by decide) ?_
      exact q_zret C hr hlocks (Or.inr rfl) hK hP hD hS (Nat.le_of_ble_eq_true rfl) (Nat.le_of_ble_eq_true rfl) dX10_isThing_15 (by cases hB; rfl)
theorem ckX10_isThing {l : Launch} {dC : Nat → ClassId} {dI : Nat → Nat → Nat} {cB cI cJ cZ cS : ClassId} {r : Int32} {x0 : Int32} (hB : kX10_isThing x0 = some r) : CI l yX10_isThing wsX10_isThing ({ frames := 0, cells := 0, slots := 0, locals := 0 }) (dC, dI) (tysA cB cI cJ cZ cS) [] [.int x0] (fun x _ => x = r) :=
  CI_of (cc := cX10_isThing) (maxL := 1) (ret := (some .boolean)) (by decide) rfl (Nat.le_of_ble_eq_true rfl) (bkX10_isThing _ hB)
set_option maxHeartbeats 4000000 in
set_option maxRecDepth 100000 in
theorem bkX10_has {l : Launch} {dC : Nat → ClassId} {dI : Nat → Nat → Nat} {cB cI cJ cZ cS : ClassId} {as : List Value} {r : Int32} (x0 : Int32) (x1 : Int32) (hB : kX10_has x0 x1 = some r) : BlkI l yX10_has wsX10_has ({ frames := 0, cells := 0, slots := 0, locals := 0 }) cX10_has 2 (some .boolean) (dC, dI) (tysA cB cI cJ cZ cS) as 0 [] [(0, .int x0), (1, .int x1)] [] (fun x _ => x = r) := by
  intro p e s0 m below meth c A E H locs ls hP hD hS hl
  obtain ⟨C, hr, hlocks, hA, hK, hN⟩ := id E
  obtain ⟨hx, hb, hml, hown, hts⟩ := id C
  unfold kX10_has at hB
  refine lv_iload_n hx hb dX10_has_0 rfl (lv_at hl 0 rfl) ?_
  refine lv_iload_n hx hb dX10_has_1 rfl (lv_at hl 1 rfl) ?_
  refine lv_ishr hx hb dX10_has_2 ?_
  refine lv_iconst (v := 1) hx hb dX10_has_3 (by decide) ?_
  refine lv_iand hx hb dX10_has_4 ?_
  refine lv_iconst (v := 1) hx hb dX10_has_5 (by decide) ?_
  refine lv_icmp_ne (tgt := 13) hx hb dX10_has_6 (by decide) (fun c1 => ?_) (fun c1 => ?_)
  · have hB := if_n hB c1
    refine lv_iconst (v := 0) hx hb dX10_has_13 (by decide) ?_
    exact q_zret C hr hlocks (Or.inl rfl) hK hP hD hS (Nat.le_of_ble_eq_true rfl) (Nat.le_of_ble_eq_true rfl) dX10_has_14 (by cases hB; rfl)
  · have hB := if_p hB c1
    refine lv_iconst (v := 1) hx hb dX10_has_9 (by decide) ?_
    refine lv_goto (tgt := 14) hx hb dX10_has_10 (by decide) ?_
    exact q_zret C hr hlocks (Or.inr rfl) hK hP hD hS (Nat.le_of_ble_eq_true rfl) (Nat.le_of_ble_eq_true rfl) dX10_has_14 (by cases hB; rfl)
theorem ckX10_has {l : Launch} {dC : Nat → ClassId} {dI : Nat → Nat → Nat} {cB cI cJ cZ cS : ClassId} {r : Int32} {x0 : Int32} {x1 : Int32} (hB : kX10_has x0 x1 = some r) : CI l yX10_has wsX10_has ({ frames := 0, cells := 0, slots := 0, locals := 0 }) (dC, dI) (tysA cB cI cJ cZ cS) [] [.int x0, .int x1] (fun x _ => x = r) :=
  CI_of (cc := cX10_has) (maxL := 2) (ret := (some .boolean)) (by decide) rfl (Nat.le_of_ble_eq_true rfl) (bkX10_has _ _ hB)
set_option maxHeartbeats 4000000 in
set_option maxRecDepth 100000 in
theorem bkX10_sumOf_5_4 {l : Launch} {dC : Nat → ClassId} {dI : Nat → Nat → Nat} {cB cI cJ cZ cS : ClassId} {q0 : Nat} {as : List Value} {r : Int32} {s' : (Nat → Int32)} {k4 : (Nat → Int32) → Int32 → Int32 → Option (Int32 × (Nat → Int32))} (hk4 : ∀ (s : (Nat → Int32)) (x1 : Int32) (x2 : Int32), k4 s x1 x2 = some (r, s') → BlkI l yX10_sumOf wsX10_sumOf ({ frames := 0, cells := 0, slots := 0, locals := 0 }) cX10_sumOf 3 (some .int) (dC, dI) (tysA cB cI cJ cZ cS) as 4 [(q0, .inl (cI, 5, .inl s))] [(0, .ref q0), (1, .int x1), (2, .int x2)] [] (fun x u => x = r ∧ u = [(q0, .inl (cI, 5, .inl s'))])) (s : (Nat → Int32)) (x1 : Int32) (x2 : Int32) (hB : kX10_sumOf_5_4 k4 s x1 x2 = some (r, s')) : BlkI l yX10_sumOf wsX10_sumOf ({ frames := 0, cells := 0, slots := 0, locals := 0 }) cX10_sumOf 3 (some .int) (dC, dI) (tysA cB cI cJ cZ cS) as 4 [(q0, .inl (cI, 5, .inl s))] [(0, .ref q0), (1, .int x1), (2, .int x2)] [] (fun x u => x = r ∧ u = [(q0, .inl (cI, 5, .inl s'))]) := by
  intro p e s0 m below meth c A E H locs ls hP hD hS hl
  obtain ⟨C, hr, hlocks, hA, hK, hN⟩ := id E
  obtain ⟨hx, hb, hml, hown, hts⟩ := id C
  unfold kX10_sumOf_5_4 at hB
  refine lv_iload_n hx hb dX10_sumOf_4 rfl (lv_at hl 2 rfl) ?_
  refine lv_aload_n hx hb dX10_sumOf_5 rfl (lv_at hl 0 rfl) ?_
  refine q_alen (v := 5) C hK hP 0 1 rfl rfl dX10_sumOf_6 rfl ?_
  refine lv_icmp_ge (tgt := 22) hx hb dX10_sumOf_7 (by decide) (fun c1 => ?_) (fun c1 => ?_)
  · have hB := if_p hB c1
    refine lv_iload_n hx hb dX10_sumOf_22 rfl (lv_at hl 1 rfl) ?_
    exact q_iret C hr hlocks hK hP hD hS (Nat.le_of_ble_eq_true rfl) (Nat.le_of_ble_eq_true rfl) dX10_sumOf_23 (by cases hB; exact ⟨rfl, rfl⟩)
  · have hB := if_n hB c1
    refine lv_iload_n hx hb dX10_sumOf_10 rfl (lv_at hl 1 rfl) ?_
    refine lv_aload_n hx hb dX10_sumOf_11 rfl (lv_at hl 0 rfl) ?_
    refine lv_iload_n hx hb dX10_sumOf_12 rfl (lv_at hl 2 rfl) ?_
    obtain ⟨g2, hB⟩ := guard_inv hB
    refine q_iald (x := (s (Int32.toNatClampNeg x2))) C hK hP 0 1 rfl rfl (vpb_in g2) dX10_sumOf_13 rfl ?_
    refine lv_iadd hx hb dX10_sumOf_14 ?_
    refine lv_istore_n (lv' := [(1, .int (x1 + (s (Int32.toNatClampNeg x2)))), (0, .ref q0), (2, .int x2)]) hx hb dX10_sumOf_15 rfl hl (by decide) rfl (fun ls hl => ?_)
    refine lv_iinc (v := (x2 + 1)) (lv' := [(2, .int (x2 + 1)), (1, .int (x1 + (s (Int32.toNatClampNeg x2)))), (0, .ref q0)]) hx hb dX10_sumOf_16 hl (k := 2) rfl (rfl) (by decide) rfl (fun ls hl => ?_)
    refine lv_goto (tgt := 4) hx hb dX10_sumOf_19 (by decide) ?_
    exact hk4 _ _ _ hB p e s0 m below meth c A E H locs ls hP hD hS (lv_sub hl [2, 1, 0] rfl)
theorem bkX10_sumOf_5_4L {l : Launch} {dC : Nat → ClassId} {dI : Nat → Nat → Nat} {cB cI cJ cZ cS : ClassId} {q0 : Nat} {as : List Value} {r : Int32} {s' : (Nat → Int32)} : ∀ (n : Nat) (s : (Nat → Int32)) (x1 : Int32) (x2 : Int32), kX10_sumOf_5_4L n s x1 x2 = some (r, s') → BlkI l yX10_sumOf wsX10_sumOf ({ frames := 0, cells := 0, slots := 0, locals := 0 }) cX10_sumOf 3 (some .int) (dC, dI) (tysA cB cI cJ cZ cS) as 4 [(q0, .inl (cI, 5, .inl s))] [(0, .ref q0), (1, .int x1), (2, .int x2)] [] (fun x u => x = r ∧ u = [(q0, .inl (cI, 5, .inl s'))]) := by
  intro n
  induction n with
  | zero => intro s x1 x2 hB; exact none_ne hB
  | succ n ih => intro s x1 x2 hB; exact bkX10_sumOf_5_4 ih _ _ _ hB
set_option maxHeartbeats 4000000 in
set_option maxRecDepth 100000 in
theorem bkX10_sumOf_5 {l : Launch} {dC : Nat → ClassId} {dI : Nat → Nat → Nat} {cB cI cJ cZ cS : ClassId} {q0 : Nat} {as : List Value} {r : Int32} {s' : (Nat → Int32)} (s : (Nat → Int32)) (hB : kX10_sumOf_5 s = some (r, s')) : BlkI l yX10_sumOf wsX10_sumOf ({ frames := 0, cells := 0, slots := 0, locals := 0 }) cX10_sumOf 3 (some .int) (dC, dI) (tysA cB cI cJ cZ cS) as 0 [(q0, .inl (cI, 5, .inl s))] [(0, .ref q0)] [] (fun x u => x = r ∧ u = [(q0, .inl (cI, 5, .inl s'))]) := by
  intro p e s0 m below meth c A E H locs ls hP hD hS hl
  obtain ⟨C, hr, hlocks, hA, hK, hN⟩ := id E
  obtain ⟨hx, hb, hml, hown, hts⟩ := id C
  unfold kX10_sumOf_5 at hB
  refine lv_iconst (v := 0) hx hb dX10_sumOf_0 (by decide) ?_
  refine lv_istore_n (lv' := [(1, .int 0), (0, .ref q0)]) hx hb dX10_sumOf_1 rfl hl (by decide) rfl (fun ls hl => ?_)
  refine lv_iconst (v := 0) hx hb dX10_sumOf_2 (by decide) ?_
  refine lv_istore_n (lv' := [(2, .int 0), (1, .int 0), (0, .ref q0)]) hx hb dX10_sumOf_3 rfl hl (by decide) rfl (fun ls hl => ?_)
  exact bkX10_sumOf_5_4L fu _ _ _ hB p e s0 m below meth c A E H locs ls hP hD hS (lv_sub hl [2, 1, 0] rfl)
theorem ckX10_sumOf_5 {l : Launch} {dC : Nat → ClassId} {dI : Nat → Nat → Nat} {cB cI cJ cZ cS : ClassId} {q0 : Nat} {r : Int32} {s' : (Nat → Int32)} {s : (Nat → Int32)} (hB : kX10_sumOf_5 s = some (r, s')) : CI l yX10_sumOf wsX10_sumOf ({ frames := 0, cells := 0, slots := 0, locals := 0 }) (dC, dI) (tysA cB cI cJ cZ cS) [(q0, .inl (cI, 5, .inl s))] [.ref q0] (fun x u => x = r ∧ u = [(q0, .inl (cI, 5, .inl s'))]) :=
  CI_of (cc := cX10_sumOf) (maxL := 3) (ret := (some .int)) (by decide) rfl (Nat.le_of_ble_eq_true rfl) (bkX10_sumOf_5 _ hB)
