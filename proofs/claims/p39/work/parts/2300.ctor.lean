theorem ggX3_init_X6_init : GoodIn wsX3_init wsX6_init := gi_sub (fun w h => List.mem_cons_of_mem _ (List.mem_append_left _ (List.mem_append_left _ (List.mem_append_right _ h)))) gd_wsX6_init
set_option maxRecDepth 20000 in
theorem gX3_init_X6_init_n24 : GoodIn wsX3_init (wsX6_init) := ggX3_init_X6_init
theorem dX3_init_0 : decode cX3_init 0 = .ok (.aload_n 0, 1) := dc1_42 (by decide +kernel)
theorem dX3_init_1 : decode cX3_init 1 = .ok (.invokespecial 3, 3) := dcw_183 (by decide +kernel)
theorem dX3_init_4 : decode cX3_init 4 = .ok (.aload_n 0, 1) := dc1_42 (by decide +kernel)
theorem dX3_init_5 : decode cX3_init 5 = .ok (.bipush 40, 2) := dcb_16 (n := 40) (by decide +kernel)
theorem dX3_init_7 : decode cX3_init 7 = .ok (.anewarray 9, 3) := dcw_189 (by decide +kernel)
theorem dX3_init_10 : decode cX3_init 10 = .ok (.putfield 11, 3) := dcw_181 (by decide +kernel)
theorem dX3_init_13 : decode cX3_init 13 = .ok (.aload_n 0, 1) := dc1_42 (by decide +kernel)
theorem dX3_init_14 : decode cX3_init 14 = .ok (.iconst 3, 1) := dc1_6 (by decide +kernel)
theorem dX3_init_15 : decode cX3_init 15 = .ok (.anewarray 9, 3) := dcw_189 (by decide +kernel)
theorem dX3_init_18 : decode cX3_init 18 = .ok (.putfield 17, 3) := dcw_181 (by decide +kernel)
theorem dX3_init_21 : decode cX3_init 21 = .ok (.aload_n 0, 1) := dc1_42 (by decide +kernel)
theorem dX3_init_22 : decode cX3_init 22 = .ok (.iconst 3, 1) := dc1_6 (by decide +kernel)
theorem dX3_init_23 : decode cX3_init 23 = .ok (.newarray .boolean, 2) := by decide +kernel
theorem dX3_init_25 : decode cX3_init 25 = .ok (.putfield 20, 3) := dcw_181 (by decide +kernel)
theorem dX3_init_28 : decode cX3_init 28 = .ok (.iconst 0, 1) := dc1_3 (by decide +kernel)
theorem dX3_init_29 : decode cX3_init 29 = .ok (.istore_n 1, 1) := dc1_60 (by decide +kernel)
theorem dX3_init_30 : decode cX3_init 30 = .ok (.iload_n 1, 1) := dc1_27 (by decide +kernel)
theorem dX3_init_31 : decode cX3_init 31 = .ok (.bipush 40, 2) := dcb_16 (n := 40) (by decide +kernel)
theorem dX3_init_33 : decode cX3_init 33 = .ok (.if_icmp .ge 22, 3) := dcs_162 (n := 22) (by decide +kernel)
theorem dX3_init_36 : decode cX3_init 36 = .ok (.aload_n 0, 1) := dc1_42 (by decide +kernel)
theorem dX3_init_37 : decode cX3_init 37 = .ok (.getfield 11, 3) := dcw_180 (by decide +kernel)
theorem dX3_init_40 : decode cX3_init 40 = .ok (.iload_n 1, 1) := dc1_27 (by decide +kernel)
theorem dX3_init_41 : decode cX3_init 41 = .ok (.new 9, 3) := dcw_187 (by decide +kernel)
theorem dX3_init_44 : decode cX3_init 44 = .ok (.dup, 1) := dc1_89 (by decide +kernel)
theorem dX3_init_45 : decode cX3_init 45 = .ok (.invokespecial 24, 3) := dcw_183 (by decide +kernel)
theorem dX3_init_48 : decode cX3_init 48 = .ok (.aastore, 1) := dc1_83 (by decide +kernel)
theorem dX3_init_49 : decode cX3_init 49 = .ok (.iinc 1 1, 3) := dc_iinc (m := 1) (by decide +kernel)
theorem dX3_init_52 : decode cX3_init 52 = .ok (.goto (-22), 3) := dcs_167 (n := 65514) (by decide +kernel)
theorem dX3_init_55 : decode cX3_init 55 = .ok (.iconst 0, 1) := dc1_3 (by decide +kernel)
theorem dX3_init_56 : decode cX3_init 56 = .ok (.istore_n 1, 1) := dc1_60 (by decide +kernel)
theorem dX3_init_57 : decode cX3_init 57 = .ok (.iload_n 1, 1) := dc1_27 (by decide +kernel)
theorem dX3_init_58 : decode cX3_init 58 = .ok (.iconst 3, 1) := dc1_6 (by decide +kernel)
theorem dX3_init_59 : decode cX3_init 59 = .ok (.if_icmp .ge 22, 3) := dcs_162 (n := 22) (by decide +kernel)
theorem dX3_init_62 : decode cX3_init 62 = .ok (.aload_n 0, 1) := dc1_42 (by decide +kernel)
theorem dX3_init_63 : decode cX3_init 63 = .ok (.getfield 17, 3) := dcw_180 (by decide +kernel)
theorem dX3_init_66 : decode cX3_init 66 = .ok (.iload_n 1, 1) := dc1_27 (by decide +kernel)
theorem dX3_init_67 : decode cX3_init 67 = .ok (.new 9, 3) := dcw_187 (by decide +kernel)
theorem dX3_init_70 : decode cX3_init 70 = .ok (.dup, 1) := dc1_89 (by decide +kernel)
theorem dX3_init_71 : decode cX3_init 71 = .ok (.invokespecial 24, 3) := dcw_183 (by decide +kernel)
theorem dX3_init_74 : decode cX3_init 74 = .ok (.aastore, 1) := dc1_83 (by decide +kernel)
theorem dX3_init_75 : decode cX3_init 75 = .ok (.iinc 1 1, 3) := dc_iinc (m := 1) (by decide +kernel)
theorem dX3_init_78 : decode cX3_init 78 = .ok (.goto (-21), 3) := dcs_167 (n := 65515) (by decide +kernel)
theorem dX3_init_81 : decode cX3_init 81 = .ok (.return_, 1) := dc1_177 (by decide +kernel)
theorem ggX9_init_J0_length_8abf5 : GoodIn wsX9_init wsJ0_length_8abf5 := gi_sub (fun w h => List.mem_cons_of_mem _ (List.mem_append_left _ (List.mem_append_right _ (List.mem_append_left _ h)))) gd_wsJ0_length_8abf5
set_option maxRecDepth 20000 in
theorem gX9_init_J0_length_8abf5 : GoodIn wsX9_init (wsV RX9 29 RJ0 yJ0_length_8abf5 wsJ0_length_8abf5) := goodIn_app (goodIn_r _ [11, 12, 13, 14] (by decide +kernel) (by decide +kernel)) ggX9_init_J0_length_8abf5
theorem ggX9_init_J0_charAt_5068e : GoodIn wsX9_init wsJ0_charAt_5068e := gi_sub (fun w h => List.mem_cons_of_mem _ (List.mem_append_left _ (List.mem_append_right _ (List.mem_append_right _ (List.mem_append_left _ h))))) gd_wsJ0_charAt_5068e
set_option maxRecDepth 20000 in
theorem gX9_init_J0_charAt_5068e : GoodIn wsX9_init (wsV RX9 35 RJ0 yJ0_charAt_5068e wsJ0_charAt_5068e) := goodIn_app (goodIn_r _ [15, 16, 17, 14] (by decide +kernel) (by decide +kernel)) ggX9_init_J0_charAt_5068e
theorem ggX9_init_X9_isLetter : GoodIn wsX9_init wsX9_isLetter := gi_sub (fun w h => List.mem_cons_of_mem _ (List.mem_append_left _ (List.mem_append_right _ (List.mem_append_right _ (List.mem_append_right _ (List.mem_append_left _ h)))))) gd_wsX9_isLetter
set_option maxRecDepth 20000 in
theorem gX9_init_X9_isLetter : GoodIn wsX9_init (va_wsS RX9 39 yX9_isLetter wsX9_isLetter) := goodIn_app (goodIn_of _ (by decide +kernel)) ggX9_init_X9_isLetter
theorem ggX9_init_X9_withLetter : GoodIn wsX9_init wsX9_withLetter := gi_sub (fun w h => List.mem_cons_of_mem _ (List.mem_append_left _ (List.mem_append_right _ (List.mem_append_right _ (List.mem_append_right _ (List.mem_append_right _ h)))))) gd_wsX9_withLetter
set_option maxRecDepth 20000 in
theorem gX9_init_X9_withLetter : GoodIn wsX9_init (va_wsS RX9 43 yX9_withLetter wsX9_withLetter) := goodIn_app (goodIn_of _ (by decide +kernel)) ggX9_init_X9_withLetter
theorem dX9_init_0 : decode cX9_init 0 = .ok (.aload_n 0, 1) := dc1_42 (by decide +kernel)
theorem dX9_init_1 : decode cX9_init 1 = .ok (.invokespecial 3, 3) := dcw_183 (by decide +kernel)
theorem dX9_init_4 : decode cX9_init 4 = .ok (.aload_n 0, 1) := dc1_42 (by decide +kernel)
theorem dX9_init_5 : decode cX9_init 5 = .ok (.bipush 19, 2) := dcb_16 (n := 19) (by decide +kernel)
theorem dX9_init_7 : decode cX9_init 7 = .ok (.newarray .long, 2) := by decide +kernel
theorem dX9_init_9 : decode cX9_init 9 = .ok (.putfield 9, 3) := dcw_181 (by decide +kernel)
theorem dX9_init_12 : decode cX9_init 12 = .ok (.aload_n 0, 1) := dc1_42 (by decide +kernel)
theorem dX9_init_13 : decode cX9_init 13 = .ok (.sipush 401, 3) := dcs_17 (n := 401) (by decide +kernel)
theorem dX9_init_16 : decode cX9_init 16 = .ok (.newarray .int, 2) := by decide +kernel
theorem dX9_init_18 : decode cX9_init 18 = .ok (.putfield 13, 3) := dcw_181 (by decide +kernel)
theorem dX9_init_21 : decode cX9_init 21 = .ok (.aload_n 0, 1) := dc1_42 (by decide +kernel)
theorem dX9_init_22 : decode cX9_init 22 = .ok (.sipush 401, 3) := dcs_17 (n := 401) (by decide +kernel)
theorem dX9_init_25 : decode cX9_init 25 = .ok (.newarray .int, 2) := by decide +kernel
theorem dX9_init_27 : decode cX9_init 27 = .ok (.putfield 17, 3) := dcw_181 (by decide +kernel)
theorem dX9_init_30 : decode cX9_init 30 = .ok (.aload_n 0, 1) := dc1_42 (by decide +kernel)
theorem dX9_init_31 : decode cX9_init 31 = .ok (.sipush 401, 3) := dcs_17 (n := 401) (by decide +kernel)
theorem dX9_init_34 : decode cX9_init 34 = .ok (.newarray .long, 2) := by decide +kernel
theorem dX9_init_36 : decode cX9_init 36 = .ok (.putfield 20, 3) := dcw_181 (by decide +kernel)
theorem dX9_init_39 : decode cX9_init 39 = .ok (.aload_n 0, 1) := dc1_42 (by decide +kernel)
theorem dX9_init_40 : decode cX9_init 40 = .ok (.aload_n 1, 1) := dc1_43 (by decide +kernel)
theorem dX9_init_41 : decode cX9_init 41 = .ok (.putfield 23, 3) := dcw_181 (by decide +kernel)
theorem dX9_init_44 : decode cX9_init 44 = .ok (.iconst 0, 1) := dc1_3 (by decide +kernel)
theorem dX9_init_45 : decode cX9_init 45 = .ok (.istore_n 2, 1) := dc1_61 (by decide +kernel)
theorem dX9_init_46 : decode cX9_init 46 = .ok (.lconst 0, 1) := dc1_9 (by decide +kernel)
theorem dX9_init_47 : decode cX9_init 47 = .ok (.lstore_n 3, 1) := dc1_66 (by decide +kernel)
theorem dX9_init_48 : decode cX9_init 48 = .ok (.iconst 0, 1) := dc1_3 (by decide +kernel)
theorem dX9_init_49 : decode cX9_init 49 = .ok (.istore 5, 2) := dcu_54 (by decide +kernel)
theorem dX9_init_51 : decode cX9_init 51 = .ok (.iload 5, 2) := dcu_21 (by decide +kernel)
theorem dX9_init_53 : decode cX9_init 53 = .ok (.ldc 27, 2) := dcu_18 (by decide +kernel)
theorem dX9_init_55 : decode cX9_init 55 = .ok (.invokevirtual 29, 3) := dcw_182 (by decide +kernel)
theorem dX9_init_58 : decode cX9_init 58 = .ok (.if_icmp .ge 54, 3) := dcs_162 (n := 54) (by decide +kernel)
theorem dX9_init_61 : decode cX9_init 61 = .ok (.ldc 27, 2) := dcu_18 (by decide +kernel)
theorem dX9_init_63 : decode cX9_init 63 = .ok (.iload 5, 2) := dcu_21 (by decide +kernel)
theorem dX9_init_65 : decode cX9_init 65 = .ok (.invokevirtual 35, 3) := dcw_182 (by decide +kernel)
theorem dX9_init_68 : decode cX9_init 68 = .ok (.istore 6, 2) := dcu_54 (by decide +kernel)
theorem dX9_init_70 : decode cX9_init 70 = .ok (.iload 6, 2) := dcu_21 (by decide +kernel)
theorem dX9_init_72 : decode cX9_init 72 = .ok (.invokestatic 39, 3) := dcw_184 (by decide +kernel)
theorem dX9_init_75 : decode cX9_init 75 = .ok (.ifCond .eq 13, 3) := dcs_153 (n := 13) (by decide +kernel)
theorem dX9_init_78 : decode cX9_init 78 = .ok (.lload_n 3, 1) := dc1_33 (by decide +kernel)
theorem dX9_init_79 : decode cX9_init 79 = .ok (.iload 6, 2) := dcu_21 (by decide +kernel)
theorem dX9_init_81 : decode cX9_init 81 = .ok (.invokestatic 43, 3) := dcw_184 (by decide +kernel)
theorem dX9_init_84 : decode cX9_init 84 = .ok (.lstore_n 3, 1) := dc1_66 (by decide +kernel)
theorem dX9_init_85 : decode cX9_init 85 = .ok (.goto 21, 3) := dcs_167 (n := 21) (by decide +kernel)
theorem dX9_init_88 : decode cX9_init 88 = .ok (.iload_n 2, 1) := dc1_28 (by decide +kernel)
theorem dX9_init_89 : decode cX9_init 89 = .ok (.bipush 19, 2) := dcb_16 (n := 19) (by decide +kernel)
theorem dX9_init_91 : decode cX9_init 91 = .ok (.if_icmp .ge 15, 3) := dcs_162 (n := 15) (by decide +kernel)
theorem dX9_init_94 : decode cX9_init 94 = .ok (.aload_n 0, 1) := dc1_42 (by decide +kernel)
theorem dX9_init_95 : decode cX9_init 95 = .ok (.getfield 9, 3) := dcw_180 (by decide +kernel)
theorem dX9_init_98 : decode cX9_init 98 = .ok (.iload_n 2, 1) := dc1_28 (by decide +kernel)
theorem dX9_init_99 : decode cX9_init 99 = .ok (.lload_n 3, 1) := dc1_33 (by decide +kernel)
theorem dX9_init_100 : decode cX9_init 100 = .ok (.lastore, 1) := dc1_80 (by decide +kernel)
theorem dX9_init_101 : decode cX9_init 101 = .ok (.iinc 2 1, 3) := dc_iinc (m := 1) (by decide +kernel)
theorem dX9_init_104 : decode cX9_init 104 = .ok (.lconst 0, 1) := dc1_9 (by decide +kernel)
theorem dX9_init_105 : decode cX9_init 105 = .ok (.lstore_n 3, 1) := dc1_66 (by decide +kernel)
theorem dX9_init_106 : decode cX9_init 106 = .ok (.iinc 5 1, 3) := dc_iinc (m := 1) (by decide +kernel)
theorem dX9_init_109 : decode cX9_init 109 = .ok (.goto (-58), 3) := dcs_167 (n := 65478) (by decide +kernel)
theorem dX9_init_112 : decode cX9_init 112 = .ok (.return_, 1) := dc1_177 (by decide +kernel)
theorem ggJ0_charAt_5068e_J0_isLatin1_aae02 : GoodIn wsJ0_charAt_5068e wsJ0_isLatin1_aae02 := gi_sub (fun w h => List.mem_cons_of_mem _ (List.mem_append_right _ (List.mem_append_left _ h))) gd_wsJ0_isLatin1_aae02
set_option maxRecDepth 20000 in
theorem gJ0_charAt_5068e_J0_isLatin1_aae02 : GoodIn wsJ0_charAt_5068e (wsV RJ0 492 RJ0 yJ0_isLatin1_aae02 wsJ0_isLatin1_aae02) := goodIn_app (goodIn_r _ [2, 3, 4, 5] (by decide +kernel) (by decide +kernel)) ggJ0_charAt_5068e_J0_isLatin1_aae02
theorem ggJ0_charAt_5068e_J1_charAt_3b067 : GoodIn wsJ0_charAt_5068e wsJ1_charAt_3b067 := gi_sub (fun w h => List.mem_cons_of_mem _ (List.mem_append_right _ (List.mem_append_right _ (List.mem_append_left _ h)))) gd_wsJ1_charAt_3b067
set_option maxRecDepth 20000 in
theorem gJ0_charAt_5068e_J1_charAt_3b067 : GoodIn wsJ0_charAt_5068e (va_wsS RJ0 495 yJ1_charAt_3b067 wsJ1_charAt_3b067) := goodIn_app (goodIn_of _ (by decide +kernel)) ggJ0_charAt_5068e_J1_charAt_3b067
theorem dJ0_charAt_5068e_0 : decode cJ0_charAt_5068e 0 = .ok (.aload_n 0, 1) := dc1_42 (by decide +kernel)
theorem dJ0_charAt_5068e_1 : decode cJ0_charAt_5068e 1 = .ok (.invokevirtual 492, 3) := dcw_182 (by decide +kernel)
theorem dJ0_charAt_5068e_4 : decode cJ0_charAt_5068e 4 = .ok (.ifCond .eq 12, 3) := dcs_153 (n := 12) (by decide +kernel)
theorem dJ0_charAt_5068e_7 : decode cJ0_charAt_5068e 7 = .ok (.aload_n 0, 1) := dc1_42 (by decide +kernel)
theorem dJ0_charAt_5068e_8 : decode cJ0_charAt_5068e 8 = .ok (.getfield 9, 3) := dcw_180 (by decide +kernel)
theorem dJ0_charAt_5068e_11 : decode cJ0_charAt_5068e 11 = .ok (.iload_n 1, 1) := dc1_27 (by decide +kernel)
theorem dJ0_charAt_5068e_12 : decode cJ0_charAt_5068e 12 = .ok (.invokestatic 495, 3) := dcw_184 (by decide +kernel)
theorem dJ0_charAt_5068e_15 : decode cJ0_charAt_5068e 15 = .ok (.ireturn, 1) := dc1_172 (by decide +kernel)
theorem ggJ0_checkIndex_df160_J3_checkIndex_8e157 : GoodIn wsJ0_checkIndex_df160 wsJ3_checkIndex_8e157 := gi_sub (fun w h => List.mem_cons_of_mem _ (List.mem_append_right _ h)) gd_wsJ3_checkIndex_8e157
set_option maxRecDepth 20000 in
theorem gJ0_checkIndex_df160_J3_checkIndex_8e157 : GoodIn wsJ0_checkIndex_df160 (va_wsS RJ0 1059 yJ3_checkIndex_8e157 wsJ3_checkIndex_8e157) := goodIn_app (goodIn_of _ (by decide +kernel)) ggJ0_checkIndex_df160_J3_checkIndex_8e157
theorem dJ0_checkIndex_df160_0 : decode cJ0_checkIndex_df160 0 = .ok (.iload_n 0, 1) := dc1_26 (by decide +kernel)
theorem dJ0_checkIndex_df160_1 : decode cJ0_checkIndex_df160 1 = .ok (.iload_n 1, 1) := dc1_27 (by decide +kernel)
theorem dJ0_checkIndex_df160_2 : decode cJ0_checkIndex_df160 2 = .ok (.getstatic 1053, 3) := dcw_178 (by decide +kernel)
theorem dJ0_checkIndex_df160_5 : decode cJ0_checkIndex_df160 5 = .ok (.invokestatic 1059, 3) := dcw_184 (by decide +kernel)
theorem dJ0_checkIndex_df160_8 : decode cJ0_checkIndex_df160 8 = .ok (.pop, 1) := dc1_87 (by decide +kernel)
theorem dJ0_checkIndex_df160_9 : decode cJ0_checkIndex_df160 9 = .ok (.return_, 1) := dc1_177 (by decide +kernel)
theorem ggJ1_charAt_3b067_J0_checkIndex_df160 : GoodIn wsJ1_charAt_3b067 wsJ0_checkIndex_df160 := gi_sub (fun w h => List.mem_cons_of_mem _ (List.mem_append_right _ h)) gd_wsJ0_checkIndex_df160
set_option maxRecDepth 20000 in
theorem gJ1_charAt_3b067_J0_checkIndex_df160 : GoodIn wsJ1_charAt_3b067 (va_wsS RJ1 9 yJ0_checkIndex_df160 wsJ0_checkIndex_df160) := goodIn_app (goodIn_of _ (by decide +kernel)) ggJ1_charAt_3b067_J0_checkIndex_df160
theorem dJ1_charAt_3b067_0 : decode cJ1_charAt_3b067 0 = .ok (.iload_n 1, 1) := dc1_27 (by decide +kernel)
theorem dJ1_charAt_3b067_1 : decode cJ1_charAt_3b067 1 = .ok (.aload_n 0, 1) := dc1_42 (by decide +kernel)
theorem dJ1_charAt_3b067_2 : decode cJ1_charAt_3b067 2 = .ok (.arraylength, 1) := dc1_190 (by decide +kernel)
theorem dJ1_charAt_3b067_3 : decode cJ1_charAt_3b067 3 = .ok (.invokestatic 9, 3) := dcw_184 (by decide +kernel)
theorem dJ1_charAt_3b067_6 : decode cJ1_charAt_3b067 6 = .ok (.aload_n 0, 1) := dc1_42 (by decide +kernel)
theorem dJ1_charAt_3b067_7 : decode cJ1_charAt_3b067 7 = .ok (.iload_n 1, 1) := dc1_27 (by decide +kernel)
theorem dJ1_charAt_3b067_8 : decode cJ1_charAt_3b067 8 = .ok (.baload, 1) := dc1_51 (by decide +kernel)
theorem dJ1_charAt_3b067_9 : decode cJ1_charAt_3b067 9 = .ok (.sipush 255, 3) := dcs_17 (n := 255) (by decide +kernel)
theorem dJ1_charAt_3b067_12 : decode cJ1_charAt_3b067 12 = .ok (.iand, 1) := dc1_126 (by decide +kernel)
theorem dJ1_charAt_3b067_13 : decode cJ1_charAt_3b067 13 = .ok (.i2c, 1) := dc1_146 (by decide +kernel)
theorem dJ1_charAt_3b067_14 : decode cJ1_charAt_3b067 14 = .ok (.ireturn, 1) := dc1_172 (by decide +kernel)
theorem dJ3_checkIndex_8e157_0 : decode cJ3_checkIndex_8e157 0 = .ok (.iload_n 0, 1) := dc1_26 (by decide +kernel)
theorem dJ3_checkIndex_8e157_1 : decode cJ3_checkIndex_8e157 1 = .ok (.ifCond .lt 8, 3) := dcs_155 (n := 8) (by decide +kernel)
theorem dJ3_checkIndex_8e157_4 : decode cJ3_checkIndex_8e157 4 = .ok (.iload_n 0, 1) := dc1_26 (by decide +kernel)
theorem dJ3_checkIndex_8e157_5 : decode cJ3_checkIndex_8e157 5 = .ok (.iload_n 1, 1) := dc1_27 (by decide +kernel)
theorem dJ3_checkIndex_8e157_6 : decode cJ3_checkIndex_8e157 6 = .ok (.if_icmp .lt 10, 3) := dcs_161 (n := 10) (by decide +kernel)
theorem dJ3_checkIndex_8e157_16 : decode cJ3_checkIndex_8e157 16 = .ok (.iload_n 0, 1) := dc1_26 (by decide +kernel)
theorem dJ3_checkIndex_8e157_17 : decode cJ3_checkIndex_8e157 17 = .ok (.ireturn, 1) := dc1_172 (by decide +kernel)
set_option maxHeartbeats 4000000 in
set_option maxRecDepth 100000 in
theorem k_J0_coder_7d493 (l : Launch) (dC : Nat → ClassId) (dI : Nat → Nat → Nat) (cB cI cJ cZ cS : ClassId) (ak av : Nat)  : CIX ak av l yJ0_coder_7d493 wsJ0_coder_7d493 ({ frames := 0, cells := 0, slots := 0, locals := 0 }) (dC, dI) (tysA cB cI cJ cZ cS) [] [.ref ak] (fun r _ => r = 0) := by
  refine open_IX (cc := cJ0_coder_7d493) (maxL := 1) (ret := (some .byte)) (by decide) rfl (Nat.le_of_ble_eq_true rfl) ?_
  intro p e s m below meth c A ls E hX
  have hAO := hX.1
  obtain ⟨C, hr, hlocks, hnm, hA, hP, hK, hD, hN, hl⟩ := E
  obtain ⟨hx, hb, hml, hown, hts⟩ := id C
  have hS : va_S A s.heap s.heap [] := va_S.rf
  have hl : lv_has ls 1 [(0, .ref ak)] := hl
  have G38 : Cond.fieldLink RJ0 38 "java/lang/String" "COMPACT_STRINGS" "Z" ∈ wsJ0_coder_7d493 := (List.mem_cons_of_mem _ (List.mem_of_getElem? (i := 0) rfl))
  have L15 : Cond.fieldLink RJ0 15 "java/lang/String" "coder" "B" ∈ wsJ0_coder_7d493 := (List.mem_cons_of_mem _ (List.mem_of_getElem? (i := 1) rfl))
  refine va_gets hx hb hX.2.2.2.2.2.2.1 hS hown (hts _ G38) (fun _ h9 => h9) dJ0_coder_7d493_0 ?_
  refine lv_if_eq (tgt := 13) hx hb dJ0_coder_7d493_3 (by decide) (fun h => absurd h (by decide +kernel)) (fun _ => ?_)
  refine lv_aload_n hx hb dJ0_coder_7d493_6 rfl (lv_at hl 0 rfl) ?_
  refine vk_getf hx hb hX.2.2.2.1 hS hown (hts _ L15) (fun _ h9 => h9) dJ0_coder_7d493_7 ?_
  refine lv_goto (tgt := 14) hx hb dJ0_coder_7d493_10 (by decide) ?_
  exact q_nret C hr hlocks (rfl) hK hP hD hS (Nat.le_of_ble_eq_true rfl) (Nat.le_of_ble_eq_true rfl) dJ0_coder_7d493_14 (rfl)

set_option maxHeartbeats 4000000 in
set_option maxRecDepth 100000 in
theorem k_J0_length_8abf5 (l : Launch) (dC : Nat → ClassId) (dI : Nat → Nat → Nat) (cB cI cJ cZ cS : ClassId) (ak av : Nat)  : CIX ak av l yJ0_length_8abf5 wsJ0_length_8abf5 ({ frames := 1, cells := 0, slots := 0, locals := 20 }) (dC, dI) (tysA cB cI cJ cZ cS) [] [.ref ak] (fun r _ => r = 101) := by
  refine open_IX (cc := cJ0_length_8abf5) (maxL := 1) (ret := (some .int)) (by decide) rfl (Nat.le_of_ble_eq_true rfl) ?_
  intro p e s m below meth c A ls E hX
  have hAO := hX.1
  obtain ⟨C, hr, hlocks, hnm, hA, hP, hK, hD, hN, hl⟩ := E
  obtain ⟨hx, hb, hml, hown, hts⟩ := id C
  have hS : va_S A s.heap s.heap [] := va_S.rf
  have hl : lv_has ls 1 [(0, .ref ak)] := hl
  have L9 : Cond.fieldLink RJ0 9 "java/lang/String" "value" "[B" ∈ wsJ0_length_8abf5 := (List.mem_cons_of_mem _ (List.mem_append_left _ (List.mem_of_getElem? (i := 0) rfl)))
  refine lv_aload_n hx hb dJ0_length_8abf5_0 rfl (lv_at hl 0 rfl) ?_
  refine vk_getf hx hb hX.2.2.2.2.1 hS hown (hts _ L9) (fun _ h9 => h9) dJ0_length_8abf5_1 ?_
  refine va_tlen (v := 101) hx hb hX.2.2.2.2.2.1 hS (by decide +kernel) dJ0_length_8abf5_4 ?_
  refine lv_aload_n hx hb dJ0_length_8abf5_5 rfl (lv_at hl 0 rfl) ?_
  refine q_goi0 (va_runV (As := []) (rest := [.int 101]) C (k_J0_coder_7d493 l dC dI cB cI cJ cZ cS ak av _) (cwV 0 hts gJ0_length_8abf5_J0_coder_7d493 rfl rfl rfl (by decide +kernel) ⟨Nat.le_of_ble_eq_true rfl, Nat.le_of_ble_eq_true rfl⟩) ⟨(q_preX0 hN hK hS hA hX).1, va_Orecv hX.2.2.1 hS, (q_preX0 hN hK hS hA hX).2⟩ rfl rfl hl.1 rfl (lv_room (Nat.le_of_ble_eq_true rfl)) dJ0_length_8abf5_6 ⟨Nat.le_of_ble_eq_true rfl, Nat.le_of_ble_eq_true rfl⟩) hP hD hS hA (fun r w1 H locs hw hP hS => ?_)
  obtain rfl := hw
  refine lv_ishr hx hb dJ0_length_8abf5_9 ?_
  refine q_top (y := 101) (by decide +kernel) ?_
  exact q_iret C hr hlocks hK hP hD hS (Nat.le_of_ble_eq_true rfl) (Nat.le_of_ble_eq_true rfl) dJ0_length_8abf5_10 (rfl)

set_option maxHeartbeats 4000000 in
set_option maxRecDepth 100000 in
theorem k_J0_isLatin1_aae02 (l : Launch) (dC : Nat → ClassId) (dI : Nat → Nat → Nat) (cB cI cJ cZ cS : ClassId) (ak av : Nat)  : CIX ak av l yJ0_isLatin1_aae02 wsJ0_isLatin1_aae02 ({ frames := 0, cells := 0, slots := 0, locals := 0 }) (dC, dI) (tysA cB cI cJ cZ cS) [] [.ref ak] (fun r _ => r = 1) := by
  refine open_IX (cc := cJ0_isLatin1_aae02) (maxL := 1) (ret := (some .boolean)) (by decide) rfl (Nat.le_of_ble_eq_true rfl) ?_
  intro p e s m below meth c A ls E hX
  have hAO := hX.1
  obtain ⟨C, hr, hlocks, hnm, hA, hP, hK, hD, hN, hl⟩ := E
  obtain ⟨hx, hb, hml, hown, hts⟩ := id C
  have hS : va_S A s.heap s.heap [] := va_S.rf
  have hl : lv_has ls 1 [(0, .ref ak)] := hl
  have G38 : Cond.fieldLink RJ0 38 "java/lang/String" "COMPACT_STRINGS" "Z" ∈ wsJ0_isLatin1_aae02 := (List.mem_cons_of_mem _ (List.mem_of_getElem? (i := 0) rfl))
  have L15 : Cond.fieldLink RJ0 15 "java/lang/String" "coder" "B" ∈ wsJ0_isLatin1_aae02 := (List.mem_cons_of_mem _ (List.mem_of_getElem? (i := 1) rfl))
  refine va_gets hx hb hX.2.2.2.2.2.2.1 hS hown (hts _ G38) (fun _ h9 => h9) dJ0_isLatin1_aae02_0 ?_
  refine lv_if_eq (tgt := 17) hx hb dJ0_isLatin1_aae02_3 (by decide) (fun h => absurd h (by decide +kernel)) (fun _ => ?_)
  refine lv_aload_n hx hb dJ0_isLatin1_aae02_6 rfl (lv_at hl 0 rfl) ?_
  refine vk_getf hx hb hX.2.2.2.1 hS hown (hts _ L15) (fun _ h9 => h9) dJ0_isLatin1_aae02_7 ?_
  refine lv_if_ne (tgt := 17) hx hb dJ0_isLatin1_aae02_10 (by decide) (fun h => absurd (by decide +kernel) h) (fun _ => ?_)
  refine lv_iconst (v := 1) hx hb dJ0_isLatin1_aae02_13 (by decide) ?_
  refine lv_goto (tgt := 18) hx hb dJ0_isLatin1_aae02_14 (by decide) ?_
  exact q_zret C hr hlocks (Or.inr rfl) hK hP hD hS (Nat.le_of_ble_eq_true rfl) (Nat.le_of_ble_eq_true rfl) dJ0_isLatin1_aae02_18 (rfl)

set_option maxHeartbeats 4000000 in
set_option maxRecDepth 100000 in
theorem k_ckn (l : Launch) (dC : Nat → ClassId) (dI : Nat → Nat → Nat) (cB cI cJ cZ cS : ClassId) (k0 : Nat) (hk0 : k0 < 101) : CI l yJ3_checkIndex_8e157 wsJ3_checkIndex_8e157 ({ frames := 0, cells := 0, slots := 0, locals := 0 }) (dC, dI) (tysA cB cI cJ cZ cS) [] [.int (nI k0), .int 101, .null] (fun r _ => r = (nI k0)) := by
  refine open_I (cc := cJ3_checkIndex_8e157) (maxL := 3) (ret := (some .int)) (by decide) rfl (Nat.le_of_ble_eq_true rfl) ?_
  intro p e s m below meth c A ls E
  obtain ⟨C, hr, hlocks, hnm, hA, hP, hK, hD, hN, hl⟩ := E
  obtain ⟨hx, hb, hml, hown, hts⟩ := id C
  have hS : va_S A s.heap s.heap [] := va_S.rf
  have hl : lv_has ls 3 [(0, .int (nI k0)), (1, .int 101), (2, .null)] := hl
  refine lv_iload_n hx hb dJ3_checkIndex_8e157_0 rfl (lv_at hl 0 rfl) ?_
  refine lv_if_lt (tgt := 9) hx hb dJ3_checkIndex_8e157_1 (by decide) (fun h => absurd h (nI_pos (by omega))) (fun _ => ?_)
  refine lv_iload_n hx hb dJ3_checkIndex_8e157_4 rfl (lv_at hl 0 rfl) ?_
  refine lv_iload_n hx hb dJ3_checkIndex_8e157_5 rfl (lv_at hl 1 rfl) ?_
  refine lv_icmp_lt (tgt := 16) hx hb dJ3_checkIndex_8e157_6 (by decide) (fun _ => ?_) (fun h => absurd (nI_lt (b := 101) hk0 (by omega)) h)
  refine lv_iload_n hx hb dJ3_checkIndex_8e157_16 rfl (lv_at hl 0 rfl) ?_
  exact q_iret C hr hlocks hK hP hD hS (Nat.le_of_ble_eq_true rfl) (Nat.le_of_ble_eq_true rfl) dJ3_checkIndex_8e157_17 (rfl)

set_option maxHeartbeats 4000000 in
set_option maxRecDepth 100000 in
theorem k_ckr (l : Launch) (dC : Nat → ClassId) (dI : Nat → Nat → Nat) (cB cI cJ cZ cS : ClassId) (k0 : Nat) (tF : Nat) (hk0 : k0 < 101) : CI l yJ3_checkIndex_8e157 wsJ3_checkIndex_8e157 ({ frames := 0, cells := 0, slots := 0, locals := 0 }) (dC, dI) (tysA cB cI cJ cZ cS) [] [.int (nI k0), .int 101, .ref tF] (fun r _ => r = (nI k0)) := by
  refine open_I (cc := cJ3_checkIndex_8e157) (maxL := 3) (ret := (some .int)) (by decide) rfl (Nat.le_of_ble_eq_true rfl) ?_
  intro p e s m below meth c A ls E
  obtain ⟨C, hr, hlocks, hnm, hA, hP, hK, hD, hN, hl⟩ := E
  obtain ⟨hx, hb, hml, hown, hts⟩ := id C
  have hS : va_S A s.heap s.heap [] := va_S.rf
  have hl : lv_has ls 3 [(0, .int (nI k0)), (1, .int 101), (2, .ref tF)] := hl
  refine lv_iload_n hx hb dJ3_checkIndex_8e157_0 rfl (lv_at hl 0 rfl) ?_
  refine lv_if_lt (tgt := 9) hx hb dJ3_checkIndex_8e157_1 (by decide) (fun h => absurd h (nI_pos (by omega))) (fun _ => ?_)
  refine lv_iload_n hx hb dJ3_checkIndex_8e157_4 rfl (lv_at hl 0 rfl) ?_
  refine lv_iload_n hx hb dJ3_checkIndex_8e157_5 rfl (lv_at hl 1 rfl) ?_
  refine lv_icmp_lt (tgt := 16) hx hb dJ3_checkIndex_8e157_6 (by decide) (fun _ => ?_) (fun h => absurd (nI_lt (b := 101) hk0 (by omega)) h)
  refine lv_iload_n hx hb dJ3_checkIndex_8e157_16 rfl (lv_at hl 0 rfl) ?_
  exact q_iret C hr hlocks hK hP hD hS (Nat.le_of_ble_eq_true rfl) (Nat.le_of_ble_eq_true rfl) dJ3_checkIndex_8e157_17 (rfl)

set_option maxHeartbeats 4000000 in
set_option maxRecDepth 100000 in
theorem k_J0_checkIndex_df160 (l : Launch) (dC : Nat → ClassId) (dI : Nat → Nat → Nat) (cB cI cJ cZ cS : ClassId) (ak av : Nat) (k0 : Nat) (hk0 : k0 < 101) : CVX ak av l yJ0_checkIndex_df160 wsJ0_checkIndex_df160 ({ frames := 1, cells := 0, slots := 0, locals := 22 }) (dC, dI) (tysA cB cI cJ cZ cS) [] [.int (nI k0), .int 101] (fun _ => True) := by
  refine open_VX (cc := cJ0_checkIndex_df160) (maxL := 2) (ret := none) (by decide) rfl (Nat.le_of_ble_eq_true rfl) ?_
  intro p e s m below meth c A ls E hX
  have hAO := hX.1
  obtain ⟨C, hr, hlocks, hnm, hA, hP, hK, hD, hN, hl⟩ := E
  obtain ⟨hx, hb, hml, hown, hts⟩ := id C
  have hS : va_S A s.heap s.heap [] := va_S.rf
  have hl : lv_has ls 2 [(0, .int (nI k0)), (1, .int 101)] := hl
  have G1053 : Cond.fieldLink RJ0 1053 "jdk/internal/util/Preconditions" "SIOOBE_FORMATTER" "Ljava/util/function/BiFunction;" ∈ wsJ0_checkIndex_df160 := (List.mem_cons_of_mem _ (List.mem_append_left _ (List.mem_of_getElem? (i := 0) rfl)))
  refine lv_iload_n hx hb dJ0_checkIndex_df160_0 rfl (lv_at hl 0 rfl) ?_
  refine lv_iload_n hx hb dJ0_checkIndex_df160_1 rfl (lv_at hl 1 rfl) ?_
  rcases hX.2.2.2.2.2.2.2 with hF | ⟨tF, hF⟩
  · skip
    refine va_gets hx hb hF hS hown (hts _ G1053) (fun _ h9 => h9) dJ0_checkIndex_df160_2 ?_
    refine q_goi0 (va_runS (As := [.int (nI k0), .int 101, .null]) (rest := []) C (k_ckn l dC dI cB cI cJ cZ cS k0 (hk0) _) (va_cwS 3 hts gJ0_checkIndex_df160_J3_checkIndex_8e157 rfl rfl rfl (by decide +kernel) ⟨Nat.le_of_ble_eq_true rfl, Nat.le_of_ble_eq_true rfl⟩) (q_pre0 hN hK) rfl rfl hl.1 rfl (lv_room (Nat.le_of_ble_eq_true rfl)) dJ0_checkIndex_df160_5 ⟨Nat.le_of_ble_eq_true rfl, Nat.le_of_ble_eq_true rfl⟩) hP hD hS hA (fun r w1 H locs hw hP hS => ?_)
    obtain rfl := hw
    refine lv_pop hx hb dJ0_checkIndex_df160_8 rfl ?_
    exact q_vret C hr hlocks hK hP hD hS (Nat.le_of_ble_eq_true rfl) (Nat.le_of_ble_eq_true rfl) dJ0_checkIndex_df160_9 (trivial)
  · skip
    refine va_gets hx hb hF hS hown (hts _ G1053) (fun _ h9 => h9) dJ0_checkIndex_df160_2 ?_
    refine q_goi0 (va_runS (As := [.int (nI k0), .int 101, .ref tF]) (rest := []) C (k_ckr l dC dI cB cI cJ cZ cS k0 tF (hk0) _) (va_cwS 3 hts gJ0_checkIndex_df160_J3_checkIndex_8e157 rfl rfl rfl (by decide +kernel) ⟨Nat.le_of_ble_eq_true rfl, Nat.le_of_ble_eq_true rfl⟩) (q_pre0 hN hK) rfl rfl hl.1 rfl (lv_room (Nat.le_of_ble_eq_true rfl)) dJ0_checkIndex_df160_5 ⟨Nat.le_of_ble_eq_true rfl, Nat.le_of_ble_eq_true rfl⟩) hP hD hS hA (fun r w1 H locs hw hP hS => ?_)
    obtain rfl := hw
    refine lv_pop hx hb dJ0_checkIndex_df160_8 rfl ?_
    exact q_vret C hr hlocks hK hP hD hS (Nat.le_of_ble_eq_true rfl) (Nat.le_of_ble_eq_true rfl) dJ0_checkIndex_df160_9 (trivial)

set_option maxHeartbeats 4000000 in
set_option maxRecDepth 100000 in
theorem k_J1_charAt_3b067 (l : Launch) (dC : Nat → ClassId) (dI : Nat → Nat → Nat) (cB cI cJ cZ cS : ClassId) (ak av : Nat) (k0 : Nat) (hk0 : k0 < 101) : CIX ak av l yJ1_charAt_3b067 wsJ1_charAt_3b067 ({ frames := 2, cells := 0, slots := 0, locals := 43 }) (dC, dI) (tysA cB cI cJ cZ cS) [] [.ref av, .int (nI k0)] (fun r _ => narrow .char (.int r) = .int r ∧ r = bcW k0) := by
  refine open_IX (cc := cJ1_charAt_3b067) (maxL := 2) (ret := (some .char)) (by decide) rfl (Nat.le_of_ble_eq_true rfl) ?_
  intro p e s m below meth c A ls E hX
  have hAO := hX.1
  obtain ⟨C, hr, hlocks, hnm, hA, hP, hK, hD, hN, hl⟩ := E
  obtain ⟨hx, hb, hml, hown, hts⟩ := id C
  have hS : va_S A s.heap s.heap [] := va_S.rf
  have hl : lv_has ls 2 [(0, .ref av), (1, .int (nI k0))] := hl
  refine lv_iload_n hx hb dJ1_charAt_3b067_0 rfl (lv_at hl 1 rfl) ?_
  refine lv_aload_n hx hb dJ1_charAt_3b067_1 rfl (lv_at hl 0 rfl) ?_
  refine va_tlen (v := 101) hx hb hX.2.2.2.2.2.1 hS (by decide +kernel) dJ1_charAt_3b067_2 ?_
  refine q_gov0 (va_runS (As := [.int (nI k0), .int 101]) (rest := []) C (k_J0_checkIndex_df160 l dC dI cB cI cJ cZ cS ak av k0 (hk0) _) (va_cwS 2 hts gJ1_charAt_3b067_J0_checkIndex_df160 rfl rfl rfl (by decide +kernel) ⟨Nat.le_of_ble_eq_true rfl, Nat.le_of_ble_eq_true rfl⟩) (q_preX0 hN hK hS hA hX) rfl rfl hl.1 rfl (lv_room (Nat.le_of_ble_eq_true rfl)) dJ1_charAt_3b067_3 ⟨Nat.le_of_ble_eq_true rfl, Nat.le_of_ble_eq_true rfl⟩) hP hD hS hA (fun w1 H locs hw hP hS => ?_)
  refine lv_aload_n hx hb dJ1_charAt_3b067_6 rfl (lv_at hl 0 rfl) ?_
  refine lv_iload_n hx hb dJ1_charAt_3b067_7 rfl (lv_at hl 1 rfl) ?_
  refine va_tb (v := .int (bytL.getD (Int32.toNatClampNeg (nI k0)) 0)) hx hb hX.2.2.2.2.2.1 hS (vp_in_nI (by omega) (by omega)) rfl dJ1_charAt_3b067_8 ?_
  refine lv_sipush (v := 255) hx hb dJ1_charAt_3b067_9 (by decide) ?_
  refine lv_iand hx hb dJ1_charAt_3b067_12 ?_
  refine lv_i2c (v := (UInt32.toInt32 ((Int32.toUInt32 ((bytL.getD (Int32.toNatClampNeg (nI k0)) 0) &&& 255)) % 65536))) hx hb dJ1_charAt_3b067_13 rfl ?_
  exact q_nret C hr hlocks (nar_b _ (by rw [nI_clamp (by omega)]; omega)) hK hP hD hS (Nat.le_of_ble_eq_true rfl) (Nat.le_of_ble_eq_true rfl) dJ1_charAt_3b067_14 (⟨nar_b _ (by rw [nI_clamp (by omega)]; omega), by rw [nI_clamp (by omega)]⟩)

set_option maxHeartbeats 4000000 in
set_option maxRecDepth 100000 in
theorem k_J0_charAt_5068e (l : Launch) (dC : Nat → ClassId) (dI : Nat → Nat → Nat) (cB cI cJ cZ cS : ClassId) (ak av : Nat) (k0 : Nat) (hk0 : k0 < 101) : CIX ak av l yJ0_charAt_5068e wsJ0_charAt_5068e ({ frames := 3, cells := 0, slots := 0, locals := 64 }) (dC, dI) (tysA cB cI cJ cZ cS) [] [.ref ak, .int (nI k0)] (fun r _ => narrow .char (.int r) = .int r ∧ r = bcW k0) := by
  refine open_IX (cc := cJ0_charAt_5068e) (maxL := 2) (ret := (some .char)) (by decide) rfl (Nat.le_of_ble_eq_true rfl) ?_
  intro p e s m below meth c A ls E hX
  have hAO := hX.1
  obtain ⟨C, hr, hlocks, hnm, hA, hP, hK, hD, hN, hl⟩ := E
  obtain ⟨hx, hb, hml, hown, hts⟩ := id C
  have hS : va_S A s.heap s.heap [] := va_S.rf
  have hl : lv_has ls 2 [(0, .ref ak), (1, .int (nI k0))] := hl
  have L9 : Cond.fieldLink RJ0 9 "java/lang/String" "value" "[B" ∈ wsJ0_charAt_5068e := (List.mem_cons_of_mem _ (List.mem_append_left _ (List.mem_of_getElem? (i := 0) rfl)))
  refine lv_aload_n hx hb dJ0_charAt_5068e_0 rfl (lv_at hl 0 rfl) ?_
  refine q_goi0 (va_runV (As := []) (rest := []) C (k_J0_isLatin1_aae02 l dC dI cB cI cJ cZ cS ak av _) (cwV 0 hts gJ0_charAt_5068e_J0_isLatin1_aae02 rfl rfl rfl (by decide +kernel) ⟨Nat.le_of_ble_eq_true rfl, Nat.le_of_ble_eq_true rfl⟩) ⟨(q_preX0 hN hK hS hA hX).1, va_Orecv hX.2.2.1 hS, (q_preX0 hN hK hS hA hX).2⟩ rfl rfl hl.1 rfl (lv_room (Nat.le_of_ble_eq_true rfl)) dJ0_charAt_5068e_1 ⟨Nat.le_of_ble_eq_true rfl, Nat.le_of_ble_eq_true rfl⟩) hP hD hS hA (fun r w1 H locs hw hP hS => ?_)
  obtain rfl := hw
  refine lv_if_eq (tgt := 16) hx hb dJ0_charAt_5068e_4 (by decide) (fun h => absurd h (by decide +kernel)) (fun _ => ?_)
  refine lv_aload_n hx hb dJ0_charAt_5068e_7 rfl (lv_at hl 0 rfl) ?_
  refine vk_getf hx hb hX.2.2.2.2.1 hS hown (hts _ L9) (fun _ h9 => h9) dJ0_charAt_5068e_8 ?_
  refine lv_iload_n hx hb dJ0_charAt_5068e_11 rfl (lv_at hl 1 rfl) ?_
  refine q_goi0 (va_runS (As := [.ref av, .int (nI k0)]) (rest := []) C (k_J1_charAt_3b067 l dC dI cB cI cJ cZ cS ak av k0 (hk0) _) (va_cwS 2 hts gJ0_charAt_5068e_J1_charAt_3b067 rfl rfl rfl (by decide +kernel) ⟨Nat.le_of_ble_eq_true rfl, Nat.le_of_ble_eq_true rfl⟩) (q_preX0 hN hK hS hA hX) rfl rfl hl.1 rfl (lv_room (Nat.le_of_ble_eq_true rfl)) dJ0_charAt_5068e_12 ⟨Nat.le_of_ble_eq_true rfl, Nat.le_of_ble_eq_true rfl⟩) hP hD hS hA (fun r1 w1 H locs hw2 hP hS => ?_)
  exact q_nret C hr hlocks (hw2.1) hK hP hD hS (Nat.le_of_ble_eq_true rfl) (Nat.le_of_ble_eq_true rfl) dJ0_charAt_5068e_15 (hw2)

set_option maxHeartbeats 4000000 in
set_option maxRecDepth 100000 in
theorem k_X9_isLetter (l : Launch) (dC : Nat → ClassId) (dI : Nat → Nat → Nat) (cB cI cJ cZ cS : ClassId) (x1 : Int32) : CI l yX9_isLetter wsX9_isLetter ({ frames := 0, cells := 0, slots := 0, locals := 0 }) (dC, dI) (tysA cB cI cJ cZ cS) [] [.int x1] (fun r _ => r = isLw x1) := by
  refine open_I (cc := cX9_isLetter) (maxL := 1) (ret := (some .boolean)) (by decide) rfl (Nat.le_of_ble_eq_true rfl) ?_
  intro p e s m below meth c A ls E
  obtain ⟨C, hr, hlocks, hnm, hA, hP, hK, hD, hN, hl⟩ := E
  obtain ⟨hx, hb, hml, hown, hts⟩ := id C
  have hS : va_S A s.heap s.heap [] := va_S.rf
  have hl : lv_has ls 1 [(0, .int x1)] := hl
  refine lv_iload_n hx hb dX9_isLetter_0 rfl (lv_at hl 0 rfl) ?_
  refine lv_bipush (v := 97) hx hb dX9_isLetter_1 (by decide) ?_
  refine lv_icmp_lt (tgt := 16) hx hb dX9_isLetter_3 (by decide) (fun c1 => ?_) (fun c1 => ?_)
  · skip
    refine lv_iconst (v := 0) hx hb dX9_isLetter_16 (by decide) ?_
    exact q_zret C hr hlocks (Or.inl rfl) hK hP hD hS (Nat.le_of_ble_eq_true rfl) (Nat.le_of_ble_eq_true rfl) dX9_isLetter_17 ((by unfold isLw; first | rw [if_pos (show x1 < 97 by assumption)] | rw [if_neg (show ¬ x1 < 97 by assumption), if_pos (show 122 < x1 by assumption)] | rw [if_neg (show ¬ x1 < 97 by assumption), if_neg (show ¬ 122 < x1 by assumption)]))
  · skip
    refine lv_iload_n hx hb dX9_isLetter_6 rfl (lv_at hl 0 rfl) ?_
    refine lv_bipush (v := 122) hx hb dX9_isLetter_7 (by decide) ?_
    refine lv_icmp_gt (tgt := 16) hx hb dX9_isLetter_9 (by decide) (fun c2 => ?_) (fun c2 => ?_)
    · skip
      refine lv_iconst (v := 0) hx hb dX9_isLetter_16 (by decide) ?_
      exact q_zret C hr hlocks (Or.inl rfl) hK hP hD hS (Nat.le_of_ble_eq_true rfl) (Nat.le_of_ble_eq_true rfl) dX9_isLetter_17 ((by unfold isLw; first | rw [if_pos (show x1 < 97 by assumption)] | rw [if_neg (show ¬ x1 < 97 by assumption), if_pos (show 122 < x1 by assumption)] | rw [if_neg (show ¬ x1 < 97 by assumption), if_neg (show ¬ 122 < x1 by assumption)]))
    · skip
      refine lv_iconst (v := 1) hx hb dX9_isLetter_12 (by decide) ?_
      refine lv_goto (tgt := 17) hx hb dX9_isLetter_13 (by decide) ?_
      exact q_zret C hr hlocks (Or.inr rfl) hK hP hD hS (Nat.le_of_ble_eq_true rfl) (Nat.le_of_ble_eq_true rfl) dX9_isLetter_17 ((by unfold isLw; first | rw [if_pos (show x1 < 97 by assumption)] | rw [if_neg (show ¬ x1 < 97 by assumption), if_pos (show 122 < x1 by assumption)] | rw [if_neg (show ¬ x1 < 97 by assumption), if_neg (show ¬ 122 < x1 by assumption)]))

set_option maxHeartbeats 4000000 in
set_option maxRecDepth 100000 in
theorem k_X9_withLetter (l : Launch) (dC : Nat → ClassId) (dI : Nat → Nat → Nat) (cB cI cJ cZ cS : ClassId) (L1 : Int64) (x2 : Int32) : CL l yX9_withLetter wsX9_withLetter ({ frames := 0, cells := 0, slots := 0, locals := 0 }) (dC, dI) (tysA cB cI cJ cZ cS) [] [.long L1, .int x2] (fun r _ => r = wlW L1 x2) := by
  refine open_L (cc := cX9_withLetter) (maxL := 3) (ret := (some .long)) (by decide) rfl (Nat.le_of_ble_eq_true rfl) ?_
  intro p e s m below meth c A ls E
  obtain ⟨C, hr, hlocks, hnm, hA, hP, hK, hD, hN, hl⟩ := E
  obtain ⟨hx, hb, hml, hown, hts⟩ := id C
  have hS : va_S A s.heap s.heap [] := va_S.rf
  have hl : lv_has ls 3 [(0, .long L1), (2, .int x2)] := hl
  refine lv_lload_n hx hb dX9_withLetter_0 rfl (lv_at hl 0 rfl) ?_
  refine lv_iconst (v := 5) hx hb dX9_withLetter_1 (by decide) ?_
  refine lv_lshl hx hb dX9_withLetter_2 rfl ?_
  refine lv_iload_n hx hb dX9_withLetter_3 rfl (lv_at hl 1 rfl) ?_
  refine lv_bipush (v := 97) hx hb dX9_withLetter_4 (by decide) ?_
  refine lv_isub hx hb dX9_withLetter_6 ?_
  refine lv_iconst (v := 1) hx hb dX9_withLetter_7 (by decide) ?_
  refine lv_iadd hx hb dX9_withLetter_8 ?_
  refine lv_i2l hx hb dX9_withLetter_9 rfl ?_
  refine lv_lor hx hb dX9_withLetter_10 ?_
  exact q_lret C hr hlocks hK hP hD hS (Nat.le_of_ble_eq_true rfl) (Nat.le_of_ble_eq_true rfl) dX9_withLetter_11 (rfl)

set_option maxHeartbeats 4000000 in
set_option maxRecDepth 100000 in
theorem k_X9_init (l : Launch) (dC : Nat → ClassId) (dI : Nat → Nat → Nat) (cB cI cJ cZ cS : ClassId) (ak av : Nat) (q_tape : Nat) (q_tokens : Nat) (u_tokens_5 : Value) (u_tokens_6 : Value) : CVX ak av l yX9_init wsX9_init ({ frames := 4, cells := 4, slots := 1222, locals := 85 }) (dC, dI) (tysA cB cI cJ cZ cS) [(q_tokens, .inr (9, [.null, .null, .null, .null, .null, u_tokens_5, u_tokens_6]))] [.ref q_tokens, .ref q_tape] (fun w => ∃ q_words : Nat, ∃ q_kinds : Nat, ∃ q_starts : Nat, ∃ q_values : Nat, ∃ φf900 : Nat → Int64, (φf900 = wdF) ∧ w = [(q_tokens, .inr (9, [.ref q_tape, .ref q_words, .ref q_kinds, .ref q_starts, .ref q_values, u_tokens_5, u_tokens_6])), (q_words, .inl (cJ, 19, .inr (.inl φf900))), (q_kinds, .inl (cI, 401, .inl (fun _ => 0))), (q_starts, .inl (cI, 401, .inl (fun _ => 0))), (q_values, .inl (cJ, 401, .inr (.inl (fun _ => 0))))]) := by
  refine open_VX (cc := cX9_init) (maxL := 7) (ret := none) (by decide) rfl (Nat.le_of_ble_eq_true rfl) ?_
  intro p e s m below meth c A ls E hX
  have hAO := hX.1
  obtain ⟨C, hr, hlocks, hnm, hA, hP, hK, hD, hN, hl⟩ := E
  obtain ⟨hx, hb, hml, hown, hts⟩ := id C
  have hS : va_S A s.heap s.heap [] := va_S.rf
  have hl : lv_has ls 7 [(0, .ref q_tokens), (1, .ref q_tape)] := hl
  have inX9 : ∀ w ∈ u_ws RX9 TX9 7, w ∈ wsX9_init := fun w h => (List.mem_cons_of_mem _ (List.mem_append_right _ h))
  have ACI : Cond.arrayClass .int ∈ wsX9_init := (List.mem_cons_of_mem _ (List.mem_append_left _ (List.mem_append_left _ (List.mem_of_getElem? (i := 5) rfl))))
  have ACJ : Cond.arrayClass .long ∈ wsX9_init := (List.mem_cons_of_mem _ (List.mem_append_left _ (List.mem_append_left _ (List.mem_of_getElem? (i := 3) rfl))))
  have L13 : Cond.fieldLink RX9 13 "GuessFerry$Tokens" "kinds" "[I" ∈ wsX9_init := (List.mem_cons_of_mem _ (List.mem_append_left _ (List.mem_append_left _ (List.mem_of_getElem? (i := 6) rfl))))
  have L17 : Cond.fieldLink RX9 17 "GuessFerry$Tokens" "starts" "[I" ∈ wsX9_init := (List.mem_cons_of_mem _ (List.mem_append_left _ (List.mem_append_left _ (List.mem_of_getElem? (i := 7) rfl))))
  have L20 : Cond.fieldLink RX9 20 "GuessFerry$Tokens" "values" "[J" ∈ wsX9_init := (List.mem_cons_of_mem _ (List.mem_append_left _ (List.mem_append_left _ (List.mem_of_getElem? (i := 8) rfl))))
  have L23 : Cond.fieldLink RX9 23 "GuessFerry$Tokens" "tape" "LGuessFerry$Tape;" ∈ wsX9_init := (List.mem_cons_of_mem _ (List.mem_append_left _ (List.mem_append_left _ (List.mem_of_getElem? (i := 9) rfl))))
  have L9 : Cond.fieldLink RX9 9 "GuessFerry$Tokens" "words" "[J" ∈ wsX9_init := (List.mem_cons_of_mem _ (List.mem_append_left _ (List.mem_append_left _ (List.mem_of_getElem? (i := 4) rfl))))
  have OC : Cond.code Lib.objectInit ⟨#[0xb1]⟩ 1 none ∈ wsX9_init := by decide +kernel
  have OI : Cond.instanceMethod Lib.objectInit ∈ wsX9_init := by decide +kernel
  have OL3 : Cond.methodLink RX9 3 Lib.objectInit ∈ wsX9_init := by decide +kernel
  refine lv_aload_n hx hb dX9_init_0 rfl (lv_at hl 0 rfl) ?_
  refine W.objInit hx hb hown (hts _ OL3) (hts _ OI) (hts _ OC) rfl (by rw [hml]; exact hl.1) rfl dX9_init_1 (Nat.le_of_ble_eq_true rfl) (Nat.le_of_ble_eq_true rfl) ?_
  refine W.eq (g2 := F0 m 4 ls []) rfl ?_
  refine lv_aload_n hx hb dX9_init_4 rfl (lv_at hl 0 rfl) ?_
  refine lv_bipush (v := 19) hx hb dX9_init_5 (by decide) ?_
  refine q_newa (atype := .long) (ty := .long) (N' := 19) (19, .inr (.inl (fun _ => 0))) C ACJ rfl (fun _ => rfl) hK hP hD hS hA 2 rfl (fun _ => rfl) (by decide) (by decide +kernel) (by decide +kernel) (Nat.le_of_ble_eq_true rfl) (Nat.le_of_ble_eq_true rfl) dX9_init_7 (fun q_words H hP hD hS => ?_)
  refine q_putF (ty := .array .long) (w2 := [(q_tokens, .inr (9, [.null, .ref q_words, .null, .null, .null, u_tokens_5, u_tokens_6])), (q_words, .inl (cJ, 19, .inr (.inl (fun _ => 0))))]) tyX9 tyX9_ok nmX9 C inX9 hK hP hD hS 0 rfl rfl 1 (by decide) rfl rfl hnm L9 rfl (by decide +kernel) (rfl) rfl (Nat.le_of_ble_eq_true rfl) dX9_init_9 rfl (fun H locs hP hD hS => ?_)
  refine lv_aload_n hx hb dX9_init_12 rfl (lv_at hl 0 rfl) ?_
  refine lv_sipush (v := 401) hx hb dX9_init_13 (by decide) ?_
  refine q_newa (atype := .int) (ty := .int) (N' := 401) (401, .inl (fun _ => 0)) C ACI rfl (fun _ => rfl) hK hP hD hS hA 1 rfl (fun _ => rfl) (by decide) (by decide +kernel) (by decide +kernel) (Nat.le_of_ble_eq_true rfl) (Nat.le_of_ble_eq_true rfl) dX9_init_16 (fun q_kinds H hP hD hS => ?_)
  refine q_putF (ty := .array .int) (w2 := [(q_tokens, .inr (9, [.null, .ref q_words, .ref q_kinds, .null, .null, u_tokens_5, u_tokens_6])), (q_words, .inl (cJ, 19, .inr (.inl (fun _ => 0)))), (q_kinds, .inl (cI, 401, .inl (fun _ => 0)))]) tyX9 tyX9_ok nmX9 C inX9 hK hP hD hS 0 rfl rfl 2 (by decide) rfl rfl hnm L13 rfl (by decide +kernel) (rfl) rfl (Nat.le_of_ble_eq_true rfl) dX9_init_18 rfl (fun H locs hP hD hS => ?_)
  refine lv_aload_n hx hb dX9_init_21 rfl (lv_at hl 0 rfl) ?_
  refine lv_sipush (v := 401) hx hb dX9_init_22 (by decide) ?_
  refine q_newa (atype := .int) (ty := .int) (N' := 401) (401, .inl (fun _ => 0)) C ACI rfl (fun _ => rfl) hK hP hD hS hA 1 rfl (fun _ => rfl) (by decide) (by decide +kernel) (by decide +kernel) (Nat.le_of_ble_eq_true rfl) (Nat.le_of_ble_eq_true rfl) dX9_init_25 (fun q_starts H hP hD hS => ?_)
  refine q_putF (ty := .array .int) (w2 := [(q_tokens, .inr (9, [.null, .ref q_words, .ref q_kinds, .ref q_starts, .null, u_tokens_5, u_tokens_6])), (q_words, .inl (cJ, 19, .inr (.inl (fun _ => 0)))), (q_kinds, .inl (cI, 401, .inl (fun _ => 0))), (q_starts, .inl (cI, 401, .inl (fun _ => 0)))]) tyX9 tyX9_ok nmX9 C inX9 hK hP hD hS 0 rfl rfl 3 (by decide) rfl rfl hnm L17 rfl (by decide +kernel) (rfl) rfl (Nat.le_of_ble_eq_true rfl) dX9_init_27 rfl (fun H locs hP hD hS => ?_)
  refine lv_aload_n hx hb dX9_init_30 rfl (lv_at hl 0 rfl) ?_
  refine lv_sipush (v := 401) hx hb dX9_init_31 (by decide) ?_
  refine q_newa (atype := .long) (ty := .long) (N' := 401) (401, .inr (.inl (fun _ => 0))) C ACJ rfl (fun _ => rfl) hK hP hD hS hA 2 rfl (fun _ => rfl) (by decide) (by decide +kernel) (by decide +kernel) (Nat.le_of_ble_eq_true rfl) (Nat.le_of_ble_eq_true rfl) dX9_init_34 (fun q_values H hP hD hS => ?_)
  refine q_putF (ty := .array .long) (w2 := [(q_tokens, .inr (9, [.null, .ref q_words, .ref q_kinds, .ref q_starts, .ref q_values, u_tokens_5, u_tokens_6])), (q_words, .inl (cJ, 19, .inr (.inl (fun _ => 0)))), (q_kinds, .inl (cI, 401, .inl (fun _ => 0))), (q_starts, .inl (cI, 401, .inl (fun _ => 0))), (q_values, .inl (cJ, 401, .inr (.inl (fun _ => 0))))]) tyX9 tyX9_ok nmX9 C inX9 hK hP hD hS 0 rfl rfl 4 (by decide) rfl rfl hnm L20 rfl (by decide +kernel) (rfl) rfl (Nat.le_of_ble_eq_true rfl) dX9_init_36 rfl (fun H locs hP hD hS => ?_)
  refine lv_aload_n hx hb dX9_init_39 rfl (lv_at hl 0 rfl) ?_
  refine lv_aload_n hx hb dX9_init_40 rfl (lv_at hl 1 rfl) ?_
  refine q_putF (ty := .object "GuessFerry$Tape") (w2 := [(q_tokens, .inr (9, [.ref q_tape, .ref q_words, .ref q_kinds, .ref q_starts, .ref q_values, u_tokens_5, u_tokens_6])), (q_words, .inl (cJ, 19, .inr (.inl (fun _ => 0)))), (q_kinds, .inl (cI, 401, .inl (fun _ => 0))), (q_starts, .inl (cI, 401, .inl (fun _ => 0))), (q_values, .inl (cJ, 401, .inr (.inl (fun _ => 0))))]) tyX9 tyX9_ok nmX9 C inX9 hK hP hD hS 0 rfl rfl 0 (by decide) rfl rfl hnm L23 rfl (by decide +kernel) (rfl) rfl (Nat.le_of_ble_eq_true rfl) dX9_init_41 rfl (fun H locs hP hD hS => ?_)
  refine lv_iconst (v := 0) hx hb dX9_init_44 (by decide) ?_
  refine lv_istore_n (lv' := [(2, .int 0), (0, .ref q_tokens), (1, .ref q_tape)]) hx hb dX9_init_45 rfl hl (by decide) rfl (fun ls hl => ?_)
  refine lv_lconst (v := 0) hx hb dX9_init_46 (by decide) ?_
  refine lv_lstore_n (lv' := [(3, .long 0), (2, .int 0), (0, .ref q_tokens), (1, .ref q_tape)]) hx hb dX9_init_47 rfl hl (by decide) rfl (fun ls hl => ?_)
  refine lv_iconst (v := 0) hx hb dX9_init_48 (by decide) ?_
  refine lv_istore (lv' := [(5, .int 0), (3, .long 0), (2, .int 0), (0, .ref q_tokens), (1, .ref q_tape)]) hx hb dX9_init_49 hl (by decide) rfl (fun ls hl => ?_)
  have loop : ∀ (n i : Nat), i + n = 101 → ∀ (k : Nat) (z : Int64) (φf900 : Nat → Int64) (H : Heap) (locs : List Loc) (ls : Array Slot), k ≤ 19 → wst i = (k, z, φf900) → va_P (dC, dI) vwCl [(q_tokens, .inr (9, [.ref q_tape, .ref q_words, .ref q_kinds, .ref q_starts, .ref q_values, u_tokens_5, u_tokens_6])), (q_words, .inl (cJ, 19, .inr (.inl φf900))), (q_kinds, .inl (cI, 401, .inl (fun _ => 0))), (q_starts, .inl (cI, 401, .inl (fun _ => 0))), (q_values, .inl (cJ, 401, .inr (.inl (fun _ => 0))))] H → va_D A [(q_tokens, .inr (9, [.ref q_tape, .ref q_words, .ref q_kinds, .ref q_starts, .ref q_values, u_tokens_5, u_tokens_6])), (q_words, .inl (cJ, 19, .inr (.inl φf900))), (q_kinds, .inl (cI, 401, .inl (fun _ => 0))), (q_starts, .inl (cI, 401, .inl (fun _ => 0))), (q_values, .inl (cJ, 401, .inr (.inl (fun _ => 0))))] → va_S A s.heap H locs → lv_has ls 7 [(5, .int (nI i)), (2, .int (nI k)), (3, .long z), (0, .ref q_tokens), (1, .ref q_tape)] → W p l e ({ frames := 4, cells := 4, slots := 1222, locals := 85 }) s m [Value.ref q_tokens, Value.ref q_tape].toArray below meth c H locs 4 1222 (MQ below (va_Qv (fun w => ∃ q_words : Nat, ∃ q_kinds : Nat, ∃ q_starts : Nat, ∃ q_values : Nat, ∃ φf900 : Nat → Int64, (φf900 = wdF) ∧ w = [(q_tokens, .inr (9, [.ref q_tape, .ref q_words, .ref q_kinds, .ref q_starts, .ref q_values, u_tokens_5, u_tokens_6])), (q_words, .inl (cJ, 19, .inr (.inl φf900))), (q_kinds, .inl (cI, 401, .inl (fun _ => 0))), (q_starts, .inl (cI, 401, .inl (fun _ => 0))), (q_values, .inl (cJ, 401, .inr (.inl (fun _ => 0))))]) (at_W (dC, dI) (tysA cB cI cJ cZ cS) A) A) [Value.ref q_tokens, Value.ref q_tape].toArray s 4 1222 A) (F0 m 51 ls []) := by
    intro n
    induction n with
    | zero =>
      intro i hi k z φf900 H locs ls hk hst hP hD hS hl
      obtain rfl : i = 101 := by omega
      have hφ900 : φf900 = wdF := by unfold wdF; rw [hst]
      refine lv_iload hx hb dX9_init_51 (lv_at hl 0 rfl) ?_
      refine va_ldcS hx hb hown hX.2.1 dX9_init_53 ?_
      refine q_goi0 (va_runV (As := []) (rest := [.int (nI 101)]) C (k_J0_length_8abf5 l dC dI cB cI cJ cZ cS ak av _) (cwV 0 hts gX9_init_J0_length_8abf5 rfl rfl rfl (by decide +kernel) ⟨Nat.le_of_ble_eq_true rfl, Nat.le_of_ble_eq_true rfl⟩) ⟨(q_preX0 hN hK hS hA hX).1, va_Orecv hX.2.2.1 hS, (q_preX0 hN hK hS hA hX).2⟩ rfl rfl hl.1 rfl (lv_room (Nat.le_of_ble_eq_true rfl)) dX9_init_55 ⟨Nat.le_of_ble_eq_true rfl, Nat.le_of_ble_eq_true rfl⟩) hP hD hS hA (fun r w1 H locs hw hP hS => ?_)
      obtain rfl := hw
      refine lv_icmp_ge (tgt := 112) hx hb dX9_init_58 (by decide) (fun _ => ?_) (fun h => absurd (by decide +kernel) h)
      exact q_vret C hr hlocks hK hP hD hS (Nat.le_of_ble_eq_true rfl) (Nat.le_of_ble_eq_true rfl) dX9_init_112 (⟨q_words, q_kinds, q_starts, q_values, φf900, hφ900, rfl⟩)
    | succ n ih =>
      intro i hi k z φf900 H locs ls hk hst hP hD hS hl
      have hk0 : i < 101 := by omega
      refine lv_iload hx hb dX9_init_51 (lv_at hl 0 rfl) ?_
      refine va_ldcS hx hb hown hX.2.1 dX9_init_53 ?_
      refine q_goi0 (va_runV (As := []) (rest := [.int (nI i)]) C (k_J0_length_8abf5 l dC dI cB cI cJ cZ cS ak av _) (cwV 0 hts gX9_init_J0_length_8abf5 rfl rfl rfl (by decide +kernel) ⟨Nat.le_of_ble_eq_true rfl, Nat.le_of_ble_eq_true rfl⟩) ⟨(q_preX0 hN hK hS hA hX).1, va_Orecv hX.2.2.1 hS, (q_preX0 hN hK hS hA hX).2⟩ rfl rfl hl.1 rfl (lv_room (Nat.le_of_ble_eq_true rfl)) dX9_init_55 ⟨Nat.le_of_ble_eq_true rfl, Nat.le_of_ble_eq_true rfl⟩) hP hD hS hA (fun r w1 H locs hw hP hS => ?_)
      obtain rfl := hw
      refine lv_icmp_ge (tgt := 112) hx hb dX9_init_58 (by decide) (fun h => absurd h (nI_nge (n := 101) (by omega) (by omega))) (fun _ => ?_)
      refine va_ldcS hx hb hown hX.2.1 dX9_init_61 ?_
      refine lv_iload hx hb dX9_init_63 (lv_at hl 0 rfl) ?_
      refine q_goi0 (va_runV (As := [.int (nI i)]) (rest := []) C (k_J0_charAt_5068e l dC dI cB cI cJ cZ cS ak av i (hk0) _) (cwV 1 hts gX9_init_J0_charAt_5068e rfl rfl rfl (by decide +kernel) ⟨Nat.le_of_ble_eq_true rfl, Nat.le_of_ble_eq_true rfl⟩) ⟨(q_preX0 hN hK hS hA hX).1, va_Orecv hX.2.2.1 hS, (q_preX0 hN hK hS hA hX).2⟩ rfl rfl hl.1 rfl (lv_room (Nat.le_of_ble_eq_true rfl)) dX9_init_65 ⟨Nat.le_of_ble_eq_true rfl, Nat.le_of_ble_eq_true rfl⟩) hP hD hS hA (fun r1 w1 H locs hw2 hP hS => ?_)
      refine lv_istore (lv' := [(6, .int r1), (5, .int (nI i)), (2, .int (nI k)), (3, .long z), (0, .ref q_tokens), (1, .ref q_tape)]) hx hb dX9_init_68 hl (by decide) rfl (fun ls hl => ?_)
      refine lv_iload hx hb dX9_init_70 (lv_at hl 0 rfl) ?_
      refine q_goi0 (va_runS (As := [.int r1]) (rest := []) C (k_X9_isLetter l dC dI cB cI cJ cZ cS r1 _) (va_cwS 1 hts gX9_init_X9_isLetter rfl rfl rfl (by decide +kernel) ⟨Nat.le_of_ble_eq_true rfl, Nat.le_of_ble_eq_true rfl⟩) (q_pre0 hN hK) rfl rfl hl.1 rfl (lv_room (Nat.le_of_ble_eq_true rfl)) dX9_init_72 ⟨Nat.le_of_ble_eq_true rfl, Nat.le_of_ble_eq_true rfl⟩) hP hD hS hA (fun r3 w1 H locs hw4 hP hS => ?_)
      refine lv_if_eq (tgt := 88) hx hb dX9_init_75 (by decide) (fun c5 => ?_) (fun c5 => ?_)
      · skip
        refine lv_iload_n hx hb dX9_init_88 rfl (lv_at hl 2 rfl) ?_
        refine lv_bipush (v := 19) hx hb dX9_init_89 (by decide) ?_
        refine lv_icmp_ge (tgt := 106) hx hb dX9_init_91 (by decide) (fun c6 => ?_) (fun c6 => ?_)
        · skip
          refine lv_iinc (v := (nI (i + 1))) (lv' := [(5, .int (nI (i + 1))), (6, .int r1), (2, .int (nI k)), (3, .long z), (0, .ref q_tokens), (1, .ref q_tape)]) hx hb dX9_init_106 hl (k := 1) rfl (nI_1 i) (by decide) rfl (fun ls hl => ?_)
          refine lv_goto (tgt := 51) hx hb dX9_init_109 (by decide) ?_
          exact ih (i + 1) (by omega) k z φf900 H locs ls (by omega) (by first | exact wst_l hst (by assumption) (by assumption) (by assumption) (by assumption) | exact wst_p hst (by assumption) (by assumption) (by assumption) (by assumption) | exact wst_s hst (by assumption) (by assumption) (by assumption) (by assumption) (by assumption)) hP hD hS (lv_sub hl [0, 2, 3, 4, 5] rfl)
        · skip
          have hk19 : k < 19 := Nat.lt_of_not_le (fun q => c6 (nI_le (a := 19) q (by omega)))
          refine lv_aload_n hx hb dX9_init_94 rfl (lv_at hl 4 rfl) ?_
          refine q_get (v := .ref q_words) C inX9 hK hP 0 rfl rfl 1 (by decide) rfl L9 rfl dX9_init_95 ?_
          refine lv_iload_n hx hb dX9_init_98 rfl (lv_at hl 2 rfl) ?_
          refine lv_lload_n hx hb dX9_init_99 rfl (lv_at hl 3 rfl) ?_
          refine q_last (f2 := (vp_updL φf900 (Int32.toNatClampNeg (nI k)) z)) (w2 := [(q_tokens, .inr (9, [.ref q_tape, .ref q_words, .ref q_kinds, .ref q_starts, .ref q_values, u_tokens_5, u_tokens_6])), (q_words, .inl (cJ, 19, .inr (.inl (vp_updL φf900 (Int32.toNatClampNeg (nI k)) z)))), (q_kinds, .inl (cI, 401, .inl (fun _ => 0))), (q_starts, .inl (cI, 401, .inl (fun _ => 0))), (q_values, .inl (cJ, 401, .inr (.inl (fun _ => 0))))]) C hK hP hD hS 1 2 rfl rfl (vp_in_nI (by omega) (by omega)) dX9_init_100 rfl rfl (fun H locs hP hD hS => ?_)
          refine lv_iinc (v := (nI (k + 1))) (lv' := [(2, .int (nI (k + 1))), (6, .int r1), (5, .int (nI i)), (3, .long z), (0, .ref q_tokens), (1, .ref q_tape)]) hx hb dX9_init_101 hl (k := 2) rfl (nI_1 k) (by decide) rfl (fun ls hl => ?_)
          refine lv_lconst (v := 0) hx hb dX9_init_104 (by decide) ?_
          refine lv_lstore_n (lv' := [(3, .long 0), (2, .int (nI (k + 1))), (6, .int r1), (5, .int (nI i)), (0, .ref q_tokens), (1, .ref q_tape)]) hx hb dX9_init_105 rfl hl (by decide) rfl (fun ls hl => ?_)
          refine lv_iinc (v := (nI (i + 1))) (lv' := [(5, .int (nI (i + 1))), (3, .long 0), (2, .int (nI (k + 1))), (6, .int r1), (0, .ref q_tokens), (1, .ref q_tape)]) hx hb dX9_init_106 hl (k := 3) rfl (nI_1 i) (by decide) rfl (fun ls hl => ?_)
          refine lv_goto (tgt := 51) hx hb dX9_init_109 (by decide) ?_
          exact ih (i + 1) (by omega) (k + 1) 0 (vp_updL φf900 (Int32.toNatClampNeg (nI k)) z) H locs ls (by omega) (by first | exact wst_l hst (by assumption) (by assumption) (by assumption) (by assumption) | exact wst_p hst (by assumption) (by assumption) (by assumption) (by assumption) | exact wst_s hst (by assumption) (by assumption) (by assumption) (by assumption) (by assumption)) hP hD hS (lv_sub hl [0, 2, 1, 4, 5] rfl)
      · skip
        refine lv_lload_n hx hb dX9_init_78 rfl (lv_at hl 3 rfl) ?_
        refine lv_iload hx hb dX9_init_79 (lv_at hl 0 rfl) ?_
        refine q_gol0 (va_runS (As := [.long z, .int r1]) (rest := []) C (k_X9_withLetter l dC dI cB cI cJ cZ cS z r1 _) (va_cwS 2 hts gX9_init_X9_withLetter rfl rfl rfl (by decide +kernel) ⟨Nat.le_of_ble_eq_true rfl, Nat.le_of_ble_eq_true rfl⟩) (q_pre0 hN hK) rfl rfl hl.1 rfl (lv_room (Nat.le_of_ble_eq_true rfl)) dX9_init_81 ⟨Nat.le_of_ble_eq_true rfl, Nat.le_of_ble_eq_true rfl⟩) hP hD hS hA (fun r7 w1 H locs hw8 hP hS => ?_)
        refine lv_lstore_n (lv' := [(3, .long r7), (6, .int r1), (5, .int (nI i)), (2, .int (nI k)), (0, .ref q_tokens), (1, .ref q_tape)]) hx hb dX9_init_84 rfl hl (by decide) rfl (fun ls hl => ?_)
        refine lv_goto (tgt := 106) hx hb dX9_init_85 (by decide) ?_
        refine lv_iinc (v := (nI (i + 1))) (lv' := [(5, .int (nI (i + 1))), (3, .long r7), (6, .int r1), (2, .int (nI k)), (0, .ref q_tokens), (1, .ref q_tape)]) hx hb dX9_init_106 hl (k := 2) rfl (nI_1 i) (by decide) rfl (fun ls hl => ?_)
        refine lv_goto (tgt := 51) hx hb dX9_init_109 (by decide) ?_
        exact ih (i + 1) (by omega) k r7 φf900 H locs ls (by omega) (by first | exact wst_l hst (by assumption) (by assumption) (by assumption) (by assumption) | exact wst_p hst (by assumption) (by assumption) (by assumption) (by assumption) | exact wst_s hst (by assumption) (by assumption) (by assumption) (by assumption) (by assumption)) hP hD hS (lv_sub hl [0, 3, 1, 4, 5] rfl)
  exact loop 101 0 (by omega) 0 0 (fun _ => 0) _ _ ls (by omega) rfl hP hD hS (lv_sub hl [0, 2, 1, 3, 4] rfl)

/-- a standing of noughts -/
noncomputable def sd0 : SD := (fun _ => 0, fun _ _ => 0)
theorem wPool_congrB {cI : ClassId} {bb bb' : Nat → Nat → Nat} {r : Nat → SD} : ∀ {n : Nat}, (∀ i, i < n → bb i = bb' i) → wPool cI bb r n = wPool cI bb' r n := by
  intro n
  induction n with
  | zero => intro _; rfl
  | succ n ih =>
    intro h
    unfold wPool
    rw [ih (fun i hi => h i (by omega)), h n (by omega)]
theorem wPool_up {cI : ClassId} {bb : Nat → Nat → Nat} {r : Nat → SD} {n : Nat} {b : Nat → Nat} : wPool cI (va_up bb n b) r (n + 1) = wPool cI bb r n ++ wD cI b (r n) := by
  show wPool cI (va_up bb n b) r n ++ wD cI (va_up bb n b n) (r n) = _
  rw [wPool_congrB (bb' := bb) (fun i hi => va_up_ne bb b (by omega)), va_up_self]
set_option maxHeartbeats 4000000 in
set_option maxRecDepth 100000 in
theorem k_X3_init (l : Launch) (dC : Nat → ClassId) (dI : Nat → Nat → Nat) (cB cI cJ cZ cS : ClassId) (ak av : Nat) (q_past : Nat) (u_past_3 : Value) (u_past_4 : Value) : CVX ak av l yX3_init wsX3_init ({ frames := 2, cells := 261, slots := 1508, locals := 44 }) (dC, dI) (tysA cB cI cJ cZ cS) [(q_past, .inr (3, [.null, .null, .null, u_past_3, u_past_4]))] [.ref q_past] (fun w => ∃ q_ring : Nat, ∃ q_slots : Nat, ∃ q_isHeld : Nat, ∃ φf901 : Nat → Option Nat, ∃ φf902 : Nat → Option Nat, ∃ bb : Nat → Nat → Nat, (∀ k, k < 40 → φf901 k = some (bb k 0)) ∧ (∀ k, k < 3 → φf902 k = some (bb (40 + k) 0)) ∧ w = ([(q_past, .inr (3, [.ref q_ring, .ref q_slots, .ref q_isHeld, u_past_3, u_past_4])), (q_ring, .inl (cS, 40, .inr (.inr (.inr (.inr φf901))))), (q_slots, .inl (cS, 3, .inr (.inr (.inr (.inr φf902))))), (q_isHeld, .inl (cZ, 3, .inl (fun _ => 0)))] : va_W) ++ wPool cI bb (fun _ => sd0) 43) := by
  refine open_VX (cc := cX3_init) (maxL := 2) (ret := none) (by decide) rfl (Nat.le_of_ble_eq_true rfl) ?_
  intro p e s m below meth c A ls E hX
  have hAO := hX.1
  obtain ⟨C, hr, hlocks, hnm, hA, hP, hK, hD, hN, hl⟩ := E
  obtain ⟨hx, hb, hml, hown, hts⟩ := id C
  have hS : va_S A s.heap s.heap [] := va_S.rf
  have hl : lv_has ls 2 [(0, .ref q_past)] := hl
  have inX3 : ∀ w ∈ u_ws RX3 TX3 5, w ∈ wsX3_init := fun w h => (List.mem_cons_of_mem _ (List.mem_append_left _ (List.mem_append_right _ h)))
  have inX6 : ∀ w ∈ u_ws RX6 TX6 7, w ∈ wsX3_init := fun w h => (List.mem_cons_of_mem _ (List.mem_append_right _ h))
  have ACZ : Cond.arrayClass .boolean ∈ wsX3_init := (List.mem_cons_of_mem _ (List.mem_append_left _ (List.mem_append_left _ (List.mem_append_left _ (List.mem_of_getElem? (i := 4) rfl)))))
  have CL9 : Cond.classLink RX3 9 RX6 ∈ wsX3_init := (List.mem_cons_of_mem _ (List.mem_append_left _ (List.mem_append_left _ (List.mem_append_left _ (List.mem_of_getElem? (i := 1) rfl)))))
  have INX6 : Cond.instantiable RX6 7 ∈ wsX3_init := (List.mem_cons_of_mem _ (List.mem_append_left _ (List.mem_append_left _ (List.mem_append_left _ (List.mem_of_getElem? (i := 6) rfl)))))
  have I_X6 : Cond.initialized RX6 ∈ wsX3_init := (List.mem_cons_of_mem _ (List.mem_append_left _ (List.mem_append_left _ (List.mem_append_left _ (List.mem_of_getElem? (i := 7) rfl)))))
  have L11 : Cond.fieldLink RX3 11 "GuessFerry$Past" "ring" "[LGuessFerry$Standing;" ∈ wsX3_init := (List.mem_cons_of_mem _ (List.mem_append_left _ (List.mem_append_left _ (List.mem_append_left _ (List.mem_of_getElem? (i := 2) rfl)))))
  have L17 : Cond.fieldLink RX3 17 "GuessFerry$Past" "slots" "[LGuessFerry$Standing;" ∈ wsX3_init := (List.mem_cons_of_mem _ (List.mem_append_left _ (List.mem_append_left _ (List.mem_append_left _ (List.mem_of_getElem? (i := 3) rfl)))))
  have L20 : Cond.fieldLink RX3 20 "GuessFerry$Past" "isHeld" "[Z" ∈ wsX3_init := (List.mem_cons_of_mem _ (List.mem_append_left _ (List.mem_append_left _ (List.mem_append_left _ (List.mem_of_getElem? (i := 5) rfl)))))
  have N_X6_init : Cond.instanceMethod yX6_init ∈ wsX3_init := (List.mem_cons_of_mem _ (List.mem_append_left _ (List.mem_append_left _ (List.mem_append_left _ (List.mem_of_getElem? (i := 8) rfl)))))
  have OC : Cond.code Lib.objectInit ⟨#[0xb1]⟩ 1 none ∈ wsX3_init := by decide +kernel
  have OI : Cond.instanceMethod Lib.objectInit ∈ wsX3_init := by decide +kernel
  have OL3 : Cond.methodLink RX3 3 Lib.objectInit ∈ wsX3_init := by decide +kernel
  refine lv_aload_n hx hb dX3_init_0 rfl (lv_at hl 0 rfl) ?_
  refine W.objInit hx hb hown (hts _ OL3) (hts _ OI) (hts _ OC) rfl (by rw [hml]; exact hl.1) rfl dX3_init_1 (Nat.le_of_ble_eq_true rfl) (Nat.le_of_ble_eq_true rfl) ?_
  refine W.eq (g2 := F0 m 4 ls []) rfl ?_
  refine lv_aload_n hx hb dX3_init_4 rfl (lv_at hl 0 rfl) ?_
  refine lv_bipush (v := 40) hx hb dX3_init_5 (by decide) ?_
  refine q_newq (N' := 40) C CL9 hAO hK hP hD hS hA 4 rfl (by decide) (by decide +kernel) (by decide +kernel) (Nat.le_of_ble_eq_true rfl) (Nat.le_of_ble_eq_true rfl) dX3_init_7 (fun q_ring H hP hD hS => ?_)
  replace hP : va_P (dC, dI) vwCl [(q_past, .inr (3, [.null, .null, .null, u_past_3, u_past_4])), (q_ring, .inl (cS, 40, .inr (.inr (.inr (.inr (fun _ => none))))))] H := hP
  replace hD : va_D A [(q_past, .inr (3, [.null, .null, .null, u_past_3, u_past_4])), (q_ring, .inl (cS, 40, .inr (.inr (.inr (.inr (fun _ => none))))))] := hD
  refine q_putF (ty := .array (.object "GuessFerry$Standing")) (w2 := [(q_past, .inr (3, [.ref q_ring, .null, .null, u_past_3, u_past_4])), (q_ring, .inl (cS, 40, .inr (.inr (.inr (.inr (fun _ => none))))))]) tyX3 tyX3_ok nmX3 C inX3 hK hP hD hS 0 rfl rfl 0 (by decide) rfl rfl hnm L11 rfl (by decide +kernel) (rfl) rfl (Nat.le_of_ble_eq_true rfl) dX3_init_10 rfl (fun H locs hP hD hS => ?_)
  refine lv_aload_n hx hb dX3_init_13 rfl (lv_at hl 0 rfl) ?_
  refine lv_iconst (v := 3) hx hb dX3_init_14 (by decide) ?_
  refine q_newq (N' := 3) C CL9 hAO hK hP hD hS hA 4 rfl (by decide) (by decide +kernel) (by decide +kernel) (Nat.le_of_ble_eq_true rfl) (Nat.le_of_ble_eq_true rfl) dX3_init_15 (fun q_slots H hP hD hS => ?_)
  replace hP : va_P (dC, dI) vwCl [(q_past, .inr (3, [.ref q_ring, .null, .null, u_past_3, u_past_4])), (q_ring, .inl (cS, 40, .inr (.inr (.inr (.inr (fun _ => none)))))), (q_slots, .inl (cS, 3, .inr (.inr (.inr (.inr (fun _ => none))))))] H := hP
  replace hD : va_D A [(q_past, .inr (3, [.ref q_ring, .null, .null, u_past_3, u_past_4])), (q_ring, .inl (cS, 40, .inr (.inr (.inr (.inr (fun _ => none)))))), (q_slots, .inl (cS, 3, .inr (.inr (.inr (.inr (fun _ => none))))))] := hD
  refine q_putF (ty := .array (.object "GuessFerry$Standing")) (w2 := [(q_past, .inr (3, [.ref q_ring, .ref q_slots, .null, u_past_3, u_past_4])), (q_ring, .inl (cS, 40, .inr (.inr (.inr (.inr (fun _ => none)))))), (q_slots, .inl (cS, 3, .inr (.inr (.inr (.inr (fun _ => none))))))]) tyX3 tyX3_ok nmX3 C inX3 hK hP hD hS 0 rfl rfl 1 (by decide) rfl rfl hnm L17 rfl (by decide +kernel) (rfl) rfl (Nat.le_of_ble_eq_true rfl) dX3_init_18 rfl (fun H locs hP hD hS => ?_)
  refine lv_aload_n hx hb dX3_init_21 rfl (lv_at hl 0 rfl) ?_
  refine lv_iconst (v := 3) hx hb dX3_init_22 (by decide) ?_
  refine q_newa (atype := .boolean) (ty := .boolean) (N' := 3) (3, .inl (fun _ => 0)) C ACZ rfl (fun _ => rfl) hK hP hD hS hA 3 rfl (fun _ => rfl) (by decide) (by decide +kernel) (by decide +kernel) (Nat.le_of_ble_eq_true rfl) (Nat.le_of_ble_eq_true rfl) dX3_init_23 (fun q_isHeld H hP hD hS => ?_)
  refine q_putF (ty := .array .boolean) (w2 := [(q_past, .inr (3, [.ref q_ring, .ref q_slots, .ref q_isHeld, u_past_3, u_past_4])), (q_ring, .inl (cS, 40, .inr (.inr (.inr (.inr (fun _ => none)))))), (q_slots, .inl (cS, 3, .inr (.inr (.inr (.inr (fun _ => none)))))), (q_isHeld, .inl (cZ, 3, .inl (fun _ => 0)))]) tyX3 tyX3_ok nmX3 C inX3 hK hP hD hS 0 rfl rfl 2 (by decide) rfl rfl hnm L20 rfl (by decide +kernel) (rfl) rfl (Nat.le_of_ble_eq_true rfl) dX3_init_25 rfl (fun H locs hP hD hS => ?_)
  refine lv_iconst (v := 0) hx hb dX3_init_28 (by decide) ?_
  refine lv_istore_n (lv' := [(1, .int 0), (0, .ref q_past)]) hx hb dX3_init_29 rfl hl (by decide) rfl (fun ls hl => ?_)
  have loop2 : ∀ (n i : Nat), i + n = 3 → ∀ (φf901 : Nat → Option Nat) (sl : Nat → Option Nat) (bb : Nat → Nat → Nat) (H : Heap) (locs : List Loc) (ls : Array Slot), (∀ k, k < 40 → φf901 k = some (bb k 0)) → (∀ k, k < i → sl k = some (bb (40 + k) 0)) → va_P (dC, dI) vwCl (([(q_past, .inr (3, [.ref q_ring, .ref q_slots, .ref q_isHeld, u_past_3, u_past_4])), (q_ring, .inl (cS, 40, .inr (.inr (.inr (.inr φf901))))), (q_slots, .inl (cS, 3, .inr (.inr (.inr (.inr sl))))), (q_isHeld, .inl (cZ, 3, .inl (fun _ => 0)))] : va_W) ++ wPool cI bb (fun _ => sd0) (40 + i)) H → va_D A (([(q_past, .inr (3, [.ref q_ring, .ref q_slots, .ref q_isHeld, u_past_3, u_past_4])), (q_ring, .inl (cS, 40, .inr (.inr (.inr (.inr φf901))))), (q_slots, .inl (cS, 3, .inr (.inr (.inr (.inr sl))))), (q_isHeld, .inl (cZ, 3, .inl (fun _ => 0)))] : va_W) ++ wPool cI bb (fun _ => sd0) (40 + i)) → va_S A s.heap H locs → lv_has ls 2 [(1, .int (nI i)), (0, .ref q_past)] → W p l e ({ frames := 2, cells := 261, slots := 1508, locals := 44 }) s m [Value.ref q_past].toArray below meth c H locs (243 + 6 * i) (1406 + 34 * i) (MQ below (va_Qv (fun w => ∃ q_ring : Nat, ∃ q_slots : Nat, ∃ q_isHeld : Nat, ∃ φf901 : Nat → Option Nat, ∃ φf902 : Nat → Option Nat, ∃ bb : Nat → Nat → Nat, (∀ k, k < 40 → φf901 k = some (bb k 0)) ∧ (∀ k, k < 3 → φf902 k = some (bb (40 + k) 0)) ∧ w = ([(q_past, .inr (3, [.ref q_ring, .ref q_slots, .ref q_isHeld, u_past_3, u_past_4])), (q_ring, .inl (cS, 40, .inr (.inr (.inr (.inr φf901))))), (q_slots, .inl (cS, 3, .inr (.inr (.inr (.inr φf902))))), (q_isHeld, .inl (cZ, 3, .inl (fun _ => 0)))] : va_W) ++ wPool cI bb (fun _ => sd0) 43) (at_W (dC, dI) (tysA cB cI cJ cZ cS) A) A) [Value.ref q_past].toArray s 261 1508 A) (F0 m 57 ls []) := by
    intro n
    induction n with
    | zero =>
      intro i hi φf901 sl bb H locs ls hrg hsl hP hD hS hl
      obtain rfl : i = 3 := by omega
      refine lv_iload_n hx hb dX3_init_57 rfl (lv_at hl 0 rfl) ?_
      refine lv_iconst (v := 3) hx hb dX3_init_58 (by decide) ?_
      refine lv_icmp_ge (tgt := 81) hx hb dX3_init_59 (by decide) (fun _ => ?_) (fun h => absurd (by decide +kernel) h)
      exact q_vret C hr hlocks hK hP hD hS (by omega) (by omega) dX3_init_81 ⟨q_ring, q_slots, q_isHeld, φf901, sl, bb, hrg, hsl, rfl⟩
    | succ n ih =>
      intro i hi φf901 sl bb H locs ls hrg hsl hP hD hS hl
      refine lv_iload_n hx hb dX3_init_57 rfl (lv_at hl 0 rfl) ?_
      refine lv_iconst (v := 3) hx hb dX3_init_58 (by decide) ?_
      refine lv_icmp_ge (tgt := 81) hx hb dX3_init_59 (by decide) (fun h => absurd h (nI_nge (n := 3) (by omega) (by omega))) (fun _ => ?_)
      refine lv_aload_n hx hb dX3_init_62 rfl (lv_at hl 1 rfl) ?_
      refine q_get (v := .ref q_slots) C inX3 hK hP 0 rfl rfl 1 (by decide) rfl L17 rfl dX3_init_63 ?_
      refine lv_iload_n hx hb dX3_init_66 rfl (lv_at hl 0 rfl) ?_
      refine va_new (ci := 6) (fs := [.null, .null, .null, .null, .null, .int 0, .int 0]) (C := RX6) (T := TX6) (N := 7) hx hb hts inX6 tyX6 tyX6_ok hown (hts _ CL9) (hts _ INX6) (hts _ I_X6) hK hP hD hS hA rfl (fun j hj => by rcases (show j = 0 ∨ j = 1 ∨ j = 2 ∨ j = 3 ∨ j = 4 ∨ j = 5 ∨ j = 6 by omega) with rfl | rfl | rfl | rfl | rfl | rfl | rfl <;> rfl) (by dsimp only; omega) (by dsimp only; omega) dX3_init_67 (fun q0 H hP hD hS => ?_)
      replace hP : va_P (dC, dI) vwCl (([(q_past, .inr (3, [.ref q_ring, .ref q_slots, .ref q_isHeld, u_past_3, u_past_4])), (q_ring, .inl (cS, 40, .inr (.inr (.inr (.inr φf901))))), (q_slots, .inl (cS, 3, .inr (.inr (.inr (.inr sl))))), (q_isHeld, .inl (cZ, 3, .inl (fun _ => 0))), (q0, .inr (6, [.null, .null, .null, .null, .null, .int 0, .int 0]))] : va_W) ++ wPool cI bb (fun _ => sd0) (40 + i)) H := hP.swap
      replace hD : va_D A (([(q_past, .inr (3, [.ref q_ring, .ref q_slots, .ref q_isHeld, u_past_3, u_past_4])), (q_ring, .inl (cS, 40, .inr (.inr (.inr (.inr φf901))))), (q_slots, .inl (cS, 3, .inr (.inr (.inr (.inr sl))))), (q_isHeld, .inl (cZ, 3, .inl (fun _ => 0))), (q0, .inr (6, [.null, .null, .null, .null, .null, .int 0, .int 0]))] : va_W) ++ wPool cI bb (fun _ => sd0) (40 + i)) := hD.swap
      refine lv_dup hx hb dX3_init_70 rfl ?_
      refine q_govT (wr := [(q_past, .inr (3, [.ref q_ring, .ref q_slots, .ref q_isHeld, u_past_3, u_past_4])), (q_ring, .inl (cS, 40, .inr (.inr (.inr (.inr φf901))))), (q_slots, .inl (cS, 3, .inr (.inr (.inr (.inr sl))))), (q_isHeld, .inl (cZ, 3, .inl (fun _ => 0)))]) (va_runIN (As := []) (rest := [.ref q0, .int (nI i), .ref q_slots]) C (k_X6_init l dC dI cB cI cJ cZ cS (q0) (.int 0) (.int 0) _) ⟨va_cnB 0 hts gX3_init_X6_init_n24 rfl rfl rfl (hN _ nwM_X3_24 rfl) (hts _ I_X6) (by decide +kernel) ⟨Nat.le_of_ble_eq_true rfl, Nat.le_of_ble_eq_true rfl⟩, rfl, hts _ N_X6_init⟩ (q_pre hN hK hP hD [4] rfl (by decide)) rfl rfl hl.1 rfl (lv_room (Nat.le_of_ble_eq_true rfl)) dX3_init_71 ⟨by dsimp only; omega, by dsimp only; omega⟩) hP hD hS hA [4] [0, 1, 2, 3] rfl rfl (by decide +kernel) (by decide +kernel) (fun w1 H locs hw hP hD hS => ?_)
      refine Exists.elim hw fun q1 zw0 => Exists.elim zw0 fun q2 zw1 => Exists.elim zw1 fun q3 zw2 => Exists.elim zw2 fun q4 zw3 => Exists.elim zw3 fun q5 zw4 => ?_
      clear hw zw0 zw1 zw2 zw3
      have hw := zw4
      clear zw4
      obtain rfl := hw
      replace hP : va_P (dC, dI) vwCl (([(q_past, .inr (3, [.ref q_ring, .ref q_slots, .ref q_isHeld, u_past_3, u_past_4])), (q_ring, .inl (cS, 40, .inr (.inr (.inr (.inr φf901))))), (q_slots, .inl (cS, 3, .inr (.inr (.inr (.inr sl))))), (q_isHeld, .inl (cZ, 3, .inl (fun _ => 0))), (q0, .inr (6, [.ref q1, .ref q2, .ref q3, .ref q4, .ref q5, .int 0, .int 0])), (q1, .inl (cI, 5, .inl (fun _ => 0))), (q2, .inl (cI, 5, .inl (fun _ => 0))), (q3, .inl (cI, 5, .inl (fun _ => 0))), (q4, .inl (cI, 6, .inl (fun _ => 0))), (q5, .inl (cI, 6, .inl (fun _ => 0)))] : va_W) ++ wPool cI bb (fun _ => sd0) (40 + i)) H := hP
      replace hD : va_D A (([(q_past, .inr (3, [.ref q_ring, .ref q_slots, .ref q_isHeld, u_past_3, u_past_4])), (q_ring, .inl (cS, 40, .inr (.inr (.inr (.inr φf901))))), (q_slots, .inl (cS, 3, .inr (.inr (.inr (.inr sl))))), (q_isHeld, .inl (cZ, 3, .inl (fun _ => 0))), (q0, .inr (6, [.ref q1, .ref q2, .ref q3, .ref q4, .ref q5, .int 0, .int 0])), (q1, .inl (cI, 5, .inl (fun _ => 0))), (q2, .inl (cI, 5, .inl (fun _ => 0))), (q3, .inl (cI, 5, .inl (fun _ => 0))), (q4, .inl (cI, 6, .inl (fun _ => 0))), (q5, .inl (cI, 6, .inl (fun _ => 0)))] : va_W) ++ wPool cI bb (fun _ => sd0) (40 + i)) := hD
      refine va_astq hx hb hK hP hD hS 2 4 4 6 rfl rfl rfl rfl (vp_in_nI (by omega) (by omega)) dX3_init_74 (fun H locs hP hD hS => ?_)
      refine lv_iinc (v := (nI (i + 1))) (lv' := [(1, .int (nI (i + 1))), (0, .ref q_past)]) hx hb dX3_init_75 hl (k := 0) rfl (nI_1 i) (by decide) rfl (fun ls hl => ?_)
      refine lv_goto (tgt := 57) hx hb dX3_init_78 (by decide) ?_
      have hP : va_P (dC, dI) vwCl (([(q_past, .inr (3, [.ref q_ring, .ref q_slots, .ref q_isHeld, u_past_3, u_past_4])), (q_ring, .inl (cS, 40, .inr (.inr (.inr (.inr φf901))))), (q_slots, .inl (cS, 3, .inr (.inr (.inr (.inr (va_up sl (Int32.toNatClampNeg (nI i)) (some q0))))))), (q_isHeld, .inl (cZ, 3, .inl (fun _ => 0)))] : va_W) ++ wPool cI (va_up bb (40 + i) (fun j => [q0, q1, q2, q3, q4, q5].getD j 0)) (fun _ => sd0) (40 + i + 1)) H := by
        rw [wPool_up, ← List.append_assoc]
        exact (show va_P (dC, dI) vwCl ((([(q_past, .inr (3, [.ref q_ring, .ref q_slots, .ref q_isHeld, u_past_3, u_past_4])), (q_ring, .inl (cS, 40, .inr (.inr (.inr (.inr φf901))))), (q_slots, .inl (cS, 3, .inr (.inr (.inr (.inr (va_up sl (Int32.toNatClampNeg (nI i)) (some q0))))))), (q_isHeld, .inl (cZ, 3, .inl (fun _ => 0)))] : va_W) ++ [(q0, .inr (6, [.ref q1, .ref q2, .ref q3, .ref q4, .ref q5, .int 0, .int 0])), (q1, .inl (cI, 5, .inl (fun _ => 0))), (q2, .inl (cI, 5, .inl (fun _ => 0))), (q3, .inl (cI, 5, .inl (fun _ => 0))), (q4, .inl (cI, 6, .inl (fun _ => 0))), (q5, .inl (cI, 6, .inl (fun _ => 0)))]) ++ wPool cI bb (fun _ => sd0) (40 + i)) H from hP).swap
      have hD : va_D A (([(q_past, .inr (3, [.ref q_ring, .ref q_slots, .ref q_isHeld, u_past_3, u_past_4])), (q_ring, .inl (cS, 40, .inr (.inr (.inr (.inr φf901))))), (q_slots, .inl (cS, 3, .inr (.inr (.inr (.inr (va_up sl (Int32.toNatClampNeg (nI i)) (some q0))))))), (q_isHeld, .inl (cZ, 3, .inl (fun _ => 0)))] : va_W) ++ wPool cI (va_up bb (40 + i) (fun j => [q0, q1, q2, q3, q4, q5].getD j 0)) (fun _ => sd0) (40 + i + 1)) := by
        rw [wPool_up, ← List.append_assoc]
        exact (show va_D A ((([(q_past, .inr (3, [.ref q_ring, .ref q_slots, .ref q_isHeld, u_past_3, u_past_4])), (q_ring, .inl (cS, 40, .inr (.inr (.inr (.inr φf901))))), (q_slots, .inl (cS, 3, .inr (.inr (.inr (.inr (va_up sl (Int32.toNatClampNeg (nI i)) (some q0))))))), (q_isHeld, .inl (cZ, 3, .inl (fun _ => 0)))] : va_W) ++ [(q0, .inr (6, [.ref q1, .ref q2, .ref q3, .ref q4, .ref q5, .int 0, .int 0])), (q1, .inl (cI, 5, .inl (fun _ => 0))), (q2, .inl (cI, 5, .inl (fun _ => 0))), (q3, .inl (cI, 5, .inl (fun _ => 0))), (q4, .inl (cI, 6, .inl (fun _ => 0))), (q5, .inl (cI, 6, .inl (fun _ => 0)))]) ++ wPool cI bb (fun _ => sd0) (40 + i)) from hD).swap
      refine W.widen (k := 243 + 6 * (i + 1)) (n := 1406 + 34 * (i + 1)) (by dsimp only; omega) (by dsimp only; omega) ?_
      refine ih (i + 1) (by omega) φf901 (va_up sl (Int32.toNatClampNeg (nI i)) (some q0)) (va_up bb (40 + i) (fun j => [q0, q1, q2, q3, q4, q5].getD j 0)) H locs ls (fun k hk => ?_) (fun k hk => ?_) hP hD hS (lv_sub hl [0, 1] rfl)
      · rw [va_up_ne _ _ (by omega)]; exact hrg k hk
      · rw [nI_clamp (by omega)]
        by_cases e : k = i
        · subst e; rw [va_up_self, va_up_self]; rfl
        · rw [va_up_ne _ _ e, va_up_ne _ _ (by omega)]; exact hsl k (by omega)
  have loop : ∀ (n i : Nat), i + n = 40 → ∀ (rg : Nat → Option Nat) (bb : Nat → Nat → Nat) (H : Heap) (locs : List Loc) (ls : Array Slot), (∀ k, k < i → rg k = some (bb k 0)) → va_P (dC, dI) vwCl (([(q_past, .inr (3, [.ref q_ring, .ref q_slots, .ref q_isHeld, u_past_3, u_past_4])), (q_ring, .inl (cS, 40, .inr (.inr (.inr (.inr rg))))), (q_slots, .inl (cS, 3, .inr (.inr (.inr (.inr (fun _ => none)))))), (q_isHeld, .inl (cZ, 3, .inl (fun _ => 0)))] : va_W) ++ wPool cI bb (fun _ => sd0) i) H → va_D A (([(q_past, .inr (3, [.ref q_ring, .ref q_slots, .ref q_isHeld, u_past_3, u_past_4])), (q_ring, .inl (cS, 40, .inr (.inr (.inr (.inr rg))))), (q_slots, .inl (cS, 3, .inr (.inr (.inr (.inr (fun _ => none)))))), (q_isHeld, .inl (cZ, 3, .inl (fun _ => 0)))] : va_W) ++ wPool cI bb (fun _ => sd0) i) → va_S A s.heap H locs → lv_has ls 2 [(1, .int (nI i)), (0, .ref q_past)] → W p l e ({ frames := 2, cells := 261, slots := 1508, locals := 44 }) s m [Value.ref q_past].toArray below meth c H locs (3 + 6 * i) (46 + 34 * i) (MQ below (va_Qv (fun w => ∃ q_ring : Nat, ∃ q_slots : Nat, ∃ q_isHeld : Nat, ∃ φf901 : Nat → Option Nat, ∃ φf902 : Nat → Option Nat, ∃ bb : Nat → Nat → Nat, (∀ k, k < 40 → φf901 k = some (bb k 0)) ∧ (∀ k, k < 3 → φf902 k = some (bb (40 + k) 0)) ∧ w = ([(q_past, .inr (3, [.ref q_ring, .ref q_slots, .ref q_isHeld, u_past_3, u_past_4])), (q_ring, .inl (cS, 40, .inr (.inr (.inr (.inr φf901))))), (q_slots, .inl (cS, 3, .inr (.inr (.inr (.inr φf902))))), (q_isHeld, .inl (cZ, 3, .inl (fun _ => 0)))] : va_W) ++ wPool cI bb (fun _ => sd0) 43) (at_W (dC, dI) (tysA cB cI cJ cZ cS) A) A) [Value.ref q_past].toArray s 261 1508 A) (F0 m 30 ls []) := by
    intro n
    induction n with
    | zero =>
      intro i hi rg bb H locs ls hrg hP hD hS hl
      obtain rfl : i = 40 := by omega
      refine lv_iload_n hx hb dX3_init_30 rfl (lv_at hl 0 rfl) ?_
      refine lv_bipush (v := 40) hx hb dX3_init_31 (by decide) ?_
      refine lv_icmp_ge (tgt := 55) hx hb dX3_init_33 (by decide) (fun _ => ?_) (fun h => absurd (by decide +kernel) h)
      refine lv_iconst (v := 0) hx hb dX3_init_55 (by decide) ?_
      refine lv_istore_n (lv' := [(1, .int 0), (0, .ref q_past)]) hx hb dX3_init_56 rfl hl (by decide) rfl (fun ls hl => ?_)
      refine W.widen (k := 243 + 6 * 0) (n := 1406 + 34 * 0) (by omega) (by omega) ?_
      exact loop2 3 0 (by omega) rg (fun _ => none) bb H locs ls hrg (fun k hk => by omega) hP hD hS hl
    | succ n ih =>
      intro i hi rg bb H locs ls hrg hP hD hS hl
      refine lv_iload_n hx hb dX3_init_30 rfl (lv_at hl 0 rfl) ?_
      refine lv_bipush (v := 40) hx hb dX3_init_31 (by decide) ?_
      refine lv_icmp_ge (tgt := 55) hx hb dX3_init_33 (by decide) (fun h => absurd h (nI_nge (n := 40) (by omega) (by omega))) (fun _ => ?_)
      refine lv_aload_n hx hb dX3_init_36 rfl (lv_at hl 1 rfl) ?_
      refine q_get (v := .ref q_ring) C inX3 hK hP 0 rfl rfl 0 (by decide) rfl L11 rfl dX3_init_37 ?_
      refine lv_iload_n hx hb dX3_init_40 rfl (lv_at hl 0 rfl) ?_
      refine va_new (ci := 6) (fs := [.null, .null, .null, .null, .null, .int 0, .int 0]) (C := RX6) (T := TX6) (N := 7) hx hb hts inX6 tyX6 tyX6_ok hown (hts _ CL9) (hts _ INX6) (hts _ I_X6) hK hP hD hS hA rfl (fun j hj => by rcases (show j = 0 ∨ j = 1 ∨ j = 2 ∨ j = 3 ∨ j = 4 ∨ j = 5 ∨ j = 6 by omega) with rfl | rfl | rfl | rfl | rfl | rfl | rfl <;> rfl) (by dsimp only; omega) (by dsimp only; omega) dX3_init_41 (fun q0 H hP hD hS => ?_)
      replace hP : va_P (dC, dI) vwCl (([(q_past, .inr (3, [.ref q_ring, .ref q_slots, .ref q_isHeld, u_past_3, u_past_4])), (q_ring, .inl (cS, 40, .inr (.inr (.inr (.inr rg))))), (q_slots, .inl (cS, 3, .inr (.inr (.inr (.inr (fun _ => none)))))), (q_isHeld, .inl (cZ, 3, .inl (fun _ => 0))), (q0, .inr (6, [.null, .null, .null, .null, .null, .int 0, .int 0]))] : va_W) ++ wPool cI bb (fun _ => sd0) (i)) H := hP.swap
      replace hD : va_D A (([(q_past, .inr (3, [.ref q_ring, .ref q_slots, .ref q_isHeld, u_past_3, u_past_4])), (q_ring, .inl (cS, 40, .inr (.inr (.inr (.inr rg))))), (q_slots, .inl (cS, 3, .inr (.inr (.inr (.inr (fun _ => none)))))), (q_isHeld, .inl (cZ, 3, .inl (fun _ => 0))), (q0, .inr (6, [.null, .null, .null, .null, .null, .int 0, .int 0]))] : va_W) ++ wPool cI bb (fun _ => sd0) (i)) := hD.swap
      refine lv_dup hx hb dX3_init_44 rfl ?_
      refine q_govT (wr := [(q_past, .inr (3, [.ref q_ring, .ref q_slots, .ref q_isHeld, u_past_3, u_past_4])), (q_ring, .inl (cS, 40, .inr (.inr (.inr (.inr rg))))), (q_slots, .inl (cS, 3, .inr (.inr (.inr (.inr (fun _ => none)))))), (q_isHeld, .inl (cZ, 3, .inl (fun _ => 0)))]) (va_runIN (As := []) (rest := [.ref q0, .int (nI i), .ref q_ring]) C (k_X6_init l dC dI cB cI cJ cZ cS (q0) (.int 0) (.int 0) _) ⟨va_cnB 0 hts gX3_init_X6_init_n24 rfl rfl rfl (hN _ nwM_X3_24 rfl) (hts _ I_X6) (by decide +kernel) ⟨Nat.le_of_ble_eq_true rfl, Nat.le_of_ble_eq_true rfl⟩, rfl, hts _ N_X6_init⟩ (q_pre hN hK hP hD [4] rfl (by decide)) rfl rfl hl.1 rfl (lv_room (Nat.le_of_ble_eq_true rfl)) dX3_init_45 ⟨by dsimp only; omega, by dsimp only; omega⟩) hP hD hS hA [4] [0, 1, 2, 3] rfl rfl (by decide +kernel) (by decide +kernel) (fun w1 H locs hw hP hD hS => ?_)
      refine Exists.elim hw fun q1 zw0 => Exists.elim zw0 fun q2 zw1 => Exists.elim zw1 fun q3 zw2 => Exists.elim zw2 fun q4 zw3 => Exists.elim zw3 fun q5 zw4 => ?_
      clear hw zw0 zw1 zw2 zw3
      have hw := zw4
      clear zw4
      obtain rfl := hw
      replace hP : va_P (dC, dI) vwCl (([(q_past, .inr (3, [.ref q_ring, .ref q_slots, .ref q_isHeld, u_past_3, u_past_4])), (q_ring, .inl (cS, 40, .inr (.inr (.inr (.inr rg))))), (q_slots, .inl (cS, 3, .inr (.inr (.inr (.inr (fun _ => none)))))), (q_isHeld, .inl (cZ, 3, .inl (fun _ => 0))), (q0, .inr (6, [.ref q1, .ref q2, .ref q3, .ref q4, .ref q5, .int 0, .int 0])), (q1, .inl (cI, 5, .inl (fun _ => 0))), (q2, .inl (cI, 5, .inl (fun _ => 0))), (q3, .inl (cI, 5, .inl (fun _ => 0))), (q4, .inl (cI, 6, .inl (fun _ => 0))), (q5, .inl (cI, 6, .inl (fun _ => 0)))] : va_W) ++ wPool cI bb (fun _ => sd0) (i)) H := hP
      replace hD : va_D A (([(q_past, .inr (3, [.ref q_ring, .ref q_slots, .ref q_isHeld, u_past_3, u_past_4])), (q_ring, .inl (cS, 40, .inr (.inr (.inr (.inr rg))))), (q_slots, .inl (cS, 3, .inr (.inr (.inr (.inr (fun _ => none)))))), (q_isHeld, .inl (cZ, 3, .inl (fun _ => 0))), (q0, .inr (6, [.ref q1, .ref q2, .ref q3, .ref q4, .ref q5, .int 0, .int 0])), (q1, .inl (cI, 5, .inl (fun _ => 0))), (q2, .inl (cI, 5, .inl (fun _ => 0))), (q3, .inl (cI, 5, .inl (fun _ => 0))), (q4, .inl (cI, 6, .inl (fun _ => 0))), (q5, .inl (cI, 6, .inl (fun _ => 0)))] : va_W) ++ wPool cI bb (fun _ => sd0) (i)) := hD
      refine va_astq hx hb hK hP hD hS 1 4 4 6 rfl rfl rfl rfl (vp_in_nI (by omega) (by omega)) dX3_init_48 (fun H locs hP hD hS => ?_)
      refine lv_iinc (v := (nI (i + 1))) (lv' := [(1, .int (nI (i + 1))), (0, .ref q_past)]) hx hb dX3_init_49 hl (k := 0) rfl (nI_1 i) (by decide) rfl (fun ls hl => ?_)
      refine lv_goto (tgt := 30) hx hb dX3_init_52 (by decide) ?_
      have hP : va_P (dC, dI) vwCl (([(q_past, .inr (3, [.ref q_ring, .ref q_slots, .ref q_isHeld, u_past_3, u_past_4])), (q_ring, .inl (cS, 40, .inr (.inr (.inr (.inr (va_up rg (Int32.toNatClampNeg (nI i)) (some q0))))))), (q_slots, .inl (cS, 3, .inr (.inr (.inr (.inr (fun _ => none)))))), (q_isHeld, .inl (cZ, 3, .inl (fun _ => 0)))] : va_W) ++ wPool cI (va_up bb (i) (fun j => [q0, q1, q2, q3, q4, q5].getD j 0)) (fun _ => sd0) (i + 1)) H := by
        rw [wPool_up, ← List.append_assoc]
        exact (show va_P (dC, dI) vwCl ((([(q_past, .inr (3, [.ref q_ring, .ref q_slots, .ref q_isHeld, u_past_3, u_past_4])), (q_ring, .inl (cS, 40, .inr (.inr (.inr (.inr (va_up rg (Int32.toNatClampNeg (nI i)) (some q0))))))), (q_slots, .inl (cS, 3, .inr (.inr (.inr (.inr (fun _ => none)))))), (q_isHeld, .inl (cZ, 3, .inl (fun _ => 0)))] : va_W) ++ [(q0, .inr (6, [.ref q1, .ref q2, .ref q3, .ref q4, .ref q5, .int 0, .int 0])), (q1, .inl (cI, 5, .inl (fun _ => 0))), (q2, .inl (cI, 5, .inl (fun _ => 0))), (q3, .inl (cI, 5, .inl (fun _ => 0))), (q4, .inl (cI, 6, .inl (fun _ => 0))), (q5, .inl (cI, 6, .inl (fun _ => 0)))]) ++ wPool cI bb (fun _ => sd0) (i)) H from hP).swap
      have hD : va_D A (([(q_past, .inr (3, [.ref q_ring, .ref q_slots, .ref q_isHeld, u_past_3, u_past_4])), (q_ring, .inl (cS, 40, .inr (.inr (.inr (.inr (va_up rg (Int32.toNatClampNeg (nI i)) (some q0))))))), (q_slots, .inl (cS, 3, .inr (.inr (.inr (.inr (fun _ => none)))))), (q_isHeld, .inl (cZ, 3, .inl (fun _ => 0)))] : va_W) ++ wPool cI (va_up bb (i) (fun j => [q0, q1, q2, q3, q4, q5].getD j 0)) (fun _ => sd0) (i + 1)) := by
        rw [wPool_up, ← List.append_assoc]
        exact (show va_D A ((([(q_past, .inr (3, [.ref q_ring, .ref q_slots, .ref q_isHeld, u_past_3, u_past_4])), (q_ring, .inl (cS, 40, .inr (.inr (.inr (.inr (va_up rg (Int32.toNatClampNeg (nI i)) (some q0))))))), (q_slots, .inl (cS, 3, .inr (.inr (.inr (.inr (fun _ => none)))))), (q_isHeld, .inl (cZ, 3, .inl (fun _ => 0)))] : va_W) ++ [(q0, .inr (6, [.ref q1, .ref q2, .ref q3, .ref q4, .ref q5, .int 0, .int 0])), (q1, .inl (cI, 5, .inl (fun _ => 0))), (q2, .inl (cI, 5, .inl (fun _ => 0))), (q3, .inl (cI, 5, .inl (fun _ => 0))), (q4, .inl (cI, 6, .inl (fun _ => 0))), (q5, .inl (cI, 6, .inl (fun _ => 0)))]) ++ wPool cI bb (fun _ => sd0) (i)) from hD).swap
      refine W.widen (k := 3 + 6 * (i + 1)) (n := 46 + 34 * (i + 1)) (by dsimp only; omega) (by dsimp only; omega) ?_
      refine ih (i + 1) (by omega) (va_up rg (Int32.toNatClampNeg (nI i)) (some q0)) (va_up bb i (fun j => [q0, q1, q2, q3, q4, q5].getD j 0)) H locs ls (fun k hk => ?_) hP hD hS (lv_sub hl [0, 1] rfl)
      rw [nI_clamp (by omega)]
      by_cases e : k = i
      · subst e; rw [va_up_self, va_up_self]; rfl
      · rw [va_up_ne _ _ e, va_up_ne _ _ e]; exact hrg k (by omega)
  refine W.widen (k := 3 + 6 * 0) (n := 46 + 34 * 0) (by omega) (by omega) ?_
  exact loop 40 0 (by omega) (fun _ => none) (fun _ _ => 0) _ _ ls (fun k hk => by omega) hP hD hS (lv_sub hl [0, 1] rfl)
