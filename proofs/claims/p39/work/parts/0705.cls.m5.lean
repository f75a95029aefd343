section
theorem ggX0_clearVars_J7_fill_53178 : GoodIn wsX0_clearVars wsJ7_fill_53178 := gi_sub (fun w h => List.mem_cons_of_mem _ (List.mem_append_left _ (List.mem_append_left _ (List.mem_append_right _ h)))) gd_wsJ7_fill_53178
set_option maxRecDepth 20000 in
theorem gX0_clearVars_J7_fill_53178 : GoodIn wsX0_clearVars (va_wsS RX0 53 yJ7_fill_53178 wsJ7_fill_53178) := goodIn_app (goodIn_of _ (by decide +kernel)) ggX0_clearVars_J7_fill_53178
theorem dX0_clearVars_0 : decode cX0_clearVars 0 = .ok (.aload_n 0, 1) := dc1_42 (by decide +kernel)
theorem dX0_clearVars_1 : decode cX0_clearVars 1 = .ok (.getfield 27, 3) := dcw_180 (by decide +kernel)
theorem dX0_clearVars_4 : decode cX0_clearVars 4 = .ok (.iconst 0, 1) := dc1_3 (by decide +kernel)
theorem dX0_clearVars_5 : decode cX0_clearVars 5 = .ok (.invokestatic 53, 3) := dcw_184 (by decide +kernel)
theorem dX0_clearVars_8 : decode cX0_clearVars 8 = .ok (.aload_n 0, 1) := dc1_42 (by decide +kernel)
theorem dX0_clearVars_9 : decode cX0_clearVars 9 = .ok (.getfield 27, 3) := dcw_180 (by decide +kernel)
theorem dX0_clearVars_12 : decode cX0_clearVars 12 = .ok (.iconst 5, 1) := dc1_8 (by decide +kernel)
theorem dX0_clearVars_13 : decode cX0_clearVars 13 = .ok (.aload_n 1, 1) := dc1_43 (by decide +kernel)
theorem dX0_clearVars_14 : decode cX0_clearVars 14 = .ok (.getfield 59, 3) := dcw_180 (by decide +kernel)
theorem dX0_clearVars_17 : decode cX0_clearVars 17 = .ok (.iastore, 1) := dc1_79 (by decide +kernel)
theorem dX0_clearVars_18 : decode cX0_clearVars 18 = .ok (.return_, 1) := dc1_177 (by decide +kernel)
theorem dX10_thingIn_0 : decode cX10_thingIn 0 = .ok (.iload_n 0, 1) := dc1_26 (by decide +kernel)
theorem dX10_thingIn_1 : decode cX10_thingIn 1 = .ok (.istore_n 2, 1) := dc1_61 (by decide +kernel)
theorem dX10_thingIn_2 : decode cX10_thingIn 2 = .ok (.iconst 0, 1) := dc1_3 (by decide +kernel)
theorem dX10_thingIn_3 : decode cX10_thingIn 3 = .ok (.istore_n 3, 1) := dc1_62 (by decide +kernel)
theorem dX10_thingIn_4 : decode cX10_thingIn 4 = .ok (.iload_n 3, 1) := dc1_29 (by decide +kernel)
theorem dX10_thingIn_5 : decode cX10_thingIn 5 = .ok (.iload_n 1, 1) := dc1_27 (by decide +kernel)
theorem dX10_thingIn_6 : decode cX10_thingIn 6 = .ok (.if_icmp .ge 14, 3) := dcs_162 (n := 14) (by decide +kernel)
theorem dX10_thingIn_9 : decode cX10_thingIn 9 = .ok (.iload_n 2, 1) := dc1_28 (by decide +kernel)
theorem dX10_thingIn_10 : decode cX10_thingIn 10 = .ok (.bipush 6, 2) := dcb_16 (n := 6) (by decide +kernel)
theorem dX10_thingIn_12 : decode cX10_thingIn 12 = .ok (.idiv, 1) := dc1_108 (by decide +kernel)
theorem dX10_thingIn_13 : decode cX10_thingIn 13 = .ok (.istore_n 2, 1) := dc1_61 (by decide +kernel)
theorem dX10_thingIn_14 : decode cX10_thingIn 14 = .ok (.iinc 3 1, 3) := dc_iinc (m := 1) (by decide +kernel)
theorem dX10_thingIn_17 : decode cX10_thingIn 17 = .ok (.goto (-13), 3) := dcs_167 (n := 65523) (by decide +kernel)
theorem dX10_thingIn_20 : decode cX10_thingIn 20 = .ok (.iload_n 2, 1) := dc1_28 (by decide +kernel)
theorem dX10_thingIn_21 : decode cX10_thingIn 21 = .ok (.bipush 6, 2) := dcb_16 (n := 6) (by decide +kernel)
theorem dX10_thingIn_23 : decode cX10_thingIn 23 = .ok (.irem, 1) := dc1_112 (by decide +kernel)
theorem dX10_thingIn_24 : decode cX10_thingIn 24 = .ok (.ireturn, 1) := dc1_172 (by decide +kernel)
theorem dX10_heldTo_0 : decode cX10_heldTo 0 = .ok (.iconst 0, 1) := dc1_3 (by decide +kernel)
theorem dX10_heldTo_1 : decode cX10_heldTo 1 = .ok (.iload_n 0, 1) := dc1_26 (by decide +kernel)
theorem dX10_heldTo_2 : decode cX10_heldTo 2 = .ok (.iload_n 1, 1) := dc1_27 (by decide +kernel)
theorem dX10_heldTo_3 : decode cX10_heldTo 3 = .ok (.invokestatic 314, 3) := dcw_184 (by decide +kernel)
theorem dX10_heldTo_6 : decode cX10_heldTo 6 = .ok (.invokestatic 319, 3) := dcw_184 (by decide +kernel)
theorem dX10_heldTo_9 : decode cX10_heldTo 9 = .ok (.ireturn, 1) := dc1_172 (by decide +kernel)
theorem dX10_stirred_0 : decode cX10_stirred 0 = .ok (.iload_n 0, 1) := dc1_26 (by decide +kernel)
theorem dX10_stirred_1 : decode cX10_stirred 1 = .ok (.iload_n 1, 1) := dc1_27 (by decide +kernel)
theorem dX10_stirred_2 : decode cX10_stirred 2 = .ok (.ixor, 1) := dc1_130 (by decide +kernel)
theorem dX10_stirred_3 : decode cX10_stirred 3 = .ok (.ldc_w 325, 3) := dcw_19 (by decide +kernel)
theorem dX10_stirred_6 : decode cX10_stirred 6 = .ok (.imul, 1) := dc1_104 (by decide +kernel)
theorem dX10_stirred_7 : decode cX10_stirred 7 = .ok (.sipush 12345, 3) := dcs_17 (n := 12345) (by decide +kernel)
theorem dX10_stirred_10 : decode cX10_stirred 10 = .ok (.iadd, 1) := dc1_96 (by decide +kernel)
theorem dX10_stirred_11 : decode cX10_stirred 11 = .ok (.istore_n 2, 1) := dc1_61 (by decide +kernel)
theorem dX10_stirred_12 : decode cX10_stirred 12 = .ok (.iload_n 2, 1) := dc1_28 (by decide +kernel)
theorem dX10_stirred_13 : decode cX10_stirred 13 = .ok (.iload_n 2, 1) := dc1_28 (by decide +kernel)
theorem dX10_stirred_14 : decode cX10_stirred 14 = .ok (.bipush 15, 2) := dcb_16 (n := 15) (by decide +kernel)
theorem dX10_stirred_16 : decode cX10_stirred 16 = .ok (.iushr, 1) := dc1_124 (by decide +kernel)
theorem dX10_stirred_17 : decode cX10_stirred 17 = .ok (.ixor, 1) := dc1_130 (by decide +kernel)
theorem dX10_stirred_18 : decode cX10_stirred 18 = .ok (.ireturn, 1) := dc1_172 (by decide +kernel)
theorem dJ6_numberOfTrailingZeros_0f7a4_0 : decode cJ6_numberOfTrailingZeros_0f7a4 0 = .ok (.iload_n 0, 1) := dc1_26 (by decide +kernel)
theorem dJ6_numberOfTrailingZeros_0f7a4_1 : decode cJ6_numberOfTrailingZeros_0f7a4 1 = .ok (.iconst (-1), 1) := dc1_2 (by decide +kernel)
theorem dJ6_numberOfTrailingZeros_0f7a4_2 : decode cJ6_numberOfTrailingZeros_0f7a4 2 = .ok (.ixor, 1) := dc1_130 (by decide +kernel)
theorem dJ6_numberOfTrailingZeros_0f7a4_3 : decode cJ6_numberOfTrailingZeros_0f7a4 3 = .ok (.iload_n 0, 1) := dc1_26 (by decide +kernel)
theorem dJ6_numberOfTrailingZeros_0f7a4_4 : decode cJ6_numberOfTrailingZeros_0f7a4 4 = .ok (.iconst 1, 1) := dc1_4 (by decide +kernel)
theorem dJ6_numberOfTrailingZeros_0f7a4_5 : decode cJ6_numberOfTrailingZeros_0f7a4 5 = .ok (.isub, 1) := dc1_100 (by decide +kernel)
theorem dJ6_numberOfTrailingZeros_0f7a4_6 : decode cJ6_numberOfTrailingZeros_0f7a4 6 = .ok (.iand, 1) := dc1_126 (by decide +kernel)
theorem dJ6_numberOfTrailingZeros_0f7a4_7 : decode cJ6_numberOfTrailingZeros_0f7a4 7 = .ok (.istore_n 0, 1) := dc1_59 (by decide +kernel)
theorem dJ6_numberOfTrailingZeros_0f7a4_8 : decode cJ6_numberOfTrailingZeros_0f7a4 8 = .ok (.iload_n 0, 1) := dc1_26 (by decide +kernel)
theorem dJ6_numberOfTrailingZeros_0f7a4_9 : decode cJ6_numberOfTrailingZeros_0f7a4 9 = .ok (.ifCond .gt 8, 3) := dcs_157 (n := 8) (by decide +kernel)
theorem dJ6_numberOfTrailingZeros_0f7a4_12 : decode cJ6_numberOfTrailingZeros_0f7a4 12 = .ok (.iload_n 0, 1) := dc1_26 (by decide +kernel)
theorem dJ6_numberOfTrailingZeros_0f7a4_13 : decode cJ6_numberOfTrailingZeros_0f7a4 13 = .ok (.bipush 32, 2) := dcb_16 (n := 32) (by decide +kernel)
theorem dJ6_numberOfTrailingZeros_0f7a4_15 : decode cJ6_numberOfTrailingZeros_0f7a4 15 = .ok (.iand, 1) := dc1_126 (by decide +kernel)
theorem dJ6_numberOfTrailingZeros_0f7a4_16 : decode cJ6_numberOfTrailingZeros_0f7a4 16 = .ok (.ireturn, 1) := dc1_172 (by decide +kernel)
theorem dJ6_numberOfTrailingZeros_0f7a4_17 : decode cJ6_numberOfTrailingZeros_0f7a4 17 = .ok (.iconst 1, 1) := dc1_4 (by decide +kernel)
theorem dJ6_numberOfTrailingZeros_0f7a4_18 : decode cJ6_numberOfTrailingZeros_0f7a4 18 = .ok (.istore_n 1, 1) := dc1_60 (by decide +kernel)
theorem dJ6_numberOfTrailingZeros_0f7a4_19 : decode cJ6_numberOfTrailingZeros_0f7a4 19 = .ok (.iload_n 0, 1) := dc1_26 (by decide +kernel)
theorem dJ6_numberOfTrailingZeros_0f7a4_20 : decode cJ6_numberOfTrailingZeros_0f7a4 20 = .ok (.ldc_w 264, 3) := dcw_19 (by decide +kernel)
theorem dJ6_numberOfTrailingZeros_0f7a4_23 : decode cJ6_numberOfTrailingZeros_0f7a4 23 = .ok (.if_icmp .le 11, 3) := dcs_164 (n := 11) (by decide +kernel)
theorem dJ6_numberOfTrailingZeros_0f7a4_26 : decode cJ6_numberOfTrailingZeros_0f7a4 26 = .ok (.iinc 1 16, 3) := dc_iinc (m := 16) (by decide +kernel)
theorem dJ6_numberOfTrailingZeros_0f7a4_29 : decode cJ6_numberOfTrailingZeros_0f7a4 29 = .ok (.iload_n 0, 1) := dc1_26 (by decide +kernel)
theorem dJ6_numberOfTrailingZeros_0f7a4_30 : decode cJ6_numberOfTrailingZeros_0f7a4 30 = .ok (.bipush 16, 2) := dcb_16 (n := 16) (by decide +kernel)
theorem dJ6_numberOfTrailingZeros_0f7a4_32 : decode cJ6_numberOfTrailingZeros_0f7a4 32 = .ok (.iushr, 1) := dc1_124 (by decide +kernel)
theorem dJ6_numberOfTrailingZeros_0f7a4_33 : decode cJ6_numberOfTrailingZeros_0f7a4 33 = .ok (.istore_n 0, 1) := dc1_59 (by decide +kernel)
theorem dJ6_numberOfTrailingZeros_0f7a4_34 : decode cJ6_numberOfTrailingZeros_0f7a4 34 = .ok (.iload_n 0, 1) := dc1_26 (by decide +kernel)
theorem dJ6_numberOfTrailingZeros_0f7a4_35 : decode cJ6_numberOfTrailingZeros_0f7a4 35 = .ok (.sipush 256, 3) := dcs_17 (n := 256) (by decide +kernel)
theorem dJ6_numberOfTrailingZeros_0f7a4_38 : decode cJ6_numberOfTrailingZeros_0f7a4 38 = .ok (.if_icmp .le 11, 3) := dcs_164 (n := 11) (by decide +kernel)
theorem dJ6_numberOfTrailingZeros_0f7a4_41 : decode cJ6_numberOfTrailingZeros_0f7a4 41 = .ok (.iinc 1 8, 3) := dc_iinc (m := 8) (by decide +kernel)
theorem dJ6_numberOfTrailingZeros_0f7a4_44 : decode cJ6_numberOfTrailingZeros_0f7a4 44 = .ok (.iload_n 0, 1) := dc1_26 (by decide +kernel)
theorem dJ6_numberOfTrailingZeros_0f7a4_45 : decode cJ6_numberOfTrailingZeros_0f7a4 45 = .ok (.bipush 8, 2) := dcb_16 (n := 8) (by decide +kernel)
theorem dJ6_numberOfTrailingZeros_0f7a4_47 : decode cJ6_numberOfTrailingZeros_0f7a4 47 = .ok (.iushr, 1) := dc1_124 (by decide +kernel)
theorem dJ6_numberOfTrailingZeros_0f7a4_48 : decode cJ6_numberOfTrailingZeros_0f7a4 48 = .ok (.istore_n 0, 1) := dc1_59 (by decide +kernel)
theorem dJ6_numberOfTrailingZeros_0f7a4_49 : decode cJ6_numberOfTrailingZeros_0f7a4 49 = .ok (.iload_n 0, 1) := dc1_26 (by decide +kernel)
theorem dJ6_numberOfTrailingZeros_0f7a4_50 : decode cJ6_numberOfTrailingZeros_0f7a4 50 = .ok (.bipush 16, 2) := dcb_16 (n := 16) (by decide +kernel)
theorem dJ6_numberOfTrailingZeros_0f7a4_52 : decode cJ6_numberOfTrailingZeros_0f7a4 52 = .ok (.if_icmp .le 10, 3) := dcs_164 (n := 10) (by decide +kernel)
theorem dJ6_numberOfTrailingZeros_0f7a4_55 : decode cJ6_numberOfTrailingZeros_0f7a4 55 = .ok (.iinc 1 4, 3) := dc_iinc (m := 4) (by decide +kernel)
theorem dJ6_numberOfTrailingZeros_0f7a4_58 : decode cJ6_numberOfTrailingZeros_0f7a4 58 = .ok (.iload_n 0, 1) := dc1_26 (by decide +kernel)
theorem dJ6_numberOfTrailingZeros_0f7a4_59 : decode cJ6_numberOfTrailingZeros_0f7a4 59 = .ok (.iconst 4, 1) := dc1_7 (by decide +kernel)
theorem dJ6_numberOfTrailingZeros_0f7a4_60 : decode cJ6_numberOfTrailingZeros_0f7a4 60 = .ok (.iushr, 1) := dc1_124 (by decide +kernel)
theorem dJ6_numberOfTrailingZeros_0f7a4_61 : decode cJ6_numberOfTrailingZeros_0f7a4 61 = .ok (.istore_n 0, 1) := dc1_59 (by decide +kernel)
theorem dJ6_numberOfTrailingZeros_0f7a4_62 : decode cJ6_numberOfTrailingZeros_0f7a4 62 = .ok (.iload_n 0, 1) := dc1_26 (by decide +kernel)
theorem dJ6_numberOfTrailingZeros_0f7a4_63 : decode cJ6_numberOfTrailingZeros_0f7a4 63 = .ok (.iconst 4, 1) := dc1_7 (by decide +kernel)
theorem dJ6_numberOfTrailingZeros_0f7a4_64 : decode cJ6_numberOfTrailingZeros_0f7a4 64 = .ok (.if_icmp .le 10, 3) := dcs_164 (n := 10) (by decide +kernel)
theorem dJ6_numberOfTrailingZeros_0f7a4_67 : decode cJ6_numberOfTrailingZeros_0f7a4 67 = .ok (.iinc 1 2, 3) := dc_iinc (m := 2) (by decide +kernel)
theorem dJ6_numberOfTrailingZeros_0f7a4_70 : decode cJ6_numberOfTrailingZeros_0f7a4 70 = .ok (.iload_n 0, 1) := dc1_26 (by decide +kernel)
theorem dJ6_numberOfTrailingZeros_0f7a4_71 : decode cJ6_numberOfTrailingZeros_0f7a4 71 = .ok (.iconst 2, 1) := dc1_5 (by decide +kernel)
theorem dJ6_numberOfTrailingZeros_0f7a4_72 : decode cJ6_numberOfTrailingZeros_0f7a4 72 = .ok (.iushr, 1) := dc1_124 (by decide +kernel)
theorem dJ6_numberOfTrailingZeros_0f7a4_73 : decode cJ6_numberOfTrailingZeros_0f7a4 73 = .ok (.istore_n 0, 1) := dc1_59 (by decide +kernel)
theorem dJ6_numberOfTrailingZeros_0f7a4_74 : decode cJ6_numberOfTrailingZeros_0f7a4 74 = .ok (.iload_n 1, 1) := dc1_27 (by decide +kernel)
theorem dJ6_numberOfTrailingZeros_0f7a4_75 : decode cJ6_numberOfTrailingZeros_0f7a4 75 = .ok (.iload_n 0, 1) := dc1_26 (by decide +kernel)
theorem dJ6_numberOfTrailingZeros_0f7a4_76 : decode cJ6_numberOfTrailingZeros_0f7a4 76 = .ok (.iconst 1, 1) := dc1_4 (by decide +kernel)
theorem dJ6_numberOfTrailingZeros_0f7a4_77 : decode cJ6_numberOfTrailingZeros_0f7a4 77 = .ok (.iushr, 1) := dc1_124 (by decide +kernel)
theorem dJ6_numberOfTrailingZeros_0f7a4_78 : decode cJ6_numberOfTrailingZeros_0f7a4 78 = .ok (.iadd, 1) := dc1_96 (by decide +kernel)
theorem dJ6_numberOfTrailingZeros_0f7a4_79 : decode cJ6_numberOfTrailingZeros_0f7a4 79 = .ok (.ireturn, 1) := dc1_172 (by decide +kernel)
theorem dJ6_bitCount_0f7a4_0 : decode cJ6_bitCount_0f7a4 0 = .ok (.iload_n 0, 1) := dc1_26 (by decide +kernel)
theorem dJ6_bitCount_0f7a4_1 : decode cJ6_bitCount_0f7a4 1 = .ok (.iload_n 0, 1) := dc1_26 (by decide +kernel)
theorem dJ6_bitCount_0f7a4_2 : decode cJ6_bitCount_0f7a4 2 = .ok (.iconst 1, 1) := dc1_4 (by decide +kernel)
theorem dJ6_bitCount_0f7a4_3 : decode cJ6_bitCount_0f7a4 3 = .ok (.iushr, 1) := dc1_124 (by decide +kernel)
theorem dJ6_bitCount_0f7a4_4 : decode cJ6_bitCount_0f7a4 4 = .ok (.ldc_w 265, 3) := dcw_19 (by decide +kernel)
theorem dJ6_bitCount_0f7a4_7 : decode cJ6_bitCount_0f7a4 7 = .ok (.iand, 1) := dc1_126 (by decide +kernel)
theorem dJ6_bitCount_0f7a4_8 : decode cJ6_bitCount_0f7a4 8 = .ok (.isub, 1) := dc1_100 (by decide +kernel)
theorem dJ6_bitCount_0f7a4_9 : decode cJ6_bitCount_0f7a4 9 = .ok (.istore_n 0, 1) := dc1_59 (by decide +kernel)
theorem dJ6_bitCount_0f7a4_10 : decode cJ6_bitCount_0f7a4 10 = .ok (.iload_n 0, 1) := dc1_26 (by decide +kernel)
theorem dJ6_bitCount_0f7a4_11 : decode cJ6_bitCount_0f7a4 11 = .ok (.ldc_w 266, 3) := dcw_19 (by decide +kernel)
theorem dJ6_bitCount_0f7a4_14 : decode cJ6_bitCount_0f7a4 14 = .ok (.iand, 1) := dc1_126 (by decide +kernel)
theorem dJ6_bitCount_0f7a4_15 : decode cJ6_bitCount_0f7a4 15 = .ok (.iload_n 0, 1) := dc1_26 (by decide +kernel)
theorem dJ6_bitCount_0f7a4_16 : decode cJ6_bitCount_0f7a4 16 = .ok (.iconst 2, 1) := dc1_5 (by decide +kernel)
theorem dJ6_bitCount_0f7a4_17 : decode cJ6_bitCount_0f7a4 17 = .ok (.iushr, 1) := dc1_124 (by decide +kernel)
theorem dJ6_bitCount_0f7a4_18 : decode cJ6_bitCount_0f7a4 18 = .ok (.ldc_w 266, 3) := dcw_19 (by decide +kernel)
theorem dJ6_bitCount_0f7a4_21 : decode cJ6_bitCount_0f7a4 21 = .ok (.iand, 1) := dc1_126 (by decide +kernel)
theorem dJ6_bitCount_0f7a4_22 : decode cJ6_bitCount_0f7a4 22 = .ok (.iadd, 1) := dc1_96 (by decide +kernel)
theorem dJ6_bitCount_0f7a4_23 : decode cJ6_bitCount_0f7a4 23 = .ok (.istore_n 0, 1) := dc1_59 (by decide +kernel)
theorem dJ6_bitCount_0f7a4_24 : decode cJ6_bitCount_0f7a4 24 = .ok (.iload_n 0, 1) := dc1_26 (by decide +kernel)
theorem dJ6_bitCount_0f7a4_25 : decode cJ6_bitCount_0f7a4 25 = .ok (.iload_n 0, 1) := dc1_26 (by decide +kernel)
theorem dJ6_bitCount_0f7a4_26 : decode cJ6_bitCount_0f7a4 26 = .ok (.iconst 4, 1) := dc1_7 (by decide +kernel)
theorem dJ6_bitCount_0f7a4_27 : decode cJ6_bitCount_0f7a4 27 = .ok (.iushr, 1) := dc1_124 (by decide +kernel)
theorem dJ6_bitCount_0f7a4_28 : decode cJ6_bitCount_0f7a4 28 = .ok (.iadd, 1) := dc1_96 (by decide +kernel)
theorem dJ6_bitCount_0f7a4_29 : decode cJ6_bitCount_0f7a4 29 = .ok (.ldc_w 267, 3) := dcw_19 (by decide +kernel)
theorem dJ6_bitCount_0f7a4_32 : decode cJ6_bitCount_0f7a4 32 = .ok (.iand, 1) := dc1_126 (by decide +kernel)
theorem dJ6_bitCount_0f7a4_33 : decode cJ6_bitCount_0f7a4 33 = .ok (.istore_n 0, 1) := dc1_59 (by decide +kernel)
theorem dJ6_bitCount_0f7a4_34 : decode cJ6_bitCount_0f7a4 34 = .ok (.iload_n 0, 1) := dc1_26 (by decide +kernel)
theorem dJ6_bitCount_0f7a4_35 : decode cJ6_bitCount_0f7a4 35 = .ok (.iload_n 0, 1) := dc1_26 (by decide +kernel)
theorem dJ6_bitCount_0f7a4_36 : decode cJ6_bitCount_0f7a4 36 = .ok (.bipush 8, 2) := dcb_16 (n := 8) (by decide +kernel)
theorem dJ6_bitCount_0f7a4_38 : decode cJ6_bitCount_0f7a4 38 = .ok (.iushr, 1) := dc1_124 (by decide +kernel)
theorem dJ6_bitCount_0f7a4_39 : decode cJ6_bitCount_0f7a4 39 = .ok (.iadd, 1) := dc1_96 (by decide +kernel)
theorem dJ6_bitCount_0f7a4_40 : decode cJ6_bitCount_0f7a4 40 = .ok (.istore_n 0, 1) := dc1_59 (by decide +kernel)
theorem dJ6_bitCount_0f7a4_41 : decode cJ6_bitCount_0f7a4 41 = .ok (.iload_n 0, 1) := dc1_26 (by decide +kernel)
theorem dJ6_bitCount_0f7a4_42 : decode cJ6_bitCount_0f7a4 42 = .ok (.iload_n 0, 1) := dc1_26 (by decide +kernel)
theorem dJ6_bitCount_0f7a4_43 : decode cJ6_bitCount_0f7a4 43 = .ok (.bipush 16, 2) := dcb_16 (n := 16) (by decide +kernel)
theorem dJ6_bitCount_0f7a4_45 : decode cJ6_bitCount_0f7a4 45 = .ok (.iushr, 1) := dc1_124 (by decide +kernel)
theorem dJ6_bitCount_0f7a4_46 : decode cJ6_bitCount_0f7a4 46 = .ok (.iadd, 1) := dc1_96 (by decide +kernel)
theorem dJ6_bitCount_0f7a4_47 : decode cJ6_bitCount_0f7a4 47 = .ok (.istore_n 0, 1) := dc1_59 (by decide +kernel)
theorem dJ6_bitCount_0f7a4_48 : decode cJ6_bitCount_0f7a4 48 = .ok (.iload_n 0, 1) := dc1_26 (by decide +kernel)
theorem dJ6_bitCount_0f7a4_49 : decode cJ6_bitCount_0f7a4 49 = .ok (.bipush 63, 2) := dcb_16 (n := 63) (by decide +kernel)
theorem dJ6_bitCount_0f7a4_51 : decode cJ6_bitCount_0f7a4 51 = .ok (.iand, 1) := dc1_126 (by decide +kernel)
theorem dJ6_bitCount_0f7a4_52 : decode cJ6_bitCount_0f7a4 52 = .ok (.ireturn, 1) := dc1_172 (by decide +kernel)
theorem dJ7_fill_53178_0 : decode cJ7_fill_53178 0 = .ok (.iconst 0, 1) := dc1_3 (by decide +kernel)
theorem dJ7_fill_53178_1 : decode cJ7_fill_53178 1 = .ok (.istore_n 2, 1) := dc1_61 (by decide +kernel)
theorem dJ7_fill_53178_2 : decode cJ7_fill_53178 2 = .ok (.aload_n 0, 1) := dc1_42 (by decide +kernel)
theorem dJ7_fill_53178_3 : decode cJ7_fill_53178 3 = .ok (.arraylength, 1) := dc1_190 (by decide +kernel)
theorem dJ7_fill_53178_4 : decode cJ7_fill_53178 4 = .ok (.istore_n 3, 1) := dc1_62 (by decide +kernel)
theorem dJ7_fill_53178_5 : decode cJ7_fill_53178 5 = .ok (.iload_n 2, 1) := dc1_28 (by decide +kernel)
theorem dJ7_fill_53178_6 : decode cJ7_fill_53178 6 = .ok (.iload_n 3, 1) := dc1_29 (by decide +kernel)
theorem dJ7_fill_53178_7 : decode cJ7_fill_53178 7 = .ok (.if_icmp .ge 13, 3) := dcs_162 (n := 13) (by decide +kernel)
theorem dJ7_fill_53178_10 : decode cJ7_fill_53178 10 = .ok (.aload_n 0, 1) := dc1_42 (by decide +kernel)
theorem dJ7_fill_53178_11 : decode cJ7_fill_53178 11 = .ok (.iload_n 2, 1) := dc1_28 (by decide +kernel)
theorem dJ7_fill_53178_12 : decode cJ7_fill_53178 12 = .ok (.iload_n 1, 1) := dc1_27 (by decide +kernel)
theorem dJ7_fill_53178_13 : decode cJ7_fill_53178 13 = .ok (.iastore, 1) := dc1_79 (by decide +kernel)
theorem dJ7_fill_53178_14 : decode cJ7_fill_53178 14 = .ok (.iinc 2 1, 3) := dc_iinc (m := 1) (by decide +kernel)
theorem dJ7_fill_53178_17 : decode cJ7_fill_53178 17 = .ok (.goto (-12), 3) := dcs_167 (n := 65524) (by decide +kernel)
theorem dJ7_fill_53178_20 : decode cJ7_fill_53178 20 = .ok (.return_, 1) := dc1_177 (by decide +kernel)
set_option maxHeartbeats 4000000 in
set_option maxRecDepth 100000 in
theorem bkX10_sumOf_6_4 {l : Launch} {dC : Nat → ClassId} {dI : Nat → Nat → Nat} {cB cI cJ cZ cS : ClassId} {q0 : Nat} {as : List Value} {r : Int32} {s' : (Nat → Int32)} {k4 : (Nat → Int32) → Int32 → Int32 → Option (Int32 × (Nat → Int32))} (hk4 : ∀ (s : (Nat → Int32)) (x1 : Int32) (x2 : Int32), k4 s x1 x2 = some (r, s') → BlkI l yX10_sumOf wsX10_sumOf ({ frames := 0, cells := 0, slots := 0, locals := 0 }) cX10_sumOf 3 (some .int) (dC, dI) (tysA cB cI cJ cZ cS) as 4 [(q0, .inl (cI, 6, .inl s))] [(0, .ref q0), (1, .int x1), (2, .int x2)] [] (fun x u => x = r ∧ u = [(q0, .inl (cI, 6, .inl s'))])) (s : (Nat → Int32)) (x1 : Int32) (x2 : Int32) (hB : kX10_sumOf_6_4 k4 s x1 x2 = some (r, s')) : BlkI l yX10_sumOf wsX10_sumOf ({ frames := 0, cells := 0, slots := 0, locals := 0 }) cX10_sumOf 3 (some .int) (dC, dI) (tysA cB cI cJ cZ cS) as 4 [(q0, .inl (cI, 6, .inl s))] [(0, .ref q0), (1, .int x1), (2, .int x2)] [] (fun x u => x = r ∧ u = [(q0, .inl (cI, 6, .inl s'))]) := by
  intro p e s0 m below meth c A E H locs ls hP hD hS hl
  obtain ⟨C, hr, hlocks, hA, hK, hN⟩ := id E
  obtain ⟨hx, hb, hml, hown, hts⟩ := id C
  unfold kX10_sumOf_6_4 at hB
  refine lv_iload_n hx hb dX10_sumOf_4 rfl (lv_at hl 2 rfl) ?_
  refine lv_aload_n hx hb dX10_sumOf_5 rfl (lv_at hl 0 rfl) ?_
  refine q_alen (v := 6) C hK hP 0 1 rfl rfl dX10_sumOf_6 rfl ?_
  refine lv_icmp_ge (tgt := 22) hx hb dX10_sumOf_7 (by decide) (fun c1 => ?_) (fun c1 => ?_)
  · have hB := if_p hB c1
    refine lv_iload_n hx hb dX10_sumOf_22 rfl (lv_at hl 1 rfl) ?_
    exact q_iret C hr hlocks hK hP hD hS (Nat.le_of_ble_eq_true rfl) (Nat.le_of_ble_eq_true rfl) dX10_sumOf_23 (by cases hB; exact ⟨rfl, rfl⟩)
  · have hB := if_n hB c1
    refine lv_iload_n hx hb dX10_sumOf_10 rfl (lv_at hl 1 rfl) ?_
    refine lv_aload_n hx hb dX10_sumOf_11 rfl (lv_at hl 0 rfl) ?_
    refine lv_iload_n hx hb dX10_sumOf_12 rfl (lv_at hl 2 rfl) ?_
    obtain ⟨g2, hB⟩ := guard_inv hB
    refine q_iald (x := (s (Int32.toNatClampNeg x2))) C hK hP 0 1 rfl rfl (vpb_in g2) dX10_sumOf_13 rfl ?_
    refine lv_iadd hx hb dX10_sumOf_14 ?_
    refine lv_istore_n (lv' := [(1, .int (x1 + (s (Int32.toNatClampNeg x2)))), (0, .ref q0), (2, .int x2)]) hx hb dX10_sumOf_15 rfl hl (by decide) rfl (fun ls hl => ?_)
    refine lv_iinc (v := (x2 + 1)) (lv' := [(2, .int (x2 + 1)), (1, .int (x1 + (s (Int32.toNatClampNeg x2)))), (0, .ref q0)]) hx hb dX10_sumOf_16 hl (k := 2) rfl (rfl) (by decide) rfl (fun ls hl => ?_)
    refine lv_goto (tgt := 4) hx hb dX10_sumOf_19 (by decide) ?_
    exact hk4 _ _ _ hB p e s0 m below meth c A E H locs ls hP hD hS (lv_sub hl [2, 1, 0] rfl)
theorem bkX10_sumOf_6_4L {l : Launch} {dC : Nat → ClassId} {dI : Nat → Nat → Nat} {cB cI cJ cZ cS : ClassId} {q0 : Nat} {as : List Value} {r : Int32} {s' : (Nat → Int32)} : ∀ (n : Nat) (s : (Nat → Int32)) (x1 : Int32) (x2 : Int32), kX10_sumOf_6_4L n s x1 x2 = some (r, s') → BlkI l yX10_sumOf wsX10_sumOf ({ frames := 0, cells := 0, slots := 0, locals := 0 }) cX10_sumOf 3 (some .int) (dC, dI) (tysA cB cI cJ cZ cS) as 4 [(q0, .inl (cI, 6, .inl s))] [(0, .ref q0), (1, .int x1), (2, .int x2)] [] (fun x u => x = r ∧ u = [(q0, .inl (cI, 6, .inl s'))]) := by
  intro n
  induction n with
  | zero => intro s x1 x2 hB; exact none_ne hB
  | succ n ih => intro s x1 x2 hB; exact bkX10_sumOf_6_4 ih _ _ _ hB
set_option maxHeartbeats 4000000 in
set_option maxRecDepth 100000 in
theorem bkX10_sumOf_6 {l : Launch} {dC : Nat → ClassId} {dI : Nat → Nat → Nat} {cB cI cJ cZ cS : ClassId} {q0 : Nat} {as : List Value} {r : Int32} {s' : (Nat → Int32)} (s : (Nat → Int32)) (hB : kX10_sumOf_6 s = some (r, s')) : BlkI l yX10_sumOf wsX10_sumOf ({ frames := 0, cells := 0, slots := 0, locals := 0 }) cX10_sumOf 3 (some .int) (dC, dI) (tysA cB cI cJ cZ cS) as 0 [(q0, .inl (cI, 6, .inl s))] [(0, .ref q0)] [] (fun x u => x = r ∧ u = [(q0, .inl (cI, 6, .inl s'))]) := by
  intro p e s0 m below meth c A E H locs ls hP hD hS hl
  obtain ⟨C, hr, hlocks, hA, hK, hN⟩ := id E
  obtain ⟨hx, hb, hml, hown, hts⟩ := id C
  unfold kX10_sumOf_6 at hB
  refine lv_iconst (v := 0) hx hb dX10_sumOf_0 (by decide) ?_
  refine lv_istore_n (lv' := [(1, .int 0), (0, .ref q0)]) hx hb dX10_sumOf_1 rfl hl (by decide) rfl (fun ls hl => ?_)
  refine lv_iconst (v := 0) hx hb dX10_sumOf_2 (by decide) ?_
  refine lv_istore_n (lv' := [(2, .int 0), (1, .int 0), (0, .ref q0)]) hx hb dX10_sumOf_3 rfl hl (by decide) rfl (fun ls hl => ?_)
  exact bkX10_sumOf_6_4L fu _ _ _ hB p e s0 m below meth c A E H locs ls hP hD hS (lv_sub hl [2, 1, 0] rfl)
theorem ckX10_sumOf_6 {l : Launch} {dC : Nat → ClassId} {dI : Nat → Nat → Nat} {cB cI cJ cZ cS : ClassId} {q0 : Nat} {r : Int32} {s' : (Nat → Int32)} {s : (Nat → Int32)} (hB : kX10_sumOf_6 s = some (r, s')) : CI l yX10_sumOf wsX10_sumOf ({ frames := 0, cells := 0, slots := 0, locals := 0 }) (dC, dI) (tysA cB cI cJ cZ cS) [(q0, .inl (cI, 6, .inl s))] [.ref q0] (fun x u => x = r ∧ u = [(q0, .inl (cI, 6, .inl s'))]) :=
  CI_of (cc := cX10_sumOf) (maxL := 3) (ret := (some .int)) (by decide) rfl (Nat.le_of_ble_eq_true rfl) (bkX10_sumOf_6 _ hB)
set_option maxHeartbeats 4000000 in
set_option maxRecDepth 100000 in
theorem bkX10_thingIn_4 {l : Launch} {dC : Nat → ClassId} {dI : Nat → Nat → Nat} {cB cI cJ cZ cS : ClassId} {as : List Value} {r : Int32} {k4 : Int32 → Int32 → Int32 → Option Int32} (hk4 : ∀ (x1 : Int32) (x2 : Int32) (x3 : Int32), k4 x1 x2 x3 = some r → BlkI l yX10_thingIn wsX10_thingIn ({ frames := 0, cells := 0, slots := 0, locals := 0 }) cX10_thingIn 4 (some .int) (dC, dI) (tysA cB cI cJ cZ cS) as 4 [] [(1, .int x1), (2, .int x2), (3, .int x3)] [] (fun x _ => x = r)) (x1 : Int32) (x2 : Int32) (x3 : Int32) (hB : kX10_thingIn_4 k4 x1 x2 x3 = some r) : BlkI l yX10_thingIn wsX10_thingIn ({ frames := 0, cells := 0, slots := 0, locals := 0 }) cX10_thingIn 4 (some .int) (dC, dI) (tysA cB cI cJ cZ cS) as 4 [] [(1, .int x1), (2, .int x2), (3, .int x3)] [] (fun x _ => x = r) := by
  intro p e s0 m below meth c A E H locs ls hP hD hS hl
  obtain ⟨C, hr, hlocks, hA, hK, hN⟩ := id E
  obtain ⟨hx, hb, hml, hown, hts⟩ := id C
  unfold kX10_thingIn_4 at hB
  refine lv_iload_n hx hb dX10_thingIn_4 rfl (lv_at hl 2 rfl) ?_
  refine lv_iload_n hx hb dX10_thingIn_5 rfl (lv_at hl 0 rfl) ?_
  refine lv_icmp_ge (tgt := 20) hx hb dX10_thingIn_6 (by decide) (fun c1 => ?_) (fun c1 => ?_)
  · have hB := if_p hB c1
    refine lv_iload_n hx hb dX10_thingIn_20 rfl (lv_at hl 1 rfl) ?_
    refine lv_bipush (v := 6) hx hb dX10_thingIn_21 (by decide) ?_
    refine lv_irem hx hb dX10_thingIn_23 (by decide) ?_
    exact q_iret C hr hlocks hK hP hD hS (Nat.le_of_ble_eq_true rfl) (Nat.le_of_ble_eq_true rfl) dX10_thingIn_24 (by cases hB; rfl)
  · have hB := if_n hB c1
    refine lv_iload_n hx hb dX10_thingIn_9 rfl (lv_at hl 1 rfl) ?_
    refine lv_bipush (v := 6) hx hb dX10_thingIn_10 (by decide) ?_
    refine lv_idiv hx hb dX10_thingIn_12 (by decide) ?_
    refine lv_istore_n (lv' := [(2, .int (x2 / 6)), (1, .int x1), (3, .int x3)]) hx hb dX10_thingIn_13 rfl hl (by decide) rfl (fun ls hl => ?_)
    refine lv_iinc (v := (x3 + 1)) (lv' := [(3, .int (x3 + 1)), (2, .int (x2 / 6)), (1, .int x1)]) hx hb dX10_thingIn_14 hl (k := 2) rfl (rfl) (by decide) rfl (fun ls hl => ?_)
    refine lv_goto (tgt := 4) hx hb dX10_thingIn_17 (by decide) ?_
    exact hk4 _ _ _ hB p e s0 m below meth c A E H locs ls hP hD hS (lv_sub hl [2, 1, 0] rfl)
theorem bkX10_thingIn_4L {l : Launch} {dC : Nat → ClassId} {dI : Nat → Nat → Nat} {cB cI cJ cZ cS : ClassId} {as : List Value} {r : Int32} : ∀ (n : Nat) (x1 : Int32) (x2 : Int32) (x3 : Int32), kX10_thingIn_4L n x1 x2 x3 = some r → BlkI l yX10_thingIn wsX10_thingIn ({ frames := 0, cells := 0, slots := 0, locals := 0 }) cX10_thingIn 4 (some .int) (dC, dI) (tysA cB cI cJ cZ cS) as 4 [] [(1, .int x1), (2, .int x2), (3, .int x3)] [] (fun x _ => x = r) := by
  intro n
  induction n with
  | zero => intro x1 x2 x3 hB; exact none_ne hB
  | succ n ih => intro x1 x2 x3 hB; exact bkX10_thingIn_4 ih _ _ _ hB
set_option maxHeartbeats 4000000 in
set_option maxRecDepth 100000 in
theorem bkX10_thingIn {l : Launch} {dC : Nat → ClassId} {dI : Nat → Nat → Nat} {cB cI cJ cZ cS : ClassId} {as : List Value} {r : Int32} (x0 : Int32) (x1 : Int32) (hB : kX10_thingIn x0 x1 = some r) : BlkI l yX10_thingIn wsX10_thingIn ({ frames := 0, cells := 0, slots := 0, locals := 0 }) cX10_thingIn 4 (some .int) (dC, dI) (tysA cB cI cJ cZ cS) as 0 [] [(0, .int x0), (1, .int x1)] [] (fun x _ => x = r) := by
  intro p e s0 m below meth c A E H locs ls hP hD hS hl
  obtain ⟨C, hr, hlocks, hA, hK, hN⟩ := id E
  obtain ⟨hx, hb, hml, hown, hts⟩ := id C
  unfold kX10_thingIn at hB
  refine lv_iload_n hx hb dX10_thingIn_0 rfl (lv_at hl 0 rfl) ?_
  refine lv_istore_n (lv' := [(2, .int x0), (0, .int x0), (1, .int x1)]) hx hb dX10_thingIn_1 rfl hl (by decide) rfl (fun ls hl => ?_)
  refine lv_iconst (v := 0) hx hb dX10_thingIn_2 (by decide) ?_
  refine lv_istore_n (lv' := [(3, .int 0), (2, .int x0), (0, .int x0), (1, .int x1)]) hx hb dX10_thingIn_3 rfl hl (by decide) rfl (fun ls hl => ?_)
  exact bkX10_thingIn_4L fu _ _ _ hB p e s0 m below meth c A E H locs ls hP hD hS (lv_sub hl [3, 1, 0] rfl)
theorem ckX10_thingIn {l : Launch} {dC : Nat → ClassId} {dI : Nat → Nat → Nat} {cB cI cJ cZ cS : ClassId} {r : Int32} {x0 : Int32} {x1 : Int32} (hB : kX10_thingIn x0 x1 = some r) : CI l yX10_thingIn wsX10_thingIn ({ frames := 0, cells := 0, slots := 0, locals := 0 }) (dC, dI) (tysA cB cI cJ cZ cS) [] [.int x0, .int x1] (fun x _ => x = r) :=
  CI_of (cc := cX10_thingIn) (maxL := 4) (ret := (some .int)) (by decide) rfl (Nat.le_of_ble_eq_true rfl) (bkX10_thingIn _ _ hB)
theorem LX10_heldTo_M314 : Cond.methodLink RX10 314 Lib.Math.min.name ∈ wsX10_heldTo := (List.mem_cons_of_mem _ (List.mem_of_getElem? (i := 0) rfl))
theorem LX10_heldTo_M319 : Cond.methodLink RX10 319 Lib.Math.max.name ∈ wsX10_heldTo := (List.mem_cons_of_mem _ (List.mem_of_getElem? (i := 4) rfl))
theorem LX10_heldTo_MCmax : Cond.code Lib.Math.max.name Lib.Math.max.code 2 (some .int) ∈ wsX10_heldTo := (List.mem_cons_of_mem _ (List.mem_of_getElem? (i := 6) rfl))
theorem LX10_heldTo_MCmin : Cond.code Lib.Math.min.name Lib.Math.min.code 2 (some .int) ∈ wsX10_heldTo := (List.mem_cons_of_mem _ (List.mem_of_getElem? (i := 3) rfl))
theorem LX10_heldTo_MI : Cond.initialized "java/lang/Math" ∈ wsX10_heldTo := (List.mem_cons_of_mem _ (List.mem_of_getElem? (i := 2) rfl))
theorem LX10_heldTo_MSmax : Cond.static Lib.Math.max.name ∈ wsX10_heldTo := (List.mem_cons_of_mem _ (List.mem_of_getElem? (i := 5) rfl))
theorem LX10_heldTo_MSmin : Cond.static Lib.Math.min.name ∈ wsX10_heldTo := (List.mem_cons_of_mem _ (List.mem_of_getElem? (i := 1) rfl))
set_option maxHeartbeats 4000000 in
set_option maxRecDepth 100000 in
theorem bkX10_heldTo {l : Launch} {dC : Nat → ClassId} {dI : Nat → Nat → Nat} {cB cI cJ cZ cS : ClassId} {as : List Value} {r : Int32} (x0 : Int32) (x1 : Int32) (hB : kX10_heldTo x0 x1 = some r) : BlkI l yX10_heldTo wsX10_heldTo ({ frames := 1, cells := 0, slots := 0, locals := 24 }) cX10_heldTo 2 (some .int) (dC, dI) (tysA cB cI cJ cZ cS) as 0 [] [(0, .int x0), (1, .int x1)] [] (fun x _ => x = r) := by
  intro p e s0 m below meth c A E H locs ls hP hD hS hl
  obtain ⟨C, hr, hlocks, hA, hK, hN⟩ := id E
  obtain ⟨hx, hb, hml, hown, hts⟩ := id C
  unfold kX10_heldTo at hB
  refine lv_iconst (v := 0) hx hb dX10_heldTo_0 (by decide) ?_
  refine lv_iload_n hx hb dX10_heldTo_1 rfl (lv_at hl 0 rfl) ?_
  refine lv_iload_n hx hb dX10_heldTo_2 rfl (lv_at hl 1 rfl) ?_
  refine va_mmin hx hb (hml.trans hl.1.symm) hown (hts _ LX10_heldTo_M314) (hts _ LX10_heldTo_MSmin) (hts _ LX10_heldTo_MI) (hts _ LX10_heldTo_MCmin) (Nat.le_of_ble_eq_true rfl) (Nat.le_of_ble_eq_true rfl) (Nat.zero_le _) (Nat.zero_le _) dX10_heldTo_3 ?_
  refine q_top (y := (mmin x0 x1)) rfl ?_
  refine va_mmax hx hb (hml.trans hl.1.symm) hown (hts _ LX10_heldTo_M319) (hts _ LX10_heldTo_MSmax) (hts _ LX10_heldTo_MI) (hts _ LX10_heldTo_MCmax) (Nat.le_of_ble_eq_true rfl) (Nat.le_of_ble_eq_true rfl) (Nat.zero_le _) (Nat.zero_le _) dX10_heldTo_6 ?_
  refine q_top (y := (mmax 0 (mmin x0 x1))) rfl ?_
  exact q_iret C hr hlocks hK hP hD hS (Nat.le_of_ble_eq_true rfl) (Nat.le_of_ble_eq_true rfl) dX10_heldTo_9 (by cases hB; rfl)
theorem ckX10_heldTo {l : Launch} {dC : Nat → ClassId} {dI : Nat → Nat → Nat} {cB cI cJ cZ cS : ClassId} {r : Int32} {x0 : Int32} {x1 : Int32} (hB : kX10_heldTo x0 x1 = some r) : CI l yX10_heldTo wsX10_heldTo ({ frames := 1, cells := 0, slots := 0, locals := 24 }) (dC, dI) (tysA cB cI cJ cZ cS) [] [.int x0, .int x1] (fun x _ => x = r) :=
  CI_of (cc := cX10_heldTo) (maxL := 2) (ret := (some .int)) (by decide) rfl (Nat.le_of_ble_eq_true rfl) (bkX10_heldTo _ _ hB)
theorem LX10_stirred_K325 : Cond.constant RX10 325 1103515245 ∈ wsX10_stirred := (List.mem_cons_of_mem _ (List.mem_of_getElem? (i := 0) rfl))
set_option maxHeartbeats 4000000 in
set_option maxRecDepth 100000 in
theorem bkX10_stirred {l : Launch} {dC : Nat → ClassId} {dI : Nat → Nat → Nat} {cB cI cJ cZ cS : ClassId} {as : List Value} {r : Int32} (x0 : Int32) (x1 : Int32) (hB : kX10_stirred x0 x1 = some r) : BlkI l yX10_stirred wsX10_stirred ({ frames := 0, cells := 0, slots := 0, locals := 0 }) cX10_stirred 3 (some .int) (dC, dI) (tysA cB cI cJ cZ cS) as 0 [] [(0, .int x0), (1, .int x1)] [] (fun x _ => x = r) := by
  intro p e s0 m below meth c A E H locs ls hP hD hS hl
  obtain ⟨C, hr, hlocks, hA, hK, hN⟩ := id E
  obtain ⟨hx, hb, hml, hown, hts⟩ := id C
  unfold kX10_stirred at hB
  refine lv_iload_n hx hb dX10_stirred_0 rfl (lv_at hl 0 rfl) ?_
  refine lv_iload_n hx hb dX10_stirred_1 rfl (lv_at hl 1 rfl) ?_
  refine lv_ixor hx hb dX10_stirred_2 ?_
  refine lv_ldcw (v := 1103515245) hx hb hown (hts _ LX10_stirred_K325) dX10_stirred_3 ?_
  refine lv_imul hx hb dX10_stirred_6 ?_
  refine lv_sipush (v := 12345) hx hb dX10_stirred_7 (by decide) ?_
  refine lv_iadd hx hb dX10_stirred_10 ?_
  refine lv_istore_n (lv' := [(2, .int (((x0 ^^^ x1) * 1103515245) + 12345)), (0, .int x0), (1, .int x1)]) hx hb dX10_stirred_11 rfl hl (by decide) rfl (fun ls hl => ?_)
  refine lv_iload_n hx hb dX10_stirred_12 rfl (lv_at hl 0 rfl) ?_
  refine lv_iload_n hx hb dX10_stirred_13 rfl (lv_at hl 0 rfl) ?_
  refine lv_bipush (v := 15) hx hb dX10_stirred_14 (by decide) ?_
  refine lv_iushr (v := (ushr (((x0 ^^^ x1) * 1103515245) + 12345) 15)) hx hb dX10_stirred_16 rfl ?_
  refine lv_ixor hx hb dX10_stirred_17 ?_
  exact q_iret C hr hlocks hK hP hD hS (Nat.le_of_ble_eq_true rfl) (Nat.le_of_ble_eq_true rfl) dX10_stirred_18 (by cases hB; rfl)
theorem ckX10_stirred {l : Launch} {dC : Nat → ClassId} {dI : Nat → Nat → Nat} {cB cI cJ cZ cS : ClassId} {r : Int32} {x0 : Int32} {x1 : Int32} (hB : kX10_stirred x0 x1 = some r) : CI l yX10_stirred wsX10_stirred ({ frames := 0, cells := 0, slots := 0, locals := 0 }) (dC, dI) (tysA cB cI cJ cZ cS) [] [.int x0, .int x1] (fun x _ => x = r) :=
  CI_of (cc := cX10_stirred) (maxL := 3) (ret := (some .int)) (by decide) rfl (Nat.le_of_ble_eq_true rfl) (bkX10_stirred _ _ hB)
theorem LJ6_numberOfTrailingZeros_0f7a4_K264 : Cond.constant RJ6 264 65536 ∈ wsJ6_numberOfTrailingZeros_0f7a4 := (List.mem_cons_of_mem _ (List.mem_of_getElem? (i := 0) rfl))
set_option maxHeartbeats 4000000 in
set_option maxRecDepth 100000 in
theorem bkJ6_numberOfTrailingZeros_0f7a4_74 {l : Launch} {dC : Nat → ClassId} {dI : Nat → Nat → Nat} {cB cI cJ cZ cS : ClassId} {as : List Value} {r : Int32} (x0 : Int32) (x1 : Int32) (hB : kJ6_numberOfTrailingZeros_0f7a4_74 x0 x1 = some r) : BlkI l yJ6_numberOfTrailingZeros_0f7a4 wsJ6_numberOfTrailingZeros_0f7a4 ({ frames := 0, cells := 0, slots := 0, locals := 0 }) cJ6_numberOfTrailingZeros_0f7a4 2 (some .int) (dC, dI) (tysA cB cI cJ cZ cS) as 74 [] [(0, .int x0), (1, .int x1)] [] (fun x _ => x = r) := by
  intro p e s0 m below meth c A E H locs ls hP hD hS hl
  obtain ⟨C, hr, hlocks, hA, hK, hN⟩ := id E
  obtain ⟨hx, hb, hml, hown, hts⟩ := id C
  unfold kJ6_numberOfTrailingZeros_0f7a4_74 at hB
  refine lv_iload_n hx hb dJ6_numberOfTrailingZeros_0f7a4_74 rfl (lv_at hl 1 rfl) ?_
  refine lv_iload_n hx hb dJ6_numberOfTrailingZeros_0f7a4_75 rfl (lv_at hl 0 rfl) ?_
  refine lv_iconst (v := 1) hx hb dJ6_numberOfTrailingZeros_0f7a4_76 (by decide) ?_
  refine lv_iushr (v := (ushr x0 1)) hx hb dJ6_numberOfTrailingZeros_0f7a4_77 rfl ?_
  refine lv_iadd hx hb dJ6_numberOfTrailingZeros_0f7a4_78 ?_
  exact q_iret C hr hlocks hK hP hD hS (Nat.le_of_ble_eq_true rfl) (Nat.le_of_ble_eq_true rfl) dJ6_numberOfTrailingZeros_0f7a4_79 (by cases hB; rfl)
set_option maxHeartbeats 4000000 in
set_option maxRecDepth 100000 in
theorem bkJ6_numberOfTrailingZeros_0f7a4_62 {l : Launch} {dC : Nat → ClassId} {dI : Nat → Nat → Nat} {cB cI cJ cZ cS : ClassId} {as : List Value} {r : Int32} (x0 : Int32) (x1 : Int32) (hB : kJ6_numberOfTrailingZeros_0f7a4_62 x0 x1 = some r) : BlkI l yJ6_numberOfTrailingZeros_0f7a4 wsJ6_numberOfTrailingZeros_0f7a4 ({ frames := 0, cells := 0, slots := 0, locals := 0 }) cJ6_numberOfTrailingZeros_0f7a4 2 (some .int) (dC, dI) (tysA cB cI cJ cZ cS) as 62 [] [(0, .int x0), (1, .int x1)] [] (fun x _ => x = r) := by
  intro p e s0 m below meth c A E H locs ls hP hD hS hl
  obtain ⟨C, hr, hlocks, hA, hK, hN⟩ := id E
  obtain ⟨hx, hb, hml, hown, hts⟩ := id C
  unfold kJ6_numberOfTrailingZeros_0f7a4_62 at hB
  refine lv_iload_n hx hb dJ6_numberOfTrailingZeros_0f7a4_62 rfl (lv_at hl 0 rfl) ?_
  refine lv_iconst (v := 4) hx hb dJ6_numberOfTrailingZeros_0f7a4_63 (by decide) ?_
  refine lv_icmp_le (tgt := 74) hx hb dJ6_numberOfTrailingZeros_0f7a4_64 (by decide) (fun c1 => ?_) (fun c1 => ?_)
  · have hB := if_p hB c1
    exact bkJ6_numberOfTrailingZeros_0f7a4_74 _ _ hB p e s0 m below meth c A E H locs ls hP hD hS (lv_sub hl [0, 1] rfl)
  · have hB := if_n hB c1
    refine lv_iinc (v := (x1 + 2)) (lv' := [(1, .int (x1 + 2)), (0, .int x0)]) hx hb dJ6_numberOfTrailingZeros_0f7a4_67 hl (k := 1) rfl (rfl) (by decide) rfl (fun ls hl => ?_)
    refine lv_iload_n hx hb dJ6_numberOfTrailingZeros_0f7a4_70 rfl (lv_at hl 1 rfl) ?_
    refine lv_iconst (v := 2) hx hb dJ6_numberOfTrailingZeros_0f7a4_71 (by decide) ?_
    refine lv_iushr (v := (ushr x0 2)) hx hb dJ6_numberOfTrailingZeros_0f7a4_72 rfl ?_
    refine lv_istore_n (lv' := [(0, .int (ushr x0 2)), (1, .int (x1 + 2))]) hx hb dJ6_numberOfTrailingZeros_0f7a4_73 rfl hl (by decide) rfl (fun ls hl => ?_)
    exact bkJ6_numberOfTrailingZeros_0f7a4_74 _ _ hB p e s0 m below meth c A E H locs ls hP hD hS (lv_sub hl [0, 1] rfl)
set_option maxHeartbeats 4000000 in
set_option maxRecDepth 100000 in
theorem bkJ6_numberOfTrailingZeros_0f7a4_49 {l : Launch} {dC : Nat → ClassId} {dI : Nat → Nat → Nat} {cB cI cJ cZ cS : ClassId} {as : List Value} {r : Int32} (x0 : Int32) (x1 : Int32) (hB : kJ6_numberOfTrailingZeros_0f7a4_49 x0 x1 = some r) : BlkI l yJ6_numberOfTrailingZeros_0f7a4 wsJ6_numberOfTrailingZeros_0f7a4 ({ frames := 0, cells := 0, slots := 0, locals := 0 }) cJ6_numberOfTrailingZeros_0f7a4 2 (some .int) (dC, dI) (tysA cB cI cJ cZ cS) as 49 [] [(0, .int x0), (1, .int x1)] [] (fun x _ => x = r) := by
  intro p e s0 m below meth c A E H locs ls hP hD hS hl
  obtain ⟨C, hr, hlocks, hA, hK, hN⟩ := id E
  obtain ⟨hx, hb, hml, hown, hts⟩ := id C
  unfold kJ6_numberOfTrailingZeros_0f7a4_49 at hB
  refine lv_iload_n hx hb dJ6_numberOfTrailingZeros_0f7a4_49 rfl (lv_at hl 0 rfl) ?_
  refine lv_bipush (v := 16) hx hb dJ6_numberOfTrailingZeros_0f7a4_50 (by decide) ?_
  refine lv_icmp_le (tgt := 62) hx hb dJ6_numberOfTrailingZeros_0f7a4_52 (by decide) (fun c1 => ?_) (fun c1 => ?_)
  · have hB := if_p hB c1
    exact bkJ6_numberOfTrailingZeros_0f7a4_62 _ _ hB p e s0 m below meth c A E H locs ls hP hD hS (lv_sub hl [0, 1] rfl)
  · have hB := if_n hB c1
    refine lv_iinc (v := (x1 + 4)) (lv' := [(1, .int (x1 + 4)), (0, .int x0)]) hx hb dJ6_numberOfTrailingZeros_0f7a4_55 hl (k := 1) rfl (rfl) (by decide) rfl (fun ls hl => ?_)
    refine lv_iload_n hx hb dJ6_numberOfTrailingZeros_0f7a4_58 rfl (lv_at hl 1 rfl) ?_
    refine lv_iconst (v := 4) hx hb dJ6_numberOfTrailingZeros_0f7a4_59 (by decide) ?_
    refine lv_iushr (v := (ushr x0 4)) hx hb dJ6_numberOfTrailingZeros_0f7a4_60 rfl ?_
    refine lv_istore_n (lv' := [(0, .int (ushr x0 4)), (1, .int (x1 + 4))]) hx hb dJ6_numberOfTrailingZeros_0f7a4_61 rfl hl (by decide) rfl (fun ls hl => ?_)
    exact bkJ6_numberOfTrailingZeros_0f7a4_62 _ _ hB p e s0 m below meth c A E H locs ls hP hD hS (lv_sub hl [0, 1] rfl)
set_option maxHeartbeats 4000000 in
set_option maxRecDepth 100000 in
theorem bkJ6_numberOfTrailingZeros_0f7a4_34 {l : Launch} {dC : Nat → ClassId} {dI : Nat → Nat → Nat} {cB cI cJ cZ cS : ClassId} {as : List Value} {r : Int32} (x0 : Int32) (x1 : Int32) (hB : kJ6_numberOfTrailingZeros_0f7a4_34 x0 x1 = some r) : BlkI l yJ6_numberOfTrailingZeros_0f7a4 wsJ6_numberOfTrailingZeros_0f7a4 ({ frames := 0, cells := 0, slots := 0, locals := 0 }) cJ6_numberOfTrailingZeros_0f7a4 2 (some .int) (dC, dI) (tysA cB cI cJ cZ cS) as 34 [] [(0, .int x0), (1, .int x1)] [] (fun x _ => x = r) := by
  intro p e s0 m below meth c A E H locs ls hP hD hS hl
  obtain ⟨C, hr, hlocks, hA, hK, hN⟩ := id E
  obtain ⟨hx, hb, hml, hown, hts⟩ := id C
  unfold kJ6_numberOfTrailingZeros_0f7a4_34 at hB
  refine lv_iload_n hx hb dJ6_numberOfTrailingZeros_0f7a4_34 rfl (lv_at hl 0 rfl) ?_
  refine lv_sipush (v := 256) hx hb dJ6_numberOfTrailingZeros_0f7a4_35 (by decide) ?_
  refine lv_icmp_le (tgt := 49) hx hb dJ6_numberOfTrailingZeros_0f7a4_38 (by decide) (fun c1 => ?_) (fun c1 => ?_)
  · have hB := if_p hB c1
    exact bkJ6_numberOfTrailingZeros_0f7a4_49 _ _ hB p e s0 m below meth c A E H locs ls hP hD hS (lv_sub hl [0, 1] rfl)
  · have hB := if_n hB c1
    refine lv_iinc (v := (x1 + 8)) (lv' := [(1, .int (x1 + 8)), (0, .int x0)]) hx hb dJ6_numberOfTrailingZeros_0f7a4_41 hl (k := 1) rfl (rfl) (by decide) rfl (fun ls hl => ?_)
    refine lv_iload_n hx hb dJ6_numberOfTrailingZeros_0f7a4_44 rfl (lv_at hl 1 rfl) ?_
    refine lv_bipush (v := 8) hx hb dJ6_numberOfTrailingZeros_0f7a4_45 (by decide) ?_
    refine lv_iushr (v := (ushr x0 8)) hx hb dJ6_numberOfTrailingZeros_0f7a4_47 rfl ?_
    refine lv_istore_n (lv' := [(0, .int (ushr x0 8)), (1, .int (x1 + 8))]) hx hb dJ6_numberOfTrailingZeros_0f7a4_48 rfl hl (by decide) rfl (fun ls hl => ?_)
    exact bkJ6_numberOfTrailingZeros_0f7a4_49 _ _ hB p e s0 m below meth c A E H locs ls hP hD hS (lv_sub hl [0, 1] rfl)
set_option maxHeartbeats 4000000 in
set_option maxRecDepth 100000 in
theorem bkJ6_numberOfTrailingZeros_0f7a4 {l : Launch} {dC : Nat → ClassId} {dI : Nat → Nat → Nat} {cB cI cJ cZ cS : ClassId} {as : List Value} {r : Int32} (x0 : Int32) (hB : kJ6_numberOfTrailingZeros_0f7a4 x0 = some r) : BlkI l yJ6_numberOfTrailingZeros_0f7a4 wsJ6_numberOfTrailingZeros_0f7a4 ({ frames := 0, cells := 0, slots := 0, locals := 0 }) cJ6_numberOfTrailingZeros_0f7a4 2 (some .int) (dC, dI) (tysA cB cI cJ cZ cS) as 0 [] [(0, .int x0)] [] (fun x _ => x = r) := by
  intro p e s0 m below meth c A E H locs ls hP hD hS hl
  obtain ⟨C, hr, hlocks, hA, hK, hN⟩ := id E
  obtain ⟨hx, hb, hml, hown, hts⟩ := id C
  unfold kJ6_numberOfTrailingZeros_0f7a4 at hB
  refine lv_iload_n hx hb dJ6_numberOfTrailingZeros_0f7a4_0 rfl (lv_at hl 0 rfl) ?_
  refine lv_iconst (v := (-1)) hx hb dJ6_numberOfTrailingZeros_0f7a4_1 (by decide) ?_
  refine lv_ixor hx hb dJ6_numberOfTrailingZeros_0f7a4_2 ?_
  refine lv_iload_n hx hb dJ6_numberOfTrailingZeros_0f7a4_3 rfl (lv_at hl 0 rfl) ?_
  refine lv_iconst (v := 1) hx hb dJ6_numberOfTrailingZeros_0f7a4_4 (by decide) ?_
  refine lv_isub hx hb dJ6_numberOfTrailingZeros_0f7a4_5 ?_
  refine lv_iand hx hb dJ6_numberOfTrailingZeros_0f7a4_6 ?_
  refine lv_istore_n (lv' := [(0, .int ((x0 ^^^ (-1)) &&& (x0 - 1)))]) hx hb dJ6_numberOfTrailingZeros_0f7a4_7 rfl hl (by decide) rfl (fun ls hl => ?_)
  refine lv_iload_n hx hb dJ6_numberOfTrailingZeros_0f7a4_8 rfl (lv_at hl 0 rfl) ?_
  refine lv_if_gt (tgt := 17) hx hb dJ6_numberOfTrailingZeros_0f7a4_9 (by decide) (fun c1 => ?_) (fun c1 => ?_)
  · have hB := if_p hB c1
    refine lv_iconst (v := 1) hx hb dJ6_numberOfTrailingZeros_0f7a4_17 (by decide) ?_
    refine lv_istore_n (lv' := [(1, .int 1), (0, .int ((x0 ^^^ (-1)) &&& (x0 - 1)))]) hx hb dJ6_numberOfTrailingZeros_0f7a4_18 rfl hl (by decide) rfl (fun ls hl => ?_)
    refine lv_iload_n hx hb dJ6_numberOfTrailingZeros_0f7a4_19 rfl (lv_at hl 1 rfl) ?_
    refine lv_ldcw (v := 65536) hx hb hown (hts _ LJ6_numberOfTrailingZeros_0f7a4_K264) dJ6_numberOfTrailingZeros_0f7a4_20 ?_
    refine lv_icmp_le (tgt := 34) hx hb dJ6_numberOfTrailingZeros_0f7a4_23 (by decide) (fun c2 => ?_) (fun c2 => ?_)
    · have hB := if_p hB c2
      exact bkJ6_numberOfTrailingZeros_0f7a4_34 _ _ hB p e s0 m below meth c A E H locs ls hP hD hS (lv_sub hl [1, 0] rfl)
    · have hB := if_n hB c2
      refine lv_iinc (v := 17) (lv' := [(1, .int 17), (0, .int ((x0 ^^^ (-1)) &&& (x0 - 1)))]) hx hb dJ6_numberOfTrailingZeros_0f7a4_26 hl (k := 0) rfl (by decide +kernel) (by decide) rfl (fun ls hl => ?_)
      refine lv_iload_n hx hb dJ6_numberOfTrailingZeros_0f7a4_29 rfl (lv_at hl 1 rfl) ?_
      refine lv_bipush (v := 16) hx hb dJ6_numberOfTrailingZeros_0f7a4_30 (by decide) ?_
      refine lv_iushr (v := (ushr ((x0 ^^^ (-1)) &&& (x0 - 1)) 16)) hx hb dJ6_numberOfTrailingZeros_0f7a4_32 rfl ?_
      refine lv_istore_n (lv' := [(0, .int (ushr ((x0 ^^^ (-1)) &&& (x0 - 1)) 16)), (1, .int 17)]) hx hb dJ6_numberOfTrailingZeros_0f7a4_33 rfl hl (by decide) rfl (fun ls hl => ?_)
      exact bkJ6_numberOfTrailingZeros_0f7a4_34 _ _ hB p e s0 m below meth c A E H locs ls hP hD hS (lv_sub hl [0, 1] rfl)
  · have hB := if_n hB c1
    refine lv_iload_n hx hb dJ6_numberOfTrailingZeros_0f7a4_12 rfl (lv_at hl 0 rfl) ?_
    refine lv_bipush (v := 32) hx hb dJ6_numberOfTrailingZeros_0f7a4_13 (by decide) ?_
    refine lv_iand hx hb dJ6_numberOfTrailingZeros_0f7a4_15 ?_
    exact q_iret C hr hlocks hK hP hD hS (Nat.le_of_ble_eq_true rfl) (Nat.le_of_ble_eq_true rfl) dJ6_numberOfTrailingZeros_0f7a4_16 (by cases hB; rfl)
theorem ckJ6_numberOfTrailingZeros_0f7a4 {l : Launch} {dC : Nat → ClassId} {dI : Nat → Nat → Nat} {cB cI cJ cZ cS : ClassId} {r : Int32} {x0 : Int32} (hB : kJ6_numberOfTrailingZeros_0f7a4 x0 = some r) : CI l yJ6_numberOfTrailingZeros_0f7a4 wsJ6_numberOfTrailingZeros_0f7a4 ({ frames := 0, cells := 0, slots := 0, locals := 0 }) (dC, dI) (tysA cB cI cJ cZ cS) [] [.int x0] (fun x _ => x = r) :=
  CI_of (cc := cJ6_numberOfTrailingZeros_0f7a4) (maxL := 2) (ret := (some .int)) (by decide) rfl (Nat.le_of_ble_eq_true rfl) (bkJ6_numberOfTrailingZeros_0f7a4 _ hB)
theorem LJ6_bitCount_0f7a4_K265 : Cond.constant RJ6 265 1431655765 ∈ wsJ6_bitCount_0f7a4 := (List.mem_cons_of_mem _ (List.mem_of_getElem? (i := 0) rfl))
theorem LJ6_bitCount_0f7a4_K266 : Cond.constant RJ6 266 858993459 ∈ wsJ6_bitCount_0f7a4 := (List.mem_cons_of_mem _ (List.mem_of_getElem? (i := 1) rfl))
theorem LJ6_bitCount_0f7a4_K267 : Cond.constant RJ6 267 252645135 ∈ wsJ6_bitCount_0f7a4 := (List.mem_cons_of_mem _ (List.mem_of_getElem? (i := 2) rfl))
set_option maxHeartbeats 4000000 in
set_option maxRecDepth 100000 in
theorem bkJ6_bitCount_0f7a4 {l : Launch} {dC : Nat → ClassId} {dI : Nat → Nat → Nat} {cB cI cJ cZ cS : ClassId} {as : List Value} {r : Int32} (x0 : Int32) (hB : kJ6_bitCount_0f7a4 x0 = some r) : BlkI l yJ6_bitCount_0f7a4 wsJ6_bitCount_0f7a4 ({ frames := 0, cells := 0, slots := 0, locals := 0 }) cJ6_bitCount_0f7a4 1 (some .int) (dC, dI) (tysA cB cI cJ cZ cS) as 0 [] [(0, .int x0)] [] (fun x _ => x = r) := by
  intro p e s0 m below meth c A E H locs ls hP hD hS hl
  obtain ⟨C, hr, hlocks, hA, hK, hN⟩ := id E
  obtain ⟨hx, hb, hml, hown, hts⟩ := id C
  unfold kJ6_bitCount_0f7a4 at hB
  refine lv_iload_n hx hb dJ6_bitCount_0f7a4_0 rfl (lv_at hl 0 rfl) ?_
  refine lv_iload_n hx hb dJ6_bitCount_0f7a4_1 rfl (lv_at hl 0 rfl) ?_
  refine lv_iconst (v := 1) hx hb dJ6_bitCount_0f7a4_2 (by decide) ?_
  refine lv_iushr (v := (ushr x0 1)) hx hb dJ6_bitCount_0f7a4_3 rfl ?_
  refine lv_ldcw (v := 1431655765) hx hb hown (hts _ LJ6_bitCount_0f7a4_K265) dJ6_bitCount_0f7a4_4 ?_
  refine lv_iand hx hb dJ6_bitCount_0f7a4_7 ?_
  refine lv_isub hx hb dJ6_bitCount_0f7a4_8 ?_
  refine lv_istore_n (lv' := [(0, .int (x0 - ((ushr x0 1) &&& 1431655765)))]) hx hb dJ6_bitCount_0f7a4_9 rfl hl (by decide) rfl (fun ls hl => ?_)
  refine lv_iload_n hx hb dJ6_bitCount_0f7a4_10 rfl (lv_at hl 0 rfl) ?_
  refine lv_ldcw (v := 858993459) hx hb hown (hts _ LJ6_bitCount_0f7a4_K266) dJ6_bitCount_0f7a4_11 ?_
  refine lv_iand hx hb dJ6_bitCount_0f7a4_14 ?_
  refine lv_iload_n hx hb dJ6_bitCount_0f7a4_15 rfl (lv_at hl 0 rfl) ?_
  refine lv_iconst (v := 2) hx hb dJ6_bitCount_0f7a4_16 (by decide) ?_
  refine lv_iushr (v := (ushr (x0 - ((ushr x0 1) &&& 1431655765)) 2)) hx hb dJ6_bitCount_0f7a4_17 rfl ?_
  refine lv_ldcw (v := 858993459) hx hb hown (hts _ LJ6_bitCount_0f7a4_K266) dJ6_bitCount_0f7a4_18 ?_
  refine lv_iand hx hb dJ6_bitCount_0f7a4_21 ?_
  refine lv_iadd hx hb dJ6_bitCount_0f7a4_22 ?_
  refine lv_istore_n (lv' := [(0, .int (((x0 - ((ushr x0 1) &&& 1431655765)) &&& 858993459) + ((ushr (x0 - ((ushr x0 1) &&& 1431655765)) 2) &&& 858993459)))]) hx hb dJ6_bitCount_0f7a4_23 rfl hl (by decide) rfl (fun ls hl => ?_)
  refine lv_iload_n hx hb dJ6_bitCount_0f7a4_24 rfl (lv_at hl 0 rfl) ?_
  refine lv_iload_n hx hb dJ6_bitCount_0f7a4_25 rfl (lv_at hl 0 rfl) ?_
  refine lv_iconst (v := 4) hx hb dJ6_bitCount_0f7a4_26 (by decide) ?_
  refine lv_iushr (v := (ushr (((x0 - ((ushr x0 1) &&& 1431655765)) &&& 858993459) + ((ushr (x0 - ((ushr x0 1) &&& 1431655765)) 2) &&& 858993459)) 4)) hx hb dJ6_bitCount_0f7a4_27 rfl ?_
  refine lv_iadd hx hb dJ6_bitCount_0f7a4_28 ?_
  refine lv_ldcw (v := 252645135) hx hb hown (hts _ LJ6_bitCount_0f7a4_K267) dJ6_bitCount_0f7a4_29 ?_
  refine lv_iand hx hb dJ6_bitCount_0f7a4_32 ?_
  refine lv_istore_n (lv' := [(0, .int (((((x0 - ((ushr x0 1) &&& 1431655765)) &&& 858993459) + ((ushr (x0 - ((ushr x0 1) &&& 1431655765)) 2) &&& 858993459)) + (ushr (((x0 - ((ushr x0 1) &&& 1431655765)) &&& 858993459) + ((ushr (x0 - ((ushr x0 1) &&& 1431655765)) 2) &&& 858993459)) 4)) &&& 252645135))]) hx hb dJ6_bitCount_0f7a4_33 rfl hl (by decide) rfl (fun ls hl => ?_)
  refine lv_iload_n hx hb dJ6_bitCount_0f7a4_34 rfl (lv_at hl 0 rfl) ?_
  refine lv_iload_n hx hb dJ6_bitCount_0f7a4_35 rfl (lv_at hl 0 rfl) ?_
  refine lv_bipush (v := 8) hx hb dJ6_bitCount_0f7a4_36 (by decide) ?_
  refine lv_iushr (v := (ushr (((((x0 - ((ushr x0 1) &&& 1431655765)) &&& 858993459) + ((ushr (x0 - ((ushr x0 1) &&& 1431655765)) 2) &&& 858993459)) + (ushr (((x0 - ((ushr x0 1) &&& 1431655765)) &&& 858993459) + ((ushr (x0 - ((ushr x0 1) &&& 1431655765)) 2) &&& 858993459)) 4)) &&& 252645135) 8)) hx hb dJ6_bitCount_0f7a4_38 rfl ?_
  refine lv_iadd hx hb dJ6_bitCount_0f7a4_39 ?_
  refine lv_istore_n (lv' := [(0, .int ((((((x0 - ((ushr x0 1) &&& 1431655765)) &&& 858993459) + ((ushr (x0 - ((ushr x0 1) &&& 1431655765)) 2) &&& 858993459)) + (ushr (((x0 - ((ushr x0 1) &&& 1431655765)) &&& 858993459) + ((ushr (x0 - ((ushr x0 1) &&& 1431655765)) 2) &&& 858993459)) 4)) &&& 252645135) + (ushr (((((x0 - ((ushr x0 1) &&& 1431655765)) &&& 858993459) + ((ushr (x0 - ((ushr x0 1) &&& 1431655765)) 2) &&& 858993459)) + (ushr (((x0 - ((ushr x0 1) &&& 1431655765)) &&& 858993459) + ((ushr (x0 - ((ushr x0 1) &&& 1431655765)) 2) &&& 858993459)) 4)) &&& 252645135) 8)))]) hx hb dJ6_bitCount_0f7a4_40 rfl hl (by decide) rfl (fun ls hl => ?_)
  refine lv_iload_n hx hb dJ6_bitCount_0f7a4_41 rfl (lv_at hl 0 rfl) ?_
  refine lv_iload_n hx hb dJ6_bitCount_0f7a4_42 rfl (lv_at hl 0 rfl) ?_
  refine lv_bipush (v := 16) hx hb dJ6_bitCount_0f7a4_43 (by decide) ?_
  refine lv_iushr (v := (ushr ((((((x0 - ((ushr x0 1) &&& 1431655765)) &&& 858993459) + ((ushr (x0 - ((ushr x0 1) &&& 1431655765)) 2) &&& 858993459)) + (ushr (((x0 - ((ushr x0 1) &&& 1431655765)) &&& 858993459) + ((ushr (x0 - ((ushr x0 1) &&& 1431655765)) 2) &&& 858993459)) 4)) &&& 252645135) + (ushr (((((x0 - ((ushr x0 1) &&& 1431655765)) &&& 858993459) + ((ushr (x0 - ((ushr x0 1) &&& 1431655765)) 2) &&& 858993459)) + (ushr (((x0 - ((ushr x0 1) &&& 1431655765)) &&& 858993459) + ((ushr (x0 - ((ushr x0 1) &&& 1431655765)) 2) &&& 858993459)) 4)) &&& 252645135) 8)) 16)) hx hb dJ6_bitCount_0f7a4_45 rfl ?_
  refine lv_iadd hx hb dJ6_bitCount_0f7a4_46 ?_
  refine lv_istore_n (lv' := [(0, .int (((((((x0 - ((ushr x0 1) &&& 1431655765)) &&& 858993459) + ((ushr (x0 - ((ushr x0 1) &&& 1431655765)) 2) &&& 858993459)) + (ushr (((x0 - ((ushr x0 1) &&& 1431655765)) &&& 858993459) + ((ushr (x0 - ((ushr x0 1) &&& 1431655765)) 2) &&& 858993459)) 4)) &&& 252645135) + (ushr (((((x0 - ((ushr x0 1) &&& 1431655765)) &&& 858993459) + ((ushr (x0 - ((ushr x0 1) &&& 1431655765)) 2) &&& 858993459)) + (ushr (((x0 - ((ushr x0 1) &&& 1431655765)) &&& 858993459) + ((ushr (x0 - ((ushr x0 1) &&& 1431655765)) 2) &&& 858993459)) 4)) &&& 252645135) 8)) + (ushr ((((((x0 - ((ushr x0 1) &&& 1431655765)) &&& 858993459) + ((ushr (x0 - ((ushr x0 1) &&& 1431655765)) 2) &&& 858993459)) + (ushr (((x0 - ((ushr x0 1) &&& 1431655765)) &&& 858993459) + ((ushr (x0 - ((ushr x0 1) &&& 1431655765)) 2) &&& 858993459)) 4)) &&& 252645135) + (ushr (((((x0 - ((ushr x0 1) &&& 1431655765)) &&& 858993459) + ((ushr (x0 - ((ushr x0 1) &&& 1431655765)) 2) &&& 858993459)) + (ushr (((x0 - ((ushr x0 1) &&& 1431655765)) &&& 858993459) + ((ushr (x0 - ((ushr x0 1) &&& 1431655765)) 2) &&& 858993459)) 4)) &&& 252645135) 8)) 16)))]) hx hb dJ6_bitCount_0f7a4_47 rfl hl (by decide) rfl (fun ls hl => ?_)
  refine lv_iload_n hx hb dJ6_bitCount_0f7a4_48 rfl (lv_at hl 0 rfl) ?_
  refine lv_bipush (v := 63) hx hb dJ6_bitCount_0f7a4_49 (by decide) ?_
  refine lv_iand hx hb dJ6_bitCount_0f7a4_51 ?_
  exact q_iret C hr hlocks hK hP hD hS (Nat.le_of_ble_eq_true rfl) (Nat.le_of_ble_eq_true rfl) dJ6_bitCount_0f7a4_52 (by cases hB; rfl)
theorem ckJ6_bitCount_0f7a4 {l : Launch} {dC : Nat → ClassId} {dI : Nat → Nat → Nat} {cB cI cJ cZ cS : ClassId} {r : Int32} {x0 : Int32} (hB : kJ6_bitCount_0f7a4 x0 = some r) : CI l yJ6_bitCount_0f7a4 wsJ6_bitCount_0f7a4 ({ frames := 0, cells := 0, slots := 0, locals := 0 }) (dC, dI) (tysA cB cI cJ cZ cS) [] [.int x0] (fun x _ => x = r) :=
  CI_of (cc := cJ6_bitCount_0f7a4) (maxL := 1) (ret := (some .int)) (by decide) rfl (Nat.le_of_ble_eq_true rfl) (bkJ6_bitCount_0f7a4 _ hB)
set_option maxHeartbeats 4000000 in
set_option maxRecDepth 100000 in
theorem bkJ7_fill_53178_4_5 {l : Launch} {dC : Nat → ClassId} {dI : Nat → Nat → Nat} {cB cI cJ cZ cS : ClassId} {q0 : Nat} {as : List Value} {s' : (Nat → Int32)} {k5 : (Nat → Int32) → Int32 → Int32 → Int32 → Option (Nat → Int32)} (hk5 : ∀ (s : (Nat → Int32)) (x1 : Int32) (x2 : Int32) (x3 : Int32), k5 s x1 x2 x3 = some s' → BlkV l yJ7_fill_53178 wsJ7_fill_53178 ({ frames := 0, cells := 0, slots := 0, locals := 0 }) cJ7_fill_53178 4 none (dC, dI) (tysA cB cI cJ cZ cS) as 5 [(q0, .inl (cI, 4, .inl s))] [(0, .ref q0), (1, .int x1), (2, .int x2), (3, .int x3)] [] (fun u => u = [(q0, .inl (cI, 4, .inl s'))])) (s : (Nat → Int32)) (x1 : Int32) (x2 : Int32) (x3 : Int32) (hB : kJ7_fill_53178_4_5 k5 s x1 x2 x3 = some s') : BlkV l yJ7_fill_53178 wsJ7_fill_53178 ({ frames := 0, cells := 0, slots := 0, locals := 0 }) cJ7_fill_53178 4 none (dC, dI) (tysA cB cI cJ cZ cS) as 5 [(q0, .inl (cI, 4, .inl s))] [(0, .ref q0), (1, .int x1), (2, .int x2), (3, .int x3)] [] (fun u => u = [(q0, .inl (cI, 4, .inl s'))]) := by
  intro p e s0 m below meth c A E H locs ls hP hD hS hl
  obtain ⟨C, hr, hlocks, hA, hK, hN⟩ := id E
  obtain ⟨hx, hb, hml, hown, hts⟩ := id C
  unfold kJ7_fill_53178_4_5 at hB
  refine lv_iload_n hx hb dJ7_fill_53178_5 rfl (lv_at hl 2 rfl) ?_
  refine lv_iload_n hx hb dJ7_fill_53178_6 rfl (lv_at hl 3 rfl) ?_
  refine lv_icmp_ge (tgt := 20) hx hb dJ7_fill_53178_7 (by decide) (fun c1 => ?_) (fun c1 => ?_)
  · have hB := if_p hB c1
    exact q_vret C hr hlocks hK hP hD hS (Nat.le_of_ble_eq_true rfl) (Nat.le_of_ble_eq_true rfl) dJ7_fill_53178_20 (by cases hB; rfl)
  · have hB := if_n hB c1
    refine lv_aload_n hx hb dJ7_fill_53178_10 rfl (lv_at hl 0 rfl) ?_
    refine lv_iload_n hx hb dJ7_fill_53178_11 rfl (lv_at hl 2 rfl) ?_
    refine lv_iload_n hx hb dJ7_fill_53178_12 rfl (lv_at hl 1 rfl) ?_
    obtain ⟨g2, hB⟩ := guard_inv hB
    obtain ⟨s3, hs4, hB⟩ := letS_inv hB
    refine q_iast (f2 := (upd s (Int32.toNatClampNeg x2) x1)) (w2 := [(q0, .inl (cI, 4, .inl s3))]) C hK hP hD hS 0 1 rfl rfl (vpb_in g2) dJ7_fill_53178_13 rfl (by subst hs4; rfl) (fun H locs hP hD hS => ?_)
    refine lv_iinc (v := (x2 + 1)) (lv' := [(2, .int (x2 + 1)), (0, .ref q0), (1, .int x1), (3, .int x3)]) hx hb dJ7_fill_53178_14 hl (k := 2) rfl (rfl) (by decide) rfl (fun ls hl => ?_)
    refine lv_goto (tgt := 5) hx hb dJ7_fill_53178_17 (by decide) ?_
    exact hk5 _ _ _ _ hB p e s0 m below meth c A E H locs ls hP hD hS (lv_sub hl [1, 2, 0, 3] rfl)
theorem bkJ7_fill_53178_4_5L {l : Launch} {dC : Nat → ClassId} {dI : Nat → Nat → Nat} {cB cI cJ cZ cS : ClassId} {q0 : Nat} {as : List Value} {s' : (Nat → Int32)} : ∀ (n : Nat) (s : (Nat → Int32)) (x1 : Int32) (x2 : Int32) (x3 : Int32), kJ7_fill_53178_4_5L n s x1 x2 x3 = some s' → BlkV l yJ7_fill_53178 wsJ7_fill_53178 ({ frames := 0, cells := 0, slots := 0, locals := 0 }) cJ7_fill_53178 4 none (dC, dI) (tysA cB cI cJ cZ cS) as 5 [(q0, .inl (cI, 4, .inl s))] [(0, .ref q0), (1, .int x1), (2, .int x2), (3, .int x3)] [] (fun u => u = [(q0, .inl (cI, 4, .inl s'))]) := by
  intro n
  induction n with
  | zero => intro s x1 x2 x3 hB; exact none_ne hB
  | succ n ih => intro s x1 x2 x3 hB; exact bkJ7_fill_53178_4_5 ih _ _ _ _ hB
set_option maxHeartbeats 4000000 in
set_option maxRecDepth 100000 in
theorem bkJ7_fill_53178_4 {l : Launch} {dC : Nat → ClassId} {dI : Nat → Nat → Nat} {cB cI cJ cZ cS : ClassId} {q0 : Nat} {as : List Value} {s' : (Nat → Int32)} (s : (Nat → Int32)) (x1 : Int32) (hB : kJ7_fill_53178_4 s x1 = some s') : BlkV l yJ7_fill_53178 wsJ7_fill_53178 ({ frames := 0, cells := 0, slots := 0, locals := 0 }) cJ7_fill_53178 4 none (dC, dI) (tysA cB cI cJ cZ cS) as 0 [(q0, .inl (cI, 4, .inl s))] [(0, .ref q0), (1, .int x1)] [] (fun u => u = [(q0, .inl (cI, 4, .inl s'))]) := by
  intro p e s0 m below meth c A E H locs ls hP hD hS hl
  obtain ⟨C, hr, hlocks, hA, hK, hN⟩ := id E
  obtain ⟨hx, hb, hml, hown, hts⟩ := id C
  unfold kJ7_fill_53178_4 at hB
  refine lv_iconst (v := 0) hx hb dJ7_fill_53178_0 (by decide) ?_
  refine lv_istore_n (lv' := [(2, .int 0), (0, .ref q0), (1, .int x1)]) hx hb dJ7_fill_53178_1 rfl hl (by decide) rfl (fun ls hl => ?_)
  refine lv_aload_n hx hb dJ7_fill_53178_2 rfl (lv_at hl 1 rfl) ?_
  refine q_alen (v := 4) C hK hP 0 1 rfl rfl dJ7_fill_53178_3 rfl ?_
  refine lv_istore_n (lv' := [(3, .int 4), (2, .int 0), (0, .ref q0), (1, .int x1)]) hx hb dJ7_fill_53178_4 rfl hl (by decide) rfl (fun ls hl => ?_)
  exact bkJ7_fill_53178_4_5L fu _ _ _ _ hB p e s0 m below meth c A E H locs ls hP hD hS (lv_sub hl [2, 3, 1, 0] rfl)
theorem ckJ7_fill_53178_4 {l : Launch} {dC : Nat → ClassId} {dI : Nat → Nat → Nat} {cB cI cJ cZ cS : ClassId} {q0 : Nat} {s' : (Nat → Int32)} {s : (Nat → Int32)} {x1 : Int32} (hB : kJ7_fill_53178_4 s x1 = some s') : CV l yJ7_fill_53178 wsJ7_fill_53178 ({ frames := 0, cells := 0, slots := 0, locals := 0 }) (dC, dI) (tysA cB cI cJ cZ cS) [(q0, .inl (cI, 4, .inl s))] [.ref q0, .int x1] (fun u => u = [(q0, .inl (cI, 4, .inl s'))]) :=
  CV_of (cc := cJ7_fill_53178) (maxL := 4) (ret := none) (by decide) rfl (Nat.le_of_ble_eq_true rfl) (bkJ7_fill_53178_4 _ _ hB)
set_option maxHeartbeats 4000000 in
set_option maxRecDepth 100000 in
theorem bkJ7_fill_53178_5_5 {l : Launch} {dC : Nat → ClassId} {dI : Nat → Nat → Nat} {cB cI cJ cZ cS : ClassId} {q0 : Nat} {as : List Value} {s' : (Nat → Int32)} {k5 : (Nat → Int32) → Int32 → Int32 → Int32 → Option (Nat → Int32)} (hk5 : ∀ (s : (Nat → Int32)) (x1 : Int32) (x2 : Int32) (x3 : Int32), k5 s x1 x2 x3 = some s' → BlkV l yJ7_fill_53178 wsJ7_fill_53178 ({ frames := 0, cells := 0, slots := 0, locals := 0 }) cJ7_fill_53178 4 none (dC, dI) (tysA cB cI cJ cZ cS) as 5 [(q0, .inl (cI, 5, .inl s))] [(0, .ref q0), (1, .int x1), (2, .int x2), (3, .int x3)] [] (fun u => u = [(q0, .inl (cI, 5, .inl s'))])) (s : (Nat → Int32)) (x1 : Int32) (x2 : Int32) (x3 : Int32) (hB : kJ7_fill_53178_5_5 k5 s x1 x2 x3 = some s') : BlkV l yJ7_fill_53178 wsJ7_fill_53178 ({ frames := 0, cells := 0, slots := 0, locals := 0 }) cJ7_fill_53178 4 none (dC, dI) (tysA cB cI cJ cZ cS) as 5 [(q0, .inl (cI, 5, .inl s))] [(0, .ref q0), (1, .int x1), (2, .int x2), (3, .int x3)] [] (fun u => u = [(q0, .inl (cI, 5, .inl s'))]) := by
  intro p e s0 m below meth c A E H locs ls hP hD hS hl
  obtain ⟨C, hr, hlocks, hA, hK, hN⟩ := id E
  obtain ⟨hx, hb, hml, hown, hts⟩ := id C
  unfold kJ7_fill_53178_5_5 at hB
  refine lv_iload_n hx hb dJ7_fill_53178_5 rfl (lv_at hl 2 rfl) ?_
  refine lv_iload_n hx hb dJ7_fill_53178_6 rfl (lv_at hl 3 rfl) ?_
  refine lv_icmp_ge (tgt := 20) hx hb dJ7_fill_53178_7 (by decide) (fun c1 => ?_) (fun c1 => ?_)
  · have hB := if_p hB c1
    exact q_vret C hr hlocks hK hP hD hS (Nat.le_of_ble_eq_true rfl) (Nat.le_of_ble_eq_true rfl) dJ7_fill_53178_20 (by cases hB; rfl)
  · have hB := if_n hB c1
    refine lv_aload_n hx hb dJ7_fill_53178_10 rfl (lv_at hl 0 rfl) ?_
    refine lv_iload_n hx hb dJ7_fill_53178_11 rfl (lv_at hl 2 rfl) ?_
    refine lv_iload_n hx hb dJ7_fill_53178_12 rfl (lv_at hl 1 rfl) ?_
    obtain ⟨g2, hB⟩ := guard_inv hB
    obtain ⟨s3, hs4, hB⟩ := letS_inv hB
    refine q_iast (f2 := (upd s (Int32.toNatClampNeg x2) x1)) (w2 := [(q0, .inl (cI, 5, .inl s3))]) C hK hP hD hS 0 1 rfl rfl (vpb_in g2) dJ7_fill_53178_13 rfl (by subst hs4; rfl) (fun H locs hP hD hS => ?_)
    refine lv_iinc (v := (x2 + 1)) (lv' := [(2, .int (x2 + 1)), (0, .ref q0), (1, .int x1), (3, .int x3)]) hx hb dJ7_fill_53178_14 hl (k := 2) rfl (rfl) (by decide) rfl (fun ls hl => ?_)
    refine lv_goto (tgt := 5) hx hb dJ7_fill_53178_17 (by decide) ?_
    exact hk5 _ _ _ _ hB p e s0 m below meth c A E H locs ls hP hD hS (lv_sub hl [1, 2, 0, 3] rfl)
theorem bkJ7_fill_53178_5_5L {l : Launch} {dC : Nat → ClassId} {dI : Nat → Nat → Nat} {cB cI cJ cZ cS : ClassId} {q0 : Nat} {as : List Value} {s' : (Nat → Int32)} : ∀ (n : Nat) (s : (Nat → Int32)) (x1 : Int32) (x2 : Int32) (x3 : Int32), kJ7_fill_53178_5_5L n s x1 x2 x3 = some s' → BlkV l yJ7_fill_53178 wsJ7_fill_53178 ({ frames := 0, cells := 0, slots := 0, locals := 0 }) cJ7_fill_53178 4 none (dC, dI) (tysA cB cI cJ cZ cS) as 5 [(q0, .inl (cI, 5, .inl s))] [(0, .ref q0), (1, .int x1), (2, .int x2), (3, .int x3)] [] (fun u => u = [(q0, .inl (cI, 5, .inl s'))]) := by
  intro n
  induction n with
  | zero => intro s x1 x2 x3 hB; exact none_ne hB
  | succ n ih => intro s x1 x2 x3 hB; exact bkJ7_fill_53178_5_5 ih _ _ _ _ hB
set_option maxHeartbeats 4000000 in
set_option maxRecDepth 100000 in
theorem bkJ7_fill_53178_5 {l : Launch} {dC : Nat → ClassId} {dI : Nat → Nat → Nat} {cB cI cJ cZ cS : ClassId} {q0 : Nat} {as : List Value} {s' : (Nat → Int32)} (s : (Nat → Int32)) (x1 : Int32) (hB : kJ7_fill_53178_5 s x1 = some s') : BlkV l yJ7_fill_53178 wsJ7_fill_53178 ({ frames := 0, cells := 0, slots := 0, locals := 0 }) cJ7_fill_53178 4 none (dC, dI) (tysA cB cI cJ cZ cS) as 0 [(q0, .inl (cI, 5, .inl s))] [(0, .ref q0), (1, .int x1)] [] (fun u => u = [(q0, .inl (cI, 5, .inl s'))]) := by
  intro p e s0 m below meth c A E H locs ls hP hD hS hl
  obtain ⟨C, hr, hlocks, hA, hK, hN⟩ := id E
  obtain ⟨hx, hb, hml, hown, hts⟩ := id C
  unfold kJ7_fill_53178_5 at hB
  refine lv_iconst (v := 0) hx hb dJ7_fill_53178_0 (by decide) ?_
  refine lv_istore_n (lv' := [(2, .int 0), (0, .ref q0), (1, .int x1)]) hx hb dJ7_fill_53178_1 rfl hl (by decide) rfl (fun ls hl => ?_)
  refine lv_aload_n hx hb dJ7_fill_53178_2 rfl (lv_at hl 1 rfl) ?_
  refine q_alen (v := 5) C hK hP 0 1 rfl rfl dJ7_fill_53178_3 rfl ?_
  refine lv_istore_n (lv' := [(3, .int 5), (2, .int 0), (0, .ref q0), (1, .int x1)]) hx hb dJ7_fill_53178_4 rfl hl (by decide) rfl (fun ls hl => ?_)
  exact bkJ7_fill_53178_5_5L fu _ _ _ _ hB p e s0 m below meth c A E H locs ls hP hD hS (lv_sub hl [2, 3, 1, 0] rfl)
theorem ckJ7_fill_53178_5 {l : Launch} {dC : Nat → ClassId} {dI : Nat → Nat → Nat} {cB cI cJ cZ cS : ClassId} {q0 : Nat} {s' : (Nat → Int32)} {s : (Nat → Int32)} {x1 : Int32} (hB : kJ7_fill_53178_5 s x1 = some s') : CV l yJ7_fill_53178 wsJ7_fill_53178 ({ frames := 0, cells := 0, slots := 0, locals := 0 }) (dC, dI) (tysA cB cI cJ cZ cS) [(q0, .inl (cI, 5, .inl s))] [.ref q0, .int x1] (fun u => u = [(q0, .inl (cI, 5, .inl s'))]) :=
  CV_of (cc := cJ7_fill_53178) (maxL := 4) (ret := none) (by decide) rfl (Nat.le_of_ble_eq_true rfl) (bkJ7_fill_53178_5 _ _ hB)
set_option maxHeartbeats 4000000 in
set_option maxRecDepth 100000 in
theorem bkJ7_fill_53178_6_5 {l : Launch} {dC : Nat → ClassId} {dI : Nat → Nat → Nat} {cB cI cJ cZ cS : ClassId} {q0 : Nat} {as : List Value} {s' : (Nat → Int32)} {k5 : (Nat → Int32) → Int32 → Int32 → Int32 → Option (Nat → Int32)} (hk5 : ∀ (s : (Nat → Int32)) (x1 : Int32) (x2 : Int32) (x3 : Int32), k5 s x1 x2 x3 = some s' → BlkV l yJ7_fill_53178 wsJ7_fill_53178 ({ frames := 0, cells := 0, slots := 0, locals := 0 }) cJ7_fill_53178 4 none (dC, dI) (tysA cB cI cJ cZ cS) as 5 [(q0, .inl (cI, 6, .inl s))] [(0, .ref q0), (1, .int x1), (2, .int x2), (3, .int x3)] [] (fun u => u = [(q0, .inl (cI, 6, .inl s'))])) (s : (Nat → Int32)) (x1 : Int32) (x2 : Int32) (x3 : Int32) (hB : kJ7_fill_53178_6_5 k5 s x1 x2 x3 = some s') : BlkV l yJ7_fill_53178 wsJ7_fill_53178 ({ frames := 0, cells := 0, slots := 0, locals := 0 }) cJ7_fill_53178 4 none (dC, dI) (tysA cB cI cJ cZ cS) as 5 [(q0, .inl (cI, 6, .inl s))] [(0, .ref q0), (1, .int x1), (2, .int x2), (3, .int x3)] [] (fun u => u = [(q0, .inl (cI, 6, .inl s'))]) := by
  intro p e s0 m below meth c A E H locs ls hP hD hS hl
  obtain ⟨C, hr, hlocks, hA, hK, hN⟩ := id E
  obtain ⟨hx, hb, hml, hown, hts⟩ := id C
  unfold kJ7_fill_53178_6_5 at hB
  refine lv_iload_n hx hb dJ7_fill_53178_5 rfl (lv_at hl 2 rfl) ?_
  refine lv_iload_n hx hb dJ7_fill_53178_6 rfl (lv_at hl 3 rfl) ?_
  refine lv_icmp_ge (tgt := 20) hx hb dJ7_fill_53178_7 (by decide) (fun c1 => ?_) (fun c1 => ?_)
  · have hB := if_p hB c1
    exact q_vret C hr hlocks hK hP hD hS (Nat.le_of_ble_eq_true rfl) (Nat.le_of_ble_eq_true rfl) dJ7_fill_53178_20 (by cases hB; rfl)
  · have hB := if_n hB c1
    refine lv_aload_n hx hb dJ7_fill_53178_10 rfl (lv_at hl 0 rfl) ?_
    refine lv_iload_n hx hb dJ7_fill_53178_11 rfl (lv_at hl 2 rfl) ?_
    refine lv_iload_n hx hb dJ7_fill_53178_12 rfl (lv_at hl 1 rfl) ?_
    obtain ⟨g2, hB⟩ := guard_inv hB
    obtain ⟨s3, hs4, hB⟩ := letS_inv hB
    refine q_iast (f2 := (upd s (Int32.toNatClampNeg x2) x1)) (w2 := [(q0, .inl (cI, 6, .inl s3))]) C hK hP hD hS 0 1 rfl rfl (vpb_in g2) dJ7_fill_53178_13 rfl (by subst hs4; rfl) (fun H locs hP hD hS => ?_)
    refine lv_iinc (v := (x2 + 1)) (lv' := [(2, .int (x2 + 1)), (0, .ref q0), (1, .int x1), (3, .int x3)]) hx hb dJ7_fill_53178_14 hl (k := 2) rfl (rfl) (by decide) rfl (fun ls hl => ?_)
    refine lv_goto (tgt := 5) hx hb dJ7_fill_53178_17 (by decide) ?_
    exact hk5 _ _ _ _ hB p e s0 m below meth c A E H locs ls hP hD hS (lv_sub hl [1, 2, 0, 3] rfl)
theorem bkJ7_fill_53178_6_5L {l : Launch} {dC : Nat → ClassId} {dI : Nat → Nat → Nat} {cB cI cJ cZ cS : ClassId} {q0 : Nat} {as : List Value} {s' : (Nat → Int32)} : ∀ (n : Nat) (s : (Nat → Int32)) (x1 : Int32) (x2 : Int32) (x3 : Int32), kJ7_fill_53178_6_5L n s x1 x2 x3 = some s' → BlkV l yJ7_fill_53178 wsJ7_fill_53178 ({ frames := 0, cells := 0, slots := 0, locals := 0 }) cJ7_fill_53178 4 none (dC, dI) (tysA cB cI cJ cZ cS) as 5 [(q0, .inl (cI, 6, .inl s))] [(0, .ref q0), (1, .int x1), (2, .int x2), (3, .int x3)] [] (fun u => u = [(q0, .inl (cI, 6, .inl s'))]) := by
  intro n
  induction n with
  | zero => intro s x1 x2 x3 hB; exact none_ne hB
  | succ n ih => intro s x1 x2 x3 hB; exact bkJ7_fill_53178_6_5 ih _ _ _ _ hB
set_option maxHeartbeats 4000000 in
set_option maxRecDepth 100000 in
theorem bkJ7_fill_53178_6 {l : Launch} {dC : Nat → ClassId} {dI : Nat → Nat → Nat} {cB cI cJ cZ cS : ClassId} {q0 : Nat} {as : List Value} {s' : (Nat → Int32)} (s : (Nat → Int32)) (x1 : Int32) (hB : kJ7_fill_53178_6 s x1 = some s') : BlkV l yJ7_fill_53178 wsJ7_fill_53178 ({ frames := 0, cells := 0, slots := 0, locals := 0 }) cJ7_fill_53178 4 none (dC, dI) (tysA cB cI cJ cZ cS) as 0 [(q0, .inl (cI, 6, .inl s))] [(0, .ref q0), (1, .int x1)] [] (fun u => u = [(q0, .inl (cI, 6, .inl s'))]) := by
  intro p e s0 m below meth c A E H locs ls hP hD hS hl
  obtain ⟨C, hr, hlocks, hA, hK, hN⟩ := id E
  obtain ⟨hx, hb, hml, hown, hts⟩ := id C
  unfold kJ7_fill_53178_6 at hB
  refine lv_iconst (v := 0) hx hb dJ7_fill_53178_0 (by decide) ?_
  refine lv_istore_n (lv' := [(2, .int 0), (0, .ref q0), (1, .int x1)]) hx hb dJ7_fill_53178_1 rfl hl (by decide) rfl (fun ls hl => ?_)
  refine lv_aload_n hx hb dJ7_fill_53178_2 rfl (lv_at hl 1 rfl) ?_
  refine q_alen (v := 6) C hK hP 0 1 rfl rfl dJ7_fill_53178_3 rfl ?_
  refine lv_istore_n (lv' := [(3, .int 6), (2, .int 0), (0, .ref q0), (1, .int x1)]) hx hb dJ7_fill_53178_4 rfl hl (by decide) rfl (fun ls hl => ?_)
  exact bkJ7_fill_53178_6_5L fu _ _ _ _ hB p e s0 m below meth c A E H locs ls hP hD hS (lv_sub hl [2, 3, 1, 0] rfl)
theorem ckJ7_fill_53178_6 {l : Launch} {dC : Nat → ClassId} {dI : Nat → Nat → Nat} {cB cI cJ cZ cS : ClassId} {q0 : Nat} {s' : (Nat → Int32)} {s : (Nat → Int32)} {x1 : Int32} (hB : kJ7_fill_53178_6 s x1 = some s') : CV l yJ7_fill_53178 wsJ7_fill_53178 ({ frames := 0, cells := 0, slots := 0, locals := 0 }) (dC, dI) (tysA cB cI cJ cZ cS) [(q0, .inl (cI, 6, .inl s))] [.ref q0, .int x1] (fun u => u = [(q0, .inl (cI, 6, .inl s'))]) :=
  CV_of (cc := cJ7_fill_53178) (maxL := 4) (ret := none) (by decide) rfl (Nat.le_of_ble_eq_true rfl) (bkJ7_fill_53178_6 _ _ hB)
set_option maxHeartbeats 4000000 in
set_option maxRecDepth 100000 in
theorem bkJ7_fill_53178_9_5 {l : Launch} {dC : Nat → ClassId} {dI : Nat → Nat → Nat} {cB cI cJ cZ cS : ClassId} {q0 : Nat} {as : List Value} {s' : (Nat → Int32)} {k5 : (Nat → Int32) → Int32 → Int32 → Int32 → Option (Nat → Int32)} (hk5 : ∀ (s : (Nat → Int32)) (x1 : Int32) (x2 : Int32) (x3 : Int32), k5 s x1 x2 x3 = some s' → BlkV l yJ7_fill_53178 wsJ7_fill_53178 ({ frames := 0, cells := 0, slots := 0, locals := 0 }) cJ7_fill_53178 4 none (dC, dI) (tysA cB cI cJ cZ cS) as 5 [(q0, .inl (cI, 9, .inl s))] [(0, .ref q0), (1, .int x1), (2, .int x2), (3, .int x3)] [] (fun u => u = [(q0, .inl (cI, 9, .inl s'))])) (s : (Nat → Int32)) (x1 : Int32) (x2 : Int32) (x3 : Int32) (hB : kJ7_fill_53178_9_5 k5 s x1 x2 x3 = some s') : BlkV l yJ7_fill_53178 wsJ7_fill_53178 ({ frames := 0, cells := 0, slots := 0, locals := 0 }) cJ7_fill_53178 4 none (dC, dI) (tysA cB cI cJ cZ cS) as 5 [(q0, .inl (cI, 9, .inl s))] [(0, .ref q0), (1, .int x1), (2, .int x2), (3, .int x3)] [] (fun u => u = [(q0, .inl (cI, 9, .inl s'))]) := by
  intro p e s0 m below meth c A E H locs ls hP hD hS hl
  obtain ⟨C, hr, hlocks, hA, hK, hN⟩ := id E
  obtain ⟨hx, hb, hml, hown, hts⟩ := id C
  unfold kJ7_fill_53178_9_5 at hB
  refine lv_iload_n hx hb dJ7_fill_53178_5 rfl (lv_at hl 2 rfl) ?_
  refine lv_iload_n hx hb dJ7_fill_53178_6 rfl (lv_at hl 3 rfl) ?_
  refine lv_icmp_ge (tgt := 20) hx hb dJ7_fill_53178_7 (by decide) (fun c1 => ?_) (fun c1 => ?_)
  · have hB := if_p hB c1
    exact q_vret C hr hlocks hK hP hD hS (Nat.le_of_ble_eq_true rfl) (Nat.le_of_ble_eq_true rfl) dJ7_fill_53178_20 (by cases hB; rfl)
  · have hB := if_n hB c1
    refine lv_aload_n hx hb dJ7_fill_53178_10 rfl (lv_at hl 0 rfl) ?_
    refine lv_iload_n hx hb dJ7_fill_53178_11 rfl (lv_at hl 2 rfl) ?_
    refine lv_iload_n hx hb dJ7_fill_53178_12 rfl (lv_at hl 1 rfl) ?_
    obtain ⟨g2, hB⟩ := guard_inv hB
    obtain ⟨s3, hs4, hB⟩ := letS_inv hB
    refine q_iast (f2 := (upd s (Int32.toNatClampNeg x2) x1)) (w2 := [(q0, .inl (cI, 9, .inl s3))]) C hK hP hD hS 0 1 rfl rfl (vpb_in g2) dJ7_fill_53178_13 rfl (by subst hs4; rfl) (fun H locs hP hD hS => ?_)
    refine lv_iinc (v := (x2 + 1)) (lv' := [(2, .int (x2 + 1)), (0, .ref q0), (1, .int x1), (3, .int x3)]) hx hb dJ7_fill_53178_14 hl (k := 2) rfl (rfl) (by decide) rfl (fun ls hl => ?_)
    refine lv_goto (tgt := 5) hx hb dJ7_fill_53178_17 (by decide) ?_
    exact hk5 _ _ _ _ hB p e s0 m below meth c A E H locs ls hP hD hS (lv_sub hl [1, 2, 0, 3] rfl)
theorem bkJ7_fill_53178_9_5L {l : Launch} {dC : Nat → ClassId} {dI : Nat → Nat → Nat} {cB cI cJ cZ cS : ClassId} {q0 : Nat} {as : List Value} {s' : (Nat → Int32)} : ∀ (n : Nat) (s : (Nat → Int32)) (x1 : Int32) (x2 : Int32) (x3 : Int32), kJ7_fill_53178_9_5L n s x1 x2 x3 = some s' → BlkV l yJ7_fill_53178 wsJ7_fill_53178 ({ frames := 0, cells := 0, slots := 0, locals := 0 }) cJ7_fill_53178 4 none (dC, dI) (tysA cB cI cJ cZ cS) as 5 [(q0, .inl (cI, 9, .inl s))] [(0, .ref q0), (1, .int x1), (2, .int x2), (3, .int x3)] [] (fun u => u = [(q0, .inl (cI, 9, .inl s'))]) := by
  intro n
  induction n with
  | zero => intro s x1 x2 x3 hB; exact none_ne hB
  | succ n ih => intro s x1 x2 x3 hB; exact bkJ7_fill_53178_9_5 ih _ _ _ _ hB
set_option maxHeartbeats 4000000 in
set_option maxRecDepth 100000 in
theorem bkJ7_fill_53178_9 {l : Launch} {dC : Nat → ClassId} {dI : Nat → Nat → Nat} {cB cI cJ cZ cS : ClassId} {q0 : Nat} {as : List Value} {s' : (Nat → Int32)} (s : (Nat → Int32)) (x1 : Int32) (hB : kJ7_fill_53178_9 s x1 = some s') : BlkV l yJ7_fill_53178 wsJ7_fill_53178 ({ frames := 0, cells := 0, slots := 0, locals := 0 }) cJ7_fill_53178 4 none (dC, dI) (tysA cB cI cJ cZ cS) as 0 [(q0, .inl (cI, 9, .inl s))] [(0, .ref q0), (1, .int x1)] [] (fun u => u = [(q0, .inl (cI, 9, .inl s'))]) := by
  intro p e s0 m below meth c A E H locs ls hP hD hS hl
  obtain ⟨C, hr, hlocks, hA, hK, hN⟩ := id E
  obtain ⟨hx, hb, hml, hown, hts⟩ := id C
  unfold kJ7_fill_53178_9 at hB
  refine lv_iconst (v := 0) hx hb dJ7_fill_53178_0 (by decide) ?_
  refine lv_istore_n (lv' := [(2, .int 0), (0, .ref q0), (1, .int x1)]) hx hb dJ7_fill_53178_1 rfl hl (by decide) rfl (fun ls hl => ?_)
  refine lv_aload_n hx hb dJ7_fill_53178_2 rfl (lv_at hl 1 rfl) ?_
  refine q_alen (v := 9) C hK hP 0 1 rfl rfl dJ7_fill_53178_3 rfl ?_
  refine lv_istore_n (lv' := [(3, .int 9), (2, .int 0), (0, .ref q0), (1, .int x1)]) hx hb dJ7_fill_53178_4 rfl hl (by decide) rfl (fun ls hl => ?_)
  exact bkJ7_fill_53178_9_5L fu _ _ _ _ hB p e s0 m below meth c A E H locs ls hP hD hS (lv_sub hl [2, 3, 1, 0] rfl)
theorem ckJ7_fill_53178_9 {l : Launch} {dC : Nat → ClassId} {dI : Nat → Nat → Nat} {cB cI cJ cZ cS : ClassId} {q0 : Nat} {s' : (Nat → Int32)} {s : (Nat → Int32)} {x1 : Int32} (hB : kJ7_fill_53178_9 s x1 = some s') : CV l yJ7_fill_53178 wsJ7_fill_53178 ({ frames := 0, cells := 0, slots := 0, locals := 0 }) (dC, dI) (tysA cB cI cJ cZ cS) [(q0, .inl (cI, 9, .inl s))] [.ref q0, .int x1] (fun u => u = [(q0, .inl (cI, 9, .inl s'))]) :=
  CV_of (cc := cJ7_fill_53178) (maxL := 4) (ret := none) (by decide) rfl (Nat.le_of_ble_eq_true rfl) (bkJ7_fill_53178_9 _ _ hB)
set_option maxHeartbeats 4000000 in
set_option maxRecDepth 100000 in
theorem bkJ7_fill_53178_20_5 {l : Launch} {dC : Nat → ClassId} {dI : Nat → Nat → Nat} {cB cI cJ cZ cS : ClassId} {q0 : Nat} {as : List Value} {s' : (Nat → Int32)} {k5 : (Nat → Int32) → Int32 → Int32 → Int32 → Option (Nat → Int32)} (hk5 : ∀ (s : (Nat → Int32)) (x1 : Int32) (x2 : Int32) (x3 : Int32), k5 s x1 x2 x3 = some s' → BlkV l yJ7_fill_53178 wsJ7_fill_53178 ({ frames := 0, cells := 0, slots := 0, locals := 0 }) cJ7_fill_53178 4 none (dC, dI) (tysA cB cI cJ cZ cS) as 5 [(q0, .inl (cI, 20, .inl s))] [(0, .ref q0), (1, .int x1), (2, .int x2), (3, .int x3)] [] (fun u => u = [(q0, .inl (cI, 20, .inl s'))])) (s : (Nat → Int32)) (x1 : Int32) (x2 : Int32) (x3 : Int32) (hB : kJ7_fill_53178_20_5 k5 s x1 x2 x3 = some s') : BlkV l yJ7_fill_53178 wsJ7_fill_53178 ({ frames := 0, cells := 0, slots := 0, locals := 0 }) cJ7_fill_53178 4 none (dC, dI) (tysA cB cI cJ cZ cS) as 5 [(q0, .inl (cI, 20, .inl s))] [(0, .ref q0), (1, .int x1), (2, .int x2), (3, .int x3)] [] (fun u => u = [(q0, .inl (cI, 20, .inl s'))]) := by
  intro p e s0 m below meth c A E H locs ls hP hD hS hl
  obtain ⟨C, hr, hlocks, hA, hK, hN⟩ := id E
  obtain ⟨hx, hb, hml, hown, hts⟩ := id C
  unfold kJ7_fill_53178_20_5 at hB
  refine lv_iload_n hx hb dJ7_fill_53178_5 rfl (lv_at hl 2 rfl) ?_
  refine lv_iload_n hx hb dJ7_fill_53178_6 rfl (lv_at hl 3 rfl) ?_
  refine lv_icmp_ge (tgt := 20) hx hb dJ7_fill_53178_7 (by decide) (fun c1 => ?_) (fun c1 => ?_)
  · have hB := if_p hB c1
    exact q_vret C hr hlocks hK hP hD hS (Nat.le_of_ble_eq_true rfl) (Nat.le_of_ble_eq_true rfl) dJ7_fill_53178_20 (by cases hB; rfl)
  · have hB := if_n hB c1
    refine lv_aload_n hx hb dJ7_fill_53178_10 rfl (lv_at hl 0 rfl) ?_
    refine lv_iload_n hx hb dJ7_fill_53178_11 rfl (lv_at hl 2 rfl) ?_
    refine lv_iload_n hx hb dJ7_fill_53178_12 rfl (lv_at hl 1 rfl) ?_
    obtain ⟨g2, hB⟩ := guard_inv hB
    obtain ⟨s3, hs4, hB⟩ := letS_inv hB
    refine q_iast (f2 := (upd s (Int32.toNatClampNeg x2) x1)) (w2 := [(q0, .inl (cI, 20, .inl s3))]) C hK hP hD hS 0 1 rfl rfl (vpb_in g2) dJ7_fill_53178_13 rfl (by subst hs4; rfl) (fun H locs hP hD hS => ?_)
    refine lv_iinc (v := (x2 + 1)) (lv' := [(2, .int (x2 + 1)), (0, .ref q0), (1, .int x1), (3, .int x3)]) hx hb dJ7_fill_53178_14 hl (k := 2) rfl (rfl) (by decide) rfl (fun ls hl => ?_)
    refine lv_goto (tgt := 5) hx hb dJ7_fill_53178_17 (by decide) ?_
    exact hk5 _ _ _ _ hB p e s0 m below meth c A E H locs ls hP hD hS (lv_sub hl [1, 2, 0, 3] rfl)
theorem bkJ7_fill_53178_20_5L {l : Launch} {dC : Nat → ClassId} {dI : Nat → Nat → Nat} {cB cI cJ cZ cS : ClassId} {q0 : Nat} {as : List Value} {s' : (Nat → Int32)} : ∀ (n : Nat) (s : (Nat → Int32)) (x1 : Int32) (x2 : Int32) (x3 : Int32), kJ7_fill_53178_20_5L n s x1 x2 x3 = some s' → BlkV l yJ7_fill_53178 wsJ7_fill_53178 ({ frames := 0, cells := 0, slots := 0, locals := 0 }) cJ7_fill_53178 4 none (dC, dI) (tysA cB cI cJ cZ cS) as 5 [(q0, .inl (cI, 20, .inl s))] [(0, .ref q0), (1, .int x1), (2, .int x2), (3, .int x3)] [] (fun u => u = [(q0, .inl (cI, 20, .inl s'))]) := by
  intro n
  induction n with
  | zero => intro s x1 x2 x3 hB; exact none_ne hB
  | succ n ih => intro s x1 x2 x3 hB; exact bkJ7_fill_53178_20_5 ih _ _ _ _ hB
set_option maxHeartbeats 4000000 in
set_option maxRecDepth 100000 in
theorem bkJ7_fill_53178_20 {l : Launch} {dC : Nat → ClassId} {dI : Nat → Nat → Nat} {cB cI cJ cZ cS : ClassId} {q0 : Nat} {as : List Value} {s' : (Nat → Int32)} (s : (Nat → Int32)) (x1 : Int32) (hB : kJ7_fill_53178_20 s x1 = some s') : BlkV l yJ7_fill_53178 wsJ7_fill_53178 ({ frames := 0, cells := 0, slots := 0, locals := 0 }) cJ7_fill_53178 4 none (dC, dI) (tysA cB cI cJ cZ cS) as 0 [(q0, .inl (cI, 20, .inl s))] [(0, .ref q0), (1, .int x1)] [] (fun u => u = [(q0, .inl (cI, 20, .inl s'))]) := by
  intro p e s0 m below meth c A E H locs ls hP hD hS hl
  obtain ⟨C, hr, hlocks, hA, hK, hN⟩ := id E
  obtain ⟨hx, hb, hml, hown, hts⟩ := id C
  unfold kJ7_fill_53178_20 at hB
  refine lv_iconst (v := 0) hx hb dJ7_fill_53178_0 (by decide) ?_
  refine lv_istore_n (lv' := [(2, .int 0), (0, .ref q0), (1, .int x1)]) hx hb dJ7_fill_53178_1 rfl hl (by decide) rfl (fun ls hl => ?_)
  refine lv_aload_n hx hb dJ7_fill_53178_2 rfl (lv_at hl 1 rfl) ?_
  refine q_alen (v := 20) C hK hP 0 1 rfl rfl dJ7_fill_53178_3 rfl ?_
  refine lv_istore_n (lv' := [(3, .int 20), (2, .int 0), (0, .ref q0), (1, .int x1)]) hx hb dJ7_fill_53178_4 rfl hl (by decide) rfl (fun ls hl => ?_)
  exact bkJ7_fill_53178_20_5L fu _ _ _ _ hB p e s0 m below meth c A E H locs ls hP hD hS (lv_sub hl [2, 3, 1, 0] rfl)
theorem ckJ7_fill_53178_20 {l : Launch} {dC : Nat → ClassId} {dI : Nat → Nat → Nat} {cB cI cJ cZ cS : ClassId} {q0 : Nat} {s' : (Nat → Int32)} {s : (Nat → Int32)} {x1 : Int32} (hB : kJ7_fill_53178_20 s x1 = some s') : CV l yJ7_fill_53178 wsJ7_fill_53178 ({ frames := 0, cells := 0, slots := 0, locals := 0 }) (dC, dI) (tysA cB cI cJ cZ cS) [(q0, .inl (cI, 20, .inl s))] [.ref q0, .int x1] (fun u => u = [(q0, .inl (cI, 20, .inl s'))]) :=
  CV_of (cc := cJ7_fill_53178) (maxL := 4) (ret := none) (by decide) rfl (Nat.le_of_ble_eq_true rfl) (bkJ7_fill_53178_20 _ _ hB)
theorem LX0_clearVars_27 : Cond.fieldLink RX0 27 "GuessFerry$Crossing" "vars" "[I" ∈ wsX0_clearVars := (List.mem_cons_of_mem _ (List.mem_append_left _ (List.mem_append_left _ (List.mem_append_left _ (List.mem_of_getElem? (i := 0) rfl)))))
theorem inX0_clearVars_X0 : ∀ w ∈ u_ws RX0 TX0 2, w ∈ wsX0_clearVars := fun w h => (List.mem_cons_of_mem _ (List.mem_append_left _ (List.mem_append_right _ h)))
theorem inX0_clearVars_X6 : ∀ w ∈ u_ws RX6 TX6 7, w ∈ wsX0_clearVars := fun w h => (List.mem_cons_of_mem _ (List.mem_append_right _ h))
set_option maxHeartbeats 4000000 in
set_option maxRecDepth 100000 in
theorem bkX0_clearVars {l : Launch} {dC : Nat → ClassId} {dI : Nat → Nat → Nat} {cB cI cJ cZ cS : ClassId} {a b : Nat → Nat} {as : List Value} {s' : JS} (s : JS) (hB : kX0_clearVars s = some s') : BlkV l yX0_clearVars wsX0_clearVars ({ frames := 1, cells := 0, slots := 0, locals := 23 }) cX0_clearVars 2 none (dC, dI) (tysA cB cI cJ cZ cS) as 0 (wJ cB cI cJ cZ cS a b s) [(0, .ref (a 35)), (1, .ref (b 0))] [] (fun u => u = (wJ cB cI cJ cZ cS a b s')) := by
  intro p e s0 m below meth c A E H locs ls hP hD hS hl
  obtain ⟨C, hr, hlocks, hA, hK, hN⟩ := id E
  obtain ⟨hx, hb, hml, hown, hts⟩ := id C
  unfold kX0_clearVars at hB
  refine lv_aload_n hx hb dX0_clearVars_0 rfl (lv_at hl 0 rfl) ?_
  refine q_get (v := .ref (a 13)) C inX0_clearVars_X0 hK hP 41 rfl rfl 1 (by decide) rfl LX0_clearVars_27 rfl dX0_clearVars_1 ?_
  refine lv_iconst (v := 0) hx hb dX0_clearVars_4 (by decide) ?_
  obtain ⟨s1, hc, hB⟩ := bindP_inv hB
  refine q_gov (wr := (((wJ cB cI cJ cZ cS a b s)).eraseIdx 19)) (va_runS (As := [.ref (a 13), .int 0]) (rest := []) C (ckJ7_fill_53178_9 hc _) (va_cwS 2 hts gX0_clearVars_J7_fill_53178 rfl rfl rfl (by decide +kernel) ⟨Nat.le_of_ble_eq_true rfl, Nat.le_of_ble_eq_true rfl⟩) (q_pre hN hK hP hD [19] rfl zqn_4) rfl rfl hl.1 rfl (lv_room (Nat.le_of_ble_eq_true rfl)) dX0_clearVars_5 ⟨Nat.le_of_ble_eq_true rfl, Nat.le_of_ble_eq_true rfl⟩) hP hD hS hA [19] [0, 1, 2, 3, 4, 5, 6, 7, 8, 9, 10, 11, 12, 13, 14, 15, 16, 17, 18, 20, 21, 22, 23, 24, 25, 26, 27, 28, 29, 30, 31, 32, 33, 34, 35, 36, 37, 38, 39, 40, 41, 42, 43, 44, 45, 46, 47, 48, 49, 50, 51, 52] rfl rfl zqn_5 zqd_2 (fun w1 H locs hw hP hD hS => ?_)
  subst hw
  obtain ⟨s2, hs3, hB⟩ := letS_inv hB
  have hP : va_P (dC, dI) vwCl (wJ cB cI cJ cZ cS a b s2) H := by subst hs3; exact hP.sub [0, 1, 2, 3, 4, 5, 6, 7, 8, 9, 10, 11, 12, 13, 14, 15, 16, 17, 18, 52, 19, 20, 21, 22, 23, 24, 25, 26, 27, 28, 29, 30, 31, 32, 33, 34, 35, 36, 37, 38, 39, 40, 41, 42, 43, 44, 45, 46, 47, 48, 49, 50, 51] rfl
  have hD : va_D A (wJ cB cI cJ cZ cS a b s2) := by subst hs3; exact hD.sub [0, 1, 2, 3, 4, 5, 6, 7, 8, 9, 10, 11, 12, 13, 14, 15, 16, 17, 18, 52, 19, 20, 21, 22, 23, 24, 25, 26, 27, 28, 29, 30, 31, 32, 33, 34, 35, 36, 37, 38, 39, 40, 41, 42, 43, 44, 45, 46, 47, 48, 49, 50, 51] (by decide +kernel) rfl
  refine lv_aload_n hx hb dX0_clearVars_8 rfl (lv_at hl 0 rfl) ?_
  refine q_get (v := .ref (a 13)) C inX0_clearVars_X0 hK hP 41 rfl rfl 1 (by decide) rfl LX0_clearVars_27 rfl dX0_clearVars_9 ?_
  refine lv_iconst (v := 5) hx hb dX0_clearVars_12 (by decide) ?_
  refine lv_aload_n hx hb dX0_clearVars_13 rfl (lv_at hl 1 rfl) ?_
  refine q_getN (v := .int (s2.d.v 5)) C hN inX0_clearVars_X6 hK hP 0 rfl rfl 5 (by decide) rfl nwF_X0_59 rfl dX0_clearVars_14 ?_
  obtain ⟨s4, hs5, hB⟩ := letS_inv hB
  refine q_iast (f2 := (upd (s2.k.f 13) 5 (s2.d.v 5))) (w2 := (wJ cB cI cJ cZ cS a b s4)) C hK hP hD hS 19 1 rfl rfl (vp_lit (by decide +kernel)) dX0_clearVars_17 rfl (by subst hs5; rfl) (fun H locs hP hD hS => ?_)
  exact q_vret C hr hlocks hK hP hD hS (Nat.le_of_ble_eq_true rfl) (Nat.le_of_ble_eq_true rfl) dX0_clearVars_18 (by cases hB; rfl)
theorem ckX0_clearVars {l : Launch} {dC : Nat → ClassId} {dI : Nat → Nat → Nat} {cB cI cJ cZ cS : ClassId} {a b : Nat → Nat} {s' : JS} {s : JS} (hB : kX0_clearVars s = some s') : CV l yX0_clearVars wsX0_clearVars ({ frames := 1, cells := 0, slots := 0, locals := 23 }) (dC, dI) (tysA cB cI cJ cZ cS) (wJ cB cI cJ cZ cS a b s) [.ref (a 35), .ref (b 0)] (fun u => u = (wJ cB cI cJ cZ cS a b s')) :=
  CV_of (cc := cX0_clearVars) (maxL := 2) (ret := none) (by decide) rfl (Nat.le_of_ble_eq_true rfl) (bkX0_clearVars _ hB)
end
section
theorem ggX0_setWave_X0_mayBe : GoodIn wsX0_setWave wsX0_mayBe := gi_sub (fun w h => List.mem_cons_of_mem _ (List.mem_append_left _ (List.mem_append_left _ (List.mem_append_left _ (List.mem_append_right _ (List.mem_append_left _ h)))))) gd_wsX0_mayBe
set_option maxRecDepth 20000 in
theorem gX0_setWave_X0_mayBe : GoodIn wsX0_setWave (wsV RX0 71 RX0 yX0_mayBe wsX0_mayBe) := goodIn_app (goodIn_r _ [2, 3, 4, 5] (by decide +kernel) (by decide +kernel)) ggX0_setWave_X0_mayBe
theorem ggX0_setWave_J6_bitCount_0f7a4 : GoodIn wsX0_setWave wsJ6_bitCount_0f7a4 := gi_sub (fun w h => List.mem_cons_of_mem _ (List.mem_append_left _ (List.mem_append_left _ (List.mem_append_left _ (List.mem_append_right _ (List.mem_append_right _ h)))))) gd_wsJ6_bitCount_0f7a4
set_option maxRecDepth 20000 in
theorem gX0_setWave_J6_bitCount_0f7a4 : GoodIn wsX0_setWave (va_wsS RX0 75 yJ6_bitCount_0f7a4 wsJ6_bitCount_0f7a4) := goodIn_app (goodIn_of _ (by decide +kernel)) ggX0_setWave_J6_bitCount_0f7a4
theorem dX0_setWave_0 : decode cX0_setWave 0 = .ok (.aload_n 0, 1) := dc1_42 (by decide +kernel)
theorem dX0_setWave_1 : decode cX0_setWave 1 = .ok (.getfield 27, 3) := dcw_180 (by decide +kernel)
theorem dX0_setWave_4 : decode cX0_setWave 4 = .ok (.iconst 0, 1) := dc1_3 (by decide +kernel)
theorem dX0_setWave_5 : decode cX0_setWave 5 = .ok (.iload_n 2, 1) := dc1_28 (by decide +kernel)
theorem dX0_setWave_6 : decode cX0_setWave 6 = .ok (.iastore, 1) := dc1_79 (by decide +kernel)
theorem dX0_setWave_7 : decode cX0_setWave 7 = .ok (.aload_n 0, 1) := dc1_42 (by decide +kernel)
theorem dX0_setWave_8 : decode cX0_setWave 8 = .ok (.getfield 27, 3) := dcw_180 (by decide +kernel)
theorem dX0_setWave_11 : decode cX0_setWave 11 = .ok (.iconst 4, 1) := dc1_7 (by decide +kernel)
theorem dX0_setWave_12 : decode cX0_setWave 12 = .ok (.aload_n 0, 1) := dc1_42 (by decide +kernel)
theorem dX0_setWave_13 : decode cX0_setWave 13 = .ok (.aload_n 1, 1) := dc1_43 (by decide +kernel)
theorem dX0_setWave_14 : decode cX0_setWave 14 = .ok (.iload_n 2, 1) := dc1_28 (by decide +kernel)
theorem dX0_setWave_15 : decode cX0_setWave 15 = .ok (.invokevirtual 71, 3) := dcw_182 (by decide +kernel)
theorem dX0_setWave_18 : decode cX0_setWave 18 = .ok (.invokestatic 75, 3) := dcw_184 (by decide +kernel)
theorem dX0_setWave_21 : decode cX0_setWave 21 = .ok (.iastore, 1) := dc1_79 (by decide +kernel)
theorem dX0_setWave_22 : decode cX0_setWave 22 = .ok (.aload_n 0, 1) := dc1_42 (by decide +kernel)
theorem dX0_setWave_23 : decode cX0_setWave 23 = .ok (.getfield 27, 3) := dcw_180 (by decide +kernel)
theorem dX0_setWave_26 : decode cX0_setWave 26 = .ok (.bipush 7, 2) := dcb_16 (n := 7) (by decide +kernel)
theorem dX0_setWave_28 : decode cX0_setWave 28 = .ok (.aload_n 1, 1) := dc1_43 (by decide +kernel)
theorem dX0_setWave_29 : decode cX0_setWave 29 = .ok (.getfield 36, 3) := dcw_180 (by decide +kernel)
theorem dX0_setWave_32 : decode cX0_setWave 32 = .ok (.iload_n 2, 1) := dc1_28 (by decide +kernel)
theorem dX0_setWave_33 : decode cX0_setWave 33 = .ok (.iaload, 1) := dc1_46 (by decide +kernel)
theorem dX0_setWave_34 : decode cX0_setWave 34 = .ok (.invokestatic 75, 3) := dcw_184 (by decide +kernel)
theorem dX0_setWave_37 : decode cX0_setWave 37 = .ok (.iastore, 1) := dc1_79 (by decide +kernel)
theorem dX0_setWave_38 : decode cX0_setWave 38 = .ok (.return_, 1) := dc1_177 (by decide +kernel)
theorem ggX1_putNumber_X1_put : GoodIn wsX1_putNumber wsX1_put := gi_sub (fun w h => List.mem_cons_of_mem _ (List.mem_append_left _ (List.mem_append_right _ h))) gd_wsX1_put
set_option maxRecDepth 20000 in
theorem gX1_putNumber_X1_put : GoodIn wsX1_putNumber (wsV RX1 60 RX1 yX1_put wsX1_put) := goodIn_app (goodIn_r _ [1, 2, 3, 4] (by decide +kernel) (by decide +kernel)) ggX1_putNumber_X1_put
theorem dX1_putNumber_0 : decode cX1_putNumber 0 = .ok (.aload_n 0, 1) := dc1_42 (by decide +kernel)
theorem dX1_putNumber_1 : decode cX1_putNumber 1 = .ok (.iload_n 1, 1) := dc1_27 (by decide +kernel)
theorem dX1_putNumber_2 : decode cX1_putNumber 2 = .ok (.invokevirtual 60, 3) := dcw_182 (by decide +kernel)
theorem dX1_putNumber_5 : decode cX1_putNumber 5 = .ok (.return_, 1) := dc1_177 (by decide +kernel)
theorem ggX1_putVar_X1_put : GoodIn wsX1_putVar wsX1_put := gi_sub (fun w h => List.mem_cons_of_mem _ (List.mem_append_left _ (List.mem_append_right _ h))) gd_wsX1_put
set_option maxRecDepth 20000 in
theorem gX1_putVar_X1_put : GoodIn wsX1_putVar (wsV RX1 60 RX1 yX1_put wsX1_put) := goodIn_app (goodIn_r _ [1, 2, 3, 4] (by decide +kernel) (by decide +kernel)) ggX1_putVar_X1_put
theorem dX1_putVar_0 : decode cX1_putVar 0 = .ok (.aload_n 0, 1) := dc1_42 (by decide +kernel)
theorem dX1_putVar_1 : decode cX1_putVar 1 = .ok (.iconst (-1), 1) := dc1_2 (by decide +kernel)
theorem dX1_putVar_2 : decode cX1_putVar 2 = .ok (.iload_n 1, 1) := dc1_27 (by decide +kernel)
theorem dX1_putVar_3 : decode cX1_putVar 3 = .ok (.isub, 1) := dc1_100 (by decide +kernel)
theorem dX1_putVar_4 : decode cX1_putVar 4 = .ok (.invokevirtual 60, 3) := dcw_182 (by decide +kernel)
theorem dX1_putVar_7 : decode cX1_putVar 7 = .ok (.return_, 1) := dc1_177 (by decide +kernel)
theorem ggX1_putSign_X1_put : GoodIn wsX1_putSign wsX1_put := gi_sub (fun w h => List.mem_cons_of_mem _ (List.mem_append_left _ (List.mem_append_right _ h))) gd_wsX1_put
set_option maxRecDepth 20000 in
theorem gX1_putSign_X1_put : GoodIn wsX1_putSign (wsV RX1 60 RX1 yX1_put wsX1_put) := goodIn_app (goodIn_r _ [1, 2, 3, 4] (by decide +kernel) (by decide +kernel)) ggX1_putSign_X1_put
theorem dX1_putSign_0 : decode cX1_putSign 0 = .ok (.aload_n 0, 1) := dc1_42 (by decide +kernel)
theorem dX1_putSign_1 : decode cX1_putSign 1 = .ok (.iload_n 1, 1) := dc1_27 (by decide +kernel)
theorem dX1_putSign_2 : decode cX1_putSign 2 = .ok (.ineg, 1) := dc1_116 (by decide +kernel)
theorem dX1_putSign_3 : decode cX1_putSign 3 = .ok (.invokevirtual 60, 3) := dcw_182 (by decide +kernel)
theorem dX1_putSign_6 : decode cX1_putSign 6 = .ok (.return_, 1) := dc1_177 (by decide +kernel)
theorem ggX1_partValue_X1_joined : GoodIn wsX1_partValue wsX1_joined := gi_sub (fun w h => List.mem_cons_of_mem _ (List.mem_append_left _ (List.mem_append_right _ h))) gd_wsX1_joined
set_option maxRecDepth 20000 in
theorem gX1_partValue_X1_joined : GoodIn wsX1_partValue (wsV RX1 71 RX1 yX1_joined wsX1_joined) := goodIn_app (goodIn_r _ [6, 7, 8, 9] (by decide +kernel) (by decide +kernel)) ggX1_partValue_X1_joined
theorem dX1_partValue_0 : decode cX1_partValue 0 = .ok (.iload_n 2, 1) := dc1_28 (by decide +kernel)
theorem dX1_partValue_1 : decode cX1_partValue 1 = .ok (.ifCond .lt 9, 3) := dcs_155 (n := 9) (by decide +kernel)
theorem dX1_partValue_4 : decode cX1_partValue 4 = .ok (.iload_n 2, 1) := dc1_28 (by decide +kernel)
theorem dX1_partValue_5 : decode cX1_partValue 5 = .ok (.bipush 13, 2) := dcb_16 (n := 13) (by decide +kernel)
theorem dX1_partValue_7 : decode cX1_partValue 7 = .ok (.if_icmp .lt 5, 3) := dcs_161 (n := 5) (by decide +kernel)
theorem dX1_partValue_10 : decode cX1_partValue 10 = .ok (.iconst 0, 1) := dc1_3 (by decide +kernel)
theorem dX1_partValue_11 : decode cX1_partValue 11 = .ok (.ireturn, 1) := dc1_172 (by decide +kernel)
theorem dX1_partValue_12 : decode cX1_partValue 12 = .ok (.iload_n 1, 1) := dc1_27 (by decide +kernel)
theorem dX1_partValue_13 : decode cX1_partValue 13 = .ok (.bipush 13, 2) := dcb_16 (n := 13) (by decide +kernel)
theorem dX1_partValue_15 : decode cX1_partValue 15 = .ok (.imul, 1) := dc1_104 (by decide +kernel)
theorem dX1_partValue_16 : decode cX1_partValue 16 = .ok (.iload_n 2, 1) := dc1_28 (by decide +kernel)
theorem dX1_partValue_17 : decode cX1_partValue 17 = .ok (.iadd, 1) := dc1_96 (by decide +kernel)
theorem dX1_partValue_18 : decode cX1_partValue 18 = .ok (.istore_n 3, 1) := dc1_62 (by decide +kernel)
theorem dX1_partValue_19 : decode cX1_partValue 19 = .ok (.aload_n 0, 1) := dc1_42 (by decide +kernel)
theorem dX1_partValue_20 : decode cX1_partValue 20 = .ok (.getfield 19, 3) := dcw_180 (by decide +kernel)
theorem dX1_partValue_23 : decode cX1_partValue 23 = .ok (.iload_n 3, 1) := dc1_29 (by decide +kernel)
theorem dX1_partValue_24 : decode cX1_partValue 24 = .ok (.iaload, 1) := dc1_46 (by decide +kernel)
theorem dX1_partValue_25 : decode cX1_partValue 25 = .ok (.istore 4, 2) := dcu_54 (by decide +kernel)
theorem dX1_partValue_27 : decode cX1_partValue 27 = .ok (.iconst 0, 1) := dc1_3 (by decide +kernel)
theorem dX1_partValue_28 : decode cX1_partValue 28 = .ok (.istore 5, 2) := dcu_54 (by decide +kernel)
theorem dX1_partValue_30 : decode cX1_partValue 30 = .ok (.iload_n 2, 1) := dc1_28 (by decide +kernel)
theorem dX1_partValue_31 : decode cX1_partValue 31 = .ok (.ifCond .ne 12, 3) := dcs_154 (n := 12) (by decide +kernel)
theorem dX1_partValue_34 : decode cX1_partValue 34 = .ok (.aload_n 0, 1) := dc1_42 (by decide +kernel)
theorem dX1_partValue_35 : decode cX1_partValue 35 = .ok (.getfield 22, 3) := dcw_180 (by decide +kernel)
theorem dX1_partValue_38 : decode cX1_partValue 38 = .ok (.iload_n 1, 1) := dc1_27 (by decide +kernel)
theorem dX1_partValue_39 : decode cX1_partValue 39 = .ok (.iaload, 1) := dc1_46 (by decide +kernel)
theorem dX1_partValue_40 : decode cX1_partValue 40 = .ok (.goto 11, 3) := dcs_167 (n := 11) (by decide +kernel)
theorem dX1_partValue_43 : decode cX1_partValue 43 = .ok (.aload_n 0, 1) := dc1_42 (by decide +kernel)
theorem dX1_partValue_44 : decode cX1_partValue 44 = .ok (.getfield 19, 3) := dcw_180 (by decide +kernel)
theorem dX1_partValue_47 : decode cX1_partValue 47 = .ok (.iload_n 3, 1) := dc1_29 (by decide +kernel)
theorem dX1_partValue_48 : decode cX1_partValue 48 = .ok (.iconst 1, 1) := dc1_4 (by decide +kernel)
theorem dX1_partValue_49 : decode cX1_partValue 49 = .ok (.isub, 1) := dc1_100 (by decide +kernel)
theorem dX1_partValue_50 : decode cX1_partValue 50 = .ok (.iaload, 1) := dc1_46 (by decide +kernel)
theorem dX1_partValue_51 : decode cX1_partValue 51 = .ok (.istore 6, 2) := dcu_54 (by decide +kernel)
theorem dX1_partValue_53 : decode cX1_partValue 53 = .ok (.iload 6, 2) := dcu_21 (by decide +kernel)
theorem dX1_partValue_55 : decode cX1_partValue 55 = .ok (.iload 4, 2) := dcu_21 (by decide +kernel)
theorem dX1_partValue_57 : decode cX1_partValue 57 = .ok (.if_icmp .ge 105, 3) := dcs_162 (n := 105) (by decide +kernel)
theorem dX1_partValue_60 : decode cX1_partValue 60 = .ok (.aload_n 0, 1) := dc1_42 (by decide +kernel)
theorem dX1_partValue_61 : decode cX1_partValue 61 = .ok (.getfield 15, 3) := dcw_180 (by decide +kernel)
theorem dX1_partValue_64 : decode cX1_partValue 64 = .ok (.iload 6, 2) := dcu_21 (by decide +kernel)
theorem dX1_partValue_66 : decode cX1_partValue 66 = .ok (.iaload, 1) := dc1_46 (by decide +kernel)
theorem dX1_partValue_67 : decode cX1_partValue 67 = .ok (.istore 7, 2) := dcu_54 (by decide +kernel)
theorem dX1_partValue_69 : decode cX1_partValue 69 = .ok (.iload 7, 2) := dcu_21 (by decide +kernel)
theorem dX1_partValue_71 : decode cX1_partValue 71 = .ok (.bipush (-9), 2) := dcb_16 (n := 247) (by decide +kernel)
theorem dX1_partValue_73 : decode cX1_partValue 73 = .ok (.if_icmp .lt 42, 3) := dcs_161 (n := 42) (by decide +kernel)
theorem dX1_partValue_76 : decode cX1_partValue 76 = .ok (.iload 5, 2) := dcu_21 (by decide +kernel)
theorem dX1_partValue_78 : decode cX1_partValue 78 = .ok (.bipush 16, 2) := dcb_16 (n := 16) (by decide +kernel)
theorem dX1_partValue_80 : decode cX1_partValue 80 = .ok (.if_icmp .ge 35, 3) := dcs_162 (n := 35) (by decide +kernel)
theorem dX1_partValue_83 : decode cX1_partValue 83 = .ok (.aload_n 0, 1) := dc1_42 (by decide +kernel)
theorem dX1_partValue_84 : decode cX1_partValue 84 = .ok (.getfield 31, 3) := dcw_180 (by decide +kernel)
theorem dX1_partValue_87 : decode cX1_partValue 87 = .ok (.iload 5, 2) := dcu_21 (by decide +kernel)
theorem dX1_partValue_89 : decode cX1_partValue 89 = .ok (.iload 7, 2) := dcu_21 (by decide +kernel)
theorem dX1_partValue_91 : decode cX1_partValue 91 = .ok (.ifCond .lt 8, 3) := dcs_155 (n := 8) (by decide +kernel)
theorem dX1_partValue_94 : decode cX1_partValue 94 = .ok (.iload 7, 2) := dcu_21 (by decide +kernel)
theorem dX1_partValue_96 : decode cX1_partValue 96 = .ok (.goto 12, 3) := dcs_167 (n := 12) (by decide +kernel)
theorem dX1_partValue_99 : decode cX1_partValue 99 = .ok (.aload_n 0, 1) := dc1_42 (by decide +kernel)
theorem dX1_partValue_100 : decode cX1_partValue 100 = .ok (.getfield 28, 3) := dcw_180 (by decide +kernel)
theorem dX1_partValue_103 : decode cX1_partValue 103 = .ok (.iconst (-1), 1) := dc1_2 (by decide +kernel)
theorem dX1_partValue_104 : decode cX1_partValue 104 = .ok (.iload 7, 2) := dcu_21 (by decide +kernel)
theorem dX1_partValue_106 : decode cX1_partValue 106 = .ok (.isub, 1) := dc1_100 (by decide +kernel)
theorem dX1_partValue_107 : decode cX1_partValue 107 = .ok (.iaload, 1) := dc1_46 (by decide +kernel)
theorem dX1_partValue_108 : decode cX1_partValue 108 = .ok (.iastore, 1) := dc1_79 (by decide +kernel)
theorem dX1_partValue_109 : decode cX1_partValue 109 = .ok (.iinc 5 1, 3) := dc_iinc (m := 1) (by decide +kernel)
theorem dX1_partValue_112 : decode cX1_partValue 112 = .ok (.goto 44, 3) := dcs_167 (n := 44) (by decide +kernel)
theorem dX1_partValue_115 : decode cX1_partValue 115 = .ok (.iload 5, 2) := dcu_21 (by decide +kernel)
theorem dX1_partValue_117 : decode cX1_partValue 117 = .ok (.iconst 2, 1) := dc1_5 (by decide +kernel)
theorem dX1_partValue_118 : decode cX1_partValue 118 = .ok (.if_icmp .lt 38, 3) := dcs_161 (n := 38) (by decide +kernel)
theorem dX1_partValue_121 : decode cX1_partValue 121 = .ok (.iinc 5 (-1), 3) := dc_iinc (m := 255) (by decide +kernel)
theorem dX1_partValue_124 : decode cX1_partValue 124 = .ok (.aload_n 0, 1) := dc1_42 (by decide +kernel)
theorem dX1_partValue_125 : decode cX1_partValue 125 = .ok (.getfield 31, 3) := dcw_180 (by decide +kernel)
theorem dX1_partValue_128 : decode cX1_partValue 128 = .ok (.iload 5, 2) := dcu_21 (by decide +kernel)
theorem dX1_partValue_130 : decode cX1_partValue 130 = .ok (.iconst 1, 1) := dc1_4 (by decide +kernel)
theorem dX1_partValue_131 : decode cX1_partValue 131 = .ok (.isub, 1) := dc1_100 (by decide +kernel)
theorem dX1_partValue_132 : decode cX1_partValue 132 = .ok (.aload_n 0, 1) := dc1_42 (by decide +kernel)
theorem dX1_partValue_133 : decode cX1_partValue 133 = .ok (.iload 7, 2) := dcu_21 (by decide +kernel)
theorem dX1_partValue_135 : decode cX1_partValue 135 = .ok (.ineg, 1) := dc1_116 (by decide +kernel)
theorem dX1_partValue_136 : decode cX1_partValue 136 = .ok (.aload_n 0, 1) := dc1_42 (by decide +kernel)
theorem dX1_partValue_137 : decode cX1_partValue 137 = .ok (.getfield 31, 3) := dcw_180 (by decide +kernel)
theorem dX1_partValue_140 : decode cX1_partValue 140 = .ok (.iload 5, 2) := dcu_21 (by decide +kernel)
theorem dX1_partValue_142 : decode cX1_partValue 142 = .ok (.iconst 1, 1) := dc1_4 (by decide +kernel)
theorem dX1_partValue_143 : decode cX1_partValue 143 = .ok (.isub, 1) := dc1_100 (by decide +kernel)
theorem dX1_partValue_144 : decode cX1_partValue 144 = .ok (.iaload, 1) := dc1_46 (by decide +kernel)
theorem dX1_partValue_145 : decode cX1_partValue 145 = .ok (.aload_n 0, 1) := dc1_42 (by decide +kernel)
theorem dX1_partValue_146 : decode cX1_partValue 146 = .ok (.getfield 31, 3) := dcw_180 (by decide +kernel)
theorem dX1_partValue_149 : decode cX1_partValue 149 = .ok (.iload 5, 2) := dcu_21 (by decide +kernel)
theorem dX1_partValue_151 : decode cX1_partValue 151 = .ok (.iaload, 1) := dc1_46 (by decide +kernel)
theorem dX1_partValue_152 : decode cX1_partValue 152 = .ok (.invokevirtual 71, 3) := dcw_182 (by decide +kernel)
theorem dX1_partValue_155 : decode cX1_partValue 155 = .ok (.iastore, 1) := dc1_79 (by decide +kernel)
theorem dX1_partValue_156 : decode cX1_partValue 156 = .ok (.iinc 6 1, 3) := dc_iinc (m := 1) (by decide +kernel)
theorem dX1_partValue_159 : decode cX1_partValue 159 = .ok (.goto (-106), 3) := dcs_167 (n := 65430) (by decide +kernel)
theorem dX1_partValue_162 : decode cX1_partValue 162 = .ok (.aload_n 0, 1) := dc1_42 (by decide +kernel)
theorem dX1_partValue_163 : decode cX1_partValue 163 = .ok (.getfield 31, 3) := dcw_180 (by decide +kernel)
theorem dX1_partValue_166 : decode cX1_partValue 166 = .ok (.iconst 0, 1) := dc1_3 (by decide +kernel)
theorem dX1_partValue_167 : decode cX1_partValue 167 = .ok (.iaload, 1) := dc1_46 (by decide +kernel)
theorem dX1_partValue_168 : decode cX1_partValue 168 = .ok (.ireturn, 1) := dc1_172 (by decide +kernel)
theorem ggX2_mayCount_X0_mayBe : GoodIn wsX2_mayCount wsX0_mayBe := gi_sub (fun w h => List.mem_cons_of_mem _ (List.mem_append_left _ (List.mem_append_left _ (List.mem_append_left _ (List.mem_append_left _ (List.mem_append_right _ (List.mem_append_left _ h))))))) gd_wsX0_mayBe
set_option maxRecDepth 20000 in
theorem gX2_mayCount_X0_mayBe_n32 : GoodIn wsX2_mayCount (wsX0_mayBe) := ggX2_mayCount_X0_mayBe
theorem ggX2_mayCount_J6_bitCount_0f7a4 : GoodIn wsX2_mayCount wsJ6_bitCount_0f7a4 := gi_sub (fun w h => List.mem_cons_of_mem _ (List.mem_append_left _ (List.mem_append_left _ (List.mem_append_left _ (List.mem_append_left _ (List.mem_append_right _ (List.mem_append_right _ h))))))) gd_wsJ6_bitCount_0f7a4
set_option maxRecDepth 20000 in
theorem gX2_mayCount_J6_bitCount_0f7a4 : GoodIn wsX2_mayCount (va_wsS RX2 38 yJ6_bitCount_0f7a4 wsJ6_bitCount_0f7a4) := goodIn_app (goodIn_of _ (by decide +kernel)) ggX2_mayCount_J6_bitCount_0f7a4
theorem dX2_mayCount_0 : decode cX2_mayCount 0 = .ok (.aload_n 0, 1) := dc1_42 (by decide +kernel)
theorem dX2_mayCount_1 : decode cX2_mayCount 1 = .ok (.getfield 28, 3) := dcw_180 (by decide +kernel)
theorem dX2_mayCount_4 : decode cX2_mayCount 4 = .ok (.aload_n 1, 1) := dc1_43 (by decide +kernel)
theorem dX2_mayCount_5 : decode cX2_mayCount 5 = .ok (.iload_n 2, 1) := dc1_28 (by decide +kernel)
theorem dX2_mayCount_6 : decode cX2_mayCount 6 = .ok (.invokevirtual 32, 3) := dcw_182 (by decide +kernel)
theorem dX2_mayCount_9 : decode cX2_mayCount 9 = .ok (.invokestatic 38, 3) := dcw_184 (by decide +kernel)
theorem dX2_mayCount_12 : decode cX2_mayCount 12 = .ok (.ireturn, 1) := dc1_172 (by decide +kernel)
theorem ggX2_caseCount_X2_mayCount : GoodIn wsX2_caseCount wsX2_mayCount := gi_sub (fun w h => List.mem_cons_of_mem _ (List.mem_append_left _ (List.mem_append_left _ (List.mem_append_left _ (List.mem_append_left _ (List.mem_append_right _ h)))))) gd_wsX2_mayCount
set_option maxRecDepth 20000 in
theorem gX2_caseCount_X2_mayCount : GoodIn wsX2_caseCount (wsV RX2 50 RX2 yX2_mayCount wsX2_mayCount) := goodIn_app (goodIn_r _ [2, 3, 4, 5] (by decide +kernel) (by decide +kernel)) ggX2_caseCount_X2_mayCount
theorem dX2_caseCount_0 : decode cX2_caseCount 0 = .ok (.iconst 1, 1) := dc1_4 (by decide +kernel)
theorem dX2_caseCount_1 : decode cX2_caseCount 1 = .ok (.istore_n 2, 1) := dc1_61 (by decide +kernel)
theorem dX2_caseCount_2 : decode cX2_caseCount 2 = .ok (.iconst 0, 1) := dc1_3 (by decide +kernel)
theorem dX2_caseCount_3 : decode cX2_caseCount 3 = .ok (.istore_n 3, 1) := dc1_62 (by decide +kernel)
theorem dX2_caseCount_4 : decode cX2_caseCount 4 = .ok (.iload_n 3, 1) := dc1_29 (by decide +kernel)
theorem dX2_caseCount_5 : decode cX2_caseCount 5 = .ok (.aload_n 0, 1) := dc1_42 (by decide +kernel)
theorem dX2_caseCount_6 : decode cX2_caseCount 6 = .ok (.getfield 24, 3) := dcw_180 (by decide +kernel)
theorem dX2_caseCount_9 : decode cX2_caseCount 9 = .ok (.getfield 44, 3) := dcw_180 (by decide +kernel)
theorem dX2_caseCount_12 : decode cX2_caseCount 12 = .ok (.if_icmp .ge 18, 3) := dcs_162 (n := 18) (by decide +kernel)
theorem dX2_caseCount_15 : decode cX2_caseCount 15 = .ok (.iload_n 2, 1) := dc1_28 (by decide +kernel)
theorem dX2_caseCount_16 : decode cX2_caseCount 16 = .ok (.aload_n 0, 1) := dc1_42 (by decide +kernel)
theorem dX2_caseCount_17 : decode cX2_caseCount 17 = .ok (.aload_n 1, 1) := dc1_43 (by decide +kernel)
theorem dX2_caseCount_18 : decode cX2_caseCount 18 = .ok (.iload_n 3, 1) := dc1_29 (by decide +kernel)
theorem dX2_caseCount_19 : decode cX2_caseCount 19 = .ok (.invokevirtual 50, 3) := dcw_182 (by decide +kernel)
theorem dX2_caseCount_22 : decode cX2_caseCount 22 = .ok (.imul, 1) := dc1_104 (by decide +kernel)
theorem dX2_caseCount_23 : decode cX2_caseCount 23 = .ok (.istore_n 2, 1) := dc1_61 (by decide +kernel)
theorem dX2_caseCount_24 : decode cX2_caseCount 24 = .ok (.iinc 3 1, 3) := dc_iinc (m := 1) (by decide +kernel)
theorem dX2_caseCount_27 : decode cX2_caseCount 27 = .ok (.goto (-23), 3) := dcs_167 (n := 65513) (by decide +kernel)
theorem dX2_caseCount_30 : decode cX2_caseCount 30 = .ok (.iload_n 2, 1) := dc1_28 (by decide +kernel)
theorem dX2_caseCount_31 : decode cX2_caseCount 31 = .ok (.ireturn, 1) := dc1_172 (by decide +kernel)
theorem ggX2_oddsIfMay_X0_mayBe : GoodIn wsX2_oddsIfMay wsX0_mayBe := gi_sub (fun w h => List.mem_cons_of_mem _ (List.mem_append_left _ (List.mem_append_left _ (List.mem_append_left _ (List.mem_append_left _ (List.mem_append_right _ (List.mem_append_left _ h))))))) gd_wsX0_mayBe
set_option maxRecDepth 20000 in
theorem gX2_oddsIfMay_X0_mayBe_n32 : GoodIn wsX2_oddsIfMay (wsX0_mayBe) := ggX2_oddsIfMay_X0_mayBe
theorem ggX2_oddsIfMay_X10_has : GoodIn wsX2_oddsIfMay wsX10_has := gi_sub (fun w h => List.mem_cons_of_mem _ (List.mem_append_left _ (List.mem_append_left _ (List.mem_append_left _ (List.mem_append_left _ (List.mem_append_right _ (List.mem_append_right _ (List.mem_append_left _ h)))))))) gd_wsX10_has
set_option maxRecDepth 20000 in
theorem gX2_oddsIfMay_X10_has_n57 : GoodIn wsX2_oddsIfMay (wsX10_has) := ggX2_oddsIfMay_X10_has
theorem ggX2_oddsIfMay_X5_oddsAt : GoodIn wsX2_oddsIfMay wsX5_oddsAt := gi_sub (fun w h => List.mem_cons_of_mem _ (List.mem_append_left _ (List.mem_append_left _ (List.mem_append_left _ (List.mem_append_left _ (List.mem_append_right _ (List.mem_append_right _ (List.mem_append_right _ h)))))))) gd_wsX5_oddsAt
set_option maxRecDepth 20000 in
theorem gX2_oddsIfMay_X5_oddsAt_n61 : GoodIn wsX2_oddsIfMay (wsX5_oddsAt) := ggX2_oddsIfMay_X5_oddsAt
theorem dX2_oddsIfMay_0 : decode cX2_oddsIfMay 0 = .ok (.aload_n 0, 1) := dc1_42 (by decide +kernel)
theorem dX2_oddsIfMay_1 : decode cX2_oddsIfMay 1 = .ok (.getfield 28, 3) := dcw_180 (by decide +kernel)
theorem dX2_oddsIfMay_4 : decode cX2_oddsIfMay 4 = .ok (.aload_n 1, 1) := dc1_43 (by decide +kernel)
theorem dX2_oddsIfMay_5 : decode cX2_oddsIfMay 5 = .ok (.iload_n 2, 1) := dc1_28 (by decide +kernel)
theorem dX2_oddsIfMay_6 : decode cX2_oddsIfMay 6 = .ok (.invokevirtual 32, 3) := dcw_182 (by decide +kernel)
theorem dX2_oddsIfMay_9 : decode cX2_oddsIfMay 9 = .ok (.iload_n 3, 1) := dc1_29 (by decide +kernel)
theorem dX2_oddsIfMay_10 : decode cX2_oddsIfMay 10 = .ok (.invokestatic 57, 3) := dcw_184 (by decide +kernel)
theorem dX2_oddsIfMay_13 : decode cX2_oddsIfMay 13 = .ok (.ifCond .eq 15, 3) := dcs_153 (n := 15) (by decide +kernel)
theorem dX2_oddsIfMay_16 : decode cX2_oddsIfMay 16 = .ok (.aload_n 0, 1) := dc1_42 (by decide +kernel)
theorem dX2_oddsIfMay_17 : decode cX2_oddsIfMay 17 = .ok (.getfield 24, 3) := dcw_180 (by decide +kernel)
theorem dX2_oddsIfMay_20 : decode cX2_oddsIfMay 20 = .ok (.iload_n 2, 1) := dc1_28 (by decide +kernel)
theorem dX2_oddsIfMay_21 : decode cX2_oddsIfMay 21 = .ok (.iload_n 3, 1) := dc1_29 (by decide +kernel)
theorem dX2_oddsIfMay_22 : decode cX2_oddsIfMay 22 = .ok (.invokevirtual 61, 3) := dcw_182 (by decide +kernel)
theorem dX2_oddsIfMay_25 : decode cX2_oddsIfMay 25 = .ok (.goto 4, 3) := dcs_167 (n := 4) (by decide +kernel)
theorem dX2_oddsIfMay_28 : decode cX2_oddsIfMay 28 = .ok (.iconst 0, 1) := dc1_3 (by decide +kernel)
theorem dX2_oddsIfMay_29 : decode cX2_oddsIfMay 29 = .ok (.ireturn, 1) := dc1_172 (by decide +kernel)
theorem ggX2_oddsOf_X10_thingIn : GoodIn wsX2_oddsOf wsX10_thingIn := gi_sub (fun w h => List.mem_cons_of_mem _ (List.mem_append_left _ (List.mem_append_left _ (List.mem_append_left _ (List.mem_append_left _ (List.mem_append_right _ (List.mem_append_left _ h))))))) gd_wsX10_thingIn
set_option maxRecDepth 20000 in
theorem gX2_oddsOf_X10_thingIn_n65 : GoodIn wsX2_oddsOf (wsX10_thingIn) := ggX2_oddsOf_X10_thingIn
theorem ggX2_oddsOf_X2_oddsIfMay : GoodIn wsX2_oddsOf wsX2_oddsIfMay := gi_sub (fun w h => List.mem_cons_of_mem _ (List.mem_append_left _ (List.mem_append_left _ (List.mem_append_left _ (List.mem_append_left _ (List.mem_append_right _ (List.mem_append_right _ h))))))) gd_wsX2_oddsIfMay
set_option maxRecDepth 20000 in
theorem gX2_oddsOf_X2_oddsIfMay : GoodIn wsX2_oddsOf (wsV RX2 53 RX2 yX2_oddsIfMay wsX2_oddsIfMay) := goodIn_app (goodIn_r _ [4, 5, 6, 7] (by decide +kernel) (by decide +kernel)) ggX2_oddsOf_X2_oddsIfMay
theorem dX2_oddsOf_0 : decode cX2_oddsOf 0 = .ok (.iconst 1, 1) := dc1_4 (by decide +kernel)
theorem dX2_oddsOf_1 : decode cX2_oddsOf 1 = .ok (.istore_n 3, 1) := dc1_62 (by decide +kernel)
theorem dX2_oddsOf_2 : decode cX2_oddsOf 2 = .ok (.iconst 0, 1) := dc1_3 (by decide +kernel)
theorem dX2_oddsOf_3 : decode cX2_oddsOf 3 = .ok (.istore 4, 2) := dcu_54 (by decide +kernel)
theorem dX2_oddsOf_5 : decode cX2_oddsOf 5 = .ok (.iload 4, 2) := dcu_21 (by decide +kernel)
theorem dX2_oddsOf_7 : decode cX2_oddsOf 7 = .ok (.aload_n 0, 1) := dc1_42 (by decide +kernel)
theorem dX2_oddsOf_8 : decode cX2_oddsOf 8 = .ok (.getfield 24, 3) := dcw_180 (by decide +kernel)
theorem dX2_oddsOf_11 : decode cX2_oddsOf 11 = .ok (.getfield 44, 3) := dcw_180 (by decide +kernel)
theorem dX2_oddsOf_14 : decode cX2_oddsOf 14 = .ok (.if_icmp .ge 25, 3) := dcs_162 (n := 25) (by decide +kernel)
theorem dX2_oddsOf_17 : decode cX2_oddsOf 17 = .ok (.iload_n 3, 1) := dc1_29 (by decide +kernel)
theorem dX2_oddsOf_18 : decode cX2_oddsOf 18 = .ok (.aload_n 0, 1) := dc1_42 (by decide +kernel)
theorem dX2_oddsOf_19 : decode cX2_oddsOf 19 = .ok (.aload_n 1, 1) := dc1_43 (by decide +kernel)
theorem dX2_oddsOf_20 : decode cX2_oddsOf 20 = .ok (.iload 4, 2) := dcu_21 (by decide +kernel)
theorem dX2_oddsOf_22 : decode cX2_oddsOf 22 = .ok (.iload_n 2, 1) := dc1_28 (by decide +kernel)
theorem dX2_oddsOf_23 : decode cX2_oddsOf 23 = .ok (.iload 4, 2) := dcu_21 (by decide +kernel)
theorem dX2_oddsOf_25 : decode cX2_oddsOf 25 = .ok (.invokestatic 65, 3) := dcw_184 (by decide +kernel)
theorem dX2_oddsOf_28 : decode cX2_oddsOf 28 = .ok (.invokevirtual 53, 3) := dcw_182 (by decide +kernel)
theorem dX2_oddsOf_31 : decode cX2_oddsOf 31 = .ok (.imul, 1) := dc1_104 (by decide +kernel)
theorem dX2_oddsOf_32 : decode cX2_oddsOf 32 = .ok (.istore_n 3, 1) := dc1_62 (by decide +kernel)
theorem dX2_oddsOf_33 : decode cX2_oddsOf 33 = .ok (.iinc 4 1, 3) := dc_iinc (m := 1) (by decide +kernel)
theorem dX2_oddsOf_36 : decode cX2_oddsOf 36 = .ok (.goto (-31), 3) := dcs_167 (n := 65505) (by decide +kernel)
theorem dX2_oddsOf_39 : decode cX2_oddsOf 39 = .ok (.iload_n 3, 1) := dc1_29 (by decide +kernel)
theorem dX2_oddsOf_40 : decode cX2_oddsOf 40 = .ok (.ireturn, 1) := dc1_172 (by decide +kernel)
theorem ggX2_goesAtMost_X2_mayCount : GoodIn wsX2_goesAtMost wsX2_mayCount := gi_sub (fun w h => List.mem_cons_of_mem _ (List.mem_append_left _ (List.mem_append_left _ (List.mem_append_left _ (List.mem_append_left _ (List.mem_append_right _ h)))))) gd_wsX2_mayCount
set_option maxRecDepth 20000 in
theorem gX2_goesAtMost_X2_mayCount : GoodIn wsX2_goesAtMost (wsV RX2 50 RX2 yX2_mayCount wsX2_mayCount) := goodIn_app (goodIn_r _ [2, 3, 4, 5] (by decide +kernel) (by decide +kernel)) ggX2_goesAtMost_X2_mayCount
theorem dX2_goesAtMost_0 : decode cX2_goesAtMost 0 = .ok (.iconst 1, 1) := dc1_4 (by decide +kernel)
theorem dX2_goesAtMost_1 : decode cX2_goesAtMost 1 = .ok (.istore_n 2, 1) := dc1_61 (by decide +kernel)
theorem dX2_goesAtMost_2 : decode cX2_goesAtMost 2 = .ok (.iconst 0, 1) := dc1_3 (by decide +kernel)
theorem dX2_goesAtMost_3 : decode cX2_goesAtMost 3 = .ok (.istore_n 3, 1) := dc1_62 (by decide +kernel)
theorem dX2_goesAtMost_4 : decode cX2_goesAtMost 4 = .ok (.iload_n 3, 1) := dc1_29 (by decide +kernel)
theorem dX2_goesAtMost_5 : decode cX2_goesAtMost 5 = .ok (.aload_n 0, 1) := dc1_42 (by decide +kernel)
theorem dX2_goesAtMost_6 : decode cX2_goesAtMost 6 = .ok (.getfield 24, 3) := dcw_180 (by decide +kernel)
theorem dX2_goesAtMost_9 : decode cX2_goesAtMost 9 = .ok (.getfield 44, 3) := dcw_180 (by decide +kernel)
theorem dX2_goesAtMost_12 : decode cX2_goesAtMost 12 = .ok (.if_icmp .ge 20, 3) := dcs_162 (n := 20) (by decide +kernel)
theorem dX2_goesAtMost_15 : decode cX2_goesAtMost 15 = .ok (.iload_n 2, 1) := dc1_28 (by decide +kernel)
theorem dX2_goesAtMost_16 : decode cX2_goesAtMost 16 = .ok (.aload_n 0, 1) := dc1_42 (by decide +kernel)
theorem dX2_goesAtMost_17 : decode cX2_goesAtMost 17 = .ok (.aload_n 1, 1) := dc1_43 (by decide +kernel)
theorem dX2_goesAtMost_18 : decode cX2_goesAtMost 18 = .ok (.iload_n 3, 1) := dc1_29 (by decide +kernel)
theorem dX2_goesAtMost_19 : decode cX2_goesAtMost 19 = .ok (.invokevirtual 50, 3) := dcw_182 (by decide +kernel)
theorem dX2_goesAtMost_22 : decode cX2_goesAtMost 22 = .ok (.iconst 1, 1) := dc1_4 (by decide +kernel)
theorem dX2_goesAtMost_23 : decode cX2_goesAtMost 23 = .ok (.isub, 1) := dc1_100 (by decide +kernel)
theorem dX2_goesAtMost_24 : decode cX2_goesAtMost 24 = .ok (.iadd, 1) := dc1_96 (by decide +kernel)
theorem dX2_goesAtMost_25 : decode cX2_goesAtMost 25 = .ok (.istore_n 2, 1) := dc1_61 (by decide +kernel)
theorem dX2_goesAtMost_26 : decode cX2_goesAtMost 26 = .ok (.iinc 3 1, 3) := dc_iinc (m := 1) (by decide +kernel)
theorem dX2_goesAtMost_29 : decode cX2_goesAtMost 29 = .ok (.goto (-25), 3) := dcs_167 (n := 65511) (by decide +kernel)
theorem dX2_goesAtMost_32 : decode cX2_goesAtMost 32 = .ok (.iload_n 2, 1) := dc1_28 (by decide +kernel)
theorem dX2_goesAtMost_33 : decode cX2_goesAtMost 33 = .ok (.ireturn, 1) := dc1_172 (by decide +kernel)
theorem LX0_setWave_27 : Cond.fieldLink RX0 27 "GuessFerry$Crossing" "vars" "[I" ∈ wsX0_setWave := (List.mem_cons_of_mem _ (List.mem_append_left _ (List.mem_append_left _ (List.mem_append_left _ (List.mem_append_left _ (List.mem_of_getElem? (i := 0) rfl))))))
theorem inX0_setWave_X0 : ∀ w ∈ u_ws RX0 TX0 2, w ∈ wsX0_setWave := fun w h => (List.mem_cons_of_mem _ (List.mem_append_left _ (List.mem_append_left _ (List.mem_append_right _ h))))
theorem inX0_setWave_X6 : ∀ w ∈ u_ws RX6 TX6 7, w ∈ wsX0_setWave := fun w h => (List.mem_cons_of_mem _ (List.mem_append_left _ (List.mem_append_right _ h)))
set_option maxHeartbeats 4000000 in
set_option maxRecDepth 100000 in
theorem bkX0_setWave {l : Launch} {dC : Nat → ClassId} {dI : Nat → Nat → Nat} {cB cI cJ cZ cS : ClassId} {a b : Nat → Nat} {as : List Value} {s' : JS} (s : JS) (x2 : Int32) (hB : kX0_setWave s x2 = some s') : BlkV l yX0_setWave wsX0_setWave ({ frames := 1, cells := 0, slots := 0, locals := 22 }) cX0_setWave 3 none (dC, dI) (tysA cB cI cJ cZ cS) as 0 (wJ cB cI cJ cZ cS a b s) [(0, .ref (a 35)), (1, .ref (b 0)), (2, .int x2)] [] (fun u => u = (wJ cB cI cJ cZ cS a b s')) := by
  intro p e s0 m below meth c A E H locs ls hP hD hS hl
  obtain ⟨C, hr, hlocks, hA, hK, hN⟩ := id E
  obtain ⟨hx, hb, hml, hown, hts⟩ := id C
  unfold kX0_setWave at hB
  refine lv_aload_n hx hb dX0_setWave_0 rfl (lv_at hl 0 rfl) ?_
  refine q_get (v := .ref (a 13)) C inX0_setWave_X0 hK hP 41 rfl rfl 1 (by decide) rfl LX0_setWave_27 rfl dX0_setWave_1 ?_
  refine lv_iconst (v := 0) hx hb dX0_setWave_4 (by decide) ?_
  refine lv_iload_n hx hb dX0_setWave_5 rfl (lv_at hl 2 rfl) ?_
  obtain ⟨s1, hs2, hB⟩ := letS_inv hB
  refine q_iast (f2 := (upd (s.k.f 13) 0 x2)) (w2 := (wJ cB cI cJ cZ cS a b s1)) C hK hP hD hS 19 1 rfl rfl (vp_lit (by decide +kernel)) dX0_setWave_6 rfl (by subst hs2; rfl) (fun H locs hP hD hS => ?_)
  refine lv_aload_n hx hb dX0_setWave_7 rfl (lv_at hl 0 rfl) ?_
  refine q_get (v := .ref (a 13)) C inX0_setWave_X0 hK hP 41 rfl rfl 1 (by decide) rfl LX0_setWave_27 rfl dX0_setWave_8 ?_
  refine lv_iconst (v := 4) hx hb dX0_setWave_11 (by decide) ?_
  refine lv_aload_n hx hb dX0_setWave_12 rfl (lv_at hl 0 rfl) ?_
  refine lv_aload_n hx hb dX0_setWave_13 rfl (lv_at hl 1 rfl) ?_
  refine lv_iload_n hx hb dX0_setWave_14 rfl (lv_at hl 2 rfl) ?_
  obtain ⟨q_, s3, hc, hB⟩ := bindI_inv hB
  refine q_goiF (va_runV (As := [.ref (b 0), .int x2]) (rest := [.int 4, .ref (a 13)]) C (ckX0_mayBe hc _) (cwV 2 hts gX0_setWave_X0_mayBe rfl rfl rfl (by decide +kernel) ⟨Nat.le_of_ble_eq_true rfl, Nat.le_of_ble_eq_true rfl⟩) (q_preV hK hP (ci := 0) (q0 := 41) rfl rfl rfl (q_preF hN hK hP hD)) rfl rfl hl.1 rfl (lv_room (Nat.le_of_ble_eq_true rfl)) dX0_setWave_15 ⟨Nat.le_of_ble_eq_true rfl, Nat.le_of_ble_eq_true rfl⟩) hD hS hA (fun r4 w1 H locs hw hP hD hS => ?_)
  obtain ⟨hq_, hw⟩ := hw; subst hw; subst hq_
  obtain ⟨q_, hc, hB⟩ := bindP_inv hB
  refine q_goi0 (va_runS (As := [.int r4]) (rest := [.int 4, .ref (a 13)]) C (ckJ6_bitCount_0f7a4 hc _) (va_cwS 1 hts gX0_setWave_J6_bitCount_0f7a4 rfl rfl rfl (by decide +kernel) ⟨Nat.le_of_ble_eq_true rfl, Nat.le_of_ble_eq_true rfl⟩) (q_pre0 hN hK) rfl rfl hl.1 rfl (lv_room (Nat.le_of_ble_eq_true rfl)) dX0_setWave_18 ⟨Nat.le_of_ble_eq_true rfl, Nat.le_of_ble_eq_true rfl⟩) hP hD hS hA (fun r5 w1 H locs hw hP hS => ?_)
  subst hw
  obtain ⟨s6, hs7, hB⟩ := letS_inv hB
  refine q_iast (f2 := (upd (s3.k.f 13) 4 r5)) (w2 := (wJ cB cI cJ cZ cS a b s6)) C hK hP hD hS 19 1 rfl rfl (vp_lit (by decide +kernel)) dX0_setWave_21 rfl (by subst hs7; rfl) (fun H locs hP hD hS => ?_)
  refine lv_aload_n hx hb dX0_setWave_22 rfl (lv_at hl 0 rfl) ?_
  refine q_get (v := .ref (a 13)) C inX0_setWave_X0 hK hP 41 rfl rfl 1 (by decide) rfl LX0_setWave_27 rfl dX0_setWave_23 ?_
  refine lv_bipush (v := 7) hx hb dX0_setWave_26 (by decide) ?_
  refine lv_aload_n hx hb dX0_setWave_28 rfl (lv_at hl 1 rfl) ?_
  refine q_getN (v := .ref (b 2)) C hN inX0_setWave_X6 hK hP 0 rfl rfl 1 (by decide) rfl nwF_X0_36 rfl dX0_setWave_29 ?_
  refine lv_iload_n hx hb dX0_setWave_32 rfl (lv_at hl 2 rfl) ?_
  obtain ⟨g8, hB⟩ := guard_inv hB
  refine q_iald (x := ((s6.d.f 1) (Int32.toNatClampNeg x2))) C hK hP 2 1 rfl rfl (vpb_in g8) dX0_setWave_33 rfl ?_
  obtain ⟨q_, hc, hB⟩ := bindP_inv hB
  refine q_goi0 (va_runS (As := [.int ((s6.d.f 1) (Int32.toNatClampNeg x2))]) (rest := [.int 7, .ref (a 13)]) C (ckJ6_bitCount_0f7a4 hc _) (va_cwS 1 hts gX0_setWave_J6_bitCount_0f7a4 rfl rfl rfl (by decide +kernel) ⟨Nat.le_of_ble_eq_true rfl, Nat.le_of_ble_eq_true rfl⟩) (q_pre0 hN hK) rfl rfl hl.1 rfl (lv_room (Nat.le_of_ble_eq_true rfl)) dX0_setWave_34 ⟨Nat.le_of_ble_eq_true rfl, Nat.le_of_ble_eq_true rfl⟩) hP hD hS hA (fun r9 w1 H locs hw hP hS => ?_)
  subst hw
  obtain ⟨s10, hs11, hB⟩ := letS_inv hB
  refine q_iast (f2 := (upd (s6.k.f 13) 7 r9)) (w2 := (wJ cB cI cJ cZ cS a b s10)) C hK hP hD hS 19 1 rfl rfl (vp_lit (by decide +kernel)) dX0_setWave_37 rfl (by subst hs11; rfl) (fun H locs hP hD hS => ?_)
  exact q_vret C hr hlocks hK hP hD hS (Nat.le_of_ble_eq_true rfl) (Nat.le_of_ble_eq_true rfl) dX0_setWave_38 (by cases hB; rfl)
theorem ckX0_setWave {l : Launch} {dC : Nat → ClassId} {dI : Nat → Nat → Nat} {cB cI cJ cZ cS : ClassId} {a b : Nat → Nat} {s' : JS} {s : JS} {x2 : Int32} (hB : kX0_setWave s x2 = some s') : CV l yX0_setWave wsX0_setWave ({ frames := 1, cells := 0, slots := 0, locals := 22 }) (dC, dI) (tysA cB cI cJ cZ cS) (wJ cB cI cJ cZ cS a b s) [.ref (a 35), .ref (b 0), .int x2] (fun u => u = (wJ cB cI cJ cZ cS a b s')) :=
  CV_of (cc := cX0_setWave) (maxL := 3) (ret := none) (by decide) rfl (Nat.le_of_ble_eq_true rfl) (bkX0_setWave _ _ hB)
set_option maxHeartbeats 4000000 in
set_option maxRecDepth 100000 in
theorem bkX1_putNumber {l : Launch} {dC : Nat → ClassId} {dI : Nat → Nat → Nat} {cB cI cJ cZ cS : ClassId} {a : Nat → Nat} {as : List Value} {s' : KS} (s : KS) (x1 : Int32) (hB : kX1_putNumber s x1 = some s') : BlkV l yX1_putNumber wsX1_putNumber ({ frames := 1, cells := 0, slots := 0, locals := 21 }) cX1_putNumber 2 none (dC, dI) (tysA cB cI cJ cZ cS) as 0 (wK cB cI cJ cZ cS a s) [(0, .ref (a 21)), (1, .int x1)] [] (fun u => u = (wK cB cI cJ cZ cS a s')) := by
  intro p e s0 m below meth c A E H locs ls hP hD hS hl
  obtain ⟨C, hr, hlocks, hA, hK, hN⟩ := id E
  obtain ⟨hx, hb, hml, hown, hts⟩ := id C
  unfold kX1_putNumber at hB
  refine lv_aload_n hx hb dX1_putNumber_0 rfl (lv_at hl 0 rfl) ?_
  refine lv_iload_n hx hb dX1_putNumber_1 rfl (lv_at hl 1 rfl) ?_
  obtain ⟨s1, hc, hB⟩ := bindP_inv hB
  refine q_govF (va_runV (As := [.int x1]) (rest := []) C (ckX1_put hc _) (cwV 1 hts gX1_putNumber_X1_put rfl rfl rfl (by decide +kernel) ⟨Nat.le_of_ble_eq_true rfl, Nat.le_of_ble_eq_true rfl⟩) (q_preV hK hP (ci := 1) (q0 := 21) rfl rfl rfl (q_preF hN hK hP hD)) rfl rfl hl.1 rfl (lv_room (Nat.le_of_ble_eq_true rfl)) dX1_putNumber_2 ⟨Nat.le_of_ble_eq_true rfl, Nat.le_of_ble_eq_true rfl⟩) hD hS hA (fun w1 H locs hw hP hD hS => ?_)
  subst hw
  exact q_vret C hr hlocks hK hP hD hS (Nat.le_of_ble_eq_true rfl) (Nat.le_of_ble_eq_true rfl) dX1_putNumber_5 (by cases hB; rfl)
theorem ckX1_putNumber {l : Launch} {dC : Nat → ClassId} {dI : Nat → Nat → Nat} {cB cI cJ cZ cS : ClassId} {a : Nat → Nat} {s' : KS} {s : KS} {x1 : Int32} (hB : kX1_putNumber s x1 = some s') : CV l yX1_putNumber wsX1_putNumber ({ frames := 1, cells := 0, slots := 0, locals := 21 }) (dC, dI) (tysA cB cI cJ cZ cS) (wK cB cI cJ cZ cS a s) [.ref (a 21), .int x1] (fun u => u = (wK cB cI cJ cZ cS a s')) :=
  CV_of (cc := cX1_putNumber) (maxL := 2) (ret := none) (by decide) rfl (Nat.le_of_ble_eq_true rfl) (bkX1_putNumber _ _ hB)
set_option maxHeartbeats 4000000 in
set_option maxRecDepth 100000 in
theorem bkX1_putVar {l : Launch} {dC : Nat → ClassId} {dI : Nat → Nat → Nat} {cB cI cJ cZ cS : ClassId} {a : Nat → Nat} {as : List Value} {s' : KS} (s : KS) (x1 : Int32) (hB : kX1_putVar s x1 = some s') : BlkV l yX1_putVar wsX1_putVar ({ frames := 1, cells := 0, slots := 0, locals := 21 }) cX1_putVar 2 none (dC, dI) (tysA cB cI cJ cZ cS) as 0 (wK cB cI cJ cZ cS a s) [(0, .ref (a 21)), (1, .int x1)] [] (fun u => u = (wK cB cI cJ cZ cS a s')) := by
  intro p e s0 m below meth c A E H locs ls hP hD hS hl
  obtain ⟨C, hr, hlocks, hA, hK, hN⟩ := id E
  obtain ⟨hx, hb, hml, hown, hts⟩ := id C
  unfold kX1_putVar at hB
  refine lv_aload_n hx hb dX1_putVar_0 rfl (lv_at hl 0 rfl) ?_
  refine lv_iconst (v := (-1)) hx hb dX1_putVar_1 (by decide) ?_
  refine lv_iload_n hx hb dX1_putVar_2 rfl (lv_at hl 1 rfl) ?_
  refine lv_isub hx hb dX1_putVar_3 ?_
  obtain ⟨s1, hc, hB⟩ := bindP_inv hB
  refine q_govF (va_runV (As := [.int ((-1) - x1)]) (rest := []) C (ckX1_put hc _) (cwV 1 hts gX1_putVar_X1_put rfl rfl rfl (by decide +kernel) ⟨Nat.le_of_ble_eq_true rfl, Nat.le_of_ble_eq_true rfl⟩) (q_preV hK hP (ci := 1) (q0 := 21) rfl rfl rfl (q_preF hN hK hP hD)) rfl rfl hl.1 rfl (lv_room (Nat.le_of_ble_eq_true rfl)) dX1_putVar_4 ⟨Nat.le_of_ble_eq_true rfl, Nat.le_of_ble_eq_true rfl⟩) hD hS hA (fun w1 H locs hw hP hD hS => ?_)
  subst hw
  exact q_vret C hr hlocks hK hP hD hS (Nat.le_of_ble_eq_true rfl) (Nat.le_of_ble_eq_true rfl) dX1_putVar_7 (by cases hB; rfl)
theorem ckX1_putVar {l : Launch} {dC : Nat → ClassId} {dI : Nat → Nat → Nat} {cB cI cJ cZ cS : ClassId} {a : Nat → Nat} {s' : KS} {s : KS} {x1 : Int32} (hB : kX1_putVar s x1 = some s') : CV l yX1_putVar wsX1_putVar ({ frames := 1, cells := 0, slots := 0, locals := 21 }) (dC, dI) (tysA cB cI cJ cZ cS) (wK cB cI cJ cZ cS a s) [.ref (a 21), .int x1] (fun u => u = (wK cB cI cJ cZ cS a s')) :=
  CV_of (cc := cX1_putVar) (maxL := 2) (ret := none) (by decide) rfl (Nat.le_of_ble_eq_true rfl) (bkX1_putVar _ _ hB)
set_option maxHeartbeats 4000000 in
set_option maxRecDepth 100000 in
theorem bkX1_putSign {l : Launch} {dC : Nat → ClassId} {dI : Nat → Nat → Nat} {cB cI cJ cZ cS : ClassId} {a : Nat → Nat} {as : List Value} {s' : KS} (s : KS) (x1 : Int32) (hB : kX1_putSign s x1 = some s') : BlkV l yX1_putSign wsX1_putSign ({ frames := 1, cells := 0, slots := 0, locals := 21 }) cX1_putSign 2 none (dC, dI) (tysA cB cI cJ cZ cS) as 0 (wK cB cI cJ cZ cS a s) [(0, .ref (a 21)), (1, .int x1)] [] (fun u => u = (wK cB cI cJ cZ cS a s')) := by
  intro p e s0 m below meth c A E H locs ls hP hD hS hl
  obtain ⟨C, hr, hlocks, hA, hK, hN⟩ := id E
  obtain ⟨hx, hb, hml, hown, hts⟩ := id C
  unfold kX1_putSign at hB
  refine lv_aload_n hx hb dX1_putSign_0 rfl (lv_at hl 0 rfl) ?_
  refine lv_iload_n hx hb dX1_putSign_1 rfl (lv_at hl 1 rfl) ?_
  refine lv_ineg hx hb dX1_putSign_2 ?_
  obtain ⟨s1, hc, hB⟩ := bindP_inv hB
  refine q_govF (va_runV (As := [.int (-x1)]) (rest := []) C (ckX1_put hc _) (cwV 1 hts gX1_putSign_X1_put rfl rfl rfl (by decide +kernel) ⟨Nat.le_of_ble_eq_true rfl, Nat.le_of_ble_eq_true rfl⟩) (q_preV hK hP (ci := 1) (q0 := 21) rfl rfl rfl (q_preF hN hK hP hD)) rfl rfl hl.1 rfl (lv_room (Nat.le_of_ble_eq_true rfl)) dX1_putSign_3 ⟨Nat.le_of_ble_eq_true rfl, Nat.le_of_ble_eq_true rfl⟩) hD hS hA (fun w1 H locs hw hP hD hS => ?_)
  subst hw
  exact q_vret C hr hlocks hK hP hD hS (Nat.le_of_ble_eq_true rfl) (Nat.le_of_ble_eq_true rfl) dX1_putSign_6 (by cases hB; rfl)
theorem ckX1_putSign {l : Launch} {dC : Nat → ClassId} {dI : Nat → Nat → Nat} {cB cI cJ cZ cS : ClassId} {a : Nat → Nat} {s' : KS} {s : KS} {x1 : Int32} (hB : kX1_putSign s x1 = some s') : CV l yX1_putSign wsX1_putSign ({ frames := 1, cells := 0, slots := 0, locals := 21 }) (dC, dI) (tysA cB cI cJ cZ cS) (wK cB cI cJ cZ cS a s) [.ref (a 21), .int x1] (fun u => u = (wK cB cI cJ cZ cS a s')) :=
  CV_of (cc := cX1_putSign) (maxL := 2) (ret := none) (by decide) rfl (Nat.le_of_ble_eq_true rfl) (bkX1_putSign _ _ hB)
theorem LX1_partValue_15 : Cond.fieldLink RX1 15 "GuessFerry$Laws" "steps" "[I" ∈ wsX1_partValue := (List.mem_cons_of_mem _ (List.mem_append_left _ (List.mem_append_left _ (List.mem_of_getElem? (i := 2) rfl))))
theorem LX1_partValue_19 : Cond.fieldLink RX1 19 "GuessFerry$Laws" "partEnds" "[I" ∈ wsX1_partValue := (List.mem_cons_of_mem _ (List.mem_append_left _ (List.mem_append_left _ (List.mem_of_getElem? (i := 0) rfl))))
theorem LX1_partValue_22 : Cond.fieldLink RX1 22 "GuessFerry$Laws" "lawStarts" "[I" ∈ wsX1_partValue := (List.mem_cons_of_mem _ (List.mem_append_left _ (List.mem_append_left _ (List.mem_of_getElem? (i := 1) rfl))))
theorem LX1_partValue_28 : Cond.fieldLink RX1 28 "GuessFerry$Laws" "vars" "[I" ∈ wsX1_partValue := (List.mem_cons_of_mem _ (List.mem_append_left _ (List.mem_append_left _ (List.mem_of_getElem? (i := 4) rfl))))
theorem LX1_partValue_31 : Cond.fieldLink RX1 31 "GuessFerry$Laws" "stack" "[I" ∈ wsX1_partValue := (List.mem_cons_of_mem _ (List.mem_append_left _ (List.mem_append_left _ (List.mem_of_getElem? (i := 3) rfl))))
theorem inX1_partValue_X1 : ∀ w ∈ u_ws RX1 TX1 9, w ∈ wsX1_partValue := fun w h => (List.mem_cons_of_mem _ (List.mem_append_right _ h))
set_option maxHeartbeats 4000000 in
set_option maxRecDepth 100000 in
theorem bkX1_partValue_156 {l : Launch} {dC : Nat → ClassId} {dI : Nat → Nat → Nat} {cB cI cJ cZ cS : ClassId} {a : Nat → Nat} {as : List Value} {r : Int32} {s' : KS} {k53 : KS → Int32 → Int32 → Int32 → Option (Int32 × KS)} (hk53 : ∀ (s : KS) (x4 : Int32) (x5 : Int32) (x6 : Int32), k53 s x4 x5 x6 = some (r, s') → BlkI l yX1_partValue wsX1_partValue ({ frames := 1, cells := 0, slots := 0, locals := 23 }) cX1_partValue 8 (some .int) (dC, dI) (tysA cB cI cJ cZ cS) as 53 (wK cB cI cJ cZ cS a s) [(0, .ref (a 8)), (4, .int x4), (5, .int x5), (6, .int x6)] [] (fun x u => x = r ∧ u = (wK cB cI cJ cZ cS a s'))) (s : KS) (x4 : Int32) (x5 : Int32) (x6 : Int32) (hB : kX1_partValue_156 k53 s x4 x5 x6 = some (r, s')) : BlkI l yX1_partValue wsX1_partValue ({ frames := 1, cells := 0, slots := 0, locals := 23 }) cX1_partValue 8 (some .int) (dC, dI) (tysA cB cI cJ cZ cS) as 156 (wK cB cI cJ cZ cS a s) [(0, .ref (a 8)), (4, .int x4), (5, .int x5), (6, .int x6)] [] (fun x u => x = r ∧ u = (wK cB cI cJ cZ cS a s')) := by
  intro p e s0 m below meth c A E H locs ls hP hD hS hl
  obtain ⟨C, hr, hlocks, hA, hK, hN⟩ := id E
  obtain ⟨hx, hb, hml, hown, hts⟩ := id C
  unfold kX1_partValue_156 at hB
  refine lv_iinc (v := (x6 + 1)) (lv' := [(6, .int (x6 + 1)), (0, .ref (a 8)), (4, .int x4), (5, .int x5)]) hx hb dX1_partValue_156 hl (k := 3) rfl (rfl) (by decide) rfl (fun ls hl => ?_)
  refine lv_goto (tgt := 53) hx hb dX1_partValue_159 (by decide) ?_
  exact hk53 _ _ _ _ hB p e s0 m below meth c A E H locs ls hP hD hS (lv_sub hl [1, 2, 3, 0] rfl)
set_option maxHeartbeats 4000000 in
set_option maxRecDepth 100000 in
theorem bkX1_partValue_115 {l : Launch} {dC : Nat → ClassId} {dI : Nat → Nat → Nat} {cB cI cJ cZ cS : ClassId} {a : Nat → Nat} {as : List Value} {r : Int32} {s' : KS} {k53 : KS → Int32 → Int32 → Int32 → Option (Int32 × KS)} (hk53 : ∀ (s : KS) (x4 : Int32) (x5 : Int32) (x6 : Int32), k53 s x4 x5 x6 = some (r, s') → BlkI l yX1_partValue wsX1_partValue ({ frames := 1, cells := 0, slots := 0, locals := 23 }) cX1_partValue 8 (some .int) (dC, dI) (tysA cB cI cJ cZ cS) as 53 (wK cB cI cJ cZ cS a s) [(0, .ref (a 8)), (4, .int x4), (5, .int x5), (6, .int x6)] [] (fun x u => x = r ∧ u = (wK cB cI cJ cZ cS a s'))) (s : KS) (x4 : Int32) (x5 : Int32) (x6 : Int32) (x7 : Int32) (hB : kX1_partValue_115 k53 s x4 x5 x6 x7 = some (r, s')) : BlkI l yX1_partValue wsX1_partValue ({ frames := 1, cells := 0, slots := 0, locals := 23 }) cX1_partValue 8 (some .int) (dC, dI) (tysA cB cI cJ cZ cS) as 115 (wK cB cI cJ cZ cS a s) [(0, .ref (a 8)), (4, .int x4), (5, .int x5), (6, .int x6), (7, .int x7)] [] (fun x u => x = r ∧ u = (wK cB cI cJ cZ cS a s')) := by
  intro p e s0 m below meth c A E H locs ls hP hD hS hl
  obtain ⟨C, hr, hlocks, hA, hK, hN⟩ := id E
  obtain ⟨hx, hb, hml, hown, hts⟩ := id C
  unfold kX1_partValue_115 at hB
  refine lv_iload hx hb dX1_partValue_115 (lv_at hl 2 rfl) ?_
  refine lv_iconst (v := 2) hx hb dX1_partValue_117 (by decide) ?_
  refine lv_icmp_lt (tgt := 156) hx hb dX1_partValue_118 (by decide) (fun c1 => ?_) (fun c1 => ?_)
  · have hB := if_p hB c1
    exact bkX1_partValue_156 (hk53) _ _ _ _ hB p e s0 m below meth c A E H locs ls hP hD hS (lv_sub hl [0, 1, 2, 3] rfl)
  · have hB := if_n hB c1
    refine lv_iinc (v := (x5 + (-1))) (lv' := [(5, .int (x5 + (-1))), (0, .ref (a 8)), (4, .int x4), (6, .int x6), (7, .int x7)]) hx hb dX1_partValue_121 hl (k := 2) rfl (rfl) (by decide) rfl (fun ls hl => ?_)
    refine lv_aload_n hx hb dX1_partValue_124 rfl (lv_at hl 1 rfl) ?_
    refine q_get (v := .ref (a 14)) C inX1_partValue_X1 hK hP 8 rfl rfl 5 (by decide) rfl LX1_partValue_31 rfl dX1_partValue_125 ?_
    refine lv_iload hx hb dX1_partValue_128 (lv_at hl 0 rfl) ?_
    refine lv_iconst (v := 1) hx hb dX1_partValue_130 (by decide) ?_
    refine lv_isub hx hb dX1_partValue_131 ?_
    refine lv_aload_n hx hb dX1_partValue_132 rfl (lv_at hl 1 rfl) ?_
    refine lv_iload hx hb dX1_partValue_133 (lv_at hl 4 rfl) ?_
    refine lv_ineg hx hb dX1_partValue_135 ?_
    refine lv_aload_n hx hb dX1_partValue_136 rfl (lv_at hl 1 rfl) ?_
    refine q_get (v := .ref (a 14)) C inX1_partValue_X1 hK hP 8 rfl rfl 5 (by decide) rfl LX1_partValue_31 rfl dX1_partValue_137 ?_
    refine lv_iload hx hb dX1_partValue_140 (lv_at hl 0 rfl) ?_
    refine lv_iconst (v := 1) hx hb dX1_partValue_142 (by decide) ?_
    refine lv_isub hx hb dX1_partValue_143 ?_
    obtain ⟨g2, hB⟩ := guard_inv hB
    refine q_iald (x := ((s.f 14) (Int32.toNatClampNeg ((x5 + (-1)) - 1)))) C hK hP 14 1 rfl rfl (vpb_in g2) dX1_partValue_144 rfl ?_
    refine lv_aload_n hx hb dX1_partValue_145 rfl (lv_at hl 1 rfl) ?_
    refine q_get (v := .ref (a 14)) C inX1_partValue_X1 hK hP 8 rfl rfl 5 (by decide) rfl LX1_partValue_31 rfl dX1_partValue_146 ?_
    refine lv_iload hx hb dX1_partValue_149 (lv_at hl 0 rfl) ?_
    obtain ⟨g3, hB⟩ := guard_inv hB
    refine q_iald (x := ((s.f 14) (Int32.toNatClampNeg (x5 + (-1))))) C hK hP 14 1 rfl rfl (vpb_in g3) dX1_partValue_151 rfl ?_
    obtain ⟨q_, s4, hc, hB⟩ := bindI_inv hB
    refine q_goiF (va_runV (As := [.int (-x7), .int ((s.f 14) (Int32.toNatClampNeg ((x5 + (-1)) - 1))), .int ((s.f 14) (Int32.toNatClampNeg (x5 + (-1))))]) (rest := [.int ((x5 + (-1)) - 1), .ref (a 14)]) C (ckX1_joined hc _) (cwV 3 hts gX1_partValue_X1_joined rfl rfl rfl (by decide +kernel) ⟨Nat.le_of_ble_eq_true rfl, Nat.le_of_ble_eq_true rfl⟩) (q_preV hK hP (ci := 1) (q0 := 8) rfl rfl rfl (q_preF hN hK hP hD)) rfl rfl hl.1 rfl (lv_room (Nat.le_of_ble_eq_true rfl)) dX1_partValue_152 ⟨Nat.le_of_ble_eq_true rfl, Nat.le_of_ble_eq_true rfl⟩) hD hS hA (fun r5 w1 H locs hw hP hD hS => ?_)
    obtain ⟨hq_, hw⟩ := hw; subst hw; subst hq_
    obtain ⟨g6, hB⟩ := guard_inv hB
    obtain ⟨s7, hs8, hB⟩ := letS_inv hB
    refine q_iast (f2 := (upd (s4.f 14) (Int32.toNatClampNeg ((x5 + (-1)) - 1)) r5)) (w2 := (wK cB cI cJ cZ cS a s7)) C hK hP hD hS 14 1 rfl rfl (vpb_in g6) dX1_partValue_155 rfl (by subst hs8; rfl) (fun H locs hP hD hS => ?_)
    exact bkX1_partValue_156 (hk53) _ _ _ _ hB p e s0 m below meth c A E H locs ls hP hD hS (lv_sub hl [1, 2, 0, 3] rfl)
set_option maxHeartbeats 4000000 in
set_option maxRecDepth 100000 in
theorem bkX1_partValue_108 {l : Launch} {dC : Nat → ClassId} {dI : Nat → Nat → Nat} {cB cI cJ cZ cS : ClassId} {a : Nat → Nat} {as : List Value} {r : Int32} {s' : KS} {k53 : KS → Int32 → Int32 → Int32 → Option (Int32 × KS)} (hk53 : ∀ (s : KS) (x4 : Int32) (x5 : Int32) (x6 : Int32), k53 s x4 x5 x6 = some (r, s') → BlkI l yX1_partValue wsX1_partValue ({ frames := 1, cells := 0, slots := 0, locals := 23 }) cX1_partValue 8 (some .int) (dC, dI) (tysA cB cI cJ cZ cS) as 53 (wK cB cI cJ cZ cS a s) [(0, .ref (a 8)), (4, .int x4), (5, .int x5), (6, .int x6)] [] (fun x u => x = r ∧ u = (wK cB cI cJ cZ cS a s'))) (s : KS) (x4 : Int32) (x5 : Int32) (x6 : Int32) (t0 : Int32) (t1 : Int32) (hB : kX1_partValue_108 k53 s x4 x5 x6 t0 t1 = some (r, s')) : BlkI l yX1_partValue wsX1_partValue ({ frames := 1, cells := 0, slots := 0, locals := 23 }) cX1_partValue 8 (some .int) (dC, dI) (tysA cB cI cJ cZ cS) as 108 (wK cB cI cJ cZ cS a s) [(0, .ref (a 8)), (4, .int x4), (5, .int x5), (6, .int x6)] [.int t0, .int t1, .ref (a 14)] (fun x u => x = r ∧ u = (wK cB cI cJ cZ cS a s')) := by
  intro p e s0 m below meth c A E H locs ls hP hD hS hl
  obtain ⟨C, hr, hlocks, hA, hK, hN⟩ := id E
  obtain ⟨hx, hb, hml, hown, hts⟩ := id C
  unfold kX1_partValue_108 at hB
  obtain ⟨g1, hB⟩ := guard_inv hB
  obtain ⟨s2, hs3, hB⟩ := letS_inv hB
  refine q_iast (f2 := (upd (s.f 14) (Int32.toNatClampNeg t1) t0)) (w2 := (wK cB cI cJ cZ cS a s2)) C hK hP hD hS 14 1 rfl rfl (vpb_in g1) dX1_partValue_108 rfl (by subst hs3; rfl) (fun H locs hP hD hS => ?_)
  refine lv_iinc (v := (x5 + 1)) (lv' := [(5, .int (x5 + 1)), (0, .ref (a 8)), (4, .int x4), (6, .int x6)]) hx hb dX1_partValue_109 hl (k := 2) rfl (rfl) (by decide) rfl (fun ls hl => ?_)
  refine lv_goto (tgt := 156) hx hb dX1_partValue_112 (by decide) ?_
  exact bkX1_partValue_156 (hk53) _ _ _ _ hB p e s0 m below meth c A E H locs ls hP hD hS (lv_sub hl [1, 2, 0, 3] rfl)
set_option maxHeartbeats 4000000 in
set_option maxRecDepth 100000 in
theorem bkX1_partValue_53 {l : Launch} {dC : Nat → ClassId} {dI : Nat → Nat → Nat} {cB cI cJ cZ cS : ClassId} {a : Nat → Nat} {as : List Value} {r : Int32} {s' : KS} {k53 : KS → Int32 → Int32 → Int32 → Option (Int32 × KS)} (hk53 : ∀ (s : KS) (x4 : Int32) (x5 : Int32) (x6 : Int32), k53 s x4 x5 x6 = some (r, s') → BlkI l yX1_partValue wsX1_partValue ({ frames := 1, cells := 0, slots := 0, locals := 23 }) cX1_partValue 8 (some .int) (dC, dI) (tysA cB cI cJ cZ cS) as 53 (wK cB cI cJ cZ cS a s) [(0, .ref (a 8)), (4, .int x4), (5, .int x5), (6, .int x6)] [] (fun x u => x = r ∧ u = (wK cB cI cJ cZ cS a s'))) (s : KS) (x4 : Int32) (x5 : Int32) (x6 : Int32) (hB : kX1_partValue_53 k53 s x4 x5 x6 = some (r, s')) : BlkI l yX1_partValue wsX1_partValue ({ frames := 1, cells := 0, slots := 0, locals := 23 }) cX1_partValue 8 (some .int) (dC, dI) (tysA cB cI cJ cZ cS) as 53 (wK cB cI cJ cZ cS a s) [(0, .ref (a 8)), (4, .int x4), (5, .int x5), (6, .int x6)] [] (fun x u => x = r ∧ u = (wK cB cI cJ cZ cS a s')) := by
  intro p e s0 m below meth c A E H locs ls hP hD hS hl
  obtain ⟨C, hr, hlocks, hA, hK, hN⟩ := id E
  obtain ⟨hx, hb, hml, hown, hts⟩ := id C
  unfold kX1_partValue_53 at hB
  refine lv_iload hx hb dX1_partValue_53 (lv_at hl 3 rfl) ?_
  refine lv_iload hx hb dX1_partValue_55 (lv_at hl 1 rfl) ?_
  refine lv_icmp_ge (tgt := 162) hx hb dX1_partValue_57 (by decide) (fun c1 => ?_) (fun c1 => ?_)
  · have hB := if_p hB c1
    refine lv_aload_n hx hb dX1_partValue_162 rfl (lv_at hl 0 rfl) ?_
    refine q_get (v := .ref (a 14)) C inX1_partValue_X1 hK hP 8 rfl rfl 5 (by decide) rfl LX1_partValue_31 rfl dX1_partValue_163 ?_
    refine lv_iconst (v := 0) hx hb dX1_partValue_166 (by decide) ?_
    refine q_iald (x := ((s.f 14) 0)) C hK hP 14 1 rfl rfl (vp_lit (by decide +kernel)) dX1_partValue_167 rfl ?_
    exact q_iret C hr hlocks hK hP hD hS (Nat.le_of_ble_eq_true rfl) (Nat.le_of_ble_eq_true rfl) dX1_partValue_168 (by cases hB; exact ⟨rfl, rfl⟩)
  · have hB := if_n hB c1
    refine lv_aload_n hx hb dX1_partValue_60 rfl (lv_at hl 0 rfl) ?_
    refine q_get (v := .ref (a 9)) C inX1_partValue_X1 hK hP 8 rfl rfl 0 (by decide) rfl LX1_partValue_15 rfl dX1_partValue_61 ?_
    refine lv_iload hx hb dX1_partValue_64 (lv_at hl 3 rfl) ?_
    obtain ⟨g2, hB⟩ := guard_inv hB
    refine q_iald (x := ((s.f 9) (Int32.toNatClampNeg x6))) C hK hP 9 1 rfl rfl (vpb_in g2) dX1_partValue_66 rfl ?_
    refine lv_istore (lv' := [(7, .int ((s.f 9) (Int32.toNatClampNeg x6))), (0, .ref (a 8)), (4, .int x4), (5, .int x5), (6, .int x6)]) hx hb dX1_partValue_67 hl (by decide) rfl (fun ls hl => ?_)
    refine lv_iload hx hb dX1_partValue_69 (lv_at hl 0 rfl) ?_
    refine lv_bipush (v := (-9)) hx hb dX1_partValue_71 (by decide) ?_
    refine lv_icmp_lt (tgt := 115) hx hb dX1_partValue_73 (by decide) (fun c3 => ?_) (fun c3 => ?_)
    · have hB := if_p hB c3
      exact bkX1_partValue_115 (hk53) _ _ _ _ _ hB p e s0 m below meth c A E H locs ls hP hD hS (lv_sub hl [1, 2, 3, 4, 0] rfl)
    · have hB := if_n hB c3
      refine lv_iload hx hb dX1_partValue_76 (lv_at hl 3 rfl) ?_
      refine lv_bipush (v := 16) hx hb dX1_partValue_78 (by decide) ?_
      refine lv_icmp_ge (tgt := 115) hx hb dX1_partValue_80 (by decide) (fun c4 => ?_) (fun c4 => ?_)
      · have hB := if_p hB c4
        exact bkX1_partValue_115 (hk53) _ _ _ _ _ hB p e s0 m below meth c A E H locs ls hP hD hS (lv_sub hl [1, 2, 3, 4, 0] rfl)
      · have hB := if_n hB c4
        refine lv_aload_n hx hb dX1_partValue_83 rfl (lv_at hl 1 rfl) ?_
        refine q_get (v := .ref (a 14)) C inX1_partValue_X1 hK hP 8 rfl rfl 5 (by decide) rfl LX1_partValue_31 rfl dX1_partValue_84 ?_
        refine lv_iload hx hb dX1_partValue_87 (lv_at hl 3 rfl) ?_
        refine lv_iload hx hb dX1_partValue_89 (lv_at hl 0 rfl) ?_
        refine lv_if_lt (tgt := 99) hx hb dX1_partValue_91 (by decide) (fun c5 => ?_) (fun c5 => ?_)
        · have hB := if_p hB c5
          refine lv_aload_n hx hb dX1_partValue_99 rfl (lv_at hl 1 rfl) ?_
          refine q_get (v := .ref (a 13)) C inX1_partValue_X1 hK hP 8 rfl rfl 4 (by decide) rfl LX1_partValue_28 rfl dX1_partValue_100 ?_
          refine lv_iconst (v := (-1)) hx hb dX1_partValue_103 (by decide) ?_
          refine lv_iload hx hb dX1_partValue_104 (lv_at hl 0 rfl) ?_
          refine lv_isub hx hb dX1_partValue_106 ?_
          obtain ⟨g6, hB⟩ := guard_inv hB
          refine q_iald (x := ((s.f 13) (Int32.toNatClampNeg ((-1) - ((s.f 9) (Int32.toNatClampNeg x6)))))) C hK hP 13 1 rfl rfl (vpb_in g6) dX1_partValue_107 rfl ?_
          exact bkX1_partValue_108 (hk53) _ _ _ _ _ _ hB p e s0 m below meth c A E H locs ls hP hD hS (lv_sub hl [1, 2, 3, 4] rfl)
        · have hB := if_n hB c5
          refine lv_iload hx hb dX1_partValue_94 (lv_at hl 0 rfl) ?_
          refine lv_goto (tgt := 108) hx hb dX1_partValue_96 (by decide) ?_
          exact bkX1_partValue_108 (hk53) _ _ _ _ _ _ hB p e s0 m below meth c A E H locs ls hP hD hS (lv_sub hl [1, 2, 3, 4] rfl)
theorem bkX1_partValue_53L {l : Launch} {dC : Nat → ClassId} {dI : Nat → Nat → Nat} {cB cI cJ cZ cS : ClassId} {a : Nat → Nat} {as : List Value} {r : Int32} {s' : KS} : ∀ (n : Nat) (s : KS) (x4 : Int32) (x5 : Int32) (x6 : Int32), kX1_partValue_53L n s x4 x5 x6 = some (r, s') → BlkI l yX1_partValue wsX1_partValue ({ frames := 1, cells := 0, slots := 0, locals := 23 }) cX1_partValue 8 (some .int) (dC, dI) (tysA cB cI cJ cZ cS) as 53 (wK cB cI cJ cZ cS a s) [(0, .ref (a 8)), (4, .int x4), (5, .int x5), (6, .int x6)] [] (fun x u => x = r ∧ u = (wK cB cI cJ cZ cS a s')) := by
  intro n
  induction n with
  | zero => intro s x4 x5 x6 hB; exact none_ne hB
  | succ n ih => intro s x4 x5 x6 hB; exact bkX1_partValue_53 ih _ _ _ _ hB
set_option maxHeartbeats 4000000 in
set_option maxRecDepth 100000 in
theorem bkX1_partValue_51 {l : Launch} {dC : Nat → ClassId} {dI : Nat → Nat → Nat} {cB cI cJ cZ cS : ClassId} {a : Nat → Nat} {as : List Value} {r : Int32} {s' : KS} (s : KS) (x4 : Int32) (x5 : Int32) (t0 : Int32) (hB : kX1_partValue_51 s x4 x5 t0 = some (r, s')) : BlkI l yX1_partValue wsX1_partValue ({ frames := 1, cells := 0, slots := 0, locals := 23 }) cX1_partValue 8 (some .int) (dC, dI) (tysA cB cI cJ cZ cS) as 51 (wK cB cI cJ cZ cS a s) [(0, .ref (a 8)), (4, .int x4), (5, .int x5)] [.int t0] (fun x u => x = r ∧ u = (wK cB cI cJ cZ cS a s')) := by
  intro p e s0 m below meth c A E H locs ls hP hD hS hl
  obtain ⟨C, hr, hlocks, hA, hK, hN⟩ := id E
  obtain ⟨hx, hb, hml, hown, hts⟩ := id C
  unfold kX1_partValue_51 at hB
  refine lv_istore (lv' := [(6, .int t0), (0, .ref (a 8)), (4, .int x4), (5, .int x5)]) hx hb dX1_partValue_51 hl (by decide) rfl (fun ls hl => ?_)
  exact bkX1_partValue_53L fu _ _ _ _ hB p e s0 m below meth c A E H locs ls hP hD hS (lv_sub hl [1, 2, 3, 0] rfl)
set_option maxHeartbeats 4000000 in
set_option maxRecDepth 100000 in
theorem bkX1_partValue {l : Launch} {dC : Nat → ClassId} {dI : Nat → Nat → Nat} {cB cI cJ cZ cS : ClassId} {a : Nat → Nat} {as : List Value} {r : Int32} {s' : KS} (s : KS) (x1 : Int32) (x2 : Int32) (hB : kX1_partValue s x1 x2 = some (r, s')) : BlkI l yX1_partValue wsX1_partValue ({ frames := 1, cells := 0, slots := 0, locals := 23 }) cX1_partValue 8 (some .int) (dC, dI) (tysA cB cI cJ cZ cS) as 0 (wK cB cI cJ cZ cS a s) [(0, .ref (a 8)), (1, .int x1), (2, .int x2)] [] (fun x u => x = r ∧ u = (wK cB cI cJ cZ cS a s')) := by
  intro p e s0 m below meth c A E H locs ls hP hD hS hl
  obtain ⟨C, hr, hlocks, hA, hK, hN⟩ := id E
  obtain ⟨hx, hb, hml, hown, hts⟩ := id C
  unfold kX1_partValue at hB
  refine lv_iload_n hx hb dX1_partValue_0 rfl (lv_at hl 2 rfl) ?_
  refine lv_if_lt (tgt := 10) hx hb dX1_partValue_1 (by decide) (fun c1 => ?_) (fun c1 => ?_)
  · have hB := if_p hB c1
    refine lv_iconst (v := 0) hx hb dX1_partValue_10 (by decide) ?_
    exact q_iret C hr hlocks hK hP hD hS (Nat.le_of_ble_eq_true rfl) (Nat.le_of_ble_eq_true rfl) dX1_partValue_11 (by cases hB; exact ⟨rfl, rfl⟩)
  · have hB := if_n hB c1
    refine lv_iload_n hx hb dX1_partValue_4 rfl (lv_at hl 2 rfl) ?_
    refine lv_bipush (v := 13) hx hb dX1_partValue_5 (by decide) ?_
    refine lv_icmp_lt (tgt := 12) hx hb dX1_partValue_7 (by decide) (fun c2 => ?_) (fun c2 => ?_)
    · have hB := if_p hB c2
      refine lv_iload_n hx hb dX1_partValue_12 rfl (lv_at hl 1 rfl) ?_
      refine lv_bipush (v := 13) hx hb dX1_partValue_13 (by decide) ?_
      refine lv_imul hx hb dX1_partValue_15 ?_
      refine lv_iload_n hx hb dX1_partValue_16 rfl (lv_at hl 2 rfl) ?_
      refine lv_iadd hx hb dX1_partValue_17 ?_
      refine lv_istore_n (lv' := [(3, .int ((x1 * 13) + x2)), (0, .ref (a 8)), (1, .int x1), (2, .int x2)]) hx hb dX1_partValue_18 rfl hl (by decide) rfl (fun ls hl => ?_)
      refine lv_aload_n hx hb dX1_partValue_19 rfl (lv_at hl 1 rfl) ?_
      refine q_get (v := .ref (a 10)) C inX1_partValue_X1 hK hP 8 rfl rfl 1 (by decide) rfl LX1_partValue_19 rfl dX1_partValue_20 ?_
      refine lv_iload_n hx hb dX1_partValue_23 rfl (lv_at hl 0 rfl) ?_
      obtain ⟨g3, hB⟩ := guard_inv hB
      refine q_iald (x := ((s.f 10) (Int32.toNatClampNeg ((x1 * 13) + x2)))) C hK hP 10 1 rfl rfl (vpb_in g3) dX1_partValue_24 rfl ?_
      refine lv_istore (lv' := [(4, .int ((s.f 10) (Int32.toNatClampNeg ((x1 * 13) + x2)))), (3, .int ((x1 * 13) + x2)), (0, .ref (a 8)), (1, .int x1), (2, .int x2)]) hx hb dX1_partValue_25 hl (by decide) rfl (fun ls hl => ?_)
      refine lv_iconst (v := 0) hx hb dX1_partValue_27 (by decide) ?_
      refine lv_istore (lv' := [(5, .int 0), (4, .int ((s.f 10) (Int32.toNatClampNeg ((x1 * 13) + x2)))), (3, .int ((x1 * 13) + x2)), (0, .ref (a 8)), (1, .int x1), (2, .int x2)]) hx hb dX1_partValue_28 hl (by decide) rfl (fun ls hl => ?_)
      refine lv_iload_n hx hb dX1_partValue_30 rfl (lv_at hl 5 rfl) ?_
      refine lv_if_ne (tgt := 43) hx hb dX1_partValue_31 (by decide) (fun c4 => ?_) (fun c4 => ?_)
      · have hB := if_n hB c4
        refine lv_aload_n hx hb dX1_partValue_43 rfl (lv_at hl 3 rfl) ?_
        refine q_get (v := .ref (a 10)) C inX1_partValue_X1 hK hP 8 rfl rfl 1 (by decide) rfl LX1_partValue_19 rfl dX1_partValue_44 ?_
        refine lv_iload_n hx hb dX1_partValue_47 rfl (lv_at hl 2 rfl) ?_
        refine lv_iconst (v := 1) hx hb dX1_partValue_48 (by decide) ?_
        refine lv_isub hx hb dX1_partValue_49 ?_
        obtain ⟨g5, hB⟩ := guard_inv hB
        refine q_iald (x := ((s.f 10) (Int32.toNatClampNeg (((x1 * 13) + x2) - 1)))) C hK hP 10 1 rfl rfl (vpb_in g5) dX1_partValue_50 rfl ?_
        exact bkX1_partValue_51 _ _ _ _ hB p e s0 m below meth c A E H locs ls hP hD hS (lv_sub hl [3, 1, 0] rfl)
      · have hB := if_p hB c4
        refine lv_aload_n hx hb dX1_partValue_34 rfl (lv_at hl 3 rfl) ?_
        refine q_get (v := .ref (a 11)) C inX1_partValue_X1 hK hP 8 rfl rfl 2 (by decide) rfl LX1_partValue_22 rfl dX1_partValue_35 ?_
        refine lv_iload_n hx hb dX1_partValue_38 rfl (lv_at hl 4 rfl) ?_
        obtain ⟨g6, hB⟩ := guard_inv hB
        refine q_iald (x := ((s.f 11) (Int32.toNatClampNeg x1))) C hK hP 11 1 rfl rfl (vpb_in g6) dX1_partValue_39 rfl ?_
        refine lv_goto (tgt := 51) hx hb dX1_partValue_40 (by decide) ?_
        exact bkX1_partValue_51 _ _ _ _ hB p e s0 m below meth c A E H locs ls hP hD hS (lv_sub hl [3, 1, 0] rfl)
    · have hB := if_n hB c2
      refine lv_iconst (v := 0) hx hb dX1_partValue_10 (by decide) ?_
      exact q_iret C hr hlocks hK hP hD hS (Nat.le_of_ble_eq_true rfl) (Nat.le_of_ble_eq_true rfl) dX1_partValue_11 (by cases hB; exact ⟨rfl, rfl⟩)
theorem ckX1_partValue {l : Launch} {dC : Nat → ClassId} {dI : Nat → Nat → Nat} {cB cI cJ cZ cS : ClassId} {a : Nat → Nat} {r : Int32} {s' : KS} {s : KS} {x1 : Int32} {x2 : Int32} (hB : kX1_partValue s x1 x2 = some (r, s')) : CI l yX1_partValue wsX1_partValue ({ frames := 1, cells := 0, slots := 0, locals := 23 }) (dC, dI) (tysA cB cI cJ cZ cS) (wK cB cI cJ cZ cS a s) [.ref (a 8), .int x1, .int x2] (fun x u => x = r ∧ u = (wK cB cI cJ cZ cS a s')) :=
  CI_of (cc := cX1_partValue) (maxL := 8) (ret := (some .int)) (by decide) rfl (Nat.le_of_ble_eq_true rfl) (bkX1_partValue _ _ _ hB)
theorem LX2_mayCount_28 : Cond.fieldLink RX2 28 "GuessFerry$Outlook" "crossing" "LGuessFerry$Crossing;" ∈ wsX2_mayCount := (List.mem_cons_of_mem _ (List.mem_append_left _ (List.mem_append_left _ (List.mem_append_left _ (List.mem_append_left _ (List.mem_append_left _ (List.mem_of_getElem? (i := 0) rfl)))))))
theorem LX2_mayCount_E_X0_mayBe : Cond.selects RX0 yX0_mayBe yX0_mayBe ∈ wsX2_mayCount := (List.mem_cons_of_mem _ (List.mem_append_left _ (List.mem_append_left _ (List.mem_append_left _ (List.mem_append_left _ (List.mem_append_left _ (List.mem_of_getElem? (i := 3) rfl)))))))
theorem LX2_mayCount_I_X0 : Cond.initialized RX0 ∈ wsX2_mayCount := (List.mem_cons_of_mem _ (List.mem_append_left _ (List.mem_append_left _ (List.mem_append_left _ (List.mem_append_left _ (List.mem_append_left _ (List.mem_of_getElem? (i := 2) rfl)))))))
theorem LX2_mayCount_N_X0_mayBe : Cond.instanceMethod yX0_mayBe ∈ wsX2_mayCount := (List.mem_cons_of_mem _ (List.mem_append_left _ (List.mem_append_left _ (List.mem_append_left _ (List.mem_append_left _ (List.mem_append_left _ (List.mem_of_getElem? (i := 1) rfl)))))))
theorem inX2_mayCount_X2 : ∀ w ∈ u_ws RX2 TX2 6, w ∈ wsX2_mayCount := fun w h => (List.mem_cons_of_mem _ (List.mem_append_left _ (List.mem_append_left _ (List.mem_append_left _ (List.mem_append_right _ h)))))
set_option maxHeartbeats 4000000 in
set_option maxRecDepth 100000 in
theorem bkX2_mayCount {l : Launch} {dC : Nat → ClassId} {dI : Nat → Nat → Nat} {cB cI cJ cZ cS : ClassId} {a b : Nat → Nat} {as : List Value} {r : Int32} {s' : JS} (s : JS) (x2 : Int32) (hB : kX2_mayCount s x2 = some (r, s')) : BlkI l yX2_mayCount wsX2_mayCount ({ frames := 1, cells := 0, slots := 0, locals := 22 }) cX2_mayCount 3 (some .int) (dC, dI) (tysA cB cI cJ cZ cS) as 0 (wJ cB cI cJ cZ cS a b s) [(0, .ref (a 36)), (1, .ref (b 0)), (2, .int x2)] [] (fun x u => x = r ∧ u = (wJ cB cI cJ cZ cS a b s')) := by
  intro p e s0 m below meth c A E H locs ls hP hD hS hl
  obtain ⟨C, hr, hlocks, hA, hK, hN⟩ := id E
  obtain ⟨hx, hb, hml, hown, hts⟩ := id C
  unfold kX2_mayCount at hB
  refine lv_aload_n hx hb dX2_mayCount_0 rfl (lv_at hl 0 rfl) ?_
  refine q_get (v := .ref (a 35)) C inX2_mayCount_X2 hK hP 42 rfl rfl 1 (by decide) rfl LX2_mayCount_28 rfl dX2_mayCount_1 ?_
  refine lv_aload_n hx hb dX2_mayCount_4 rfl (lv_at hl 1 rfl) ?_
  refine lv_iload_n hx hb dX2_mayCount_5 rfl (lv_at hl 2 rfl) ?_
  obtain ⟨q_, s1, hc, hB⟩ := bindI_inv hB
  refine q_goiF (va_runVN (As := [.ref (b 0), .int x2]) (rest := []) C (ckX0_mayBe hc _) ⟨va_cnB 2 hts gX2_mayCount_X0_mayBe_n32 rfl rfl rfl (hN _ nwM_X2_32 rfl) (hts _ LX2_mayCount_I_X0) (by decide +kernel) ⟨Nat.le_of_ble_eq_true rfl, Nat.le_of_ble_eq_true rfl⟩, hts _ LX2_mayCount_N_X0_mayBe, hts _ LX2_mayCount_E_X0_mayBe⟩ (q_preV hK hP (ci := 0) (q0 := 41) rfl rfl rfl (q_preF hN hK hP hD)) rfl rfl hl.1 rfl (lv_room (Nat.le_of_ble_eq_true rfl)) dX2_mayCount_6 ⟨Nat.le_of_ble_eq_true rfl, Nat.le_of_ble_eq_true rfl⟩) hD hS hA (fun r2 w1 H locs hw hP hD hS => ?_)
  obtain ⟨hq_, hw⟩ := hw; subst hw; subst hq_
  obtain ⟨q_, hc, hB⟩ := bindP_inv hB
  refine q_goi0 (va_runS (As := [.int r2]) (rest := []) C (ckJ6_bitCount_0f7a4 hc _) (va_cwS 1 hts gX2_mayCount_J6_bitCount_0f7a4 rfl rfl rfl (by decide +kernel) ⟨Nat.le_of_ble_eq_true rfl, Nat.le_of_ble_eq_true rfl⟩) (q_pre0 hN hK) rfl rfl hl.1 rfl (lv_room (Nat.le_of_ble_eq_true rfl)) dX2_mayCount_9 ⟨Nat.le_of_ble_eq_true rfl, Nat.le_of_ble_eq_true rfl⟩) hP hD hS hA (fun r3 w1 H locs hw hP hS => ?_)
  subst hw
  exact q_iret C hr hlocks hK hP hD hS (Nat.le_of_ble_eq_true rfl) (Nat.le_of_ble_eq_true rfl) dX2_mayCount_12 (by cases hB; exact ⟨rfl, rfl⟩)
theorem ckX2_mayCount {l : Launch} {dC : Nat → ClassId} {dI : Nat → Nat → Nat} {cB cI cJ cZ cS : ClassId} {a b : Nat → Nat} {r : Int32} {s' : JS} {s : JS} {x2 : Int32} (hB : kX2_mayCount s x2 = some (r, s')) : CI l yX2_mayCount wsX2_mayCount ({ frames := 1, cells := 0, slots := 0, locals := 22 }) (dC, dI) (tysA cB cI cJ cZ cS) (wJ cB cI cJ cZ cS a b s) [.ref (a 36), .ref (b 0), .int x2] (fun x u => x = r ∧ u = (wJ cB cI cJ cZ cS a b s')) :=
  CI_of (cc := cX2_mayCount) (maxL := 3) (ret := (some .int)) (by decide) rfl (Nat.le_of_ble_eq_true rfl) (bkX2_mayCount _ _ hB)
theorem LX2_caseCount_24 : Cond.fieldLink RX2 24 "GuessFerry$Outlook" "sound" "LGuessFerry$Sound;" ∈ wsX2_caseCount := (List.mem_cons_of_mem _ (List.mem_append_left _ (List.mem_append_left _ (List.mem_append_left _ (List.mem_append_left _ (List.mem_append_left _ (List.mem_of_getElem? (i := 0) rfl)))))))
theorem inX2_caseCount_X2 : ∀ w ∈ u_ws RX2 TX2 6, w ∈ wsX2_caseCount := fun w h => (List.mem_cons_of_mem _ (List.mem_append_left _ (List.mem_append_left _ (List.mem_append_left _ (List.mem_append_right _ h)))))
theorem inX2_caseCount_X5 : ∀ w ∈ u_ws RX5 TX5 10, w ∈ wsX2_caseCount := fun w h => (List.mem_cons_of_mem _ (List.mem_append_left _ (List.mem_append_left _ (List.mem_append_right _ h))))
set_option maxHeartbeats 4000000 in
set_option maxRecDepth 100000 in
theorem bkX2_caseCount_4 {l : Launch} {dC : Nat → ClassId} {dI : Nat → Nat → Nat} {cB cI cJ cZ cS : ClassId} {a b : Nat → Nat} {as : List Value} {r : Int32} {s' : JS} {k4 : JS → Int32 → Int32 → Option (Int32 × JS)} (hk4 : ∀ (s : JS) (x2 : Int32) (x3 : Int32), k4 s x2 x3 = some (r, s') → BlkI l yX2_caseCount wsX2_caseCount ({ frames := 2, cells := 0, slots := 0, locals := 44 }) cX2_caseCount 4 (some .int) (dC, dI) (tysA cB cI cJ cZ cS) as 4 (wJ cB cI cJ cZ cS a b s) [(0, .ref (a 36)), (1, .ref (b 0)), (2, .int x2), (3, .int x3)] [] (fun x u => x = r ∧ u = (wJ cB cI cJ cZ cS a b s'))) (s : JS) (x2 : Int32) (x3 : Int32) (hB : kX2_caseCount_4 k4 s x2 x3 = some (r, s')) : BlkI l yX2_caseCount wsX2_caseCount ({ frames := 2, cells := 0, slots := 0, locals := 44 }) cX2_caseCount 4 (some .int) (dC, dI) (tysA cB cI cJ cZ cS) as 4 (wJ cB cI cJ cZ cS a b s) [(0, .ref (a 36)), (1, .ref (b 0)), (2, .int x2), (3, .int x3)] [] (fun x u => x = r ∧ u = (wJ cB cI cJ cZ cS a b s')) := by
  intro p e s0 m below meth c A E H locs ls hP hD hS hl
  obtain ⟨C, hr, hlocks, hA, hK, hN⟩ := id E
  obtain ⟨hx, hb, hml, hown, hts⟩ := id C
  unfold kX2_caseCount_4 at hB
  refine lv_iload_n hx hb dX2_caseCount_4 rfl (lv_at hl 3 rfl) ?_
  refine lv_aload_n hx hb dX2_caseCount_5 rfl (lv_at hl 0 rfl) ?_
  refine q_get (v := .ref (a 2)) C inX2_caseCount_X2 hK hP 42 rfl rfl 0 (by decide) rfl LX2_caseCount_24 rfl dX2_caseCount_6 ?_
  refine q_getN (v := .int (s.k.v 1)) C hN inX2_caseCount_X5 hK hP 8 rfl rfl 6 (by decide) rfl nwF_X2_44 rfl dX2_caseCount_9 ?_
  refine lv_icmp_ge (tgt := 30) hx hb dX2_caseCount_12 (by decide) (fun c1 => ?_) (fun c1 => ?_)
  · have hB := if_p hB c1
    refine lv_iload_n hx hb dX2_caseCount_30 rfl (lv_at hl 2 rfl) ?_
    exact q_iret C hr hlocks hK hP hD hS (Nat.le_of_ble_eq_true rfl) (Nat.le_of_ble_eq_true rfl) dX2_caseCount_31 (by cases hB; exact ⟨rfl, rfl⟩)
  · have hB := if_n hB c1
    refine lv_iload_n hx hb dX2_caseCount_15 rfl (lv_at hl 2 rfl) ?_
    refine lv_aload_n hx hb dX2_caseCount_16 rfl (lv_at hl 0 rfl) ?_
    refine lv_aload_n hx hb dX2_caseCount_17 rfl (lv_at hl 1 rfl) ?_
    refine lv_iload_n hx hb dX2_caseCount_18 rfl (lv_at hl 3 rfl) ?_
    obtain ⟨q_, s2, hc, hB⟩ := bindI_inv hB
    refine q_goiF (va_runV (As := [.ref (b 0), .int x3]) (rest := [.int x2]) C (ckX2_mayCount hc _) (cwV 2 hts gX2_caseCount_X2_mayCount rfl rfl rfl (by decide +kernel) ⟨Nat.le_of_ble_eq_true rfl, Nat.le_of_ble_eq_true rfl⟩) (q_preV hK hP (ci := 2) (q0 := 42) rfl rfl rfl (q_preF hN hK hP hD)) rfl rfl hl.1 rfl (lv_room (Nat.le_of_ble_eq_true rfl)) dX2_caseCount_19 ⟨Nat.le_of_ble_eq_true rfl, Nat.le_of_ble_eq_true rfl⟩) hD hS hA (fun r3 w1 H locs hw hP hD hS => ?_)
    obtain ⟨hq_, hw⟩ := hw; subst hw; subst hq_
    refine lv_imul hx hb dX2_caseCount_22 ?_
    refine lv_istore_n (lv' := [(2, .int (x2 * r3)), (0, .ref (a 36)), (1, .ref (b 0)), (3, .int x3)]) hx hb dX2_caseCount_23 rfl hl (by decide) rfl (fun ls hl => ?_)
    refine lv_iinc (v := (x3 + 1)) (lv' := [(3, .int (x3 + 1)), (2, .int (x2 * r3)), (0, .ref (a 36)), (1, .ref (b 0))]) hx hb dX2_caseCount_24 hl (k := 3) rfl (rfl) (by decide) rfl (fun ls hl => ?_)
    refine lv_goto (tgt := 4) hx hb dX2_caseCount_27 (by decide) ?_
    exact hk4 _ _ _ hB p e s0 m below meth c A E H locs ls hP hD hS (lv_sub hl [2, 3, 1, 0] rfl)
theorem bkX2_caseCount_4L {l : Launch} {dC : Nat → ClassId} {dI : Nat → Nat → Nat} {cB cI cJ cZ cS : ClassId} {a b : Nat → Nat} {as : List Value} {r : Int32} {s' : JS} : ∀ (n : Nat) (s : JS) (x2 : Int32) (x3 : Int32), kX2_caseCount_4L n s x2 x3 = some (r, s') → BlkI l yX2_caseCount wsX2_caseCount ({ frames := 2, cells := 0, slots := 0, locals := 44 }) cX2_caseCount 4 (some .int) (dC, dI) (tysA cB cI cJ cZ cS) as 4 (wJ cB cI cJ cZ cS a b s) [(0, .ref (a 36)), (1, .ref (b 0)), (2, .int x2), (3, .int x3)] [] (fun x u => x = r ∧ u = (wJ cB cI cJ cZ cS a b s')) := by
  intro n
  induction n with
  | zero => intro s x2 x3 hB; exact none_ne hB
  | succ n ih => intro s x2 x3 hB; exact bkX2_caseCount_4 ih _ _ _ hB
set_option maxHeartbeats 4000000 in
set_option maxRecDepth 100000 in
theorem bkX2_caseCount {l : Launch} {dC : Nat → ClassId} {dI : Nat → Nat → Nat} {cB cI cJ cZ cS : ClassId} {a b : Nat → Nat} {as : List Value} {r : Int32} {s' : JS} (s : JS) (hB : kX2_caseCount s = some (r, s')) : BlkI l yX2_caseCount wsX2_caseCount ({ frames := 2, cells := 0, slots := 0, locals := 44 }) cX2_caseCount 4 (some .int) (dC, dI) (tysA cB cI cJ cZ cS) as 0 (wJ cB cI cJ cZ cS a b s) [(0, .ref (a 36)), (1, .ref (b 0))] [] (fun x u => x = r ∧ u = (wJ cB cI cJ cZ cS a b s')) := by
  intro p e s0 m below meth c A E H locs ls hP hD hS hl
  obtain ⟨C, hr, hlocks, hA, hK, hN⟩ := id E
  obtain ⟨hx, hb, hml, hown, hts⟩ := id C
  unfold kX2_caseCount at hB
  refine lv_iconst (v := 1) hx hb dX2_caseCount_0 (by decide) ?_
  refine lv_istore_n (lv' := [(2, .int 1), (0, .ref (a 36)), (1, .ref (b 0))]) hx hb dX2_caseCount_1 rfl hl (by decide) rfl (fun ls hl => ?_)
  refine lv_iconst (v := 0) hx hb dX2_caseCount_2 (by decide) ?_
  refine lv_istore_n (lv' := [(3, .int 0), (2, .int 1), (0, .ref (a 36)), (1, .ref (b 0))]) hx hb dX2_caseCount_3 rfl hl (by decide) rfl (fun ls hl => ?_)
  exact bkX2_caseCount_4L fu _ _ _ hB p e s0 m below meth c A E H locs ls hP hD hS (lv_sub hl [2, 3, 1, 0] rfl)
theorem ckX2_caseCount {l : Launch} {dC : Nat → ClassId} {dI : Nat → Nat → Nat} {cB cI cJ cZ cS : ClassId} {a b : Nat → Nat} {r : Int32} {s' : JS} {s : JS} (hB : kX2_caseCount s = some (r, s')) : CI l yX2_caseCount wsX2_caseCount ({ frames := 2, cells := 0, slots := 0, locals := 44 }) (dC, dI) (tysA cB cI cJ cZ cS) (wJ cB cI cJ cZ cS a b s) [.ref (a 36), .ref (b 0)] (fun x u => x = r ∧ u = (wJ cB cI cJ cZ cS a b s')) :=
  CI_of (cc := cX2_caseCount) (maxL := 4) (ret := (some .int)) (by decide) rfl (Nat.le_of_ble_eq_true rfl) (bkX2_caseCount _ hB)
theorem LX2_oddsIfMay_24 : Cond.fieldLink RX2 24 "GuessFerry$Outlook" "sound" "LGuessFerry$Sound;" ∈ wsX2_oddsIfMay := (List.mem_cons_of_mem _ (List.mem_append_left _ (List.mem_append_left _ (List.mem_append_left _ (List.mem_append_left _ (List.mem_append_left _ (List.mem_of_getElem? (i := 1) rfl)))))))
theorem LX2_oddsIfMay_28 : Cond.fieldLink RX2 28 "GuessFerry$Outlook" "crossing" "LGuessFerry$Crossing;" ∈ wsX2_oddsIfMay := (List.mem_cons_of_mem _ (List.mem_append_left _ (List.mem_append_left _ (List.mem_append_left _ (List.mem_append_left _ (List.mem_append_left _ (List.mem_of_getElem? (i := 0) rfl)))))))
theorem LX2_oddsIfMay_E_X0_mayBe : Cond.selects RX0 yX0_mayBe yX0_mayBe ∈ wsX2_oddsIfMay := (List.mem_cons_of_mem _ (List.mem_append_left _ (List.mem_append_left _ (List.mem_append_left _ (List.mem_append_left _ (List.mem_append_left _ (List.mem_of_getElem? (i := 4) rfl)))))))
theorem LX2_oddsIfMay_E_X5_oddsAt : Cond.selects RX5 yX5_oddsAt yX5_oddsAt ∈ wsX2_oddsIfMay := (List.mem_cons_of_mem _ (List.mem_append_left _ (List.mem_append_left _ (List.mem_append_left _ (List.mem_append_left _ (List.mem_append_left _ (List.mem_of_getElem? (i := 9) rfl)))))))
theorem LX2_oddsIfMay_I_X0 : Cond.initialized RX0 ∈ wsX2_oddsIfMay := (List.mem_cons_of_mem _ (List.mem_append_left _ (List.mem_append_left _ (List.mem_append_left _ (List.mem_append_left _ (List.mem_append_left _ (List.mem_of_getElem? (i := 3) rfl)))))))
theorem LX2_oddsIfMay_I_X10 : Cond.initialized RX10 ∈ wsX2_oddsIfMay := (List.mem_cons_of_mem _ (List.mem_append_left _ (List.mem_append_left _ (List.mem_append_left _ (List.mem_append_left _ (List.mem_append_left _ (List.mem_of_getElem? (i := 6) rfl)))))))
theorem LX2_oddsIfMay_I_X5 : Cond.initialized RX5 ∈ wsX2_oddsIfMay := (List.mem_cons_of_mem _ (List.mem_append_left _ (List.mem_append_left _ (List.mem_append_left _ (List.mem_append_left _ (List.mem_append_left _ (List.mem_of_getElem? (i := 8) rfl)))))))
theorem LX2_oddsIfMay_N_X0_mayBe : Cond.instanceMethod yX0_mayBe ∈ wsX2_oddsIfMay := (List.mem_cons_of_mem _ (List.mem_append_left _ (List.mem_append_left _ (List.mem_append_left _ (List.mem_append_left _ (List.mem_append_left _ (List.mem_of_getElem? (i := 2) rfl)))))))
theorem LX2_oddsIfMay_N_X5_oddsAt : Cond.instanceMethod yX5_oddsAt ∈ wsX2_oddsIfMay := (List.mem_cons_of_mem _ (List.mem_append_left _ (List.mem_append_left _ (List.mem_append_left _ (List.mem_append_left _ (List.mem_append_left _ (List.mem_of_getElem? (i := 7) rfl)))))))
theorem LX2_oddsIfMay_S_X10_has : Cond.static yX10_has ∈ wsX2_oddsIfMay := (List.mem_cons_of_mem _ (List.mem_append_left _ (List.mem_append_left _ (List.mem_append_left _ (List.mem_append_left _ (List.mem_append_left _ (List.mem_of_getElem? (i := 5) rfl)))))))
theorem inX2_oddsIfMay_X2 : ∀ w ∈ u_ws RX2 TX2 6, w ∈ wsX2_oddsIfMay := fun w h => (List.mem_cons_of_mem _ (List.mem_append_left _ (List.mem_append_left _ (List.mem_append_left _ (List.mem_append_right _ h)))))
set_option maxHeartbeats 4000000 in
set_option maxRecDepth 100000 in
theorem bkX2_oddsIfMay {l : Launch} {dC : Nat → ClassId} {dI : Nat → Nat → Nat} {cB cI cJ cZ cS : ClassId} {a b : Nat → Nat} {as : List Value} {r : Int32} {s' : JS} (s : JS) (x2 : Int32) (x3 : Int32) (hB : kX2_oddsIfMay s x2 x3 = some (r, s')) : BlkI l yX2_oddsIfMay wsX2_oddsIfMay ({ frames := 1, cells := 0, slots := 0, locals := 22 }) cX2_oddsIfMay 4 (some .int) (dC, dI) (tysA cB cI cJ cZ cS) as 0 (wJ cB cI cJ cZ cS a b s) [(0, .ref (a 36)), (1, .ref (b 0)), (2, .int x2), (3, .int x3)] [] (fun x u => x = r ∧ u = (wJ cB cI cJ cZ cS a b s')) := by
  intro p e s0 m below meth c A E H locs ls hP hD hS hl
  obtain ⟨C, hr, hlocks, hA, hK, hN⟩ := id E
  obtain ⟨hx, hb, hml, hown, hts⟩ := id C
  unfold kX2_oddsIfMay at hB
  refine lv_aload_n hx hb dX2_oddsIfMay_0 rfl (lv_at hl 0 rfl) ?_
  refine q_get (v := .ref (a 35)) C inX2_oddsIfMay_X2 hK hP 42 rfl rfl 1 (by decide) rfl LX2_oddsIfMay_28 rfl dX2_oddsIfMay_1 ?_
  refine lv_aload_n hx hb dX2_oddsIfMay_4 rfl (lv_at hl 1 rfl) ?_
  refine lv_iload_n hx hb dX2_oddsIfMay_5 rfl (lv_at hl 2 rfl) ?_
  obtain ⟨q_, s1, hc, hB⟩ := bindI_inv hB
  refine q_goiF (va_runVN (As := [.ref (b 0), .int x2]) (rest := []) C (ckX0_mayBe hc _) ⟨va_cnB 2 hts gX2_oddsIfMay_X0_mayBe_n32 rfl rfl rfl (hN _ nwM_X2_32 rfl) (hts _ LX2_oddsIfMay_I_X0) (by decide +kernel) ⟨Nat.le_of_ble_eq_true rfl, Nat.le_of_ble_eq_true rfl⟩, hts _ LX2_oddsIfMay_N_X0_mayBe, hts _ LX2_oddsIfMay_E_X0_mayBe⟩ (q_preV hK hP (ci := 0) (q0 := 41) rfl rfl rfl (q_preF hN hK hP hD)) rfl rfl hl.1 rfl (lv_room (Nat.le_of_ble_eq_true rfl)) dX2_oddsIfMay_6 ⟨Nat.le_of_ble_eq_true rfl, Nat.le_of_ble_eq_true rfl⟩) hD hS hA (fun r2 w1 H locs hw hP hD hS => ?_)
  obtain ⟨hq_, hw⟩ := hw; subst hw; subst hq_
  refine lv_iload_n hx hb dX2_oddsIfMay_9 rfl (lv_at hl 3 rfl) ?_
  obtain ⟨q_, hc, hB⟩ := bindP_inv hB
  refine q_goi0 (va_runSN (As := [.int r2, .int x3]) (rest := []) C (ckX10_has hc _) ⟨va_cnB 2 hts gX2_oddsIfMay_X10_has_n57 rfl rfl rfl (hN _ nwM_X2_57 rfl) (hts _ LX2_oddsIfMay_I_X10) (by decide +kernel) ⟨Nat.le_of_ble_eq_true rfl, Nat.le_of_ble_eq_true rfl⟩, hts _ LX2_oddsIfMay_S_X10_has, trivial⟩ (q_pre0 hN hK) rfl rfl hl.1 rfl (lv_room (Nat.le_of_ble_eq_true rfl)) dX2_oddsIfMay_10 ⟨Nat.le_of_ble_eq_true rfl, Nat.le_of_ble_eq_true rfl⟩) hP hD hS hA (fun r3 w1 H locs hw hP hS => ?_)
  subst hw
  refine lv_if_eq (tgt := 28) hx hb dX2_oddsIfMay_13 (by decide) (fun c4 => ?_) (fun c4 => ?_)
  · have hB := if_p hB c4
    refine lv_iconst (v := 0) hx hb dX2_oddsIfMay_28 (by decide) ?_
    exact q_iret C hr hlocks hK hP hD hS (Nat.le_of_ble_eq_true rfl) (Nat.le_of_ble_eq_true rfl) dX2_oddsIfMay_29 (by cases hB; exact ⟨rfl, rfl⟩)
  · have hB := if_n hB c4
    refine lv_aload_n hx hb dX2_oddsIfMay_16 rfl (lv_at hl 0 rfl) ?_
    refine q_get (v := .ref (a 2)) C inX2_oddsIfMay_X2 hK hP 42 rfl rfl 0 (by decide) rfl LX2_oddsIfMay_24 rfl dX2_oddsIfMay_17 ?_
    refine lv_iload_n hx hb dX2_oddsIfMay_20 rfl (lv_at hl 2 rfl) ?_
    refine lv_iload_n hx hb dX2_oddsIfMay_21 rfl (lv_at hl 3 rfl) ?_
    obtain ⟨q_, s5, hc, hB⟩ := bindI_inv hB
    refine q_goi (wr := ((wD cI b s1.d))) (va_runVN (As := [.int x2, .int x3]) (rest := []) C (ckX5_oddsAt hc _) ⟨va_cnB 2 hts gX2_oddsIfMay_X5_oddsAt_n61 rfl rfl rfl (hN _ nwM_X2_61 rfl) (hts _ LX2_oddsIfMay_I_X5) (by decide +kernel) ⟨Nat.le_of_ble_eq_true rfl, Nat.le_of_ble_eq_true rfl⟩, hts _ LX2_oddsIfMay_N_X5_oddsAt, hts _ LX2_oddsIfMay_E_X5_oddsAt⟩ (q_preV hK hP (ci := 5) (q0 := 8) rfl rfl rfl (q_pre hN hK hP hD [6, 7, 8, 9, 10, 11, 12, 13, 14, 15, 16, 17, 18, 19, 20, 21, 22, 23, 24, 25, 26, 27, 28, 29, 30, 31, 32, 33, 34, 35, 36, 37, 38, 39, 40, 41, 42, 43, 44, 45, 46, 47, 48, 49, 50, 51, 52] (by first | exact zqs_6J | rfl) zqn_6)) rfl rfl hl.1 rfl (lv_room (Nat.le_of_ble_eq_true rfl)) dX2_oddsIfMay_22 ⟨Nat.le_of_ble_eq_true rfl, Nat.le_of_ble_eq_true rfl⟩) hP hD hS hA [6, 7, 8, 9, 10, 11, 12, 13, 14, 15, 16, 17, 18, 19, 20, 21, 22, 23, 24, 25, 26, 27, 28, 29, 30, 31, 32, 33, 34, 35, 36, 37, 38, 39, 40, 41, 42, 43, 44, 45, 46, 47, 48, 49, 50, 51, 52] [0, 1, 2, 3, 4, 5] (by first | exact zqs_6J | rfl) (by first | exact zqs_7J | rfl) zqn_7 zqd_3 (fun r6 w1 H locs hw hP hD hS => ?_)
    obtain ⟨hq_, hw⟩ := hw; subst hw; subst hq_
    obtain ⟨s7, hs8, hB⟩ := letS_inv hB
    have hP : va_P (dC, dI) vwCl (wJ cB cI cJ cZ cS a b s7) H := by subst hs8; exact hP
    have hD : va_D A (wJ cB cI cJ cZ cS a b s7) := by subst hs8; exact hD
    refine lv_goto (tgt := 29) hx hb dX2_oddsIfMay_25 (by decide) ?_
    exact q_iret C hr hlocks hK hP hD hS (Nat.le_of_ble_eq_true rfl) (Nat.le_of_ble_eq_true rfl) dX2_oddsIfMay_29 (by cases hB; exact ⟨rfl, rfl⟩)
theorem ckX2_oddsIfMay {l : Launch} {dC : Nat → ClassId} {dI : Nat → Nat → Nat} {cB cI cJ cZ cS : ClassId} {a b : Nat → Nat} {r : Int32} {s' : JS} {s : JS} {x2 : Int32} {x3 : Int32} (hB : kX2_oddsIfMay s x2 x3 = some (r, s')) : CI l yX2_oddsIfMay wsX2_oddsIfMay ({ frames := 1, cells := 0, slots := 0, locals := 22 }) (dC, dI) (tysA cB cI cJ cZ cS) (wJ cB cI cJ cZ cS a b s) [.ref (a 36), .ref (b 0), .int x2, .int x3] (fun x u => x = r ∧ u = (wJ cB cI cJ cZ cS a b s')) :=
  CI_of (cc := cX2_oddsIfMay) (maxL := 4) (ret := (some .int)) (by decide) rfl (Nat.le_of_ble_eq_true rfl) (bkX2_oddsIfMay _ _ _ hB)
theorem LX2_oddsOf_24 : Cond.fieldLink RX2 24 "GuessFerry$Outlook" "sound" "LGuessFerry$Sound;" ∈ wsX2_oddsOf := (List.mem_cons_of_mem _ (List.mem_append_left _ (List.mem_append_left _ (List.mem_append_left _ (List.mem_append_left _ (List.mem_append_left _ (List.mem_of_getElem? (i := 0) rfl)))))))
theorem LX2_oddsOf_I_X10 : Cond.initialized RX10 ∈ wsX2_oddsOf := (List.mem_cons_of_mem _ (List.mem_append_left _ (List.mem_append_left _ (List.mem_append_left _ (List.mem_append_left _ (List.mem_append_left _ (List.mem_of_getElem? (i := 2) rfl)))))))
theorem LX2_oddsOf_S_X10_thingIn : Cond.static yX10_thingIn ∈ wsX2_oddsOf := (List.mem_cons_of_mem _ (List.mem_append_left _ (List.mem_append_left _ (List.mem_append_left _ (List.mem_append_left _ (List.mem_append_left _ (List.mem_of_getElem? (i := 1) rfl)))))))
theorem inX2_oddsOf_X2 : ∀ w ∈ u_ws RX2 TX2 6, w ∈ wsX2_oddsOf := fun w h => (List.mem_cons_of_mem _ (List.mem_append_left _ (List.mem_append_left _ (List.mem_append_left _ (List.mem_append_right _ h)))))
theorem inX2_oddsOf_X5 : ∀ w ∈ u_ws RX5 TX5 10, w ∈ wsX2_oddsOf := fun w h => (List.mem_cons_of_mem _ (List.mem_append_left _ (List.mem_append_left _ (List.mem_append_right _ h))))
set_option maxHeartbeats 4000000 in
set_option maxRecDepth 100000 in
theorem bkX2_oddsOf_5 {l : Launch} {dC : Nat → ClassId} {dI : Nat → Nat → Nat} {cB cI cJ cZ cS : ClassId} {a b : Nat → Nat} {as : List Value} {r : Int32} {s' : JS} {k5 : JS → Int32 → Int32 → Int32 → Option (Int32 × JS)} (hk5 : ∀ (s : JS) (x2 : Int32) (x3 : Int32) (x4 : Int32), k5 s x2 x3 x4 = some (r, s') → BlkI l yX2_oddsOf wsX2_oddsOf ({ frames := 2, cells := 0, slots := 0, locals := 45 }) cX2_oddsOf 5 (some .int) (dC, dI) (tysA cB cI cJ cZ cS) as 5 (wJ cB cI cJ cZ cS a b s) [(0, .ref (a 36)), (1, .ref (b 0)), (2, .int x2), (3, .int x3), (4, .int x4)] [] (fun x u => x = r ∧ u = (wJ cB cI cJ cZ cS a b s'))) (s : JS) (x2 : Int32) (x3 : Int32) (x4 : Int32) (hB : kX2_oddsOf_5 k5 s x2 x3 x4 = some (r, s')) : BlkI l yX2_oddsOf wsX2_oddsOf ({ frames := 2, cells := 0, slots := 0, locals := 45 }) cX2_oddsOf 5 (some .int) (dC, dI) (tysA cB cI cJ cZ cS) as 5 (wJ cB cI cJ cZ cS a b s) [(0, .ref (a 36)), (1, .ref (b 0)), (2, .int x2), (3, .int x3), (4, .int x4)] [] (fun x u => x = r ∧ u = (wJ cB cI cJ cZ cS a b s')) := by
  intro p e s0 m below meth c A E H locs ls hP hD hS hl
  obtain ⟨C, hr, hlocks, hA, hK, hN⟩ := id E
  obtain ⟨hx, hb, hml, hown, hts⟩ := id C
  unfold kX2_oddsOf_5 at hB
  refine lv_iload hx hb dX2_oddsOf_5 (lv_at hl 4 rfl) ?_
  refine lv_aload_n hx hb dX2_oddsOf_7 rfl (lv_at hl 0 rfl) ?_
  refine q_get (v := .ref (a 2)) C inX2_oddsOf_X2 hK hP 42 rfl rfl 0 (by decide) rfl LX2_oddsOf_24 rfl dX2_oddsOf_8 ?_
  refine q_getN (v := .int (s.k.v 1)) C hN inX2_oddsOf_X5 hK hP 8 rfl rfl 6 (by decide) rfl nwF_X2_44 rfl dX2_oddsOf_11 ?_
  refine lv_icmp_ge (tgt := 39) hx hb dX2_oddsOf_14 (by decide) (fun c1 => ?_) (fun c1 => ?_)
  · have hB := if_p hB c1
    refine lv_iload_n hx hb dX2_oddsOf_39 rfl (lv_at hl 3 rfl) ?_
    exact q_iret C hr hlocks hK hP hD hS (Nat.le_of_ble_eq_true rfl) (Nat.le_of_ble_eq_true rfl) dX2_oddsOf_40 (by cases hB; exact ⟨rfl, rfl⟩)
  · have hB := if_n hB c1
    refine lv_iload_n hx hb dX2_oddsOf_17 rfl (lv_at hl 3 rfl) ?_
    refine lv_aload_n hx hb dX2_oddsOf_18 rfl (lv_at hl 0 rfl) ?_
    refine lv_aload_n hx hb dX2_oddsOf_19 rfl (lv_at hl 1 rfl) ?_
    refine lv_iload hx hb dX2_oddsOf_20 (lv_at hl 4 rfl) ?_
    refine lv_iload_n hx hb dX2_oddsOf_22 rfl (lv_at hl 2 rfl) ?_
    refine lv_iload hx hb dX2_oddsOf_23 (lv_at hl 4 rfl) ?_
    obtain ⟨q_, hc, hB⟩ := bindP_inv hB
    refine q_goi0 (va_runSN (As := [.int x2, .int x4]) (rest := [.int x4, .ref (b 0), .ref (a 36), .int x3]) C (ckX10_thingIn hc _) ⟨va_cnB 2 hts gX2_oddsOf_X10_thingIn_n65 rfl rfl rfl (hN _ nwM_X2_65 rfl) (hts _ LX2_oddsOf_I_X10) (by decide +kernel) ⟨Nat.le_of_ble_eq_true rfl, Nat.le_of_ble_eq_true rfl⟩, hts _ LX2_oddsOf_S_X10_thingIn, trivial⟩ (q_pre0 hN hK) rfl rfl hl.1 rfl (lv_room (Nat.le_of_ble_eq_true rfl)) dX2_oddsOf_25 ⟨Nat.le_of_ble_eq_true rfl, Nat.le_of_ble_eq_true rfl⟩) hP hD hS hA (fun r2 w1 H locs hw hP hS => ?_)
    subst hw
    obtain ⟨q_, s3, hc, hB⟩ := bindI_inv hB
    refine q_goiF (va_runV (As := [.ref (b 0), .int x4, .int r2]) (rest := [.int x3]) C (ckX2_oddsIfMay hc _) (cwV 3 hts gX2_oddsOf_X2_oddsIfMay rfl rfl rfl (by decide +kernel) ⟨Nat.le_of_ble_eq_true rfl, Nat.le_of_ble_eq_true rfl⟩) (q_preV hK hP (ci := 2) (q0 := 42) rfl rfl rfl (q_preF hN hK hP hD)) rfl rfl hl.1 rfl (lv_room (Nat.le_of_ble_eq_true rfl)) dX2_oddsOf_28 ⟨Nat.le_of_ble_eq_true rfl, Nat.le_of_ble_eq_true rfl⟩) hD hS hA (fun r4 w1 H locs hw hP hD hS => ?_)
    obtain ⟨hq_, hw⟩ := hw; subst hw; subst hq_
    refine lv_imul hx hb dX2_oddsOf_31 ?_
    refine lv_istore_n (lv' := [(3, .int (x3 * r4)), (0, .ref (a 36)), (1, .ref (b 0)), (2, .int x2), (4, .int x4)]) hx hb dX2_oddsOf_32 rfl hl (by decide) rfl (fun ls hl => ?_)
    refine lv_iinc (v := (x4 + 1)) (lv' := [(4, .int (x4 + 1)), (3, .int (x3 * r4)), (0, .ref (a 36)), (1, .ref (b 0)), (2, .int x2)]) hx hb dX2_oddsOf_33 hl (k := 4) rfl (rfl) (by decide) rfl (fun ls hl => ?_)
    refine lv_goto (tgt := 5) hx hb dX2_oddsOf_36 (by decide) ?_
    exact hk5 _ _ _ _ hB p e s0 m below meth c A E H locs ls hP hD hS (lv_sub hl [2, 3, 4, 1, 0] rfl)
theorem bkX2_oddsOf_5L {l : Launch} {dC : Nat → ClassId} {dI : Nat → Nat → Nat} {cB cI cJ cZ cS : ClassId} {a b : Nat → Nat} {as : List Value} {r : Int32} {s' : JS} : ∀ (n : Nat) (s : JS) (x2 : Int32) (x3 : Int32) (x4 : Int32), kX2_oddsOf_5L n s x2 x3 x4 = some (r, s') → BlkI l yX2_oddsOf wsX2_oddsOf ({ frames := 2, cells := 0, slots := 0, locals := 45 }) cX2_oddsOf 5 (some .int) (dC, dI) (tysA cB cI cJ cZ cS) as 5 (wJ cB cI cJ cZ cS a b s) [(0, .ref (a 36)), (1, .ref (b 0)), (2, .int x2), (3, .int x3), (4, .int x4)] [] (fun x u => x = r ∧ u = (wJ cB cI cJ cZ cS a b s')) := by
  intro n
  induction n with
  | zero => intro s x2 x3 x4 hB; exact none_ne hB
  | succ n ih => intro s x2 x3 x4 hB; exact bkX2_oddsOf_5 ih _ _ _ _ hB
set_option maxHeartbeats 4000000 in
set_option maxRecDepth 100000 in
theorem bkX2_oddsOf {l : Launch} {dC : Nat → ClassId} {dI : Nat → Nat → Nat} {cB cI cJ cZ cS : ClassId} {a b : Nat → Nat} {as : List Value} {r : Int32} {s' : JS} (s : JS) (x2 : Int32) (hB : kX2_oddsOf s x2 = some (r, s')) : BlkI l yX2_oddsOf wsX2_oddsOf ({ frames := 2, cells := 0, slots := 0, locals := 45 }) cX2_oddsOf 5 (some .int) (dC, dI) (tysA cB cI cJ cZ cS) as 0 (wJ cB cI cJ cZ cS a b s) [(0, .ref (a 36)), (1, .ref (b 0)), (2, .int x2)] [] (fun x u => x = r ∧ u = (wJ cB cI cJ cZ cS a b s')) := by
  intro p e s0 m below meth c A E H locs ls hP hD hS hl
  obtain ⟨C, hr, hlocks, hA, hK, hN⟩ := id E
  obtain ⟨hx, hb, hml, hown, hts⟩ := id C
  unfold kX2_oddsOf at hB
  refine lv_iconst (v := 1) hx hb dX2_oddsOf_0 (by decide) ?_
  refine lv_istore_n (lv' := [(3, .int 1), (0, .ref (a 36)), (1, .ref (b 0)), (2, .int x2)]) hx hb dX2_oddsOf_1 rfl hl (by decide) rfl (fun ls hl => ?_)
  refine lv_iconst (v := 0) hx hb dX2_oddsOf_2 (by decide) ?_
  refine lv_istore (lv' := [(4, .int 0), (3, .int 1), (0, .ref (a 36)), (1, .ref (b 0)), (2, .int x2)]) hx hb dX2_oddsOf_3 hl (by decide) rfl (fun ls hl => ?_)
  exact bkX2_oddsOf_5L fu _ _ _ _ hB p e s0 m below meth c A E H locs ls hP hD hS (lv_sub hl [2, 3, 4, 1, 0] rfl)
theorem ckX2_oddsOf {l : Launch} {dC : Nat → ClassId} {dI : Nat → Nat → Nat} {cB cI cJ cZ cS : ClassId} {a b : Nat → Nat} {r : Int32} {s' : JS} {s : JS} {x2 : Int32} (hB : kX2_oddsOf s x2 = some (r, s')) : CI l yX2_oddsOf wsX2_oddsOf ({ frames := 2, cells := 0, slots := 0, locals := 45 }) (dC, dI) (tysA cB cI cJ cZ cS) (wJ cB cI cJ cZ cS a b s) [.ref (a 36), .ref (b 0), .int x2] (fun x u => x = r ∧ u = (wJ cB cI cJ cZ cS a b s')) :=
  CI_of (cc := cX2_oddsOf) (maxL := 5) (ret := (some .int)) (by decide) rfl (Nat.le_of_ble_eq_true rfl) (bkX2_oddsOf _ _ hB)
theorem LX2_goesAtMost_24 : Cond.fieldLink RX2 24 "GuessFerry$Outlook" "sound" "LGuessFerry$Sound;" ∈ wsX2_goesAtMost := (List.mem_cons_of_mem _ (List.mem_append_left _ (List.mem_append_left _ (List.mem_append_left _ (List.mem_append_left _ (List.mem_append_left _ (List.mem_of_getElem? (i := 0) rfl)))))))
theorem inX2_goesAtMost_X2 : ∀ w ∈ u_ws RX2 TX2 6, w ∈ wsX2_goesAtMost := fun w h => (List.mem_cons_of_mem _ (List.mem_append_left _ (List.mem_append_left _ (List.mem_append_left _ (List.mem_append_right _ h)))))
theorem inX2_goesAtMost_X5 : ∀ w ∈ u_ws RX5 TX5 10, w ∈ wsX2_goesAtMost := fun w h => (List.mem_cons_of_mem _ (List.mem_append_left _ (List.mem_append_left _ (List.mem_append_right _ h))))
set_option maxHeartbeats 4000000 in
set_option maxRecDepth 100000 in
theorem bkX2_goesAtMost_4 {l : Launch} {dC : Nat → ClassId} {dI : Nat → Nat → Nat} {cB cI cJ cZ cS : ClassId} {a b : Nat → Nat} {as : List Value} {r : Int32} {s' : JS} {k4 : JS → Int32 → Int32 → Option (Int32 × JS)} (hk4 : ∀ (s : JS) (x2 : Int32) (x3 : Int32), k4 s x2 x3 = some (r, s') → BlkI l yX2_goesAtMost wsX2_goesAtMost ({ frames := 2, cells := 0, slots := 0, locals := 44 }) cX2_goesAtMost 4 (some .int) (dC, dI) (tysA cB cI cJ cZ cS) as 4 (wJ cB cI cJ cZ cS a b s) [(0, .ref (a 36)), (1, .ref (b 0)), (2, .int x2), (3, .int x3)] [] (fun x u => x = r ∧ u = (wJ cB cI cJ cZ cS a b s'))) (s : JS) (x2 : Int32) (x3 : Int32) (hB : kX2_goesAtMost_4 k4 s x2 x3 = some (r, s')) : BlkI l yX2_goesAtMost wsX2_goesAtMost ({ frames := 2, cells := 0, slots := 0, locals := 44 }) cX2_goesAtMost 4 (some .int) (dC, dI) (tysA cB cI cJ cZ cS) as 4 (wJ cB cI cJ cZ cS a b s) [(0, .ref (a 36)), (1, .ref (b 0)), (2, .int x2), (3, .int x3)] [] (fun x u => x = r ∧ u = (wJ cB cI cJ cZ cS a b s')) := by
  intro p e s0 m below meth c A E H locs ls hP hD hS hl
  obtain ⟨C, hr, hlocks, hA, hK, hN⟩ := id E
  obtain ⟨hx, hb, hml, hown, hts⟩ := id C
  unfold kX2_goesAtMost_4 at hB
  refine lv_iload_n hx hb dX2_goesAtMost_4 rfl (lv_at hl 3 rfl) ?_
  refine lv_aload_n hx hb dX2_goesAtMost_5 rfl (lv_at hl 0 rfl) ?_
  refine q_get (v := .ref (a 2)) C inX2_goesAtMost_X2 hK hP 42 rfl rfl 0 (by decide) rfl LX2_goesAtMost_24 rfl dX2_goesAtMost_6 ?_
  refine q_getN (v := .int (s.k.v 1)) C hN inX2_goesAtMost_X5 hK hP 8 rfl rfl 6 (by decide) rfl nwF_X2_44 rfl dX2_goesAtMost_9 ?_
  refine lv_icmp_ge (tgt := 32) hx hb dX2_goesAtMost_12 (by decide) (fun c1 => ?_) (fun c1 => ?_)
  · have hB := if_p hB c1
    refine lv_iload_n hx hb dX2_goesAtMost_32 rfl (lv_at hl 2 rfl) ?_
    exact q_iret C hr hlocks hK hP hD hS (Nat.le_of_ble_eq_true rfl) (Nat.le_of_ble_eq_true rfl) dX2_goesAtMost_33 (by cases hB; exact ⟨rfl, rfl⟩)
  · have hB := if_n hB c1
    refine lv_iload_n hx hb dX2_goesAtMost_15 rfl (lv_at hl 2 rfl) ?_
    refine lv_aload_n hx hb dX2_goesAtMost_16 rfl (lv_at hl 0 rfl) ?_
    refine lv_aload_n hx hb dX2_goesAtMost_17 rfl (lv_at hl 1 rfl) ?_
    refine lv_iload_n hx hb dX2_goesAtMost_18 rfl (lv_at hl 3 rfl) ?_
    obtain ⟨q_, s2, hc, hB⟩ := bindI_inv hB
    refine q_goiF (va_runV (As := [.ref (b 0), .int x3]) (rest := [.int x2]) C (ckX2_mayCount hc _) (cwV 2 hts gX2_goesAtMost_X2_mayCount rfl rfl rfl (by decide +kernel) ⟨Nat.le_of_ble_eq_true rfl, Nat.le_of_ble_eq_true rfl⟩) (q_preV hK hP (ci := 2) (q0 := 42) rfl rfl rfl (q_preF hN hK hP hD)) rfl rfl hl.1 rfl (lv_room (Nat.le_of_ble_eq_true rfl)) dX2_goesAtMost_19 ⟨Nat.le_of_ble_eq_true rfl, Nat.le_of_ble_eq_true rfl⟩) hD hS hA (fun r3 w1 H locs hw hP hD hS => ?_)
    obtain ⟨hq_, hw⟩ := hw; subst hw; subst hq_
    refine lv_iconst (v := 1) hx hb dX2_goesAtMost_22 (by decide) ?_
    refine lv_isub hx hb dX2_goesAtMost_23 ?_
    refine lv_iadd hx hb dX2_goesAtMost_24 ?_
    refine lv_istore_n (lv' := [(2, .int (x2 + (r3 - 1))), (0, .ref (a 36)), (1, .ref (b 0)), (3, .int x3)]) hx hb dX2_goesAtMost_25 rfl hl (by decide) rfl (fun ls hl => ?_)
    refine lv_iinc (v := (x3 + 1)) (lv' := [(3, .int (x3 + 1)), (2, .int (x2 + (r3 - 1))), (0, .ref (a 36)), (1, .ref (b 0))]) hx hb dX2_goesAtMost_26 hl (k := 3) rfl (rfl) (by decide) rfl (fun ls hl => ?_)
    refine lv_goto (tgt := 4) hx hb dX2_goesAtMost_29 (by decide) ?_
    exact hk4 _ _ _ hB p e s0 m below meth c A E H locs ls hP hD hS (lv_sub hl [2, 3, 1, 0] rfl)
theorem bkX2_goesAtMost_4L {l : Launch} {dC : Nat → ClassId} {dI : Nat → Nat → Nat} {cB cI cJ cZ cS : ClassId} {a b : Nat → Nat} {as : List Value} {r : Int32} {s' : JS} : ∀ (n : Nat) (s : JS) (x2 : Int32) (x3 : Int32), kX2_goesAtMost_4L n s x2 x3 = some (r, s') → BlkI l yX2_goesAtMost wsX2_goesAtMost ({ frames := 2, cells := 0, slots := 0, locals := 44 }) cX2_goesAtMost 4 (some .int) (dC, dI) (tysA cB cI cJ cZ cS) as 4 (wJ cB cI cJ cZ cS a b s) [(0, .ref (a 36)), (1, .ref (b 0)), (2, .int x2), (3, .int x3)] [] (fun x u => x = r ∧ u = (wJ cB cI cJ cZ cS a b s')) := by
  intro n
  induction n with
  | zero => intro s x2 x3 hB; exact none_ne hB
  | succ n ih => intro s x2 x3 hB; exact bkX2_goesAtMost_4 ih _ _ _ hB
set_option maxHeartbeats 4000000 in
set_option maxRecDepth 100000 in
theorem bkX2_goesAtMost {l : Launch} {dC : Nat → ClassId} {dI : Nat → Nat → Nat} {cB cI cJ cZ cS : ClassId} {a b : Nat → Nat} {as : List Value} {r : Int32} {s' : JS} (s : JS) (hB : kX2_goesAtMost s = some (r, s')) : BlkI l yX2_goesAtMost wsX2_goesAtMost ({ frames := 2, cells := 0, slots := 0, locals := 44 }) cX2_goesAtMost 4 (some .int) (dC, dI) (tysA cB cI cJ cZ cS) as 0 (wJ cB cI cJ cZ cS a b s) [(0, .ref (a 36)), (1, .ref (b 0))] [] (fun x u => x = r ∧ u = (wJ cB cI cJ cZ cS a b s')) := by
  intro p e s0 m below meth c A E H locs ls hP hD hS hl
  obtain ⟨C, hr, hlocks, hA, hK, hN⟩ := id E
  obtain ⟨hx, hb, hml, hown, hts⟩ := id C
  unfold kX2_goesAtMost at hB
  refine lv_iconst (v := 1) hx hb dX2_goesAtMost_0 (by decide) ?_
  refine lv_istore_n (lv' := [(2, .int 1), (0, .ref (a 36)), (1, .ref (b 0))]) hx hb dX2_goesAtMost_1 rfl hl (by decide) rfl (fun ls hl => ?_)
  refine lv_iconst (v := 0) hx hb dX2_goesAtMost_2 (by decide) ?_
  refine lv_istore_n (lv' := [(3, .int 0), (2, .int 1), (0, .ref (a 36)), (1, .ref (b 0))]) hx hb dX2_goesAtMost_3 rfl hl (by decide) rfl (fun ls hl => ?_)
  exact bkX2_goesAtMost_4L fu _ _ _ hB p e s0 m below meth c A E H locs ls hP hD hS (lv_sub hl [2, 3, 1, 0] rfl)
theorem ckX2_goesAtMost {l : Launch} {dC : Nat → ClassId} {dI : Nat → Nat → Nat} {cB cI cJ cZ cS : ClassId} {a b : Nat → Nat} {r : Int32} {s' : JS} {s : JS} (hB : kX2_goesAtMost s = some (r, s')) : CI l yX2_goesAtMost wsX2_goesAtMost ({ frames := 2, cells := 0, slots := 0, locals := 44 }) (dC, dI) (tysA cB cI cJ cZ cS) (wJ cB cI cJ cZ cS a b s) [.ref (a 36), .ref (b 0)] (fun x u => x = r ∧ u = (wJ cB cI cJ cZ cS a b s')) :=
  CI_of (cc := cX2_goesAtMost) (maxL := 4) (ret := (some .int)) (by decide) rfl (Nat.le_of_ble_eq_true rfl) (bkX2_goesAtMost _ hB)
end
section
theorem ggX2_leftBehind_X2_mayCount : GoodIn wsX2_leftBehind wsX2_mayCount := gi_sub (fun w h => List.mem_cons_of_mem _ (List.mem_append_left _ (List.mem_append_left _ (List.mem_append_left _ (List.mem_append_left _ (List.mem_append_right _ (List.mem_append_left _ h))))))) gd_wsX2_mayCount
set_option maxRecDepth 20000 in
theorem gX2_leftBehind_X2_mayCount : GoodIn wsX2_leftBehind (wsV RX2 50 RX2 yX2_mayCount wsX2_mayCount) := goodIn_app (goodIn_r _ [7, 8, 9, 10] (by decide +kernel) (by decide +kernel)) ggX2_leftBehind_X2_mayCount
theorem ggX2_leftBehind_X0_mayBe : GoodIn wsX2_leftBehind wsX0_mayBe := gi_sub (fun w h => List.mem_cons_of_mem _ (List.mem_append_left _ (List.mem_append_left _ (List.mem_append_left _ (List.mem_append_left _ (List.mem_append_right _ (List.mem_append_right _ (List.mem_append_left _ h)))))))) gd_wsX0_mayBe
set_option maxRecDepth 20000 in
theorem gX2_leftBehind_X0_mayBe_n32 : GoodIn wsX2_leftBehind (wsX0_mayBe) := ggX2_leftBehind_X0_mayBe
theorem ggX2_leftBehind_X10_thingIn : GoodIn wsX2_leftBehind wsX10_thingIn := gi_sub (fun w h => List.mem_cons_of_mem _ (List.mem_append_left _ (List.mem_append_left _ (List.mem_append_left _ (List.mem_append_left _ (List.mem_append_right _ (List.mem_append_right _ (List.mem_append_right _ (List.mem_append_left _ h))))))))) gd_wsX10_thingIn
set_option maxRecDepth 20000 in
theorem gX2_leftBehind_X10_thingIn_n65 : GoodIn wsX2_leftBehind (wsX10_thingIn) := ggX2_leftBehind_X10_thingIn
theorem ggX2_leftBehind_X10_has : GoodIn wsX2_leftBehind wsX10_has := gi_sub (fun w h => List.mem_cons_of_mem _ (List.mem_append_left _ (List.mem_append_left _ (List.mem_append_left _ (List.mem_append_left _ (List.mem_append_right _ (List.mem_append_right _ (List.mem_append_right _ (List.mem_append_right _ h))))))))) gd_wsX10_has
set_option maxRecDepth 20000 in
theorem gX2_leftBehind_X10_has_n57 : GoodIn wsX2_leftBehind (wsX10_has) := ggX2_leftBehind_X10_has
theorem dX2_leftBehind_0 : decode cX2_leftBehind 0 = .ok (.iconst 1, 1) := dc1_4 (by decide +kernel)
theorem dX2_leftBehind_1 : decode cX2_leftBehind 1 = .ok (.istore_n 3, 1) := dc1_62 (by decide +kernel)
theorem dX2_leftBehind_2 : decode cX2_leftBehind 2 = .ok (.iconst 1, 1) := dc1_4 (by decide +kernel)
theorem dX2_leftBehind_3 : decode cX2_leftBehind 3 = .ok (.istore 4, 2) := dcu_54 (by decide +kernel)
theorem dX2_leftBehind_5 : decode cX2_leftBehind 5 = .ok (.aload_n 0, 1) := dc1_42 (by decide +kernel)
theorem dX2_leftBehind_6 : decode cX2_leftBehind 6 = .ok (.getfield 24, 3) := dcw_180 (by decide +kernel)
theorem dX2_leftBehind_9 : decode cX2_leftBehind 9 = .ok (.getfield 44, 3) := dcw_180 (by decide +kernel)
theorem dX2_leftBehind_12 : decode cX2_leftBehind 12 = .ok (.iconst 1, 1) := dc1_4 (by decide +kernel)
theorem dX2_leftBehind_13 : decode cX2_leftBehind 13 = .ok (.isub, 1) := dc1_100 (by decide +kernel)
theorem dX2_leftBehind_14 : decode cX2_leftBehind 14 = .ok (.istore 5, 2) := dcu_54 (by decide +kernel)
theorem dX2_leftBehind_16 : decode cX2_leftBehind 16 = .ok (.iload 5, 2) := dcu_21 (by decide +kernel)
theorem dX2_leftBehind_18 : decode cX2_leftBehind 18 = .ok (.ifCond .lt 68, 3) := dcs_155 (n := 68) (by decide +kernel)
theorem dX2_leftBehind_21 : decode cX2_leftBehind 21 = .ok (.aload_n 0, 1) := dc1_42 (by decide +kernel)
theorem dX2_leftBehind_22 : decode cX2_leftBehind 22 = .ok (.aload_n 1, 1) := dc1_43 (by decide +kernel)
theorem dX2_leftBehind_23 : decode cX2_leftBehind 23 = .ok (.iload 5, 2) := dcu_21 (by decide +kernel)
theorem dX2_leftBehind_25 : decode cX2_leftBehind 25 = .ok (.invokevirtual 50, 3) := dcw_182 (by decide +kernel)
theorem dX2_leftBehind_28 : decode cX2_leftBehind 28 = .ok (.istore 6, 2) := dcu_54 (by decide +kernel)
theorem dX2_leftBehind_30 : decode cX2_leftBehind 30 = .ok (.aload_n 0, 1) := dc1_42 (by decide +kernel)
theorem dX2_leftBehind_31 : decode cX2_leftBehind 31 = .ok (.getfield 28, 3) := dcw_180 (by decide +kernel)
theorem dX2_leftBehind_34 : decode cX2_leftBehind 34 = .ok (.aload_n 1, 1) := dc1_43 (by decide +kernel)
theorem dX2_leftBehind_35 : decode cX2_leftBehind 35 = .ok (.iload 5, 2) := dcu_21 (by decide +kernel)
theorem dX2_leftBehind_37 : decode cX2_leftBehind 37 = .ok (.invokevirtual 32, 3) := dcw_182 (by decide +kernel)
theorem dX2_leftBehind_40 : decode cX2_leftBehind 40 = .ok (.iload_n 2, 1) := dc1_28 (by decide +kernel)
theorem dX2_leftBehind_41 : decode cX2_leftBehind 41 = .ok (.iload 5, 2) := dcu_21 (by decide +kernel)
theorem dX2_leftBehind_43 : decode cX2_leftBehind 43 = .ok (.invokestatic 65, 3) := dcw_184 (by decide +kernel)
theorem dX2_leftBehind_46 : decode cX2_leftBehind 46 = .ok (.invokestatic 57, 3) := dcw_184 (by decide +kernel)
theorem dX2_leftBehind_49 : decode cX2_leftBehind 49 = .ok (.ifCond .eq 18, 3) := dcs_153 (n := 18) (by decide +kernel)
theorem dX2_leftBehind_52 : decode cX2_leftBehind 52 = .ok (.iload_n 3, 1) := dc1_29 (by decide +kernel)
theorem dX2_leftBehind_53 : decode cX2_leftBehind 53 = .ok (.iload 6, 2) := dcu_21 (by decide +kernel)
theorem dX2_leftBehind_55 : decode cX2_leftBehind 55 = .ok (.iconst 1, 1) := dc1_4 (by decide +kernel)
theorem dX2_leftBehind_56 : decode cX2_leftBehind 56 = .ok (.isub, 1) := dc1_100 (by decide +kernel)
theorem dX2_leftBehind_57 : decode cX2_leftBehind 57 = .ok (.iload 4, 2) := dcu_21 (by decide +kernel)
theorem dX2_leftBehind_59 : decode cX2_leftBehind 59 = .ok (.imul, 1) := dc1_104 (by decide +kernel)
theorem dX2_leftBehind_60 : decode cX2_leftBehind 60 = .ok (.invokestatic 79, 3) := dcw_184 (by decide +kernel)
theorem dX2_leftBehind_63 : decode cX2_leftBehind 63 = .ok (.istore_n 3, 1) := dc1_62 (by decide +kernel)
theorem dX2_leftBehind_64 : decode cX2_leftBehind 64 = .ok (.goto 9, 3) := dcs_167 (n := 9) (by decide +kernel)
theorem dX2_leftBehind_67 : decode cX2_leftBehind 67 = .ok (.iload 6, 2) := dcu_21 (by decide +kernel)
theorem dX2_leftBehind_69 : decode cX2_leftBehind 69 = .ok (.iload 4, 2) := dcu_21 (by decide +kernel)
theorem dX2_leftBehind_71 : decode cX2_leftBehind 71 = .ok (.imul, 1) := dc1_104 (by decide +kernel)
theorem dX2_leftBehind_72 : decode cX2_leftBehind 72 = .ok (.istore_n 3, 1) := dc1_62 (by decide +kernel)
theorem dX2_leftBehind_73 : decode cX2_leftBehind 73 = .ok (.iload 4, 2) := dcu_21 (by decide +kernel)
theorem dX2_leftBehind_75 : decode cX2_leftBehind 75 = .ok (.iload 6, 2) := dcu_21 (by decide +kernel)
theorem dX2_leftBehind_77 : decode cX2_leftBehind 77 = .ok (.imul, 1) := dc1_104 (by decide +kernel)
theorem dX2_leftBehind_78 : decode cX2_leftBehind 78 = .ok (.istore 4, 2) := dcu_54 (by decide +kernel)
theorem dX2_leftBehind_80 : decode cX2_leftBehind 80 = .ok (.iinc 5 (-1), 3) := dc_iinc (m := 255) (by decide +kernel)
theorem dX2_leftBehind_83 : decode cX2_leftBehind 83 = .ok (.goto (-67), 3) := dcs_167 (n := 65469) (by decide +kernel)
theorem dX2_leftBehind_86 : decode cX2_leftBehind 86 = .ok (.iload_n 3, 1) := dc1_29 (by decide +kernel)
theorem dX2_leftBehind_87 : decode cX2_leftBehind 87 = .ok (.ireturn, 1) := dc1_172 (by decide +kernel)
theorem ggX2_wisestGuess_X0_mayBe : GoodIn wsX2_wisestGuess wsX0_mayBe := gi_sub (fun w h => List.mem_cons_of_mem _ (List.mem_append_left _ (List.mem_append_left _ (List.mem_append_left _ (List.mem_append_left _ (List.mem_append_right _ (List.mem_append_left _ h))))))) gd_wsX0_mayBe
set_option maxRecDepth 20000 in
theorem gX2_wisestGuess_X0_mayBe_n32 : GoodIn wsX2_wisestGuess (wsX0_mayBe) := ggX2_wisestGuess_X0_mayBe
theorem ggX2_wisestGuess_J6_numberOfTrailingZeros_0f7a4 : GoodIn wsX2_wisestGuess wsJ6_numberOfTrailingZeros_0f7a4 := gi_sub (fun w h => List.mem_cons_of_mem _ (List.mem_append_left _ (List.mem_append_left _ (List.mem_append_left _ (List.mem_append_left _ (List.mem_append_right _ (List.mem_append_right _ (List.mem_append_left _ h)))))))) gd_wsJ6_numberOfTrailingZeros_0f7a4
set_option maxRecDepth 20000 in
theorem gX2_wisestGuess_J6_numberOfTrailingZeros_0f7a4 : GoodIn wsX2_wisestGuess (va_wsS RX2 84 yJ6_numberOfTrailingZeros_0f7a4 wsJ6_numberOfTrailingZeros_0f7a4) := goodIn_app (goodIn_of _ (by decide +kernel)) ggX2_wisestGuess_J6_numberOfTrailingZeros_0f7a4
theorem ggX2_wisestGuess_X2_mayCount : GoodIn wsX2_wisestGuess wsX2_mayCount := gi_sub (fun w h => List.mem_cons_of_mem _ (List.mem_append_left _ (List.mem_append_left _ (List.mem_append_left _ (List.mem_append_left _ (List.mem_append_right _ (List.mem_append_right _ (List.mem_append_right _ h)))))))) gd_wsX2_mayCount
set_option maxRecDepth 20000 in
theorem gX2_wisestGuess_X2_mayCount : GoodIn wsX2_wisestGuess (wsV RX2 50 RX2 yX2_mayCount wsX2_mayCount) := goodIn_app (goodIn_r _ [9, 10, 11, 12] (by decide +kernel) (by decide +kernel)) ggX2_wisestGuess_X2_mayCount
theorem dX2_wisestGuess_0 : decode cX2_wisestGuess 0 = .ok (.iconst 0, 1) := dc1_3 (by decide +kernel)
theorem dX2_wisestGuess_1 : decode cX2_wisestGuess 1 = .ok (.istore_n 2, 1) := dc1_61 (by decide +kernel)
theorem dX2_wisestGuess_2 : decode cX2_wisestGuess 2 = .ok (.iconst 1, 1) := dc1_4 (by decide +kernel)
theorem dX2_wisestGuess_3 : decode cX2_wisestGuess 3 = .ok (.istore_n 3, 1) := dc1_62 (by decide +kernel)
theorem dX2_wisestGuess_4 : decode cX2_wisestGuess 4 = .ok (.iconst 0, 1) := dc1_3 (by decide +kernel)
theorem dX2_wisestGuess_5 : decode cX2_wisestGuess 5 = .ok (.istore 4, 2) := dcu_54 (by decide +kernel)
theorem dX2_wisestGuess_7 : decode cX2_wisestGuess 7 = .ok (.iload 4, 2) := dcu_21 (by decide +kernel)
theorem dX2_wisestGuess_9 : decode cX2_wisestGuess 9 = .ok (.aload_n 0, 1) := dc1_42 (by decide +kernel)
theorem dX2_wisestGuess_10 : decode cX2_wisestGuess 10 = .ok (.getfield 24, 3) := dcw_180 (by decide +kernel)
theorem dX2_wisestGuess_13 : decode cX2_wisestGuess 13 = .ok (.getfield 44, 3) := dcw_180 (by decide +kernel)
theorem dX2_wisestGuess_16 : decode cX2_wisestGuess 16 = .ok (.if_icmp .ge 45, 3) := dcs_162 (n := 45) (by decide +kernel)
theorem dX2_wisestGuess_19 : decode cX2_wisestGuess 19 = .ok (.iload_n 2, 1) := dc1_28 (by decide +kernel)
theorem dX2_wisestGuess_20 : decode cX2_wisestGuess 20 = .ok (.iload_n 3, 1) := dc1_29 (by decide +kernel)
theorem dX2_wisestGuess_21 : decode cX2_wisestGuess 21 = .ok (.aload_n 0, 1) := dc1_42 (by decide +kernel)
theorem dX2_wisestGuess_22 : decode cX2_wisestGuess 22 = .ok (.getfield 28, 3) := dcw_180 (by decide +kernel)
theorem dX2_wisestGuess_25 : decode cX2_wisestGuess 25 = .ok (.aload_n 1, 1) := dc1_43 (by decide +kernel)
theorem dX2_wisestGuess_26 : decode cX2_wisestGuess 26 = .ok (.iload 4, 2) := dcu_21 (by decide +kernel)
theorem dX2_wisestGuess_28 : decode cX2_wisestGuess 28 = .ok (.invokevirtual 32, 3) := dcw_182 (by decide +kernel)
theorem dX2_wisestGuess_31 : decode cX2_wisestGuess 31 = .ok (.invokestatic 84, 3) := dcw_184 (by decide +kernel)
theorem dX2_wisestGuess_34 : decode cX2_wisestGuess 34 = .ok (.imul, 1) := dc1_104 (by decide +kernel)
theorem dX2_wisestGuess_35 : decode cX2_wisestGuess 35 = .ok (.iadd, 1) := dc1_96 (by decide +kernel)
theorem dX2_wisestGuess_36 : decode cX2_wisestGuess 36 = .ok (.istore_n 2, 1) := dc1_61 (by decide +kernel)
theorem dX2_wisestGuess_37 : decode cX2_wisestGuess 37 = .ok (.aload_n 0, 1) := dc1_42 (by decide +kernel)
theorem dX2_wisestGuess_38 : decode cX2_wisestGuess 38 = .ok (.aload_n 1, 1) := dc1_43 (by decide +kernel)
theorem dX2_wisestGuess_39 : decode cX2_wisestGuess 39 = .ok (.iload 4, 2) := dcu_21 (by decide +kernel)
theorem dX2_wisestGuess_41 : decode cX2_wisestGuess 41 = .ok (.invokevirtual 50, 3) := dcw_182 (by decide +kernel)
theorem dX2_wisestGuess_44 : decode cX2_wisestGuess 44 = .ok (.iconst 1, 1) := dc1_4 (by decide +kernel)
theorem dX2_wisestGuess_45 : decode cX2_wisestGuess 45 = .ok (.if_icmp .le 5, 3) := dcs_164 (n := 5) (by decide +kernel)
theorem dX2_wisestGuess_48 : decode cX2_wisestGuess 48 = .ok (.iload_n 2, 1) := dc1_28 (by decide +kernel)
theorem dX2_wisestGuess_49 : decode cX2_wisestGuess 49 = .ok (.ireturn, 1) := dc1_172 (by decide +kernel)
theorem dX2_wisestGuess_50 : decode cX2_wisestGuess 50 = .ok (.iload_n 3, 1) := dc1_29 (by decide +kernel)
theorem dX2_wisestGuess_51 : decode cX2_wisestGuess 51 = .ok (.bipush 6, 2) := dcb_16 (n := 6) (by decide +kernel)
theorem dX2_wisestGuess_53 : decode cX2_wisestGuess 53 = .ok (.imul, 1) := dc1_104 (by decide +kernel)
theorem dX2_wisestGuess_54 : decode cX2_wisestGuess 54 = .ok (.istore_n 3, 1) := dc1_62 (by decide +kernel)
theorem dX2_wisestGuess_55 : decode cX2_wisestGuess 55 = .ok (.iinc 4 1, 3) := dc_iinc (m := 1) (by decide +kernel)
theorem dX2_wisestGuess_58 : decode cX2_wisestGuess 58 = .ok (.goto (-51), 3) := dcs_167 (n := 65485) (by decide +kernel)
theorem dX2_wisestGuess_61 : decode cX2_wisestGuess 61 = .ok (.iconst 0, 1) := dc1_3 (by decide +kernel)
theorem dX2_wisestGuess_62 : decode cX2_wisestGuess 62 = .ok (.ireturn, 1) := dc1_172 (by decide +kernel)
theorem ggX2_oddsApart_X2_oddsIfMay : GoodIn wsX2_oddsApart wsX2_oddsIfMay := gi_sub (fun w h => List.mem_cons_of_mem _ (List.mem_append_left _ (List.mem_append_left _ (List.mem_append_left _ (List.mem_append_left _ (List.mem_append_right _ h)))))) gd_wsX2_oddsIfMay
set_option maxRecDepth 20000 in
theorem gX2_oddsApart_X2_oddsIfMay : GoodIn wsX2_oddsApart (wsV RX2 53 RX2 yX2_oddsIfMay wsX2_oddsIfMay) := goodIn_app (goodIn_r _ [8, 9, 10, 11] (by decide +kernel) (by decide +kernel)) ggX2_oddsApart_X2_oddsIfMay
theorem dX2_oddsApart_0 : decode cX2_oddsApart 0 = .ok (.bipush 9, 2) := dcb_16 (n := 9) (by decide +kernel)
theorem dX2_oddsApart_2 : decode cX2_oddsApart 2 = .ok (.istore_n 3, 1) := dc1_62 (by decide +kernel)
theorem dX2_oddsApart_3 : decode cX2_oddsApart 3 = .ok (.iconst 0, 1) := dc1_3 (by decide +kernel)
theorem dX2_oddsApart_4 : decode cX2_oddsApart 4 = .ok (.istore 4, 2) := dcu_54 (by decide +kernel)
theorem dX2_oddsApart_6 : decode cX2_oddsApart 6 = .ok (.iconst 0, 1) := dc1_3 (by decide +kernel)
theorem dX2_oddsApart_7 : decode cX2_oddsApart 7 = .ok (.istore 5, 2) := dcu_54 (by decide +kernel)
theorem dX2_oddsApart_9 : decode cX2_oddsApart 9 = .ok (.iload 5, 2) := dcu_21 (by decide +kernel)
theorem dX2_oddsApart_11 : decode cX2_oddsApart 11 = .ok (.bipush 6, 2) := dcb_16 (n := 6) (by decide +kernel)
theorem dX2_oddsApart_13 : decode cX2_oddsApart 13 = .ok (.if_icmp .ge 40, 3) := dcs_162 (n := 40) (by decide +kernel)
theorem dX2_oddsApart_16 : decode cX2_oddsApart 16 = .ok (.aload_n 0, 1) := dc1_42 (by decide +kernel)
theorem dX2_oddsApart_17 : decode cX2_oddsApart 17 = .ok (.aload_n 1, 1) := dc1_43 (by decide +kernel)
theorem dX2_oddsApart_18 : decode cX2_oddsApart 18 = .ok (.iload_n 2, 1) := dc1_28 (by decide +kernel)
theorem dX2_oddsApart_19 : decode cX2_oddsApart 19 = .ok (.iload 5, 2) := dcu_21 (by decide +kernel)
theorem dX2_oddsApart_21 : decode cX2_oddsApart 21 = .ok (.invokevirtual 53, 3) := dcw_182 (by decide +kernel)
theorem dX2_oddsApart_24 : decode cX2_oddsApart 24 = .ok (.istore 6, 2) := dcu_54 (by decide +kernel)
theorem dX2_oddsApart_26 : decode cX2_oddsApart 26 = .ok (.iload 6, 2) := dcu_21 (by decide +kernel)
theorem dX2_oddsApart_28 : decode cX2_oddsApart 28 = .ok (.ifCond .le 19, 3) := dcs_158 (n := 19) (by decide +kernel)
theorem dX2_oddsApart_31 : decode cX2_oddsApart 31 = .ok (.iload_n 3, 1) := dc1_29 (by decide +kernel)
theorem dX2_oddsApart_32 : decode cX2_oddsApart 32 = .ok (.iload 6, 2) := dcu_21 (by decide +kernel)
theorem dX2_oddsApart_34 : decode cX2_oddsApart 34 = .ok (.invokestatic 87, 3) := dcw_184 (by decide +kernel)
theorem dX2_oddsApart_37 : decode cX2_oddsApart 37 = .ok (.istore_n 3, 1) := dc1_62 (by decide +kernel)
theorem dX2_oddsApart_38 : decode cX2_oddsApart 38 = .ok (.iload 4, 2) := dcu_21 (by decide +kernel)
theorem dX2_oddsApart_40 : decode cX2_oddsApart 40 = .ok (.iload 6, 2) := dcu_21 (by decide +kernel)
theorem dX2_oddsApart_42 : decode cX2_oddsApart 42 = .ok (.invokestatic 79, 3) := dcw_184 (by decide +kernel)
theorem dX2_oddsApart_45 : decode cX2_oddsApart 45 = .ok (.istore 4, 2) := dcu_54 (by decide +kernel)
theorem dX2_oddsApart_47 : decode cX2_oddsApart 47 = .ok (.iinc 5 1, 3) := dc_iinc (m := 1) (by decide +kernel)
theorem dX2_oddsApart_50 : decode cX2_oddsApart 50 = .ok (.goto (-41), 3) := dcs_167 (n := 65495) (by decide +kernel)
theorem dX2_oddsApart_53 : decode cX2_oddsApart 53 = .ok (.iconst 0, 1) := dc1_3 (by decide +kernel)
theorem dX2_oddsApart_54 : decode cX2_oddsApart 54 = .ok (.iload 4, 2) := dcu_21 (by decide +kernel)
theorem dX2_oddsApart_56 : decode cX2_oddsApart 56 = .ok (.iload_n 3, 1) := dc1_29 (by decide +kernel)
theorem dX2_oddsApart_57 : decode cX2_oddsApart 57 = .ok (.isub, 1) := dc1_100 (by decide +kernel)
theorem dX2_oddsApart_58 : decode cX2_oddsApart 58 = .ok (.invokestatic 79, 3) := dcw_184 (by decide +kernel)
theorem dX2_oddsApart_61 : decode cX2_oddsApart 61 = .ok (.ireturn, 1) := dc1_172 (by decide +kernel)
theorem ggX2_fillRow_X2_oddsIfMay : GoodIn wsX2_fillRow wsX2_oddsIfMay := gi_sub (fun w h => List.mem_cons_of_mem _ (List.mem_append_left _ (List.mem_append_left _ (List.mem_append_left _ (List.mem_append_left _ (List.mem_append_right _ h)))))) gd_wsX2_oddsIfMay
set_option maxRecDepth 20000 in
theorem gX2_fillRow_X2_oddsIfMay : GoodIn wsX2_fillRow (wsV RX2 53 RX2 yX2_oddsIfMay wsX2_oddsIfMay) := goodIn_app (goodIn_r _ [1, 2, 3, 4] (by decide +kernel) (by decide +kernel)) ggX2_fillRow_X2_oddsIfMay
theorem dX2_fillRow_0 : decode cX2_fillRow 0 = .ok (.iconst 1, 1) := dc1_4 (by decide +kernel)
theorem dX2_fillRow_1 : decode cX2_fillRow 1 = .ok (.istore 5, 2) := dcu_54 (by decide +kernel)
theorem dX2_fillRow_3 : decode cX2_fillRow 3 = .ok (.aload_n 2, 1) := dc1_44 (by decide +kernel)
theorem dX2_fillRow_4 : decode cX2_fillRow 4 = .ok (.iconst 0, 1) := dc1_3 (by decide +kernel)
theorem dX2_fillRow_5 : decode cX2_fillRow 5 = .ok (.iconst 1, 1) := dc1_4 (by decide +kernel)
theorem dX2_fillRow_6 : decode cX2_fillRow 6 = .ok (.iastore, 1) := dc1_79 (by decide +kernel)
theorem dX2_fillRow_7 : decode cX2_fillRow 7 = .ok (.iload_n 3, 1) := dc1_29 (by decide +kernel)
theorem dX2_fillRow_8 : decode cX2_fillRow 8 = .ok (.istore 6, 2) := dcu_54 (by decide +kernel)
theorem dX2_fillRow_10 : decode cX2_fillRow 10 = .ok (.iload 6, 2) := dcu_21 (by decide +kernel)
theorem dX2_fillRow_12 : decode cX2_fillRow 12 = .ok (.iload 4, 2) := dcu_21 (by decide +kernel)
theorem dX2_fillRow_14 : decode cX2_fillRow 14 = .ok (.if_icmp .ge 74, 3) := dcs_162 (n := 74) (by decide +kernel)
theorem dX2_fillRow_17 : decode cX2_fillRow 17 = .ok (.iconst 5, 1) := dc1_8 (by decide +kernel)
theorem dX2_fillRow_18 : decode cX2_fillRow 18 = .ok (.istore 7, 2) := dcu_54 (by decide +kernel)
theorem dX2_fillRow_20 : decode cX2_fillRow 20 = .ok (.iload 7, 2) := dcu_21 (by decide +kernel)
theorem dX2_fillRow_22 : decode cX2_fillRow 22 = .ok (.ifCond .lt 53, 3) := dcs_155 (n := 53) (by decide +kernel)
theorem dX2_fillRow_25 : decode cX2_fillRow 25 = .ok (.aload_n 0, 1) := dc1_42 (by decide +kernel)
theorem dX2_fillRow_26 : decode cX2_fillRow 26 = .ok (.aload_n 1, 1) := dc1_43 (by decide +kernel)
theorem dX2_fillRow_27 : decode cX2_fillRow 27 = .ok (.iload 6, 2) := dcu_21 (by decide +kernel)
theorem dX2_fillRow_29 : decode cX2_fillRow 29 = .ok (.iload 7, 2) := dcu_21 (by decide +kernel)
theorem dX2_fillRow_31 : decode cX2_fillRow 31 = .ok (.invokevirtual 53, 3) := dcw_182 (by decide +kernel)
theorem dX2_fillRow_34 : decode cX2_fillRow 34 = .ok (.istore 8, 2) := dcu_54 (by decide +kernel)
theorem dX2_fillRow_36 : decode cX2_fillRow 36 = .ok (.iconst 0, 1) := dc1_3 (by decide +kernel)
theorem dX2_fillRow_37 : decode cX2_fillRow 37 = .ok (.istore 9, 2) := dcu_54 (by decide +kernel)
theorem dX2_fillRow_39 : decode cX2_fillRow 39 = .ok (.iload 9, 2) := dcu_21 (by decide +kernel)
theorem dX2_fillRow_41 : decode cX2_fillRow 41 = .ok (.iload 5, 2) := dcu_21 (by decide +kernel)
theorem dX2_fillRow_43 : decode cX2_fillRow 43 = .ok (.if_icmp .ge 26, 3) := dcs_162 (n := 26) (by decide +kernel)
theorem dX2_fillRow_46 : decode cX2_fillRow 46 = .ok (.aload_n 2, 1) := dc1_44 (by decide +kernel)
theorem dX2_fillRow_47 : decode cX2_fillRow 47 = .ok (.iload 7, 2) := dcu_21 (by decide +kernel)
theorem dX2_fillRow_49 : decode cX2_fillRow 49 = .ok (.iload 5, 2) := dcu_21 (by decide +kernel)
theorem dX2_fillRow_51 : decode cX2_fillRow 51 = .ok (.imul, 1) := dc1_104 (by decide +kernel)
theorem dX2_fillRow_52 : decode cX2_fillRow 52 = .ok (.iload 9, 2) := dcu_21 (by decide +kernel)
theorem dX2_fillRow_54 : decode cX2_fillRow 54 = .ok (.iadd, 1) := dc1_96 (by decide +kernel)
theorem dX2_fillRow_55 : decode cX2_fillRow 55 = .ok (.aload_n 2, 1) := dc1_44 (by decide +kernel)
theorem dX2_fillRow_56 : decode cX2_fillRow 56 = .ok (.iload 9, 2) := dcu_21 (by decide +kernel)
theorem dX2_fillRow_58 : decode cX2_fillRow 58 = .ok (.iaload, 1) := dc1_46 (by decide +kernel)
theorem dX2_fillRow_59 : decode cX2_fillRow 59 = .ok (.iload 8, 2) := dcu_21 (by decide +kernel)
theorem dX2_fillRow_61 : decode cX2_fillRow 61 = .ok (.imul, 1) := dc1_104 (by decide +kernel)
theorem dX2_fillRow_62 : decode cX2_fillRow 62 = .ok (.iastore, 1) := dc1_79 (by decide +kernel)
theorem dX2_fillRow_63 : decode cX2_fillRow 63 = .ok (.iinc 9 1, 3) := dc_iinc (m := 1) (by decide +kernel)
theorem dX2_fillRow_66 : decode cX2_fillRow 66 = .ok (.goto (-27), 3) := dcs_167 (n := 65509) (by decide +kernel)
theorem dX2_fillRow_69 : decode cX2_fillRow 69 = .ok (.iinc 7 (-1), 3) := dc_iinc (m := 255) (by decide +kernel)
theorem dX2_fillRow_72 : decode cX2_fillRow 72 = .ok (.goto (-52), 3) := dcs_167 (n := 65484) (by decide +kernel)
theorem dX2_fillRow_75 : decode cX2_fillRow 75 = .ok (.iload 5, 2) := dcu_21 (by decide +kernel)
theorem dX2_fillRow_77 : decode cX2_fillRow 77 = .ok (.bipush 6, 2) := dcb_16 (n := 6) (by decide +kernel)
theorem dX2_fillRow_79 : decode cX2_fillRow 79 = .ok (.imul, 1) := dc1_104 (by decide +kernel)
theorem dX2_fillRow_80 : decode cX2_fillRow 80 = .ok (.istore 5, 2) := dcu_54 (by decide +kernel)
theorem dX2_fillRow_82 : decode cX2_fillRow 82 = .ok (.iinc 6 1, 3) := dc_iinc (m := 1) (by decide +kernel)
theorem dX2_fillRow_85 : decode cX2_fillRow 85 = .ok (.goto (-75), 3) := dcs_167 (n := 65461) (by decide +kernel)
theorem dX2_fillRow_88 : decode cX2_fillRow 88 = .ok (.iload 5, 2) := dcu_21 (by decide +kernel)
theorem dX2_fillRow_90 : decode cX2_fillRow 90 = .ok (.ireturn, 1) := dc1_172 (by decide +kernel)
theorem LX2_leftBehind_24 : Cond.fieldLink RX2 24 "GuessFerry$Outlook" "sound" "LGuessFerry$Sound;" ∈ wsX2_leftBehind := (List.mem_cons_of_mem _ (List.mem_append_left _ (List.mem_append_left _ (List.mem_append_left _ (List.mem_append_left _ (List.mem_append_left _ (List.mem_of_getElem? (i := 0) rfl)))))))
theorem LX2_leftBehind_28 : Cond.fieldLink RX2 28 "GuessFerry$Outlook" "crossing" "LGuessFerry$Crossing;" ∈ wsX2_leftBehind := (List.mem_cons_of_mem _ (List.mem_append_left _ (List.mem_append_left _ (List.mem_append_left _ (List.mem_append_left _ (List.mem_append_left _ (List.mem_of_getElem? (i := 1) rfl)))))))
theorem LX2_leftBehind_E_X0_mayBe : Cond.selects RX0 yX0_mayBe yX0_mayBe ∈ wsX2_leftBehind := (List.mem_cons_of_mem _ (List.mem_append_left _ (List.mem_append_left _ (List.mem_append_left _ (List.mem_append_left _ (List.mem_append_left _ (List.mem_of_getElem? (i := 12) rfl)))))))
theorem LX2_leftBehind_I_X0 : Cond.initialized RX0 ∈ wsX2_leftBehind := (List.mem_cons_of_mem _ (List.mem_append_left _ (List.mem_append_left _ (List.mem_append_left _ (List.mem_append_left _ (List.mem_append_left _ (List.mem_of_getElem? (i := 11) rfl)))))))
theorem LX2_leftBehind_I_X10 : Cond.initialized RX10 ∈ wsX2_leftBehind := (List.mem_cons_of_mem _ (List.mem_append_left _ (List.mem_append_left _ (List.mem_append_left _ (List.mem_append_left _ (List.mem_append_left _ (List.mem_of_getElem? (i := 14) rfl)))))))
theorem LX2_leftBehind_M79 : Cond.methodLink RX2 79 Lib.Math.max.name ∈ wsX2_leftBehind := (List.mem_cons_of_mem _ (List.mem_append_left _ (List.mem_append_left _ (List.mem_append_left _ (List.mem_append_left _ (List.mem_append_left _ (List.mem_of_getElem? (i := 2) rfl)))))))
theorem LX2_leftBehind_MCmax : Cond.code Lib.Math.max.name Lib.Math.max.code 2 (some .int) ∈ wsX2_leftBehind := (List.mem_cons_of_mem _ (List.mem_append_left _ (List.mem_append_left _ (List.mem_append_left _ (List.mem_append_left _ (List.mem_append_left _ (List.mem_of_getElem? (i := 5) rfl)))))))
theorem LX2_leftBehind_MI : Cond.initialized "java/lang/Math" ∈ wsX2_leftBehind := (List.mem_cons_of_mem _ (List.mem_append_left _ (List.mem_append_left _ (List.mem_append_left _ (List.mem_append_left _ (List.mem_append_left _ (List.mem_of_getElem? (i := 4) rfl)))))))
theorem LX2_leftBehind_MSmax : Cond.static Lib.Math.max.name ∈ wsX2_leftBehind := (List.mem_cons_of_mem _ (List.mem_append_left _ (List.mem_append_left _ (List.mem_append_left _ (List.mem_append_left _ (List.mem_append_left _ (List.mem_of_getElem? (i := 3) rfl)))))))
theorem LX2_leftBehind_N_X0_mayBe : Cond.instanceMethod yX0_mayBe ∈ wsX2_leftBehind := (List.mem_cons_of_mem _ (List.mem_append_left _ (List.mem_append_left _ (List.mem_append_left _ (List.mem_append_left _ (List.mem_append_left _ (List.mem_of_getElem? (i := 10) rfl)))))))
theorem LX2_leftBehind_S_X10_has : Cond.static yX10_has ∈ wsX2_leftBehind := (List.mem_cons_of_mem _ (List.mem_append_left _ (List.mem_append_left _ (List.mem_append_left _ (List.mem_append_left _ (List.mem_append_left _ (List.mem_of_getElem? (i := 15) rfl)))))))
theorem LX2_leftBehind_S_X10_thingIn : Cond.static yX10_thingIn ∈ wsX2_leftBehind := (List.mem_cons_of_mem _ (List.mem_append_left _ (List.mem_append_left _ (List.mem_append_left _ (List.mem_append_left _ (List.mem_append_left _ (List.mem_of_getElem? (i := 13) rfl)))))))
theorem inX2_leftBehind_X2 : ∀ w ∈ u_ws RX2 TX2 6, w ∈ wsX2_leftBehind := fun w h => (List.mem_cons_of_mem _ (List.mem_append_left _ (List.mem_append_left _ (List.mem_append_left _ (List.mem_append_right _ h)))))
theorem inX2_leftBehind_X5 : ∀ w ∈ u_ws RX5 TX5 10, w ∈ wsX2_leftBehind := fun w h => (List.mem_cons_of_mem _ (List.mem_append_left _ (List.mem_append_left _ (List.mem_append_right _ h))))
set_option maxHeartbeats 4000000 in
set_option maxRecDepth 100000 in
theorem bkX2_leftBehind_73 {l : Launch} {dC : Nat → ClassId} {dI : Nat → Nat → Nat} {cB cI cJ cZ cS : ClassId} {a b : Nat → Nat} {as : List Value} {r : Int32} {s' : JS} {k16 : JS → Int32 → Int32 → Int32 → Int32 → Option (Int32 × JS)} (hk16 : ∀ (s : JS) (x2 : Int32) (x3 : Int32) (x4 : Int32) (x5 : Int32), k16 s x2 x3 x4 x5 = some (r, s') → BlkI l yX2_leftBehind wsX2_leftBehind ({ frames := 2, cells := 0, slots := 0, locals := 44 }) cX2_leftBehind 7 (some .int) (dC, dI) (tysA cB cI cJ cZ cS) as 16 (wJ cB cI cJ cZ cS a b s) [(0, .ref (a 36)), (1, .ref (b 0)), (2, .int x2), (3, .int x3), (4, .int x4), (5, .int x5)] [] (fun x u => x = r ∧ u = (wJ cB cI cJ cZ cS a b s'))) (s : JS) (x2 : Int32) (x3 : Int32) (x4 : Int32) (x5 : Int32) (x6 : Int32) (hB : kX2_leftBehind_73 k16 s x2 x3 x4 x5 x6 = some (r, s')) : BlkI l yX2_leftBehind wsX2_leftBehind ({ frames := 2, cells := 0, slots := 0, locals := 44 }) cX2_leftBehind 7 (some .int) (dC, dI) (tysA cB cI cJ cZ cS) as 73 (wJ cB cI cJ cZ cS a b s) [(0, .ref (a 36)), (1, .ref (b 0)), (2, .int x2), (3, .int x3), (4, .int x4), (5, .int x5), (6, .int x6)] [] (fun x u => x = r ∧ u = (wJ cB cI cJ cZ cS a b s')) := by
  intro p e s0 m below meth c A E H locs ls hP hD hS hl
  obtain ⟨C, hr, hlocks, hA, hK, hN⟩ := id E
  obtain ⟨hx, hb, hml, hown, hts⟩ := id C
  unfold kX2_leftBehind_73 at hB
  refine lv_iload hx hb dX2_leftBehind_73 (lv_at hl 4 rfl) ?_
  refine lv_iload hx hb dX2_leftBehind_75 (lv_at hl 6 rfl) ?_
  refine lv_imul hx hb dX2_leftBehind_77 ?_
  refine lv_istore (lv' := [(4, .int (x4 * x6)), (0, .ref (a 36)), (1, .ref (b 0)), (2, .int x2), (3, .int x3), (5, .int x5), (6, .int x6)]) hx hb dX2_leftBehind_78 hl (by decide) rfl (fun ls hl => ?_)
  refine lv_iinc (v := (x5 + (-1))) (lv' := [(5, .int (x5 + (-1))), (4, .int (x4 * x6)), (0, .ref (a 36)), (1, .ref (b 0)), (2, .int x2), (3, .int x3), (6, .int x6)]) hx hb dX2_leftBehind_80 hl (k := 5) rfl (rfl) (by decide) rfl (fun ls hl => ?_)
  refine lv_goto (tgt := 16) hx hb dX2_leftBehind_83 (by decide) ?_
  exact hk16 _ _ _ _ _ hB p e s0 m below meth c A E H locs ls hP hD hS (lv_sub hl [2, 3, 4, 5, 1, 0] rfl)
set_option maxHeartbeats 4000000 in
set_option maxRecDepth 100000 in
theorem bkX2_leftBehind_16 {l : Launch} {dC : Nat → ClassId} {dI : Nat → Nat → Nat} {cB cI cJ cZ cS : ClassId} {a b : Nat → Nat} {as : List Value} {r : Int32} {s' : JS} {k16 : JS → Int32 → Int32 → Int32 → Int32 → Option (Int32 × JS)} (hk16 : ∀ (s : JS) (x2 : Int32) (x3 : Int32) (x4 : Int32) (x5 : Int32), k16 s x2 x3 x4 x5 = some (r, s') → BlkI l yX2_leftBehind wsX2_leftBehind ({ frames := 2, cells := 0, slots := 0, locals := 44 }) cX2_leftBehind 7 (some .int) (dC, dI) (tysA cB cI cJ cZ cS) as 16 (wJ cB cI cJ cZ cS a b s) [(0, .ref (a 36)), (1, .ref (b 0)), (2, .int x2), (3, .int x3), (4, .int x4), (5, .int x5)] [] (fun x u => x = r ∧ u = (wJ cB cI cJ cZ cS a b s'))) (s : JS) (x2 : Int32) (x3 : Int32) (x4 : Int32) (x5 : Int32) (hB : kX2_leftBehind_16 k16 s x2 x3 x4 x5 = some (r, s')) : BlkI l yX2_leftBehind wsX2_leftBehind ({ frames := 2, cells := 0, slots := 0, locals := 44 }) cX2_leftBehind 7 (some .int) (dC, dI) (tysA cB cI cJ cZ cS) as 16 (wJ cB cI cJ cZ cS a b s) [(0, .ref (a 36)), (1, .ref (b 0)), (2, .int x2), (3, .int x3), (4, .int x4), (5, .int x5)] [] (fun x u => x = r ∧ u = (wJ cB cI cJ cZ cS a b s')) := by
  intro p e s0 m below meth c A E H locs ls hP hD hS hl
  obtain ⟨C, hr, hlocks, hA, hK, hN⟩ := id E
  obtain ⟨hx, hb, hml, hown, hts⟩ := id C
  unfold kX2_leftBehind_16 at hB
  refine lv_iload hx hb dX2_leftBehind_16 (lv_at hl 5 rfl) ?_
  refine lv_if_lt (tgt := 86) hx hb dX2_leftBehind_18 (by decide) (fun c1 => ?_) (fun c1 => ?_)
  · have hB := if_p hB c1
    refine lv_iload_n hx hb dX2_leftBehind_86 rfl (lv_at hl 3 rfl) ?_
    exact q_iret C hr hlocks hK hP hD hS (Nat.le_of_ble_eq_true rfl) (Nat.le_of_ble_eq_true rfl) dX2_leftBehind_87 (by cases hB; exact ⟨rfl, rfl⟩)
  · have hB := if_n hB c1
    refine lv_aload_n hx hb dX2_leftBehind_21 rfl (lv_at hl 0 rfl) ?_
    refine lv_aload_n hx hb dX2_leftBehind_22 rfl (lv_at hl 1 rfl) ?_
    refine lv_iload hx hb dX2_leftBehind_23 (lv_at hl 5 rfl) ?_
    obtain ⟨q_, s2, hc, hB⟩ := bindI_inv hB
    refine q_goiF (va_runV (As := [.ref (b 0), .int x5]) (rest := []) C (ckX2_mayCount hc _) (cwV 2 hts gX2_leftBehind_X2_mayCount rfl rfl rfl (by decide +kernel) ⟨Nat.le_of_ble_eq_true rfl, Nat.le_of_ble_eq_true rfl⟩) (q_preV hK hP (ci := 2) (q0 := 42) rfl rfl rfl (q_preF hN hK hP hD)) rfl rfl hl.1 rfl (lv_room (Nat.le_of_ble_eq_true rfl)) dX2_leftBehind_25 ⟨Nat.le_of_ble_eq_true rfl, Nat.le_of_ble_eq_true rfl⟩) hD hS hA (fun r3 w1 H locs hw hP hD hS => ?_)
    obtain ⟨hq_, hw⟩ := hw; subst hw; subst hq_
    refine lv_istore (lv' := [(6, .int r3), (0, .ref (a 36)), (1, .ref (b 0)), (2, .int x2), (3, .int x3), (4, .int x4), (5, .int x5)]) hx hb dX2_leftBehind_28 hl (by decide) rfl (fun ls hl => ?_)
    refine lv_aload_n hx hb dX2_leftBehind_30 rfl (lv_at hl 1 rfl) ?_
    refine q_get (v := .ref (a 35)) C inX2_leftBehind_X2 hK hP 42 rfl rfl 1 (by decide) rfl LX2_leftBehind_28 rfl dX2_leftBehind_31 ?_
    refine lv_aload_n hx hb dX2_leftBehind_34 rfl (lv_at hl 2 rfl) ?_
    refine lv_iload hx hb dX2_leftBehind_35 (lv_at hl 6 rfl) ?_
    obtain ⟨q_, s4, hc, hB⟩ := bindI_inv hB
    refine q_goiF (va_runVN (As := [.ref (b 0), .int x5]) (rest := []) C (ckX0_mayBe hc _) ⟨va_cnB 2 hts gX2_leftBehind_X0_mayBe_n32 rfl rfl rfl (hN _ nwM_X2_32 rfl) (hts _ LX2_leftBehind_I_X0) (by decide +kernel) ⟨Nat.le_of_ble_eq_true rfl, Nat.le_of_ble_eq_true rfl⟩, hts _ LX2_leftBehind_N_X0_mayBe, hts _ LX2_leftBehind_E_X0_mayBe⟩ (q_preV hK hP (ci := 0) (q0 := 41) rfl rfl rfl (q_preF hN hK hP hD)) rfl rfl hl.1 rfl (lv_room (Nat.le_of_ble_eq_true rfl)) dX2_leftBehind_37 ⟨Nat.le_of_ble_eq_true rfl, Nat.le_of_ble_eq_true rfl⟩) hD hS hA (fun r5 w1 H locs hw hP hD hS => ?_)
    obtain ⟨hq_, hw⟩ := hw; subst hw; subst hq_
    refine lv_iload_n hx hb dX2_leftBehind_40 rfl (lv_at hl 3 rfl) ?_
    refine lv_iload hx hb dX2_leftBehind_41 (lv_at hl 6 rfl) ?_
    obtain ⟨q_, hc, hB⟩ := bindP_inv hB
    refine q_goi0 (va_runSN (As := [.int x2, .int x5]) (rest := [.int r5]) C (ckX10_thingIn hc _) ⟨va_cnB 2 hts gX2_leftBehind_X10_thingIn_n65 rfl rfl rfl (hN _ nwM_X2_65 rfl) (hts _ LX2_leftBehind_I_X10) (by decide +kernel) ⟨Nat.le_of_ble_eq_true rfl, Nat.le_of_ble_eq_true rfl⟩, hts _ LX2_leftBehind_S_X10_thingIn, trivial⟩ (q_pre0 hN hK) rfl rfl hl.1 rfl (lv_room (Nat.le_of_ble_eq_true rfl)) dX2_leftBehind_43 ⟨Nat.le_of_ble_eq_true rfl, Nat.le_of_ble_eq_true rfl⟩) hP hD hS hA (fun r6 w1 H locs hw hP hS => ?_)
    subst hw
    obtain ⟨q_, hc, hB⟩ := bindP_inv hB
    refine q_goi0 (va_runSN (As := [.int r5, .int r6]) (rest := []) C (ckX10_has hc _) ⟨va_cnB 2 hts gX2_leftBehind_X10_has_n57 rfl rfl rfl (hN _ nwM_X2_57 rfl) (hts _ LX2_leftBehind_I_X10) (by decide +kernel) ⟨Nat.le_of_ble_eq_true rfl, Nat.le_of_ble_eq_true rfl⟩, hts _ LX2_leftBehind_S_X10_has, trivial⟩ (q_pre0 hN hK) rfl rfl hl.1 rfl (lv_room (Nat.le_of_ble_eq_true rfl)) dX2_leftBehind_46 ⟨Nat.le_of_ble_eq_true rfl, Nat.le_of_ble_eq_true rfl⟩) hP hD hS hA (fun r7 w1 H locs hw hP hS => ?_)
    subst hw
    refine lv_if_eq (tgt := 67) hx hb dX2_leftBehind_49 (by decide) (fun c8 => ?_) (fun c8 => ?_)
    · have hB := if_p hB c8
      refine lv_iload hx hb dX2_leftBehind_67 (lv_at hl 0 rfl) ?_
      refine lv_iload hx hb dX2_leftBehind_69 (lv_at hl 5 rfl) ?_
      refine lv_imul hx hb dX2_leftBehind_71 ?_
      refine lv_istore_n (lv' := [(3, .int (r3 * x4)), (6, .int r3), (0, .ref (a 36)), (1, .ref (b 0)), (2, .int x2), (4, .int x4), (5, .int x5)]) hx hb dX2_leftBehind_72 rfl hl (by decide) rfl (fun ls hl => ?_)
      exact bkX2_leftBehind_73 (hk16) _ _ _ _ _ _ hB p e s0 m below meth c A E H locs ls hP hD hS (lv_sub hl [2, 3, 4, 0, 5, 6, 1] rfl)
    · have hB := if_n hB c8
      refine lv_iload_n hx hb dX2_leftBehind_52 rfl (lv_at hl 4 rfl) ?_
      refine lv_iload hx hb dX2_leftBehind_53 (lv_at hl 0 rfl) ?_
      refine lv_iconst (v := 1) hx hb dX2_leftBehind_55 (by decide) ?_
      refine lv_isub hx hb dX2_leftBehind_56 ?_
      refine lv_iload hx hb dX2_leftBehind_57 (lv_at hl 5 rfl) ?_
      refine lv_imul hx hb dX2_leftBehind_59 ?_
      refine va_mmax hx hb (hml.trans hl.1.symm) hown (hts _ LX2_leftBehind_M79) (hts _ LX2_leftBehind_MSmax) (hts _ LX2_leftBehind_MI) (hts _ LX2_leftBehind_MCmax) (Nat.le_of_ble_eq_true rfl) (Nat.le_of_ble_eq_true rfl) (Nat.zero_le _) (Nat.zero_le _) dX2_leftBehind_60 ?_
      refine q_top (y := (mmax x3 ((r3 - 1) * x4))) rfl ?_
      refine lv_istore_n (lv' := [(3, .int (mmax x3 ((r3 - 1) * x4))), (6, .int r3), (0, .ref (a 36)), (1, .ref (b 0)), (2, .int x2), (4, .int x4), (5, .int x5)]) hx hb dX2_leftBehind_63 rfl hl (by decide) rfl (fun ls hl => ?_)
      refine lv_goto (tgt := 73) hx hb dX2_leftBehind_64 (by decide) ?_
      exact bkX2_leftBehind_73 (hk16) _ _ _ _ _ _ hB p e s0 m below meth c A E H locs ls hP hD hS (lv_sub hl [2, 3, 4, 0, 5, 6, 1] rfl)
theorem bkX2_leftBehind_16L {l : Launch} {dC : Nat → ClassId} {dI : Nat → Nat → Nat} {cB cI cJ cZ cS : ClassId} {a b : Nat → Nat} {as : List Value} {r : Int32} {s' : JS} : ∀ (n : Nat) (s : JS) (x2 : Int32) (x3 : Int32) (x4 : Int32) (x5 : Int32), kX2_leftBehind_16L n s x2 x3 x4 x5 = some (r, s') → BlkI l yX2_leftBehind wsX2_leftBehind ({ frames := 2, cells := 0, slots := 0, locals := 44 }) cX2_leftBehind 7 (some .int) (dC, dI) (tysA cB cI cJ cZ cS) as 16 (wJ cB cI cJ cZ cS a b s) [(0, .ref (a 36)), (1, .ref (b 0)), (2, .int x2), (3, .int x3), (4, .int x4), (5, .int x5)] [] (fun x u => x = r ∧ u = (wJ cB cI cJ cZ cS a b s')) := by
  intro n
  induction n with
  | zero => intro s x2 x3 x4 x5 hB; exact none_ne hB
  | succ n ih => intro s x2 x3 x4 x5 hB; exact bkX2_leftBehind_16 ih _ _ _ _ _ hB
set_option maxHeartbeats 4000000 in
set_option maxRecDepth 100000 in
theorem bkX2_leftBehind {l : Launch} {dC : Nat → ClassId} {dI : Nat → Nat → Nat} {cB cI cJ cZ cS : ClassId} {a b : Nat → Nat} {as : List Value} {r : Int32} {s' : JS} (s : JS) (x2 : Int32) (hB : kX2_leftBehind s x2 = some (r, s')) : BlkI l yX2_leftBehind wsX2_leftBehind ({ frames := 2, cells := 0, slots := 0, locals := 44 }) cX2_leftBehind 7 (some .int) (dC, dI) (tysA cB cI cJ cZ cS) as 0 (wJ cB cI cJ cZ cS a b s) [(0, .ref (a 36)), (1, .ref (b 0)), (2, .int x2)] [] (fun x u => x = r ∧ u = (wJ cB cI cJ cZ cS a b s')) := by
  intro p e s0 m below meth c A E H locs ls hP hD hS hl
  obtain ⟨C, hr, hlocks, hA, hK, hN⟩ := id E
  obtain ⟨hx, hb, hml, hown, hts⟩ := id C
  unfold kX2_leftBehind at hB
  refine lv_iconst (v := 1) hx hb dX2_leftBehind_0 (by decide) ?_
  refine lv_istore_n (lv' := [(3, .int 1), (0, .ref (a 36)), (1, .ref (b 0)), (2, .int x2)]) hx hb dX2_leftBehind_1 rfl hl (by decide) rfl (fun ls hl => ?_)
  refine lv_iconst (v := 1) hx hb dX2_leftBehind_2 (by decide) ?_
  refine lv_istore (lv' := [(4, .int 1), (3, .int 1), (0, .ref (a 36)), (1, .ref (b 0)), (2, .int x2)]) hx hb dX2_leftBehind_3 hl (by decide) rfl (fun ls hl => ?_)
  refine lv_aload_n hx hb dX2_leftBehind_5 rfl (lv_at hl 2 rfl) ?_
  refine q_get (v := .ref (a 2)) C inX2_leftBehind_X2 hK hP 42 rfl rfl 0 (by decide) rfl LX2_leftBehind_24 rfl dX2_leftBehind_6 ?_
  refine q_getN (v := .int (s.k.v 1)) C hN inX2_leftBehind_X5 hK hP 8 rfl rfl 6 (by decide) rfl nwF_X2_44 rfl dX2_leftBehind_9 ?_
  refine lv_iconst (v := 1) hx hb dX2_leftBehind_12 (by decide) ?_
  refine lv_isub hx hb dX2_leftBehind_13 ?_
  refine lv_istore (lv' := [(5, .int ((s.k.v 1) - 1)), (4, .int 1), (3, .int 1), (0, .ref (a 36)), (1, .ref (b 0)), (2, .int x2)]) hx hb dX2_leftBehind_14 hl (by decide) rfl (fun ls hl => ?_)
  exact bkX2_leftBehind_16L fu _ _ _ _ _ hB p e s0 m below meth c A E H locs ls hP hD hS (lv_sub hl [3, 4, 5, 2, 1, 0] rfl)
theorem ckX2_leftBehind {l : Launch} {dC : Nat → ClassId} {dI : Nat → Nat → Nat} {cB cI cJ cZ cS : ClassId} {a b : Nat → Nat} {r : Int32} {s' : JS} {s : JS} {x2 : Int32} (hB : kX2_leftBehind s x2 = some (r, s')) : CI l yX2_leftBehind wsX2_leftBehind ({ frames := 2, cells := 0, slots := 0, locals := 44 }) (dC, dI) (tysA cB cI cJ cZ cS) (wJ cB cI cJ cZ cS a b s) [.ref (a 36), .ref (b 0), .int x2] (fun x u => x = r ∧ u = (wJ cB cI cJ cZ cS a b s')) :=
  CI_of (cc := cX2_leftBehind) (maxL := 7) (ret := (some .int)) (by decide) rfl (Nat.le_of_ble_eq_true rfl) (bkX2_leftBehind _ _ hB)
theorem LX2_wisestGuess_24 : Cond.fieldLink RX2 24 "GuessFerry$Outlook" "sound" "LGuessFerry$Sound;" ∈ wsX2_wisestGuess := (List.mem_cons_of_mem _ (List.mem_append_left _ (List.mem_append_left _ (List.mem_append_left _ (List.mem_append_left _ (List.mem_append_left _ (List.mem_of_getElem? (i := 0) rfl)))))))
theorem LX2_wisestGuess_28 : Cond.fieldLink RX2 28 "GuessFerry$Outlook" "crossing" "LGuessFerry$Crossing;" ∈ wsX2_wisestGuess := (List.mem_cons_of_mem _ (List.mem_append_left _ (List.mem_append_left _ (List.mem_append_left _ (List.mem_append_left _ (List.mem_append_left _ (List.mem_of_getElem? (i := 1) rfl)))))))
theorem LX2_wisestGuess_E_X0_mayBe : Cond.selects RX0 yX0_mayBe yX0_mayBe ∈ wsX2_wisestGuess := (List.mem_cons_of_mem _ (List.mem_append_left _ (List.mem_append_left _ (List.mem_append_left _ (List.mem_append_left _ (List.mem_append_left _ (List.mem_of_getElem? (i := 4) rfl)))))))
theorem LX2_wisestGuess_I_X0 : Cond.initialized RX0 ∈ wsX2_wisestGuess := (List.mem_cons_of_mem _ (List.mem_append_left _ (List.mem_append_left _ (List.mem_append_left _ (List.mem_append_left _ (List.mem_append_left _ (List.mem_of_getElem? (i := 3) rfl)))))))
theorem LX2_wisestGuess_N_X0_mayBe : Cond.instanceMethod yX0_mayBe ∈ wsX2_wisestGuess := (List.mem_cons_of_mem _ (List.mem_append_left _ (List.mem_append_left _ (List.mem_append_left _ (List.mem_append_left _ (List.mem_append_left _ (List.mem_of_getElem? (i := 2) rfl)))))))
theorem inX2_wisestGuess_X2 : ∀ w ∈ u_ws RX2 TX2 6, w ∈ wsX2_wisestGuess := fun w h => (List.mem_cons_of_mem _ (List.mem_append_left _ (List.mem_append_left _ (List.mem_append_left _ (List.mem_append_right _ h)))))
theorem inX2_wisestGuess_X5 : ∀ w ∈ u_ws RX5 TX5 10, w ∈ wsX2_wisestGuess := fun w h => (List.mem_cons_of_mem _ (List.mem_append_left _ (List.mem_append_left _ (List.mem_append_right _ h))))
set_option maxHeartbeats 4000000 in
set_option maxRecDepth 100000 in
theorem bkX2_wisestGuess_7 {l : Launch} {dC : Nat → ClassId} {dI : Nat → Nat → Nat} {cB cI cJ cZ cS : ClassId} {a b : Nat → Nat} {as : List Value} {r : Int32} {s' : JS} {k7 : JS → Int32 → Int32 → Int32 → Option (Int32 × JS)} (hk7 : ∀ (s : JS) (x2 : Int32) (x3 : Int32) (x4 : Int32), k7 s x2 x3 x4 = some (r, s') → BlkI l yX2_wisestGuess wsX2_wisestGuess ({ frames := 2, cells := 0, slots := 0, locals := 44 }) cX2_wisestGuess 5 (some .int) (dC, dI) (tysA cB cI cJ cZ cS) as 7 (wJ cB cI cJ cZ cS a b s) [(0, .ref (a 36)), (1, .ref (b 0)), (2, .int x2), (3, .int x3), (4, .int x4)] [] (fun x u => x = r ∧ u = (wJ cB cI cJ cZ cS a b s'))) (s : JS) (x2 : Int32) (x3 : Int32) (x4 : Int32) (hB : kX2_wisestGuess_7 k7 s x2 x3 x4 = some (r, s')) : BlkI l yX2_wisestGuess wsX2_wisestGuess ({ frames := 2, cells := 0, slots := 0, locals := 44 }) cX2_wisestGuess 5 (some .int) (dC, dI) (tysA cB cI cJ cZ cS) as 7 (wJ cB cI cJ cZ cS a b s) [(0, .ref (a 36)), (1, .ref (b 0)), (2, .int x2), (3, .int x3), (4, .int x4)] [] (fun x u => x = r ∧ u = (wJ cB cI cJ cZ cS a b s')) := by
  intro p e s0 m below meth c A E H locs ls hP hD hS hl
  obtain ⟨C, hr, hlocks, hA, hK, hN⟩ := id E
  obtain ⟨hx, hb, hml, hown, hts⟩ := id C
  unfold kX2_wisestGuess_7 at hB
  refine lv_iload hx hb dX2_wisestGuess_7 (lv_at hl 4 rfl) ?_
  refine lv_aload_n hx hb dX2_wisestGuess_9 rfl (lv_at hl 0 rfl) ?_
  refine q_get (v := .ref (a 2)) C inX2_wisestGuess_X2 hK hP 42 rfl rfl 0 (by decide) rfl LX2_wisestGuess_24 rfl dX2_wisestGuess_10 ?_
  refine q_getN (v := .int (s.k.v 1)) C hN inX2_wisestGuess_X5 hK hP 8 rfl rfl 6 (by decide) rfl nwF_X2_44 rfl dX2_wisestGuess_13 ?_
  refine lv_icmp_ge (tgt := 61) hx hb dX2_wisestGuess_16 (by decide) (fun c1 => ?_) (fun c1 => ?_)
  · have hB := if_p hB c1
    refine lv_iconst (v := 0) hx hb dX2_wisestGuess_61 (by decide) ?_
    exact q_iret C hr hlocks hK hP hD hS (Nat.le_of_ble_eq_true rfl) (Nat.le_of_ble_eq_true rfl) dX2_wisestGuess_62 (by cases hB; exact ⟨rfl, rfl⟩)
  · have hB := if_n hB c1
    refine lv_iload_n hx hb dX2_wisestGuess_19 rfl (lv_at hl 2 rfl) ?_
    refine lv_iload_n hx hb dX2_wisestGuess_20 rfl (lv_at hl 3 rfl) ?_
    refine lv_aload_n hx hb dX2_wisestGuess_21 rfl (lv_at hl 0 rfl) ?_
    refine q_get (v := .ref (a 35)) C inX2_wisestGuess_X2 hK hP 42 rfl rfl 1 (by decide) rfl LX2_wisestGuess_28 rfl dX2_wisestGuess_22 ?_
    refine lv_aload_n hx hb dX2_wisestGuess_25 rfl (lv_at hl 1 rfl) ?_
    refine lv_iload hx hb dX2_wisestGuess_26 (lv_at hl 4 rfl) ?_
    obtain ⟨q_, s2, hc, hB⟩ := bindI_inv hB
    refine q_goiF (va_runVN (As := [.ref (b 0), .int x4]) (rest := [.int x3, .int x2]) C (ckX0_mayBe hc _) ⟨va_cnB 2 hts gX2_wisestGuess_X0_mayBe_n32 rfl rfl rfl (hN _ nwM_X2_32 rfl) (hts _ LX2_wisestGuess_I_X0) (by decide +kernel) ⟨Nat.le_of_ble_eq_true rfl, Nat.le_of_ble_eq_true rfl⟩, hts _ LX2_wisestGuess_N_X0_mayBe, hts _ LX2_wisestGuess_E_X0_mayBe⟩ (q_preV hK hP (ci := 0) (q0 := 41) rfl rfl rfl (q_preF hN hK hP hD)) rfl rfl hl.1 rfl (lv_room (Nat.le_of_ble_eq_true rfl)) dX2_wisestGuess_28 ⟨Nat.le_of_ble_eq_true rfl, Nat.le_of_ble_eq_true rfl⟩) hD hS hA (fun r3 w1 H locs hw hP hD hS => ?_)
    obtain ⟨hq_, hw⟩ := hw; subst hw; subst hq_
    obtain ⟨q_, hc, hB⟩ := bindP_inv hB
    refine q_goi0 (va_runS (As := [.int r3]) (rest := [.int x3, .int x2]) C (ckJ6_numberOfTrailingZeros_0f7a4 hc _) (va_cwS 1 hts gX2_wisestGuess_J6_numberOfTrailingZeros_0f7a4 rfl rfl rfl (by decide +kernel) ⟨Nat.le_of_ble_eq_true rfl, Nat.le_of_ble_eq_true rfl⟩) (q_pre0 hN hK) rfl rfl hl.1 rfl (lv_room (Nat.le_of_ble_eq_true rfl)) dX2_wisestGuess_31 ⟨Nat.le_of_ble_eq_true rfl, Nat.le_of_ble_eq_true rfl⟩) hP hD hS hA (fun r4 w1 H locs hw hP hS => ?_)
    subst hw
    refine lv_imul hx hb dX2_wisestGuess_34 ?_
    refine lv_iadd hx hb dX2_wisestGuess_35 ?_
    refine lv_istore_n (lv' := [(2, .int (x2 + (x3 * r4))), (0, .ref (a 36)), (1, .ref (b 0)), (3, .int x3), (4, .int x4)]) hx hb dX2_wisestGuess_36 rfl hl (by decide) rfl (fun ls hl => ?_)
    refine lv_aload_n hx hb dX2_wisestGuess_37 rfl (lv_at hl 1 rfl) ?_
    refine lv_aload_n hx hb dX2_wisestGuess_38 rfl (lv_at hl 2 rfl) ?_
    refine lv_iload hx hb dX2_wisestGuess_39 (lv_at hl 4 rfl) ?_
    obtain ⟨q_, s5, hc, hB⟩ := bindI_inv hB
    refine q_goiF (va_runV (As := [.ref (b 0), .int x4]) (rest := []) C (ckX2_mayCount hc _) (cwV 2 hts gX2_wisestGuess_X2_mayCount rfl rfl rfl (by decide +kernel) ⟨Nat.le_of_ble_eq_true rfl, Nat.le_of_ble_eq_true rfl⟩) (q_preV hK hP (ci := 2) (q0 := 42) rfl rfl rfl (q_preF hN hK hP hD)) rfl rfl hl.1 rfl (lv_room (Nat.le_of_ble_eq_true rfl)) dX2_wisestGuess_41 ⟨Nat.le_of_ble_eq_true rfl, Nat.le_of_ble_eq_true rfl⟩) hD hS hA (fun r6 w1 H locs hw hP hD hS => ?_)
    obtain ⟨hq_, hw⟩ := hw; subst hw; subst hq_
    refine lv_iconst (v := 1) hx hb dX2_wisestGuess_44 (by decide) ?_
    refine lv_icmp_le (tgt := 50) hx hb dX2_wisestGuess_45 (by decide) (fun c7 => ?_) (fun c7 => ?_)
    · have hB := if_p hB c7
      refine lv_iload_n hx hb dX2_wisestGuess_50 rfl (lv_at hl 3 rfl) ?_
      refine lv_bipush (v := 6) hx hb dX2_wisestGuess_51 (by decide) ?_
      refine lv_imul hx hb dX2_wisestGuess_53 ?_
      refine lv_istore_n (lv' := [(3, .int (x3 * 6)), (2, .int (x2 + (x3 * r4))), (0, .ref (a 36)), (1, .ref (b 0)), (4, .int x4)]) hx hb dX2_wisestGuess_54 rfl hl (by decide) rfl (fun ls hl => ?_)
      refine lv_iinc (v := (x4 + 1)) (lv' := [(4, .int (x4 + 1)), (3, .int (x3 * 6)), (2, .int (x2 + (x3 * r4))), (0, .ref (a 36)), (1, .ref (b 0))]) hx hb dX2_wisestGuess_55 hl (k := 4) rfl (rfl) (by decide) rfl (fun ls hl => ?_)
      refine lv_goto (tgt := 7) hx hb dX2_wisestGuess_58 (by decide) ?_
      exact hk7 _ _ _ _ hB p e s0 m below meth c A E H locs ls hP hD hS (lv_sub hl [3, 4, 2, 1, 0] rfl)
    · have hB := if_n hB c7
      refine lv_iload_n hx hb dX2_wisestGuess_48 rfl (lv_at hl 0 rfl) ?_
      exact q_iret C hr hlocks hK hP hD hS (Nat.le_of_ble_eq_true rfl) (Nat.le_of_ble_eq_true rfl) dX2_wisestGuess_49 (by cases hB; exact ⟨rfl, rfl⟩)
theorem bkX2_wisestGuess_7L {l : Launch} {dC : Nat → ClassId} {dI : Nat → Nat → Nat} {cB cI cJ cZ cS : ClassId} {a b : Nat → Nat} {as : List Value} {r : Int32} {s' : JS} : ∀ (n : Nat) (s : JS) (x2 : Int32) (x3 : Int32) (x4 : Int32), kX2_wisestGuess_7L n s x2 x3 x4 = some (r, s') → BlkI l yX2_wisestGuess wsX2_wisestGuess ({ frames := 2, cells := 0, slots := 0, locals := 44 }) cX2_wisestGuess 5 (some .int) (dC, dI) (tysA cB cI cJ cZ cS) as 7 (wJ cB cI cJ cZ cS a b s) [(0, .ref (a 36)), (1, .ref (b 0)), (2, .int x2), (3, .int x3), (4, .int x4)] [] (fun x u => x = r ∧ u = (wJ cB cI cJ cZ cS a b s')) := by
  intro n
  induction n with
  | zero => intro s x2 x3 x4 hB; exact none_ne hB
  | succ n ih => intro s x2 x3 x4 hB; exact bkX2_wisestGuess_7 ih _ _ _ _ hB
set_option maxHeartbeats 4000000 in
set_option maxRecDepth 100000 in
theorem bkX2_wisestGuess {l : Launch} {dC : Nat → ClassId} {dI : Nat → Nat → Nat} {cB cI cJ cZ cS : ClassId} {a b : Nat → Nat} {as : List Value} {r : Int32} {s' : JS} (s : JS) (hB : kX2_wisestGuess s = some (r, s')) : BlkI l yX2_wisestGuess wsX2_wisestGuess ({ frames := 2, cells := 0, slots := 0, locals := 44 }) cX2_wisestGuess 5 (some .int) (dC, dI) (tysA cB cI cJ cZ cS) as 0 (wJ cB cI cJ cZ cS a b s) [(0, .ref (a 36)), (1, .ref (b 0))] [] (fun x u => x = r ∧ u = (wJ cB cI cJ cZ cS a b s')) := by
  intro p e s0 m below meth c A E H locs ls hP hD hS hl
  obtain ⟨C, hr, hlocks, hA, hK, hN⟩ := id E
  obtain ⟨hx, hb, hml, hown, hts⟩ := id C
  unfold kX2_wisestGuess at hB
  refine lv_iconst (v := 0) hx hb dX2_wisestGuess_0 (by decide) ?_
  refine lv_istore_n (lv' := [(2, .int 0), (0, .ref (a 36)), (1, .ref (b 0))]) hx hb dX2_wisestGuess_1 rfl hl (by decide) rfl (fun ls hl => ?_)
  refine lv_iconst (v := 1) hx hb dX2_wisestGuess_2 (by decide) ?_
  refine lv_istore_n (lv' := [(3, .int 1), (2, .int 0), (0, .ref (a 36)), (1, .ref (b 0))]) hx hb dX2_wisestGuess_3 rfl hl (by decide) rfl (fun ls hl => ?_)
  refine lv_iconst (v := 0) hx hb dX2_wisestGuess_4 (by decide) ?_
  refine lv_istore (lv' := [(4, .int 0), (3, .int 1), (2, .int 0), (0, .ref (a 36)), (1, .ref (b 0))]) hx hb dX2_wisestGuess_5 hl (by decide) rfl (fun ls hl => ?_)
  exact bkX2_wisestGuess_7L fu _ _ _ _ hB p e s0 m below meth c A E H locs ls hP hD hS (lv_sub hl [3, 4, 2, 1, 0] rfl)
theorem ckX2_wisestGuess {l : Launch} {dC : Nat → ClassId} {dI : Nat → Nat → Nat} {cB cI cJ cZ cS : ClassId} {a b : Nat → Nat} {r : Int32} {s' : JS} {s : JS} (hB : kX2_wisestGuess s = some (r, s')) : CI l yX2_wisestGuess wsX2_wisestGuess ({ frames := 2, cells := 0, slots := 0, locals := 44 }) (dC, dI) (tysA cB cI cJ cZ cS) (wJ cB cI cJ cZ cS a b s) [.ref (a 36), .ref (b 0)] (fun x u => x = r ∧ u = (wJ cB cI cJ cZ cS a b s')) :=
  CI_of (cc := cX2_wisestGuess) (maxL := 5) (ret := (some .int)) (by decide) rfl (Nat.le_of_ble_eq_true rfl) (bkX2_wisestGuess _ hB)
theorem LX2_oddsApart_M79 : Cond.methodLink RX2 79 Lib.Math.max.name ∈ wsX2_oddsApart := (List.mem_cons_of_mem _ (List.mem_append_left _ (List.mem_append_left _ (List.mem_append_left _ (List.mem_append_left _ (List.mem_append_left _ (List.mem_of_getElem? (i := 4) rfl)))))))
theorem LX2_oddsApart_M87 : Cond.methodLink RX2 87 Lib.Math.min.name ∈ wsX2_oddsApart := (List.mem_cons_of_mem _ (List.mem_append_left _ (List.mem_append_left _ (List.mem_append_left _ (List.mem_append_left _ (List.mem_append_left _ (List.mem_of_getElem? (i := 0) rfl)))))))
theorem LX2_oddsApart_MCmax : Cond.code Lib.Math.max.name Lib.Math.max.code 2 (some .int) ∈ wsX2_oddsApart := (List.mem_cons_of_mem _ (List.mem_append_left _ (List.mem_append_left _ (List.mem_append_left _ (List.mem_append_left _ (List.mem_append_left _ (List.mem_of_getElem? (i := 6) rfl)))))))
theorem LX2_oddsApart_MCmin : Cond.code Lib.Math.min.name Lib.Math.min.code 2 (some .int) ∈ wsX2_oddsApart := (List.mem_cons_of_mem _ (List.mem_append_left _ (List.mem_append_left _ (List.mem_append_left _ (List.mem_append_left _ (List.mem_append_left _ (List.mem_of_getElem? (i := 3) rfl)))))))
theorem LX2_oddsApart_MI : Cond.initialized "java/lang/Math" ∈ wsX2_oddsApart := (List.mem_cons_of_mem _ (List.mem_append_left _ (List.mem_append_left _ (List.mem_append_left _ (List.mem_append_left _ (List.mem_append_left _ (List.mem_of_getElem? (i := 2) rfl)))))))
theorem LX2_oddsApart_MSmax : Cond.static Lib.Math.max.name ∈ wsX2_oddsApart := (List.mem_cons_of_mem _ (List.mem_append_left _ (List.mem_append_left _ (List.mem_append_left _ (List.mem_append_left _ (List.mem_append_left _ (List.mem_of_getElem? (i := 5) rfl)))))))
theorem LX2_oddsApart_MSmin : Cond.static Lib.Math.min.name ∈ wsX2_oddsApart := (List.mem_cons_of_mem _ (List.mem_append_left _ (List.mem_append_left _ (List.mem_append_left _ (List.mem_append_left _ (List.mem_append_left _ (List.mem_of_getElem? (i := 1) rfl)))))))
set_option maxHeartbeats 4000000 in
set_option maxRecDepth 100000 in
theorem bkX2_oddsApart_47 {l : Launch} {dC : Nat → ClassId} {dI : Nat → Nat → Nat} {cB cI cJ cZ cS : ClassId} {a b : Nat → Nat} {as : List Value} {r : Int32} {s' : JS} {k9 : JS → Int32 → Int32 → Int32 → Int32 → Option (Int32 × JS)} (hk9 : ∀ (s : JS) (x2 : Int32) (x3 : Int32) (x4 : Int32) (x5 : Int32), k9 s x2 x3 x4 x5 = some (r, s') → BlkI l yX2_oddsApart wsX2_oddsApart ({ frames := 2, cells := 0, slots := 0, locals := 45 }) cX2_oddsApart 7 (some .int) (dC, dI) (tysA cB cI cJ cZ cS) as 9 (wJ cB cI cJ cZ cS a b s) [(0, .ref (a 36)), (1, .ref (b 0)), (2, .int x2), (3, .int x3), (4, .int x4), (5, .int x5)] [] (fun x u => x = r ∧ u = (wJ cB cI cJ cZ cS a b s'))) (s : JS) (x2 : Int32) (x3 : Int32) (x4 : Int32) (x5 : Int32) (hB : kX2_oddsApart_47 k9 s x2 x3 x4 x5 = some (r, s')) : BlkI l yX2_oddsApart wsX2_oddsApart ({ frames := 2, cells := 0, slots := 0, locals := 45 }) cX2_oddsApart 7 (some .int) (dC, dI) (tysA cB cI cJ cZ cS) as 47 (wJ cB cI cJ cZ cS a b s) [(0, .ref (a 36)), (1, .ref (b 0)), (2, .int x2), (3, .int x3), (4, .int x4), (5, .int x5)] [] (fun x u => x = r ∧ u = (wJ cB cI cJ cZ cS a b s')) := by
  intro p e s0 m below meth c A E H locs ls hP hD hS hl
  obtain ⟨C, hr, hlocks, hA, hK, hN⟩ := id E
  obtain ⟨hx, hb, hml, hown, hts⟩ := id C
  unfold kX2_oddsApart_47 at hB
  refine lv_iinc (v := (x5 + 1)) (lv' := [(5, .int (x5 + 1)), (0, .ref (a 36)), (1, .ref (b 0)), (2, .int x2), (3, .int x3), (4, .int x4)]) hx hb dX2_oddsApart_47 hl (k := 5) rfl (rfl) (by decide) rfl (fun ls hl => ?_)
  refine lv_goto (tgt := 9) hx hb dX2_oddsApart_50 (by decide) ?_
  exact hk9 _ _ _ _ _ hB p e s0 m below meth c A E H locs ls hP hD hS (lv_sub hl [1, 2, 3, 4, 5, 0] rfl)
set_option maxHeartbeats 4000000 in
set_option maxRecDepth 100000 in
theorem bkX2_oddsApart_9 {l : Launch} {dC : Nat → ClassId} {dI : Nat → Nat → Nat} {cB cI cJ cZ cS : ClassId} {a b : Nat → Nat} {as : List Value} {r : Int32} {s' : JS} {k9 : JS → Int32 → Int32 → Int32 → Int32 → Option (Int32 × JS)} (hk9 : ∀ (s : JS) (x2 : Int32) (x3 : Int32) (x4 : Int32) (x5 : Int32), k9 s x2 x3 x4 x5 = some (r, s') → BlkI l yX2_oddsApart wsX2_oddsApart ({ frames := 2, cells := 0, slots := 0, locals := 45 }) cX2_oddsApart 7 (some .int) (dC, dI) (tysA cB cI cJ cZ cS) as 9 (wJ cB cI cJ cZ cS a b s) [(0, .ref (a 36)), (1, .ref (b 0)), (2, .int x2), (3, .int x3), (4, .int x4), (5, .int x5)] [] (fun x u => x = r ∧ u = (wJ cB cI cJ cZ cS a b s'))) (s : JS) (x2 : Int32) (x3 : Int32) (x4 : Int32) (x5 : Int32) (hB : kX2_oddsApart_9 k9 s x2 x3 x4 x5 = some (r, s')) : BlkI l yX2_oddsApart wsX2_oddsApart ({ frames := 2, cells := 0, slots := 0, locals := 45 }) cX2_oddsApart 7 (some .int) (dC, dI) (tysA cB cI cJ cZ cS) as 9 (wJ cB cI cJ cZ cS a b s) [(0, .ref (a 36)), (1, .ref (b 0)), (2, .int x2), (3, .int x3), (4, .int x4), (5, .int x5)] [] (fun x u => x = r ∧ u = (wJ cB cI cJ cZ cS a b s')) := by
  intro p e s0 m below meth c A E H locs ls hP hD hS hl
  obtain ⟨C, hr, hlocks, hA, hK, hN⟩ := id E
  obtain ⟨hx, hb, hml, hown, hts⟩ := id C
  unfold kX2_oddsApart_9 at hB
  refine lv_iload hx hb dX2_oddsApart_9 (lv_at hl 5 rfl) ?_
  refine lv_bipush (v := 6) hx hb dX2_oddsApart_11 (by decide) ?_
  refine lv_icmp_ge (tgt := 53) hx hb dX2_oddsApart_13 (by decide) (fun c1 => ?_) (fun c1 => ?_)
  · have hB := if_p hB c1
    refine lv_iconst (v := 0) hx hb dX2_oddsApart_53 (by decide) ?_
    refine lv_iload hx hb dX2_oddsApart_54 (lv_at hl 4 rfl) ?_
    refine lv_iload_n hx hb dX2_oddsApart_56 rfl (lv_at hl 3 rfl) ?_
    refine lv_isub hx hb dX2_oddsApart_57 ?_
    refine va_mmax hx hb (hml.trans hl.1.symm) hown (hts _ LX2_oddsApart_M79) (hts _ LX2_oddsApart_MSmax) (hts _ LX2_oddsApart_MI) (hts _ LX2_oddsApart_MCmax) (Nat.le_of_ble_eq_true rfl) (Nat.le_of_ble_eq_true rfl) (Nat.zero_le _) (Nat.zero_le _) dX2_oddsApart_58 ?_
    refine q_top (y := (mmax 0 (x4 - x3))) rfl ?_
    exact q_iret C hr hlocks hK hP hD hS (Nat.le_of_ble_eq_true rfl) (Nat.le_of_ble_eq_true rfl) dX2_oddsApart_61 (by cases hB; exact ⟨rfl, rfl⟩)
  · have hB := if_n hB c1
    refine lv_aload_n hx hb dX2_oddsApart_16 rfl (lv_at hl 0 rfl) ?_
    refine lv_aload_n hx hb dX2_oddsApart_17 rfl (lv_at hl 1 rfl) ?_
    refine lv_iload_n hx hb dX2_oddsApart_18 rfl (lv_at hl 2 rfl) ?_
    refine lv_iload hx hb dX2_oddsApart_19 (lv_at hl 5 rfl) ?_
    obtain ⟨q_, s2, hc, hB⟩ := bindI_inv hB
    refine q_goiF (va_runV (As := [.ref (b 0), .int x2, .int x5]) (rest := []) C (ckX2_oddsIfMay hc _) (cwV 3 hts gX2_oddsApart_X2_oddsIfMay rfl rfl rfl (by decide +kernel) ⟨Nat.le_of_ble_eq_true rfl, Nat.le_of_ble_eq_true rfl⟩) (q_preV hK hP (ci := 2) (q0 := 42) rfl rfl rfl (q_preF hN hK hP hD)) rfl rfl hl.1 rfl (lv_room (Nat.le_of_ble_eq_true rfl)) dX2_oddsApart_21 ⟨Nat.le_of_ble_eq_true rfl, Nat.le_of_ble_eq_true rfl⟩) hD hS hA (fun r3 w1 H locs hw hP hD hS => ?_)
    obtain ⟨hq_, hw⟩ := hw; subst hw; subst hq_
    refine lv_istore (lv' := [(6, .int r3), (0, .ref (a 36)), (1, .ref (b 0)), (2, .int x2), (3, .int x3), (4, .int x4), (5, .int x5)]) hx hb dX2_oddsApart_24 hl (by decide) rfl (fun ls hl => ?_)
    refine lv_iload hx hb dX2_oddsApart_26 (lv_at hl 0 rfl) ?_
    refine lv_if_le (tgt := 47) hx hb dX2_oddsApart_28 (by decide) (fun c4 => ?_) (fun c4 => ?_)
    · have hB := if_p hB c4
      exact bkX2_oddsApart_47 (hk9) _ _ _ _ _ hB p e s0 m below meth c A E H locs ls hP hD hS (lv_sub hl [1, 2, 3, 4, 5, 6] rfl)
    · have hB := if_n hB c4
      refine lv_iload_n hx hb dX2_oddsApart_31 rfl (lv_at hl 4 rfl) ?_
      refine lv_iload hx hb dX2_oddsApart_32 (lv_at hl 0 rfl) ?_
      refine va_mmin hx hb (hml.trans hl.1.symm) hown (hts _ LX2_oddsApart_M87) (hts _ LX2_oddsApart_MSmin) (hts _ LX2_oddsApart_MI) (hts _ LX2_oddsApart_MCmin) (Nat.le_of_ble_eq_true rfl) (Nat.le_of_ble_eq_true rfl) (Nat.zero_le _) (Nat.zero_le _) dX2_oddsApart_34 ?_
      refine q_top (y := (mmin x3 r3)) rfl ?_
      refine lv_istore_n (lv' := [(3, .int (mmin x3 r3)), (6, .int r3), (0, .ref (a 36)), (1, .ref (b 0)), (2, .int x2), (4, .int x4), (5, .int x5)]) hx hb dX2_oddsApart_37 rfl hl (by decide) rfl (fun ls hl => ?_)
      refine lv_iload hx hb dX2_oddsApart_38 (lv_at hl 5 rfl) ?_
      refine lv_iload hx hb dX2_oddsApart_40 (lv_at hl 1 rfl) ?_
      refine va_mmax hx hb (hml.trans hl.1.symm) hown (hts _ LX2_oddsApart_M79) (hts _ LX2_oddsApart_MSmax) (hts _ LX2_oddsApart_MI) (hts _ LX2_oddsApart_MCmax) (Nat.le_of_ble_eq_true rfl) (Nat.le_of_ble_eq_true rfl) (Nat.zero_le _) (Nat.zero_le _) dX2_oddsApart_42 ?_
      refine q_top (y := (mmax x4 r3)) rfl ?_
      refine lv_istore (lv' := [(4, .int (mmax x4 r3)), (3, .int (mmin x3 r3)), (6, .int r3), (0, .ref (a 36)), (1, .ref (b 0)), (2, .int x2), (5, .int x5)]) hx hb dX2_oddsApart_45 hl (by decide) rfl (fun ls hl => ?_)
      exact bkX2_oddsApart_47 (hk9) _ _ _ _ _ hB p e s0 m below meth c A E H locs ls hP hD hS (lv_sub hl [3, 4, 5, 1, 0, 6] rfl)
theorem bkX2_oddsApart_9L {l : Launch} {dC : Nat → ClassId} {dI : Nat → Nat → Nat} {cB cI cJ cZ cS : ClassId} {a b : Nat → Nat} {as : List Value} {r : Int32} {s' : JS} : ∀ (n : Nat) (s : JS) (x2 : Int32) (x3 : Int32) (x4 : Int32) (x5 : Int32), kX2_oddsApart_9L n s x2 x3 x4 x5 = some (r, s') → BlkI l yX2_oddsApart wsX2_oddsApart ({ frames := 2, cells := 0, slots := 0, locals := 45 }) cX2_oddsApart 7 (some .int) (dC, dI) (tysA cB cI cJ cZ cS) as 9 (wJ cB cI cJ cZ cS a b s) [(0, .ref (a 36)), (1, .ref (b 0)), (2, .int x2), (3, .int x3), (4, .int x4), (5, .int x5)] [] (fun x u => x = r ∧ u = (wJ cB cI cJ cZ cS a b s')) := by
  intro n
  induction n with
  | zero => intro s x2 x3 x4 x5 hB; exact none_ne hB
  | succ n ih => intro s x2 x3 x4 x5 hB; exact bkX2_oddsApart_9 ih _ _ _ _ _ hB
set_option maxHeartbeats 4000000 in
set_option maxRecDepth 100000 in
theorem bkX2_oddsApart {l : Launch} {dC : Nat → ClassId} {dI : Nat → Nat → Nat} {cB cI cJ cZ cS : ClassId} {a b : Nat → Nat} {as : List Value} {r : Int32} {s' : JS} (s : JS) (x2 : Int32) (hB : kX2_oddsApart s x2 = some (r, s')) : BlkI l yX2_oddsApart wsX2_oddsApart ({ frames := 2, cells := 0, slots := 0, locals := 45 }) cX2_oddsApart 7 (some .int) (dC, dI) (tysA cB cI cJ cZ cS) as 0 (wJ cB cI cJ cZ cS a b s) [(0, .ref (a 36)), (1, .ref (b 0)), (2, .int x2)] [] (fun x u => x = r ∧ u = (wJ cB cI cJ cZ cS a b s')) := by
  intro p e s0 m below meth c A E H locs ls hP hD hS hl
  obtain ⟨C, hr, hlocks, hA, hK, hN⟩ := id E
  obtain ⟨hx, hb, hml, hown, hts⟩ := id C
  unfold kX2_oddsApart at hB
  refine lv_bipush (v := 9) hx hb dX2_oddsApart_0 (by decide) ?_
  refine lv_istore_n (lv' := [(3, .int 9), (0, .ref (a 36)), (1, .ref (b 0)), (2, .int x2)]) hx hb dX2_oddsApart_2 rfl hl (by decide) rfl (fun ls hl => ?_)
  refine lv_iconst (v := 0) hx hb dX2_oddsApart_3 (by decide) ?_
  refine lv_istore (lv' := [(4, .int 0), (3, .int 9), (0, .ref (a 36)), (1, .ref (b 0)), (2, .int x2)]) hx hb dX2_oddsApart_4 hl (by decide) rfl (fun ls hl => ?_)
  refine lv_iconst (v := 0) hx hb dX2_oddsApart_6 (by decide) ?_
  refine lv_istore (lv' := [(5, .int 0), (4, .int 0), (3, .int 9), (0, .ref (a 36)), (1, .ref (b 0)), (2, .int x2)]) hx hb dX2_oddsApart_7 hl (by decide) rfl (fun ls hl => ?_)
  exact bkX2_oddsApart_9L fu _ _ _ _ _ hB p e s0 m below meth c A E H locs ls hP hD hS (lv_sub hl [3, 4, 5, 2, 1, 0] rfl)
theorem ckX2_oddsApart {l : Launch} {dC : Nat → ClassId} {dI : Nat → Nat → Nat} {cB cI cJ cZ cS : ClassId} {a b : Nat → Nat} {r : Int32} {s' : JS} {s : JS} {x2 : Int32} (hB : kX2_oddsApart s x2 = some (r, s')) : CI l yX2_oddsApart wsX2_oddsApart ({ frames := 2, cells := 0, slots := 0, locals := 45 }) (dC, dI) (tysA cB cI cJ cZ cS) (wJ cB cI cJ cZ cS a b s) [.ref (a 36), .ref (b 0), .int x2] (fun x u => x = r ∧ u = (wJ cB cI cJ cZ cS a b s')) :=
  CI_of (cc := cX2_oddsApart) (maxL := 7) (ret := (some .int)) (by decide) rfl (Nat.le_of_ble_eq_true rfl) (bkX2_oddsApart _ _ hB)
set_option maxHeartbeats 4000000 in
set_option maxRecDepth 100000 in
theorem bkX2_fillRow_near_39 {l : Launch} {dC : Nat → ClassId} {dI : Nat → Nat → Nat} {cB cI cJ cZ cS : ClassId} {a b : Nat → Nat} {as : List Value} {r : Int32} {s' : JS} {k10 : JS → Int32 → Int32 → Int32 → Option (Int32 × JS)} {k20 : JS → Int32 → Int32 → Int32 → Int32 → Option (Int32 × JS)} {k39 : JS → Int32 → Int32 → Int32 → Int32 → Int32 → Int32 → Option (Int32 × JS)} (hk10 : ∀ (s : JS) (x4 : Int32) (x5 : Int32) (x6 : Int32), k10 s x4 x5 x6 = some (r, s') → BlkI l yX2_fillRow wsX2_fillRow ({ frames := 2, cells := 0, slots := 0, locals := 45 }) cX2_fillRow 10 (some .int) (dC, dI) (tysA cB cI cJ cZ cS) as 10 (wJ cB cI cJ cZ cS a b s) [(0, .ref (a 36)), (1, .ref (b 0)), (2, .ref (a 37)), (4, .int x4), (5, .int x5), (6, .int x6)] [] (fun x u => x = r ∧ u = (wJ cB cI cJ cZ cS a b s'))) (hk20 : ∀ (s : JS) (x4 : Int32) (x5 : Int32) (x6 : Int32) (x7 : Int32), k20 s x4 x5 x6 x7 = some (r, s') → BlkI l yX2_fillRow wsX2_fillRow ({ frames := 2, cells := 0, slots := 0, locals := 45 }) cX2_fillRow 10 (some .int) (dC, dI) (tysA cB cI cJ cZ cS) as 20 (wJ cB cI cJ cZ cS a b s) [(0, .ref (a 36)), (1, .ref (b 0)), (2, .ref (a 37)), (4, .int x4), (5, .int x5), (6, .int x6), (7, .int x7)] [] (fun x u => x = r ∧ u = (wJ cB cI cJ cZ cS a b s'))) (hk39 : ∀ (s : JS) (x4 : Int32) (x5 : Int32) (x6 : Int32) (x7 : Int32) (x8 : Int32) (x9 : Int32), k39 s x4 x5 x6 x7 x8 x9 = some (r, s') → BlkI l yX2_fillRow wsX2_fillRow ({ frames := 2, cells := 0, slots := 0, locals := 45 }) cX2_fillRow 10 (some .int) (dC, dI) (tysA cB cI cJ cZ cS) as 39 (wJ cB cI cJ cZ cS a b s) [(0, .ref (a 36)), (1, .ref (b 0)), (2, .ref (a 37)), (4, .int x4), (5, .int x5), (6, .int x6), (7, .int x7), (8, .int x8), (9, .int x9)] [] (fun x u => x = r ∧ u = (wJ cB cI cJ cZ cS a b s'))) (s : JS) (x4 : Int32) (x5 : Int32) (x6 : Int32) (x7 : Int32) (x8 : Int32) (x9 : Int32) (hB : kX2_fillRow_near_39 k10 k20 k39 s x4 x5 x6 x7 x8 x9 = some (r, s')) : BlkI l yX2_fillRow wsX2_fillRow ({ frames := 2, cells := 0, slots := 0, locals := 45 }) cX2_fillRow 10 (some .int) (dC, dI) (tysA cB cI cJ cZ cS) as 39 (wJ cB cI cJ cZ cS a b s) [(0, .ref (a 36)), (1, .ref (b 0)), (2, .ref (a 37)), (4, .int x4), (5, .int x5), (6, .int x6), (7, .int x7), (8, .int x8), (9, .int x9)] [] (fun x u => x = r ∧ u = (wJ cB cI cJ cZ cS a b s')) := by
  intro p e s0 m below meth c A E H locs ls hP hD hS hl
  obtain ⟨C, hr, hlocks, hA, hK, hN⟩ := id E
  obtain ⟨hx, hb, hml, hown, hts⟩ := id C
  unfold kX2_fillRow_near_39 at hB
  refine lv_iload hx hb dX2_fillRow_39 (lv_at hl 8 rfl) ?_
  refine lv_iload hx hb dX2_fillRow_41 (lv_at hl 4 rfl) ?_
  refine lv_icmp_ge (tgt := 69) hx hb dX2_fillRow_43 (by decide) (fun c1 => ?_) (fun c1 => ?_)
  · have hB := if_p hB c1
    refine lv_iinc (v := (x7 + (-1))) (lv' := [(7, .int (x7 + (-1))), (0, .ref (a 36)), (1, .ref (b 0)), (2, .ref (a 37)), (4, .int x4), (5, .int x5), (6, .int x6), (8, .int x8), (9, .int x9)]) hx hb dX2_fillRow_69 hl (k := 6) rfl (rfl) (by decide) rfl (fun ls hl => ?_)
    refine lv_goto (tgt := 20) hx hb dX2_fillRow_72 (by decide) ?_
    exact hk20 _ _ _ _ _ hB p e s0 m below meth c A E H locs ls hP hD hS (lv_sub hl [1, 2, 3, 4, 5, 6, 0] rfl)
  · have hB := if_n hB c1
    refine lv_aload_n hx hb dX2_fillRow_46 rfl (lv_at hl 2 rfl) ?_
    refine lv_iload hx hb dX2_fillRow_47 (lv_at hl 6 rfl) ?_
    refine lv_iload hx hb dX2_fillRow_49 (lv_at hl 4 rfl) ?_
    refine lv_imul hx hb dX2_fillRow_51 ?_
    refine lv_iload hx hb dX2_fillRow_52 (lv_at hl 8 rfl) ?_
    refine lv_iadd hx hb dX2_fillRow_54 ?_
    refine lv_aload_n hx hb dX2_fillRow_55 rfl (lv_at hl 2 rfl) ?_
    refine lv_iload hx hb dX2_fillRow_56 (lv_at hl 8 rfl) ?_
    obtain ⟨g2, hB⟩ := guard_inv hB
    refine q_iald (x := ((s.k.f 37) (Int32.toNatClampNeg x9))) C hK hP 43 1 rfl rfl (vpb_in g2) dX2_fillRow_58 rfl ?_
    refine lv_iload hx hb dX2_fillRow_59 (lv_at hl 7 rfl) ?_
    refine lv_imul hx hb dX2_fillRow_61 ?_
    obtain ⟨g3, hB⟩ := guard_inv hB
    obtain ⟨s4, hs5, hB⟩ := letS_inv hB
    refine q_iast (f2 := (upd (s.k.f 37) (Int32.toNatClampNeg ((x7 * x5) + x9)) (((s.k.f 37) (Int32.toNatClampNeg x9)) * x8))) (w2 := (wJ cB cI cJ cZ cS a b s4)) C hK hP hD hS 43 1 rfl rfl (vpb_in g3) dX2_fillRow_62 rfl (by subst hs5; rfl) (fun H locs hP hD hS => ?_)
    refine lv_iinc (v := (x9 + 1)) (lv' := [(9, .int (x9 + 1)), (0, .ref (a 36)), (1, .ref (b 0)), (2, .ref (a 37)), (4, .int x4), (5, .int x5), (6, .int x6), (7, .int x7), (8, .int x8)]) hx hb dX2_fillRow_63 hl (k := 8) rfl (rfl) (by decide) rfl (fun ls hl => ?_)
    refine lv_goto (tgt := 39) hx hb dX2_fillRow_66 (by decide) ?_
    exact hk39 _ _ _ _ _ _ _ hB p e s0 m below meth c A E H locs ls hP hD hS (lv_sub hl [1, 2, 3, 4, 5, 6, 7, 8, 0] rfl)
theorem bkX2_fillRow_near_39L {l : Launch} {dC : Nat → ClassId} {dI : Nat → Nat → Nat} {cB cI cJ cZ cS : ClassId} {a b : Nat → Nat} {as : List Value} {r : Int32} {s' : JS} {k10 : JS → Int32 → Int32 → Int32 → Option (Int32 × JS)} {k20 : JS → Int32 → Int32 → Int32 → Int32 → Option (Int32 × JS)} (hk10 : ∀ (s : JS) (x4 : Int32) (x5 : Int32) (x6 : Int32), k10 s x4 x5 x6 = some (r, s') → BlkI l yX2_fillRow wsX2_fillRow ({ frames := 2, cells := 0, slots := 0, locals := 45 }) cX2_fillRow 10 (some .int) (dC, dI) (tysA cB cI cJ cZ cS) as 10 (wJ cB cI cJ cZ cS a b s) [(0, .ref (a 36)), (1, .ref (b 0)), (2, .ref (a 37)), (4, .int x4), (5, .int x5), (6, .int x6)] [] (fun x u => x = r ∧ u = (wJ cB cI cJ cZ cS a b s'))) (hk20 : ∀ (s : JS) (x4 : Int32) (x5 : Int32) (x6 : Int32) (x7 : Int32), k20 s x4 x5 x6 x7 = some (r, s') → BlkI l yX2_fillRow wsX2_fillRow ({ frames := 2, cells := 0, slots := 0, locals := 45 }) cX2_fillRow 10 (some .int) (dC, dI) (tysA cB cI cJ cZ cS) as 20 (wJ cB cI cJ cZ cS a b s) [(0, .ref (a 36)), (1, .ref (b 0)), (2, .ref (a 37)), (4, .int x4), (5, .int x5), (6, .int x6), (7, .int x7)] [] (fun x u => x = r ∧ u = (wJ cB cI cJ cZ cS a b s'))) : ∀ (n : Nat) (s : JS) (x4 : Int32) (x5 : Int32) (x6 : Int32) (x7 : Int32) (x8 : Int32) (x9 : Int32), kX2_fillRow_near_39L k10 k20 n s x4 x5 x6 x7 x8 x9 = some (r, s') → BlkI l yX2_fillRow wsX2_fillRow ({ frames := 2, cells := 0, slots := 0, locals := 45 }) cX2_fillRow 10 (some .int) (dC, dI) (tysA cB cI cJ cZ cS) as 39 (wJ cB cI cJ cZ cS a b s) [(0, .ref (a 36)), (1, .ref (b 0)), (2, .ref (a 37)), (4, .int x4), (5, .int x5), (6, .int x6), (7, .int x7), (8, .int x8), (9, .int x9)] [] (fun x u => x = r ∧ u = (wJ cB cI cJ cZ cS a b s')) := by
  intro n
  induction n with
  | zero => intro s x4 x5 x6 x7 x8 x9 hB; exact none_ne hB
  | succ n ih => intro s x4 x5 x6 x7 x8 x9 hB; exact bkX2_fillRow_near_39 hk10 hk20 ih _ _ _ _ _ _ _ hB
set_option maxHeartbeats 4000000 in
set_option maxRecDepth 100000 in
theorem bkX2_fillRow_near_20 {l : Launch} {dC : Nat → ClassId} {dI : Nat → Nat → Nat} {cB cI cJ cZ cS : ClassId} {a b : Nat → Nat} {as : List Value} {r : Int32} {s' : JS} {k10 : JS → Int32 → Int32 → Int32 → Option (Int32 × JS)} {k20 : JS → Int32 → Int32 → Int32 → Int32 → Option (Int32 × JS)} (hk10 : ∀ (s : JS) (x4 : Int32) (x5 : Int32) (x6 : Int32), k10 s x4 x5 x6 = some (r, s') → BlkI l yX2_fillRow wsX2_fillRow ({ frames := 2, cells := 0, slots := 0, locals := 45 }) cX2_fillRow 10 (some .int) (dC, dI) (tysA cB cI cJ cZ cS) as 10 (wJ cB cI cJ cZ cS a b s) [(0, .ref (a 36)), (1, .ref (b 0)), (2, .ref (a 37)), (4, .int x4), (5, .int x5), (6, .int x6)] [] (fun x u => x = r ∧ u = (wJ cB cI cJ cZ cS a b s'))) (hk20 : ∀ (s : JS) (x4 : Int32) (x5 : Int32) (x6 : Int32) (x7 : Int32), k20 s x4 x5 x6 x7 = some (r, s') → BlkI l yX2_fillRow wsX2_fillRow ({ frames := 2, cells := 0, slots := 0, locals := 45 }) cX2_fillRow 10 (some .int) (dC, dI) (tysA cB cI cJ cZ cS) as 20 (wJ cB cI cJ cZ cS a b s) [(0, .ref (a 36)), (1, .ref (b 0)), (2, .ref (a 37)), (4, .int x4), (5, .int x5), (6, .int x6), (7, .int x7)] [] (fun x u => x = r ∧ u = (wJ cB cI cJ cZ cS a b s'))) (s : JS) (x4 : Int32) (x5 : Int32) (x6 : Int32) (x7 : Int32) (hB : kX2_fillRow_near_20 k10 k20 s x4 x5 x6 x7 = some (r, s')) : BlkI l yX2_fillRow wsX2_fillRow ({ frames := 2, cells := 0, slots := 0, locals := 45 }) cX2_fillRow 10 (some .int) (dC, dI) (tysA cB cI cJ cZ cS) as 20 (wJ cB cI cJ cZ cS a b s) [(0, .ref (a 36)), (1, .ref (b 0)), (2, .ref (a 37)), (4, .int x4), (5, .int x5), (6, .int x6), (7, .int x7)] [] (fun x u => x = r ∧ u = (wJ cB cI cJ cZ cS a b s')) := by
  intro p e s0 m below meth c A E H locs ls hP hD hS hl
  obtain ⟨C, hr, hlocks, hA, hK, hN⟩ := id E
  obtain ⟨hx, hb, hml, hown, hts⟩ := id C
  unfold kX2_fillRow_near_20 at hB
  refine lv_iload hx hb dX2_fillRow_20 (lv_at hl 6 rfl) ?_
  refine lv_if_lt (tgt := 75) hx hb dX2_fillRow_22 (by decide) (fun c1 => ?_) (fun c1 => ?_)
  · have hB := if_p hB c1
    refine lv_iload hx hb dX2_fillRow_75 (lv_at hl 4 rfl) ?_
    refine lv_bipush (v := 6) hx hb dX2_fillRow_77 (by decide) ?_
    refine lv_imul hx hb dX2_fillRow_79 ?_
    refine lv_istore (lv' := [(5, .int (x5 * 6)), (0, .ref (a 36)), (1, .ref (b 0)), (2, .ref (a 37)), (4, .int x4), (6, .int x6), (7, .int x7)]) hx hb dX2_fillRow_80 hl (by decide) rfl (fun ls hl => ?_)
    refine lv_iinc (v := (x6 + 1)) (lv' := [(6, .int (x6 + 1)), (5, .int (x5 * 6)), (0, .ref (a 36)), (1, .ref (b 0)), (2, .ref (a 37)), (4, .int x4), (7, .int x7)]) hx hb dX2_fillRow_82 hl (k := 5) rfl (rfl) (by decide) rfl (fun ls hl => ?_)
    refine lv_goto (tgt := 10) hx hb dX2_fillRow_85 (by decide) ?_
    exact hk10 _ _ _ _ hB p e s0 m below meth c A E H locs ls hP hD hS (lv_sub hl [2, 3, 4, 5, 1, 0] rfl)
  · have hB := if_n hB c1
    refine lv_aload_n hx hb dX2_fillRow_25 rfl (lv_at hl 0 rfl) ?_
    refine lv_aload_n hx hb dX2_fillRow_26 rfl (lv_at hl 1 rfl) ?_
    refine lv_iload hx hb dX2_fillRow_27 (lv_at hl 5 rfl) ?_
    refine lv_iload hx hb dX2_fillRow_29 (lv_at hl 6 rfl) ?_
    obtain ⟨q_, s2, hc, hB⟩ := bindI_inv hB
    refine q_goiF (va_runV (As := [.ref (b 0), .int x6, .int x7]) (rest := []) C (ckX2_oddsIfMay hc _) (cwV 3 hts gX2_fillRow_X2_oddsIfMay rfl rfl rfl (by decide +kernel) ⟨Nat.le_of_ble_eq_true rfl, Nat.le_of_ble_eq_true rfl⟩) (q_preV hK hP (ci := 2) (q0 := 42) rfl rfl rfl (q_preF hN hK hP hD)) rfl rfl hl.1 rfl (lv_room (Nat.le_of_ble_eq_true rfl)) dX2_fillRow_31 ⟨Nat.le_of_ble_eq_true rfl, Nat.le_of_ble_eq_true rfl⟩) hD hS hA (fun r3 w1 H locs hw hP hD hS => ?_)
    obtain ⟨hq_, hw⟩ := hw; subst hw; subst hq_
    refine lv_istore (lv' := [(8, .int r3), (0, .ref (a 36)), (1, .ref (b 0)), (2, .ref (a 37)), (4, .int x4), (5, .int x5), (6, .int x6), (7, .int x7)]) hx hb dX2_fillRow_34 hl (by decide) rfl (fun ls hl => ?_)
    refine lv_iconst (v := 0) hx hb dX2_fillRow_36 (by decide) ?_
    refine lv_istore (lv' := [(9, .int 0), (8, .int r3), (0, .ref (a 36)), (1, .ref (b 0)), (2, .ref (a 37)), (4, .int x4), (5, .int x5), (6, .int x6), (7, .int x7)]) hx hb dX2_fillRow_37 hl (by decide) rfl (fun ls hl => ?_)
    exact bkX2_fillRow_near_39L (hk10) (hk20) fu _ _ _ _ _ _ _ hB p e s0 m below meth c A E H locs ls hP hD hS (lv_sub hl [2, 3, 4, 5, 6, 7, 8, 1, 0] rfl)
theorem bkX2_fillRow_near_20L {l : Launch} {dC : Nat → ClassId} {dI : Nat → Nat → Nat} {cB cI cJ cZ cS : ClassId} {a b : Nat → Nat} {as : List Value} {r : Int32} {s' : JS} {k10 : JS → Int32 → Int32 → Int32 → Option (Int32 × JS)} (hk10 : ∀ (s : JS) (x4 : Int32) (x5 : Int32) (x6 : Int32), k10 s x4 x5 x6 = some (r, s') → BlkI l yX2_fillRow wsX2_fillRow ({ frames := 2, cells := 0, slots := 0, locals := 45 }) cX2_fillRow 10 (some .int) (dC, dI) (tysA cB cI cJ cZ cS) as 10 (wJ cB cI cJ cZ cS a b s) [(0, .ref (a 36)), (1, .ref (b 0)), (2, .ref (a 37)), (4, .int x4), (5, .int x5), (6, .int x6)] [] (fun x u => x = r ∧ u = (wJ cB cI cJ cZ cS a b s'))) : ∀ (n : Nat) (s : JS) (x4 : Int32) (x5 : Int32) (x6 : Int32) (x7 : Int32), kX2_fillRow_near_20L k10 n s x4 x5 x6 x7 = some (r, s') → BlkI l yX2_fillRow wsX2_fillRow ({ frames := 2, cells := 0, slots := 0, locals := 45 }) cX2_fillRow 10 (some .int) (dC, dI) (tysA cB cI cJ cZ cS) as 20 (wJ cB cI cJ cZ cS a b s) [(0, .ref (a 36)), (1, .ref (b 0)), (2, .ref (a 37)), (4, .int x4), (5, .int x5), (6, .int x6), (7, .int x7)] [] (fun x u => x = r ∧ u = (wJ cB cI cJ cZ cS a b s')) := by
  intro n
  induction n with
  | zero => intro s x4 x5 x6 x7 hB; exact none_ne hB
  | succ n ih => intro s x4 x5 x6 x7 hB; exact bkX2_fillRow_near_20 hk10 ih _ _ _ _ _ hB
set_option maxHeartbeats 4000000 in
set_option maxRecDepth 100000 in
theorem bkX2_fillRow_near_10 {l : Launch} {dC : Nat → ClassId} {dI : Nat → Nat → Nat} {cB cI cJ cZ cS : ClassId} {a b : Nat → Nat} {as : List Value} {r : Int32} {s' : JS} {k10 : JS → Int32 → Int32 → Int32 → Option (Int32 × JS)} (hk10 : ∀ (s : JS) (x4 : Int32) (x5 : Int32) (x6 : Int32), k10 s x4 x5 x6 = some (r, s') → BlkI l yX2_fillRow wsX2_fillRow ({ frames := 2, cells := 0, slots := 0, locals := 45 }) cX2_fillRow 10 (some .int) (dC, dI) (tysA cB cI cJ cZ cS) as 10 (wJ cB cI cJ cZ cS a b s) [(0, .ref (a 36)), (1, .ref (b 0)), (2, .ref (a 37)), (4, .int x4), (5, .int x5), (6, .int x6)] [] (fun x u => x = r ∧ u = (wJ cB cI cJ cZ cS a b s'))) (s : JS) (x4 : Int32) (x5 : Int32) (x6 : Int32) (hB : kX2_fillRow_near_10 k10 s x4 x5 x6 = some (r, s')) : BlkI l yX2_fillRow wsX2_fillRow ({ frames := 2, cells := 0, slots := 0, locals := 45 }) cX2_fillRow 10 (some .int) (dC, dI) (tysA cB cI cJ cZ cS) as 10 (wJ cB cI cJ cZ cS a b s) [(0, .ref (a 36)), (1, .ref (b 0)), (2, .ref (a 37)), (4, .int x4), (5, .int x5), (6, .int x6)] [] (fun x u => x = r ∧ u = (wJ cB cI cJ cZ cS a b s')) := by
  intro p e s0 m below meth c A E H locs ls hP hD hS hl
  obtain ⟨C, hr, hlocks, hA, hK, hN⟩ := id E
  obtain ⟨hx, hb, hml, hown, hts⟩ := id C
  unfold kX2_fillRow_near_10 at hB
  refine lv_iload hx hb dX2_fillRow_10 (lv_at hl 5 rfl) ?_
  refine lv_iload hx hb dX2_fillRow_12 (lv_at hl 3 rfl) ?_
  refine lv_icmp_ge (tgt := 88) hx hb dX2_fillRow_14 (by decide) (fun c1 => ?_) (fun c1 => ?_)
  · have hB := if_p hB c1
    refine lv_iload hx hb dX2_fillRow_88 (lv_at hl 4 rfl) ?_
    exact q_iret C hr hlocks hK hP hD hS (Nat.le_of_ble_eq_true rfl) (Nat.le_of_ble_eq_true rfl) dX2_fillRow_90 (by cases hB; exact ⟨rfl, rfl⟩)
  · have hB := if_n hB c1
    refine lv_iconst (v := 5) hx hb dX2_fillRow_17 (by decide) ?_
    refine lv_istore (lv' := [(7, .int 5), (0, .ref (a 36)), (1, .ref (b 0)), (2, .ref (a 37)), (4, .int x4), (5, .int x5), (6, .int x6)]) hx hb dX2_fillRow_18 hl (by decide) rfl (fun ls hl => ?_)
    exact bkX2_fillRow_near_20L (hk10) fu _ _ _ _ _ hB p e s0 m below meth c A E H locs ls hP hD hS (lv_sub hl [1, 2, 3, 4, 5, 6, 0] rfl)
theorem bkX2_fillRow_near_10L {l : Launch} {dC : Nat → ClassId} {dI : Nat → Nat → Nat} {cB cI cJ cZ cS : ClassId} {a b : Nat → Nat} {as : List Value} {r : Int32} {s' : JS} : ∀ (n : Nat) (s : JS) (x4 : Int32) (x5 : Int32) (x6 : Int32), kX2_fillRow_near_10L n s x4 x5 x6 = some (r, s') → BlkI l yX2_fillRow wsX2_fillRow ({ frames := 2, cells := 0, slots := 0, locals := 45 }) cX2_fillRow 10 (some .int) (dC, dI) (tysA cB cI cJ cZ cS) as 10 (wJ cB cI cJ cZ cS a b s) [(0, .ref (a 36)), (1, .ref (b 0)), (2, .ref (a 37)), (4, .int x4), (5, .int x5), (6, .int x6)] [] (fun x u => x = r ∧ u = (wJ cB cI cJ cZ cS a b s')) := by
  intro n
  induction n with
  | zero => intro s x4 x5 x6 hB; exact none_ne hB
  | succ n ih => intro s x4 x5 x6 hB; exact bkX2_fillRow_near_10 ih _ _ _ _ hB
set_option maxHeartbeats 4000000 in
set_option maxRecDepth 100000 in
theorem bkX2_fillRow_near {l : Launch} {dC : Nat → ClassId} {dI : Nat → Nat → Nat} {cB cI cJ cZ cS : ClassId} {a b : Nat → Nat} {as : List Value} {r : Int32} {s' : JS} (s : JS) (x3 : Int32) (x4 : Int32) (hB : kX2_fillRow_near s x3 x4 = some (r, s')) : BlkI l yX2_fillRow wsX2_fillRow ({ frames := 2, cells := 0, slots := 0, locals := 45 }) cX2_fillRow 10 (some .int) (dC, dI) (tysA cB cI cJ cZ cS) as 0 (wJ cB cI cJ cZ cS a b s) [(0, .ref (a 36)), (1, .ref (b 0)), (2, .ref (a 37)), (3, .int x3), (4, .int x4)] [] (fun x u => x = r ∧ u = (wJ cB cI cJ cZ cS a b s')) := by
  intro p e s0 m below meth c A E H locs ls hP hD hS hl
  obtain ⟨C, hr, hlocks, hA, hK, hN⟩ := id E
  obtain ⟨hx, hb, hml, hown, hts⟩ := id C
  unfold kX2_fillRow_near at hB
  refine lv_iconst (v := 1) hx hb dX2_fillRow_0 (by decide) ?_
  refine lv_istore (lv' := [(5, .int 1), (0, .ref (a 36)), (1, .ref (b 0)), (2, .ref (a 37)), (3, .int x3), (4, .int x4)]) hx hb dX2_fillRow_1 hl (by decide) rfl (fun ls hl => ?_)
  refine lv_aload_n hx hb dX2_fillRow_3 rfl (lv_at hl 3 rfl) ?_
  refine lv_iconst (v := 0) hx hb dX2_fillRow_4 (by decide) ?_
  refine lv_iconst (v := 1) hx hb dX2_fillRow_5 (by decide) ?_
  obtain ⟨s1, hs2, hB⟩ := letS_inv hB
  refine q_iast (f2 := (upd (s.k.f 37) 0 1)) (w2 := (wJ cB cI cJ cZ cS a b s1)) C hK hP hD hS 43 1 rfl rfl (vp_lit (by decide +kernel)) dX2_fillRow_6 rfl (by subst hs2; rfl) (fun H locs hP hD hS => ?_)
  refine lv_iload_n hx hb dX2_fillRow_7 rfl (lv_at hl 4 rfl) ?_
  refine lv_istore (lv' := [(6, .int x3), (5, .int 1), (0, .ref (a 36)), (1, .ref (b 0)), (2, .ref (a 37)), (3, .int x3), (4, .int x4)]) hx hb dX2_fillRow_8 hl (by decide) rfl (fun ls hl => ?_)
  exact bkX2_fillRow_near_10L fu _ _ _ _ hB p e s0 m below meth c A E H locs ls hP hD hS (lv_sub hl [2, 3, 4, 6, 1, 0] rfl)
theorem ckX2_fillRow_near {l : Launch} {dC : Nat → ClassId} {dI : Nat → Nat → Nat} {cB cI cJ cZ cS : ClassId} {a b : Nat → Nat} {r : Int32} {s' : JS} {s : JS} {x3 : Int32} {x4 : Int32} (hB : kX2_fillRow_near s x3 x4 = some (r, s')) : CI l yX2_fillRow wsX2_fillRow ({ frames := 2, cells := 0, slots := 0, locals := 45 }) (dC, dI) (tysA cB cI cJ cZ cS) (wJ cB cI cJ cZ cS a b s) [.ref (a 36), .ref (b 0), .ref (a 37), .int x3, .int x4] (fun x u => x = r ∧ u = (wJ cB cI cJ cZ cS a b s')) :=
  CI_of (cc := cX2_fillRow) (maxL := 10) (ret := (some .int)) (by decide) rfl (Nat.le_of_ble_eq_true rfl) (bkX2_fillRow_near _ _ _ hB)
set_option maxHeartbeats 4000000 in
set_option maxRecDepth 100000 in
theorem bkX2_fillRow_far_39 {l : Launch} {dC : Nat → ClassId} {dI : Nat → Nat → Nat} {cB cI cJ cZ cS : ClassId} {a b : Nat → Nat} {as : List Value} {r : Int32} {s' : JS} {k10 : JS → Int32 → Int32 → Int32 → Option (Int32 × JS)} {k20 : JS → Int32 → Int32 → Int32 → Int32 → Option (Int32 × JS)} {k39 : JS → Int32 → Int32 → Int32 → Int32 → Int32 → Int32 → Option (Int32 × JS)} (hk10 : ∀ (s : JS) (x4 : Int32) (x5 : Int32) (x6 : Int32), k10 s x4 x5 x6 = some (r, s') → BlkI l yX2_fillRow wsX2_fillRow ({ frames := 2, cells := 0, slots := 0, locals := 45 }) cX2_fillRow 10 (some .int) (dC, dI) (tysA cB cI cJ cZ cS) as 10 (wJ cB cI cJ cZ cS a b s) [(0, .ref (a 36)), (1, .ref (b 0)), (2, .ref (a 38)), (4, .int x4), (5, .int x5), (6, .int x6)] [] (fun x u => x = r ∧ u = (wJ cB cI cJ cZ cS a b s'))) (hk20 : ∀ (s : JS) (x4 : Int32) (x5 : Int32) (x6 : Int32) (x7 : Int32), k20 s x4 x5 x6 x7 = some (r, s') → BlkI l yX2_fillRow wsX2_fillRow ({ frames := 2, cells := 0, slots := 0, locals := 45 }) cX2_fillRow 10 (some .int) (dC, dI) (tysA cB cI cJ cZ cS) as 20 (wJ cB cI cJ cZ cS a b s) [(0, .ref (a 36)), (1, .ref (b 0)), (2, .ref (a 38)), (4, .int x4), (5, .int x5), (6, .int x6), (7, .int x7)] [] (fun x u => x = r ∧ u = (wJ cB cI cJ cZ cS a b s'))) (hk39 : ∀ (s : JS) (x4 : Int32) (x5 : Int32) (x6 : Int32) (x7 : Int32) (x8 : Int32) (x9 : Int32), k39 s x4 x5 x6 x7 x8 x9 = some (r, s') → BlkI l yX2_fillRow wsX2_fillRow ({ frames := 2, cells := 0, slots := 0, locals := 45 }) cX2_fillRow 10 (some .int) (dC, dI) (tysA cB cI cJ cZ cS) as 39 (wJ cB cI cJ cZ cS a b s) [(0, .ref (a 36)), (1, .ref (b 0)), (2, .ref (a 38)), (4, .int x4), (5, .int x5), (6, .int x6), (7, .int x7), (8, .int x8), (9, .int x9)] [] (fun x u => x = r ∧ u = (wJ cB cI cJ cZ cS a b s'))) (s : JS) (x4 : Int32) (x5 : Int32) (x6 : Int32) (x7 : Int32) (x8 : Int32) (x9 : Int32) (hB : kX2_fillRow_far_39 k10 k20 k39 s x4 x5 x6 x7 x8 x9 = some (r, s')) : BlkI l yX2_fillRow wsX2_fillRow ({ frames := 2, cells := 0, slots := 0, locals := 45 }) cX2_fillRow 10 (some .int) (dC, dI) (tysA cB cI cJ cZ cS) as 39 (wJ cB cI cJ cZ cS a b s) [(0, .ref (a 36)), (1, .ref (b 0)), (2, .ref (a 38)), (4, .int x4), (5, .int x5), (6, .int x6), (7, .int x7), (8, .int x8), (9, .int x9)] [] (fun x u => x = r ∧ u = (wJ cB cI cJ cZ cS a b s')) := by
  intro p e s0 m below meth c A E H locs ls hP hD hS hl
  obtain ⟨C, hr, hlocks, hA, hK, hN⟩ := id E
  obtain ⟨hx, hb, hml, hown, hts⟩ := id C
  unfold kX2_fillRow_far_39 at hB
  refine lv_iload hx hb dX2_fillRow_39 (lv_at hl 8 rfl) ?_
  refine lv_iload hx hb dX2_fillRow_41 (lv_at hl 4 rfl) ?_
  refine lv_icmp_ge (tgt := 69) hx hb dX2_fillRow_43 (by decide) (fun c1 => ?_) (fun c1 => ?_)
  · have hB := if_p hB c1
    refine lv_iinc (v := (x7 + (-1))) (lv' := [(7, .int (x7 + (-1))), (0, .ref (a 36)), (1, .ref (b 0)), (2, .ref (a 38)), (4, .int x4), (5, .int x5), (6, .int x6), (8, .int x8), (9, .int x9)]) hx hb dX2_fillRow_69 hl (k := 6) rfl (rfl) (by decide) rfl (fun ls hl => ?_)
    refine lv_goto (tgt := 20) hx hb dX2_fillRow_72 (by decide) ?_
    exact hk20 _ _ _ _ _ hB p e s0 m below meth c A E H locs ls hP hD hS (lv_sub hl [1, 2, 3, 4, 5, 6, 0] rfl)
  · have hB := if_n hB c1
    refine lv_aload_n hx hb dX2_fillRow_46 rfl (lv_at hl 2 rfl) ?_
    refine lv_iload hx hb dX2_fillRow_47 (lv_at hl 6 rfl) ?_
    refine lv_iload hx hb dX2_fillRow_49 (lv_at hl 4 rfl) ?_
    refine lv_imul hx hb dX2_fillRow_51 ?_
    refine lv_iload hx hb dX2_fillRow_52 (lv_at hl 8 rfl) ?_
    refine lv_iadd hx hb dX2_fillRow_54 ?_
    refine lv_aload_n hx hb dX2_fillRow_55 rfl (lv_at hl 2 rfl) ?_
    refine lv_iload hx hb dX2_fillRow_56 (lv_at hl 8 rfl) ?_
    obtain ⟨g2, hB⟩ := guard_inv hB
    refine q_iald (x := ((s.k.f 38) (Int32.toNatClampNeg x9))) C hK hP 44 1 rfl rfl (vpb_in g2) dX2_fillRow_58 rfl ?_
    refine lv_iload hx hb dX2_fillRow_59 (lv_at hl 7 rfl) ?_
    refine lv_imul hx hb dX2_fillRow_61 ?_
    obtain ⟨g3, hB⟩ := guard_inv hB
    obtain ⟨s4, hs5, hB⟩ := letS_inv hB
    refine q_iast (f2 := (upd (s.k.f 38) (Int32.toNatClampNeg ((x7 * x5) + x9)) (((s.k.f 38) (Int32.toNatClampNeg x9)) * x8))) (w2 := (wJ cB cI cJ cZ cS a b s4)) C hK hP hD hS 44 1 rfl rfl (vpb_in g3) dX2_fillRow_62 rfl (by subst hs5; rfl) (fun H locs hP hD hS => ?_)
    refine lv_iinc (v := (x9 + 1)) (lv' := [(9, .int (x9 + 1)), (0, .ref (a 36)), (1, .ref (b 0)), (2, .ref (a 38)), (4, .int x4), (5, .int x5), (6, .int x6), (7, .int x7), (8, .int x8)]) hx hb dX2_fillRow_63 hl (k := 8) rfl (rfl) (by decide) rfl (fun ls hl => ?_)
    refine lv_goto (tgt := 39) hx hb dX2_fillRow_66 (by decide) ?_
    exact hk39 _ _ _ _ _ _ _ hB p e s0 m below meth c A E H locs ls hP hD hS (lv_sub hl [1, 2, 3, 4, 5, 6, 7, 8, 0] rfl)
theorem bkX2_fillRow_far_39L {l : Launch} {dC : Nat → ClassId} {dI : Nat → Nat → Nat} {cB cI cJ cZ cS : ClassId} {a b : Nat → Nat} {as : List Value} {r : Int32} {s' : JS} {k10 : JS → Int32 → Int32 → Int32 → Option (Int32 × JS)} {k20 : JS → Int32 → Int32 → Int32 → Int32 → Option (Int32 × JS)} (hk10 : ∀ (s : JS) (x4 : Int32) (x5 : Int32) (x6 : Int32), k10 s x4 x5 x6 = some (r, s') → BlkI l yX2_fillRow wsX2_fillRow ({ frames := 2, cells := 0, slots := 0, locals := 45 }) cX2_fillRow 10 (some .int) (dC, dI) (tysA cB cI cJ cZ cS) as 10 (wJ cB cI cJ cZ cS a b s) [(0, .ref (a 36)), (1, .ref (b 0)), (2, .ref (a 38)), (4, .int x4), (5, .int x5), (6, .int x6)] [] (fun x u => x = r ∧ u = (wJ cB cI cJ cZ cS a b s'))) (hk20 : ∀ (s : JS) (x4 : Int32) (x5 : Int32) (x6 : Int32) (x7 : Int32), k20 s x4 x5 x6 x7 = some (r, s') → BlkI l yX2_fillRow wsX2_fillRow ({ frames := 2, cells := 0, slots := 0, locals := 45 }) cX2_fillRow 10 (some .int) (dC, dI) (tysA cB cI cJ cZ cS) as 20 (wJ cB cI cJ cZ cS a b s) [(0, .ref (a 36)), (1, .ref (b 0)), (2, .ref (a 38)), (4, .int x4), (5, .int x5), (6, .int x6), (7, .int x7)] [] (fun x u => x = r ∧ u = (wJ cB cI cJ cZ cS a b s'))) : ∀ (n : Nat) (s : JS) (x4 : Int32) (x5 : Int32) (x6 : Int32) (x7 : Int32) (x8 : Int32) (x9 : Int32), kX2_fillRow_far_39L k10 k20 n s x4 x5 x6 x7 x8 x9 = some (r, s') → BlkI l yX2_fillRow wsX2_fillRow ({ frames := 2, cells := 0, slots := 0, locals := 45 }) cX2_fillRow 10 (some .int) (dC, dI) (tysA cB cI cJ cZ cS) as 39 (wJ cB cI cJ cZ cS a b s) [(0, .ref (a 36)), (1, .ref (b 0)), (2, .ref (a 38)), (4, .int x4), (5, .int x5), (6, .int x6), (7, .int x7), (8, .int x8), (9, .int x9)] [] (fun x u => x = r ∧ u = (wJ cB cI cJ cZ cS a b s')) := by
  intro n
  induction n with
  | zero => intro s x4 x5 x6 x7 x8 x9 hB; exact none_ne hB
  | succ n ih => intro s x4 x5 x6 x7 x8 x9 hB; exact bkX2_fillRow_far_39 hk10 hk20 ih _ _ _ _ _ _ _ hB
set_option maxHeartbeats 4000000 in
set_option maxRecDepth 100000 in
theorem bkX2_fillRow_far_20 {l : Launch} {dC : Nat → ClassId} {dI : Nat → Nat → Nat} {cB cI cJ cZ cS : ClassId} {a b : Nat → Nat} {as : List Value} {r : Int32} {s' : JS} {k10 : JS → Int32 → Int32 → Int32 → Option (Int32 × JS)} {k20 : JS → Int32 → Int32 → Int32 → Int32 → Option (Int32 × JS)} (hk10 : ∀ (s : JS) (x4 : Int32) (x5 : Int32) (x6 : Int32), k10 s x4 x5 x6 = some (r, s') → BlkI l yX2_fillRow wsX2_fillRow ({ frames := 2, cells := 0, slots := 0, locals := 45 }) cX2_fillRow 10 (some .int) (dC, dI) (tysA cB cI cJ cZ cS) as 10 (wJ cB cI cJ cZ cS a b s) [(0, .ref (a 36)), (1, .ref (b 0)), (2, .ref (a 38)), (4, .int x4), (5, .int x5), (6, .int x6)] [] (fun x u => x = r ∧ u = (wJ cB cI cJ cZ cS a b s'))) (hk20 : ∀ (s : JS) (x4 : Int32) (x5 : Int32) (x6 : Int32) (x7 : Int32), k20 s x4 x5 x6 x7 = some (r, s') → BlkI l yX2_fillRow wsX2_fillRow ({ frames := 2, cells := 0, slots := 0, locals := 45 }) cX2_fillRow 10 (some .int) (dC, dI) (tysA cB cI cJ cZ cS) as 20 (wJ cB cI cJ cZ cS a b s) [(0, .ref (a 36)), (1, .ref (b 0)), (2, .ref (a 38)), (4, .int x4), (5, .int x5), (6, .int x6), (7, .int x7)] [] (fun x u => x = r ∧ u = (wJ cB cI cJ cZ cS a b s'))) (s : JS) (x4 : Int32) (x5 : Int32) (x6 : Int32) (x7 : Int32) (hB : kX2_fillRow_far_20 k10 k20 s x4 x5 x6 x7 = some (r, s')) : BlkI l yX2_fillRow wsX2_fillRow ({ frames := 2, cells := 0, slots := 0, locals := 45 }) cX2_fillRow 10 (some .int) (dC, dI) (tysA cB cI cJ cZ cS) as 20 (wJ cB cI cJ cZ cS a b s) [(0, .ref (a 36)), (1, .ref (b 0)), (2, .ref (a 38)), (4, .int x4), (5, .int x5), (6, .int x6), (7, .int x7)] [] (fun x u => x = r ∧ u = (wJ cB cI cJ cZ cS a b s')) := by
  intro p e s0 m below meth c A E H locs ls hP hD hS hl
  obtain ⟨C, hr, hlocks, hA, hK, hN⟩ := id E
  obtain ⟨hx, hb, hml, hown, hts⟩ := id C
  unfold kX2_fillRow_far_20 at hB
  refine lv_iload hx hb dX2_fillRow_20 (lv_at hl 6 rfl) ?_
  refine lv_if_lt (tgt := 75) hx hb dX2_fillRow_22 (by decide) (fun c1 => ?_) (fun c1 => ?_)
  · have hB := if_p hB c1
    refine lv_iload hx hb dX2_fillRow_75 (lv_at hl 4 rfl) ?_
    refine lv_bipush (v := 6) hx hb dX2_fillRow_77 (by decide) ?_
    refine lv_imul hx hb dX2_fillRow_79 ?_
    refine lv_istore (lv' := [(5, .int (x5 * 6)), (0, .ref (a 36)), (1, .ref (b 0)), (2, .ref (a 38)), (4, .int x4), (6, .int x6), (7, .int x7)]) hx hb dX2_fillRow_80 hl (by decide) rfl (fun ls hl => ?_)
    refine lv_iinc (v := (x6 + 1)) (lv' := [(6, .int (x6 + 1)), (5, .int (x5 * 6)), (0, .ref (a 36)), (1, .ref (b 0)), (2, .ref (a 38)), (4, .int x4), (7, .int x7)]) hx hb dX2_fillRow_82 hl (k := 5) rfl (rfl) (by decide) rfl (fun ls hl => ?_)
    refine lv_goto (tgt := 10) hx hb dX2_fillRow_85 (by decide) ?_
    exact hk10 _ _ _ _ hB p e s0 m below meth c A E H locs ls hP hD hS (lv_sub hl [2, 3, 4, 5, 1, 0] rfl)
  · have hB := if_n hB c1
    refine lv_aload_n hx hb dX2_fillRow_25 rfl (lv_at hl 0 rfl) ?_
    refine lv_aload_n hx hb dX2_fillRow_26 rfl (lv_at hl 1 rfl) ?_
    refine lv_iload hx hb dX2_fillRow_27 (lv_at hl 5 rfl) ?_
    refine lv_iload hx hb dX2_fillRow_29 (lv_at hl 6 rfl) ?_
    obtain ⟨q_, s2, hc, hB⟩ := bindI_inv hB
    refine q_goiF (va_runV (As := [.ref (b 0), .int x6, .int x7]) (rest := []) C (ckX2_oddsIfMay hc _) (cwV 3 hts gX2_fillRow_X2_oddsIfMay rfl rfl rfl (by decide +kernel) ⟨Nat.le_of_ble_eq_true rfl, Nat.le_of_ble_eq_true rfl⟩) (q_preV hK hP (ci := 2) (q0 := 42) rfl rfl rfl (q_preF hN hK hP hD)) rfl rfl hl.1 rfl (lv_room (Nat.le_of_ble_eq_true rfl)) dX2_fillRow_31 ⟨Nat.le_of_ble_eq_true rfl, Nat.le_of_ble_eq_true rfl⟩) hD hS hA (fun r3 w1 H locs hw hP hD hS => ?_)
    obtain ⟨hq_, hw⟩ := hw; subst hw; subst hq_
    refine lv_istore (lv' := [(8, .int r3), (0, .ref (a 36)), (1, .ref (b 0)), (2, .ref (a 38)), (4, .int x4), (5, .int x5), (6, .int x6), (7, .int x7)]) hx hb dX2_fillRow_34 hl (by decide) rfl (fun ls hl => ?_)
    refine lv_iconst (v := 0) hx hb dX2_fillRow_36 (by decide) ?_
    refine lv_istore (lv' := [(9, .int 0), (8, .int r3), (0, .ref (a 36)), (1, .ref (b 0)), (2, .ref (a 38)), (4, .int x4), (5, .int x5), (6, .int x6), (7, .int x7)]) hx hb dX2_fillRow_37 hl (by decide) rfl (fun ls hl => ?_)
    exact bkX2_fillRow_far_39L (hk10) (hk20) fu _ _ _ _ _ _ _ hB p e s0 m below meth c A E H locs ls hP hD hS (lv_sub hl [2, 3, 4, 5, 6, 7, 8, 1, 0] rfl)
theorem bkX2_fillRow_far_20L {l : Launch} {dC : Nat → ClassId} {dI : Nat → Nat → Nat} {cB cI cJ cZ cS : ClassId} {a b : Nat → Nat} {as : List Value} {r : Int32} {s' : JS} {k10 : JS → Int32 → Int32 → Int32 → Option (Int32 × JS)} (hk10 : ∀ (s : JS) (x4 : Int32) (x5 : Int32) (x6 : Int32), k10 s x4 x5 x6 = some (r, s') → BlkI l yX2_fillRow wsX2_fillRow ({ frames := 2, cells := 0, slots := 0, locals := 45 }) cX2_fillRow 10 (some .int) (dC, dI) (tysA cB cI cJ cZ cS) as 10 (wJ cB cI cJ cZ cS a b s) [(0, .ref (a 36)), (1, .ref (b 0)), (2, .ref (a 38)), (4, .int x4), (5, .int x5), (6, .int x6)] [] (fun x u => x = r ∧ u = (wJ cB cI cJ cZ cS a b s'))) : ∀ (n : Nat) (s : JS) (x4 : Int32) (x5 : Int32) (x6 : Int32) (x7 : Int32), kX2_fillRow_far_20L k10 n s x4 x5 x6 x7 = some (r, s') → BlkI l yX2_fillRow wsX2_fillRow ({ frames := 2, cells := 0, slots := 0, locals := 45 }) cX2_fillRow 10 (some .int) (dC, dI) (tysA cB cI cJ cZ cS) as 20 (wJ cB cI cJ cZ cS a b s) [(0, .ref (a 36)), (1, .ref (b 0)), (2, .ref (a 38)), (4, .int x4), (5, .int x5), (6, .int x6), (7, .int x7)] [] (fun x u => x = r ∧ u = (wJ cB cI cJ cZ cS a b s')) := by
  intro n
  induction n with
  | zero => intro s x4 x5 x6 x7 hB; exact none_ne hB
  | succ n ih => intro s x4 x5 x6 x7 hB; exact bkX2_fillRow_far_20 hk10 ih _ _ _ _ _ hB
set_option maxHeartbeats 4000000 in
set_option maxRecDepth 100000 in
theorem bkX2_fillRow_far_10 {l : Launch} {dC : Nat → ClassId} {dI : Nat → Nat → Nat} {cB cI cJ cZ cS : ClassId} {a b : Nat → Nat} {as : List Value} {r : Int32} {s' : JS} {k10 : JS → Int32 → Int32 → Int32 → Option (Int32 × JS)} (hk10 : ∀ (s : JS) (x4 : Int32) (x5 : Int32) (x6 : Int32), k10 s x4 x5 x6 = some (r, s') → BlkI l yX2_fillRow wsX2_fillRow ({ frames := 2, cells := 0, slots := 0, locals := 45 }) cX2_fillRow 10 (some .int) (dC, dI) (tysA cB cI cJ cZ cS) as 10 (wJ cB cI cJ cZ cS a b s) [(0, .ref (a 36)), (1, .ref (b 0)), (2, .ref (a 38)), (4, .int x4), (5, .int x5), (6, .int x6)] [] (fun x u => x = r ∧ u = (wJ cB cI cJ cZ cS a b s'))) (s : JS) (x4 : Int32) (x5 : Int32) (x6 : Int32) (hB : kX2_fillRow_far_10 k10 s x4 x5 x6 = some (r, s')) : BlkI l yX2_fillRow wsX2_fillRow ({ frames := 2, cells := 0, slots := 0, locals := 45 }) cX2_fillRow 10 (some .int) (dC, dI) (tysA cB cI cJ cZ cS) as 10 (wJ cB cI cJ cZ cS a b s) [(0, .ref (a 36)), (1, .ref (b 0)), (2, .ref (a 38)), (4, .int x4), (5, .int x5), (6, .int x6)] [] (fun x u => x = r ∧ u = (wJ cB cI cJ cZ cS a b s')) := by
  intro p e s0 m below meth c A E H locs ls hP hD hS hl
  obtain ⟨C, hr, hlocks, hA, hK, hN⟩ := id E
  obtain ⟨hx, hb, hml, hown, hts⟩ := id C
  unfold kX2_fillRow_far_10 at hB
  refine lv_iload hx hb dX2_fillRow_10 (lv_at hl 5 rfl) ?_
  refine lv_iload hx hb dX2_fillRow_12 (lv_at hl 3 rfl) ?_
  refine lv_icmp_ge (tgt := 88) hx hb dX2_fillRow_14 (by decide) (fun c1 => ?_) (fun c1 => ?_)
  · have hB := if_p hB c1
    refine lv_iload hx hb dX2_fillRow_88 (lv_at hl 4 rfl) ?_
    exact q_iret C hr hlocks hK hP hD hS (Nat.le_of_ble_eq_true rfl) (Nat.le_of_ble_eq_true rfl) dX2_fillRow_90 (by cases hB; exact ⟨rfl, rfl⟩)
  · have hB := if_n hB c1
    refine lv_iconst (v := 5) hx hb dX2_fillRow_17 (by decide) ?_
    refine lv_istore (lv' := [(7, .int 5), (0, .ref (a 36)), (1, .ref (b 0)), (2, .ref (a 38)), (4, .int x4), (5, .int x5), (6, .int x6)]) hx hb dX2_fillRow_18 hl (by decide) rfl (fun ls hl => ?_)
    exact bkX2_fillRow_far_20L (hk10) fu _ _ _ _ _ hB p e s0 m below meth c A E H locs ls hP hD hS (lv_sub hl [1, 2, 3, 4, 5, 6, 0] rfl)
theorem bkX2_fillRow_far_10L {l : Launch} {dC : Nat → ClassId} {dI : Nat → Nat → Nat} {cB cI cJ cZ cS : ClassId} {a b : Nat → Nat} {as : List Value} {r : Int32} {s' : JS} : ∀ (n : Nat) (s : JS) (x4 : Int32) (x5 : Int32) (x6 : Int32), kX2_fillRow_far_10L n s x4 x5 x6 = some (r, s') → BlkI l yX2_fillRow wsX2_fillRow ({ frames := 2, cells := 0, slots := 0, locals := 45 }) cX2_fillRow 10 (some .int) (dC, dI) (tysA cB cI cJ cZ cS) as 10 (wJ cB cI cJ cZ cS a b s) [(0, .ref (a 36)), (1, .ref (b 0)), (2, .ref (a 38)), (4, .int x4), (5, .int x5), (6, .int x6)] [] (fun x u => x = r ∧ u = (wJ cB cI cJ cZ cS a b s')) := by
  intro n
  induction n with
  | zero => intro s x4 x5 x6 hB; exact none_ne hB
  | succ n ih => intro s x4 x5 x6 hB; exact bkX2_fillRow_far_10 ih _ _ _ _ hB
set_option maxHeartbeats 4000000 in
set_option maxRecDepth 100000 in
theorem bkX2_fillRow_far {l : Launch} {dC : Nat → ClassId} {dI : Nat → Nat → Nat} {cB cI cJ cZ cS : ClassId} {a b : Nat → Nat} {as : List Value} {r : Int32} {s' : JS} (s : JS) (x3 : Int32) (x4 : Int32) (hB : kX2_fillRow_far s x3 x4 = some (r, s')) : BlkI l yX2_fillRow wsX2_fillRow ({ frames := 2, cells := 0, slots := 0, locals := 45 }) cX2_fillRow 10 (some .int) (dC, dI) (tysA cB cI cJ cZ cS) as 0 (wJ cB cI cJ cZ cS a b s) [(0, .ref (a 36)), (1, .ref (b 0)), (2, .ref (a 38)), (3, .int x3), (4, .int x4)] [] (fun x u => x = r ∧ u = (wJ cB cI cJ cZ cS a b s')) := by
  intro p e s0 m below meth c A E H locs ls hP hD hS hl
  obtain ⟨C, hr, hlocks, hA, hK, hN⟩ := id E
  obtain ⟨hx, hb, hml, hown, hts⟩ := id C
  unfold kX2_fillRow_far at hB
  refine lv_iconst (v := 1) hx hb dX2_fillRow_0 (by decide) ?_
  refine lv_istore (lv' := [(5, .int 1), (0, .ref (a 36)), (1, .ref (b 0)), (2, .ref (a 38)), (3, .int x3), (4, .int x4)]) hx hb dX2_fillRow_1 hl (by decide) rfl (fun ls hl => ?_)
  refine lv_aload_n hx hb dX2_fillRow_3 rfl (lv_at hl 3 rfl) ?_
  refine lv_iconst (v := 0) hx hb dX2_fillRow_4 (by decide) ?_
  refine lv_iconst (v := 1) hx hb dX2_fillRow_5 (by decide) ?_
  obtain ⟨s1, hs2, hB⟩ := letS_inv hB
  refine q_iast (f2 := (upd (s.k.f 38) 0 1)) (w2 := (wJ cB cI cJ cZ cS a b s1)) C hK hP hD hS 44 1 rfl rfl (vp_lit (by decide +kernel)) dX2_fillRow_6 rfl (by subst hs2; rfl) (fun H locs hP hD hS => ?_)
  refine lv_iload_n hx hb dX2_fillRow_7 rfl (lv_at hl 4 rfl) ?_
  refine lv_istore (lv' := [(6, .int x3), (5, .int 1), (0, .ref (a 36)), (1, .ref (b 0)), (2, .ref (a 38)), (3, .int x3), (4, .int x4)]) hx hb dX2_fillRow_8 hl (by decide) rfl (fun ls hl => ?_)
  exact bkX2_fillRow_far_10L fu _ _ _ _ hB p e s0 m below meth c A E H locs ls hP hD hS (lv_sub hl [2, 3, 4, 6, 1, 0] rfl)
theorem ckX2_fillRow_far {l : Launch} {dC : Nat → ClassId} {dI : Nat → Nat → Nat} {cB cI cJ cZ cS : ClassId} {a b : Nat → Nat} {r : Int32} {s' : JS} {s : JS} {x3 : Int32} {x4 : Int32} (hB : kX2_fillRow_far s x3 x4 = some (r, s')) : CI l yX2_fillRow wsX2_fillRow ({ frames := 2, cells := 0, slots := 0, locals := 45 }) (dC, dI) (tysA cB cI cJ cZ cS) (wJ cB cI cJ cZ cS a b s) [.ref (a 36), .ref (b 0), .ref (a 38), .int x3, .int x4] (fun x u => x = r ∧ u = (wJ cB cI cJ cZ cS a b s')) :=
  CI_of (cc := cX2_fillRow) (maxL := 10) (ret := (some .int)) (by decide) rfl (Nat.le_of_ble_eq_true rfl) (bkX2_fillRow_far _ _ _ hB)
end
section
theorem ggX2_fillNear_X2_fillRow : GoodIn wsX2_fillNear wsX2_fillRow := gi_sub (fun w h => List.mem_cons_of_mem _ (List.mem_append_left _ (List.mem_append_left _ (List.mem_append_left _ (List.mem_append_left _ (List.mem_append_right _ h)))))) gd_wsX2_fillRow
set_option maxRecDepth 20000 in
theorem gX2_fillNear_X2_fillRow : GoodIn wsX2_fillNear (wsV RX2 90 RX2 yX2_fillRow wsX2_fillRow) := goodIn_app (goodIn_r _ [7, 8, 9, 10] (by decide +kernel) (by decide +kernel)) ggX2_fillNear_X2_fillRow
theorem dX2_fillNear_0 : decode cX2_fillNear 0 = .ok (.aload_n 0, 1) := dc1_42 (by decide +kernel)
theorem dX2_fillNear_1 : decode cX2_fillNear 1 = .ok (.aload_n 1, 1) := dc1_43 (by decide +kernel)
theorem dX2_fillNear_2 : decode cX2_fillNear 2 = .ok (.aload_n 0, 1) := dc1_42 (by decide +kernel)
theorem dX2_fillNear_3 : decode cX2_fillNear 3 = .ok (.getfield 9, 3) := dcw_180 (by decide +kernel)
theorem dX2_fillNear_6 : decode cX2_fillNear 6 = .ok (.iconst 0, 1) := dc1_3 (by decide +kernel)
theorem dX2_fillNear_7 : decode cX2_fillNear 7 = .ok (.iconst 3, 1) := dc1_6 (by decide +kernel)
theorem dX2_fillNear_8 : decode cX2_fillNear 8 = .ok (.aload_n 0, 1) := dc1_42 (by decide +kernel)
theorem dX2_fillNear_9 : decode cX2_fillNear 9 = .ok (.getfield 24, 3) := dcw_180 (by decide +kernel)
theorem dX2_fillNear_12 : decode cX2_fillNear 12 = .ok (.getfield 44, 3) := dcw_180 (by decide +kernel)
theorem dX2_fillNear_15 : decode cX2_fillNear 15 = .ok (.invokestatic 87, 3) := dcw_184 (by decide +kernel)
theorem dX2_fillNear_18 : decode cX2_fillNear 18 = .ok (.invokevirtual 90, 3) := dcw_182 (by decide +kernel)
theorem dX2_fillNear_21 : decode cX2_fillNear 21 = .ok (.ireturn, 1) := dc1_172 (by decide +kernel)
theorem ggX2_fillFar_X2_fillRow : GoodIn wsX2_fillFar wsX2_fillRow := gi_sub (fun w h => List.mem_cons_of_mem _ (List.mem_append_left _ (List.mem_append_left _ (List.mem_append_left _ (List.mem_append_left _ (List.mem_append_right _ h)))))) gd_wsX2_fillRow
set_option maxRecDepth 20000 in
theorem gX2_fillFar_X2_fillRow : GoodIn wsX2_fillFar (wsV RX2 90 RX2 yX2_fillRow wsX2_fillRow) := goodIn_app (goodIn_r _ [3, 4, 5, 6] (by decide +kernel) (by decide +kernel)) ggX2_fillFar_X2_fillRow
theorem dX2_fillFar_0 : decode cX2_fillFar 0 = .ok (.aload_n 0, 1) := dc1_42 (by decide +kernel)
theorem dX2_fillFar_1 : decode cX2_fillFar 1 = .ok (.aload_n 1, 1) := dc1_43 (by decide +kernel)
theorem dX2_fillFar_2 : decode cX2_fillFar 2 = .ok (.aload_n 0, 1) := dc1_42 (by decide +kernel)
theorem dX2_fillFar_3 : decode cX2_fillFar 3 = .ok (.getfield 15, 3) := dcw_180 (by decide +kernel)
theorem dX2_fillFar_6 : decode cX2_fillFar 6 = .ok (.iconst 3, 1) := dc1_6 (by decide +kernel)
theorem dX2_fillFar_7 : decode cX2_fillFar 7 = .ok (.aload_n 0, 1) := dc1_42 (by decide +kernel)
theorem dX2_fillFar_8 : decode cX2_fillFar 8 = .ok (.getfield 24, 3) := dcw_180 (by decide +kernel)
theorem dX2_fillFar_11 : decode cX2_fillFar 11 = .ok (.getfield 44, 3) := dcw_180 (by decide +kernel)
theorem dX2_fillFar_14 : decode cX2_fillFar 14 = .ok (.invokevirtual 90, 3) := dcw_182 (by decide +kernel)
theorem dX2_fillFar_17 : decode cX2_fillFar 17 = .ok (.ireturn, 1) := dc1_172 (by decide +kernel)
theorem ggX2_casesAheadOf_X2_fillNear : GoodIn wsX2_casesAheadOf wsX2_fillNear := gi_sub (fun w h => List.mem_cons_of_mem _ (List.mem_append_left _ (List.mem_append_left _ (List.mem_append_left _ (List.mem_append_left _ (List.mem_append_right _ (List.mem_append_left _ h))))))) gd_wsX2_fillNear
set_option maxRecDepth 20000 in
theorem gX2_casesAheadOf_X2_fillNear : GoodIn wsX2_casesAheadOf (wsV RX2 94 RX2 yX2_fillNear wsX2_fillNear) := goodIn_app (goodIn_r _ [3, 4, 5, 6] (by decide +kernel) (by decide +kernel)) ggX2_casesAheadOf_X2_fillNear
theorem ggX2_casesAheadOf_X2_fillFar : GoodIn wsX2_casesAheadOf wsX2_fillFar := gi_sub (fun w h => List.mem_cons_of_mem _ (List.mem_append_left _ (List.mem_append_left _ (List.mem_append_left _ (List.mem_append_left _ (List.mem_append_right _ (List.mem_append_right _ h))))))) gd_wsX2_fillFar
set_option maxRecDepth 20000 in
theorem gX2_casesAheadOf_X2_fillFar : GoodIn wsX2_casesAheadOf (wsV RX2 98 RX2 yX2_fillFar wsX2_fillFar) := goodIn_app (goodIn_r _ [7, 8, 9, 6] (by decide +kernel) (by decide +kernel)) ggX2_casesAheadOf_X2_fillFar
theorem dX2_casesAheadOf_0 : decode cX2_casesAheadOf 0 = .ok (.aload_n 0, 1) := dc1_42 (by decide +kernel)
theorem dX2_casesAheadOf_1 : decode cX2_casesAheadOf 1 = .ok (.aload_n 1, 1) := dc1_43 (by decide +kernel)
theorem dX2_casesAheadOf_2 : decode cX2_casesAheadOf 2 = .ok (.invokevirtual 94, 3) := dcw_182 (by decide +kernel)
theorem dX2_casesAheadOf_5 : decode cX2_casesAheadOf 5 = .ok (.istore 4, 2) := dcu_54 (by decide +kernel)
theorem dX2_casesAheadOf_7 : decode cX2_casesAheadOf 7 = .ok (.aload_n 0, 1) := dc1_42 (by decide +kernel)
theorem dX2_casesAheadOf_8 : decode cX2_casesAheadOf 8 = .ok (.aload_n 1, 1) := dc1_43 (by decide +kernel)
theorem dX2_casesAheadOf_9 : decode cX2_casesAheadOf 9 = .ok (.invokevirtual 98, 3) := dcw_182 (by decide +kernel)
theorem dX2_casesAheadOf_12 : decode cX2_casesAheadOf 12 = .ok (.istore 5, 2) := dcu_54 (by decide +kernel)
theorem dX2_casesAheadOf_14 : decode cX2_casesAheadOf 14 = .ok (.iconst 0, 1) := dc1_3 (by decide +kernel)
theorem dX2_casesAheadOf_15 : decode cX2_casesAheadOf 15 = .ok (.istore 6, 2) := dcu_54 (by decide +kernel)
theorem dX2_casesAheadOf_17 : decode cX2_casesAheadOf 17 = .ok (.iconst 0, 1) := dc1_3 (by decide +kernel)
theorem dX2_casesAheadOf_18 : decode cX2_casesAheadOf 18 = .ok (.istore 7, 2) := dcu_54 (by decide +kernel)
theorem dX2_casesAheadOf_20 : decode cX2_casesAheadOf 20 = .ok (.iconst 0, 1) := dc1_3 (by decide +kernel)
theorem dX2_casesAheadOf_21 : decode cX2_casesAheadOf 21 = .ok (.istore 8, 2) := dcu_54 (by decide +kernel)
theorem dX2_casesAheadOf_23 : decode cX2_casesAheadOf 23 = .ok (.iload 8, 2) := dcu_21 (by decide +kernel)
theorem dX2_casesAheadOf_25 : decode cX2_casesAheadOf 25 = .ok (.iload 5, 2) := dcu_21 (by decide +kernel)
theorem dX2_casesAheadOf_27 : decode cX2_casesAheadOf 27 = .ok (.if_icmp .ge 66, 3) := dcs_162 (n := 66) (by decide +kernel)
theorem dX2_casesAheadOf_30 : decode cX2_casesAheadOf 30 = .ok (.iconst 0, 1) := dc1_3 (by decide +kernel)
theorem dX2_casesAheadOf_31 : decode cX2_casesAheadOf 31 = .ok (.istore 9, 2) := dcu_54 (by decide +kernel)
theorem dX2_casesAheadOf_33 : decode cX2_casesAheadOf 33 = .ok (.iload 9, 2) := dcu_21 (by decide +kernel)
theorem dX2_casesAheadOf_35 : decode cX2_casesAheadOf 35 = .ok (.iload 4, 2) := dcu_21 (by decide +kernel)
theorem dX2_casesAheadOf_37 : decode cX2_casesAheadOf 37 = .ok (.if_icmp .ge 50, 3) := dcs_162 (n := 50) (by decide +kernel)
theorem dX2_casesAheadOf_40 : decode cX2_casesAheadOf 40 = .ok (.aload_n 0, 1) := dc1_42 (by decide +kernel)
theorem dX2_casesAheadOf_41 : decode cX2_casesAheadOf 41 = .ok (.getfield 15, 3) := dcw_180 (by decide +kernel)
theorem dX2_casesAheadOf_44 : decode cX2_casesAheadOf 44 = .ok (.iload 8, 2) := dcu_21 (by decide +kernel)
theorem dX2_casesAheadOf_46 : decode cX2_casesAheadOf 46 = .ok (.iaload, 1) := dc1_46 (by decide +kernel)
theorem dX2_casesAheadOf_47 : decode cX2_casesAheadOf 47 = .ok (.aload_n 0, 1) := dc1_42 (by decide +kernel)
theorem dX2_casesAheadOf_48 : decode cX2_casesAheadOf 48 = .ok (.getfield 9, 3) := dcw_180 (by decide +kernel)
theorem dX2_casesAheadOf_51 : decode cX2_casesAheadOf 51 = .ok (.iload 9, 2) := dcu_21 (by decide +kernel)
theorem dX2_casesAheadOf_53 : decode cX2_casesAheadOf 53 = .ok (.iaload, 1) := dc1_46 (by decide +kernel)
theorem dX2_casesAheadOf_54 : decode cX2_casesAheadOf 54 = .ok (.imul, 1) := dc1_104 (by decide +kernel)
theorem dX2_casesAheadOf_55 : decode cX2_casesAheadOf 55 = .ok (.istore 10, 2) := dcu_54 (by decide +kernel)
theorem dX2_casesAheadOf_57 : decode cX2_casesAheadOf 57 = .ok (.iload 10, 2) := dcu_21 (by decide +kernel)
theorem dX2_casesAheadOf_59 : decode cX2_casesAheadOf 59 = .ok (.iload_n 3, 1) := dc1_29 (by decide +kernel)
theorem dX2_casesAheadOf_60 : decode cX2_casesAheadOf 60 = .ok (.if_icmp .gt 15, 3) := dcs_163 (n := 15) (by decide +kernel)
theorem dX2_casesAheadOf_63 : decode cX2_casesAheadOf 63 = .ok (.iload 10, 2) := dcu_21 (by decide +kernel)
theorem dX2_casesAheadOf_65 : decode cX2_casesAheadOf 65 = .ok (.iload_n 3, 1) := dc1_29 (by decide +kernel)
theorem dX2_casesAheadOf_66 : decode cX2_casesAheadOf 66 = .ok (.if_icmp .ne 12, 3) := dcs_160 (n := 12) (by decide +kernel)
theorem dX2_casesAheadOf_69 : decode cX2_casesAheadOf 69 = .ok (.iload 7, 2) := dcu_21 (by decide +kernel)
theorem dX2_casesAheadOf_71 : decode cX2_casesAheadOf 71 = .ok (.iload_n 2, 1) := dc1_28 (by decide +kernel)
theorem dX2_casesAheadOf_72 : decode cX2_casesAheadOf 72 = .ok (.if_icmp .ge 6, 3) := dcs_162 (n := 6) (by decide +kernel)
theorem dX2_casesAheadOf_75 : decode cX2_casesAheadOf 75 = .ok (.iinc 6 1, 3) := dc_iinc (m := 1) (by decide +kernel)
theorem dX2_casesAheadOf_78 : decode cX2_casesAheadOf 78 = .ok (.iinc 7 1, 3) := dc_iinc (m := 1) (by decide +kernel)
theorem dX2_casesAheadOf_81 : decode cX2_casesAheadOf 81 = .ok (.iinc 9 1, 3) := dc_iinc (m := 1) (by decide +kernel)
theorem dX2_casesAheadOf_84 : decode cX2_casesAheadOf 84 = .ok (.goto (-51), 3) := dcs_167 (n := 65485) (by decide +kernel)
theorem dX2_casesAheadOf_87 : decode cX2_casesAheadOf 87 = .ok (.iinc 8 1, 3) := dc_iinc (m := 1) (by decide +kernel)
theorem dX2_casesAheadOf_90 : decode cX2_casesAheadOf 90 = .ok (.goto (-67), 3) := dcs_167 (n := 65469) (by decide +kernel)
theorem dX2_casesAheadOf_93 : decode cX2_casesAheadOf 93 = .ok (.iload 6, 2) := dcu_21 (by decide +kernel)
theorem dX2_casesAheadOf_95 : decode cX2_casesAheadOf 95 = .ok (.ireturn, 1) := dc1_172 (by decide +kernel)
theorem ggX2_caseAtRank_X2_fillNear : GoodIn wsX2_caseAtRank wsX2_fillNear := gi_sub (fun w h => List.mem_cons_of_mem _ (List.mem_append_left _ (List.mem_append_left _ (List.mem_append_left _ (List.mem_append_left _ (List.mem_append_right _ (List.mem_append_left _ h))))))) gd_wsX2_fillNear
set_option maxRecDepth 20000 in
theorem gX2_caseAtRank_X2_fillNear : GoodIn wsX2_caseAtRank (wsV RX2 94 RX2 yX2_fillNear wsX2_fillNear) := goodIn_app (goodIn_r _ [5, 6, 7, 8] (by decide +kernel) (by decide +kernel)) ggX2_caseAtRank_X2_fillNear
theorem ggX2_caseAtRank_X2_fillFar : GoodIn wsX2_caseAtRank wsX2_fillFar := gi_sub (fun w h => List.mem_cons_of_mem _ (List.mem_append_left _ (List.mem_append_left _ (List.mem_append_left _ (List.mem_append_left _ (List.mem_append_right _ (List.mem_append_right _ (List.mem_append_left _ h)))))))) gd_wsX2_fillFar
set_option maxRecDepth 20000 in
theorem gX2_caseAtRank_X2_fillFar : GoodIn wsX2_caseAtRank (wsV RX2 98 RX2 yX2_fillFar wsX2_fillFar) := goodIn_app (goodIn_r _ [13, 14, 15, 8] (by decide +kernel) (by decide +kernel)) ggX2_caseAtRank_X2_fillFar
theorem ggX2_caseAtRank_J7_fill_53178 : GoodIn wsX2_caseAtRank wsJ7_fill_53178 := gi_sub (fun w h => List.mem_cons_of_mem _ (List.mem_append_left _ (List.mem_append_left _ (List.mem_append_left _ (List.mem_append_left _ (List.mem_append_right _ (List.mem_append_right _ (List.mem_append_right _ (List.mem_append_left _ h))))))))) gd_wsJ7_fill_53178
set_option maxRecDepth 20000 in
theorem gX2_caseAtRank_J7_fill_53178 : GoodIn wsX2_caseAtRank (va_wsS RX2 101 yJ7_fill_53178 wsJ7_fill_53178) := goodIn_app (goodIn_of _ (by decide +kernel)) ggX2_caseAtRank_J7_fill_53178
theorem ggX2_caseAtRank_X2_putOnTop : GoodIn wsX2_caseAtRank wsX2_putOnTop := gi_sub (fun w h => List.mem_cons_of_mem _ (List.mem_append_left _ (List.mem_append_left _ (List.mem_append_left _ (List.mem_append_left _ (List.mem_append_right _ (List.mem_append_right _ (List.mem_append_right _ (List.mem_append_right _ h))))))))) gd_wsX2_putOnTop
set_option maxRecDepth 20000 in
theorem gX2_caseAtRank_X2_putOnTop : GoodIn wsX2_caseAtRank (wsV RX2 107 RX2 yX2_putOnTop wsX2_putOnTop) := goodIn_app (goodIn_r _ [19, 20, 21, 8] (by decide +kernel) (by decide +kernel)) ggX2_caseAtRank_X2_putOnTop
theorem dX2_caseAtRank_0 : decode cX2_caseAtRank 0 = .ok (.aload_n 0, 1) := dc1_42 (by decide +kernel)
theorem dX2_caseAtRank_1 : decode cX2_caseAtRank 1 = .ok (.aload_n 1, 1) := dc1_43 (by decide +kernel)
theorem dX2_caseAtRank_2 : decode cX2_caseAtRank 2 = .ok (.invokevirtual 94, 3) := dcw_182 (by decide +kernel)
theorem dX2_caseAtRank_5 : decode cX2_caseAtRank 5 = .ok (.istore_n 3, 1) := dc1_62 (by decide +kernel)
theorem dX2_caseAtRank_6 : decode cX2_caseAtRank 6 = .ok (.aload_n 0, 1) := dc1_42 (by decide +kernel)
theorem dX2_caseAtRank_7 : decode cX2_caseAtRank 7 = .ok (.aload_n 1, 1) := dc1_43 (by decide +kernel)
theorem dX2_caseAtRank_8 : decode cX2_caseAtRank 8 = .ok (.invokevirtual 98, 3) := dcw_182 (by decide +kernel)
theorem dX2_caseAtRank_11 : decode cX2_caseAtRank 11 = .ok (.istore 4, 2) := dcu_54 (by decide +kernel)
theorem dX2_caseAtRank_13 : decode cX2_caseAtRank 13 = .ok (.aload_n 0, 1) := dc1_42 (by decide +kernel)
theorem dX2_caseAtRank_14 : decode cX2_caseAtRank 14 = .ok (.getfield 21, 3) := dcw_180 (by decide +kernel)
theorem dX2_caseAtRank_17 : decode cX2_caseAtRank 17 = .ok (.iconst 0, 1) := dc1_3 (by decide +kernel)
theorem dX2_caseAtRank_18 : decode cX2_caseAtRank 18 = .ok (.invokestatic 101, 3) := dcw_184 (by decide +kernel)
theorem dX2_caseAtRank_21 : decode cX2_caseAtRank 21 = .ok (.aload_n 0, 1) := dc1_42 (by decide +kernel)
theorem dX2_caseAtRank_22 : decode cX2_caseAtRank 22 = .ok (.getfield 18, 3) := dcw_180 (by decide +kernel)
theorem dX2_caseAtRank_25 : decode cX2_caseAtRank 25 = .ok (.iconst (-1), 1) := dc1_2 (by decide +kernel)
theorem dX2_caseAtRank_26 : decode cX2_caseAtRank 26 = .ok (.invokestatic 101, 3) := dcw_184 (by decide +kernel)
theorem dX2_caseAtRank_29 : decode cX2_caseAtRank 29 = .ok (.iconst 0, 1) := dc1_3 (by decide +kernel)
theorem dX2_caseAtRank_30 : decode cX2_caseAtRank 30 = .ok (.istore 5, 2) := dcu_54 (by decide +kernel)
theorem dX2_caseAtRank_32 : decode cX2_caseAtRank 32 = .ok (.iconst 0, 1) := dc1_3 (by decide +kernel)
theorem dX2_caseAtRank_33 : decode cX2_caseAtRank 33 = .ok (.istore 6, 2) := dcu_54 (by decide +kernel)
theorem dX2_caseAtRank_35 : decode cX2_caseAtRank 35 = .ok (.iload 6, 2) := dcu_21 (by decide +kernel)
theorem dX2_caseAtRank_37 : decode cX2_caseAtRank 37 = .ok (.iload 4, 2) := dcu_21 (by decide +kernel)
theorem dX2_caseAtRank_39 : decode cX2_caseAtRank 39 = .ok (.if_icmp .ge 64, 3) := dcs_162 (n := 64) (by decide +kernel)
theorem dX2_caseAtRank_42 : decode cX2_caseAtRank 42 = .ok (.iconst 0, 1) := dc1_3 (by decide +kernel)
theorem dX2_caseAtRank_43 : decode cX2_caseAtRank 43 = .ok (.istore 7, 2) := dcu_54 (by decide +kernel)
theorem dX2_caseAtRank_45 : decode cX2_caseAtRank 45 = .ok (.iload 7, 2) := dcu_21 (by decide +kernel)
theorem dX2_caseAtRank_47 : decode cX2_caseAtRank 47 = .ok (.iload_n 3, 1) := dc1_29 (by decide +kernel)
theorem dX2_caseAtRank_48 : decode cX2_caseAtRank 48 = .ok (.if_icmp .ge 49, 3) := dcs_162 (n := 49) (by decide +kernel)
theorem dX2_caseAtRank_51 : decode cX2_caseAtRank 51 = .ok (.aload_n 0, 1) := dc1_42 (by decide +kernel)
theorem dX2_caseAtRank_52 : decode cX2_caseAtRank 52 = .ok (.getfield 15, 3) := dcw_180 (by decide +kernel)
theorem dX2_caseAtRank_55 : decode cX2_caseAtRank 55 = .ok (.iload 6, 2) := dcu_21 (by decide +kernel)
theorem dX2_caseAtRank_57 : decode cX2_caseAtRank 57 = .ok (.iaload, 1) := dc1_46 (by decide +kernel)
theorem dX2_caseAtRank_58 : decode cX2_caseAtRank 58 = .ok (.aload_n 0, 1) := dc1_42 (by decide +kernel)
theorem dX2_caseAtRank_59 : decode cX2_caseAtRank 59 = .ok (.getfield 9, 3) := dcw_180 (by decide +kernel)
theorem dX2_caseAtRank_62 : decode cX2_caseAtRank 62 = .ok (.iload 7, 2) := dcu_21 (by decide +kernel)
theorem dX2_caseAtRank_64 : decode cX2_caseAtRank 64 = .ok (.iaload, 1) := dc1_46 (by decide +kernel)
theorem dX2_caseAtRank_65 : decode cX2_caseAtRank 65 = .ok (.imul, 1) := dc1_104 (by decide +kernel)
theorem dX2_caseAtRank_66 : decode cX2_caseAtRank 66 = .ok (.istore 8, 2) := dcu_54 (by decide +kernel)
theorem dX2_caseAtRank_68 : decode cX2_caseAtRank 68 = .ok (.iload 8, 2) := dcu_21 (by decide +kernel)
theorem dX2_caseAtRank_70 : decode cX2_caseAtRank 70 = .ok (.aload_n 0, 1) := dc1_42 (by decide +kernel)
theorem dX2_caseAtRank_71 : decode cX2_caseAtRank 71 = .ok (.getfield 21, 3) := dcw_180 (by decide +kernel)
theorem dX2_caseAtRank_74 : decode cX2_caseAtRank 74 = .ok (.iload_n 2, 1) := dc1_28 (by decide +kernel)
theorem dX2_caseAtRank_75 : decode cX2_caseAtRank 75 = .ok (.iaload, 1) := dc1_46 (by decide +kernel)
theorem dX2_caseAtRank_76 : decode cX2_caseAtRank 76 = .ok (.if_icmp .le 12, 3) := dcs_164 (n := 12) (by decide +kernel)
theorem dX2_caseAtRank_79 : decode cX2_caseAtRank 79 = .ok (.aload_n 0, 1) := dc1_42 (by decide +kernel)
theorem dX2_caseAtRank_80 : decode cX2_caseAtRank 80 = .ok (.iload 5, 2) := dcu_21 (by decide +kernel)
theorem dX2_caseAtRank_82 : decode cX2_caseAtRank 82 = .ok (.iload 8, 2) := dcu_21 (by decide +kernel)
theorem dX2_caseAtRank_84 : decode cX2_caseAtRank 84 = .ok (.iload_n 2, 1) := dc1_28 (by decide +kernel)
theorem dX2_caseAtRank_85 : decode cX2_caseAtRank 85 = .ok (.invokevirtual 107, 3) := dcw_182 (by decide +kernel)
theorem dX2_caseAtRank_88 : decode cX2_caseAtRank 88 = .ok (.iinc 5 1, 3) := dc_iinc (m := 1) (by decide +kernel)
theorem dX2_caseAtRank_91 : decode cX2_caseAtRank 91 = .ok (.iinc 7 1, 3) := dc_iinc (m := 1) (by decide +kernel)
theorem dX2_caseAtRank_94 : decode cX2_caseAtRank 94 = .ok (.goto (-49), 3) := dcs_167 (n := 65487) (by decide +kernel)
theorem dX2_caseAtRank_97 : decode cX2_caseAtRank 97 = .ok (.iinc 6 1, 3) := dc_iinc (m := 1) (by decide +kernel)
theorem dX2_caseAtRank_100 : decode cX2_caseAtRank 100 = .ok (.goto (-65), 3) := dcs_167 (n := 65471) (by decide +kernel)
theorem dX2_caseAtRank_103 : decode cX2_caseAtRank 103 = .ok (.aload_n 0, 1) := dc1_42 (by decide +kernel)
theorem dX2_caseAtRank_104 : decode cX2_caseAtRank 104 = .ok (.getfield 18, 3) := dcw_180 (by decide +kernel)
theorem dX2_caseAtRank_107 : decode cX2_caseAtRank 107 = .ok (.iload_n 2, 1) := dc1_28 (by decide +kernel)
theorem dX2_caseAtRank_108 : decode cX2_caseAtRank 108 = .ok (.iaload, 1) := dc1_46 (by decide +kernel)
theorem dX2_caseAtRank_109 : decode cX2_caseAtRank 109 = .ok (.ireturn, 1) := dc1_172 (by decide +kernel)
theorem ggX2_unfind_X10_has : GoodIn wsX2_unfind wsX10_has := gi_sub (fun w h => List.mem_cons_of_mem _ (List.mem_append_left _ (List.mem_append_left _ (List.mem_append_left _ (List.mem_append_right _ h))))) gd_wsX10_has
set_option maxRecDepth 20000 in
theorem gX2_unfind_X10_has_n57 : GoodIn wsX2_unfind (wsX10_has) := ggX2_unfind_X10_has
theorem dX2_unfind_0 : decode cX2_unfind 0 = .ok (.iconst 0, 1) := dc1_3 (by decide +kernel)
theorem dX2_unfind_1 : decode cX2_unfind 1 = .ok (.istore_n 3, 1) := dc1_62 (by decide +kernel)
theorem dX2_unfind_2 : decode cX2_unfind 2 = .ok (.iload_n 3, 1) := dc1_29 (by decide +kernel)
theorem dX2_unfind_3 : decode cX2_unfind 3 = .ok (.aload_n 0, 1) := dc1_42 (by decide +kernel)
theorem dX2_unfind_4 : decode cX2_unfind 4 = .ok (.getfield 24, 3) := dcw_180 (by decide +kernel)
theorem dX2_unfind_7 : decode cX2_unfind 7 = .ok (.getfield 44, 3) := dcw_180 (by decide +kernel)
theorem dX2_unfind_10 : decode cX2_unfind 10 = .ok (.if_icmp .ge 24, 3) := dcs_162 (n := 24) (by decide +kernel)
theorem dX2_unfind_13 : decode cX2_unfind 13 = .ok (.iload_n 2, 1) := dc1_28 (by decide +kernel)
theorem dX2_unfind_14 : decode cX2_unfind 14 = .ok (.iload_n 3, 1) := dc1_29 (by decide +kernel)
theorem dX2_unfind_15 : decode cX2_unfind 15 = .ok (.invokestatic 57, 3) := dcw_184 (by decide +kernel)
theorem dX2_unfind_18 : decode cX2_unfind 18 = .ok (.ifCond .eq 10, 3) := dcs_153 (n := 10) (by decide +kernel)
theorem dX2_unfind_21 : decode cX2_unfind 21 = .ok (.aload_n 1, 1) := dc1_43 (by decide +kernel)
theorem dX2_unfind_22 : decode cX2_unfind 22 = .ok (.getfield 128, 3) := dcw_180 (by decide +kernel)
theorem dX2_unfind_25 : decode cX2_unfind 25 = .ok (.iload_n 3, 1) := dc1_29 (by decide +kernel)
theorem dX2_unfind_26 : decode cX2_unfind 26 = .ok (.iconst (-1), 1) := dc1_2 (by decide +kernel)
theorem dX2_unfind_27 : decode cX2_unfind 27 = .ok (.iastore, 1) := dc1_79 (by decide +kernel)
theorem dX2_unfind_28 : decode cX2_unfind 28 = .ok (.iinc 3 1, 3) := dc_iinc (m := 1) (by decide +kernel)
theorem dX2_unfind_31 : decode cX2_unfind 31 = .ok (.goto (-29), 3) := dcs_167 (n := 65507) (by decide +kernel)
theorem dX2_unfind_34 : decode cX2_unfind 34 = .ok (.return_, 1) := dc1_177 (by decide +kernel)
theorem ggX4_readParty_X4_fail : GoodIn wsX4_readParty wsX4_fail := gi_sub (fun w h => List.mem_cons_of_mem _ (List.mem_append_left _ (List.mem_append_left _ (List.mem_append_left _ (List.mem_append_right _ (List.mem_append_left _ h)))))) gd_wsX4_fail
set_option maxRecDepth 20000 in
theorem gX4_readParty_X4_fail : GoodIn wsX4_readParty (wsV RX4 70 RX4 yX4_fail wsX4_fail) := goodIn_app (goodIn_r _ [5, 6, 7, 8] (by decide +kernel) (by decide +kernel)) ggX4_readParty_X4_fail
theorem ggX4_readParty_X4_take : GoodIn wsX4_readParty wsX4_take := gi_sub (fun w h => List.mem_cons_of_mem _ (List.mem_append_left _ (List.mem_append_left _ (List.mem_append_left _ (List.mem_append_right _ (List.mem_append_right _ (List.mem_append_left _ h))))))) gd_wsX4_take
set_option maxRecDepth 20000 in
theorem gX4_readParty_X4_take : GoodIn wsX4_readParty (wsV RX4 81 RX4 yX4_take wsX4_take) := goodIn_app (goodIn_r _ [9, 10, 11, 8] (by decide +kernel) (by decide +kernel)) ggX4_readParty_X4_take
theorem ggX4_readParty_X4_isAt : GoodIn wsX4_readParty wsX4_isAt := gi_sub (fun w h => List.mem_cons_of_mem _ (List.mem_append_left _ (List.mem_append_left _ (List.mem_append_left _ (List.mem_append_right _ (List.mem_append_right _ (List.mem_append_right _ (List.mem_append_left _ h)))))))) gd_wsX4_isAt
set_option maxRecDepth 20000 in
theorem gX4_readParty_X4_isAt : GoodIn wsX4_readParty (wsV RX4 53 RX4 yX4_isAt wsX4_isAt) := goodIn_app (goodIn_r _ [12, 13, 14, 8] (by decide +kernel) (by decide +kernel)) ggX4_readParty_X4_isAt
theorem ggX4_readParty_X4_isTold : GoodIn wsX4_readParty wsX4_isTold := gi_sub (fun w h => List.mem_cons_of_mem _ (List.mem_append_left _ (List.mem_append_left _ (List.mem_append_left _ (List.mem_append_right _ (List.mem_append_right _ (List.mem_append_right _ (List.mem_append_right _ (List.mem_append_left _ h))))))))) gd_wsX4_isTold
set_option maxRecDepth 20000 in
theorem gX4_readParty_X4_isTold : GoodIn wsX4_readParty (wsV RX4 109 RX4 yX4_isTold wsX4_isTold) := goodIn_app (goodIn_r _ [15, 16, 17, 8] (by decide +kernel) (by decide +kernel)) ggX4_readParty_X4_isTold
theorem ggX4_readParty_X4_failLater : GoodIn wsX4_readParty wsX4_failLater := gi_sub (fun w h => List.mem_cons_of_mem _ (List.mem_append_left _ (List.mem_append_left _ (List.mem_append_left _ (List.mem_append_right _ (List.mem_append_right _ (List.mem_append_right _ (List.mem_append_right _ (List.mem_append_right _ (List.mem_append_left _ h)))))))))) gd_wsX4_failLater
set_option maxRecDepth 20000 in
theorem gX4_readParty_X4_failLater : GoodIn wsX4_readParty (wsV RX4 77 RX4 yX4_failLater wsX4_failLater) := goodIn_app (goodIn_r _ [18, 19, 20, 8] (by decide +kernel) (by decide +kernel)) ggX4_readParty_X4_failLater
theorem ggX4_readParty_X4_takeInt : GoodIn wsX4_readParty wsX4_takeInt := gi_sub (fun w h => List.mem_cons_of_mem _ (List.mem_append_left _ (List.mem_append_left _ (List.mem_append_left _ (List.mem_append_right _ (List.mem_append_right _ (List.mem_append_right _ (List.mem_append_right _ (List.mem_append_right _ (List.mem_append_right _ h)))))))))) gd_wsX4_takeInt
set_option maxRecDepth 20000 in
theorem gX4_readParty_X4_takeInt : GoodIn wsX4_readParty (wsV RX4 90 RX4 yX4_takeInt wsX4_takeInt) := goodIn_app (goodIn_r _ [21, 22, 23, 8] (by decide +kernel) (by decide +kernel)) ggX4_readParty_X4_takeInt
theorem dX4_readParty_0 : decode cX4_readParty 0 = .ok (.aload_n 0, 1) := dc1_42 (by decide +kernel)
theorem dX4_readParty_1 : decode cX4_readParty 1 = .ok (.getfield 12, 3) := dcw_180 (by decide +kernel)
theorem dX4_readParty_4 : decode cX4_readParty 4 = .ok (.getfield 106, 3) := dcw_180 (by decide +kernel)
theorem dX4_readParty_7 : decode cX4_readParty 7 = .ok (.bipush 6, 2) := dcb_16 (n := 6) (by decide +kernel)
theorem dX4_readParty_9 : decode cX4_readParty 9 = .ok (.if_icmp .lt 9, 3) := dcs_161 (n := 9) (by decide +kernel)
theorem dX4_readParty_12 : decode cX4_readParty 12 = .ok (.aload_n 0, 1) := dc1_42 (by decide +kernel)
theorem dX4_readParty_13 : decode cX4_readParty 13 = .ok (.iconst 2, 1) := dc1_5 (by decide +kernel)
theorem dX4_readParty_14 : decode cX4_readParty 14 = .ok (.invokevirtual 70, 3) := dcw_182 (by decide +kernel)
theorem dX4_readParty_17 : decode cX4_readParty 17 = .ok (.return_, 1) := dc1_177 (by decide +kernel)
theorem dX4_readParty_18 : decode cX4_readParty 18 = .ok (.aload_n 0, 1) := dc1_42 (by decide +kernel)
theorem dX4_readParty_19 : decode cX4_readParty 19 = .ok (.sipush 257, 3) := dcs_17 (n := 257) (by decide +kernel)
theorem dX4_readParty_22 : decode cX4_readParty 22 = .ok (.invokevirtual 81, 3) := dcw_182 (by decide +kernel)
theorem dX4_readParty_25 : decode cX4_readParty 25 = .ok (.aload_n 0, 1) := dc1_42 (by decide +kernel)
theorem dX4_readParty_26 : decode cX4_readParty 26 = .ok (.getfield 31, 3) := dcw_180 (by decide +kernel)
theorem dX4_readParty_29 : decode cX4_readParty 29 = .ok (.getfield 74, 3) := dcw_180 (by decide +kernel)
theorem dX4_readParty_32 : decode cX4_readParty 32 = .ok (.aload_n 0, 1) := dc1_42 (by decide +kernel)
theorem dX4_readParty_33 : decode cX4_readParty 33 = .ok (.getfield 38, 3) := dcw_180 (by decide +kernel)
theorem dX4_readParty_36 : decode cX4_readParty 36 = .ok (.laload, 1) := dc1_47 (by decide +kernel)
theorem dX4_readParty_37 : decode cX4_readParty 37 = .ok (.lstore_n 1, 1) := dc1_64 (by decide +kernel)
theorem dX4_readParty_38 : decode cX4_readParty 38 = .ok (.aload_n 0, 1) := dc1_42 (by decide +kernel)
theorem dX4_readParty_39 : decode cX4_readParty 39 = .ok (.sipush 300, 3) := dcs_17 (n := 300) (by decide +kernel)
theorem dX4_readParty_42 : decode cX4_readParty 42 = .ok (.invokevirtual 53, 3) := dcw_182 (by decide +kernel)
theorem dX4_readParty_45 : decode cX4_readParty 45 = .ok (.ifCond .eq 28, 3) := dcs_153 (n := 28) (by decide +kernel)
theorem dX4_readParty_48 : decode cX4_readParty 48 = .ok (.aload_n 0, 1) := dc1_42 (by decide +kernel)
theorem dX4_readParty_49 : decode cX4_readParty 49 = .ok (.lload_n 1, 1) := dc1_31 (by decide +kernel)
theorem dX4_readParty_50 : decode cX4_readParty 50 = .ok (.invokevirtual 109, 3) := dcw_182 (by decide +kernel)
theorem dX4_readParty_53 : decode cX4_readParty 53 = .ok (.ifCond .eq 20, 3) := dcs_153 (n := 20) (by decide +kernel)
theorem dX4_readParty_56 : decode cX4_readParty 56 = .ok (.aload_n 0, 1) := dc1_42 (by decide +kernel)
theorem dX4_readParty_57 : decode cX4_readParty 57 = .ok (.iconst 3, 1) := dc1_6 (by decide +kernel)
theorem dX4_readParty_58 : decode cX4_readParty 58 = .ok (.aload_n 0, 1) := dc1_42 (by decide +kernel)
theorem dX4_readParty_59 : decode cX4_readParty 59 = .ok (.getfield 31, 3) := dcw_180 (by decide +kernel)
theorem dX4_readParty_62 : decode cX4_readParty 62 = .ok (.getfield 67, 3) := dcw_180 (by decide +kernel)
theorem dX4_readParty_65 : decode cX4_readParty 65 = .ok (.aload_n 0, 1) := dc1_42 (by decide +kernel)
theorem dX4_readParty_66 : decode cX4_readParty 66 = .ok (.getfield 38, 3) := dcw_180 (by decide +kernel)
theorem dX4_readParty_69 : decode cX4_readParty 69 = .ok (.iaload, 1) := dc1_46 (by decide +kernel)
theorem dX4_readParty_70 : decode cX4_readParty 70 = .ok (.invokevirtual 77, 3) := dcw_182 (by decide +kernel)
theorem dX4_readParty_73 : decode cX4_readParty 73 = .ok (.aload_n 0, 1) := dc1_42 (by decide +kernel)
theorem dX4_readParty_74 : decode cX4_readParty 74 = .ok (.sipush 300, 3) := dcs_17 (n := 300) (by decide +kernel)
theorem dX4_readParty_77 : decode cX4_readParty 77 = .ok (.invokevirtual 81, 3) := dcw_182 (by decide +kernel)
theorem dX4_readParty_80 : decode cX4_readParty 80 = .ok (.aload_n 0, 1) := dc1_42 (by decide +kernel)
theorem dX4_readParty_81 : decode cX4_readParty 81 = .ok (.getfield 18, 3) := dcw_180 (by decide +kernel)
theorem dX4_readParty_84 : decode cX4_readParty 84 = .ok (.aload_n 0, 1) := dc1_42 (by decide +kernel)
theorem dX4_readParty_85 : decode cX4_readParty 85 = .ok (.getfield 12, 3) := dcw_180 (by decide +kernel)
theorem dX4_readParty_88 : decode cX4_readParty 88 = .ok (.getfield 106, 3) := dcw_180 (by decide +kernel)
theorem dX4_readParty_91 : decode cX4_readParty 91 = .ok (.lload_n 1, 1) := dc1_31 (by decide +kernel)
theorem dX4_readParty_92 : decode cX4_readParty 92 = .ok (.lastore, 1) := dc1_80 (by decide +kernel)
theorem dX4_readParty_93 : decode cX4_readParty 93 = .ok (.aload_n 0, 1) := dc1_42 (by decide +kernel)
theorem dX4_readParty_94 : decode cX4_readParty 94 = .ok (.getfield 12, 3) := dcw_180 (by decide +kernel)
theorem dX4_readParty_97 : decode cX4_readParty 97 = .ok (.getfield 113, 3) := dcw_180 (by decide +kernel)
theorem dX4_readParty_100 : decode cX4_readParty 100 = .ok (.aload_n 0, 1) := dc1_42 (by decide +kernel)
theorem dX4_readParty_101 : decode cX4_readParty 101 = .ok (.getfield 12, 3) := dcw_180 (by decide +kernel)
theorem dX4_readParty_104 : decode cX4_readParty 104 = .ok (.getfield 106, 3) := dcw_180 (by decide +kernel)
theorem dX4_readParty_107 : decode cX4_readParty 107 = .ok (.aload_n 0, 1) := dc1_42 (by decide +kernel)
theorem dX4_readParty_108 : decode cX4_readParty 108 = .ok (.bipush 9, 2) := dcb_16 (n := 9) (by decide +kernel)
theorem dX4_readParty_110 : decode cX4_readParty 110 = .ok (.invokevirtual 90, 3) := dcw_182 (by decide +kernel)
theorem dX4_readParty_113 : decode cX4_readParty 113 = .ok (.iastore, 1) := dc1_79 (by decide +kernel)
theorem dX4_readParty_114 : decode cX4_readParty 114 = .ok (.aload_n 0, 1) := dc1_42 (by decide +kernel)
theorem dX4_readParty_115 : decode cX4_readParty 115 = .ok (.getfield 12, 3) := dcw_180 (by decide +kernel)
theorem dX4_readParty_118 : decode cX4_readParty 118 = .ok (.getfield 116, 3) := dcw_180 (by decide +kernel)
theorem dX4_readParty_121 : decode cX4_readParty 121 = .ok (.aload_n 0, 1) := dc1_42 (by decide +kernel)
theorem dX4_readParty_122 : decode cX4_readParty 122 = .ok (.getfield 12, 3) := dcw_180 (by decide +kernel)
theorem dX4_readParty_125 : decode cX4_readParty 125 = .ok (.getfield 106, 3) := dcw_180 (by decide +kernel)
theorem dX4_readParty_128 : decode cX4_readParty 128 = .ok (.aload_n 0, 1) := dc1_42 (by decide +kernel)
theorem dX4_readParty_129 : decode cX4_readParty 129 = .ok (.bipush 9, 2) := dcb_16 (n := 9) (by decide +kernel)
theorem dX4_readParty_131 : decode cX4_readParty 131 = .ok (.invokevirtual 90, 3) := dcw_182 (by decide +kernel)
theorem dX4_readParty_134 : decode cX4_readParty 134 = .ok (.iastore, 1) := dc1_79 (by decide +kernel)
theorem dX4_readParty_135 : decode cX4_readParty 135 = .ok (.aload_n 0, 1) := dc1_42 (by decide +kernel)
theorem dX4_readParty_136 : decode cX4_readParty 136 = .ok (.bipush 59, 2) := dcb_16 (n := 59) (by decide +kernel)
theorem dX4_readParty_138 : decode cX4_readParty 138 = .ok (.invokevirtual 81, 3) := dcw_182 (by decide +kernel)
theorem dX4_readParty_141 : decode cX4_readParty 141 = .ok (.aload_n 0, 1) := dc1_42 (by decide +kernel)
theorem dX4_readParty_142 : decode cX4_readParty 142 = .ok (.getfield 12, 3) := dcw_180 (by decide +kernel)
theorem dX4_readParty_145 : decode cX4_readParty 145 = .ok (.dup, 1) := dc1_89 (by decide +kernel)
theorem dX4_readParty_146 : decode cX4_readParty 146 = .ok (.getfield 106, 3) := dcw_180 (by decide +kernel)
theorem dX4_readParty_149 : decode cX4_readParty 149 = .ok (.iconst 1, 1) := dc1_4 (by decide +kernel)
theorem dX4_readParty_150 : decode cX4_readParty 150 = .ok (.iadd, 1) := dc1_96 (by decide +kernel)
theorem dX4_readParty_151 : decode cX4_readParty 151 = .ok (.putfield 106, 3) := dcw_181 (by decide +kernel)
theorem dX4_readParty_154 : decode cX4_readParty 154 = .ok (.return_, 1) := dc1_177 (by decide +kernel)
theorem LX2_fillNear_24 : Cond.fieldLink RX2 24 "GuessFerry$Outlook" "sound" "LGuessFerry$Sound;" ∈ wsX2_fillNear := (List.mem_cons_of_mem _ (List.mem_append_left _ (List.mem_append_left _ (List.mem_append_left _ (List.mem_append_left _ (List.mem_append_left _ (List.mem_of_getElem? (i := 1) rfl)))))))
theorem LX2_fillNear_9 : Cond.fieldLink RX2 9 "GuessFerry$Outlook" "near" "[I" ∈ wsX2_fillNear := (List.mem_cons_of_mem _ (List.mem_append_left _ (List.mem_append_left _ (List.mem_append_left _ (List.mem_append_left _ (List.mem_append_left _ (List.mem_of_getElem? (i := 0) rfl)))))))
theorem LX2_fillNear_M87 : Cond.methodLink RX2 87 Lib.Math.min.name ∈ wsX2_fillNear := (List.mem_cons_of_mem _ (List.mem_append_left _ (List.mem_append_left _ (List.mem_append_left _ (List.mem_append_left _ (List.mem_append_left _ (List.mem_of_getElem? (i := 2) rfl)))))))
theorem LX2_fillNear_MCmin : Cond.code Lib.Math.min.name Lib.Math.min.code 2 (some .int) ∈ wsX2_fillNear := (List.mem_cons_of_mem _ (List.mem_append_left _ (List.mem_append_left _ (List.mem_append_left _ (List.mem_append_left _ (List.mem_append_left _ (List.mem_of_getElem? (i := 5) rfl)))))))
theorem LX2_fillNear_MI : Cond.initialized "java/lang/Math" ∈ wsX2_fillNear := (List.mem_cons_of_mem _ (List.mem_append_left _ (List.mem_append_left _ (List.mem_append_left _ (List.mem_append_left _ (List.mem_append_left _ (List.mem_of_getElem? (i := 4) rfl)))))))
theorem LX2_fillNear_MSmin : Cond.static Lib.Math.min.name ∈ wsX2_fillNear := (List.mem_cons_of_mem _ (List.mem_append_left _ (List.mem_append_left _ (List.mem_append_left _ (List.mem_append_left _ (List.mem_append_left _ (List.mem_of_getElem? (i := 3) rfl)))))))
theorem inX2_fillNear_X2 : ∀ w ∈ u_ws RX2 TX2 6, w ∈ wsX2_fillNear := fun w h => (List.mem_cons_of_mem _ (List.mem_append_left _ (List.mem_append_left _ (List.mem_append_left _ (List.mem_append_right _ h)))))
theorem inX2_fillNear_X5 : ∀ w ∈ u_ws RX5 TX5 10, w ∈ wsX2_fillNear := fun w h => (List.mem_cons_of_mem _ (List.mem_append_left _ (List.mem_append_left _ (List.mem_append_right _ h))))
set_option maxHeartbeats 4000000 in
set_option maxRecDepth 100000 in
theorem bkX2_fillNear {l : Launch} {dC : Nat → ClassId} {dI : Nat → Nat → Nat} {cB cI cJ cZ cS : ClassId} {a b : Nat → Nat} {as : List Value} {r : Int32} {s' : JS} (s : JS) (hB : kX2_fillNear s = some (r, s')) : BlkI l yX2_fillNear wsX2_fillNear ({ frames := 3, cells := 0, slots := 0, locals := 74 }) cX2_fillNear 2 (some .int) (dC, dI) (tysA cB cI cJ cZ cS) as 0 (wJ cB cI cJ cZ cS a b s) [(0, .ref (a 36)), (1, .ref (b 0))] [] (fun x u => x = r ∧ u = (wJ cB cI cJ cZ cS a b s')) := by
  intro p e s0 m below meth c A E H locs ls hP hD hS hl
  obtain ⟨C, hr, hlocks, hA, hK, hN⟩ := id E
  obtain ⟨hx, hb, hml, hown, hts⟩ := id C
  unfold kX2_fillNear at hB
  refine lv_aload_n hx hb dX2_fillNear_0 rfl (lv_at hl 0 rfl) ?_
  refine lv_aload_n hx hb dX2_fillNear_1 rfl (lv_at hl 1 rfl) ?_
  refine lv_aload_n hx hb dX2_fillNear_2 rfl (lv_at hl 0 rfl) ?_
  refine q_get (v := .ref (a 37)) C inX2_fillNear_X2 hK hP 42 rfl rfl 2 (by decide) rfl LX2_fillNear_9 rfl dX2_fillNear_3 ?_
  refine lv_iconst (v := 0) hx hb dX2_fillNear_6 (by decide) ?_
  refine lv_iconst (v := 3) hx hb dX2_fillNear_7 (by decide) ?_
  refine lv_aload_n hx hb dX2_fillNear_8 rfl (lv_at hl 0 rfl) ?_
  refine q_get (v := .ref (a 2)) C inX2_fillNear_X2 hK hP 42 rfl rfl 0 (by decide) rfl LX2_fillNear_24 rfl dX2_fillNear_9 ?_
  refine q_getN (v := .int (s.k.v 1)) C hN inX2_fillNear_X5 hK hP 8 rfl rfl 6 (by decide) rfl nwF_X2_44 rfl dX2_fillNear_12 ?_
  refine va_mmin hx hb (hml.trans hl.1.symm) hown (hts _ LX2_fillNear_M87) (hts _ LX2_fillNear_MSmin) (hts _ LX2_fillNear_MI) (hts _ LX2_fillNear_MCmin) (Nat.le_of_ble_eq_true rfl) (Nat.le_of_ble_eq_true rfl) (Nat.zero_le _) (Nat.zero_le _) dX2_fillNear_15 ?_
  refine q_top (y := (mmin 3 (s.k.v 1))) rfl ?_
  obtain ⟨q_, s1, hc, hB⟩ := bindI_inv hB
  refine q_goiF (va_runV (As := [.ref (b 0), .ref (a 37), .int 0, .int (mmin 3 (s.k.v 1))]) (rest := []) C (ckX2_fillRow_near hc _) (cwV 4 hts gX2_fillNear_X2_fillRow rfl rfl rfl (by decide +kernel) ⟨Nat.le_of_ble_eq_true rfl, Nat.le_of_ble_eq_true rfl⟩) (q_preV hK hP (ci := 2) (q0 := 42) rfl rfl rfl (q_preF hN hK hP hD)) rfl rfl hl.1 rfl (lv_room (Nat.le_of_ble_eq_true rfl)) dX2_fillNear_18 ⟨Nat.le_of_ble_eq_true rfl, Nat.le_of_ble_eq_true rfl⟩) hD hS hA (fun r2 w1 H locs hw hP hD hS => ?_)
  obtain ⟨hq_, hw⟩ := hw; subst hw; subst hq_
  exact q_iret C hr hlocks hK hP hD hS (Nat.le_of_ble_eq_true rfl) (Nat.le_of_ble_eq_true rfl) dX2_fillNear_21 (by cases hB; exact ⟨rfl, rfl⟩)
theorem ckX2_fillNear {l : Launch} {dC : Nat → ClassId} {dI : Nat → Nat → Nat} {cB cI cJ cZ cS : ClassId} {a b : Nat → Nat} {r : Int32} {s' : JS} {s : JS} (hB : kX2_fillNear s = some (r, s')) : CI l yX2_fillNear wsX2_fillNear ({ frames := 3, cells := 0, slots := 0, locals := 74 }) (dC, dI) (tysA cB cI cJ cZ cS) (wJ cB cI cJ cZ cS a b s) [.ref (a 36), .ref (b 0)] (fun x u => x = r ∧ u = (wJ cB cI cJ cZ cS a b s')) :=
  CI_of (cc := cX2_fillNear) (maxL := 2) (ret := (some .int)) (by decide) rfl (Nat.le_of_ble_eq_true rfl) (bkX2_fillNear _ hB)
theorem LX2_fillFar_15 : Cond.fieldLink RX2 15 "GuessFerry$Outlook" "far" "[I" ∈ wsX2_fillFar := (List.mem_cons_of_mem _ (List.mem_append_left _ (List.mem_append_left _ (List.mem_append_left _ (List.mem_append_left _ (List.mem_append_left _ (List.mem_of_getElem? (i := 0) rfl)))))))
theorem LX2_fillFar_24 : Cond.fieldLink RX2 24 "GuessFerry$Outlook" "sound" "LGuessFerry$Sound;" ∈ wsX2_fillFar := (List.mem_cons_of_mem _ (List.mem_append_left _ (List.mem_append_left _ (List.mem_append_left _ (List.mem_append_left _ (List.mem_append_left _ (List.mem_of_getElem? (i := 1) rfl)))))))
theorem inX2_fillFar_X2 : ∀ w ∈ u_ws RX2 TX2 6, w ∈ wsX2_fillFar := fun w h => (List.mem_cons_of_mem _ (List.mem_append_left _ (List.mem_append_left _ (List.mem_append_left _ (List.mem_append_right _ h)))))
theorem inX2_fillFar_X5 : ∀ w ∈ u_ws RX5 TX5 10, w ∈ wsX2_fillFar := fun w h => (List.mem_cons_of_mem _ (List.mem_append_left _ (List.mem_append_left _ (List.mem_append_right _ h))))
set_option maxHeartbeats 4000000 in
set_option maxRecDepth 100000 in
theorem bkX2_fillFar {l : Launch} {dC : Nat → ClassId} {dI : Nat → Nat → Nat} {cB cI cJ cZ cS : ClassId} {a b : Nat → Nat} {as : List Value} {r : Int32} {s' : JS} (s : JS) (hB : kX2_fillFar s = some (r, s')) : BlkI l yX2_fillFar wsX2_fillFar ({ frames := 3, cells := 0, slots := 0, locals := 74 }) cX2_fillFar 2 (some .int) (dC, dI) (tysA cB cI cJ cZ cS) as 0 (wJ cB cI cJ cZ cS a b s) [(0, .ref (a 36)), (1, .ref (b 0))] [] (fun x u => x = r ∧ u = (wJ cB cI cJ cZ cS a b s')) := by
  intro p e s0 m below meth c A E H locs ls hP hD hS hl
  obtain ⟨C, hr, hlocks, hA, hK, hN⟩ := id E
  obtain ⟨hx, hb, hml, hown, hts⟩ := id C
  unfold kX2_fillFar at hB
  refine lv_aload_n hx hb dX2_fillFar_0 rfl (lv_at hl 0 rfl) ?_
  refine lv_aload_n hx hb dX2_fillFar_1 rfl (lv_at hl 1 rfl) ?_
  refine lv_aload_n hx hb dX2_fillFar_2 rfl (lv_at hl 0 rfl) ?_
  refine q_get (v := .ref (a 38)) C inX2_fillFar_X2 hK hP 42 rfl rfl 3 (by decide) rfl LX2_fillFar_15 rfl dX2_fillFar_3 ?_
  refine lv_iconst (v := 3) hx hb dX2_fillFar_6 (by decide) ?_
  refine lv_aload_n hx hb dX2_fillFar_7 rfl (lv_at hl 0 rfl) ?_
  refine q_get (v := .ref (a 2)) C inX2_fillFar_X2 hK hP 42 rfl rfl 0 (by decide) rfl LX2_fillFar_24 rfl dX2_fillFar_8 ?_
  refine q_getN (v := .int (s.k.v 1)) C hN inX2_fillFar_X5 hK hP 8 rfl rfl 6 (by decide) rfl nwF_X2_44 rfl dX2_fillFar_11 ?_
  obtain ⟨q_, s1, hc, hB⟩ := bindI_inv hB
  refine q_goiF (va_runV (As := [.ref (b 0), .ref (a 38), .int 3, .int (s.k.v 1)]) (rest := []) C (ckX2_fillRow_far hc _) (cwV 4 hts gX2_fillFar_X2_fillRow rfl rfl rfl (by decide +kernel) ⟨Nat.le_of_ble_eq_true rfl, Nat.le_of_ble_eq_true rfl⟩) (q_preV hK hP (ci := 2) (q0 := 42) rfl rfl rfl (q_preF hN hK hP hD)) rfl rfl hl.1 rfl (lv_room (Nat.le_of_ble_eq_true rfl)) dX2_fillFar_14 ⟨Nat.le_of_ble_eq_true rfl, Nat.le_of_ble_eq_true rfl⟩) hD hS hA (fun r2 w1 H locs hw hP hD hS => ?_)
  obtain ⟨hq_, hw⟩ := hw; subst hw; subst hq_
  exact q_iret C hr hlocks hK hP hD hS (Nat.le_of_ble_eq_true rfl) (Nat.le_of_ble_eq_true rfl) dX2_fillFar_17 (by cases hB; exact ⟨rfl, rfl⟩)
theorem ckX2_fillFar {l : Launch} {dC : Nat → ClassId} {dI : Nat → Nat → Nat} {cB cI cJ cZ cS : ClassId} {a b : Nat → Nat} {r : Int32} {s' : JS} {s : JS} (hB : kX2_fillFar s = some (r, s')) : CI l yX2_fillFar wsX2_fillFar ({ frames := 3, cells := 0, slots := 0, locals := 74 }) (dC, dI) (tysA cB cI cJ cZ cS) (wJ cB cI cJ cZ cS a b s) [.ref (a 36), .ref (b 0)] (fun x u => x = r ∧ u = (wJ cB cI cJ cZ cS a b s')) :=
  CI_of (cc := cX2_fillFar) (maxL := 2) (ret := (some .int)) (by decide) rfl (Nat.le_of_ble_eq_true rfl) (bkX2_fillFar _ hB)
theorem LX2_casesAheadOf_15 : Cond.fieldLink RX2 15 "GuessFerry$Outlook" "far" "[I" ∈ wsX2_casesAheadOf := (List.mem_cons_of_mem _ (List.mem_append_left _ (List.mem_append_left _ (List.mem_append_left _ (List.mem_append_left _ (List.mem_append_left _ (List.mem_of_getElem? (i := 0) rfl)))))))
theorem LX2_casesAheadOf_9 : Cond.fieldLink RX2 9 "GuessFerry$Outlook" "near" "[I" ∈ wsX2_casesAheadOf := (List.mem_cons_of_mem _ (List.mem_append_left _ (List.mem_append_left _ (List.mem_append_left _ (List.mem_append_left _ (List.mem_append_left _ (List.mem_of_getElem? (i := 1) rfl)))))))
theorem inX2_casesAheadOf_X2 : ∀ w ∈ u_ws RX2 TX2 6, w ∈ wsX2_casesAheadOf := fun w h => (List.mem_cons_of_mem _ (List.mem_append_left _ (List.mem_append_left _ (List.mem_append_left _ (List.mem_append_right _ h)))))
set_option maxHeartbeats 4000000 in
set_option maxRecDepth 100000 in
theorem bkX2_casesAheadOf_78 {l : Launch} {dC : Nat → ClassId} {dI : Nat → Nat → Nat} {cB cI cJ cZ cS : ClassId} {a b : Nat → Nat} {as : List Value} {r : Int32} {s' : JS} {k23 : JS → Int32 → Int32 → Int32 → Int32 → Int32 → Int32 → Int32 → Option (Int32 × JS)} {k33 : JS → Int32 → Int32 → Int32 → Int32 → Int32 → Int32 → Int32 → Int32 → Option (Int32 × JS)} (hk23 : ∀ (s : JS) (x2 : Int32) (x3 : Int32) (x4 : Int32) (x5 : Int32) (x6 : Int32) (x7 : Int32) (x8 : Int32), k23 s x2 x3 x4 x5 x6 x7 x8 = some (r, s') → BlkI l yX2_casesAheadOf wsX2_casesAheadOf ({ frames := 4, cells := 0, slots := 0, locals := 95 }) cX2_casesAheadOf 11 (some .int) (dC, dI) (tysA cB cI cJ cZ cS) as 23 (wJ cB cI cJ cZ cS a b s) [(0, .ref (a 36)), (2, .int x2), (3, .int x3), (4, .int x4), (5, .int x5), (6, .int x6), (7, .int x7), (8, .int x8)] [] (fun x u => x = r ∧ u = (wJ cB cI cJ cZ cS a b s'))) (hk33 : ∀ (s : JS) (x2 : Int32) (x3 : Int32) (x4 : Int32) (x5 : Int32) (x6 : Int32) (x7 : Int32) (x8 : Int32) (x9 : Int32), k33 s x2 x3 x4 x5 x6 x7 x8 x9 = some (r, s') → BlkI l yX2_casesAheadOf wsX2_casesAheadOf ({ frames := 4, cells := 0, slots := 0, locals := 95 }) cX2_casesAheadOf 11 (some .int) (dC, dI) (tysA cB cI cJ cZ cS) as 33 (wJ cB cI cJ cZ cS a b s) [(0, .ref (a 36)), (2, .int x2), (3, .int x3), (4, .int x4), (5, .int x5), (6, .int x6), (7, .int x7), (8, .int x8), (9, .int x9)] [] (fun x u => x = r ∧ u = (wJ cB cI cJ cZ cS a b s'))) (s : JS) (x2 : Int32) (x3 : Int32) (x4 : Int32) (x5 : Int32) (x6 : Int32) (x7 : Int32) (x8 : Int32) (x9 : Int32) (hB : kX2_casesAheadOf_78 k23 k33 s x2 x3 x4 x5 x6 x7 x8 x9 = some (r, s')) : BlkI l yX2_casesAheadOf wsX2_casesAheadOf ({ frames := 4, cells := 0, slots := 0, locals := 95 }) cX2_casesAheadOf 11 (some .int) (dC, dI) (tysA cB cI cJ cZ cS) as 78 (wJ cB cI cJ cZ cS a b s) [(0, .ref (a 36)), (2, .int x2), (3, .int x3), (4, .int x4), (5, .int x5), (6, .int x6), (7, .int x7), (8, .int x8), (9, .int x9)] [] (fun x u => x = r ∧ u = (wJ cB cI cJ cZ cS a b s')) := by
  intro p e s0 m below meth c A E H locs ls hP hD hS hl
  obtain ⟨C, hr, hlocks, hA, hK, hN⟩ := id E
  obtain ⟨hx, hb, hml, hown, hts⟩ := id C
  unfold kX2_casesAheadOf_78 at hB
  refine lv_iinc (v := (x7 + 1)) (lv' := [(7, .int (x7 + 1)), (0, .ref (a 36)), (2, .int x2), (3, .int x3), (4, .int x4), (5, .int x5), (6, .int x6), (8, .int x8), (9, .int x9)]) hx hb dX2_casesAheadOf_78 hl (k := 6) rfl (rfl) (by decide) rfl (fun ls hl => ?_)
  refine lv_iinc (v := (x9 + 1)) (lv' := [(9, .int (x9 + 1)), (7, .int (x7 + 1)), (0, .ref (a 36)), (2, .int x2), (3, .int x3), (4, .int x4), (5, .int x5), (6, .int x6), (8, .int x8)]) hx hb dX2_casesAheadOf_81 hl (k := 8) rfl (rfl) (by decide) rfl (fun ls hl => ?_)
  refine lv_goto (tgt := 33) hx hb dX2_casesAheadOf_84 (by decide) ?_
  exact hk33 _ _ _ _ _ _ _ _ _ hB p e s0 m below meth c A E H locs ls hP hD hS (lv_sub hl [2, 3, 4, 5, 6, 7, 1, 8, 0] rfl)
set_option maxHeartbeats 4000000 in
set_option maxRecDepth 100000 in
theorem bkX2_casesAheadOf_75 {l : Launch} {dC : Nat → ClassId} {dI : Nat → Nat → Nat} {cB cI cJ cZ cS : ClassId} {a b : Nat → Nat} {as : List Value} {r : Int32} {s' : JS} {k23 : JS → Int32 → Int32 → Int32 → Int32 → Int32 → Int32 → Int32 → Option (Int32 × JS)} {k33 : JS → Int32 → Int32 → Int32 → Int32 → Int32 → Int32 → Int32 → Int32 → Option (Int32 × JS)} (hk23 : ∀ (s : JS) (x2 : Int32) (x3 : Int32) (x4 : Int32) (x5 : Int32) (x6 : Int32) (x7 : Int32) (x8 : Int32), k23 s x2 x3 x4 x5 x6 x7 x8 = some (r, s') → BlkI l yX2_casesAheadOf wsX2_casesAheadOf ({ frames := 4, cells := 0, slots := 0, locals := 95 }) cX2_casesAheadOf 11 (some .int) (dC, dI) (tysA cB cI cJ cZ cS) as 23 (wJ cB cI cJ cZ cS a b s) [(0, .ref (a 36)), (2, .int x2), (3, .int x3), (4, .int x4), (5, .int x5), (6, .int x6), (7, .int x7), (8, .int x8)] [] (fun x u => x = r ∧ u = (wJ cB cI cJ cZ cS a b s'))) (hk33 : ∀ (s : JS) (x2 : Int32) (x3 : Int32) (x4 : Int32) (x5 : Int32) (x6 : Int32) (x7 : Int32) (x8 : Int32) (x9 : Int32), k33 s x2 x3 x4 x5 x6 x7 x8 x9 = some (r, s') → BlkI l yX2_casesAheadOf wsX2_casesAheadOf ({ frames := 4, cells := 0, slots := 0, locals := 95 }) cX2_casesAheadOf 11 (some .int) (dC, dI) (tysA cB cI cJ cZ cS) as 33 (wJ cB cI cJ cZ cS a b s) [(0, .ref (a 36)), (2, .int x2), (3, .int x3), (4, .int x4), (5, .int x5), (6, .int x6), (7, .int x7), (8, .int x8), (9, .int x9)] [] (fun x u => x = r ∧ u = (wJ cB cI cJ cZ cS a b s'))) (s : JS) (x2 : Int32) (x3 : Int32) (x4 : Int32) (x5 : Int32) (x6 : Int32) (x7 : Int32) (x8 : Int32) (x9 : Int32) (hB : kX2_casesAheadOf_75 k23 k33 s x2 x3 x4 x5 x6 x7 x8 x9 = some (r, s')) : BlkI l yX2_casesAheadOf wsX2_casesAheadOf ({ frames := 4, cells := 0, slots := 0, locals := 95 }) cX2_casesAheadOf 11 (some .int) (dC, dI) (tysA cB cI cJ cZ cS) as 75 (wJ cB cI cJ cZ cS a b s) [(0, .ref (a 36)), (2, .int x2), (3, .int x3), (4, .int x4), (5, .int x5), (6, .int x6), (7, .int x7), (8, .int x8), (9, .int x9)] [] (fun x u => x = r ∧ u = (wJ cB cI cJ cZ cS a b s')) := by
  intro p e s0 m below meth c A E H locs ls hP hD hS hl
  obtain ⟨C, hr, hlocks, hA, hK, hN⟩ := id E
  obtain ⟨hx, hb, hml, hown, hts⟩ := id C
  unfold kX2_casesAheadOf_75 at hB
  refine lv_iinc (v := (x6 + 1)) (lv' := [(6, .int (x6 + 1)), (0, .ref (a 36)), (2, .int x2), (3, .int x3), (4, .int x4), (5, .int x5), (7, .int x7), (8, .int x8), (9, .int x9)]) hx hb dX2_casesAheadOf_75 hl (k := 5) rfl (rfl) (by decide) rfl (fun ls hl => ?_)
  exact bkX2_casesAheadOf_78 (hk23) (hk33) _ _ _ _ _ _ _ _ _ hB p e s0 m below meth c A E H locs ls hP hD hS (lv_sub hl [1, 2, 3, 4, 5, 0, 6, 7, 8] rfl)
set_option maxHeartbeats 4000000 in
set_option maxRecDepth 100000 in
theorem bkX2_casesAheadOf_33 {l : Launch} {dC : Nat → ClassId} {dI : Nat → Nat → Nat} {cB cI cJ cZ cS : ClassId} {a b : Nat → Nat} {as : List Value} {r : Int32} {s' : JS} {k23 : JS → Int32 → Int32 → Int32 → Int32 → Int32 → Int32 → Int32 → Option (Int32 × JS)} {k33 : JS → Int32 → Int32 → Int32 → Int32 → Int32 → Int32 → Int32 → Int32 → Option (Int32 × JS)} (hk23 : ∀ (s : JS) (x2 : Int32) (x3 : Int32) (x4 : Int32) (x5 : Int32) (x6 : Int32) (x7 : Int32) (x8 : Int32), k23 s x2 x3 x4 x5 x6 x7 x8 = some (r, s') → BlkI l yX2_casesAheadOf wsX2_casesAheadOf ({ frames := 4, cells := 0, slots := 0, locals := 95 }) cX2_casesAheadOf 11 (some .int) (dC, dI) (tysA cB cI cJ cZ cS) as 23 (wJ cB cI cJ cZ cS a b s) [(0, .ref (a 36)), (2, .int x2), (3, .int x3), (4, .int x4), (5, .int x5), (6, .int x6), (7, .int x7), (8, .int x8)] [] (fun x u => x = r ∧ u = (wJ cB cI cJ cZ cS a b s'))) (hk33 : ∀ (s : JS) (x2 : Int32) (x3 : Int32) (x4 : Int32) (x5 : Int32) (x6 : Int32) (x7 : Int32) (x8 : Int32) (x9 : Int32), k33 s x2 x3 x4 x5 x6 x7 x8 x9 = some (r, s') → BlkI l yX2_casesAheadOf wsX2_casesAheadOf ({ frames := 4, cells := 0, slots := 0, locals := 95 }) cX2_casesAheadOf 11 (some .int) (dC, dI) (tysA cB cI cJ cZ cS) as 33 (wJ cB cI cJ cZ cS a b s) [(0, .ref (a 36)), (2, .int x2), (3, .int x3), (4, .int x4), (5, .int x5), (6, .int x6), (7, .int x7), (8, .int x8), (9, .int x9)] [] (fun x u => x = r ∧ u = (wJ cB cI cJ cZ cS a b s'))) (s : JS) (x2 : Int32) (x3 : Int32) (x4 : Int32) (x5 : Int32) (x6 : Int32) (x7 : Int32) (x8 : Int32) (x9 : Int32) (hB : kX2_casesAheadOf_33 k23 k33 s x2 x3 x4 x5 x6 x7 x8 x9 = some (r, s')) : BlkI l yX2_casesAheadOf wsX2_casesAheadOf ({ frames := 4, cells := 0, slots := 0, locals := 95 }) cX2_casesAheadOf 11 (some .int) (dC, dI) (tysA cB cI cJ cZ cS) as 33 (wJ cB cI cJ cZ cS a b s) [(0, .ref (a 36)), (2, .int x2), (3, .int x3), (4, .int x4), (5, .int x5), (6, .int x6), (7, .int x7), (8, .int x8), (9, .int x9)] [] (fun x u => x = r ∧ u = (wJ cB cI cJ cZ cS a b s')) := by
  intro p e s0 m below meth c A E H locs ls hP hD hS hl
  obtain ⟨C, hr, hlocks, hA, hK, hN⟩ := id E
  obtain ⟨hx, hb, hml, hown, hts⟩ := id C
  unfold kX2_casesAheadOf_33 at hB
  refine lv_iload hx hb dX2_casesAheadOf_33 (lv_at hl 8 rfl) ?_
  refine lv_iload hx hb dX2_casesAheadOf_35 (lv_at hl 3 rfl) ?_
  refine lv_icmp_ge (tgt := 87) hx hb dX2_casesAheadOf_37 (by decide) (fun c1 => ?_) (fun c1 => ?_)
  · have hB := if_p hB c1
    refine lv_iinc (v := (x8 + 1)) (lv' := [(8, .int (x8 + 1)), (0, .ref (a 36)), (2, .int x2), (3, .int x3), (4, .int x4), (5, .int x5), (6, .int x6), (7, .int x7), (9, .int x9)]) hx hb dX2_casesAheadOf_87 hl (k := 7) rfl (rfl) (by decide) rfl (fun ls hl => ?_)
    refine lv_goto (tgt := 23) hx hb dX2_casesAheadOf_90 (by decide) ?_
    exact hk23 _ _ _ _ _ _ _ _ hB p e s0 m below meth c A E H locs ls hP hD hS (lv_sub hl [1, 2, 3, 4, 5, 6, 7, 0] rfl)
  · have hB := if_n hB c1
    refine lv_aload_n hx hb dX2_casesAheadOf_40 rfl (lv_at hl 0 rfl) ?_
    refine q_get (v := .ref (a 38)) C inX2_casesAheadOf_X2 hK hP 42 rfl rfl 3 (by decide) rfl LX2_casesAheadOf_15 rfl dX2_casesAheadOf_41 ?_
    refine lv_iload hx hb dX2_casesAheadOf_44 (lv_at hl 7 rfl) ?_
    obtain ⟨g2, hB⟩ := guard_inv hB
    refine q_iald (x := ((s.k.f 38) (Int32.toNatClampNeg x8))) C hK hP 44 1 rfl rfl (vpb_in g2) dX2_casesAheadOf_46 rfl ?_
    refine lv_aload_n hx hb dX2_casesAheadOf_47 rfl (lv_at hl 0 rfl) ?_
    refine q_get (v := .ref (a 37)) C inX2_casesAheadOf_X2 hK hP 42 rfl rfl 2 (by decide) rfl LX2_casesAheadOf_9 rfl dX2_casesAheadOf_48 ?_
    refine lv_iload hx hb dX2_casesAheadOf_51 (lv_at hl 8 rfl) ?_
    obtain ⟨g3, hB⟩ := guard_inv hB
    refine q_iald (x := ((s.k.f 37) (Int32.toNatClampNeg x9))) C hK hP 43 1 rfl rfl (vpb_in g3) dX2_casesAheadOf_53 rfl ?_
    refine lv_imul hx hb dX2_casesAheadOf_54 ?_
    refine lv_istore (lv' := [(10, .int (((s.k.f 38) (Int32.toNatClampNeg x8)) * ((s.k.f 37) (Int32.toNatClampNeg x9)))), (0, .ref (a 36)), (2, .int x2), (3, .int x3), (4, .int x4), (5, .int x5), (6, .int x6), (7, .int x7), (8, .int x8), (9, .int x9)]) hx hb dX2_casesAheadOf_55 hl (by decide) rfl (fun ls hl => ?_)
    refine lv_iload hx hb dX2_casesAheadOf_57 (lv_at hl 0 rfl) ?_
    refine lv_iload_n hx hb dX2_casesAheadOf_59 rfl (lv_at hl 3 rfl) ?_
    refine lv_icmp_gt (tgt := 75) hx hb dX2_casesAheadOf_60 (by decide) (fun c4 => ?_) (fun c4 => ?_)
    · have hB := if_p hB c4
      exact bkX2_casesAheadOf_75 (hk23) (hk33) _ _ _ _ _ _ _ _ _ hB p e s0 m below meth c A E H locs ls hP hD hS (lv_sub hl [1, 2, 3, 4, 5, 6, 7, 8, 9] rfl)
    · have hB := if_n hB c4
      refine lv_iload hx hb dX2_casesAheadOf_63 (lv_at hl 0 rfl) ?_
      refine lv_iload_n hx hb dX2_casesAheadOf_65 rfl (lv_at hl 3 rfl) ?_
      refine lv_icmp_ne (tgt := 78) hx hb dX2_casesAheadOf_66 (by decide) (fun c5 => ?_) (fun c5 => ?_)
      · have hB := if_n hB c5
        exact bkX2_casesAheadOf_78 (hk23) (hk33) _ _ _ _ _ _ _ _ _ hB p e s0 m below meth c A E H locs ls hP hD hS (lv_sub hl [1, 2, 3, 4, 5, 6, 7, 8, 9] rfl)
      · have hB := if_p hB c5
        refine lv_iload hx hb dX2_casesAheadOf_69 (lv_at hl 7 rfl) ?_
        refine lv_iload_n hx hb dX2_casesAheadOf_71 rfl (lv_at hl 2 rfl) ?_
        refine lv_icmp_ge (tgt := 78) hx hb dX2_casesAheadOf_72 (by decide) (fun c6 => ?_) (fun c6 => ?_)
        · have hB := if_p hB c6
          exact bkX2_casesAheadOf_78 (hk23) (hk33) _ _ _ _ _ _ _ _ _ hB p e s0 m below meth c A E H locs ls hP hD hS (lv_sub hl [1, 2, 3, 4, 5, 6, 7, 8, 9] rfl)
        · have hB := if_n hB c6
          exact bkX2_casesAheadOf_75 (hk23) (hk33) _ _ _ _ _ _ _ _ _ hB p e s0 m below meth c A E H locs ls hP hD hS (lv_sub hl [1, 2, 3, 4, 5, 6, 7, 8, 9] rfl)
theorem bkX2_casesAheadOf_33L {l : Launch} {dC : Nat → ClassId} {dI : Nat → Nat → Nat} {cB cI cJ cZ cS : ClassId} {a b : Nat → Nat} {as : List Value} {r : Int32} {s' : JS} {k23 : JS → Int32 → Int32 → Int32 → Int32 → Int32 → Int32 → Int32 → Option (Int32 × JS)} (hk23 : ∀ (s : JS) (x2 : Int32) (x3 : Int32) (x4 : Int32) (x5 : Int32) (x6 : Int32) (x7 : Int32) (x8 : Int32), k23 s x2 x3 x4 x5 x6 x7 x8 = some (r, s') → BlkI l yX2_casesAheadOf wsX2_casesAheadOf ({ frames := 4, cells := 0, slots := 0, locals := 95 }) cX2_casesAheadOf 11 (some .int) (dC, dI) (tysA cB cI cJ cZ cS) as 23 (wJ cB cI cJ cZ cS a b s) [(0, .ref (a 36)), (2, .int x2), (3, .int x3), (4, .int x4), (5, .int x5), (6, .int x6), (7, .int x7), (8, .int x8)] [] (fun x u => x = r ∧ u = (wJ cB cI cJ cZ cS a b s'))) : ∀ (n : Nat) (s : JS) (x2 : Int32) (x3 : Int32) (x4 : Int32) (x5 : Int32) (x6 : Int32) (x7 : Int32) (x8 : Int32) (x9 : Int32), kX2_casesAheadOf_33L k23 n s x2 x3 x4 x5 x6 x7 x8 x9 = some (r, s') → BlkI l yX2_casesAheadOf wsX2_casesAheadOf ({ frames := 4, cells := 0, slots := 0, locals := 95 }) cX2_casesAheadOf 11 (some .int) (dC, dI) (tysA cB cI cJ cZ cS) as 33 (wJ cB cI cJ cZ cS a b s) [(0, .ref (a 36)), (2, .int x2), (3, .int x3), (4, .int x4), (5, .int x5), (6, .int x6), (7, .int x7), (8, .int x8), (9, .int x9)] [] (fun x u => x = r ∧ u = (wJ cB cI cJ cZ cS a b s')) := by
  intro n
  induction n with
  | zero => intro s x2 x3 x4 x5 x6 x7 x8 x9 hB; exact none_ne hB
  | succ n ih => intro s x2 x3 x4 x5 x6 x7 x8 x9 hB; exact bkX2_casesAheadOf_33 hk23 ih _ _ _ _ _ _ _ _ _ hB
set_option maxHeartbeats 4000000 in
set_option maxRecDepth 100000 in
theorem bkX2_casesAheadOf_23 {l : Launch} {dC : Nat → ClassId} {dI : Nat → Nat → Nat} {cB cI cJ cZ cS : ClassId} {a b : Nat → Nat} {as : List Value} {r : Int32} {s' : JS} {k23 : JS → Int32 → Int32 → Int32 → Int32 → Int32 → Int32 → Int32 → Option (Int32 × JS)} (hk23 : ∀ (s : JS) (x2 : Int32) (x3 : Int32) (x4 : Int32) (x5 : Int32) (x6 : Int32) (x7 : Int32) (x8 : Int32), k23 s x2 x3 x4 x5 x6 x7 x8 = some (r, s') → BlkI l yX2_casesAheadOf wsX2_casesAheadOf ({ frames := 4, cells := 0, slots := 0, locals := 95 }) cX2_casesAheadOf 11 (some .int) (dC, dI) (tysA cB cI cJ cZ cS) as 23 (wJ cB cI cJ cZ cS a b s) [(0, .ref (a 36)), (2, .int x2), (3, .int x3), (4, .int x4), (5, .int x5), (6, .int x6), (7, .int x7), (8, .int x8)] [] (fun x u => x = r ∧ u = (wJ cB cI cJ cZ cS a b s'))) (s : JS) (x2 : Int32) (x3 : Int32) (x4 : Int32) (x5 : Int32) (x6 : Int32) (x7 : Int32) (x8 : Int32) (hB : kX2_casesAheadOf_23 k23 s x2 x3 x4 x5 x6 x7 x8 = some (r, s')) : BlkI l yX2_casesAheadOf wsX2_casesAheadOf ({ frames := 4, cells := 0, slots := 0, locals := 95 }) cX2_casesAheadOf 11 (some .int) (dC, dI) (tysA cB cI cJ cZ cS) as 23 (wJ cB cI cJ cZ cS a b s) [(0, .ref (a 36)), (2, .int x2), (3, .int x3), (4, .int x4), (5, .int x5), (6, .int x6), (7, .int x7), (8, .int x8)] [] (fun x u => x = r ∧ u = (wJ cB cI cJ cZ cS a b s')) := by
  intro p e s0 m below meth c A E H locs ls hP hD hS hl
  obtain ⟨C, hr, hlocks, hA, hK, hN⟩ := id E
  obtain ⟨hx, hb, hml, hown, hts⟩ := id C
  unfold kX2_casesAheadOf_23 at hB
  refine lv_iload hx hb dX2_casesAheadOf_23 (lv_at hl 7 rfl) ?_
  refine lv_iload hx hb dX2_casesAheadOf_25 (lv_at hl 4 rfl) ?_
  refine lv_icmp_ge (tgt := 93) hx hb dX2_casesAheadOf_27 (by decide) (fun c1 => ?_) (fun c1 => ?_)
  · have hB := if_p hB c1
    refine lv_iload hx hb dX2_casesAheadOf_93 (lv_at hl 5 rfl) ?_
    exact q_iret C hr hlocks hK hP hD hS (Nat.le_of_ble_eq_true rfl) (Nat.le_of_ble_eq_true rfl) dX2_casesAheadOf_95 (by cases hB; exact ⟨rfl, rfl⟩)
  · have hB := if_n hB c1
    refine lv_iconst (v := 0) hx hb dX2_casesAheadOf_30 (by decide) ?_
    refine lv_istore (lv' := [(9, .int 0), (0, .ref (a 36)), (2, .int x2), (3, .int x3), (4, .int x4), (5, .int x5), (6, .int x6), (7, .int x7), (8, .int x8)]) hx hb dX2_casesAheadOf_31 hl (by decide) rfl (fun ls hl => ?_)
    exact bkX2_casesAheadOf_33L (hk23) fu _ _ _ _ _ _ _ _ _ hB p e s0 m below meth c A E H locs ls hP hD hS (lv_sub hl [1, 2, 3, 4, 5, 6, 7, 8, 0] rfl)
theorem bkX2_casesAheadOf_23L {l : Launch} {dC : Nat → ClassId} {dI : Nat → Nat → Nat} {cB cI cJ cZ cS : ClassId} {a b : Nat → Nat} {as : List Value} {r : Int32} {s' : JS} : ∀ (n : Nat) (s : JS) (x2 : Int32) (x3 : Int32) (x4 : Int32) (x5 : Int32) (x6 : Int32) (x7 : Int32) (x8 : Int32), kX2_casesAheadOf_23L n s x2 x3 x4 x5 x6 x7 x8 = some (r, s') → BlkI l yX2_casesAheadOf wsX2_casesAheadOf ({ frames := 4, cells := 0, slots := 0, locals := 95 }) cX2_casesAheadOf 11 (some .int) (dC, dI) (tysA cB cI cJ cZ cS) as 23 (wJ cB cI cJ cZ cS a b s) [(0, .ref (a 36)), (2, .int x2), (3, .int x3), (4, .int x4), (5, .int x5), (6, .int x6), (7, .int x7), (8, .int x8)] [] (fun x u => x = r ∧ u = (wJ cB cI cJ cZ cS a b s')) := by
  intro n
  induction n with
  | zero => intro s x2 x3 x4 x5 x6 x7 x8 hB; exact none_ne hB
  | succ n ih => intro s x2 x3 x4 x5 x6 x7 x8 hB; exact bkX2_casesAheadOf_23 ih _ _ _ _ _ _ _ _ hB
set_option maxHeartbeats 4000000 in
set_option maxRecDepth 100000 in
theorem bkX2_casesAheadOf {l : Launch} {dC : Nat → ClassId} {dI : Nat → Nat → Nat} {cB cI cJ cZ cS : ClassId} {a b : Nat → Nat} {as : List Value} {r : Int32} {s' : JS} (s : JS) (x2 : Int32) (x3 : Int32) (hB : kX2_casesAheadOf s x2 x3 = some (r, s')) : BlkI l yX2_casesAheadOf wsX2_casesAheadOf ({ frames := 4, cells := 0, slots := 0, locals := 95 }) cX2_casesAheadOf 11 (some .int) (dC, dI) (tysA cB cI cJ cZ cS) as 0 (wJ cB cI cJ cZ cS a b s) [(0, .ref (a 36)), (1, .ref (b 0)), (2, .int x2), (3, .int x3)] [] (fun x u => x = r ∧ u = (wJ cB cI cJ cZ cS a b s')) := by
  intro p e s0 m below meth c A E H locs ls hP hD hS hl
  obtain ⟨C, hr, hlocks, hA, hK, hN⟩ := id E
  obtain ⟨hx, hb, hml, hown, hts⟩ := id C
  unfold kX2_casesAheadOf at hB
  refine lv_aload_n hx hb dX2_casesAheadOf_0 rfl (lv_at hl 0 rfl) ?_
  refine lv_aload_n hx hb dX2_casesAheadOf_1 rfl (lv_at hl 1 rfl) ?_
  obtain ⟨q_, s1, hc, hB⟩ := bindI_inv hB
  refine q_goiF (va_runV (As := [.ref (b 0)]) (rest := []) C (ckX2_fillNear hc _) (cwV 1 hts gX2_casesAheadOf_X2_fillNear rfl rfl rfl (by decide +kernel) ⟨Nat.le_of_ble_eq_true rfl, Nat.le_of_ble_eq_true rfl⟩) (q_preV hK hP (ci := 2) (q0 := 42) rfl rfl rfl (q_preF hN hK hP hD)) rfl rfl hl.1 rfl (lv_room (Nat.le_of_ble_eq_true rfl)) dX2_casesAheadOf_2 ⟨Nat.le_of_ble_eq_true rfl, Nat.le_of_ble_eq_true rfl⟩) hD hS hA (fun r2 w1 H locs hw hP hD hS => ?_)
  obtain ⟨hq_, hw⟩ := hw; subst hw; subst hq_
  refine lv_istore (lv' := [(4, .int r2), (0, .ref (a 36)), (1, .ref (b 0)), (2, .int x2), (3, .int x3)]) hx hb dX2_casesAheadOf_5 hl (by decide) rfl (fun ls hl => ?_)
  refine lv_aload_n hx hb dX2_casesAheadOf_7 rfl (lv_at hl 1 rfl) ?_
  refine lv_aload_n hx hb dX2_casesAheadOf_8 rfl (lv_at hl 2 rfl) ?_
  obtain ⟨q_, s3, hc, hB⟩ := bindI_inv hB
  refine q_goiF (va_runV (As := [.ref (b 0)]) (rest := []) C (ckX2_fillFar hc _) (cwV 1 hts gX2_casesAheadOf_X2_fillFar rfl rfl rfl (by decide +kernel) ⟨Nat.le_of_ble_eq_true rfl, Nat.le_of_ble_eq_true rfl⟩) (q_preV hK hP (ci := 2) (q0 := 42) rfl rfl rfl (q_preF hN hK hP hD)) rfl rfl hl.1 rfl (lv_room (Nat.le_of_ble_eq_true rfl)) dX2_casesAheadOf_9 ⟨Nat.le_of_ble_eq_true rfl, Nat.le_of_ble_eq_true rfl⟩) hD hS hA (fun r4 w1 H locs hw hP hD hS => ?_)
  obtain ⟨hq_, hw⟩ := hw; subst hw; subst hq_
  refine lv_istore (lv' := [(5, .int r4), (4, .int r2), (0, .ref (a 36)), (1, .ref (b 0)), (2, .int x2), (3, .int x3)]) hx hb dX2_casesAheadOf_12 hl (by decide) rfl (fun ls hl => ?_)
  refine lv_iconst (v := 0) hx hb dX2_casesAheadOf_14 (by decide) ?_
  refine lv_istore (lv' := [(6, .int 0), (5, .int r4), (4, .int r2), (0, .ref (a 36)), (1, .ref (b 0)), (2, .int x2), (3, .int x3)]) hx hb dX2_casesAheadOf_15 hl (by decide) rfl (fun ls hl => ?_)
  refine lv_iconst (v := 0) hx hb dX2_casesAheadOf_17 (by decide) ?_
  refine lv_istore (lv' := [(7, .int 0), (6, .int 0), (5, .int r4), (4, .int r2), (0, .ref (a 36)), (1, .ref (b 0)), (2, .int x2), (3, .int x3)]) hx hb dX2_casesAheadOf_18 hl (by decide) rfl (fun ls hl => ?_)
  refine lv_iconst (v := 0) hx hb dX2_casesAheadOf_20 (by decide) ?_
  refine lv_istore (lv' := [(8, .int 0), (7, .int 0), (6, .int 0), (5, .int r4), (4, .int r2), (0, .ref (a 36)), (1, .ref (b 0)), (2, .int x2), (3, .int x3)]) hx hb dX2_casesAheadOf_21 hl (by decide) rfl (fun ls hl => ?_)
  exact bkX2_casesAheadOf_23L fu _ _ _ _ _ _ _ _ hB p e s0 m below meth c A E H locs ls hP hD hS (lv_sub hl [5, 7, 8, 4, 3, 2, 1, 0] rfl)
theorem ckX2_casesAheadOf {l : Launch} {dC : Nat → ClassId} {dI : Nat → Nat → Nat} {cB cI cJ cZ cS : ClassId} {a b : Nat → Nat} {r : Int32} {s' : JS} {s : JS} {x2 : Int32} {x3 : Int32} (hB : kX2_casesAheadOf s x2 x3 = some (r, s')) : CI l yX2_casesAheadOf wsX2_casesAheadOf ({ frames := 4, cells := 0, slots := 0, locals := 95 }) (dC, dI) (tysA cB cI cJ cZ cS) (wJ cB cI cJ cZ cS a b s) [.ref (a 36), .ref (b 0), .int x2, .int x3] (fun x u => x = r ∧ u = (wJ cB cI cJ cZ cS a b s')) :=
  CI_of (cc := cX2_casesAheadOf) (maxL := 11) (ret := (some .int)) (by decide) rfl (Nat.le_of_ble_eq_true rfl) (bkX2_casesAheadOf _ _ _ hB)
theorem LX2_caseAtRank_15 : Cond.fieldLink RX2 15 "GuessFerry$Outlook" "far" "[I" ∈ wsX2_caseAtRank := (List.mem_cons_of_mem _ (List.mem_append_left _ (List.mem_append_left _ (List.mem_append_left _ (List.mem_append_left _ (List.mem_append_left _ (List.mem_of_getElem? (i := 2) rfl)))))))
theorem LX2_caseAtRank_18 : Cond.fieldLink RX2 18 "GuessFerry$Outlook" "topGuesses" "[I" ∈ wsX2_caseAtRank := (List.mem_cons_of_mem _ (List.mem_append_left _ (List.mem_append_left _ (List.mem_append_left _ (List.mem_append_left _ (List.mem_append_left _ (List.mem_of_getElem? (i := 1) rfl)))))))
theorem LX2_caseAtRank_21 : Cond.fieldLink RX2 21 "GuessFerry$Outlook" "topOdds" "[I" ∈ wsX2_caseAtRank := (List.mem_cons_of_mem _ (List.mem_append_left _ (List.mem_append_left _ (List.mem_append_left _ (List.mem_append_left _ (List.mem_append_left _ (List.mem_of_getElem? (i := 0) rfl)))))))
theorem LX2_caseAtRank_9 : Cond.fieldLink RX2 9 "GuessFerry$Outlook" "near" "[I" ∈ wsX2_caseAtRank := (List.mem_cons_of_mem _ (List.mem_append_left _ (List.mem_append_left _ (List.mem_append_left _ (List.mem_append_left _ (List.mem_append_left _ (List.mem_of_getElem? (i := 3) rfl)))))))
theorem inX2_caseAtRank_X2 : ∀ w ∈ u_ws RX2 TX2 6, w ∈ wsX2_caseAtRank := fun w h => (List.mem_cons_of_mem _ (List.mem_append_left _ (List.mem_append_left _ (List.mem_append_left _ (List.mem_append_right _ h)))))
set_option maxHeartbeats 4000000 in
set_option maxRecDepth 100000 in
theorem bkX2_caseAtRank_88 {l : Launch} {dC : Nat → ClassId} {dI : Nat → Nat → Nat} {cB cI cJ cZ cS : ClassId} {a b : Nat → Nat} {as : List Value} {r : Int32} {s' : JS} {k35 : JS → Int32 → Int32 → Int32 → Int32 → Int32 → Option (Int32 × JS)} {k45 : JS → Int32 → Int32 → Int32 → Int32 → Int32 → Int32 → Option (Int32 × JS)} (hk35 : ∀ (s : JS) (x2 : Int32) (x3 : Int32) (x4 : Int32) (x5 : Int32) (x6 : Int32), k35 s x2 x3 x4 x5 x6 = some (r, s') → BlkI l yX2_caseAtRank wsX2_caseAtRank ({ frames := 4, cells := 0, slots := 0, locals := 95 }) cX2_caseAtRank 9 (some .int) (dC, dI) (tysA cB cI cJ cZ cS) as 35 (wJ cB cI cJ cZ cS a b s) [(0, .ref (a 36)), (2, .int x2), (3, .int x3), (4, .int x4), (5, .int x5), (6, .int x6)] [] (fun x u => x = r ∧ u = (wJ cB cI cJ cZ cS a b s'))) (hk45 : ∀ (s : JS) (x2 : Int32) (x3 : Int32) (x4 : Int32) (x5 : Int32) (x6 : Int32) (x7 : Int32), k45 s x2 x3 x4 x5 x6 x7 = some (r, s') → BlkI l yX2_caseAtRank wsX2_caseAtRank ({ frames := 4, cells := 0, slots := 0, locals := 95 }) cX2_caseAtRank 9 (some .int) (dC, dI) (tysA cB cI cJ cZ cS) as 45 (wJ cB cI cJ cZ cS a b s) [(0, .ref (a 36)), (2, .int x2), (3, .int x3), (4, .int x4), (5, .int x5), (6, .int x6), (7, .int x7)] [] (fun x u => x = r ∧ u = (wJ cB cI cJ cZ cS a b s'))) (s : JS) (x2 : Int32) (x3 : Int32) (x4 : Int32) (x5 : Int32) (x6 : Int32) (x7 : Int32) (hB : kX2_caseAtRank_88 k35 k45 s x2 x3 x4 x5 x6 x7 = some (r, s')) : BlkI l yX2_caseAtRank wsX2_caseAtRank ({ frames := 4, cells := 0, slots := 0, locals := 95 }) cX2_caseAtRank 9 (some .int) (dC, dI) (tysA cB cI cJ cZ cS) as 88 (wJ cB cI cJ cZ cS a b s) [(0, .ref (a 36)), (2, .int x2), (3, .int x3), (4, .int x4), (5, .int x5), (6, .int x6), (7, .int x7)] [] (fun x u => x = r ∧ u = (wJ cB cI cJ cZ cS a b s')) := by
  intro p e s0 m below meth c A E H locs ls hP hD hS hl
  obtain ⟨C, hr, hlocks, hA, hK, hN⟩ := id E
  obtain ⟨hx, hb, hml, hown, hts⟩ := id C
  unfold kX2_caseAtRank_88 at hB
  refine lv_iinc (v := (x5 + 1)) (lv' := [(5, .int (x5 + 1)), (0, .ref (a 36)), (2, .int x2), (3, .int x3), (4, .int x4), (6, .int x6), (7, .int x7)]) hx hb dX2_caseAtRank_88 hl (k := 4) rfl (rfl) (by decide) rfl (fun ls hl => ?_)
  refine lv_iinc (v := (x7 + 1)) (lv' := [(7, .int (x7 + 1)), (5, .int (x5 + 1)), (0, .ref (a 36)), (2, .int x2), (3, .int x3), (4, .int x4), (6, .int x6)]) hx hb dX2_caseAtRank_91 hl (k := 6) rfl (rfl) (by decide) rfl (fun ls hl => ?_)
  refine lv_goto (tgt := 45) hx hb dX2_caseAtRank_94 (by decide) ?_
  exact hk45 _ _ _ _ _ _ _ hB p e s0 m below meth c A E H locs ls hP hD hS (lv_sub hl [2, 3, 4, 5, 1, 6, 0] rfl)
set_option maxHeartbeats 4000000 in
set_option maxRecDepth 100000 in
theorem bkX2_caseAtRank_45 {l : Launch} {dC : Nat → ClassId} {dI : Nat → Nat → Nat} {cB cI cJ cZ cS : ClassId} {a b : Nat → Nat} {as : List Value} {r : Int32} {s' : JS} {k35 : JS → Int32 → Int32 → Int32 → Int32 → Int32 → Option (Int32 × JS)} {k45 : JS → Int32 → Int32 → Int32 → Int32 → Int32 → Int32 → Option (Int32 × JS)} (hk35 : ∀ (s : JS) (x2 : Int32) (x3 : Int32) (x4 : Int32) (x5 : Int32) (x6 : Int32), k35 s x2 x3 x4 x5 x6 = some (r, s') → BlkI l yX2_caseAtRank wsX2_caseAtRank ({ frames := 4, cells := 0, slots := 0, locals := 95 }) cX2_caseAtRank 9 (some .int) (dC, dI) (tysA cB cI cJ cZ cS) as 35 (wJ cB cI cJ cZ cS a b s) [(0, .ref (a 36)), (2, .int x2), (3, .int x3), (4, .int x4), (5, .int x5), (6, .int x6)] [] (fun x u => x = r ∧ u = (wJ cB cI cJ cZ cS a b s'))) (hk45 : ∀ (s : JS) (x2 : Int32) (x3 : Int32) (x4 : Int32) (x5 : Int32) (x6 : Int32) (x7 : Int32), k45 s x2 x3 x4 x5 x6 x7 = some (r, s') → BlkI l yX2_caseAtRank wsX2_caseAtRank ({ frames := 4, cells := 0, slots := 0, locals := 95 }) cX2_caseAtRank 9 (some .int) (dC, dI) (tysA cB cI cJ cZ cS) as 45 (wJ cB cI cJ cZ cS a b s) [(0, .ref (a 36)), (2, .int x2), (3, .int x3), (4, .int x4), (5, .int x5), (6, .int x6), (7, .int x7)] [] (fun x u => x = r ∧ u = (wJ cB cI cJ cZ cS a b s'))) (s : JS) (x2 : Int32) (x3 : Int32) (x4 : Int32) (x5 : Int32) (x6 : Int32) (x7 : Int32) (hB : kX2_caseAtRank_45 k35 k45 s x2 x3 x4 x5 x6 x7 = some (r, s')) : BlkI l yX2_caseAtRank wsX2_caseAtRank ({ frames := 4, cells := 0, slots := 0, locals := 95 }) cX2_caseAtRank 9 (some .int) (dC, dI) (tysA cB cI cJ cZ cS) as 45 (wJ cB cI cJ cZ cS a b s) [(0, .ref (a 36)), (2, .int x2), (3, .int x3), (4, .int x4), (5, .int x5), (6, .int x6), (7, .int x7)] [] (fun x u => x = r ∧ u = (wJ cB cI cJ cZ cS a b s')) := by
  intro p e s0 m below meth c A E H locs ls hP hD hS hl
  obtain ⟨C, hr, hlocks, hA, hK, hN⟩ := id E
  obtain ⟨hx, hb, hml, hown, hts⟩ := id C
  unfold kX2_caseAtRank_45 at hB
  refine lv_iload hx hb dX2_caseAtRank_45 (lv_at hl 6 rfl) ?_
  refine lv_iload_n hx hb dX2_caseAtRank_47 rfl (lv_at hl 2 rfl) ?_
  refine lv_icmp_ge (tgt := 97) hx hb dX2_caseAtRank_48 (by decide) (fun c1 => ?_) (fun c1 => ?_)
  · have hB := if_p hB c1
    refine lv_iinc (v := (x6 + 1)) (lv' := [(6, .int (x6 + 1)), (0, .ref (a 36)), (2, .int x2), (3, .int x3), (4, .int x4), (5, .int x5), (7, .int x7)]) hx hb dX2_caseAtRank_97 hl (k := 5) rfl (rfl) (by decide) rfl (fun ls hl => ?_)
    refine lv_goto (tgt := 35) hx hb dX2_caseAtRank_100 (by decide) ?_
    exact hk35 _ _ _ _ _ _ hB p e s0 m below meth c A E H locs ls hP hD hS (lv_sub hl [1, 2, 3, 4, 5, 0] rfl)
  · have hB := if_n hB c1
    refine lv_aload_n hx hb dX2_caseAtRank_51 rfl (lv_at hl 0 rfl) ?_
    refine q_get (v := .ref (a 38)) C inX2_caseAtRank_X2 hK hP 42 rfl rfl 3 (by decide) rfl LX2_caseAtRank_15 rfl dX2_caseAtRank_52 ?_
    refine lv_iload hx hb dX2_caseAtRank_55 (lv_at hl 5 rfl) ?_
    obtain ⟨g2, hB⟩ := guard_inv hB
    refine q_iald (x := ((s.k.f 38) (Int32.toNatClampNeg x6))) C hK hP 44 1 rfl rfl (vpb_in g2) dX2_caseAtRank_57 rfl ?_
    refine lv_aload_n hx hb dX2_caseAtRank_58 rfl (lv_at hl 0 rfl) ?_
    refine q_get (v := .ref (a 37)) C inX2_caseAtRank_X2 hK hP 42 rfl rfl 2 (by decide) rfl LX2_caseAtRank_9 rfl dX2_caseAtRank_59 ?_
    refine lv_iload hx hb dX2_caseAtRank_62 (lv_at hl 6 rfl) ?_
    obtain ⟨g3, hB⟩ := guard_inv hB
    refine q_iald (x := ((s.k.f 37) (Int32.toNatClampNeg x7))) C hK hP 43 1 rfl rfl (vpb_in g3) dX2_caseAtRank_64 rfl ?_
    refine lv_imul hx hb dX2_caseAtRank_65 ?_
    refine lv_istore (lv' := [(8, .int (((s.k.f 38) (Int32.toNatClampNeg x6)) * ((s.k.f 37) (Int32.toNatClampNeg x7)))), (0, .ref (a 36)), (2, .int x2), (3, .int x3), (4, .int x4), (5, .int x5), (6, .int x6), (7, .int x7)]) hx hb dX2_caseAtRank_66 hl (by decide) rfl (fun ls hl => ?_)
    refine lv_iload hx hb dX2_caseAtRank_68 (lv_at hl 0 rfl) ?_
    refine lv_aload_n hx hb dX2_caseAtRank_70 rfl (lv_at hl 1 rfl) ?_
    refine q_get (v := .ref (a 40)) C inX2_caseAtRank_X2 hK hP 42 rfl rfl 5 (by decide) rfl LX2_caseAtRank_21 rfl dX2_caseAtRank_71 ?_
    refine lv_iload_n hx hb dX2_caseAtRank_74 rfl (lv_at hl 2 rfl) ?_
    obtain ⟨g4, hB⟩ := guard_inv hB
    refine q_iald (x := ((s.k.f 40) (Int32.toNatClampNeg x2))) C hK hP 46 1 rfl rfl (vpb_in g4) dX2_caseAtRank_75 rfl ?_
    refine lv_icmp_le (tgt := 88) hx hb dX2_caseAtRank_76 (by decide) (fun c5 => ?_) (fun c5 => ?_)
    · have hB := if_p hB c5
      exact bkX2_caseAtRank_88 (hk35) (hk45) _ _ _ _ _ _ _ hB p e s0 m below meth c A E H locs ls hP hD hS (lv_sub hl [1, 2, 3, 4, 5, 6, 7] rfl)
    · have hB := if_n hB c5
      refine lv_aload_n hx hb dX2_caseAtRank_79 rfl (lv_at hl 1 rfl) ?_
      refine lv_iload hx hb dX2_caseAtRank_80 (lv_at hl 5 rfl) ?_
      refine lv_iload hx hb dX2_caseAtRank_82 (lv_at hl 0 rfl) ?_
      refine lv_iload_n hx hb dX2_caseAtRank_84 rfl (lv_at hl 2 rfl) ?_
      obtain ⟨s6, hc, hB⟩ := bindP_inv hB
      refine q_gov (wr := ((wD cI b s.d))) (va_runV (As := [.int x5, .int (((s.k.f 38) (Int32.toNatClampNeg x6)) * ((s.k.f 37) (Int32.toNatClampNeg x7))), .int x2]) (rest := []) C (ckX2_putOnTop hc _) (cwV 3 hts gX2_caseAtRank_X2_putOnTop rfl rfl rfl (by decide +kernel) ⟨Nat.le_of_ble_eq_true rfl, Nat.le_of_ble_eq_true rfl⟩) (q_preV hK hP (ci := 2) (q0 := 42) rfl rfl rfl (q_pre hN hK hP hD [6, 7, 8, 9, 10, 11, 12, 13, 14, 15, 16, 17, 18, 19, 20, 21, 22, 23, 24, 25, 26, 27, 28, 29, 30, 31, 32, 33, 34, 35, 36, 37, 38, 39, 40, 41, 42, 43, 44, 45, 46, 47, 48, 49, 50, 51, 52] (by first | exact zqs_6J | rfl) zqn_6)) rfl rfl hl.1 rfl (lv_room (Nat.le_of_ble_eq_true rfl)) dX2_caseAtRank_85 ⟨Nat.le_of_ble_eq_true rfl, Nat.le_of_ble_eq_true rfl⟩) hP hD hS hA [6, 7, 8, 9, 10, 11, 12, 13, 14, 15, 16, 17, 18, 19, 20, 21, 22, 23, 24, 25, 26, 27, 28, 29, 30, 31, 32, 33, 34, 35, 36, 37, 38, 39, 40, 41, 42, 43, 44, 45, 46, 47, 48, 49, 50, 51, 52] [0, 1, 2, 3, 4, 5] (by first | exact zqs_6J | rfl) (by first | exact zqs_7J | rfl) zqn_7 zqd_3 (fun w1 H locs hw hP hD hS => ?_)
      subst hw
      obtain ⟨s7, hs8, hB⟩ := letS_inv hB
      have hP : va_P (dC, dI) vwCl (wJ cB cI cJ cZ cS a b s7) H := by subst hs8; exact hP
      have hD : va_D A (wJ cB cI cJ cZ cS a b s7) := by subst hs8; exact hD
      exact bkX2_caseAtRank_88 (hk35) (hk45) _ _ _ _ _ _ _ hB p e s0 m below meth c A E H locs ls hP hD hS (lv_sub hl [1, 2, 3, 4, 5, 6, 7] rfl)
theorem bkX2_caseAtRank_45L {l : Launch} {dC : Nat → ClassId} {dI : Nat → Nat → Nat} {cB cI cJ cZ cS : ClassId} {a b : Nat → Nat} {as : List Value} {r : Int32} {s' : JS} {k35 : JS → Int32 → Int32 → Int32 → Int32 → Int32 → Option (Int32 × JS)} (hk35 : ∀ (s : JS) (x2 : Int32) (x3 : Int32) (x4 : Int32) (x5 : Int32) (x6 : Int32), k35 s x2 x3 x4 x5 x6 = some (r, s') → BlkI l yX2_caseAtRank wsX2_caseAtRank ({ frames := 4, cells := 0, slots := 0, locals := 95 }) cX2_caseAtRank 9 (some .int) (dC, dI) (tysA cB cI cJ cZ cS) as 35 (wJ cB cI cJ cZ cS a b s) [(0, .ref (a 36)), (2, .int x2), (3, .int x3), (4, .int x4), (5, .int x5), (6, .int x6)] [] (fun x u => x = r ∧ u = (wJ cB cI cJ cZ cS a b s'))) : ∀ (n : Nat) (s : JS) (x2 : Int32) (x3 : Int32) (x4 : Int32) (x5 : Int32) (x6 : Int32) (x7 : Int32), kX2_caseAtRank_45L k35 n s x2 x3 x4 x5 x6 x7 = some (r, s') → BlkI l yX2_caseAtRank wsX2_caseAtRank ({ frames := 4, cells := 0, slots := 0, locals := 95 }) cX2_caseAtRank 9 (some .int) (dC, dI) (tysA cB cI cJ cZ cS) as 45 (wJ cB cI cJ cZ cS a b s) [(0, .ref (a 36)), (2, .int x2), (3, .int x3), (4, .int x4), (5, .int x5), (6, .int x6), (7, .int x7)] [] (fun x u => x = r ∧ u = (wJ cB cI cJ cZ cS a b s')) := by
  intro n
  induction n with
  | zero => intro s x2 x3 x4 x5 x6 x7 hB; exact none_ne hB
  | succ n ih => intro s x2 x3 x4 x5 x6 x7 hB; exact bkX2_caseAtRank_45 hk35 ih _ _ _ _ _ _ _ hB
set_option maxHeartbeats 4000000 in
set_option maxRecDepth 100000 in
theorem bkX2_caseAtRank_35 {l : Launch} {dC : Nat → ClassId} {dI : Nat → Nat → Nat} {cB cI cJ cZ cS : ClassId} {a b : Nat → Nat} {as : List Value} {r : Int32} {s' : JS} {k35 : JS → Int32 → Int32 → Int32 → Int32 → Int32 → Option (Int32 × JS)} (hk35 : ∀ (s : JS) (x2 : Int32) (x3 : Int32) (x4 : Int32) (x5 : Int32) (x6 : Int32), k35 s x2 x3 x4 x5 x6 = some (r, s') → BlkI l yX2_caseAtRank wsX2_caseAtRank ({ frames := 4, cells := 0, slots := 0, locals := 95 }) cX2_caseAtRank 9 (some .int) (dC, dI) (tysA cB cI cJ cZ cS) as 35 (wJ cB cI cJ cZ cS a b s) [(0, .ref (a 36)), (2, .int x2), (3, .int x3), (4, .int x4), (5, .int x5), (6, .int x6)] [] (fun x u => x = r ∧ u = (wJ cB cI cJ cZ cS a b s'))) (s : JS) (x2 : Int32) (x3 : Int32) (x4 : Int32) (x5 : Int32) (x6 : Int32) (hB : kX2_caseAtRank_35 k35 s x2 x3 x4 x5 x6 = some (r, s')) : BlkI l yX2_caseAtRank wsX2_caseAtRank ({ frames := 4, cells := 0, slots := 0, locals := 95 }) cX2_caseAtRank 9 (some .int) (dC, dI) (tysA cB cI cJ cZ cS) as 35 (wJ cB cI cJ cZ cS a b s) [(0, .ref (a 36)), (2, .int x2), (3, .int x3), (4, .int x4), (5, .int x5), (6, .int x6)] [] (fun x u => x = r ∧ u = (wJ cB cI cJ cZ cS a b s')) := by
  intro p e s0 m below meth c A E H locs ls hP hD hS hl
  obtain ⟨C, hr, hlocks, hA, hK, hN⟩ := id E
  obtain ⟨hx, hb, hml, hown, hts⟩ := id C
  unfold kX2_caseAtRank_35 at hB
  refine lv_iload hx hb dX2_caseAtRank_35 (lv_at hl 5 rfl) ?_
  refine lv_iload hx hb dX2_caseAtRank_37 (lv_at hl 3 rfl) ?_
  refine lv_icmp_ge (tgt := 103) hx hb dX2_caseAtRank_39 (by decide) (fun c1 => ?_) (fun c1 => ?_)
  · have hB := if_p hB c1
    refine lv_aload_n hx hb dX2_caseAtRank_103 rfl (lv_at hl 0 rfl) ?_
    refine q_get (v := .ref (a 39)) C inX2_caseAtRank_X2 hK hP 42 rfl rfl 4 (by decide) rfl LX2_caseAtRank_18 rfl dX2_caseAtRank_104 ?_
    refine lv_iload_n hx hb dX2_caseAtRank_107 rfl (lv_at hl 1 rfl) ?_
    obtain ⟨g2, hB⟩ := guard_inv hB
    refine q_iald (x := ((s.k.f 39) (Int32.toNatClampNeg x2))) C hK hP 45 1 rfl rfl (vpb_in g2) dX2_caseAtRank_108 rfl ?_
    exact q_iret C hr hlocks hK hP hD hS (Nat.le_of_ble_eq_true rfl) (Nat.le_of_ble_eq_true rfl) dX2_caseAtRank_109 (by cases hB; exact ⟨rfl, rfl⟩)
  · have hB := if_n hB c1
    refine lv_iconst (v := 0) hx hb dX2_caseAtRank_42 (by decide) ?_
    refine lv_istore (lv' := [(7, .int 0), (0, .ref (a 36)), (2, .int x2), (3, .int x3), (4, .int x4), (5, .int x5), (6, .int x6)]) hx hb dX2_caseAtRank_43 hl (by decide) rfl (fun ls hl => ?_)
    exact bkX2_caseAtRank_45L (hk35) fu _ _ _ _ _ _ _ hB p e s0 m below meth c A E H locs ls hP hD hS (lv_sub hl [1, 2, 3, 4, 5, 6, 0] rfl)
theorem bkX2_caseAtRank_35L {l : Launch} {dC : Nat → ClassId} {dI : Nat → Nat → Nat} {cB cI cJ cZ cS : ClassId} {a b : Nat → Nat} {as : List Value} {r : Int32} {s' : JS} : ∀ (n : Nat) (s : JS) (x2 : Int32) (x3 : Int32) (x4 : Int32) (x5 : Int32) (x6 : Int32), kX2_caseAtRank_35L n s x2 x3 x4 x5 x6 = some (r, s') → BlkI l yX2_caseAtRank wsX2_caseAtRank ({ frames := 4, cells := 0, slots := 0, locals := 95 }) cX2_caseAtRank 9 (some .int) (dC, dI) (tysA cB cI cJ cZ cS) as 35 (wJ cB cI cJ cZ cS a b s) [(0, .ref (a 36)), (2, .int x2), (3, .int x3), (4, .int x4), (5, .int x5), (6, .int x6)] [] (fun x u => x = r ∧ u = (wJ cB cI cJ cZ cS a b s')) := by
  intro n
  induction n with
  | zero => intro s x2 x3 x4 x5 x6 hB; exact none_ne hB
  | succ n ih => intro s x2 x3 x4 x5 x6 hB; exact bkX2_caseAtRank_35 ih _ _ _ _ _ _ hB
set_option maxHeartbeats 4000000 in
set_option maxRecDepth 100000 in
theorem bkX2_caseAtRank {l : Launch} {dC : Nat → ClassId} {dI : Nat → Nat → Nat} {cB cI cJ cZ cS : ClassId} {a b : Nat → Nat} {as : List Value} {r : Int32} {s' : JS} (s : JS) (x2 : Int32) (hB : kX2_caseAtRank s x2 = some (r, s')) : BlkI l yX2_caseAtRank wsX2_caseAtRank ({ frames := 4, cells := 0, slots := 0, locals := 95 }) cX2_caseAtRank 9 (some .int) (dC, dI) (tysA cB cI cJ cZ cS) as 0 (wJ cB cI cJ cZ cS a b s) [(0, .ref (a 36)), (1, .ref (b 0)), (2, .int x2)] [] (fun x u => x = r ∧ u = (wJ cB cI cJ cZ cS a b s')) := by
  intro p e s0 m below meth c A E H locs ls hP hD hS hl
  obtain ⟨C, hr, hlocks, hA, hK, hN⟩ := id E
  obtain ⟨hx, hb, hml, hown, hts⟩ := id C
  unfold kX2_caseAtRank at hB
  refine lv_aload_n hx hb dX2_caseAtRank_0 rfl (lv_at hl 0 rfl) ?_
  refine lv_aload_n hx hb dX2_caseAtRank_1 rfl (lv_at hl 1 rfl) ?_
  obtain ⟨q_, s1, hc, hB⟩ := bindI_inv hB
  refine q_goiF (va_runV (As := [.ref (b 0)]) (rest := []) C (ckX2_fillNear hc _) (cwV 1 hts gX2_caseAtRank_X2_fillNear rfl rfl rfl (by decide +kernel) ⟨Nat.le_of_ble_eq_true rfl, Nat.le_of_ble_eq_true rfl⟩) (q_preV hK hP (ci := 2) (q0 := 42) rfl rfl rfl (q_preF hN hK hP hD)) rfl rfl hl.1 rfl (lv_room (Nat.le_of_ble_eq_true rfl)) dX2_caseAtRank_2 ⟨Nat.le_of_ble_eq_true rfl, Nat.le_of_ble_eq_true rfl⟩) hD hS hA (fun r2 w1 H locs hw hP hD hS => ?_)
  obtain ⟨hq_, hw⟩ := hw; subst hw; subst hq_
  refine lv_istore_n (lv' := [(3, .int r2), (0, .ref (a 36)), (1, .ref (b 0)), (2, .int x2)]) hx hb dX2_caseAtRank_5 rfl hl (by decide) rfl (fun ls hl => ?_)
  refine lv_aload_n hx hb dX2_caseAtRank_6 rfl (lv_at hl 1 rfl) ?_
  refine lv_aload_n hx hb dX2_caseAtRank_7 rfl (lv_at hl 2 rfl) ?_
  obtain ⟨q_, s3, hc, hB⟩ := bindI_inv hB
  refine q_goiF (va_runV (As := [.ref (b 0)]) (rest := []) C (ckX2_fillFar hc _) (cwV 1 hts gX2_caseAtRank_X2_fillFar rfl rfl rfl (by decide +kernel) ⟨Nat.le_of_ble_eq_true rfl, Nat.le_of_ble_eq_true rfl⟩) (q_preV hK hP (ci := 2) (q0 := 42) rfl rfl rfl (q_preF hN hK hP hD)) rfl rfl hl.1 rfl (lv_room (Nat.le_of_ble_eq_true rfl)) dX2_caseAtRank_8 ⟨Nat.le_of_ble_eq_true rfl, Nat.le_of_ble_eq_true rfl⟩) hD hS hA (fun r4 w1 H locs hw hP hD hS => ?_)
  obtain ⟨hq_, hw⟩ := hw; subst hw; subst hq_
  refine lv_istore (lv' := [(4, .int r4), (3, .int r2), (0, .ref (a 36)), (1, .ref (b 0)), (2, .int x2)]) hx hb dX2_caseAtRank_11 hl (by decide) rfl (fun ls hl => ?_)
  refine lv_aload_n hx hb dX2_caseAtRank_13 rfl (lv_at hl 2 rfl) ?_
  refine q_get (v := .ref (a 40)) C inX2_caseAtRank_X2 hK hP 42 rfl rfl 5 (by decide) rfl LX2_caseAtRank_21 rfl dX2_caseAtRank_14 ?_
  refine lv_iconst (v := 0) hx hb dX2_caseAtRank_17 (by decide) ?_
  obtain ⟨s5, hc, hB⟩ := bindP_inv hB
  refine q_gov (wr := (((wJ cB cI cJ cZ cS a b s3)).eraseIdx 46)) (va_runS (As := [.ref (a 40), .int 0]) (rest := []) C (ckJ7_fill_53178_20 hc _) (va_cwS 2 hts gX2_caseAtRank_J7_fill_53178 rfl rfl rfl (by decide +kernel) ⟨Nat.le_of_ble_eq_true rfl, Nat.le_of_ble_eq_true rfl⟩) (q_pre hN hK hP hD [46] rfl zqn_8) rfl rfl hl.1 rfl (lv_room (Nat.le_of_ble_eq_true rfl)) dX2_caseAtRank_18 ⟨Nat.le_of_ble_eq_true rfl, Nat.le_of_ble_eq_true rfl⟩) hP hD hS hA [46] [0, 1, 2, 3, 4, 5, 6, 7, 8, 9, 10, 11, 12, 13, 14, 15, 16, 17, 18, 19, 20, 21, 22, 23, 24, 25, 26, 27, 28, 29, 30, 31, 32, 33, 34, 35, 36, 37, 38, 39, 40, 41, 42, 43, 44, 45, 47, 48, 49, 50, 51, 52] rfl rfl zqn_10 zqd_4 (fun w1 H locs hw hP hD hS => ?_)
  subst hw
  obtain ⟨s6, hs7, hB⟩ := letS_inv hB
  have hP : va_P (dC, dI) vwCl (wJ cB cI cJ cZ cS a b s6) H := by subst hs7; exact hP.sub [0, 1, 2, 3, 4, 5, 6, 7, 8, 9, 10, 11, 12, 13, 14, 15, 16, 17, 18, 19, 20, 21, 22, 23, 24, 25, 26, 27, 28, 29, 30, 31, 32, 33, 34, 35, 36, 37, 38, 39, 40, 41, 42, 43, 44, 45, 52, 46, 47, 48, 49, 50, 51] rfl
  have hD : va_D A (wJ cB cI cJ cZ cS a b s6) := by subst hs7; exact hD.sub [0, 1, 2, 3, 4, 5, 6, 7, 8, 9, 10, 11, 12, 13, 14, 15, 16, 17, 18, 19, 20, 21, 22, 23, 24, 25, 26, 27, 28, 29, 30, 31, 32, 33, 34, 35, 36, 37, 38, 39, 40, 41, 42, 43, 44, 45, 52, 46, 47, 48, 49, 50, 51] (by decide +kernel) rfl
  refine lv_aload_n hx hb dX2_caseAtRank_21 rfl (lv_at hl 2 rfl) ?_
  refine q_get (v := .ref (a 39)) C inX2_caseAtRank_X2 hK hP 42 rfl rfl 4 (by decide) rfl LX2_caseAtRank_18 rfl dX2_caseAtRank_22 ?_
  refine lv_iconst (v := (-1)) hx hb dX2_caseAtRank_25 (by decide) ?_
  obtain ⟨s8, hc, hB⟩ := bindP_inv hB
  refine q_gov (wr := (((wJ cB cI cJ cZ cS a b s6)).eraseIdx 45)) (va_runS (As := [.ref (a 39), .int (-1)]) (rest := []) C (ckJ7_fill_53178_20 hc _) (va_cwS 2 hts gX2_caseAtRank_J7_fill_53178 rfl rfl rfl (by decide +kernel) ⟨Nat.le_of_ble_eq_true rfl, Nat.le_of_ble_eq_true rfl⟩) (q_pre hN hK hP hD [45] rfl zqn_9) rfl rfl hl.1 rfl (lv_room (Nat.le_of_ble_eq_true rfl)) dX2_caseAtRank_26 ⟨Nat.le_of_ble_eq_true rfl, Nat.le_of_ble_eq_true rfl⟩) hP hD hS hA [45] [0, 1, 2, 3, 4, 5, 6, 7, 8, 9, 10, 11, 12, 13, 14, 15, 16, 17, 18, 19, 20, 21, 22, 23, 24, 25, 26, 27, 28, 29, 30, 31, 32, 33, 34, 35, 36, 37, 38, 39, 40, 41, 42, 43, 44, 46, 47, 48, 49, 50, 51, 52] rfl rfl zqn_11 zqd_5 (fun w1 H locs hw hP hD hS => ?_)
  subst hw
  obtain ⟨s9, hs10, hB⟩ := letS_inv hB
  have hP : va_P (dC, dI) vwCl (wJ cB cI cJ cZ cS a b s9) H := by subst hs10; exact hP.sub [0, 1, 2, 3, 4, 5, 6, 7, 8, 9, 10, 11, 12, 13, 14, 15, 16, 17, 18, 19, 20, 21, 22, 23, 24, 25, 26, 27, 28, 29, 30, 31, 32, 33, 34, 35, 36, 37, 38, 39, 40, 41, 42, 43, 44, 52, 45, 46, 47, 48, 49, 50, 51] rfl
  have hD : va_D A (wJ cB cI cJ cZ cS a b s9) := by subst hs10; exact hD.sub [0, 1, 2, 3, 4, 5, 6, 7, 8, 9, 10, 11, 12, 13, 14, 15, 16, 17, 18, 19, 20, 21, 22, 23, 24, 25, 26, 27, 28, 29, 30, 31, 32, 33, 34, 35, 36, 37, 38, 39, 40, 41, 42, 43, 44, 52, 45, 46, 47, 48, 49, 50, 51] (by decide +kernel) rfl
  refine lv_iconst (v := 0) hx hb dX2_caseAtRank_29 (by decide) ?_
  refine lv_istore (lv' := [(5, .int 0), (4, .int r4), (3, .int r2), (0, .ref (a 36)), (1, .ref (b 0)), (2, .int x2)]) hx hb dX2_caseAtRank_30 hl (by decide) rfl (fun ls hl => ?_)
  refine lv_iconst (v := 0) hx hb dX2_caseAtRank_32 (by decide) ?_
  refine lv_istore (lv' := [(6, .int 0), (5, .int 0), (4, .int r4), (3, .int r2), (0, .ref (a 36)), (1, .ref (b 0)), (2, .int x2)]) hx hb dX2_caseAtRank_33 hl (by decide) rfl (fun ls hl => ?_)
  exact bkX2_caseAtRank_35L fu _ _ _ _ _ _ hB p e s0 m below meth c A E H locs ls hP hD hS (lv_sub hl [4, 6, 3, 2, 1, 0] rfl)
theorem ckX2_caseAtRank {l : Launch} {dC : Nat → ClassId} {dI : Nat → Nat → Nat} {cB cI cJ cZ cS : ClassId} {a b : Nat → Nat} {r : Int32} {s' : JS} {s : JS} {x2 : Int32} (hB : kX2_caseAtRank s x2 = some (r, s')) : CI l yX2_caseAtRank wsX2_caseAtRank ({ frames := 4, cells := 0, slots := 0, locals := 95 }) (dC, dI) (tysA cB cI cJ cZ cS) (wJ cB cI cJ cZ cS a b s) [.ref (a 36), .ref (b 0), .int x2] (fun x u => x = r ∧ u = (wJ cB cI cJ cZ cS a b s')) :=
  CI_of (cc := cX2_caseAtRank) (maxL := 9) (ret := (some .int)) (by decide) rfl (Nat.le_of_ble_eq_true rfl) (bkX2_caseAtRank _ _ hB)
theorem LX2_unfind_24 : Cond.fieldLink RX2 24 "GuessFerry$Outlook" "sound" "LGuessFerry$Sound;" ∈ wsX2_unfind := (List.mem_cons_of_mem _ (List.mem_append_left _ (List.mem_append_left _ (List.mem_append_left _ (List.mem_append_left _ (List.mem_of_getElem? (i := 0) rfl))))))
theorem LX2_unfind_I_X10 : Cond.initialized RX10 ∈ wsX2_unfind := (List.mem_cons_of_mem _ (List.mem_append_left _ (List.mem_append_left _ (List.mem_append_left _ (List.mem_append_left _ (List.mem_of_getElem? (i := 2) rfl))))))
theorem LX2_unfind_S_X10_has : Cond.static yX10_has ∈ wsX2_unfind := (List.mem_cons_of_mem _ (List.mem_append_left _ (List.mem_append_left _ (List.mem_append_left _ (List.mem_append_left _ (List.mem_of_getElem? (i := 1) rfl))))))
theorem inX2_unfind_X2 : ∀ w ∈ u_ws RX2 TX2 6, w ∈ wsX2_unfind := fun w h => (List.mem_cons_of_mem _ (List.mem_append_left _ (List.mem_append_left _ (List.mem_append_right _ h))))
theorem inX2_unfind_X5 : ∀ w ∈ u_ws RX5 TX5 10, w ∈ wsX2_unfind := fun w h => (List.mem_cons_of_mem _ (List.mem_append_left _ (List.mem_append_right _ h)))
theorem inX2_unfind_X6 : ∀ w ∈ u_ws RX6 TX6 7, w ∈ wsX2_unfind := fun w h => (List.mem_cons_of_mem _ (List.mem_append_right _ h))
set_option maxHeartbeats 4000000 in
set_option maxRecDepth 100000 in
theorem bkX2_unfind_28 {l : Launch} {dC : Nat → ClassId} {dI : Nat → Nat → Nat} {cB cI cJ cZ cS : ClassId} {a b : Nat → Nat} {as : List Value} {s' : JS} {k2 : JS → Int32 → Int32 → Option JS} (hk2 : ∀ (s : JS) (x2 : Int32) (x3 : Int32), k2 s x2 x3 = some s' → BlkV l yX2_unfind wsX2_unfind ({ frames := 1, cells := 0, slots := 0, locals := 21 }) cX2_unfind 4 none (dC, dI) (tysA cB cI cJ cZ cS) as 2 (wJ cB cI cJ cZ cS a b s) [(0, .ref (a 36)), (1, .ref (b 0)), (2, .int x2), (3, .int x3)] [] (fun u => u = (wJ cB cI cJ cZ cS a b s'))) (s : JS) (x2 : Int32) (x3 : Int32) (hB : kX2_unfind_28 k2 s x2 x3 = some s') : BlkV l yX2_unfind wsX2_unfind ({ frames := 1, cells := 0, slots := 0, locals := 21 }) cX2_unfind 4 none (dC, dI) (tysA cB cI cJ cZ cS) as 28 (wJ cB cI cJ cZ cS a b s) [(0, .ref (a 36)), (1, .ref (b 0)), (2, .int x2), (3, .int x3)] [] (fun u => u = (wJ cB cI cJ cZ cS a b s')) := by
  intro p e s0 m below meth c A E H locs ls hP hD hS hl
  obtain ⟨C, hr, hlocks, hA, hK, hN⟩ := id E
  obtain ⟨hx, hb, hml, hown, hts⟩ := id C
  unfold kX2_unfind_28 at hB
  refine lv_iinc (v := (x3 + 1)) (lv' := [(3, .int (x3 + 1)), (0, .ref (a 36)), (1, .ref (b 0)), (2, .int x2)]) hx hb dX2_unfind_28 hl (k := 3) rfl (rfl) (by decide) rfl (fun ls hl => ?_)
  refine lv_goto (tgt := 2) hx hb dX2_unfind_31 (by decide) ?_
  exact hk2 _ _ _ hB p e s0 m below meth c A E H locs ls hP hD hS (lv_sub hl [1, 2, 3, 0] rfl)
set_option maxHeartbeats 4000000 in
set_option maxRecDepth 100000 in
theorem bkX2_unfind_2 {l : Launch} {dC : Nat → ClassId} {dI : Nat → Nat → Nat} {cB cI cJ cZ cS : ClassId} {a b : Nat → Nat} {as : List Value} {s' : JS} {k2 : JS → Int32 → Int32 → Option JS} (hk2 : ∀ (s : JS) (x2 : Int32) (x3 : Int32), k2 s x2 x3 = some s' → BlkV l yX2_unfind wsX2_unfind ({ frames := 1, cells := 0, slots := 0, locals := 21 }) cX2_unfind 4 none (dC, dI) (tysA cB cI cJ cZ cS) as 2 (wJ cB cI cJ cZ cS a b s) [(0, .ref (a 36)), (1, .ref (b 0)), (2, .int x2), (3, .int x3)] [] (fun u => u = (wJ cB cI cJ cZ cS a b s'))) (s : JS) (x2 : Int32) (x3 : Int32) (hB : kX2_unfind_2 k2 s x2 x3 = some s') : BlkV l yX2_unfind wsX2_unfind ({ frames := 1, cells := 0, slots := 0, locals := 21 }) cX2_unfind 4 none (dC, dI) (tysA cB cI cJ cZ cS) as 2 (wJ cB cI cJ cZ cS a b s) [(0, .ref (a 36)), (1, .ref (b 0)), (2, .int x2), (3, .int x3)] [] (fun u => u = (wJ cB cI cJ cZ cS a b s')) := by
  intro p e s0 m below meth c A E H locs ls hP hD hS hl
  obtain ⟨C, hr, hlocks, hA, hK, hN⟩ := id E
  obtain ⟨hx, hb, hml, hown, hts⟩ := id C
  unfold kX2_unfind_2 at hB
  refine lv_iload_n hx hb dX2_unfind_2 rfl (lv_at hl 3 rfl) ?_
  refine lv_aload_n hx hb dX2_unfind_3 rfl (lv_at hl 0 rfl) ?_
  refine q_get (v := .ref (a 2)) C inX2_unfind_X2 hK hP 42 rfl rfl 0 (by decide) rfl LX2_unfind_24 rfl dX2_unfind_4 ?_
  refine q_getN (v := .int (s.k.v 1)) C hN inX2_unfind_X5 hK hP 8 rfl rfl 6 (by decide) rfl nwF_X2_44 rfl dX2_unfind_7 ?_
  refine lv_icmp_ge (tgt := 34) hx hb dX2_unfind_10 (by decide) (fun c1 => ?_) (fun c1 => ?_)
  · have hB := if_p hB c1
    exact q_vret C hr hlocks hK hP hD hS (Nat.le_of_ble_eq_true rfl) (Nat.le_of_ble_eq_true rfl) dX2_unfind_34 (by cases hB; rfl)
  · have hB := if_n hB c1
    refine lv_iload_n hx hb dX2_unfind_13 rfl (lv_at hl 2 rfl) ?_
    refine lv_iload_n hx hb dX2_unfind_14 rfl (lv_at hl 3 rfl) ?_
    obtain ⟨q_, hc, hB⟩ := bindP_inv hB
    refine q_goi0 (va_runSN (As := [.int x2, .int x3]) (rest := []) C (ckX10_has hc _) ⟨va_cnB 2 hts gX2_unfind_X10_has_n57 rfl rfl rfl (hN _ nwM_X2_57 rfl) (hts _ LX2_unfind_I_X10) (by decide +kernel) ⟨Nat.le_of_ble_eq_true rfl, Nat.le_of_ble_eq_true rfl⟩, hts _ LX2_unfind_S_X10_has, trivial⟩ (q_pre0 hN hK) rfl rfl hl.1 rfl (lv_room (Nat.le_of_ble_eq_true rfl)) dX2_unfind_15 ⟨Nat.le_of_ble_eq_true rfl, Nat.le_of_ble_eq_true rfl⟩) hP hD hS hA (fun r2 w1 H locs hw hP hS => ?_)
    subst hw
    refine lv_if_eq (tgt := 28) hx hb dX2_unfind_18 (by decide) (fun c3 => ?_) (fun c3 => ?_)
    · have hB := if_p hB c3
      exact bkX2_unfind_28 (hk2) _ _ _ hB p e s0 m below meth c A E H locs ls hP hD hS (lv_sub hl [0, 1, 2, 3] rfl)
    · have hB := if_n hB c3
      refine lv_aload_n hx hb dX2_unfind_21 rfl (lv_at hl 1 rfl) ?_
      refine q_getN (v := .ref (b 1)) C hN inX2_unfind_X6 hK hP 0 rfl rfl 0 (by decide) rfl nwF_X2_128 rfl dX2_unfind_22 ?_
      refine lv_iload_n hx hb dX2_unfind_25 rfl (lv_at hl 3 rfl) ?_
      refine lv_iconst (v := (-1)) hx hb dX2_unfind_26 (by decide) ?_
      obtain ⟨g4, hB⟩ := guard_inv hB
      obtain ⟨s5, hs6, hB⟩ := letS_inv hB
      refine q_iast (f2 := (upd (s.d.f 0) (Int32.toNatClampNeg x3) (-1))) (w2 := (wJ cB cI cJ cZ cS a b s5)) C hK hP hD hS 1 1 rfl rfl (vpb_in g4) dX2_unfind_27 rfl (by subst hs6; rfl) (fun H locs hP hD hS => ?_)
      exact bkX2_unfind_28 (hk2) _ _ _ hB p e s0 m below meth c A E H locs ls hP hD hS (lv_sub hl [0, 1, 2, 3] rfl)
theorem bkX2_unfind_2L {l : Launch} {dC : Nat → ClassId} {dI : Nat → Nat → Nat} {cB cI cJ cZ cS : ClassId} {a b : Nat → Nat} {as : List Value} {s' : JS} : ∀ (n : Nat) (s : JS) (x2 : Int32) (x3 : Int32), kX2_unfind_2L n s x2 x3 = some s' → BlkV l yX2_unfind wsX2_unfind ({ frames := 1, cells := 0, slots := 0, locals := 21 }) cX2_unfind 4 none (dC, dI) (tysA cB cI cJ cZ cS) as 2 (wJ cB cI cJ cZ cS a b s) [(0, .ref (a 36)), (1, .ref (b 0)), (2, .int x2), (3, .int x3)] [] (fun u => u = (wJ cB cI cJ cZ cS a b s')) := by
  intro n
  induction n with
  | zero => intro s x2 x3 hB; exact none_ne hB
  | succ n ih => intro s x2 x3 hB; exact bkX2_unfind_2 ih _ _ _ hB
set_option maxHeartbeats 4000000 in
set_option maxRecDepth 100000 in
theorem bkX2_unfind {l : Launch} {dC : Nat → ClassId} {dI : Nat → Nat → Nat} {cB cI cJ cZ cS : ClassId} {a b : Nat → Nat} {as : List Value} {s' : JS} (s : JS) (x2 : Int32) (hB : kX2_unfind s x2 = some s') : BlkV l yX2_unfind wsX2_unfind ({ frames := 1, cells := 0, slots := 0, locals := 21 }) cX2_unfind 4 none (dC, dI) (tysA cB cI cJ cZ cS) as 0 (wJ cB cI cJ cZ cS a b s) [(0, .ref (a 36)), (1, .ref (b 0)), (2, .int x2)] [] (fun u => u = (wJ cB cI cJ cZ cS a b s')) := by
  intro p e s0 m below meth c A E H locs ls hP hD hS hl
  obtain ⟨C, hr, hlocks, hA, hK, hN⟩ := id E
  obtain ⟨hx, hb, hml, hown, hts⟩ := id C
  unfold kX2_unfind at hB
  refine lv_iconst (v := 0) hx hb dX2_unfind_0 (by decide) ?_
  refine lv_istore_n (lv' := [(3, .int 0), (0, .ref (a 36)), (1, .ref (b 0)), (2, .int x2)]) hx hb dX2_unfind_1 rfl hl (by decide) rfl (fun ls hl => ?_)
  exact bkX2_unfind_2L fu _ _ _ hB p e s0 m below meth c A E H locs ls hP hD hS (lv_sub hl [1, 2, 3, 0] rfl)
theorem ckX2_unfind {l : Launch} {dC : Nat → ClassId} {dI : Nat → Nat → Nat} {cB cI cJ cZ cS : ClassId} {a b : Nat → Nat} {s' : JS} {s : JS} {x2 : Int32} (hB : kX2_unfind s x2 = some s') : CV l yX2_unfind wsX2_unfind ({ frames := 1, cells := 0, slots := 0, locals := 21 }) (dC, dI) (tysA cB cI cJ cZ cS) (wJ cB cI cJ cZ cS a b s) [.ref (a 36), .ref (b 0), .int x2] (fun u => u = (wJ cB cI cJ cZ cS a b s')) :=
  CV_of (cc := cX2_unfind) (maxL := 4) (ret := none) (by decide) rfl (Nat.le_of_ble_eq_true rfl) (bkX2_unfind _ _ hB)
theorem LX4_readParty_12 : Cond.fieldLink RX4 12 "GuessFerry$Reader" "draft" "LGuessFerry$Sound;" ∈ wsX4_readParty := (List.mem_cons_of_mem _ (List.mem_append_left _ (List.mem_append_left _ (List.mem_append_left _ (List.mem_append_left _ (List.mem_of_getElem? (i := 0) rfl))))))
theorem LX4_readParty_18 : Cond.fieldLink RX4 18 "GuessFerry$Reader" "names" "[J" ∈ wsX4_readParty := (List.mem_cons_of_mem _ (List.mem_append_left _ (List.mem_append_left _ (List.mem_append_left _ (List.mem_append_left _ (List.mem_of_getElem? (i := 3) rfl))))))
theorem LX4_readParty_31 : Cond.fieldLink RX4 31 "GuessFerry$Reader" "tokens" "LGuessFerry$Tokens;" ∈ wsX4_readParty := (List.mem_cons_of_mem _ (List.mem_append_left _ (List.mem_append_left _ (List.mem_append_left _ (List.mem_append_left _ (List.mem_of_getElem? (i := 1) rfl))))))
theorem LX4_readParty_38 : Cond.fieldLink RX4 38 "GuessFerry$Reader" "at" "I" ∈ wsX4_readParty := (List.mem_cons_of_mem _ (List.mem_append_left _ (List.mem_append_left _ (List.mem_append_left _ (List.mem_append_left _ (List.mem_of_getElem? (i := 2) rfl))))))
theorem inX4_readParty_X4 : ∀ w ∈ u_ws RX4 TX4 8, w ∈ wsX4_readParty := fun w h => (List.mem_cons_of_mem _ (List.mem_append_left _ (List.mem_append_left _ (List.mem_append_right _ h))))
theorem inX4_readParty_X5 : ∀ w ∈ u_ws RX5 TX5 10, w ∈ wsX4_readParty := fun w h => (List.mem_cons_of_mem _ (List.mem_append_left _ (List.mem_append_right _ h)))
theorem inX4_readParty_X9 : ∀ w ∈ u_ws RX9 TX9 7, w ∈ wsX4_readParty := fun w h => (List.mem_cons_of_mem _ (List.mem_append_right _ h))
set_option maxHeartbeats 4000000 in
set_option maxRecDepth 100000 in
theorem bkX4_readParty_73 {l : Launch} {dC : Nat → ClassId} {dI : Nat → Nat → Nat} {cB cI cJ cZ cS : ClassId} {a : Nat → Nat} {as : List Value} {s' : KS} (s : KS) (x1 : Int64) (hB : kX4_readParty_73 s x1 = some s') : BlkV l yX4_readParty wsX4_readParty ({ frames := 3, cells := 0, slots := 0, locals := 64 }) cX4_readParty 3 none (dC, dI) (tysA cB cI cJ cZ cS) as 73 (wK cB cI cJ cZ cS a s) [(0, .ref (a 28)), (1, .long x1)] [] (fun u => u = (wK cB cI cJ cZ cS a s')) := by
  intro p e s0 m below meth c A E H locs ls hP hD hS hl
  obtain ⟨C, hr, hlocks, hA, hK, hN⟩ := id E
  obtain ⟨hx, hb, hml, hown, hts⟩ := id C
  unfold kX4_readParty_73 at hB
  refine lv_aload_n hx hb dX4_readParty_73 rfl (lv_at hl 0 rfl) ?_
  refine lv_sipush (v := 300) hx hb dX4_readParty_74 (by decide) ?_
  obtain ⟨s1, hc, hB⟩ := bindP_inv hB
  refine q_govF (va_runV (As := [.int 300]) (rest := []) C (ckX4_take hc _) (cwV 1 hts gX4_readParty_X4_take rfl rfl rfl (by decide +kernel) ⟨Nat.le_of_ble_eq_true rfl, Nat.le_of_ble_eq_true rfl⟩) (q_preV hK hP (ci := 4) (q0 := 28) rfl rfl rfl (q_preF hN hK hP hD)) rfl rfl hl.1 rfl (lv_room (Nat.le_of_ble_eq_true rfl)) dX4_readParty_77 ⟨Nat.le_of_ble_eq_true rfl, Nat.le_of_ble_eq_true rfl⟩) hD hS hA (fun w1 H locs hw hP hD hS => ?_)
  subst hw
  refine lv_aload_n hx hb dX4_readParty_80 rfl (lv_at hl 0 rfl) ?_
  refine q_get (v := .ref (a 29)) C inX4_readParty_X4 hK hP 28 rfl rfl 2 (by decide) rfl LX4_readParty_18 rfl dX4_readParty_81 ?_
  refine lv_aload_n hx hb dX4_readParty_84 rfl (lv_at hl 0 rfl) ?_
  refine q_get (v := .ref (a 15)) C inX4_readParty_X4 hK hP 28 rfl rfl 1 (by decide) rfl LX4_readParty_12 rfl dX4_readParty_85 ?_
  refine q_getN (v := .int (s1.v 9)) C hN inX4_readParty_X5 hK hP 15 rfl rfl 7 (by decide) rfl nwF_X4_106 rfl dX4_readParty_88 ?_
  refine lv_lload_n hx hb dX4_readParty_91 rfl (lv_at hl 1 rfl) ?_
  obtain ⟨g2, hB⟩ := guard_inv hB
  obtain ⟨s3, hs4, hB⟩ := letS_inv hB
  refine q_last (f2 := (vp_updL (s1.g 29) (Int32.toNatClampNeg (s1.v 9)) x1)) (w2 := (wK cB cI cJ cZ cS a s3)) C hK hP hD hS 29 2 rfl rfl (vpb_in g2) dX4_readParty_92 rfl (by subst hs4; rfl) (fun H locs hP hD hS => ?_)
  refine lv_aload_n hx hb dX4_readParty_93 rfl (lv_at hl 0 rfl) ?_
  refine q_get (v := .ref (a 15)) C inX4_readParty_X4 hK hP 28 rfl rfl 1 (by decide) rfl LX4_readParty_12 rfl dX4_readParty_94 ?_
  refine q_getN (v := .ref (a 19)) C hN inX4_readParty_X5 hK hP 15 rfl rfl 3 (by decide) rfl nwF_X4_113 rfl dX4_readParty_97 ?_
  refine lv_aload_n hx hb dX4_readParty_100 rfl (lv_at hl 0 rfl) ?_
  refine q_get (v := .ref (a 15)) C inX4_readParty_X4 hK hP 28 rfl rfl 1 (by decide) rfl LX4_readParty_12 rfl dX4_readParty_101 ?_
  refine q_getN (v := .int (s3.v 9)) C hN inX4_readParty_X5 hK hP 15 rfl rfl 7 (by decide) rfl nwF_X4_106 rfl dX4_readParty_104 ?_
  refine lv_aload_n hx hb dX4_readParty_107 rfl (lv_at hl 0 rfl) ?_
  refine lv_bipush (v := 9) hx hb dX4_readParty_108 (by decide) ?_
  obtain ⟨q_, s5, hc, hB⟩ := bindI_inv hB
  refine q_goiF (va_runV (As := [.int 9]) (rest := [.int (s3.v 9), .ref (a 19)]) C (ckX4_takeInt hc _) (cwV 1 hts gX4_readParty_X4_takeInt rfl rfl rfl (by decide +kernel) ⟨Nat.le_of_ble_eq_true rfl, Nat.le_of_ble_eq_true rfl⟩) (q_preV hK hP (ci := 4) (q0 := 28) rfl rfl rfl (q_preF hN hK hP hD)) rfl rfl hl.1 rfl (lv_room (Nat.le_of_ble_eq_true rfl)) dX4_readParty_110 ⟨Nat.le_of_ble_eq_true rfl, Nat.le_of_ble_eq_true rfl⟩) hD hS hA (fun r6 w1 H locs hw hP hD hS => ?_)
  obtain ⟨hq_, hw⟩ := hw; subst hw; subst hq_
  obtain ⟨g7, hB⟩ := guard_inv hB
  obtain ⟨s8, hs9, hB⟩ := letS_inv hB
  refine q_iast (f2 := (upd (s5.f 19) (Int32.toNatClampNeg (s3.v 9)) r6)) (w2 := (wK cB cI cJ cZ cS a s8)) C hK hP hD hS 19 1 rfl rfl (vpb_in g7) dX4_readParty_113 rfl (by subst hs9; rfl) (fun H locs hP hD hS => ?_)
  refine lv_aload_n hx hb dX4_readParty_114 rfl (lv_at hl 0 rfl) ?_
  refine q_get (v := .ref (a 15)) C inX4_readParty_X4 hK hP 28 rfl rfl 1 (by decide) rfl LX4_readParty_12 rfl dX4_readParty_115 ?_
  refine q_getN (v := .ref (a 20)) C hN inX4_readParty_X5 hK hP 15 rfl rfl 4 (by decide) rfl nwF_X4_116 rfl dX4_readParty_118 ?_
  refine lv_aload_n hx hb dX4_readParty_121 rfl (lv_at hl 0 rfl) ?_
  refine q_get (v := .ref (a 15)) C inX4_readParty_X4 hK hP 28 rfl rfl 1 (by decide) rfl LX4_readParty_12 rfl dX4_readParty_122 ?_
  refine q_getN (v := .int (s8.v 9)) C hN inX4_readParty_X5 hK hP 15 rfl rfl 7 (by decide) rfl nwF_X4_106 rfl dX4_readParty_125 ?_
  refine lv_aload_n hx hb dX4_readParty_128 rfl (lv_at hl 0 rfl) ?_
  refine lv_bipush (v := 9) hx hb dX4_readParty_129 (by decide) ?_
  obtain ⟨q_, s10, hc, hB⟩ := bindI_inv hB
  refine q_goiF (va_runV (As := [.int 9]) (rest := [.int (s8.v 9), .ref (a 20)]) C (ckX4_takeInt hc _) (cwV 1 hts gX4_readParty_X4_takeInt rfl rfl rfl (by decide +kernel) ⟨Nat.le_of_ble_eq_true rfl, Nat.le_of_ble_eq_true rfl⟩) (q_preV hK hP (ci := 4) (q0 := 28) rfl rfl rfl (q_preF hN hK hP hD)) rfl rfl hl.1 rfl (lv_room (Nat.le_of_ble_eq_true rfl)) dX4_readParty_131 ⟨Nat.le_of_ble_eq_true rfl, Nat.le_of_ble_eq_true rfl⟩) hD hS hA (fun r11 w1 H locs hw hP hD hS => ?_)
  obtain ⟨hq_, hw⟩ := hw; subst hw; subst hq_
  obtain ⟨g12, hB⟩ := guard_inv hB
  obtain ⟨s13, hs14, hB⟩ := letS_inv hB
  refine q_iast (f2 := (upd (s10.f 20) (Int32.toNatClampNeg (s8.v 9)) r11)) (w2 := (wK cB cI cJ cZ cS a s13)) C hK hP hD hS 20 1 rfl rfl (vpb_in g12) dX4_readParty_134 rfl (by subst hs14; rfl) (fun H locs hP hD hS => ?_)
  refine lv_aload_n hx hb dX4_readParty_135 rfl (lv_at hl 0 rfl) ?_
  refine lv_bipush (v := 59) hx hb dX4_readParty_136 (by decide) ?_
  obtain ⟨s15, hc, hB⟩ := bindP_inv hB
  refine q_govF (va_runV (As := [.int 59]) (rest := []) C (ckX4_take hc _) (cwV 1 hts gX4_readParty_X4_take rfl rfl rfl (by decide +kernel) ⟨Nat.le_of_ble_eq_true rfl, Nat.le_of_ble_eq_true rfl⟩) (q_preV hK hP (ci := 4) (q0 := 28) rfl rfl rfl (q_preF hN hK hP hD)) rfl rfl hl.1 rfl (lv_room (Nat.le_of_ble_eq_true rfl)) dX4_readParty_138 ⟨Nat.le_of_ble_eq_true rfl, Nat.le_of_ble_eq_true rfl⟩) hD hS hA (fun w1 H locs hw hP hD hS => ?_)
  subst hw
  refine lv_aload_n hx hb dX4_readParty_141 rfl (lv_at hl 0 rfl) ?_
  refine q_get (v := .ref (a 15)) C inX4_readParty_X4 hK hP 28 rfl rfl 1 (by decide) rfl LX4_readParty_12 rfl dX4_readParty_142 ?_
  refine lv_dup hx hb dX4_readParty_145 rfl ?_
  refine q_getN (v := .int (s15.v 9)) C hN inX4_readParty_X5 hK hP 15 rfl rfl 7 (by decide) rfl nwF_X4_106 rfl dX4_readParty_146 ?_
  refine lv_iconst (v := 1) hx hb dX4_readParty_149 (by decide) ?_
  refine lv_iadd hx hb dX4_readParty_150 ?_
  obtain ⟨s16, hs17, hB⟩ := letS_inv hB
  refine q_putN (ty := .int) (w2 := (wK cB cI cJ cZ cS a s16)) tyX5 tyX5_ok nmX5 C hN inX4_readParty_X5 hK hP hD hS 15 rfl rfl 7 (by decide) rfl nwF_X4_106 rfl (by decide +kernel) (rfl) rfl (Nat.le_of_ble_eq_true rfl) dX4_readParty_151 (by subst hs17; rfl) (fun H locs hP hD hS => ?_)
  exact q_vret C hr hlocks hK hP hD hS (Nat.le_of_ble_eq_true rfl) (Nat.le_of_ble_eq_true rfl) dX4_readParty_154 (by cases hB; rfl)
set_option maxHeartbeats 4000000 in
set_option maxRecDepth 100000 in
theorem bkX4_readParty {l : Launch} {dC : Nat → ClassId} {dI : Nat → Nat → Nat} {cB cI cJ cZ cS : ClassId} {a : Nat → Nat} {as : List Value} {s' : KS} (s : KS) (hB : kX4_readParty s = some s') : BlkV l yX4_readParty wsX4_readParty ({ frames := 3, cells := 0, slots := 0, locals := 64 }) cX4_readParty 3 none (dC, dI) (tysA cB cI cJ cZ cS) as 0 (wK cB cI cJ cZ cS a s) [(0, .ref (a 28))] [] (fun u => u = (wK cB cI cJ cZ cS a s')) := by
  intro p e s0 m below meth c A E H locs ls hP hD hS hl
  obtain ⟨C, hr, hlocks, hA, hK, hN⟩ := id E
  obtain ⟨hx, hb, hml, hown, hts⟩ := id C
  unfold kX4_readParty at hB
  refine lv_aload_n hx hb dX4_readParty_0 rfl (lv_at hl 0 rfl) ?_
  refine q_get (v := .ref (a 15)) C inX4_readParty_X4 hK hP 28 rfl rfl 1 (by decide) rfl LX4_readParty_12 rfl dX4_readParty_1 ?_
  refine q_getN (v := .int (s.v 9)) C hN inX4_readParty_X5 hK hP 15 rfl rfl 7 (by decide) rfl nwF_X4_106 rfl dX4_readParty_4 ?_
  refine lv_bipush (v := 6) hx hb dX4_readParty_7 (by decide) ?_
  refine lv_icmp_lt (tgt := 18) hx hb dX4_readParty_9 (by decide) (fun c1 => ?_) (fun c1 => ?_)
  · have hB := if_p hB c1
    refine lv_aload_n hx hb dX4_readParty_18 rfl (lv_at hl 0 rfl) ?_
    refine lv_sipush (v := 257) hx hb dX4_readParty_19 (by decide) ?_
    obtain ⟨s2, hc, hB⟩ := bindP_inv hB
    refine q_govF (va_runV (As := [.int 257]) (rest := []) C (ckX4_take hc _) (cwV 1 hts gX4_readParty_X4_take rfl rfl rfl (by decide +kernel) ⟨Nat.le_of_ble_eq_true rfl, Nat.le_of_ble_eq_true rfl⟩) (q_preV hK hP (ci := 4) (q0 := 28) rfl rfl rfl (q_preF hN hK hP hD)) rfl rfl hl.1 rfl (lv_room (Nat.le_of_ble_eq_true rfl)) dX4_readParty_22 ⟨Nat.le_of_ble_eq_true rfl, Nat.le_of_ble_eq_true rfl⟩) hD hS hA (fun w1 H locs hw hP hD hS => ?_)
    subst hw
    refine lv_aload_n hx hb dX4_readParty_25 rfl (lv_at hl 0 rfl) ?_
    refine q_get (v := .ref (a 30)) C inX4_readParty_X4 hK hP 28 rfl rfl 0 (by decide) rfl LX4_readParty_31 rfl dX4_readParty_26 ?_
    refine q_getN (v := .ref (a 34)) C hN inX4_readParty_X9 hK hP 30 rfl rfl 4 (by decide) rfl nwF_X4_74 rfl dX4_readParty_29 ?_
    refine lv_aload_n hx hb dX4_readParty_32 rfl (lv_at hl 0 rfl) ?_
    refine q_get (v := .int (s2.v 15)) C inX4_readParty_X4 hK hP 28 rfl rfl 3 (by decide) rfl LX4_readParty_38 rfl dX4_readParty_33 ?_
    obtain ⟨g3, hB⟩ := guard_inv hB
    refine q_lald (x := ((s2.g 34) (Int32.toNatClampNeg (s2.v 15)))) C hK hP 34 2 rfl rfl (vpb_in g3) dX4_readParty_36 rfl ?_
    refine lv_lstore_n (lv' := [(1, .long ((s2.g 34) (Int32.toNatClampNeg (s2.v 15)))), (0, .ref (a 28))]) hx hb dX4_readParty_37 rfl hl (by decide) rfl (fun ls hl => ?_)
    refine lv_aload_n hx hb dX4_readParty_38 rfl (lv_at hl 1 rfl) ?_
    refine lv_sipush (v := 300) hx hb dX4_readParty_39 (by decide) ?_
    obtain ⟨q_, s4, hc, hB⟩ := bindI_inv hB
    refine q_goiF (va_runV (As := [.int 300]) (rest := []) C (ckX4_isAt hc _) (cwV 1 hts gX4_readParty_X4_isAt rfl rfl rfl (by decide +kernel) ⟨Nat.le_of_ble_eq_true rfl, Nat.le_of_ble_eq_true rfl⟩) (q_preV hK hP (ci := 4) (q0 := 28) rfl rfl rfl (q_preF hN hK hP hD)) rfl rfl hl.1 rfl (lv_room (Nat.le_of_ble_eq_true rfl)) dX4_readParty_42 ⟨Nat.le_of_ble_eq_true rfl, Nat.le_of_ble_eq_true rfl⟩) hD hS hA (fun r5 w1 H locs hw hP hD hS => ?_)
    obtain ⟨hq_, hw⟩ := hw; subst hw; subst hq_
    refine lv_if_eq (tgt := 73) hx hb dX4_readParty_45 (by decide) (fun c6 => ?_) (fun c6 => ?_)
    · have hB := if_p hB c6
      exact bkX4_readParty_73 _ _ hB p e s0 m below meth c A E H locs ls hP hD hS (lv_sub hl [1, 0] rfl)
    · have hB := if_n hB c6
      refine lv_aload_n hx hb dX4_readParty_48 rfl (lv_at hl 1 rfl) ?_
      refine lv_lload_n hx hb dX4_readParty_49 rfl (lv_at hl 0 rfl) ?_
      obtain ⟨q_, s7, hc, hB⟩ := bindI_inv hB
      refine q_goiF (va_runV (As := [.long ((s2.g 34) (Int32.toNatClampNeg (s2.v 15)))]) (rest := []) C (ckX4_isTold hc _) (cwV 1 hts gX4_readParty_X4_isTold rfl rfl rfl (by decide +kernel) ⟨Nat.le_of_ble_eq_true rfl, Nat.le_of_ble_eq_true rfl⟩) (q_preV hK hP (ci := 4) (q0 := 28) rfl rfl rfl (q_preF hN hK hP hD)) rfl rfl hl.1 rfl (lv_room (Nat.le_of_ble_eq_true rfl)) dX4_readParty_50 ⟨Nat.le_of_ble_eq_true rfl, Nat.le_of_ble_eq_true rfl⟩) hD hS hA (fun r8 w1 H locs hw hP hD hS => ?_)
      obtain ⟨hq_, hw⟩ := hw; subst hw; subst hq_
      refine lv_if_eq (tgt := 73) hx hb dX4_readParty_53 (by decide) (fun c9 => ?_) (fun c9 => ?_)
      · have hB := if_p hB c9
        exact bkX4_readParty_73 _ _ hB p e s0 m below meth c A E H locs ls hP hD hS (lv_sub hl [1, 0] rfl)
      · have hB := if_n hB c9
        refine lv_aload_n hx hb dX4_readParty_56 rfl (lv_at hl 1 rfl) ?_
        refine lv_iconst (v := 3) hx hb dX4_readParty_57 (by decide) ?_
        refine lv_aload_n hx hb dX4_readParty_58 rfl (lv_at hl 1 rfl) ?_
        refine q_get (v := .ref (a 30)) C inX4_readParty_X4 hK hP 28 rfl rfl 0 (by decide) rfl LX4_readParty_31 rfl dX4_readParty_59 ?_
        refine q_getN (v := .ref (a 33)) C hN inX4_readParty_X9 hK hP 30 rfl rfl 3 (by decide) rfl nwF_X4_67 rfl dX4_readParty_62 ?_
        refine lv_aload_n hx hb dX4_readParty_65 rfl (lv_at hl 1 rfl) ?_
        refine q_get (v := .int (s7.v 15)) C inX4_readParty_X4 hK hP 28 rfl rfl 3 (by decide) rfl LX4_readParty_38 rfl dX4_readParty_66 ?_
        obtain ⟨g10, hB⟩ := guard_inv hB
        refine q_iald (x := ((s7.f 33) (Int32.toNatClampNeg (s7.v 15)))) C hK hP 33 1 rfl rfl (vpb_in g10) dX4_readParty_69 rfl ?_
        obtain ⟨s11, hc, hB⟩ := bindP_inv hB
        refine q_govF (va_runV (As := [.int 3, .int ((s7.f 33) (Int32.toNatClampNeg (s7.v 15)))]) (rest := []) C (ckX4_failLater hc _) (cwV 2 hts gX4_readParty_X4_failLater rfl rfl rfl (by decide +kernel) ⟨Nat.le_of_ble_eq_true rfl, Nat.le_of_ble_eq_true rfl⟩) (q_preV hK hP (ci := 4) (q0 := 28) rfl rfl rfl (q_preF hN hK hP hD)) rfl rfl hl.1 rfl (lv_room (Nat.le_of_ble_eq_true rfl)) dX4_readParty_70 ⟨Nat.le_of_ble_eq_true rfl, Nat.le_of_ble_eq_true rfl⟩) hD hS hA (fun w1 H locs hw hP hD hS => ?_)
        subst hw
        exact bkX4_readParty_73 _ _ hB p e s0 m below meth c A E H locs ls hP hD hS (lv_sub hl [1, 0] rfl)
  · have hB := if_n hB c1
    refine lv_aload_n hx hb dX4_readParty_12 rfl (lv_at hl 0 rfl) ?_
    refine lv_iconst (v := 2) hx hb dX4_readParty_13 (by decide) ?_
    obtain ⟨s12, hc, hB⟩ := bindP_inv hB
    refine q_govF (va_runV (As := [.int 2]) (rest := []) C (ckX4_fail hc _) (cwV 1 hts gX4_readParty_X4_fail rfl rfl rfl (by decide +kernel) ⟨Nat.le_of_ble_eq_true rfl, Nat.le_of_ble_eq_true rfl⟩) (q_preV hK hP (ci := 4) (q0 := 28) rfl rfl rfl (q_preF hN hK hP hD)) rfl rfl hl.1 rfl (lv_room (Nat.le_of_ble_eq_true rfl)) dX4_readParty_14 ⟨Nat.le_of_ble_eq_true rfl, Nat.le_of_ble_eq_true rfl⟩) hD hS hA (fun w1 H locs hw hP hD hS => ?_)
    subst hw
    exact q_vret C hr hlocks hK hP hD hS (Nat.le_of_ble_eq_true rfl) (Nat.le_of_ble_eq_true rfl) dX4_readParty_17 (by cases hB; rfl)
theorem ckX4_readParty {l : Launch} {dC : Nat → ClassId} {dI : Nat → Nat → Nat} {cB cI cJ cZ cS : ClassId} {a : Nat → Nat} {s' : KS} {s : KS} (hB : kX4_readParty s = some s') : CV l yX4_readParty wsX4_readParty ({ frames := 3, cells := 0, slots := 0, locals := 64 }) (dC, dI) (tysA cB cI cJ cZ cS) (wK cB cI cJ cZ cS a s) [.ref (a 28)] (fun u => u = (wK cB cI cJ cZ cS a s')) :=
  CV_of (cc := cX4_readParty) (maxL := 3) (ret := none) (by decide) rfl (Nat.le_of_ble_eq_true rfl) (bkX4_readParty _ hB)
end
section
theorem ggX5_addUp_X5_oddsAt : GoodIn wsX5_addUp wsX5_oddsAt := gi_sub (fun w h => List.mem_cons_of_mem _ (List.mem_append_left _ (List.mem_append_right _ h))) gd_wsX5_oddsAt
set_option maxRecDepth 20000 in
theorem gX5_addUp_X5_oddsAt : GoodIn wsX5_addUp (wsV RX5 51 RX5 yX5_oddsAt wsX5_oddsAt) := goodIn_app (goodIn_r _ [5, 6, 7, 8] (by decide +kernel) (by decide +kernel)) ggX5_addUp_X5_oddsAt
theorem dX5_addUp_0 : decode cX5_addUp 0 = .ok (.aload_n 0, 1) := dc1_42 (by decide +kernel)
theorem dX5_addUp_1 : decode cX5_addUp 1 = .ok (.iconst 1, 1) := dc1_4 (by decide +kernel)
theorem dX5_addUp_2 : decode cX5_addUp 2 = .ok (.putfield 44, 3) := dcw_181 (by decide +kernel)
theorem dX5_addUp_5 : decode cX5_addUp 5 = .ok (.iconst 0, 1) := dc1_3 (by decide +kernel)
theorem dX5_addUp_6 : decode cX5_addUp 6 = .ok (.istore_n 1, 1) := dc1_60 (by decide +kernel)
theorem dX5_addUp_7 : decode cX5_addUp 7 = .ok (.iload_n 1, 1) := dc1_27 (by decide +kernel)
theorem dX5_addUp_8 : decode cX5_addUp 8 = .ok (.aload_n 0, 1) := dc1_42 (by decide +kernel)
theorem dX5_addUp_9 : decode cX5_addUp 9 = .ok (.getfield 37, 3) := dcw_180 (by decide +kernel)
theorem dX5_addUp_12 : decode cX5_addUp 12 = .ok (.if_icmp .ge 88, 3) := dcs_162 (n := 88) (by decide +kernel)
theorem dX5_addUp_15 : decode cX5_addUp 15 = .ok (.aload_n 0, 1) := dc1_42 (by decide +kernel)
theorem dX5_addUp_16 : decode cX5_addUp 16 = .ok (.getfield 15, 3) := dcw_180 (by decide +kernel)
theorem dX5_addUp_19 : decode cX5_addUp 19 = .ok (.iload_n 1, 1) := dc1_27 (by decide +kernel)
theorem dX5_addUp_20 : decode cX5_addUp 20 = .ok (.iconst 0, 1) := dc1_3 (by decide +kernel)
theorem dX5_addUp_21 : decode cX5_addUp 21 = .ok (.iastore, 1) := dc1_79 (by decide +kernel)
theorem dX5_addUp_22 : decode cX5_addUp 22 = .ok (.aload_n 0, 1) := dc1_42 (by decide +kernel)
theorem dX5_addUp_23 : decode cX5_addUp 23 = .ok (.getfield 18, 3) := dcw_180 (by decide +kernel)
theorem dX5_addUp_26 : decode cX5_addUp 26 = .ok (.iload_n 1, 1) := dc1_27 (by decide +kernel)
theorem dX5_addUp_27 : decode cX5_addUp 27 = .ok (.iconst 0, 1) := dc1_3 (by decide +kernel)
theorem dX5_addUp_28 : decode cX5_addUp 28 = .ok (.iastore, 1) := dc1_79 (by decide +kernel)
theorem dX5_addUp_29 : decode cX5_addUp 29 = .ok (.iconst 0, 1) := dc1_3 (by decide +kernel)
theorem dX5_addUp_30 : decode cX5_addUp 30 = .ok (.istore_n 2, 1) := dc1_61 (by decide +kernel)
theorem dX5_addUp_31 : decode cX5_addUp 31 = .ok (.iload_n 2, 1) := dc1_28 (by decide +kernel)
theorem dX5_addUp_32 : decode cX5_addUp 32 = .ok (.bipush 6, 2) := dcb_16 (n := 6) (by decide +kernel)
theorem dX5_addUp_34 : decode cX5_addUp 34 = .ok (.if_icmp .ge 49, 3) := dcs_162 (n := 49) (by decide +kernel)
theorem dX5_addUp_37 : decode cX5_addUp 37 = .ok (.aload_n 0, 1) := dc1_42 (by decide +kernel)
theorem dX5_addUp_38 : decode cX5_addUp 38 = .ok (.getfield 15, 3) := dcw_180 (by decide +kernel)
theorem dX5_addUp_41 : decode cX5_addUp 41 = .ok (.iload_n 1, 1) := dc1_27 (by decide +kernel)
theorem dX5_addUp_42 : decode cX5_addUp 42 = .ok (.dup2, 1) := dc1_92 (by decide +kernel)
theorem dX5_addUp_43 : decode cX5_addUp 43 = .ok (.iaload, 1) := dc1_46 (by decide +kernel)
theorem dX5_addUp_44 : decode cX5_addUp 44 = .ok (.aload_n 0, 1) := dc1_42 (by decide +kernel)
theorem dX5_addUp_45 : decode cX5_addUp 45 = .ok (.iload_n 1, 1) := dc1_27 (by decide +kernel)
theorem dX5_addUp_46 : decode cX5_addUp 46 = .ok (.iload_n 2, 1) := dc1_28 (by decide +kernel)
theorem dX5_addUp_47 : decode cX5_addUp 47 = .ok (.invokevirtual 51, 3) := dcw_182 (by decide +kernel)
theorem dX5_addUp_50 : decode cX5_addUp 50 = .ok (.iadd, 1) := dc1_96 (by decide +kernel)
theorem dX5_addUp_51 : decode cX5_addUp 51 = .ok (.iastore, 1) := dc1_79 (by decide +kernel)
theorem dX5_addUp_52 : decode cX5_addUp 52 = .ok (.aload_n 0, 1) := dc1_42 (by decide +kernel)
theorem dX5_addUp_53 : decode cX5_addUp 53 = .ok (.getfield 18, 3) := dcw_180 (by decide +kernel)
theorem dX5_addUp_56 : decode cX5_addUp 56 = .ok (.iload_n 1, 1) := dc1_27 (by decide +kernel)
theorem dX5_addUp_57 : decode cX5_addUp 57 = .ok (.dup2, 1) := dc1_92 (by decide +kernel)
theorem dX5_addUp_58 : decode cX5_addUp 58 = .ok (.iaload, 1) := dc1_46 (by decide +kernel)
theorem dX5_addUp_59 : decode cX5_addUp 59 = .ok (.aload_n 0, 1) := dc1_42 (by decide +kernel)
theorem dX5_addUp_60 : decode cX5_addUp 60 = .ok (.iload_n 1, 1) := dc1_27 (by decide +kernel)
theorem dX5_addUp_61 : decode cX5_addUp 61 = .ok (.iload_n 2, 1) := dc1_28 (by decide +kernel)
theorem dX5_addUp_62 : decode cX5_addUp 62 = .ok (.invokevirtual 51, 3) := dcw_182 (by decide +kernel)
theorem dX5_addUp_65 : decode cX5_addUp 65 = .ok (.ifCond .le 9, 3) := dcs_158 (n := 9) (by decide +kernel)
theorem dX5_addUp_68 : decode cX5_addUp 68 = .ok (.iconst 1, 1) := dc1_4 (by decide +kernel)
theorem dX5_addUp_69 : decode cX5_addUp 69 = .ok (.iload_n 2, 1) := dc1_28 (by decide +kernel)
theorem dX5_addUp_70 : decode cX5_addUp 70 = .ok (.ishl, 1) := dc1_120 (by decide +kernel)
theorem dX5_addUp_71 : decode cX5_addUp 71 = .ok (.goto 4, 3) := dcs_167 (n := 4) (by decide +kernel)
theorem dX5_addUp_74 : decode cX5_addUp 74 = .ok (.iconst 0, 1) := dc1_3 (by decide +kernel)
theorem dX5_addUp_75 : decode cX5_addUp 75 = .ok (.ior, 1) := dc1_128 (by decide +kernel)
theorem dX5_addUp_76 : decode cX5_addUp 76 = .ok (.iastore, 1) := dc1_79 (by decide +kernel)
theorem dX5_addUp_77 : decode cX5_addUp 77 = .ok (.iinc 2 1, 3) := dc_iinc (m := 1) (by decide +kernel)
theorem dX5_addUp_80 : decode cX5_addUp 80 = .ok (.goto (-49), 3) := dcs_167 (n := 65487) (by decide +kernel)
theorem dX5_addUp_83 : decode cX5_addUp 83 = .ok (.aload_n 0, 1) := dc1_42 (by decide +kernel)
theorem dX5_addUp_84 : decode cX5_addUp 84 = .ok (.dup, 1) := dc1_89 (by decide +kernel)
theorem dX5_addUp_85 : decode cX5_addUp 85 = .ok (.getfield 44, 3) := dcw_180 (by decide +kernel)
theorem dX5_addUp_88 : decode cX5_addUp 88 = .ok (.bipush 6, 2) := dcb_16 (n := 6) (by decide +kernel)
theorem dX5_addUp_90 : decode cX5_addUp 90 = .ok (.imul, 1) := dc1_104 (by decide +kernel)
theorem dX5_addUp_91 : decode cX5_addUp 91 = .ok (.putfield 44, 3) := dcw_181 (by decide +kernel)
theorem dX5_addUp_94 : decode cX5_addUp 94 = .ok (.iinc 1 1, 3) := dc_iinc (m := 1) (by decide +kernel)
theorem dX5_addUp_97 : decode cX5_addUp 97 = .ok (.goto (-90), 3) := dcs_167 (n := 65446) (by decide +kernel)
theorem dX5_addUp_100 : decode cX5_addUp 100 = .ok (.return_, 1) := dc1_177 (by decide +kernel)
theorem ggX6_startOver_J7_fill_53178 : GoodIn wsX6_startOver wsJ7_fill_53178 := gi_sub (fun w h => List.mem_cons_of_mem _ (List.mem_append_left _ (List.mem_append_right _ h))) gd_wsJ7_fill_53178
set_option maxRecDepth 20000 in
theorem gX6_startOver_J7_fill_53178 : GoodIn wsX6_startOver (va_wsS RX6 27 yJ7_fill_53178 wsJ7_fill_53178) := goodIn_app (goodIn_of _ (by decide +kernel)) ggX6_startOver_J7_fill_53178
theorem dX6_startOver_0 : decode cX6_startOver 0 = .ok (.aload_n 0, 1) := dc1_42 (by decide +kernel)
theorem dX6_startOver_1 : decode cX6_startOver 1 = .ok (.getfield 9, 3) := dcw_180 (by decide +kernel)
theorem dX6_startOver_4 : decode cX6_startOver 4 = .ok (.iconst (-1), 1) := dc1_2 (by decide +kernel)
theorem dX6_startOver_5 : decode cX6_startOver 5 = .ok (.invokestatic 27, 3) := dcw_184 (by decide +kernel)
theorem dX6_startOver_8 : decode cX6_startOver 8 = .ok (.aload_n 0, 1) := dc1_42 (by decide +kernel)
theorem dX6_startOver_9 : decode cX6_startOver 9 = .ok (.getfield 15, 3) := dcw_180 (by decide +kernel)
theorem dX6_startOver_12 : decode cX6_startOver 12 = .ok (.iconst 0, 1) := dc1_3 (by decide +kernel)
theorem dX6_startOver_13 : decode cX6_startOver 13 = .ok (.invokestatic 27, 3) := dcw_184 (by decide +kernel)
theorem dX6_startOver_16 : decode cX6_startOver 16 = .ok (.aload_n 0, 1) := dc1_42 (by decide +kernel)
theorem dX6_startOver_17 : decode cX6_startOver 17 = .ok (.getfield 18, 3) := dcw_180 (by decide +kernel)
theorem dX6_startOver_20 : decode cX6_startOver 20 = .ok (.iconst 0, 1) := dc1_3 (by decide +kernel)
theorem dX6_startOver_21 : decode cX6_startOver 21 = .ok (.invokestatic 27, 3) := dcw_184 (by decide +kernel)
theorem dX6_startOver_24 : decode cX6_startOver 24 = .ok (.aload_n 0, 1) := dc1_42 (by decide +kernel)
theorem dX6_startOver_25 : decode cX6_startOver 25 = .ok (.getfield 21, 3) := dcw_180 (by decide +kernel)
theorem dX6_startOver_28 : decode cX6_startOver 28 = .ok (.iconst 0, 1) := dc1_3 (by decide +kernel)
theorem dX6_startOver_29 : decode cX6_startOver 29 = .ok (.invokestatic 27, 3) := dcw_184 (by decide +kernel)
theorem dX6_startOver_32 : decode cX6_startOver 32 = .ok (.aload_n 0, 1) := dc1_42 (by decide +kernel)
theorem dX6_startOver_33 : decode cX6_startOver 33 = .ok (.getfield 24, 3) := dcw_180 (by decide +kernel)
theorem dX6_startOver_36 : decode cX6_startOver 36 = .ok (.iconst 0, 1) := dc1_3 (by decide +kernel)
theorem dX6_startOver_37 : decode cX6_startOver 37 = .ok (.invokestatic 27, 3) := dcw_184 (by decide +kernel)
theorem dX6_startOver_40 : decode cX6_startOver 40 = .ok (.aload_n 0, 1) := dc1_42 (by decide +kernel)
theorem dX6_startOver_41 : decode cX6_startOver 41 = .ok (.iconst 0, 1) := dc1_3 (by decide +kernel)
theorem dX6_startOver_42 : decode cX6_startOver 42 = .ok (.putfield 33, 3) := dcw_181 (by decide +kernel)
theorem dX6_startOver_45 : decode cX6_startOver 45 = .ok (.aload_n 0, 1) := dc1_42 (by decide +kernel)
theorem dX6_startOver_46 : decode cX6_startOver 46 = .ok (.iconst 0, 1) := dc1_3 (by decide +kernel)
theorem dX6_startOver_47 : decode cX6_startOver 47 = .ok (.putfield 37, 3) := dcw_181 (by decide +kernel)
theorem dX6_startOver_50 : decode cX6_startOver 50 = .ok (.return_, 1) := dc1_177 (by decide +kernel)
theorem ggX8_beliedBy_X10_has : GoodIn wsX8_beliedBy wsX10_has := gi_sub (fun w h => List.mem_cons_of_mem _ (List.mem_append_left _ (List.mem_append_right _ h))) gd_wsX10_has
set_option maxRecDepth 20000 in
theorem gX8_beliedBy_X10_has_n50 : GoodIn wsX8_beliedBy (wsX10_has) := ggX8_beliedBy_X10_has
theorem dX8_beliedBy_0 : decode cX8_beliedBy 0 = .ok (.iconst 0, 1) := dc1_3 (by decide +kernel)
theorem dX8_beliedBy_1 : decode cX8_beliedBy 1 = .ok (.istore 4, 2) := dcu_54 (by decide +kernel)
theorem dX8_beliedBy_3 : decode cX8_beliedBy 3 = .ok (.iconst 0, 1) := dc1_3 (by decide +kernel)
theorem dX8_beliedBy_4 : decode cX8_beliedBy 4 = .ok (.istore 5, 2) := dcu_54 (by decide +kernel)
theorem dX8_beliedBy_6 : decode cX8_beliedBy 6 = .ok (.iload 5, 2) := dcu_21 (by decide +kernel)
theorem dX8_beliedBy_8 : decode cX8_beliedBy 8 = .ok (.iload_n 3, 1) := dc1_29 (by decide +kernel)
theorem dX8_beliedBy_9 : decode cX8_beliedBy 9 = .ok (.if_icmp .ge 37, 3) := dcs_162 (n := 37) (by decide +kernel)
theorem dX8_beliedBy_12 : decode cX8_beliedBy 12 = .ok (.aload_n 0, 1) := dc1_42 (by decide +kernel)
theorem dX8_beliedBy_13 : decode cX8_beliedBy 13 = .ok (.getfield 9, 3) := dcw_180 (by decide +kernel)
theorem dX8_beliedBy_16 : decode cX8_beliedBy 16 = .ok (.iload 5, 2) := dcu_21 (by decide +kernel)
theorem dX8_beliedBy_18 : decode cX8_beliedBy 18 = .ok (.iaload, 1) := dc1_46 (by decide +kernel)
theorem dX8_beliedBy_19 : decode cX8_beliedBy 19 = .ok (.iload_n 1, 1) := dc1_27 (by decide +kernel)
theorem dX8_beliedBy_20 : decode cX8_beliedBy 20 = .ok (.if_icmp .ne 20, 3) := dcs_160 (n := 20) (by decide +kernel)
theorem dX8_beliedBy_23 : decode cX8_beliedBy 23 = .ok (.aload_n 0, 1) := dc1_42 (by decide +kernel)
theorem dX8_beliedBy_24 : decode cX8_beliedBy 24 = .ok (.getfield 15, 3) := dcw_180 (by decide +kernel)
theorem dX8_beliedBy_27 : decode cX8_beliedBy 27 = .ok (.iload 5, 2) := dcu_21 (by decide +kernel)
theorem dX8_beliedBy_29 : decode cX8_beliedBy 29 = .ok (.iaload, 1) := dc1_46 (by decide +kernel)
theorem dX8_beliedBy_30 : decode cX8_beliedBy 30 = .ok (.iload_n 2, 1) := dc1_28 (by decide +kernel)
theorem dX8_beliedBy_31 : decode cX8_beliedBy 31 = .ok (.invokestatic 50, 3) := dcw_184 (by decide +kernel)
theorem dX8_beliedBy_34 : decode cX8_beliedBy 34 = .ok (.ifCond .ne 6, 3) := dcs_154 (n := 6) (by decide +kernel)
theorem dX8_beliedBy_37 : decode cX8_beliedBy 37 = .ok (.iinc 4 1, 3) := dc_iinc (m := 1) (by decide +kernel)
theorem dX8_beliedBy_40 : decode cX8_beliedBy 40 = .ok (.iinc 5 1, 3) := dc_iinc (m := 1) (by decide +kernel)
theorem dX8_beliedBy_43 : decode cX8_beliedBy 43 = .ok (.goto (-37), 3) := dcs_167 (n := 65499) (by decide +kernel)
theorem dX8_beliedBy_46 : decode cX8_beliedBy 46 = .ok (.iload 4, 2) := dcu_21 (by decide +kernel)
theorem dX8_beliedBy_48 : decode cX8_beliedBy 48 = .ok (.ireturn, 1) := dc1_172 (by decide +kernel)
theorem ggX8_sortByLies_J7_fill_53178 : GoodIn wsX8_sortByLies wsJ7_fill_53178 := gi_sub (fun w h => List.mem_cons_of_mem _ (List.mem_append_left _ (List.mem_append_left _ (List.mem_append_right _ (List.mem_append_left _ h))))) gd_wsJ7_fill_53178
set_option maxRecDepth 20000 in
theorem gX8_sortByLies_J7_fill_53178 : GoodIn wsX8_sortByLies (va_wsS RX8 62 yJ7_fill_53178 wsJ7_fill_53178) := goodIn_app (goodIn_of _ (by decide +kernel)) ggX8_sortByLies_J7_fill_53178
theorem ggX8_sortByLies_X8_withWave : GoodIn wsX8_sortByLies wsX8_withWave := gi_sub (fun w h => List.mem_cons_of_mem _ (List.mem_append_left _ (List.mem_append_left _ (List.mem_append_right _ (List.mem_append_right _ h))))) gd_wsX8_withWave
set_option maxRecDepth 20000 in
theorem gX8_sortByLies_X8_withWave : GoodIn wsX8_sortByLies (wsV RX8 68 RX8 yX8_withWave wsX8_withWave) := goodIn_app (goodIn_r _ [6, 7, 8, 9] (by decide +kernel) (by decide +kernel)) ggX8_sortByLies_X8_withWave
theorem dX8_sortByLies_0 : decode cX8_sortByLies 0 = .ok (.aload_n 0, 1) := dc1_42 (by decide +kernel)
theorem dX8_sortByLies_1 : decode cX8_sortByLies 1 = .ok (.getfield 24, 3) := dcw_180 (by decide +kernel)
theorem dX8_sortByLies_4 : decode cX8_sortByLies 4 = .ok (.iconst 0, 1) := dc1_3 (by decide +kernel)
theorem dX8_sortByLies_5 : decode cX8_sortByLies 5 = .ok (.invokestatic 62, 3) := dcw_184 (by decide +kernel)
theorem dX8_sortByLies_8 : decode cX8_sortByLies 8 = .ok (.aload_n 0, 1) := dc1_42 (by decide +kernel)
theorem dX8_sortByLies_9 : decode cX8_sortByLies 9 = .ok (.getfield 24, 3) := dcw_180 (by decide +kernel)
theorem dX8_sortByLies_12 : decode cX8_sortByLies 12 = .ok (.iconst 0, 1) := dc1_3 (by decide +kernel)
theorem dX8_sortByLies_13 : decode cX8_sortByLies 13 = .ok (.iconst 1, 1) := dc1_4 (by decide +kernel)
theorem dX8_sortByLies_14 : decode cX8_sortByLies 14 = .ok (.iastore, 1) := dc1_79 (by decide +kernel)
theorem dX8_sortByLies_15 : decode cX8_sortByLies 15 = .ok (.iconst 0, 1) := dc1_3 (by decide +kernel)
theorem dX8_sortByLies_16 : decode cX8_sortByLies 16 = .ok (.istore_n 3, 1) := dc1_62 (by decide +kernel)
theorem dX8_sortByLies_17 : decode cX8_sortByLies 17 = .ok (.iload_n 3, 1) := dc1_29 (by decide +kernel)
theorem dX8_sortByLies_18 : decode cX8_sortByLies 18 = .ok (.aload_n 0, 1) := dc1_42 (by decide +kernel)
theorem dX8_sortByLies_19 : decode cX8_sortByLies 19 = .ok (.getfield 27, 3) := dcw_180 (by decide +kernel)
theorem dX8_sortByLies_22 : decode cX8_sortByLies 22 = .ok (.getfield 39, 3) := dcw_180 (by decide +kernel)
theorem dX8_sortByLies_25 : decode cX8_sortByLies 25 = .ok (.if_icmp .ge 43, 3) := dcs_162 (n := 43) (by decide +kernel)
theorem dX8_sortByLies_28 : decode cX8_sortByLies 28 = .ok (.iload_n 3, 1) := dc1_29 (by decide +kernel)
theorem dX8_sortByLies_29 : decode cX8_sortByLies 29 = .ok (.iload_n 1, 1) := dc1_27 (by decide +kernel)
theorem dX8_sortByLies_30 : decode cX8_sortByLies 30 = .ok (.if_icmp .eq 32, 3) := dcs_159 (n := 32) (by decide +kernel)
theorem dX8_sortByLies_33 : decode cX8_sortByLies 33 = .ok (.iconst 3, 1) := dc1_6 (by decide +kernel)
theorem dX8_sortByLies_34 : decode cX8_sortByLies 34 = .ok (.istore 4, 2) := dcu_54 (by decide +kernel)
theorem dX8_sortByLies_36 : decode cX8_sortByLies 36 = .ok (.iload 4, 2) := dcu_21 (by decide +kernel)
theorem dX8_sortByLies_38 : decode cX8_sortByLies 38 = .ok (.ifCond .lt 24, 3) := dcs_155 (n := 24) (by decide +kernel)
theorem dX8_sortByLies_41 : decode cX8_sortByLies 41 = .ok (.aload_n 0, 1) := dc1_42 (by decide +kernel)
theorem dX8_sortByLies_42 : decode cX8_sortByLies 42 = .ok (.getfield 24, 3) := dcw_180 (by decide +kernel)
theorem dX8_sortByLies_45 : decode cX8_sortByLies 45 = .ok (.iload 4, 2) := dcu_21 (by decide +kernel)
theorem dX8_sortByLies_47 : decode cX8_sortByLies 47 = .ok (.aload_n 0, 1) := dc1_42 (by decide +kernel)
theorem dX8_sortByLies_48 : decode cX8_sortByLies 48 = .ok (.iload_n 3, 1) := dc1_29 (by decide +kernel)
theorem dX8_sortByLies_49 : decode cX8_sortByLies 49 = .ok (.iload 4, 2) := dcu_21 (by decide +kernel)
theorem dX8_sortByLies_51 : decode cX8_sortByLies 51 = .ok (.iload_n 2, 1) := dc1_28 (by decide +kernel)
theorem dX8_sortByLies_52 : decode cX8_sortByLies 52 = .ok (.invokevirtual 68, 3) := dcw_182 (by decide +kernel)
theorem dX8_sortByLies_55 : decode cX8_sortByLies 55 = .ok (.iastore, 1) := dc1_79 (by decide +kernel)
theorem dX8_sortByLies_56 : decode cX8_sortByLies 56 = .ok (.iinc 4 (-1), 3) := dc_iinc (m := 255) (by decide +kernel)
theorem dX8_sortByLies_59 : decode cX8_sortByLies 59 = .ok (.goto (-23), 3) := dcs_167 (n := 65513) (by decide +kernel)
theorem dX8_sortByLies_62 : decode cX8_sortByLies 62 = .ok (.iinc 3 1, 3) := dc_iinc (m := 1) (by decide +kernel)
theorem dX8_sortByLies_65 : decode cX8_sortByLies 65 = .ok (.goto (-48), 3) := dcs_167 (n := 65488) (by decide +kernel)
theorem dX8_sortByLies_68 : decode cX8_sortByLies 68 = .ok (.return_, 1) := dc1_177 (by decide +kernel)
theorem ggX8_fitting_X8_sortByLies : GoodIn wsX8_fitting wsX8_sortByLies := gi_sub (fun w h => List.mem_cons_of_mem _ (List.mem_append_left _ (List.mem_append_left _ (List.mem_append_right _ (List.mem_append_left _ h))))) gd_wsX8_sortByLies
set_option maxRecDepth 20000 in
theorem gX8_fitting_X8_sortByLies : GoodIn wsX8_fitting (wsV RX8 72 RX8 yX8_sortByLies wsX8_sortByLies) := goodIn_app (goodIn_r _ [1, 2, 3, 4] (by decide +kernel) (by decide +kernel)) ggX8_fitting_X8_sortByLies
theorem ggX8_fitting_X8_upTo : GoodIn wsX8_fitting wsX8_upTo := gi_sub (fun w h => List.mem_cons_of_mem _ (List.mem_append_left _ (List.mem_append_left _ (List.mem_append_right _ (List.mem_append_right _ h))))) gd_wsX8_upTo
set_option maxRecDepth 20000 in
theorem gX8_fitting_X8_upTo : GoodIn wsX8_fitting (wsV RX8 76 RX8 yX8_upTo wsX8_upTo) := goodIn_app (goodIn_r _ [5, 6, 7, 4] (by decide +kernel) (by decide +kernel)) ggX8_fitting_X8_upTo
theorem dX8_fitting_0 : decode cX8_fitting 0 = .ok (.aload_n 0, 1) := dc1_42 (by decide +kernel)
theorem dX8_fitting_1 : decode cX8_fitting 1 = .ok (.iconst (-1), 1) := dc1_2 (by decide +kernel)
theorem dX8_fitting_2 : decode cX8_fitting 2 = .ok (.iload_n 2, 1) := dc1_28 (by decide +kernel)
theorem dX8_fitting_3 : decode cX8_fitting 3 = .ok (.invokevirtual 72, 3) := dcw_182 (by decide +kernel)
theorem dX8_fitting_6 : decode cX8_fitting 6 = .ok (.aload_n 0, 1) := dc1_42 (by decide +kernel)
theorem dX8_fitting_7 : decode cX8_fitting 7 = .ok (.iload_n 1, 1) := dc1_27 (by decide +kernel)
theorem dX8_fitting_8 : decode cX8_fitting 8 = .ok (.invokevirtual 76, 3) := dcw_182 (by decide +kernel)
theorem dX8_fitting_11 : decode cX8_fitting 11 = .ok (.ireturn, 1) := dc1_172 (by decide +kernel)
theorem ggX8_liars_X8_sortByLies : GoodIn wsX8_liars wsX8_sortByLies := gi_sub (fun w h => List.mem_cons_of_mem _ (List.mem_append_left _ (List.mem_append_left _ (List.mem_append_right _ (List.mem_append_left _ h))))) gd_wsX8_sortByLies
set_option maxRecDepth 20000 in
theorem gX8_liars_X8_sortByLies : GoodIn wsX8_liars (wsV RX8 72 RX8 yX8_sortByLies wsX8_sortByLies) := goodIn_app (goodIn_r _ [4, 5, 6, 7] (by decide +kernel) (by decide +kernel)) ggX8_liars_X8_sortByLies
theorem ggX8_liars_X8_fittingWith : GoodIn wsX8_liars wsX8_fittingWith := gi_sub (fun w h => List.mem_cons_of_mem _ (List.mem_append_left _ (List.mem_append_left _ (List.mem_append_right _ (List.mem_append_right _ h))))) gd_wsX8_fittingWith
set_option maxRecDepth 20000 in
theorem gX8_liars_X8_fittingWith : GoodIn wsX8_liars (wsV RX8 80 RX8 yX8_fittingWith wsX8_fittingWith) := goodIn_app (goodIn_r _ [8, 9, 10, 7] (by decide +kernel) (by decide +kernel)) ggX8_liars_X8_fittingWith
theorem dX8_liars_0 : decode cX8_liars 0 = .ok (.iconst 0, 1) := dc1_3 (by decide +kernel)
theorem dX8_liars_1 : decode cX8_liars 1 = .ok (.istore_n 3, 1) := dc1_62 (by decide +kernel)
theorem dX8_liars_2 : decode cX8_liars 2 = .ok (.iconst 0, 1) := dc1_3 (by decide +kernel)
theorem dX8_liars_3 : decode cX8_liars 3 = .ok (.istore 4, 2) := dcu_54 (by decide +kernel)
theorem dX8_liars_5 : decode cX8_liars 5 = .ok (.iload 4, 2) := dcu_21 (by decide +kernel)
theorem dX8_liars_7 : decode cX8_liars 7 = .ok (.aload_n 0, 1) := dc1_42 (by decide +kernel)
theorem dX8_liars_8 : decode cX8_liars 8 = .ok (.getfield 27, 3) := dcw_180 (by decide +kernel)
theorem dX8_liars_11 : decode cX8_liars 11 = .ok (.getfield 39, 3) := dcw_180 (by decide +kernel)
theorem dX8_liars_14 : decode cX8_liars 14 = .ok (.if_icmp .ge 111, 3) := dcs_162 (n := 111) (by decide +kernel)
theorem dX8_liars_17 : decode cX8_liars 17 = .ok (.aload_n 0, 1) := dc1_42 (by decide +kernel)
theorem dX8_liars_18 : decode cX8_liars 18 = .ok (.iload 4, 2) := dcu_21 (by decide +kernel)
theorem dX8_liars_20 : decode cX8_liars 20 = .ok (.iconst 0, 1) := dc1_3 (by decide +kernel)
theorem dX8_liars_21 : decode cX8_liars 21 = .ok (.invokevirtual 72, 3) := dcw_182 (by decide +kernel)
theorem dX8_liars_24 : decode cX8_liars 24 = .ok (.iconst 0, 1) := dc1_3 (by decide +kernel)
theorem dX8_liars_25 : decode cX8_liars 25 = .ok (.istore 5, 2) := dcu_54 (by decide +kernel)
theorem dX8_liars_27 : decode cX8_liars 27 = .ok (.iconst 0, 1) := dc1_3 (by decide +kernel)
theorem dX8_liars_28 : decode cX8_liars 28 = .ok (.istore 6, 2) := dcu_54 (by decide +kernel)
theorem dX8_liars_30 : decode cX8_liars 30 = .ok (.iload 6, 2) := dcu_21 (by decide +kernel)
theorem dX8_liars_32 : decode cX8_liars 32 = .ok (.bipush 6, 2) := dcb_16 (n := 6) (by decide +kernel)
theorem dX8_liars_34 : decode cX8_liars 34 = .ok (.if_icmp .ge 34, 3) := dcs_162 (n := 34) (by decide +kernel)
theorem dX8_liars_37 : decode cX8_liars 37 = .ok (.iload 5, 2) := dcu_21 (by decide +kernel)
theorem dX8_liars_39 : decode cX8_liars 39 = .ok (.aload_n 0, 1) := dc1_42 (by decide +kernel)
theorem dX8_liars_40 : decode cX8_liars 40 = .ok (.iload 4, 2) := dcu_21 (by decide +kernel)
theorem dX8_liars_42 : decode cX8_liars 42 = .ok (.iload 6, 2) := dcu_21 (by decide +kernel)
theorem dX8_liars_44 : decode cX8_liars 44 = .ok (.iload_n 2, 1) := dc1_28 (by decide +kernel)
theorem dX8_liars_45 : decode cX8_liars 45 = .ok (.invokevirtual 80, 3) := dcw_182 (by decide +kernel)
theorem dX8_liars_48 : decode cX8_liars 48 = .ok (.ifCond .le 10, 3) := dcs_158 (n := 10) (by decide +kernel)
theorem dX8_liars_51 : decode cX8_liars 51 = .ok (.iconst 1, 1) := dc1_4 (by decide +kernel)
theorem dX8_liars_52 : decode cX8_liars 52 = .ok (.iload 6, 2) := dcu_21 (by decide +kernel)
theorem dX8_liars_54 : decode cX8_liars 54 = .ok (.ishl, 1) := dc1_120 (by decide +kernel)
theorem dX8_liars_55 : decode cX8_liars 55 = .ok (.goto 4, 3) := dcs_167 (n := 4) (by decide +kernel)
theorem dX8_liars_58 : decode cX8_liars 58 = .ok (.iconst 0, 1) := dc1_3 (by decide +kernel)
theorem dX8_liars_59 : decode cX8_liars 59 = .ok (.ior, 1) := dc1_128 (by decide +kernel)
theorem dX8_liars_60 : decode cX8_liars 60 = .ok (.istore 5, 2) := dcu_54 (by decide +kernel)
theorem dX8_liars_62 : decode cX8_liars 62 = .ok (.iinc 6 1, 3) := dc_iinc (m := 1) (by decide +kernel)
theorem dX8_liars_65 : decode cX8_liars 65 = .ok (.goto (-35), 3) := dcs_167 (n := 65501) (by decide +kernel)
theorem dX8_liars_68 : decode cX8_liars 68 = .ok (.iconst 0, 1) := dc1_3 (by decide +kernel)
theorem dX8_liars_69 : decode cX8_liars 69 = .ok (.istore 6, 2) := dcu_54 (by decide +kernel)
theorem dX8_liars_71 : decode cX8_liars 71 = .ok (.iload 6, 2) := dcu_21 (by decide +kernel)
theorem dX8_liars_73 : decode cX8_liars 73 = .ok (.iload_n 1, 1) := dc1_27 (by decide +kernel)
theorem dX8_liars_74 : decode cX8_liars 74 = .ok (.if_icmp .ge 45, 3) := dcs_162 (n := 45) (by decide +kernel)
theorem dX8_liars_77 : decode cX8_liars 77 = .ok (.iload_n 3, 1) := dc1_29 (by decide +kernel)
theorem dX8_liars_78 : decode cX8_liars 78 = .ok (.aload_n 0, 1) := dc1_42 (by decide +kernel)
theorem dX8_liars_79 : decode cX8_liars 79 = .ok (.getfield 9, 3) := dcw_180 (by decide +kernel)
theorem dX8_liars_82 : decode cX8_liars 82 = .ok (.iload 6, 2) := dcu_21 (by decide +kernel)
theorem dX8_liars_84 : decode cX8_liars 84 = .ok (.iaload, 1) := dc1_46 (by decide +kernel)
theorem dX8_liars_85 : decode cX8_liars 85 = .ok (.iload 4, 2) := dcu_21 (by decide +kernel)
theorem dX8_liars_87 : decode cX8_liars 87 = .ok (.if_icmp .ne 23, 3) := dcs_160 (n := 23) (by decide +kernel)
theorem dX8_liars_90 : decode cX8_liars 90 = .ok (.aload_n 0, 1) := dc1_42 (by decide +kernel)
theorem dX8_liars_91 : decode cX8_liars 91 = .ok (.getfield 15, 3) := dcw_180 (by decide +kernel)
theorem dX8_liars_94 : decode cX8_liars 94 = .ok (.iload 6, 2) := dcu_21 (by decide +kernel)
theorem dX8_liars_96 : decode cX8_liars 96 = .ok (.iaload, 1) := dc1_46 (by decide +kernel)
theorem dX8_liars_97 : decode cX8_liars 97 = .ok (.iload 5, 2) := dcu_21 (by decide +kernel)
theorem dX8_liars_99 : decode cX8_liars 99 = .ok (.iand, 1) := dc1_126 (by decide +kernel)
theorem dX8_liars_100 : decode cX8_liars 100 = .ok (.ifCond .ne 10, 3) := dcs_154 (n := 10) (by decide +kernel)
theorem dX8_liars_103 : decode cX8_liars 103 = .ok (.iconst 1, 1) := dc1_4 (by decide +kernel)
theorem dX8_liars_104 : decode cX8_liars 104 = .ok (.iload 6, 2) := dcu_21 (by decide +kernel)
theorem dX8_liars_106 : decode cX8_liars 106 = .ok (.ishl, 1) := dc1_120 (by decide +kernel)
theorem dX8_liars_107 : decode cX8_liars 107 = .ok (.goto 4, 3) := dcs_167 (n := 4) (by decide +kernel)
theorem dX8_liars_110 : decode cX8_liars 110 = .ok (.iconst 0, 1) := dc1_3 (by decide +kernel)
theorem dX8_liars_111 : decode cX8_liars 111 = .ok (.ior, 1) := dc1_128 (by decide +kernel)
theorem dX8_liars_112 : decode cX8_liars 112 = .ok (.istore_n 3, 1) := dc1_62 (by decide +kernel)
theorem dX8_liars_113 : decode cX8_liars 113 = .ok (.iinc 6 1, 3) := dc_iinc (m := 1) (by decide +kernel)
theorem dX8_liars_116 : decode cX8_liars 116 = .ok (.goto (-45), 3) := dcs_167 (n := 65491) (by decide +kernel)
theorem dX8_liars_119 : decode cX8_liars 119 = .ok (.iinc 4 1, 3) := dc_iinc (m := 1) (by decide +kernel)
theorem dX8_liars_122 : decode cX8_liars 122 = .ok (.goto (-117), 3) := dcs_167 (n := 65419) (by decide +kernel)
theorem dX8_liars_125 : decode cX8_liars 125 = .ok (.iload_n 3, 1) := dc1_29 (by decide +kernel)
theorem dX8_liars_126 : decode cX8_liars 126 = .ok (.ireturn, 1) := dc1_172 (by decide +kernel)
theorem LX5_addUp_15 : Cond.fieldLink RX5 15 "GuessFerry$Sound" "oddsSums" "[I" ∈ wsX5_addUp := (List.mem_cons_of_mem _ (List.mem_append_left _ (List.mem_append_left _ (List.mem_of_getElem? (i := 2) rfl))))
theorem LX5_addUp_18 : Cond.fieldLink RX5 18 "GuessFerry$Sound" "likely" "[I" ∈ wsX5_addUp := (List.mem_cons_of_mem _ (List.mem_append_left _ (List.mem_append_left _ (List.mem_of_getElem? (i := 3) rfl))))
theorem LX5_addUp_37 : Cond.fieldLink RX5 37 "GuessFerry$Sound" "waves" "I" ∈ wsX5_addUp := (List.mem_cons_of_mem _ (List.mem_append_left _ (List.mem_append_left _ (List.mem_of_getElem? (i := 1) rfl))))
theorem LX5_addUp_44 : Cond.fieldLink RX5 44 "GuessFerry$Sound" "guesses" "I" ∈ wsX5_addUp := (List.mem_cons_of_mem _ (List.mem_append_left _ (List.mem_append_left _ (List.mem_of_getElem? (i := 0) rfl))))
theorem inX5_addUp_X5 : ∀ w ∈ u_ws RX5 TX5 10, w ∈ wsX5_addUp := fun w h => (List.mem_cons_of_mem _ (List.mem_append_right _ h))
set_option maxHeartbeats 4000000 in
set_option maxRecDepth 100000 in
theorem bkX5_addUp_75 {l : Launch} {dC : Nat → ClassId} {dI : Nat → Nat → Nat} {cB cI cJ cZ cS : ClassId} {a : Nat → Nat} {as : List Value} {s' : KS} {k7 : KS → Int32 → Option KS} {k31 : KS → Int32 → Int32 → Option KS} (hk7 : ∀ (s : KS) (x1 : Int32), k7 s x1 = some s' → BlkV l yX5_addUp wsX5_addUp ({ frames := 1, cells := 0, slots := 0, locals := 22 }) cX5_addUp 3 none (dC, dI) (tysA cB cI cJ cZ cS) as 7 (wK cB cI cJ cZ cS a s) [(0, .ref (a 15)), (1, .int x1)] [] (fun u => u = (wK cB cI cJ cZ cS a s'))) (hk31 : ∀ (s : KS) (x1 : Int32) (x2 : Int32), k31 s x1 x2 = some s' → BlkV l yX5_addUp wsX5_addUp ({ frames := 1, cells := 0, slots := 0, locals := 22 }) cX5_addUp 3 none (dC, dI) (tysA cB cI cJ cZ cS) as 31 (wK cB cI cJ cZ cS a s) [(0, .ref (a 15)), (1, .int x1), (2, .int x2)] [] (fun u => u = (wK cB cI cJ cZ cS a s'))) (s : KS) (x1 : Int32) (x2 : Int32) (t0 : Int32) (t1 : Int32) (t2 : Int32) (hB : kX5_addUp_75 k7 k31 s x1 x2 t0 t1 t2 = some s') : BlkV l yX5_addUp wsX5_addUp ({ frames := 1, cells := 0, slots := 0, locals := 22 }) cX5_addUp 3 none (dC, dI) (tysA cB cI cJ cZ cS) as 75 (wK cB cI cJ cZ cS a s) [(0, .ref (a 15)), (1, .int x1), (2, .int x2)] [.int t0, .int t1, .int t2, .ref (a 18)] (fun u => u = (wK cB cI cJ cZ cS a s')) := by
  intro p e s0 m below meth c A E H locs ls hP hD hS hl
  obtain ⟨C, hr, hlocks, hA, hK, hN⟩ := id E
  obtain ⟨hx, hb, hml, hown, hts⟩ := id C
  unfold kX5_addUp_75 at hB
  refine lv_ior hx hb dX5_addUp_75 ?_
  obtain ⟨g1, hB⟩ := guard_inv hB
  obtain ⟨s2, hs3, hB⟩ := letS_inv hB
  refine q_iast (f2 := (upd (s.f 18) (Int32.toNatClampNeg t2) (t1 ||| t0))) (w2 := (wK cB cI cJ cZ cS a s2)) C hK hP hD hS 18 1 rfl rfl (vpb_in g1) dX5_addUp_76 rfl (by subst hs3; rfl) (fun H locs hP hD hS => ?_)
  refine lv_iinc (v := (x2 + 1)) (lv' := [(2, .int (x2 + 1)), (0, .ref (a 15)), (1, .int x1)]) hx hb dX5_addUp_77 hl (k := 2) rfl (rfl) (by decide) rfl (fun ls hl => ?_)
  refine lv_goto (tgt := 31) hx hb dX5_addUp_80 (by decide) ?_
  exact hk31 _ _ _ hB p e s0 m below meth c A E H locs ls hP hD hS (lv_sub hl [1, 2, 0] rfl)
set_option maxHeartbeats 4000000 in
set_option maxRecDepth 100000 in
theorem bkX5_addUp_31 {l : Launch} {dC : Nat → ClassId} {dI : Nat → Nat → Nat} {cB cI cJ cZ cS : ClassId} {a : Nat → Nat} {as : List Value} {s' : KS} {k7 : KS → Int32 → Option KS} {k31 : KS → Int32 → Int32 → Option KS} (hk7 : ∀ (s : KS) (x1 : Int32), k7 s x1 = some s' → BlkV l yX5_addUp wsX5_addUp ({ frames := 1, cells := 0, slots := 0, locals := 22 }) cX5_addUp 3 none (dC, dI) (tysA cB cI cJ cZ cS) as 7 (wK cB cI cJ cZ cS a s) [(0, .ref (a 15)), (1, .int x1)] [] (fun u => u = (wK cB cI cJ cZ cS a s'))) (hk31 : ∀ (s : KS) (x1 : Int32) (x2 : Int32), k31 s x1 x2 = some s' → BlkV l yX5_addUp wsX5_addUp ({ frames := 1, cells := 0, slots := 0, locals := 22 }) cX5_addUp 3 none (dC, dI) (tysA cB cI cJ cZ cS) as 31 (wK cB cI cJ cZ cS a s) [(0, .ref (a 15)), (1, .int x1), (2, .int x2)] [] (fun u => u = (wK cB cI cJ cZ cS a s'))) (s : KS) (x1 : Int32) (x2 : Int32) (hB : kX5_addUp_31 k7 k31 s x1 x2 = some s') : BlkV l yX5_addUp wsX5_addUp ({ frames := 1, cells := 0, slots := 0, locals := 22 }) cX5_addUp 3 none (dC, dI) (tysA cB cI cJ cZ cS) as 31 (wK cB cI cJ cZ cS a s) [(0, .ref (a 15)), (1, .int x1), (2, .int x2)] [] (fun u => u = (wK cB cI cJ cZ cS a s')) := by
  intro p e s0 m below meth c A E H locs ls hP hD hS hl
  obtain ⟨C, hr, hlocks, hA, hK, hN⟩ := id E
  obtain ⟨hx, hb, hml, hown, hts⟩ := id C
  unfold kX5_addUp_31 at hB
  refine lv_iload_n hx hb dX5_addUp_31 rfl (lv_at hl 2 rfl) ?_
  refine lv_bipush (v := 6) hx hb dX5_addUp_32 (by decide) ?_
  refine lv_icmp_ge (tgt := 83) hx hb dX5_addUp_34 (by decide) (fun c1 => ?_) (fun c1 => ?_)
  · have hB := if_p hB c1
    refine lv_aload_n hx hb dX5_addUp_83 rfl (lv_at hl 0 rfl) ?_
    refine lv_dup hx hb dX5_addUp_84 rfl ?_
    refine q_get (v := .int (s.v 10)) C inX5_addUp_X5 hK hP 15 rfl rfl 8 (by decide) rfl LX5_addUp_44 rfl dX5_addUp_85 ?_
    refine lv_bipush (v := 6) hx hb dX5_addUp_88 (by decide) ?_
    refine lv_imul hx hb dX5_addUp_90 ?_
    obtain ⟨s2, hs3, hB⟩ := letS_inv hB
    refine q_put (ty := .int) (w2 := (wK cB cI cJ cZ cS a s2)) tyX5 tyX5_ok nmX5 C inX5_addUp_X5 hK hP hD hS 15 rfl rfl 8 (by decide) rfl LX5_addUp_44 rfl (by decide +kernel) (rfl) rfl (Nat.le_of_ble_eq_true rfl) dX5_addUp_91 (by subst hs3; rfl) (fun H locs hP hD hS => ?_)
    refine lv_iinc (v := (x1 + 1)) (lv' := [(1, .int (x1 + 1)), (0, .ref (a 15)), (2, .int x2)]) hx hb dX5_addUp_94 hl (k := 1) rfl (rfl) (by decide) rfl (fun ls hl => ?_)
    refine lv_goto (tgt := 7) hx hb dX5_addUp_97 (by decide) ?_
    exact hk7 _ _ hB p e s0 m below meth c A E H locs ls hP hD hS (lv_sub hl [1, 0] rfl)
  · have hB := if_n hB c1
    refine lv_aload_n hx hb dX5_addUp_37 rfl (lv_at hl 0 rfl) ?_
    refine q_get (v := .ref (a 17)) C inX5_addUp_X5 hK hP 15 rfl rfl 1 (by decide) rfl LX5_addUp_15 rfl dX5_addUp_38 ?_
    refine lv_iload_n hx hb dX5_addUp_41 rfl (lv_at hl 1 rfl) ?_
    refine lv_dup2_11 hx hb dX5_addUp_42 rfl rfl ?_
    obtain ⟨g4, hB⟩ := guard_inv hB
    refine q_iald (x := ((s.f 17) (Int32.toNatClampNeg x1))) C hK hP 17 1 rfl rfl (vpb_in g4) dX5_addUp_43 rfl ?_
    refine lv_aload_n hx hb dX5_addUp_44 rfl (lv_at hl 0 rfl) ?_
    refine lv_iload_n hx hb dX5_addUp_45 rfl (lv_at hl 1 rfl) ?_
    refine lv_iload_n hx hb dX5_addUp_46 rfl (lv_at hl 2 rfl) ?_
    obtain ⟨q_, s5, hc, hB⟩ := bindI_inv hB
    refine q_goiF (va_runV (As := [.int x1, .int x2]) (rest := [.int ((s.f 17) (Int32.toNatClampNeg x1)), .int x1, .ref (a 17)]) C (ckX5_oddsAt_d hc _) (cwV 2 hts gX5_addUp_X5_oddsAt rfl rfl rfl (by decide +kernel) ⟨Nat.le_of_ble_eq_true rfl, Nat.le_of_ble_eq_true rfl⟩) (q_preV hK hP (ci := 5) (q0 := 15) rfl rfl rfl (q_preF hN hK hP hD)) rfl rfl hl.1 rfl (lv_room (Nat.le_of_ble_eq_true rfl)) dX5_addUp_47 ⟨Nat.le_of_ble_eq_true rfl, Nat.le_of_ble_eq_true rfl⟩) hD hS hA (fun r6 w1 H locs hw hP hD hS => ?_)
    obtain ⟨hq_, hw⟩ := hw; subst hw; subst hq_
    refine lv_iadd hx hb dX5_addUp_50 ?_
    obtain ⟨g7, hB⟩ := guard_inv hB
    obtain ⟨s8, hs9, hB⟩ := letS_inv hB
    refine q_iast (f2 := (upd (s5.f 17) (Int32.toNatClampNeg x1) (((s.f 17) (Int32.toNatClampNeg x1)) + r6))) (w2 := (wK cB cI cJ cZ cS a s8)) C hK hP hD hS 17 1 rfl rfl (vpb_in g7) dX5_addUp_51 rfl (by subst hs9; rfl) (fun H locs hP hD hS => ?_)
    refine lv_aload_n hx hb dX5_addUp_52 rfl (lv_at hl 0 rfl) ?_
    refine q_get (v := .ref (a 18)) C inX5_addUp_X5 hK hP 15 rfl rfl 2 (by decide) rfl LX5_addUp_18 rfl dX5_addUp_53 ?_
    refine lv_iload_n hx hb dX5_addUp_56 rfl (lv_at hl 1 rfl) ?_
    refine lv_dup2_11 hx hb dX5_addUp_57 rfl rfl ?_
    obtain ⟨g10, hB⟩ := guard_inv hB
    refine q_iald (x := ((s8.f 18) (Int32.toNatClampNeg x1))) C hK hP 18 1 rfl rfl (vpb_in g10) dX5_addUp_58 rfl ?_
    refine lv_aload_n hx hb dX5_addUp_59 rfl (lv_at hl 0 rfl) ?_
    refine lv_iload_n hx hb dX5_addUp_60 rfl (lv_at hl 1 rfl) ?_
    refine lv_iload_n hx hb dX5_addUp_61 rfl (lv_at hl 2 rfl) ?_
    obtain ⟨q_, s11, hc, hB⟩ := bindI_inv hB
    refine q_goiF (va_runV (As := [.int x1, .int x2]) (rest := [.int ((s8.f 18) (Int32.toNatClampNeg x1)), .int x1, .ref (a 18)]) C (ckX5_oddsAt_d hc _) (cwV 2 hts gX5_addUp_X5_oddsAt rfl rfl rfl (by decide +kernel) ⟨Nat.le_of_ble_eq_true rfl, Nat.le_of_ble_eq_true rfl⟩) (q_preV hK hP (ci := 5) (q0 := 15) rfl rfl rfl (q_preF hN hK hP hD)) rfl rfl hl.1 rfl (lv_room (Nat.le_of_ble_eq_true rfl)) dX5_addUp_62 ⟨Nat.le_of_ble_eq_true rfl, Nat.le_of_ble_eq_true rfl⟩) hD hS hA (fun r12 w1 H locs hw hP hD hS => ?_)
    obtain ⟨hq_, hw⟩ := hw; subst hw; subst hq_
    refine lv_if_le (tgt := 74) hx hb dX5_addUp_65 (by decide) (fun c13 => ?_) (fun c13 => ?_)
    · have hB := if_p hB c13
      refine lv_iconst (v := 0) hx hb dX5_addUp_74 (by decide) ?_
      exact bkX5_addUp_75 (hk7) (hk31) _ _ _ _ _ _ hB p e s0 m below meth c A E H locs ls hP hD hS (lv_sub hl [0, 1, 2] rfl)
    · have hB := if_n hB c13
      refine lv_iconst (v := 1) hx hb dX5_addUp_68 (by decide) ?_
      refine lv_iload_n hx hb dX5_addUp_69 rfl (lv_at hl 2 rfl) ?_
      refine lv_ishl hx hb dX5_addUp_70 ?_
      refine lv_goto (tgt := 75) hx hb dX5_addUp_71 (by decide) ?_
      exact bkX5_addUp_75 (hk7) (hk31) _ _ _ _ _ _ hB p e s0 m below meth c A E H locs ls hP hD hS (lv_sub hl [0, 1, 2] rfl)
theorem bkX5_addUp_31L {l : Launch} {dC : Nat → ClassId} {dI : Nat → Nat → Nat} {cB cI cJ cZ cS : ClassId} {a : Nat → Nat} {as : List Value} {s' : KS} {k7 : KS → Int32 → Option KS} (hk7 : ∀ (s : KS) (x1 : Int32), k7 s x1 = some s' → BlkV l yX5_addUp wsX5_addUp ({ frames := 1, cells := 0, slots := 0, locals := 22 }) cX5_addUp 3 none (dC, dI) (tysA cB cI cJ cZ cS) as 7 (wK cB cI cJ cZ cS a s) [(0, .ref (a 15)), (1, .int x1)] [] (fun u => u = (wK cB cI cJ cZ cS a s'))) : ∀ (n : Nat) (s : KS) (x1 : Int32) (x2 : Int32), kX5_addUp_31L k7 n s x1 x2 = some s' → BlkV l yX5_addUp wsX5_addUp ({ frames := 1, cells := 0, slots := 0, locals := 22 }) cX5_addUp 3 none (dC, dI) (tysA cB cI cJ cZ cS) as 31 (wK cB cI cJ cZ cS a s) [(0, .ref (a 15)), (1, .int x1), (2, .int x2)] [] (fun u => u = (wK cB cI cJ cZ cS a s')) := by
  intro n
  induction n with
  | zero => intro s x1 x2 hB; exact none_ne hB
  | succ n ih => intro s x1 x2 hB; exact bkX5_addUp_31 hk7 ih _ _ _ hB
set_option maxHeartbeats 4000000 in
set_option maxRecDepth 100000 in
theorem bkX5_addUp_7 {l : Launch} {dC : Nat → ClassId} {dI : Nat → Nat → Nat} {cB cI cJ cZ cS : ClassId} {a : Nat → Nat} {as : List Value} {s' : KS} {k7 : KS → Int32 → Option KS} (hk7 : ∀ (s : KS) (x1 : Int32), k7 s x1 = some s' → BlkV l yX5_addUp wsX5_addUp ({ frames := 1, cells := 0, slots := 0, locals := 22 }) cX5_addUp 3 none (dC, dI) (tysA cB cI cJ cZ cS) as 7 (wK cB cI cJ cZ cS a s) [(0, .ref (a 15)), (1, .int x1)] [] (fun u => u = (wK cB cI cJ cZ cS a s'))) (s : KS) (x1 : Int32) (hB : kX5_addUp_7 k7 s x1 = some s') : BlkV l yX5_addUp wsX5_addUp ({ frames := 1, cells := 0, slots := 0, locals := 22 }) cX5_addUp 3 none (dC, dI) (tysA cB cI cJ cZ cS) as 7 (wK cB cI cJ cZ cS a s) [(0, .ref (a 15)), (1, .int x1)] [] (fun u => u = (wK cB cI cJ cZ cS a s')) := by
  intro p e s0 m below meth c A E H locs ls hP hD hS hl
  obtain ⟨C, hr, hlocks, hA, hK, hN⟩ := id E
  obtain ⟨hx, hb, hml, hown, hts⟩ := id C
  unfold kX5_addUp_7 at hB
  refine lv_iload_n hx hb dX5_addUp_7 rfl (lv_at hl 1 rfl) ?_
  refine lv_aload_n hx hb dX5_addUp_8 rfl (lv_at hl 0 rfl) ?_
  refine q_get (v := .int (s.v 8)) C inX5_addUp_X5 hK hP 15 rfl rfl 6 (by decide) rfl LX5_addUp_37 rfl dX5_addUp_9 ?_
  refine lv_icmp_ge (tgt := 100) hx hb dX5_addUp_12 (by decide) (fun c1 => ?_) (fun c1 => ?_)
  · have hB := if_p hB c1
    exact q_vret C hr hlocks hK hP hD hS (Nat.le_of_ble_eq_true rfl) (Nat.le_of_ble_eq_true rfl) dX5_addUp_100 (by cases hB; rfl)
  · have hB := if_n hB c1
    refine lv_aload_n hx hb dX5_addUp_15 rfl (lv_at hl 0 rfl) ?_
    refine q_get (v := .ref (a 17)) C inX5_addUp_X5 hK hP 15 rfl rfl 1 (by decide) rfl LX5_addUp_15 rfl dX5_addUp_16 ?_
    refine lv_iload_n hx hb dX5_addUp_19 rfl (lv_at hl 1 rfl) ?_
    refine lv_iconst (v := 0) hx hb dX5_addUp_20 (by decide) ?_
    obtain ⟨g2, hB⟩ := guard_inv hB
    obtain ⟨s3, hs4, hB⟩ := letS_inv hB
    refine q_iast (f2 := (upd (s.f 17) (Int32.toNatClampNeg x1) 0)) (w2 := (wK cB cI cJ cZ cS a s3)) C hK hP hD hS 17 1 rfl rfl (vpb_in g2) dX5_addUp_21 rfl (by subst hs4; rfl) (fun H locs hP hD hS => ?_)
    refine lv_aload_n hx hb dX5_addUp_22 rfl (lv_at hl 0 rfl) ?_
    refine q_get (v := .ref (a 18)) C inX5_addUp_X5 hK hP 15 rfl rfl 2 (by decide) rfl LX5_addUp_18 rfl dX5_addUp_23 ?_
    refine lv_iload_n hx hb dX5_addUp_26 rfl (lv_at hl 1 rfl) ?_
    refine lv_iconst (v := 0) hx hb dX5_addUp_27 (by decide) ?_
    obtain ⟨g5, hB⟩ := guard_inv hB
    obtain ⟨s6, hs7, hB⟩ := letS_inv hB
    refine q_iast (f2 := (upd (s3.f 18) (Int32.toNatClampNeg x1) 0)) (w2 := (wK cB cI cJ cZ cS a s6)) C hK hP hD hS 18 1 rfl rfl (vpb_in g5) dX5_addUp_28 rfl (by subst hs7; rfl) (fun H locs hP hD hS => ?_)
    refine lv_iconst (v := 0) hx hb dX5_addUp_29 (by decide) ?_
    refine lv_istore_n (lv' := [(2, .int 0), (0, .ref (a 15)), (1, .int x1)]) hx hb dX5_addUp_30 rfl hl (by decide) rfl (fun ls hl => ?_)
    exact bkX5_addUp_31L (hk7) fu _ _ _ hB p e s0 m below meth c A E H locs ls hP hD hS (lv_sub hl [1, 2, 0] rfl)
theorem bkX5_addUp_7L {l : Launch} {dC : Nat → ClassId} {dI : Nat → Nat → Nat} {cB cI cJ cZ cS : ClassId} {a : Nat → Nat} {as : List Value} {s' : KS} : ∀ (n : Nat) (s : KS) (x1 : Int32), kX5_addUp_7L n s x1 = some s' → BlkV l yX5_addUp wsX5_addUp ({ frames := 1, cells := 0, slots := 0, locals := 22 }) cX5_addUp 3 none (dC, dI) (tysA cB cI cJ cZ cS) as 7 (wK cB cI cJ cZ cS a s) [(0, .ref (a 15)), (1, .int x1)] [] (fun u => u = (wK cB cI cJ cZ cS a s')) := by
  intro n
  induction n with
  | zero => intro s x1 hB; exact none_ne hB
  | succ n ih => intro s x1 hB; exact bkX5_addUp_7 ih _ _ hB
set_option maxHeartbeats 4000000 in
set_option maxRecDepth 100000 in
theorem bkX5_addUp {l : Launch} {dC : Nat → ClassId} {dI : Nat → Nat → Nat} {cB cI cJ cZ cS : ClassId} {a : Nat → Nat} {as : List Value} {s' : KS} (s : KS) (hB : kX5_addUp s = some s') : BlkV l yX5_addUp wsX5_addUp ({ frames := 1, cells := 0, slots := 0, locals := 22 }) cX5_addUp 3 none (dC, dI) (tysA cB cI cJ cZ cS) as 0 (wK cB cI cJ cZ cS a s) [(0, .ref (a 15))] [] (fun u => u = (wK cB cI cJ cZ cS a s')) := by
  intro p e s0 m below meth c A E H locs ls hP hD hS hl
  obtain ⟨C, hr, hlocks, hA, hK, hN⟩ := id E
  obtain ⟨hx, hb, hml, hown, hts⟩ := id C
  unfold kX5_addUp at hB
  refine lv_aload_n hx hb dX5_addUp_0 rfl (lv_at hl 0 rfl) ?_
  refine lv_iconst (v := 1) hx hb dX5_addUp_1 (by decide) ?_
  obtain ⟨s1, hs2, hB⟩ := letS_inv hB
  refine q_put (ty := .int) (w2 := (wK cB cI cJ cZ cS a s1)) tyX5 tyX5_ok nmX5 C inX5_addUp_X5 hK hP hD hS 15 rfl rfl 8 (by decide) rfl LX5_addUp_44 rfl (by decide +kernel) (rfl) rfl (Nat.le_of_ble_eq_true rfl) dX5_addUp_2 (by subst hs2; rfl) (fun H locs hP hD hS => ?_)
  refine lv_iconst (v := 0) hx hb dX5_addUp_5 (by decide) ?_
  refine lv_istore_n (lv' := [(1, .int 0), (0, .ref (a 15))]) hx hb dX5_addUp_6 rfl hl (by decide) rfl (fun ls hl => ?_)
  exact bkX5_addUp_7L fu _ _ hB p e s0 m below meth c A E H locs ls hP hD hS (lv_sub hl [1, 0] rfl)
theorem ckX5_addUp {l : Launch} {dC : Nat → ClassId} {dI : Nat → Nat → Nat} {cB cI cJ cZ cS : ClassId} {a : Nat → Nat} {s' : KS} {s : KS} (hB : kX5_addUp s = some s') : CV l yX5_addUp wsX5_addUp ({ frames := 1, cells := 0, slots := 0, locals := 22 }) (dC, dI) (tysA cB cI cJ cZ cS) (wK cB cI cJ cZ cS a s) [.ref (a 15)] (fun u => u = (wK cB cI cJ cZ cS a s')) :=
  CV_of (cc := cX5_addUp) (maxL := 3) (ret := none) (by decide) rfl (Nat.le_of_ble_eq_true rfl) (bkX5_addUp _ hB)
theorem LX6_startOver_15 : Cond.fieldLink RX6 15 "GuessFerry$Standing" "buoys" "[I" ∈ wsX6_startOver := (List.mem_cons_of_mem _ (List.mem_append_left _ (List.mem_append_left _ (List.mem_of_getElem? (i := 1) rfl))))
theorem LX6_startOver_18 : Cond.fieldLink RX6 18 "GuessFerry$Standing" "shifted" "[I" ∈ wsX6_startOver := (List.mem_cons_of_mem _ (List.mem_append_left _ (List.mem_append_left _ (List.mem_of_getElem? (i := 2) rfl))))
theorem LX6_startOver_21 : Cond.fieldLink RX6 21 "GuessFerry$Standing" "status" "[I" ∈ wsX6_startOver := (List.mem_cons_of_mem _ (List.mem_append_left _ (List.mem_append_left _ (List.mem_of_getElem? (i := 3) rfl))))
theorem LX6_startOver_24 : Cond.fieldLink RX6 24 "GuessFerry$Standing" "goes" "[I" ∈ wsX6_startOver := (List.mem_cons_of_mem _ (List.mem_append_left _ (List.mem_append_left _ (List.mem_of_getElem? (i := 4) rfl))))
theorem LX6_startOver_33 : Cond.fieldLink RX6 33 "GuessFerry$Standing" "year" "I" ∈ wsX6_startOver := (List.mem_cons_of_mem _ (List.mem_append_left _ (List.mem_append_left _ (List.mem_of_getElem? (i := 5) rfl))))
theorem LX6_startOver_37 : Cond.fieldLink RX6 37 "GuessFerry$Standing" "paid" "I" ∈ wsX6_startOver := (List.mem_cons_of_mem _ (List.mem_append_left _ (List.mem_append_left _ (List.mem_of_getElem? (i := 6) rfl))))
theorem LX6_startOver_9 : Cond.fieldLink RX6 9 "GuessFerry$Standing" "found" "[I" ∈ wsX6_startOver := (List.mem_cons_of_mem _ (List.mem_append_left _ (List.mem_append_left _ (List.mem_of_getElem? (i := 0) rfl))))
theorem inX6_startOver_X6 : ∀ w ∈ u_ws RX6 TX6 7, w ∈ wsX6_startOver := fun w h => (List.mem_cons_of_mem _ (List.mem_append_right _ h))
set_option maxHeartbeats 4000000 in
set_option maxRecDepth 100000 in
theorem bkX6_startOver {l : Launch} {dC : Nat → ClassId} {dI : Nat → Nat → Nat} {cB cI cJ cZ cS : ClassId} {b : Nat → Nat} {as : List Value} {s' : SD} (s : SD) (hB : kX6_startOver s = some s') : BlkV l yX6_startOver wsX6_startOver ({ frames := 1, cells := 0, slots := 0, locals := 23 }) cX6_startOver 1 none (dC, dI) (tysA cB cI cJ cZ cS) as 0 (wD cI b s) [(0, .ref (b 0))] [] (fun u => u = (wD cI b s')) := by
  intro p e s0 m below meth c A E H locs ls hP hD hS hl
  obtain ⟨C, hr, hlocks, hA, hK, hN⟩ := id E
  obtain ⟨hx, hb, hml, hown, hts⟩ := id C
  unfold kX6_startOver at hB
  refine lv_aload_n hx hb dX6_startOver_0 rfl (lv_at hl 0 rfl) ?_
  refine q_get (v := .ref (b 1)) C inX6_startOver_X6 hK hP 0 rfl rfl 0 (by decide) rfl LX6_startOver_9 rfl dX6_startOver_1 ?_
  refine lv_iconst (v := (-1)) hx hb dX6_startOver_4 (by decide) ?_
  obtain ⟨s1, hc, hB⟩ := bindP_inv hB
  refine q_gov (wr := (((wD cI b s)).eraseIdx 1)) (va_runS (As := [.ref (b 1), .int (-1)]) (rest := []) C (ckJ7_fill_53178_5 hc _) (va_cwS 2 hts gX6_startOver_J7_fill_53178 rfl rfl rfl (by decide +kernel) ⟨Nat.le_of_ble_eq_true rfl, Nat.le_of_ble_eq_true rfl⟩) (q_pre hN hK hP hD [1] rfl zqn_12) rfl rfl hl.1 rfl (lv_room (Nat.le_of_ble_eq_true rfl)) dX6_startOver_5 ⟨Nat.le_of_ble_eq_true rfl, Nat.le_of_ble_eq_true rfl⟩) hP hD hS hA [1] [0, 2, 3, 4, 5] rfl rfl zqn_17 zqd_6 (fun w1 H locs hw hP hD hS => ?_)
  subst hw
  obtain ⟨s2, hs3, hB⟩ := letS_inv hB
  have hP : va_P (dC, dI) vwCl (wD cI b s2) H := by subst hs3; exact hP.sub [0, 5, 1, 2, 3, 4] rfl
  have hD : va_D A (wD cI b s2) := by subst hs3; exact hD.sub [0, 5, 1, 2, 3, 4] (by decide) rfl
  refine lv_aload_n hx hb dX6_startOver_8 rfl (lv_at hl 0 rfl) ?_
  refine q_get (v := .ref (b 2)) C inX6_startOver_X6 hK hP 0 rfl rfl 1 (by decide) rfl LX6_startOver_15 rfl dX6_startOver_9 ?_
  refine lv_iconst (v := 0) hx hb dX6_startOver_12 (by decide) ?_
  obtain ⟨s4, hc, hB⟩ := bindP_inv hB
  refine q_gov (wr := (((wD cI b s2)).eraseIdx 2)) (va_runS (As := [.ref (b 2), .int 0]) (rest := []) C (ckJ7_fill_53178_5 hc _) (va_cwS 2 hts gX6_startOver_J7_fill_53178 rfl rfl rfl (by decide +kernel) ⟨Nat.le_of_ble_eq_true rfl, Nat.le_of_ble_eq_true rfl⟩) (q_pre hN hK hP hD [2] rfl zqn_13) rfl rfl hl.1 rfl (lv_room (Nat.le_of_ble_eq_true rfl)) dX6_startOver_13 ⟨Nat.le_of_ble_eq_true rfl, Nat.le_of_ble_eq_true rfl⟩) hP hD hS hA [2] [0, 1, 3, 4, 5] rfl rfl zqn_18 zqd_7 (fun w1 H locs hw hP hD hS => ?_)
  subst hw
  obtain ⟨s5, hs6, hB⟩ := letS_inv hB
  have hP : va_P (dC, dI) vwCl (wD cI b s5) H := by subst hs6; exact hP.sub [0, 1, 5, 2, 3, 4] rfl
  have hD : va_D A (wD cI b s5) := by subst hs6; exact hD.sub [0, 1, 5, 2, 3, 4] (by decide) rfl
  refine lv_aload_n hx hb dX6_startOver_16 rfl (lv_at hl 0 rfl) ?_
  refine q_get (v := .ref (b 3)) C inX6_startOver_X6 hK hP 0 rfl rfl 2 (by decide) rfl LX6_startOver_18 rfl dX6_startOver_17 ?_
  refine lv_iconst (v := 0) hx hb dX6_startOver_20 (by decide) ?_
  obtain ⟨s7, hc, hB⟩ := bindP_inv hB
  refine q_gov (wr := (((wD cI b s5)).eraseIdx 3)) (va_runS (As := [.ref (b 3), .int 0]) (rest := []) C (ckJ7_fill_53178_5 hc _) (va_cwS 2 hts gX6_startOver_J7_fill_53178 rfl rfl rfl (by decide +kernel) ⟨Nat.le_of_ble_eq_true rfl, Nat.le_of_ble_eq_true rfl⟩) (q_pre hN hK hP hD [3] rfl zqn_14) rfl rfl hl.1 rfl (lv_room (Nat.le_of_ble_eq_true rfl)) dX6_startOver_21 ⟨Nat.le_of_ble_eq_true rfl, Nat.le_of_ble_eq_true rfl⟩) hP hD hS hA [3] [0, 1, 2, 4, 5] rfl rfl zqn_19 zqd_8 (fun w1 H locs hw hP hD hS => ?_)
  subst hw
  obtain ⟨s8, hs9, hB⟩ := letS_inv hB
  have hP : va_P (dC, dI) vwCl (wD cI b s8) H := by subst hs9; exact hP.sub [0, 1, 2, 5, 3, 4] rfl
  have hD : va_D A (wD cI b s8) := by subst hs9; exact hD.sub [0, 1, 2, 5, 3, 4] (by decide) rfl
  refine lv_aload_n hx hb dX6_startOver_24 rfl (lv_at hl 0 rfl) ?_
  refine q_get (v := .ref (b 4)) C inX6_startOver_X6 hK hP 0 rfl rfl 3 (by decide) rfl LX6_startOver_21 rfl dX6_startOver_25 ?_
  refine lv_iconst (v := 0) hx hb dX6_startOver_28 (by decide) ?_
  obtain ⟨s10, hc, hB⟩ := bindP_inv hB
  refine q_gov (wr := (((wD cI b s8)).eraseIdx 4)) (va_runS (As := [.ref (b 4), .int 0]) (rest := []) C (ckJ7_fill_53178_6 hc _) (va_cwS 2 hts gX6_startOver_J7_fill_53178 rfl rfl rfl (by decide +kernel) ⟨Nat.le_of_ble_eq_true rfl, Nat.le_of_ble_eq_true rfl⟩) (q_pre hN hK hP hD [4] rfl zqn_15) rfl rfl hl.1 rfl (lv_room (Nat.le_of_ble_eq_true rfl)) dX6_startOver_29 ⟨Nat.le_of_ble_eq_true rfl, Nat.le_of_ble_eq_true rfl⟩) hP hD hS hA [4] [0, 1, 2, 3, 5] rfl rfl zqn_20 zqd_9 (fun w1 H locs hw hP hD hS => ?_)
  subst hw
  obtain ⟨s11, hs12, hB⟩ := letS_inv hB
  have hP : va_P (dC, dI) vwCl (wD cI b s11) H := by subst hs12; exact hP.sub [0, 1, 2, 3, 5, 4] rfl
  have hD : va_D A (wD cI b s11) := by subst hs12; exact hD.sub [0, 1, 2, 3, 5, 4] (by decide) rfl
  refine lv_aload_n hx hb dX6_startOver_32 rfl (lv_at hl 0 rfl) ?_
  refine q_get (v := .ref (b 5)) C inX6_startOver_X6 hK hP 0 rfl rfl 4 (by decide) rfl LX6_startOver_24 rfl dX6_startOver_33 ?_
  refine lv_iconst (v := 0) hx hb dX6_startOver_36 (by decide) ?_
  obtain ⟨s13, hc, hB⟩ := bindP_inv hB
  refine q_gov (wr := (((wD cI b s11)).eraseIdx 5)) (va_runS (As := [.ref (b 5), .int 0]) (rest := []) C (ckJ7_fill_53178_6 hc _) (va_cwS 2 hts gX6_startOver_J7_fill_53178 rfl rfl rfl (by decide +kernel) ⟨Nat.le_of_ble_eq_true rfl, Nat.le_of_ble_eq_true rfl⟩) (q_pre hN hK hP hD [5] rfl zqn_16) rfl rfl hl.1 rfl (lv_room (Nat.le_of_ble_eq_true rfl)) dX6_startOver_37 ⟨Nat.le_of_ble_eq_true rfl, Nat.le_of_ble_eq_true rfl⟩) hP hD hS hA [5] [0, 1, 2, 3, 4] rfl rfl zqn_21 zqd_10 (fun w1 H locs hw hP hD hS => ?_)
  subst hw
  obtain ⟨s14, hs15, hB⟩ := letS_inv hB
  have hP : va_P (dC, dI) vwCl (wD cI b s14) H := by subst hs15; exact hP.sub [0, 1, 2, 3, 4, 5] rfl
  have hD : va_D A (wD cI b s14) := by subst hs15; exact hD.sub [0, 1, 2, 3, 4, 5] (by decide) rfl
  refine lv_aload_n hx hb dX6_startOver_40 rfl (lv_at hl 0 rfl) ?_
  refine lv_iconst (v := 0) hx hb dX6_startOver_41 (by decide) ?_
  obtain ⟨s16, hs17, hB⟩ := letS_inv hB
  refine q_put (ty := .int) (w2 := (wD cI b s16)) tyX6 tyX6_ok nmX6 C inX6_startOver_X6 hK hP hD hS 0 rfl rfl 5 (by decide) rfl LX6_startOver_33 rfl (by decide +kernel) (rfl) rfl (Nat.le_of_ble_eq_true rfl) dX6_startOver_42 (by subst hs17; rfl) (fun H locs hP hD hS => ?_)
  refine lv_aload_n hx hb dX6_startOver_45 rfl (lv_at hl 0 rfl) ?_
  refine lv_iconst (v := 0) hx hb dX6_startOver_46 (by decide) ?_
  obtain ⟨s18, hs19, hB⟩ := letS_inv hB
  refine q_put (ty := .int) (w2 := (wD cI b s18)) tyX6 tyX6_ok nmX6 C inX6_startOver_X6 hK hP hD hS 0 rfl rfl 6 (by decide) rfl LX6_startOver_37 rfl (by decide +kernel) (rfl) rfl (Nat.le_of_ble_eq_true rfl) dX6_startOver_47 (by subst hs19; rfl) (fun H locs hP hD hS => ?_)
  exact q_vret C hr hlocks hK hP hD hS (Nat.le_of_ble_eq_true rfl) (Nat.le_of_ble_eq_true rfl) dX6_startOver_50 (by cases hB; rfl)
theorem ckX6_startOver {l : Launch} {dC : Nat → ClassId} {dI : Nat → Nat → Nat} {cB cI cJ cZ cS : ClassId} {b : Nat → Nat} {s' : SD} {s : SD} (hB : kX6_startOver s = some s') : CV l yX6_startOver wsX6_startOver ({ frames := 1, cells := 0, slots := 0, locals := 23 }) (dC, dI) (tysA cB cI cJ cZ cS) (wD cI b s) [.ref (b 0)] (fun u => u = (wD cI b s')) :=
  CV_of (cc := cX6_startOver) (maxL := 1) (ret := none) (by decide) rfl (Nat.le_of_ble_eq_true rfl) (bkX6_startOver _ hB)
theorem LX8_beliedBy_15 : Cond.fieldLink RX8 15 "GuessFerry$Tellers" "toldThings" "[I" ∈ wsX8_beliedBy := (List.mem_cons_of_mem _ (List.mem_append_left _ (List.mem_append_left _ (List.mem_of_getElem? (i := 1) rfl))))
theorem LX8_beliedBy_9 : Cond.fieldLink RX8 9 "GuessFerry$Tellers" "toldWaves" "[I" ∈ wsX8_beliedBy := (List.mem_cons_of_mem _ (List.mem_append_left _ (List.mem_append_left _ (List.mem_of_getElem? (i := 0) rfl))))
theorem LX8_beliedBy_I_X10 : Cond.initialized RX10 ∈ wsX8_beliedBy := (List.mem_cons_of_mem _ (List.mem_append_left _ (List.mem_append_left _ (List.mem_of_getElem? (i := 3) rfl))))
theorem LX8_beliedBy_S_X10_has : Cond.static yX10_has ∈ wsX8_beliedBy := (List.mem_cons_of_mem _ (List.mem_append_left _ (List.mem_append_left _ (List.mem_of_getElem? (i := 2) rfl))))
theorem inX8_beliedBy_X8 : ∀ w ∈ u_ws RX8 TX8 8, w ∈ wsX8_beliedBy := fun w h => (List.mem_cons_of_mem _ (List.mem_append_right _ h))
set_option maxHeartbeats 4000000 in
set_option maxRecDepth 100000 in
theorem bkX8_beliedBy_40 {l : Launch} {dC : Nat → ClassId} {dI : Nat → Nat → Nat} {cB cI cJ cZ cS : ClassId} {a : Nat → Nat} {as : List Value} {r : Int32} {s' : KS} {k6 : KS → Int32 → Int32 → Int32 → Int32 → Int32 → Option (Int32 × KS)} (hk6 : ∀ (s : KS) (x1 : Int32) (x2 : Int32) (x3 : Int32) (x4 : Int32) (x5 : Int32), k6 s x1 x2 x3 x4 x5 = some (r, s') → BlkI l yX8_beliedBy wsX8_beliedBy ({ frames := 1, cells := 0, slots := 0, locals := 21 }) cX8_beliedBy 6 (some .int) (dC, dI) (tysA cB cI cJ cZ cS) as 6 (wK cB cI cJ cZ cS a s) [(0, .ref (a 41)), (1, .int x1), (2, .int x2), (3, .int x3), (4, .int x4), (5, .int x5)] [] (fun x u => x = r ∧ u = (wK cB cI cJ cZ cS a s'))) (s : KS) (x1 : Int32) (x2 : Int32) (x3 : Int32) (x4 : Int32) (x5 : Int32) (hB : kX8_beliedBy_40 k6 s x1 x2 x3 x4 x5 = some (r, s')) : BlkI l yX8_beliedBy wsX8_beliedBy ({ frames := 1, cells := 0, slots := 0, locals := 21 }) cX8_beliedBy 6 (some .int) (dC, dI) (tysA cB cI cJ cZ cS) as 40 (wK cB cI cJ cZ cS a s) [(0, .ref (a 41)), (1, .int x1), (2, .int x2), (3, .int x3), (4, .int x4), (5, .int x5)] [] (fun x u => x = r ∧ u = (wK cB cI cJ cZ cS a s')) := by
  intro p e s0 m below meth c A E H locs ls hP hD hS hl
  obtain ⟨C, hr, hlocks, hA, hK, hN⟩ := id E
  obtain ⟨hx, hb, hml, hown, hts⟩ := id C
  unfold kX8_beliedBy_40 at hB
  refine lv_iinc (v := (x5 + 1)) (lv' := [(5, .int (x5 + 1)), (0, .ref (a 41)), (1, .int x1), (2, .int x2), (3, .int x3), (4, .int x4)]) hx hb dX8_beliedBy_40 hl (k := 5) rfl (rfl) (by decide) rfl (fun ls hl => ?_)
  refine lv_goto (tgt := 6) hx hb dX8_beliedBy_43 (by decide) ?_
  exact hk6 _ _ _ _ _ _ hB p e s0 m below meth c A E H locs ls hP hD hS (lv_sub hl [1, 2, 3, 4, 5, 0] rfl)
set_option maxHeartbeats 4000000 in
set_option maxRecDepth 100000 in
theorem bkX8_beliedBy_6 {l : Launch} {dC : Nat → ClassId} {dI : Nat → Nat → Nat} {cB cI cJ cZ cS : ClassId} {a : Nat → Nat} {as : List Value} {r : Int32} {s' : KS} {k6 : KS → Int32 → Int32 → Int32 → Int32 → Int32 → Option (Int32 × KS)} (hk6 : ∀ (s : KS) (x1 : Int32) (x2 : Int32) (x3 : Int32) (x4 : Int32) (x5 : Int32), k6 s x1 x2 x3 x4 x5 = some (r, s') → BlkI l yX8_beliedBy wsX8_beliedBy ({ frames := 1, cells := 0, slots := 0, locals := 21 }) cX8_beliedBy 6 (some .int) (dC, dI) (tysA cB cI cJ cZ cS) as 6 (wK cB cI cJ cZ cS a s) [(0, .ref (a 41)), (1, .int x1), (2, .int x2), (3, .int x3), (4, .int x4), (5, .int x5)] [] (fun x u => x = r ∧ u = (wK cB cI cJ cZ cS a s'))) (s : KS) (x1 : Int32) (x2 : Int32) (x3 : Int32) (x4 : Int32) (x5 : Int32) (hB : kX8_beliedBy_6 k6 s x1 x2 x3 x4 x5 = some (r, s')) : BlkI l yX8_beliedBy wsX8_beliedBy ({ frames := 1, cells := 0, slots := 0, locals := 21 }) cX8_beliedBy 6 (some .int) (dC, dI) (tysA cB cI cJ cZ cS) as 6 (wK cB cI cJ cZ cS a s) [(0, .ref (a 41)), (1, .int x1), (2, .int x2), (3, .int x3), (4, .int x4), (5, .int x5)] [] (fun x u => x = r ∧ u = (wK cB cI cJ cZ cS a s')) := by
  intro p e s0 m below meth c A E H locs ls hP hD hS hl
  obtain ⟨C, hr, hlocks, hA, hK, hN⟩ := id E
  obtain ⟨hx, hb, hml, hown, hts⟩ := id C
  unfold kX8_beliedBy_6 at hB
  refine lv_iload hx hb dX8_beliedBy_6 (lv_at hl 5 rfl) ?_
  refine lv_iload_n hx hb dX8_beliedBy_8 rfl (lv_at hl 3 rfl) ?_
  refine lv_icmp_ge (tgt := 46) hx hb dX8_beliedBy_9 (by decide) (fun c1 => ?_) (fun c1 => ?_)
  · have hB := if_p hB c1
    refine lv_iload hx hb dX8_beliedBy_46 (lv_at hl 4 rfl) ?_
    exact q_iret C hr hlocks hK hP hD hS (Nat.le_of_ble_eq_true rfl) (Nat.le_of_ble_eq_true rfl) dX8_beliedBy_48 (by cases hB; exact ⟨rfl, rfl⟩)
  · have hB := if_n hB c1
    refine lv_aload_n hx hb dX8_beliedBy_12 rfl (lv_at hl 0 rfl) ?_
    refine q_get (v := .ref (a 42)) C inX8_beliedBy_X8 hK hP 41 rfl rfl 2 (by decide) rfl LX8_beliedBy_9 rfl dX8_beliedBy_13 ?_
    refine lv_iload hx hb dX8_beliedBy_16 (lv_at hl 5 rfl) ?_
    obtain ⟨g2, hB⟩ := guard_inv hB
    refine q_iald (x := ((s.f 42) (Int32.toNatClampNeg x5))) C hK hP 42 1 rfl rfl (vpb_in g2) dX8_beliedBy_18 rfl ?_
    refine lv_iload_n hx hb dX8_beliedBy_19 rfl (lv_at hl 1 rfl) ?_
    refine lv_icmp_ne (tgt := 40) hx hb dX8_beliedBy_20 (by decide) (fun c3 => ?_) (fun c3 => ?_)
    · have hB := if_n hB c3
      exact bkX8_beliedBy_40 (hk6) _ _ _ _ _ _ hB p e s0 m below meth c A E H locs ls hP hD hS (lv_sub hl [0, 1, 2, 3, 4, 5] rfl)
    · have hB := if_p hB c3
      refine lv_aload_n hx hb dX8_beliedBy_23 rfl (lv_at hl 0 rfl) ?_
      refine q_get (v := .ref (a 43)) C inX8_beliedBy_X8 hK hP 41 rfl rfl 3 (by decide) rfl LX8_beliedBy_15 rfl dX8_beliedBy_24 ?_
      refine lv_iload hx hb dX8_beliedBy_27 (lv_at hl 5 rfl) ?_
      obtain ⟨g4, hB⟩ := guard_inv hB
      refine q_iald (x := ((s.f 43) (Int32.toNatClampNeg x5))) C hK hP 43 1 rfl rfl (vpb_in g4) dX8_beliedBy_29 rfl ?_
      refine lv_iload_n hx hb dX8_beliedBy_30 rfl (lv_at hl 2 rfl) ?_
      obtain ⟨q_, hc, hB⟩ := bindP_inv hB
      refine q_goi0 (va_runSN (As := [.int ((s.f 43) (Int32.toNatClampNeg x5)), .int x2]) (rest := []) C (ckX10_has hc _) ⟨va_cnB 2 hts gX8_beliedBy_X10_has_n50 rfl rfl rfl (hN _ nwM_X8_50 rfl) (hts _ LX8_beliedBy_I_X10) (by decide +kernel) ⟨Nat.le_of_ble_eq_true rfl, Nat.le_of_ble_eq_true rfl⟩, hts _ LX8_beliedBy_S_X10_has, trivial⟩ (q_pre0 hN hK) rfl rfl hl.1 rfl (lv_room (Nat.le_of_ble_eq_true rfl)) dX8_beliedBy_31 ⟨Nat.le_of_ble_eq_true rfl, Nat.le_of_ble_eq_true rfl⟩) hP hD hS hA (fun r5 w1 H locs hw hP hS => ?_)
      subst hw
      refine lv_if_ne (tgt := 40) hx hb dX8_beliedBy_34 (by decide) (fun c6 => ?_) (fun c6 => ?_)
      · have hB := if_n hB c6
        exact bkX8_beliedBy_40 (hk6) _ _ _ _ _ _ hB p e s0 m below meth c A E H locs ls hP hD hS (lv_sub hl [0, 1, 2, 3, 4, 5] rfl)
      · have hB := if_p hB c6
        refine lv_iinc (v := (x4 + 1)) (lv' := [(4, .int (x4 + 1)), (0, .ref (a 41)), (1, .int x1), (2, .int x2), (3, .int x3), (5, .int x5)]) hx hb dX8_beliedBy_37 hl (k := 4) rfl (rfl) (by decide) rfl (fun ls hl => ?_)
        exact bkX8_beliedBy_40 (hk6) _ _ _ _ _ _ hB p e s0 m below meth c A E H locs ls hP hD hS (lv_sub hl [1, 2, 3, 4, 0, 5] rfl)
theorem bkX8_beliedBy_6L {l : Launch} {dC : Nat → ClassId} {dI : Nat → Nat → Nat} {cB cI cJ cZ cS : ClassId} {a : Nat → Nat} {as : List Value} {r : Int32} {s' : KS} : ∀ (n : Nat) (s : KS) (x1 : Int32) (x2 : Int32) (x3 : Int32) (x4 : Int32) (x5 : Int32), kX8_beliedBy_6L n s x1 x2 x3 x4 x5 = some (r, s') → BlkI l yX8_beliedBy wsX8_beliedBy ({ frames := 1, cells := 0, slots := 0, locals := 21 }) cX8_beliedBy 6 (some .int) (dC, dI) (tysA cB cI cJ cZ cS) as 6 (wK cB cI cJ cZ cS a s) [(0, .ref (a 41)), (1, .int x1), (2, .int x2), (3, .int x3), (4, .int x4), (5, .int x5)] [] (fun x u => x = r ∧ u = (wK cB cI cJ cZ cS a s')) := by
  intro n
  induction n with
  | zero => intro s x1 x2 x3 x4 x5 hB; exact none_ne hB
  | succ n ih => intro s x1 x2 x3 x4 x5 hB; exact bkX8_beliedBy_6 ih _ _ _ _ _ _ hB
set_option maxHeartbeats 4000000 in
set_option maxRecDepth 100000 in
theorem bkX8_beliedBy {l : Launch} {dC : Nat → ClassId} {dI : Nat → Nat → Nat} {cB cI cJ cZ cS : ClassId} {a : Nat → Nat} {as : List Value} {r : Int32} {s' : KS} (s : KS) (x1 : Int32) (x2 : Int32) (x3 : Int32) (hB : kX8_beliedBy s x1 x2 x3 = some (r, s')) : BlkI l yX8_beliedBy wsX8_beliedBy ({ frames := 1, cells := 0, slots := 0, locals := 21 }) cX8_beliedBy 6 (some .int) (dC, dI) (tysA cB cI cJ cZ cS) as 0 (wK cB cI cJ cZ cS a s) [(0, .ref (a 41)), (1, .int x1), (2, .int x2), (3, .int x3)] [] (fun x u => x = r ∧ u = (wK cB cI cJ cZ cS a s')) := by
  intro p e s0 m below meth c A E H locs ls hP hD hS hl
  obtain ⟨C, hr, hlocks, hA, hK, hN⟩ := id E
  obtain ⟨hx, hb, hml, hown, hts⟩ := id C
  unfold kX8_beliedBy at hB
  refine lv_iconst (v := 0) hx hb dX8_beliedBy_0 (by decide) ?_
  refine lv_istore (lv' := [(4, .int 0), (0, .ref (a 41)), (1, .int x1), (2, .int x2), (3, .int x3)]) hx hb dX8_beliedBy_1 hl (by decide) rfl (fun ls hl => ?_)
  refine lv_iconst (v := 0) hx hb dX8_beliedBy_3 (by decide) ?_
  refine lv_istore (lv' := [(5, .int 0), (4, .int 0), (0, .ref (a 41)), (1, .int x1), (2, .int x2), (3, .int x3)]) hx hb dX8_beliedBy_4 hl (by decide) rfl (fun ls hl => ?_)
  exact bkX8_beliedBy_6L fu _ _ _ _ _ _ hB p e s0 m below meth c A E H locs ls hP hD hS (lv_sub hl [2, 3, 4, 5, 1, 0] rfl)
theorem ckX8_beliedBy {l : Launch} {dC : Nat → ClassId} {dI : Nat → Nat → Nat} {cB cI cJ cZ cS : ClassId} {a : Nat → Nat} {r : Int32} {s' : KS} {s : KS} {x1 : Int32} {x2 : Int32} {x3 : Int32} (hB : kX8_beliedBy s x1 x2 x3 = some (r, s')) : CI l yX8_beliedBy wsX8_beliedBy ({ frames := 1, cells := 0, slots := 0, locals := 21 }) (dC, dI) (tysA cB cI cJ cZ cS) (wK cB cI cJ cZ cS a s) [.ref (a 41), .int x1, .int x2, .int x3] (fun x u => x = r ∧ u = (wK cB cI cJ cZ cS a s')) :=
  CI_of (cc := cX8_beliedBy) (maxL := 6) (ret := (some .int)) (by decide) rfl (Nat.le_of_ble_eq_true rfl) (bkX8_beliedBy _ _ _ _ hB)
theorem LX8_sortByLies_24 : Cond.fieldLink RX8 24 "GuessFerry$Tellers" "byLies" "[I" ∈ wsX8_sortByLies := (List.mem_cons_of_mem _ (List.mem_append_left _ (List.mem_append_left _ (List.mem_append_left _ (List.mem_of_getElem? (i := 0) rfl)))))
theorem LX8_sortByLies_27 : Cond.fieldLink RX8 27 "GuessFerry$Tellers" "sound" "LGuessFerry$Sound;" ∈ wsX8_sortByLies := (List.mem_cons_of_mem _ (List.mem_append_left _ (List.mem_append_left _ (List.mem_append_left _ (List.mem_of_getElem? (i := 1) rfl)))))
theorem inX8_sortByLies_X5 : ∀ w ∈ u_ws RX5 TX5 10, w ∈ wsX8_sortByLies := fun w h => (List.mem_cons_of_mem _ (List.mem_append_right _ h))
theorem inX8_sortByLies_X8 : ∀ w ∈ u_ws RX8 TX8 8, w ∈ wsX8_sortByLies := fun w h => (List.mem_cons_of_mem _ (List.mem_append_left _ (List.mem_append_right _ h)))
set_option maxHeartbeats 4000000 in
set_option maxRecDepth 100000 in
theorem bkX8_sortByLies_62 {l : Launch} {dC : Nat → ClassId} {dI : Nat → Nat → Nat} {cB cI cJ cZ cS : ClassId} {a : Nat → Nat} {as : List Value} {s' : KS} {k17 : KS → Int32 → Int32 → Int32 → Option KS} (hk17 : ∀ (s : KS) (x1 : Int32) (x2 : Int32) (x3 : Int32), k17 s x1 x2 x3 = some s' → BlkV l yX8_sortByLies wsX8_sortByLies ({ frames := 1, cells := 0, slots := 0, locals := 26 }) cX8_sortByLies 5 none (dC, dI) (tysA cB cI cJ cZ cS) as 17 (wK cB cI cJ cZ cS a s) [(0, .ref (a 41)), (1, .int x1), (2, .int x2), (3, .int x3)] [] (fun u => u = (wK cB cI cJ cZ cS a s'))) (s : KS) (x1 : Int32) (x2 : Int32) (x3 : Int32) (hB : kX8_sortByLies_62 k17 s x1 x2 x3 = some s') : BlkV l yX8_sortByLies wsX8_sortByLies ({ frames := 1, cells := 0, slots := 0, locals := 26 }) cX8_sortByLies 5 none (dC, dI) (tysA cB cI cJ cZ cS) as 62 (wK cB cI cJ cZ cS a s) [(0, .ref (a 41)), (1, .int x1), (2, .int x2), (3, .int x3)] [] (fun u => u = (wK cB cI cJ cZ cS a s')) := by
  intro p e s0 m below meth c A E H locs ls hP hD hS hl
  obtain ⟨C, hr, hlocks, hA, hK, hN⟩ := id E
  obtain ⟨hx, hb, hml, hown, hts⟩ := id C
  unfold kX8_sortByLies_62 at hB
  refine lv_iinc (v := (x3 + 1)) (lv' := [(3, .int (x3 + 1)), (0, .ref (a 41)), (1, .int x1), (2, .int x2)]) hx hb dX8_sortByLies_62 hl (k := 3) rfl (rfl) (by decide) rfl (fun ls hl => ?_)
  refine lv_goto (tgt := 17) hx hb dX8_sortByLies_65 (by decide) ?_
  exact hk17 _ _ _ _ hB p e s0 m below meth c A E H locs ls hP hD hS (lv_sub hl [1, 2, 3, 0] rfl)
set_option maxHeartbeats 4000000 in
set_option maxRecDepth 100000 in
theorem bkX8_sortByLies_36 {l : Launch} {dC : Nat → ClassId} {dI : Nat → Nat → Nat} {cB cI cJ cZ cS : ClassId} {a : Nat → Nat} {as : List Value} {s' : KS} {k17 : KS → Int32 → Int32 → Int32 → Option KS} {k36 : KS → Int32 → Int32 → Int32 → Int32 → Option KS} (hk17 : ∀ (s : KS) (x1 : Int32) (x2 : Int32) (x3 : Int32), k17 s x1 x2 x3 = some s' → BlkV l yX8_sortByLies wsX8_sortByLies ({ frames := 1, cells := 0, slots := 0, locals := 26 }) cX8_sortByLies 5 none (dC, dI) (tysA cB cI cJ cZ cS) as 17 (wK cB cI cJ cZ cS a s) [(0, .ref (a 41)), (1, .int x1), (2, .int x2), (3, .int x3)] [] (fun u => u = (wK cB cI cJ cZ cS a s'))) (hk36 : ∀ (s : KS) (x1 : Int32) (x2 : Int32) (x3 : Int32) (x4 : Int32), k36 s x1 x2 x3 x4 = some s' → BlkV l yX8_sortByLies wsX8_sortByLies ({ frames := 1, cells := 0, slots := 0, locals := 26 }) cX8_sortByLies 5 none (dC, dI) (tysA cB cI cJ cZ cS) as 36 (wK cB cI cJ cZ cS a s) [(0, .ref (a 41)), (1, .int x1), (2, .int x2), (3, .int x3), (4, .int x4)] [] (fun u => u = (wK cB cI cJ cZ cS a s'))) (s : KS) (x1 : Int32) (x2 : Int32) (x3 : Int32) (x4 : Int32) (hB : kX8_sortByLies_36 k17 k36 s x1 x2 x3 x4 = some s') : BlkV l yX8_sortByLies wsX8_sortByLies ({ frames := 1, cells := 0, slots := 0, locals := 26 }) cX8_sortByLies 5 none (dC, dI) (tysA cB cI cJ cZ cS) as 36 (wK cB cI cJ cZ cS a s) [(0, .ref (a 41)), (1, .int x1), (2, .int x2), (3, .int x3), (4, .int x4)] [] (fun u => u = (wK cB cI cJ cZ cS a s')) := by
  intro p e s0 m below meth c A E H locs ls hP hD hS hl
  obtain ⟨C, hr, hlocks, hA, hK, hN⟩ := id E
  obtain ⟨hx, hb, hml, hown, hts⟩ := id C
  unfold kX8_sortByLies_36 at hB
  refine lv_iload hx hb dX8_sortByLies_36 (lv_at hl 4 rfl) ?_
  refine lv_if_lt (tgt := 62) hx hb dX8_sortByLies_38 (by decide) (fun c1 => ?_) (fun c1 => ?_)
  · have hB := if_p hB c1
    exact bkX8_sortByLies_62 (hk17) _ _ _ _ hB p e s0 m below meth c A E H locs ls hP hD hS (lv_sub hl [0, 1, 2, 3] rfl)
  · have hB := if_n hB c1
    refine lv_aload_n hx hb dX8_sortByLies_41 rfl (lv_at hl 0 rfl) ?_
    refine q_get (v := .ref (a 46)) C inX8_sortByLies_X8 hK hP 41 rfl rfl 6 (by decide) rfl LX8_sortByLies_24 rfl dX8_sortByLies_42 ?_
    refine lv_iload hx hb dX8_sortByLies_45 (lv_at hl 4 rfl) ?_
    refine lv_aload_n hx hb dX8_sortByLies_47 rfl (lv_at hl 0 rfl) ?_
    refine lv_iload_n hx hb dX8_sortByLies_48 rfl (lv_at hl 3 rfl) ?_
    refine lv_iload hx hb dX8_sortByLies_49 (lv_at hl 4 rfl) ?_
    refine lv_iload_n hx hb dX8_sortByLies_51 rfl (lv_at hl 2 rfl) ?_
    obtain ⟨q_, s2, hc, hB⟩ := bindI_inv hB
    refine q_goiF (va_runV (As := [.int x3, .int x4, .int x2]) (rest := [.int x4, .ref (a 46)]) C (ckX8_withWave hc _) (cwV 3 hts gX8_sortByLies_X8_withWave rfl rfl rfl (by decide +kernel) ⟨Nat.le_of_ble_eq_true rfl, Nat.le_of_ble_eq_true rfl⟩) (q_preV hK hP (ci := 8) (q0 := 41) rfl rfl rfl (q_preF hN hK hP hD)) rfl rfl hl.1 rfl (lv_room (Nat.le_of_ble_eq_true rfl)) dX8_sortByLies_52 ⟨Nat.le_of_ble_eq_true rfl, Nat.le_of_ble_eq_true rfl⟩) hD hS hA (fun r3 w1 H locs hw hP hD hS => ?_)
    obtain ⟨hq_, hw⟩ := hw; subst hw; subst hq_
    obtain ⟨g4, hB⟩ := guard_inv hB
    obtain ⟨s5, hs6, hB⟩ := letS_inv hB
    refine q_iast (f2 := (upd (s2.f 46) (Int32.toNatClampNeg x4) r3)) (w2 := (wK cB cI cJ cZ cS a s5)) C hK hP hD hS 46 1 rfl rfl (vpb_in g4) dX8_sortByLies_55 rfl (by subst hs6; rfl) (fun H locs hP hD hS => ?_)
    refine lv_iinc (v := (x4 + (-1))) (lv' := [(4, .int (x4 + (-1))), (0, .ref (a 41)), (1, .int x1), (2, .int x2), (3, .int x3)]) hx hb dX8_sortByLies_56 hl (k := 4) rfl (rfl) (by decide) rfl (fun ls hl => ?_)
    refine lv_goto (tgt := 36) hx hb dX8_sortByLies_59 (by decide) ?_
    exact hk36 _ _ _ _ _ hB p e s0 m below meth c A E H locs ls hP hD hS (lv_sub hl [1, 2, 3, 4, 0] rfl)
theorem bkX8_sortByLies_36L {l : Launch} {dC : Nat → ClassId} {dI : Nat → Nat → Nat} {cB cI cJ cZ cS : ClassId} {a : Nat → Nat} {as : List Value} {s' : KS} {k17 : KS → Int32 → Int32 → Int32 → Option KS} (hk17 : ∀ (s : KS) (x1 : Int32) (x2 : Int32) (x3 : Int32), k17 s x1 x2 x3 = some s' → BlkV l yX8_sortByLies wsX8_sortByLies ({ frames := 1, cells := 0, slots := 0, locals := 26 }) cX8_sortByLies 5 none (dC, dI) (tysA cB cI cJ cZ cS) as 17 (wK cB cI cJ cZ cS a s) [(0, .ref (a 41)), (1, .int x1), (2, .int x2), (3, .int x3)] [] (fun u => u = (wK cB cI cJ cZ cS a s'))) : ∀ (n : Nat) (s : KS) (x1 : Int32) (x2 : Int32) (x3 : Int32) (x4 : Int32), kX8_sortByLies_36L k17 n s x1 x2 x3 x4 = some s' → BlkV l yX8_sortByLies wsX8_sortByLies ({ frames := 1, cells := 0, slots := 0, locals := 26 }) cX8_sortByLies 5 none (dC, dI) (tysA cB cI cJ cZ cS) as 36 (wK cB cI cJ cZ cS a s) [(0, .ref (a 41)), (1, .int x1), (2, .int x2), (3, .int x3), (4, .int x4)] [] (fun u => u = (wK cB cI cJ cZ cS a s')) := by
  intro n
  induction n with
  | zero => intro s x1 x2 x3 x4 hB; exact none_ne hB
  | succ n ih => intro s x1 x2 x3 x4 hB; exact bkX8_sortByLies_36 hk17 ih _ _ _ _ _ hB
set_option maxHeartbeats 4000000 in
set_option maxRecDepth 100000 in
theorem bkX8_sortByLies_17 {l : Launch} {dC : Nat → ClassId} {dI : Nat → Nat → Nat} {cB cI cJ cZ cS : ClassId} {a : Nat → Nat} {as : List Value} {s' : KS} {k17 : KS → Int32 → Int32 → Int32 → Option KS} (hk17 : ∀ (s : KS) (x1 : Int32) (x2 : Int32) (x3 : Int32), k17 s x1 x2 x3 = some s' → BlkV l yX8_sortByLies wsX8_sortByLies ({ frames := 1, cells := 0, slots := 0, locals := 26 }) cX8_sortByLies 5 none (dC, dI) (tysA cB cI cJ cZ cS) as 17 (wK cB cI cJ cZ cS a s) [(0, .ref (a 41)), (1, .int x1), (2, .int x2), (3, .int x3)] [] (fun u => u = (wK cB cI cJ cZ cS a s'))) (s : KS) (x1 : Int32) (x2 : Int32) (x3 : Int32) (hB : kX8_sortByLies_17 k17 s x1 x2 x3 = some s') : BlkV l yX8_sortByLies wsX8_sortByLies ({ frames := 1, cells := 0, slots := 0, locals := 26 }) cX8_sortByLies 5 none (dC, dI) (tysA cB cI cJ cZ cS) as 17 (wK cB cI cJ cZ cS a s) [(0, .ref (a 41)), (1, .int x1), (2, .int x2), (3, .int x3)] [] (fun u => u = (wK cB cI cJ cZ cS a s')) := by
  intro p e s0 m below meth c A E H locs ls hP hD hS hl
  obtain ⟨C, hr, hlocks, hA, hK, hN⟩ := id E
  obtain ⟨hx, hb, hml, hown, hts⟩ := id C
  unfold kX8_sortByLies_17 at hB
  refine lv_iload_n hx hb dX8_sortByLies_17 rfl (lv_at hl 3 rfl) ?_
  refine lv_aload_n hx hb dX8_sortByLies_18 rfl (lv_at hl 0 rfl) ?_
  refine q_get (v := .ref (a 2)) C inX8_sortByLies_X8 hK hP 41 rfl rfl 0 (by decide) rfl LX8_sortByLies_27 rfl dX8_sortByLies_19 ?_
  refine q_getN (v := .int (s.v 1)) C hN inX8_sortByLies_X5 hK hP 2 rfl rfl 6 (by decide) rfl nwF_X8_39 rfl dX8_sortByLies_22 ?_
  refine lv_icmp_ge (tgt := 68) hx hb dX8_sortByLies_25 (by decide) (fun c1 => ?_) (fun c1 => ?_)
  · have hB := if_p hB c1
    exact q_vret C hr hlocks hK hP hD hS (Nat.le_of_ble_eq_true rfl) (Nat.le_of_ble_eq_true rfl) dX8_sortByLies_68 (by cases hB; rfl)
  · have hB := if_n hB c1
    refine lv_iload_n hx hb dX8_sortByLies_28 rfl (lv_at hl 3 rfl) ?_
    refine lv_iload_n hx hb dX8_sortByLies_29 rfl (lv_at hl 1 rfl) ?_
    refine lv_icmp_eq (tgt := 62) hx hb dX8_sortByLies_30 (by decide) (fun c2 => ?_) (fun c2 => ?_)
    · have hB := if_p hB c2
      exact bkX8_sortByLies_62 (hk17) _ _ _ _ hB p e s0 m below meth c A E H locs ls hP hD hS (lv_sub hl [0, 1, 2, 3] rfl)
    · have hB := if_n hB c2
      refine lv_iconst (v := 3) hx hb dX8_sortByLies_33 (by decide) ?_
      refine lv_istore (lv' := [(4, .int 3), (0, .ref (a 41)), (1, .int x1), (2, .int x2), (3, .int x3)]) hx hb dX8_sortByLies_34 hl (by decide) rfl (fun ls hl => ?_)
      exact bkX8_sortByLies_36L (hk17) fu _ _ _ _ _ hB p e s0 m below meth c A E H locs ls hP hD hS (lv_sub hl [1, 2, 3, 4, 0] rfl)
theorem bkX8_sortByLies_17L {l : Launch} {dC : Nat → ClassId} {dI : Nat → Nat → Nat} {cB cI cJ cZ cS : ClassId} {a : Nat → Nat} {as : List Value} {s' : KS} : ∀ (n : Nat) (s : KS) (x1 : Int32) (x2 : Int32) (x3 : Int32), kX8_sortByLies_17L n s x1 x2 x3 = some s' → BlkV l yX8_sortByLies wsX8_sortByLies ({ frames := 1, cells := 0, slots := 0, locals := 26 }) cX8_sortByLies 5 none (dC, dI) (tysA cB cI cJ cZ cS) as 17 (wK cB cI cJ cZ cS a s) [(0, .ref (a 41)), (1, .int x1), (2, .int x2), (3, .int x3)] [] (fun u => u = (wK cB cI cJ cZ cS a s')) := by
  intro n
  induction n with
  | zero => intro s x1 x2 x3 hB; exact none_ne hB
  | succ n ih => intro s x1 x2 x3 hB; exact bkX8_sortByLies_17 ih _ _ _ _ hB
set_option maxHeartbeats 4000000 in
set_option maxRecDepth 100000 in
theorem bkX8_sortByLies {l : Launch} {dC : Nat → ClassId} {dI : Nat → Nat → Nat} {cB cI cJ cZ cS : ClassId} {a : Nat → Nat} {as : List Value} {s' : KS} (s : KS) (x1 : Int32) (x2 : Int32) (hB : kX8_sortByLies s x1 x2 = some s') : BlkV l yX8_sortByLies wsX8_sortByLies ({ frames := 1, cells := 0, slots := 0, locals := 26 }) cX8_sortByLies 5 none (dC, dI) (tysA cB cI cJ cZ cS) as 0 (wK cB cI cJ cZ cS a s) [(0, .ref (a 41)), (1, .int x1), (2, .int x2)] [] (fun u => u = (wK cB cI cJ cZ cS a s')) := by
  intro p e s0 m below meth c A E H locs ls hP hD hS hl
  obtain ⟨C, hr, hlocks, hA, hK, hN⟩ := id E
  obtain ⟨hx, hb, hml, hown, hts⟩ := id C
  unfold kX8_sortByLies at hB
  refine lv_aload_n hx hb dX8_sortByLies_0 rfl (lv_at hl 0 rfl) ?_
  refine q_get (v := .ref (a 46)) C inX8_sortByLies_X8 hK hP 41 rfl rfl 6 (by decide) rfl LX8_sortByLies_24 rfl dX8_sortByLies_1 ?_
  refine lv_iconst (v := 0) hx hb dX8_sortByLies_4 (by decide) ?_
  obtain ⟨s1, hc, hB⟩ := bindP_inv hB
  refine q_gov (wr := (((wK cB cI cJ cZ cS a s)).eraseIdx 46)) (va_runS (As := [.ref (a 46), .int 0]) (rest := []) C (ckJ7_fill_53178_4 hc _) (va_cwS 2 hts gX8_sortByLies_J7_fill_53178 rfl rfl rfl (by decide +kernel) ⟨Nat.le_of_ble_eq_true rfl, Nat.le_of_ble_eq_true rfl⟩) (q_pre hN hK hP hD [46] rfl zqn_8) rfl rfl hl.1 rfl (lv_room (Nat.le_of_ble_eq_true rfl)) dX8_sortByLies_5 ⟨Nat.le_of_ble_eq_true rfl, Nat.le_of_ble_eq_true rfl⟩) hP hD hS hA [46] [0, 1, 2, 3, 4, 5, 6, 7, 8, 9, 10, 11, 12, 13, 14, 15, 16, 17, 18, 19, 20, 21, 22, 23, 24, 25, 26, 27, 28, 29, 30, 31, 32, 33, 34, 35, 36, 37, 38, 39, 40, 41, 42, 43, 44, 45] rfl rfl zqn_22 zqd_11 (fun w1 H locs hw hP hD hS => ?_)
  subst hw
  obtain ⟨s2, hs3, hB⟩ := letS_inv hB
  have hP : va_P (dC, dI) vwCl (wK cB cI cJ cZ cS a s2) H := by subst hs3; exact hP.sub [0, 1, 2, 3, 4, 5, 6, 7, 8, 9, 10, 11, 12, 13, 14, 15, 16, 17, 18, 19, 20, 21, 22, 23, 24, 25, 26, 27, 28, 29, 30, 31, 32, 33, 34, 35, 36, 37, 38, 39, 40, 41, 42, 43, 44, 45, 46] rfl
  have hD : va_D A (wK cB cI cJ cZ cS a s2) := by subst hs3; exact hD.sub [0, 1, 2, 3, 4, 5, 6, 7, 8, 9, 10, 11, 12, 13, 14, 15, 16, 17, 18, 19, 20, 21, 22, 23, 24, 25, 26, 27, 28, 29, 30, 31, 32, 33, 34, 35, 36, 37, 38, 39, 40, 41, 42, 43, 44, 45, 46] (by decide +kernel) rfl
  refine lv_aload_n hx hb dX8_sortByLies_8 rfl (lv_at hl 0 rfl) ?_
  refine q_get (v := .ref (a 46)) C inX8_sortByLies_X8 hK hP 41 rfl rfl 6 (by decide) rfl LX8_sortByLies_24 rfl dX8_sortByLies_9 ?_
  refine lv_iconst (v := 0) hx hb dX8_sortByLies_12 (by decide) ?_
  refine lv_iconst (v := 1) hx hb dX8_sortByLies_13 (by decide) ?_
  obtain ⟨s4, hs5, hB⟩ := letS_inv hB
  refine q_iast (f2 := (upd (s2.f 46) 0 1)) (w2 := (wK cB cI cJ cZ cS a s4)) C hK hP hD hS 46 1 rfl rfl (vp_lit (by decide +kernel)) dX8_sortByLies_14 rfl (by subst hs5; rfl) (fun H locs hP hD hS => ?_)
  refine lv_iconst (v := 0) hx hb dX8_sortByLies_15 (by decide) ?_
  refine lv_istore_n (lv' := [(3, .int 0), (0, .ref (a 41)), (1, .int x1), (2, .int x2)]) hx hb dX8_sortByLies_16 rfl hl (by decide) rfl (fun ls hl => ?_)
  exact bkX8_sortByLies_17L fu _ _ _ _ hB p e s0 m below meth c A E H locs ls hP hD hS (lv_sub hl [1, 2, 3, 0] rfl)
theorem ckX8_sortByLies {l : Launch} {dC : Nat → ClassId} {dI : Nat → Nat → Nat} {cB cI cJ cZ cS : ClassId} {a : Nat → Nat} {s' : KS} {s : KS} {x1 : Int32} {x2 : Int32} (hB : kX8_sortByLies s x1 x2 = some s') : CV l yX8_sortByLies wsX8_sortByLies ({ frames := 1, cells := 0, slots := 0, locals := 26 }) (dC, dI) (tysA cB cI cJ cZ cS) (wK cB cI cJ cZ cS a s) [.ref (a 41), .int x1, .int x2] (fun u => u = (wK cB cI cJ cZ cS a s')) :=
  CV_of (cc := cX8_sortByLies) (maxL := 5) (ret := none) (by decide) rfl (Nat.le_of_ble_eq_true rfl) (bkX8_sortByLies _ _ _ hB)
set_option maxHeartbeats 4000000 in
set_option maxRecDepth 100000 in
theorem bkX8_fitting {l : Launch} {dC : Nat → ClassId} {dI : Nat → Nat → Nat} {cB cI cJ cZ cS : ClassId} {a : Nat → Nat} {as : List Value} {r : Int32} {s' : KS} (s : KS) (x1 : Int32) (x2 : Int32) (hB : kX8_fitting s x1 x2 = some (r, s')) : BlkI l yX8_fitting wsX8_fitting ({ frames := 2, cells := 0, slots := 0, locals := 50 }) cX8_fitting 3 (some .int) (dC, dI) (tysA cB cI cJ cZ cS) as 0 (wK cB cI cJ cZ cS a s) [(0, .ref (a 41)), (1, .int x1), (2, .int x2)] [] (fun x u => x = r ∧ u = (wK cB cI cJ cZ cS a s')) := by
  intro p e s0 m below meth c A E H locs ls hP hD hS hl
  obtain ⟨C, hr, hlocks, hA, hK, hN⟩ := id E
  obtain ⟨hx, hb, hml, hown, hts⟩ := id C
  unfold kX8_fitting at hB
  refine lv_aload_n hx hb dX8_fitting_0 rfl (lv_at hl 0 rfl) ?_
  refine lv_iconst (v := (-1)) hx hb dX8_fitting_1 (by decide) ?_
  refine lv_iload_n hx hb dX8_fitting_2 rfl (lv_at hl 2 rfl) ?_
  obtain ⟨s1, hc, hB⟩ := bindP_inv hB
  refine q_govF (va_runV (As := [.int (-1), .int x2]) (rest := []) C (ckX8_sortByLies hc _) (cwV 2 hts gX8_fitting_X8_sortByLies rfl rfl rfl (by decide +kernel) ⟨Nat.le_of_ble_eq_true rfl, Nat.le_of_ble_eq_true rfl⟩) (q_preV hK hP (ci := 8) (q0 := 41) rfl rfl rfl (q_preF hN hK hP hD)) rfl rfl hl.1 rfl (lv_room (Nat.le_of_ble_eq_true rfl)) dX8_fitting_3 ⟨Nat.le_of_ble_eq_true rfl, Nat.le_of_ble_eq_true rfl⟩) hD hS hA (fun w1 H locs hw hP hD hS => ?_)
  subst hw
  refine lv_aload_n hx hb dX8_fitting_6 rfl (lv_at hl 0 rfl) ?_
  refine lv_iload_n hx hb dX8_fitting_7 rfl (lv_at hl 1 rfl) ?_
  obtain ⟨q_, s2, hc, hB⟩ := bindI_inv hB
  refine q_goiF (va_runV (As := [.int x1]) (rest := []) C (ckX8_upTo hc _) (cwV 1 hts gX8_fitting_X8_upTo rfl rfl rfl (by decide +kernel) ⟨Nat.le_of_ble_eq_true rfl, Nat.le_of_ble_eq_true rfl⟩) (q_preV hK hP (ci := 8) (q0 := 41) rfl rfl rfl (q_preF hN hK hP hD)) rfl rfl hl.1 rfl (lv_room (Nat.le_of_ble_eq_true rfl)) dX8_fitting_8 ⟨Nat.le_of_ble_eq_true rfl, Nat.le_of_ble_eq_true rfl⟩) hD hS hA (fun r3 w1 H locs hw hP hD hS => ?_)
  obtain ⟨hq_, hw⟩ := hw; subst hw; subst hq_
  exact q_iret C hr hlocks hK hP hD hS (Nat.le_of_ble_eq_true rfl) (Nat.le_of_ble_eq_true rfl) dX8_fitting_11 (by cases hB; exact ⟨rfl, rfl⟩)
theorem ckX8_fitting {l : Launch} {dC : Nat → ClassId} {dI : Nat → Nat → Nat} {cB cI cJ cZ cS : ClassId} {a : Nat → Nat} {r : Int32} {s' : KS} {s : KS} {x1 : Int32} {x2 : Int32} (hB : kX8_fitting s x1 x2 = some (r, s')) : CI l yX8_fitting wsX8_fitting ({ frames := 2, cells := 0, slots := 0, locals := 50 }) (dC, dI) (tysA cB cI cJ cZ cS) (wK cB cI cJ cZ cS a s) [.ref (a 41), .int x1, .int x2] (fun x u => x = r ∧ u = (wK cB cI cJ cZ cS a s')) :=
  CI_of (cc := cX8_fitting) (maxL := 3) (ret := (some .int)) (by decide) rfl (Nat.le_of_ble_eq_true rfl) (bkX8_fitting _ _ _ hB)
theorem LX8_liars_15 : Cond.fieldLink RX8 15 "GuessFerry$Tellers" "toldThings" "[I" ∈ wsX8_liars := (List.mem_cons_of_mem _ (List.mem_append_left _ (List.mem_append_left _ (List.mem_append_left _ (List.mem_of_getElem? (i := 2) rfl)))))
theorem LX8_liars_27 : Cond.fieldLink RX8 27 "GuessFerry$Tellers" "sound" "LGuessFerry$Sound;" ∈ wsX8_liars := (List.mem_cons_of_mem _ (List.mem_append_left _ (List.mem_append_left _ (List.mem_append_left _ (List.mem_of_getElem? (i := 0) rfl)))))
theorem LX8_liars_9 : Cond.fieldLink RX8 9 "GuessFerry$Tellers" "toldWaves" "[I" ∈ wsX8_liars := (List.mem_cons_of_mem _ (List.mem_append_left _ (List.mem_append_left _ (List.mem_append_left _ (List.mem_of_getElem? (i := 1) rfl)))))
theorem inX8_liars_X5 : ∀ w ∈ u_ws RX5 TX5 10, w ∈ wsX8_liars := fun w h => (List.mem_cons_of_mem _ (List.mem_append_right _ h))
theorem inX8_liars_X8 : ∀ w ∈ u_ws RX8 TX8 8, w ∈ wsX8_liars := fun w h => (List.mem_cons_of_mem _ (List.mem_append_left _ (List.mem_append_right _ h)))
set_option maxHeartbeats 4000000 in
set_option maxRecDepth 100000 in
theorem bkX8_liars_111 {l : Launch} {dC : Nat → ClassId} {dI : Nat → Nat → Nat} {cB cI cJ cZ cS : ClassId} {a : Nat → Nat} {as : List Value} {r : Int32} {s' : KS} {k5 : KS → Int32 → Int32 → Int32 → Int32 → Option (Int32 × KS)} {k71 : KS → Int32 → Int32 → Int32 → Int32 → Int32 → Int32 → Option (Int32 × KS)} (hk5 : ∀ (s : KS) (x1 : Int32) (x2 : Int32) (x3 : Int32) (x4 : Int32), k5 s x1 x2 x3 x4 = some (r, s') → BlkI l yX8_liars wsX8_liars ({ frames := 2, cells := 0, slots := 0, locals := 50 }) cX8_liars 7 (some .int) (dC, dI) (tysA cB cI cJ cZ cS) as 5 (wK cB cI cJ cZ cS a s) [(0, .ref (a 41)), (1, .int x1), (2, .int x2), (3, .int x3), (4, .int x4)] [] (fun x u => x = r ∧ u = (wK cB cI cJ cZ cS a s'))) (hk71 : ∀ (s : KS) (x1 : Int32) (x2 : Int32) (x3 : Int32) (x4 : Int32) (x5 : Int32) (x6 : Int32), k71 s x1 x2 x3 x4 x5 x6 = some (r, s') → BlkI l yX8_liars wsX8_liars ({ frames := 2, cells := 0, slots := 0, locals := 50 }) cX8_liars 7 (some .int) (dC, dI) (tysA cB cI cJ cZ cS) as 71 (wK cB cI cJ cZ cS a s) [(0, .ref (a 41)), (1, .int x1), (2, .int x2), (3, .int x3), (4, .int x4), (5, .int x5), (6, .int x6)] [] (fun x u => x = r ∧ u = (wK cB cI cJ cZ cS a s'))) (s : KS) (x1 : Int32) (x2 : Int32) (x4 : Int32) (x5 : Int32) (x6 : Int32) (t0 : Int32) (t1 : Int32) (hB : kX8_liars_111 k5 k71 s x1 x2 x4 x5 x6 t0 t1 = some (r, s')) : BlkI l yX8_liars wsX8_liars ({ frames := 2, cells := 0, slots := 0, locals := 50 }) cX8_liars 7 (some .int) (dC, dI) (tysA cB cI cJ cZ cS) as 111 (wK cB cI cJ cZ cS a s) [(0, .ref (a 41)), (1, .int x1), (2, .int x2), (4, .int x4), (5, .int x5), (6, .int x6)] [.int t0, .int t1] (fun x u => x = r ∧ u = (wK cB cI cJ cZ cS a s')) := by
  intro p e s0 m below meth c A E H locs ls hP hD hS hl
  obtain ⟨C, hr, hlocks, hA, hK, hN⟩ := id E
  obtain ⟨hx, hb, hml, hown, hts⟩ := id C
  unfold kX8_liars_111 at hB
  refine lv_ior hx hb dX8_liars_111 ?_
  refine lv_istore_n (lv' := [(3, .int (t1 ||| t0)), (0, .ref (a 41)), (1, .int x1), (2, .int x2), (4, .int x4), (5, .int x5), (6, .int x6)]) hx hb dX8_liars_112 rfl hl (by decide) rfl (fun ls hl => ?_)
  refine lv_iinc (v := (x6 + 1)) (lv' := [(6, .int (x6 + 1)), (3, .int (t1 ||| t0)), (0, .ref (a 41)), (1, .int x1), (2, .int x2), (4, .int x4), (5, .int x5)]) hx hb dX8_liars_113 hl (k := 6) rfl (rfl) (by decide) rfl (fun ls hl => ?_)
  refine lv_goto (tgt := 71) hx hb dX8_liars_116 (by decide) ?_
  exact hk71 _ _ _ _ _ _ _ hB p e s0 m below meth c A E H locs ls hP hD hS (lv_sub hl [2, 3, 4, 1, 5, 6, 0] rfl)
set_option maxHeartbeats 4000000 in
set_option maxRecDepth 100000 in
theorem bkX8_liars_110 {l : Launch} {dC : Nat → ClassId} {dI : Nat → Nat → Nat} {cB cI cJ cZ cS : ClassId} {a : Nat → Nat} {as : List Value} {r : Int32} {s' : KS} {k5 : KS → Int32 → Int32 → Int32 → Int32 → Option (Int32 × KS)} {k71 : KS → Int32 → Int32 → Int32 → Int32 → Int32 → Int32 → Option (Int32 × KS)} (hk5 : ∀ (s : KS) (x1 : Int32) (x2 : Int32) (x3 : Int32) (x4 : Int32), k5 s x1 x2 x3 x4 = some (r, s') → BlkI l yX8_liars wsX8_liars ({ frames := 2, cells := 0, slots := 0, locals := 50 }) cX8_liars 7 (some .int) (dC, dI) (tysA cB cI cJ cZ cS) as 5 (wK cB cI cJ cZ cS a s) [(0, .ref (a 41)), (1, .int x1), (2, .int x2), (3, .int x3), (4, .int x4)] [] (fun x u => x = r ∧ u = (wK cB cI cJ cZ cS a s'))) (hk71 : ∀ (s : KS) (x1 : Int32) (x2 : Int32) (x3 : Int32) (x4 : Int32) (x5 : Int32) (x6 : Int32), k71 s x1 x2 x3 x4 x5 x6 = some (r, s') → BlkI l yX8_liars wsX8_liars ({ frames := 2, cells := 0, slots := 0, locals := 50 }) cX8_liars 7 (some .int) (dC, dI) (tysA cB cI cJ cZ cS) as 71 (wK cB cI cJ cZ cS a s) [(0, .ref (a 41)), (1, .int x1), (2, .int x2), (3, .int x3), (4, .int x4), (5, .int x5), (6, .int x6)] [] (fun x u => x = r ∧ u = (wK cB cI cJ cZ cS a s'))) (s : KS) (x1 : Int32) (x2 : Int32) (x4 : Int32) (x5 : Int32) (x6 : Int32) (t0 : Int32) (hB : kX8_liars_110 k5 k71 s x1 x2 x4 x5 x6 t0 = some (r, s')) : BlkI l yX8_liars wsX8_liars ({ frames := 2, cells := 0, slots := 0, locals := 50 }) cX8_liars 7 (some .int) (dC, dI) (tysA cB cI cJ cZ cS) as 110 (wK cB cI cJ cZ cS a s) [(0, .ref (a 41)), (1, .int x1), (2, .int x2), (4, .int x4), (5, .int x5), (6, .int x6)] [.int t0] (fun x u => x = r ∧ u = (wK cB cI cJ cZ cS a s')) := by
  intro p e s0 m below meth c A E H locs ls hP hD hS hl
  obtain ⟨C, hr, hlocks, hA, hK, hN⟩ := id E
  obtain ⟨hx, hb, hml, hown, hts⟩ := id C
  unfold kX8_liars_110 at hB
  refine lv_iconst (v := 0) hx hb dX8_liars_110 (by decide) ?_
  exact bkX8_liars_111 (hk5) (hk71) _ _ _ _ _ _ _ _ hB p e s0 m below meth c A E H locs ls hP hD hS (lv_sub hl [0, 1, 2, 3, 4, 5] rfl)
set_option maxHeartbeats 4000000 in
set_option maxRecDepth 100000 in
theorem bkX8_liars_71 {l : Launch} {dC : Nat → ClassId} {dI : Nat → Nat → Nat} {cB cI cJ cZ cS : ClassId} {a : Nat → Nat} {as : List Value} {r : Int32} {s' : KS} {k5 : KS → Int32 → Int32 → Int32 → Int32 → Option (Int32 × KS)} {k71 : KS → Int32 → Int32 → Int32 → Int32 → Int32 → Int32 → Option (Int32 × KS)} (hk5 : ∀ (s : KS) (x1 : Int32) (x2 : Int32) (x3 : Int32) (x4 : Int32), k5 s x1 x2 x3 x4 = some (r, s') → BlkI l yX8_liars wsX8_liars ({ frames := 2, cells := 0, slots := 0, locals := 50 }) cX8_liars 7 (some .int) (dC, dI) (tysA cB cI cJ cZ cS) as 5 (wK cB cI cJ cZ cS a s) [(0, .ref (a 41)), (1, .int x1), (2, .int x2), (3, .int x3), (4, .int x4)] [] (fun x u => x = r ∧ u = (wK cB cI cJ cZ cS a s'))) (hk71 : ∀ (s : KS) (x1 : Int32) (x2 : Int32) (x3 : Int32) (x4 : Int32) (x5 : Int32) (x6 : Int32), k71 s x1 x2 x3 x4 x5 x6 = some (r, s') → BlkI l yX8_liars wsX8_liars ({ frames := 2, cells := 0, slots := 0, locals := 50 }) cX8_liars 7 (some .int) (dC, dI) (tysA cB cI cJ cZ cS) as 71 (wK cB cI cJ cZ cS a s) [(0, .ref (a 41)), (1, .int x1), (2, .int x2), (3, .int x3), (4, .int x4), (5, .int x5), (6, .int x6)] [] (fun x u => x = r ∧ u = (wK cB cI cJ cZ cS a s'))) (s : KS) (x1 : Int32) (x2 : Int32) (x3 : Int32) (x4 : Int32) (x5 : Int32) (x6 : Int32) (hB : kX8_liars_71 k5 k71 s x1 x2 x3 x4 x5 x6 = some (r, s')) : BlkI l yX8_liars wsX8_liars ({ frames := 2, cells := 0, slots := 0, locals := 50 }) cX8_liars 7 (some .int) (dC, dI) (tysA cB cI cJ cZ cS) as 71 (wK cB cI cJ cZ cS a s) [(0, .ref (a 41)), (1, .int x1), (2, .int x2), (3, .int x3), (4, .int x4), (5, .int x5), (6, .int x6)] [] (fun x u => x = r ∧ u = (wK cB cI cJ cZ cS a s')) := by
  intro p e s0 m below meth c A E H locs ls hP hD hS hl
  obtain ⟨C, hr, hlocks, hA, hK, hN⟩ := id E
  obtain ⟨hx, hb, hml, hown, hts⟩ := id C
  unfold kX8_liars_71 at hB
  refine lv_iload hx hb dX8_liars_71 (lv_at hl 6 rfl) ?_
  refine lv_iload_n hx hb dX8_liars_73 rfl (lv_at hl 1 rfl) ?_
  refine lv_icmp_ge (tgt := 119) hx hb dX8_liars_74 (by decide) (fun c1 => ?_) (fun c1 => ?_)
  · have hB := if_p hB c1
    refine lv_iinc (v := (x4 + 1)) (lv' := [(4, .int (x4 + 1)), (0, .ref (a 41)), (1, .int x1), (2, .int x2), (3, .int x3), (5, .int x5), (6, .int x6)]) hx hb dX8_liars_119 hl (k := 4) rfl (rfl) (by decide) rfl (fun ls hl => ?_)
    refine lv_goto (tgt := 5) hx hb dX8_liars_122 (by decide) ?_
    exact hk5 _ _ _ _ _ hB p e s0 m below meth c A E H locs ls hP hD hS (lv_sub hl [1, 2, 3, 4, 0] rfl)
  · have hB := if_n hB c1
    refine lv_iload_n hx hb dX8_liars_77 rfl (lv_at hl 3 rfl) ?_
    refine lv_aload_n hx hb dX8_liars_78 rfl (lv_at hl 0 rfl) ?_
    refine q_get (v := .ref (a 42)) C inX8_liars_X8 hK hP 41 rfl rfl 2 (by decide) rfl LX8_liars_9 rfl dX8_liars_79 ?_
    refine lv_iload hx hb dX8_liars_82 (lv_at hl 6 rfl) ?_
    obtain ⟨g2, hB⟩ := guard_inv hB
    refine q_iald (x := ((s.f 42) (Int32.toNatClampNeg x6))) C hK hP 42 1 rfl rfl (vpb_in g2) dX8_liars_84 rfl ?_
    refine lv_iload hx hb dX8_liars_85 (lv_at hl 4 rfl) ?_
    refine lv_icmp_ne (tgt := 110) hx hb dX8_liars_87 (by decide) (fun c3 => ?_) (fun c3 => ?_)
    · have hB := if_n hB c3
      exact bkX8_liars_110 (hk5) (hk71) _ _ _ _ _ _ _ hB p e s0 m below meth c A E H locs ls hP hD hS (lv_sub hl [0, 1, 2, 4, 5, 6] rfl)
    · have hB := if_p hB c3
      refine lv_aload_n hx hb dX8_liars_90 rfl (lv_at hl 0 rfl) ?_
      refine q_get (v := .ref (a 43)) C inX8_liars_X8 hK hP 41 rfl rfl 3 (by decide) rfl LX8_liars_15 rfl dX8_liars_91 ?_
      refine lv_iload hx hb dX8_liars_94 (lv_at hl 6 rfl) ?_
      obtain ⟨g4, hB⟩ := guard_inv hB
      refine q_iald (x := ((s.f 43) (Int32.toNatClampNeg x6))) C hK hP 43 1 rfl rfl (vpb_in g4) dX8_liars_96 rfl ?_
      refine lv_iload hx hb dX8_liars_97 (lv_at hl 5 rfl) ?_
      refine lv_iand hx hb dX8_liars_99 ?_
      refine lv_if_ne (tgt := 110) hx hb dX8_liars_100 (by decide) (fun c5 => ?_) (fun c5 => ?_)
      · have hB := if_n hB c5
        exact bkX8_liars_110 (hk5) (hk71) _ _ _ _ _ _ _ hB p e s0 m below meth c A E H locs ls hP hD hS (lv_sub hl [0, 1, 2, 4, 5, 6] rfl)
      · have hB := if_p hB c5
        refine lv_iconst (v := 1) hx hb dX8_liars_103 (by decide) ?_
        refine lv_iload hx hb dX8_liars_104 (lv_at hl 6 rfl) ?_
        refine lv_ishl hx hb dX8_liars_106 ?_
        refine lv_goto (tgt := 111) hx hb dX8_liars_107 (by decide) ?_
        exact bkX8_liars_111 (hk5) (hk71) _ _ _ _ _ _ _ _ hB p e s0 m below meth c A E H locs ls hP hD hS (lv_sub hl [0, 1, 2, 4, 5, 6] rfl)
theorem bkX8_liars_71L {l : Launch} {dC : Nat → ClassId} {dI : Nat → Nat → Nat} {cB cI cJ cZ cS : ClassId} {a : Nat → Nat} {as : List Value} {r : Int32} {s' : KS} {k5 : KS → Int32 → Int32 → Int32 → Int32 → Option (Int32 × KS)} (hk5 : ∀ (s : KS) (x1 : Int32) (x2 : Int32) (x3 : Int32) (x4 : Int32), k5 s x1 x2 x3 x4 = some (r, s') → BlkI l yX8_liars wsX8_liars ({ frames := 2, cells := 0, slots := 0, locals := 50 }) cX8_liars 7 (some .int) (dC, dI) (tysA cB cI cJ cZ cS) as 5 (wK cB cI cJ cZ cS a s) [(0, .ref (a 41)), (1, .int x1), (2, .int x2), (3, .int x3), (4, .int x4)] [] (fun x u => x = r ∧ u = (wK cB cI cJ cZ cS a s'))) : ∀ (n : Nat) (s : KS) (x1 : Int32) (x2 : Int32) (x3 : Int32) (x4 : Int32) (x5 : Int32) (x6 : Int32), kX8_liars_71L k5 n s x1 x2 x3 x4 x5 x6 = some (r, s') → BlkI l yX8_liars wsX8_liars ({ frames := 2, cells := 0, slots := 0, locals := 50 }) cX8_liars 7 (some .int) (dC, dI) (tysA cB cI cJ cZ cS) as 71 (wK cB cI cJ cZ cS a s) [(0, .ref (a 41)), (1, .int x1), (2, .int x2), (3, .int x3), (4, .int x4), (5, .int x5), (6, .int x6)] [] (fun x u => x = r ∧ u = (wK cB cI cJ cZ cS a s')) := by
  intro n
  induction n with
  | zero => intro s x1 x2 x3 x4 x5 x6 hB; exact none_ne hB
  | succ n ih => intro s x1 x2 x3 x4 x5 x6 hB; exact bkX8_liars_71 hk5 ih _ _ _ _ _ _ _ hB
set_option maxHeartbeats 4000000 in
set_option maxRecDepth 100000 in
theorem bkX8_liars_59 {l : Launch} {dC : Nat → ClassId} {dI : Nat → Nat → Nat} {cB cI cJ cZ cS : ClassId} {a : Nat → Nat} {as : List Value} {r : Int32} {s' : KS} {k5 : KS → Int32 → Int32 → Int32 → Int32 → Option (Int32 × KS)} {k30 : KS → Int32 → Int32 → Int32 → Int32 → Int32 → Int32 → Option (Int32 × KS)} (hk5 : ∀ (s : KS) (x1 : Int32) (x2 : Int32) (x3 : Int32) (x4 : Int32), k5 s x1 x2 x3 x4 = some (r, s') → BlkI l yX8_liars wsX8_liars ({ frames := 2, cells := 0, slots := 0, locals := 50 }) cX8_liars 7 (some .int) (dC, dI) (tysA cB cI cJ cZ cS) as 5 (wK cB cI cJ cZ cS a s) [(0, .ref (a 41)), (1, .int x1), (2, .int x2), (3, .int x3), (4, .int x4)] [] (fun x u => x = r ∧ u = (wK cB cI cJ cZ cS a s'))) (hk30 : ∀ (s : KS) (x1 : Int32) (x2 : Int32) (x3 : Int32) (x4 : Int32) (x5 : Int32) (x6 : Int32), k30 s x1 x2 x3 x4 x5 x6 = some (r, s') → BlkI l yX8_liars wsX8_liars ({ frames := 2, cells := 0, slots := 0, locals := 50 }) cX8_liars 7 (some .int) (dC, dI) (tysA cB cI cJ cZ cS) as 30 (wK cB cI cJ cZ cS a s) [(0, .ref (a 41)), (1, .int x1), (2, .int x2), (3, .int x3), (4, .int x4), (5, .int x5), (6, .int x6)] [] (fun x u => x = r ∧ u = (wK cB cI cJ cZ cS a s'))) (s : KS) (x1 : Int32) (x2 : Int32) (x3 : Int32) (x4 : Int32) (x6 : Int32) (t0 : Int32) (t1 : Int32) (hB : kX8_liars_59 k5 k30 s x1 x2 x3 x4 x6 t0 t1 = some (r, s')) : BlkI l yX8_liars wsX8_liars ({ frames := 2, cells := 0, slots := 0, locals := 50 }) cX8_liars 7 (some .int) (dC, dI) (tysA cB cI cJ cZ cS) as 59 (wK cB cI cJ cZ cS a s) [(0, .ref (a 41)), (1, .int x1), (2, .int x2), (3, .int x3), (4, .int x4), (6, .int x6)] [.int t0, .int t1] (fun x u => x = r ∧ u = (wK cB cI cJ cZ cS a s')) := by
  intro p e s0 m below meth c A E H locs ls hP hD hS hl
  obtain ⟨C, hr, hlocks, hA, hK, hN⟩ := id E
  obtain ⟨hx, hb, hml, hown, hts⟩ := id C
  unfold kX8_liars_59 at hB
  refine lv_ior hx hb dX8_liars_59 ?_
  refine lv_istore (lv' := [(5, .int (t1 ||| t0)), (0, .ref (a 41)), (1, .int x1), (2, .int x2), (3, .int x3), (4, .int x4), (6, .int x6)]) hx hb dX8_liars_60 hl (by decide) rfl (fun ls hl => ?_)
  refine lv_iinc (v := (x6 + 1)) (lv' := [(6, .int (x6 + 1)), (5, .int (t1 ||| t0)), (0, .ref (a 41)), (1, .int x1), (2, .int x2), (3, .int x3), (4, .int x4)]) hx hb dX8_liars_62 hl (k := 6) rfl (rfl) (by decide) rfl (fun ls hl => ?_)
  refine lv_goto (tgt := 30) hx hb dX8_liars_65 (by decide) ?_
  exact hk30 _ _ _ _ _ _ _ hB p e s0 m below meth c A E H locs ls hP hD hS (lv_sub hl [2, 3, 4, 5, 6, 1, 0] rfl)
set_option maxHeartbeats 4000000 in
set_option maxRecDepth 100000 in
theorem bkX8_liars_30 {l : Launch} {dC : Nat → ClassId} {dI : Nat → Nat → Nat} {cB cI cJ cZ cS : ClassId} {a : Nat → Nat} {as : List Value} {r : Int32} {s' : KS} {k5 : KS → Int32 → Int32 → Int32 → Int32 → Option (Int32 × KS)} {k30 : KS → Int32 → Int32 → Int32 → Int32 → Int32 → Int32 → Option (Int32 × KS)} (hk5 : ∀ (s : KS) (x1 : Int32) (x2 : Int32) (x3 : Int32) (x4 : Int32), k5 s x1 x2 x3 x4 = some (r, s') → BlkI l yX8_liars wsX8_liars ({ frames := 2, cells := 0, slots := 0, locals := 50 }) cX8_liars 7 (some .int) (dC, dI) (tysA cB cI cJ cZ cS) as 5 (wK cB cI cJ cZ cS a s) [(0, .ref (a 41)), (1, .int x1), (2, .int x2), (3, .int x3), (4, .int x4)] [] (fun x u => x = r ∧ u = (wK cB cI cJ cZ cS a s'))) (hk30 : ∀ (s : KS) (x1 : Int32) (x2 : Int32) (x3 : Int32) (x4 : Int32) (x5 : Int32) (x6 : Int32), k30 s x1 x2 x3 x4 x5 x6 = some (r, s') → BlkI l yX8_liars wsX8_liars ({ frames := 2, cells := 0, slots := 0, locals := 50 }) cX8_liars 7 (some .int) (dC, dI) (tysA cB cI cJ cZ cS) as 30 (wK cB cI cJ cZ cS a s) [(0, .ref (a 41)), (1, .int x1), (2, .int x2), (3, .int x3), (4, .int x4), (5, .int x5), (6, .int x6)] [] (fun x u => x = r ∧ u = (wK cB cI cJ cZ cS a s'))) (s : KS) (x1 : Int32) (x2 : Int32) (x3 : Int32) (x4 : Int32) (x5 : Int32) (x6 : Int32) (hB : kX8_liars_30 k5 k30 s x1 x2 x3 x4 x5 x6 = some (r, s')) : BlkI l yX8_liars wsX8_liars ({ frames := 2, cells := 0, slots := 0, locals := 50 }) cX8_liars 7 (some .int) (dC, dI) (tysA cB cI cJ cZ cS) as 30 (wK cB cI cJ cZ cS a s) [(0, .ref (a 41)), (1, .int x1), (2, .int x2), (3, .int x3), (4, .int x4), (5, .int x5), (6, .int x6)] [] (fun x u => x = r ∧ u = (wK cB cI cJ cZ cS a s')) := by
  intro p e s0 m below meth c A E H locs ls hP hD hS hl
  obtain ⟨C, hr, hlocks, hA, hK, hN⟩ := id E
  obtain ⟨hx, hb, hml, hown, hts⟩ := id C
  unfold kX8_liars_30 at hB
  refine lv_iload hx hb dX8_liars_30 (lv_at hl 6 rfl) ?_
  refine lv_bipush (v := 6) hx hb dX8_liars_32 (by decide) ?_
  refine lv_icmp_ge (tgt := 68) hx hb dX8_liars_34 (by decide) (fun c1 => ?_) (fun c1 => ?_)
  · have hB := if_p hB c1
    refine lv_iconst (v := 0) hx hb dX8_liars_68 (by decide) ?_
    refine lv_istore (lv' := [(6, .int 0), (0, .ref (a 41)), (1, .int x1), (2, .int x2), (3, .int x3), (4, .int x4), (5, .int x5)]) hx hb dX8_liars_69 hl (by decide) rfl (fun ls hl => ?_)
    exact bkX8_liars_71L (hk5) fu _ _ _ _ _ _ _ hB p e s0 m below meth c A E H locs ls hP hD hS (lv_sub hl [1, 2, 3, 4, 5, 6, 0] rfl)
  · have hB := if_n hB c1
    refine lv_iload hx hb dX8_liars_37 (lv_at hl 5 rfl) ?_
    refine lv_aload_n hx hb dX8_liars_39 rfl (lv_at hl 0 rfl) ?_
    refine lv_iload hx hb dX8_liars_40 (lv_at hl 4 rfl) ?_
    refine lv_iload hx hb dX8_liars_42 (lv_at hl 6 rfl) ?_
    refine lv_iload_n hx hb dX8_liars_44 rfl (lv_at hl 2 rfl) ?_
    obtain ⟨q_, s2, hc, hB⟩ := bindI_inv hB
    refine q_goiF (va_runV (As := [.int x4, .int x6, .int x2]) (rest := [.int x5]) C (ckX8_fittingWith hc _) (cwV 3 hts gX8_liars_X8_fittingWith rfl rfl rfl (by decide +kernel) ⟨Nat.le_of_ble_eq_true rfl, Nat.le_of_ble_eq_true rfl⟩) (q_preV hK hP (ci := 8) (q0 := 41) rfl rfl rfl (q_preF hN hK hP hD)) rfl rfl hl.1 rfl (lv_room (Nat.le_of_ble_eq_true rfl)) dX8_liars_45 ⟨Nat.le_of_ble_eq_true rfl, Nat.le_of_ble_eq_true rfl⟩) hD hS hA (fun r3 w1 H locs hw hP hD hS => ?_)
    obtain ⟨hq_, hw⟩ := hw; subst hw; subst hq_
    refine lv_if_le (tgt := 58) hx hb dX8_liars_48 (by decide) (fun c4 => ?_) (fun c4 => ?_)
    · have hB := if_p hB c4
      refine lv_iconst (v := 0) hx hb dX8_liars_58 (by decide) ?_
      exact bkX8_liars_59 (hk5) (hk30) _ _ _ _ _ _ _ _ hB p e s0 m below meth c A E H locs ls hP hD hS (lv_sub hl [0, 1, 2, 3, 4, 6] rfl)
    · have hB := if_n hB c4
      refine lv_iconst (v := 1) hx hb dX8_liars_51 (by decide) ?_
      refine lv_iload hx hb dX8_liars_52 (lv_at hl 6 rfl) ?_
      refine lv_ishl hx hb dX8_liars_54 ?_
      refine lv_goto (tgt := 59) hx hb dX8_liars_55 (by decide) ?_
      exact bkX8_liars_59 (hk5) (hk30) _ _ _ _ _ _ _ _ hB p e s0 m below meth c A E H locs ls hP hD hS (lv_sub hl [0, 1, 2, 3, 4, 6] rfl)
theorem bkX8_liars_30L {l : Launch} {dC : Nat → ClassId} {dI : Nat → Nat → Nat} {cB cI cJ cZ cS : ClassId} {a : Nat → Nat} {as : List Value} {r : Int32} {s' : KS} {k5 : KS → Int32 → Int32 → Int32 → Int32 → Option (Int32 × KS)} (hk5 : ∀ (s : KS) (x1 : Int32) (x2 : Int32) (x3 : Int32) (x4 : Int32), k5 s x1 x2 x3 x4 = some (r, s') → BlkI l yX8_liars wsX8_liars ({ frames := 2, cells := 0, slots := 0, locals := 50 }) cX8_liars 7 (some .int) (dC, dI) (tysA cB cI cJ cZ cS) as 5 (wK cB cI cJ cZ cS a s) [(0, .ref (a 41)), (1, .int x1), (2, .int x2), (3, .int x3), (4, .int x4)] [] (fun x u => x = r ∧ u = (wK cB cI cJ cZ cS a s'))) : ∀ (n : Nat) (s : KS) (x1 : Int32) (x2 : Int32) (x3 : Int32) (x4 : Int32) (x5 : Int32) (x6 : Int32), kX8_liars_30L k5 n s x1 x2 x3 x4 x5 x6 = some (r, s') → BlkI l yX8_liars wsX8_liars ({ frames := 2, cells := 0, slots := 0, locals := 50 }) cX8_liars 7 (some .int) (dC, dI) (tysA cB cI cJ cZ cS) as 30 (wK cB cI cJ cZ cS a s) [(0, .ref (a 41)), (1, .int x1), (2, .int x2), (3, .int x3), (4, .int x4), (5, .int x5), (6, .int x6)] [] (fun x u => x = r ∧ u = (wK cB cI cJ cZ cS a s')) := by
  intro n
  induction n with
  | zero => intro s x1 x2 x3 x4 x5 x6 hB; exact none_ne hB
  | succ n ih => intro s x1 x2 x3 x4 x5 x6 hB; exact bkX8_liars_30 hk5 ih _ _ _ _ _ _ _ hB
set_option maxHeartbeats 4000000 in
set_option maxRecDepth 100000 in
theorem bkX8_liars_5 {l : Launch} {dC : Nat → ClassId} {dI : Nat → Nat → Nat} {cB cI cJ cZ cS : ClassId} {a : Nat → Nat} {as : List Value} {r : Int32} {s' : KS} {k5 : KS → Int32 → Int32 → Int32 → Int32 → Option (Int32 × KS)} (hk5 : ∀ (s : KS) (x1 : Int32) (x2 : Int32) (x3 : Int32) (x4 : Int32), k5 s x1 x2 x3 x4 = some (r, s') → BlkI l yX8_liars wsX8_liars ({ frames := 2, cells := 0, slots := 0, locals := 50 }) cX8_liars 7 (some .int) (dC, dI) (tysA cB cI cJ cZ cS) as 5 (wK cB cI cJ cZ cS a s) [(0, .ref (a 41)), (1, .int x1), (2, .int x2), (3, .int x3), (4, .int x4)] [] (fun x u => x = r ∧ u = (wK cB cI cJ cZ cS a s'))) (s : KS) (x1 : Int32) (x2 : Int32) (x3 : Int32) (x4 : Int32) (hB : kX8_liars_5 k5 s x1 x2 x3 x4 = some (r, s')) : BlkI l yX8_liars wsX8_liars ({ frames := 2, cells := 0, slots := 0, locals := 50 }) cX8_liars 7 (some .int) (dC, dI) (tysA cB cI cJ cZ cS) as 5 (wK cB cI cJ cZ cS a s) [(0, .ref (a 41)), (1, .int x1), (2, .int x2), (3, .int x3), (4, .int x4)] [] (fun x u => x = r ∧ u = (wK cB cI cJ cZ cS a s')) := by
  intro p e s0 m below meth c A E H locs ls hP hD hS hl
  obtain ⟨C, hr, hlocks, hA, hK, hN⟩ := id E
  obtain ⟨hx, hb, hml, hown, hts⟩ := id C
  unfold kX8_liars_5 at hB
  refine lv_iload hx hb dX8_liars_5 (lv_at hl 4 rfl) ?_
  refine lv_aload_n hx hb dX8_liars_7 rfl (lv_at hl 0 rfl) ?_
  refine q_get (v := .ref (a 2)) C inX8_liars_X8 hK hP 41 rfl rfl 0 (by decide) rfl LX8_liars_27 rfl dX8_liars_8 ?_
  refine q_getN (v := .int (s.v 1)) C hN inX8_liars_X5 hK hP 2 rfl rfl 6 (by decide) rfl nwF_X8_39 rfl dX8_liars_11 ?_
  refine lv_icmp_ge (tgt := 125) hx hb dX8_liars_14 (by decide) (fun c1 => ?_) (fun c1 => ?_)
  · have hB := if_p hB c1
    refine lv_iload_n hx hb dX8_liars_125 rfl (lv_at hl 3 rfl) ?_
    exact q_iret C hr hlocks hK hP hD hS (Nat.le_of_ble_eq_true rfl) (Nat.le_of_ble_eq_true rfl) dX8_liars_126 (by cases hB; exact ⟨rfl, rfl⟩)
  · have hB := if_n hB c1
    refine lv_aload_n hx hb dX8_liars_17 rfl (lv_at hl 0 rfl) ?_
    refine lv_iload hx hb dX8_liars_18 (lv_at hl 4 rfl) ?_
    refine lv_iconst (v := 0) hx hb dX8_liars_20 (by decide) ?_
    obtain ⟨s2, hc, hB⟩ := bindP_inv hB
    refine q_govF (va_runV (As := [.int x4, .int 0]) (rest := []) C (ckX8_sortByLies hc _) (cwV 2 hts gX8_liars_X8_sortByLies rfl rfl rfl (by decide +kernel) ⟨Nat.le_of_ble_eq_true rfl, Nat.le_of_ble_eq_true rfl⟩) (q_preV hK hP (ci := 8) (q0 := 41) rfl rfl rfl (q_preF hN hK hP hD)) rfl rfl hl.1 rfl (lv_room (Nat.le_of_ble_eq_true rfl)) dX8_liars_21 ⟨Nat.le_of_ble_eq_true rfl, Nat.le_of_ble_eq_true rfl⟩) hD hS hA (fun w1 H locs hw hP hD hS => ?_)
    subst hw
    refine lv_iconst (v := 0) hx hb dX8_liars_24 (by decide) ?_
    refine lv_istore (lv' := [(5, .int 0), (0, .ref (a 41)), (1, .int x1), (2, .int x2), (3, .int x3), (4, .int x4)]) hx hb dX8_liars_25 hl (by decide) rfl (fun ls hl => ?_)
    refine lv_iconst (v := 0) hx hb dX8_liars_27 (by decide) ?_
    refine lv_istore (lv' := [(6, .int 0), (5, .int 0), (0, .ref (a 41)), (1, .int x1), (2, .int x2), (3, .int x3), (4, .int x4)]) hx hb dX8_liars_28 hl (by decide) rfl (fun ls hl => ?_)
    exact bkX8_liars_30L (hk5) fu _ _ _ _ _ _ _ hB p e s0 m below meth c A E H locs ls hP hD hS (lv_sub hl [2, 3, 4, 5, 6, 1, 0] rfl)
theorem bkX8_liars_5L {l : Launch} {dC : Nat → ClassId} {dI : Nat → Nat → Nat} {cB cI cJ cZ cS : ClassId} {a : Nat → Nat} {as : List Value} {r : Int32} {s' : KS} : ∀ (n : Nat) (s : KS) (x1 : Int32) (x2 : Int32) (x3 : Int32) (x4 : Int32), kX8_liars_5L n s x1 x2 x3 x4 = some (r, s') → BlkI l yX8_liars wsX8_liars ({ frames := 2, cells := 0, slots := 0, locals := 50 }) cX8_liars 7 (some .int) (dC, dI) (tysA cB cI cJ cZ cS) as 5 (wK cB cI cJ cZ cS a s) [(0, .ref (a 41)), (1, .int x1), (2, .int x2), (3, .int x3), (4, .int x4)] [] (fun x u => x = r ∧ u = (wK cB cI cJ cZ cS a s')) := by
  intro n
  induction n with
  | zero => intro s x1 x2 x3 x4 hB; exact none_ne hB
  | succ n ih => intro s x1 x2 x3 x4 hB; exact bkX8_liars_5 ih _ _ _ _ _ hB
set_option maxHeartbeats 4000000 in
set_option maxRecDepth 100000 in
theorem bkX8_liars {l : Launch} {dC : Nat → ClassId} {dI : Nat → Nat → Nat} {cB cI cJ cZ cS : ClassId} {a : Nat → Nat} {as : List Value} {r : Int32} {s' : KS} (s : KS) (x1 : Int32) (x2 : Int32) (hB : kX8_liars s x1 x2 = some (r, s')) : BlkI l yX8_liars wsX8_liars ({ frames := 2, cells := 0, slots := 0, locals := 50 }) cX8_liars 7 (some .int) (dC, dI) (tysA cB cI cJ cZ cS) as 0 (wK cB cI cJ cZ cS a s) [(0, .ref (a 41)), (1, .int x1), (2, .int x2)] [] (fun x u => x = r ∧ u = (wK cB cI cJ cZ cS a s')) := by
  intro p e s0 m below meth c A E H locs ls hP hD hS hl
  obtain ⟨C, hr, hlocks, hA, hK, hN⟩ := id E
  obtain ⟨hx, hb, hml, hown, hts⟩ := id C
  unfold kX8_liars at hB
  refine lv_iconst (v := 0) hx hb dX8_liars_0 (by decide) ?_
  refine lv_istore_n (lv' := [(3, .int 0), (0, .ref (a 41)), (1, .int x1), (2, .int x2)]) hx hb dX8_liars_1 rfl hl (by decide) rfl (fun ls hl => ?_)
  refine lv_iconst (v := 0) hx hb dX8_liars_2 (by decide) ?_
  refine lv_istore (lv' := [(4, .int 0), (3, .int 0), (0, .ref (a 41)), (1, .int x1), (2, .int x2)]) hx hb dX8_liars_3 hl (by decide) rfl (fun ls hl => ?_)
  exact bkX8_liars_5L fu _ _ _ _ _ hB p e s0 m below meth c A E H locs ls hP hD hS (lv_sub hl [2, 3, 4, 1, 0] rfl)
theorem ckX8_liars {l : Launch} {dC : Nat → ClassId} {dI : Nat → Nat → Nat} {cB cI cJ cZ cS : ClassId} {a : Nat → Nat} {r : Int32} {s' : KS} {s : KS} {x1 : Int32} {x2 : Int32} (hB : kX8_liars s x1 x2 = some (r, s')) : CI l yX8_liars wsX8_liars ({ frames := 2, cells := 0, slots := 0, locals := 50 }) (dC, dI) (tysA cB cI cJ cZ cS) (wK cB cI cJ cZ cS a s) [.ref (a 41), .int x1, .int x2] (fun x u => x = r ∧ u = (wK cB cI cJ cZ cS a s')) :=
  CI_of (cc := cX8_liars) (maxL := 7) (ret := (some .int)) (by decide) rfl (Nat.le_of_ble_eq_true rfl) (bkX8_liars _ _ _ hB)
end
