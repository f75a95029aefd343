theorem ggX0_clearVars_J7_fill_53178 : GoodIn wsX0_clearVars wsJ7_fill_53178 := gi_sub (fun w h => List.mem_cons_of_mem _ (List.mem_append_left _ (List.mem_append_left _ (List.mem_append_right _ h)))) gd_wsJ7_fill_53178
set_option maxRecDepth 20000 in
theorem gX0_clearVars_J7_fill_53178 : GoodIn wsX0_clearVars (va_wsS RX0 53 yJ7_fill_53178 wsJ7_fill_53178) := goodIn_app (goodIn_of _ (by decide +kernel)) ggX0_clearVars_J7_fill_53178
theorem dX0_clearVars_0 : decode cX0_clearVars 0 = .ok (.aload_n 0, 1) := dc1_42 (by decide +kernel)
theorem dX0_clearVars_1 : decode cX0_clearVars 1 = .ok (.getfield 27, 3) := dcw_180 (by decide +kernel)
theorem dX0_clearVars_4 : decode cX0_clearVars 4 = .ok (.iconst 0, 1) := dc1_3 (by decide +kernel)
theorem dX0_clearVars_5 : decode cX0_clearVars 5 = .ok (.invokestatic 53, 3) := dcw_184 (by decide +kernel)
theorem dX0_clearVars_8 : decode cX0_clearVars 8 = .ok (.aload_n 0, 1) := dc1_42 (by decide +kernel)
theorem dX0_clearVars_9 : decode cX0_clearVars 9 = .ok (.getfield 27, 3) := dcw_180 (by decide +kernel)
theorem dX0_clearVars_12 : decode cX0_clearVars 12 = .ok (.iconst 5, 1) := dc1_8 (by decide +kernel)
theorem dX0_clearVars_13 : decode cX0_clearVars 13 = .ok (.aload_n 1, 1) := dc1_43 (by decide +kernel)
theorem dX0_clearVars_14 : decode cX0_clearVars 14 = .ok (.getfield 59, 3) := dcw_180 (by decide +kernel)
theorem dX0_clearVars_17 : decode cX0_clearVars 17 = .ok (.iastore, 1) := dc1_79 (by decide +kernel)
theorem dX0_clearVars_18 : decode cX0_clearVars 18 = .ok (.return_, 1) := dc1_177 (by decide +kernel)
theorem dX10_thingIn_0 : decode cX10_thingIn 0 = .ok (.iload_n 0, 1) := dc1_26 (by decide +kernel)
theorem dX10_thingIn_1 : decode cX10_thingIn 1 = .ok (.istore_n 2, 1) := dc1_61 (by decide +kernel)
theorem dX10_thingIn_2 : decode cX10_thingIn 2 = .ok (.iconst 0, 1) := dc1_3 (by decide +kernel)
theorem dX10_thingIn_3 : decode cX10_thingIn 3 = .ok (.istore_n 3, 1) := dc1_62 (by decide +kernel)
theorem dX10_thingIn_4 : decode cX10_thingIn 4 = .ok (.iload_n 3, 1) := dc1_29 (by decide +kernel)
theorem dX10_thingIn_5 : decode cX10_thingIn 5 = .ok (.iload_n 1, 1) := dc1_27 (by decide +kernel)
theorem dX10_thingIn_6 : decode cX10_thingIn 6 = .ok (.if_icmp .ge 14, 3) := dcs_162 (n := 14) (by decide +kernel)
theorem dX10_thingIn_9 : decode cX10_thingIn 9 = .ok (.iload_n 2, 1) := dc1_28 (by decide +kernel)
theorem dX10_thingIn_10 : decode cX10_thingIn 10 = .ok (.bipush 6, 2) := dcb_16 (n := 6) (by decide +kernel)
theorem dX10_thingIn_12 : decode cX10_thingIn 12 = .ok (.idiv, 1) := dc1_108 (by decide +kernel)
theorem dX10_thingIn_13 : decode cX10_thingIn 13 = .ok (.istore_n 2, 1) := dc1_61 (by decide +kernel)
theorem dX10_thingIn_14 : decode cX10_thingIn 14 = .ok (.iinc 3 1, 3) := dc_iinc (m := 1) (by decide +kernel)
theorem dX10_thingIn_17 : decode cX10_thingIn 17 = .ok (.goto (-13), 3) := dcs_167 (n := 65523) (by decide +kernel)
theorem dX10_thingIn_20 : decode cX10_thingIn 20 = .ok (.iload_n 2, 1) := dc1_28 (by decide +kernel)
theorem dX10_thingIn_21 : decode cX10_thingIn 21 = .ok (.bipush 6, 2) := dcb_16 (n := 6) (by decide +kernel)
theorem dX10_thingIn_23 : decode cX10_thingIn 23 = .ok (.irem, 1) := dc1_112 (by decide +kernel)
theorem dX10_thingIn_24 : decode cX10_thingIn 24 = .ok (.ireturn, 1) := dc1_172 (by decide +kernel)
theorem dX10_heldTo_0 : decode cX10_heldTo 0 = .ok (.iconst 0, 1) := dc1_3 (by decide +kernel)
theorem dX10_heldTo_1 : decode cX10_heldTo 1 = .ok (.iload_n 0, 1) := dc1_26 (by decide +kernel)
theorem dX10_heldTo_2 : decode cX10_heldTo 2 = .ok (.iload_n 1, 1) := dc1_27 (by decide +kernel)
theorem dX10_heldTo_3 : decode cX10_heldTo 3 = .ok (.invokestatic 314, 3) := dcw_184 (by decide +kernel)
theorem dX10_heldTo_6 : decode cX10_heldTo 6 = .ok (.invokestatic 319, 3) := dcw_184 (by decide +kernel)
theorem dX10_heldTo_9 : decode cX10_heldTo 9 = .ok (.ireturn, 1) := dc1_172 (by decide +kernel)
theorem dX10_stirred_0 : decode cX10_stirred 0 = .ok (.iload_n 0, 1) := dc1_26 (by decide +kernel)
theorem dX10_stirred_1 : decode cX10_stirred 1 = .ok (.iload_n 1, 1) := dc1_27 (by decide +kernel)
theorem dX10_stirred_2 : decode cX10_stirred 2 = .ok (.ixor, 1) := dc1_130 (by decide +kernel)
theorem dX10_stirred_3 : decode cX10_stirred 3 = .ok (.ldc_w 325, 3) := dcw_19 (by decide +kernel)
theorem dX10_stirred_6 : decode cX10_stirred 6 = .ok (.imul, 1) := dc1_104 (by decide +kernel)
theorem dX10_stirred_7 : decode cX10_stirred 7 = .ok (.sipush 12345, 3) := dcs_17 (n := 12345) (by decide +kernel)
theorem dX10_stirred_10 : decode cX10_stirred 10 = .ok (.iadd, 1) := dc1_96 (by decide +kernel)
theorem dX10_stirred_11 : decode cX10_stirred 11 = .ok (.istore_n 2, 1) := dc1_61 (by decide +kernel)
theorem dX10_stirred_12 : decode cX10_stirred 12 = .ok (.iload_n 2, 1) := dc1_28 (by decide +kernel)
theorem dX10_stirred_13 : decode cX10_stirred 13 = .ok (.iload_n 2, 1) := dc1_28 (by decide +kernel)
theorem dX10_stirred_14 : decode cX10_stirred 14 = .ok (.bipush 15, 2) := dcb_16 (n := 15) (by decide +kernel)
theorem dX10_stirred_16 : decode cX10_stirred 16 = .ok (.iushr, 1) := dc1_124 (by decide +kernel)
theorem dX10_stirred_17 : decode cX10_stirred 17 = .ok (.ixor, 1) := dc1_130 (by decide +kernel)
theorem dX10_stirred_18 : decode cX10_stirred 18 = .ok (.ireturn, 1) := dc1_172 (by decide +kernel)
theorem dJ6_numberOfTrailingZeros_0f7a4_0 : decode cJ6_numberOfTrailingZeros_0f7a4 0 = .ok (.iload_n 0, 1) := dc1_26 (by decide +kernel)
theorem dJ6_numberOfTrailingZeros_0f7a4_1 : decode cJ6_numberOfTrailingZeros_0f7a4 1 = .ok (.iconst (-1), 1) := dc1_2 (by decide +kernel)
theorem dJ6_numberOfTrailingZeros_0f7a4_2 : decode cJ6_numberOfTrailingZeros_0f7a4 2 = .ok (.ixor, 1) := dc1_130 (by decide +kernel)
theorem dJ6_numberOfTrailingZeros_0f7a4_3 : decode cJ6_numberOfTrailingZeros_0f7a4 3 = .ok (.iload_n 0, 1) := dc1_26 (by decide +kernel)
theorem dJ6_numberOfTrailingZeros_0f7a4_4 : decode cJ6_numberOfTrailingZeros_0f7a4 4 = .ok (.iconst 1, 1) := dc1_4 (by decide +kernel)
theorem dJ6_numberOfTrailingZeros_0f7a4_5 : decode cJ6_numberOfTrailingZeros_0f7a4 5 = .ok (.isub, 1) := dc1_100 (by decide +kernel)
theorem dJ6_numberOfTrailingZeros_0f7a4_6 : decode cJ6_numberOfTrailingZeros_0f7a4 6 = .ok (.iand, 1) := dc1_126 (by decide +kernel)
theorem dJ6_numberOfTrailingZeros_0f7a4_7 : decode cJ6_numberOfTrailingZeros_0f7a4 7 = .ok (.istore_n 0, 1) := dc1_59 (by decide +kernel)
theorem dJ6_numberOfTrailingZeros_0f7a4_8 : decode cJ6_numberOfTrailingZeros_0f7a4 8 = .ok (.iload_n 0, 1) := dc1_26 (by decide +kernel)
theorem dJ6_numberOfTrailingZeros_0f7a4_9 : decode cJ6_numberOfTrailingZeros_0f7a4 9 = .ok (.ifCond .gt 8, 3) := dcs_157 (n := 8) (by decide +kernel)
theorem dJ6_numberOfTrailingZeros_0f7a4_12 : decode cJ6_numberOfTrailingZeros_0f7a4 12 = .ok (.iload_n 0, 1) := dc1_26 (by decide +kernel)
theorem dJ6_numberOfTrailingZeros_0f7a4_13 : decode cJ6_numberOfTrailingZeros_0f7a4 13 = .ok (.bipush 32, 2) := dcb_16 (n := 32) (by decide +kernel)
theorem dJ6_numberOfTrailingZeros_0f7a4_15 : decode cJ6_numberOfTrailingZeros_0f7a4 15 = .ok (.iand, 1) := dc1_126 (by decide +kernel)
theorem dJ6_numberOfTrailingZeros_0f7a4_16 : decode cJ6_numberOfTrailingZeros_0f7a4 16 = .ok (.ireturn, 1) := dc1_172 (by decide +kernel)
theorem dJ6_numberOfTrailingZeros_0f7a4_17 : decode cJ6_numberOfTrailingZeros_0f7a4 17 = .ok (.iconst 1, 1) := dc1_4 (by decide +kernel)
theorem dJ6_numberOfTrailingZeros_0f7a4_18 : decode cJ6_numberOfTrailingZeros_0f7a4 18 = .ok (.istore_n 1, 1) := dc1_60 (by decide +kernel)
theorem dJ6_numberOfTrailingZeros_0f7a4_19 : decode cJ6_numberOfTrailingZeros_0f7a4 19 = .ok (.iload_n 0, 1) := dc1_26 (by decide +kernel)
theorem dJ6_numberOfTrailingZeros_0f7a4_20 : decode cJ6_numberOfTrailingZeros_0f7a4 20 = .ok (.ldc_w 264, 3) := dcw_19 (by decide +kernel)
theorem dJ6_numberOfTrailingZeros_0f7a4_23 : decode cJ6_numberOfTrailingZeros_0f7a4 23 = .ok (.if_icmp .le 11, 3) := dcs_164 (n := 11) (by decide +kernel)
theorem dJ6_numberOfTrailingZeros_0f7a4_26 : decode cJ6_numberOfTrailingZeros_0f7a4 26 = .ok (.iinc 1 16, 3) := dc_iinc (m := 16) (by decide +kernel)
theorem dJ6_numberOfTrailingZeros_0f7a4_29 : decode cJ6_numberOfTrailingZeros_0f7a4 29 = .ok (.iload_n 0, 1) := dc1_26 (by decide +kernel)
theorem dJ6_numberOfTrailingZeros_0f7a4_30 : decode cJ6_numberOfTrailingZeros_0f7a4 30 = .ok (.bipush 16, 2) := dcb_16 (n := 16) (by decide +kernel)
theorem dJ6_numberOfTrailingZeros_0f7a4_32 : decode cJ6_numberOfTrailingZeros_0f7a4 32 = .ok (.iushr, 1) := dc1_124 (by decide +kernel)
theorem dJ6_numberOfTrailingZeros_0f7a4_33 : decode cJ6_numberOfTrailingZeros_0f7a4 33 = .ok (.istore_n 0, 1) := dc1_59 (by decide +kernel)
theorem dJ6_numberOfTrailingZeros_0f7a4_34 : decode cJ6_numberOfTrailingZeros_0f7a4 34 = .ok (.iload_n 0, 1) := dc1_26 (by decide +kernel)
theorem dJ6_numberOfTrailingZeros_0f7a4_35 : decode cJ6_numberOfTrailingZeros_0f7a4 35 = .ok (.sipush 256, 3) := dcs_17 (n := 256) (by decide +kernel)
theorem dJ6_numberOfTrailingZeros_0f7a4_38 : decode cJ6_numberOfTrailingZeros_0f7a4 38 = .ok (.if_icmp .le 11, 3) := dcs_164 (n := 11) (by decide +kernel)
theorem dJ6_numberOfTrailingZeros_0f7a4_41 : decode cJ6_numberOfTrailingZeros_0f7a4 41 = .ok (.iinc 1 8, 3) := dc_iinc (m := 8) (by decide +kernel)
theorem dJ6_numberOfTrailingZeros_0f7a4_44 : decode cJ6_numberOfTrailingZeros_0f7a4 44 = .ok (.iload_n 0, 1) := dc1_26 (by decide +kernel)
theorem dJ6_numberOfTrailingZeros_0f7a4_45 : decode cJ6_numberOfTrailingZeros_0f7a4 45 = .ok (.bipush 8, 2) := dcb_16 (n := 8) (by decide +kernel)
theorem dJ6_numberOfTrailingZeros_0f7a4_47 : decode cJ6_numberOfTrailingZeros_0f7a4 47 = .ok (.iushr, 1) := dc1_124 (by decide +kernel)
theorem dJ6_numberOfTrailingZeros_0f7a4_48 : decode cJ6_numberOfTrailingZeros_0f7a4 48 = .ok (.istore_n 0, 1) := dc1_59 (by decide +kernel)
theorem dJ6_numberOfTrailingZeros_0f7a4_49 : decode cJ6_numberOfTrailingZeros_0f7a4 49 = .ok (.iload_n 0, 1) := dc1_26 (by decide +kernel)
theorem dJ6_numberOfTrailingZeros_0f7a4_50 : decode cJ6_numberOfTrailingZeros_0f7a4 50 = .ok (.bipush 16, 2) := dcb_16 (n := 16) (by decide +kernel)
theorem dJ6_numberOfTrailingZeros_0f7a4_52 : decode cJ6_numberOfTrailingZeros_0f7a4 52 = .ok (.if_icmp .le 10, 3) := dcs_164 (n := 10) (by decide +kernel)
theorem dJ6_numberOfTrailingZeros_0f7a4_55 : decode cJ6_numberOfTrailingZeros_0f7a4 55 = .ok (.iinc 1 4, 3) := dc_iinc (m := 4) (by decide +kernel)
theorem dJ6_numberOfTrailingZeros_0f7a4_58 : decode cJ6_numberOfTrailingZeros_0f7a4 58 = .ok (.iload_n 0, 1) := dc1_26 (by decide +kernel)
theorem dJ6_numberOfTrailingZeros_0f7a4_59 : decode cJ6_numberOfTrailingZeros_0f7a4 59 = .ok (.iconst 4, 1) := dc1_7 (by decide +kernel)
theorem dJ6_numberOfTrailingZeros_0f7a4_60 : decode cJ6_numberOfTrailingZeros_0f7a4 60 = .ok (.iushr, 1) := dc1_124 (by decide +kernel)
theorem dJ6_numberOfTrailingZeros_0f7a4_61 : decode cJ6_numberOfTrailingZeros_0f7a4 61 = .ok (.istore_n 0, 1) := dc1_59 (by decide +kernel)
theorem dJ6_numberOfTrailingZeros_0f7a4_62 : decode cJ6_numberOfTrailingZeros_0f7a4 62 = .ok (.iload_n 0, 1) := dc1_26 (by decide +kernel)
theorem dJ6_numberOfTrailingZeros_0f7a4_63 : decode cJ6_numberOfTrailingZeros_0f7a4 63 = .ok (.iconst 4, 1) := dc1_7 (by decide +kernel)
theorem dJ6_numberOfTrailingZeros_0f7a4_64 : decode cJ6_numberOfTrailingZeros_0f7a4 64 = .ok (.if_icmp .le 10, 3) := dcs_164 (n := 10) (by decide +kernel)
theorem dJ6_numberOfTrailingZeros_0f7a4_67 : decode cJ6_numberOfTrailingZeros_0f7a4 67 = .ok (.iinc 1 2, 3) := dc_iinc (m := 2) (by decide +kernel)
theorem dJ6_numberOfTrailingZeros_0f7a4_70 : decode cJ6_numberOfTrailingZeros_0f7a4 70 = .ok (.iload_n 0, 1) := dc1_26 (by decide +kernel)
theorem dJ6_numberOfTrailingZeros_0f7a4_71 : decode cJ6_numberOfTrailingZeros_0f7a4 71 = .ok (.iconst 2, 1) := dc1_5 (by decide +kernel)
theorem dJ6_numberOfTrailingZeros_0f7a4_72 : decode cJ6_numberOfTrailingZeros_0f7a4 72 = .ok (.iushr, 1) := dc1_124 (by decide +kernel)
theorem dJ6_numberOfTrailingZeros_0f7a4_73 : decode cJ6_numberOfTrailingZeros_0f7a4 73 = .ok (.istore_n 0, 1) := dc1_59 (by decide +kernel)
theorem dJ6_numberOfTrailingZeros_0f7a4_74 : decode cJ6_numberOfTrailingZeros_0f7a4 74 = .ok (.iload_n 1, 1) := dc1_27 (by decide +kernel)
theorem dJ6_numberOfTrailingZeros_0f7a4_75 : decode cJ6_numberOfTrailingZeros_0f7a4 75 = .ok (.iload_n 0, 1) := dc1_26 (by decide +kernel)
theorem dJ6_numberOfTrailingZeros_0f7a4_76 : decode cJ6_numberOfTrailingZeros_0f7a4 76 = .ok (.iconst 1, 1) := dc1_4 (by decide +kernel)
theorem dJ6_numberOfTrailingZeros_0f7a4_77 : decode cJ6_numberOfTrailingZeros_0f7a4 77 = .ok (.iushr, 1) := dc1_124 (by decide +kernel)
theorem dJ6_numberOfTrailingZeros_0f7a4_78 : decode cJ6_numberOfTrailingZeros_0f7a4 78 = .ok (.iadd, 1) := dc1_96 (by decide +kernel)
theorem dJ6_numberOfTrailingZeros_0f7a4_79 : decode cJ6_numberOfTrailingZeros_0f7a4 79 = .ok (.ireturn, 1) := dc1_172 (by decide +kernel)
theorem dJ6_bitCount_0f7a4_0 : decode cJ6_bitCount_0f7a4 0 = .ok (.iload_n 0, 1) := dc1_26 (by decide +kernel)
theorem dJ6_bitCount_0f7a4_1 : decode cJ6_bitCount_0f7a4 1 = .ok (.iload_n 0, 1) := dc1_26 (by decide +kernel)
theorem dJ6_bitCount_0f7a4_2 : decode cJ6_bitCount_0f7a4 2 = .ok (.iconst 1, 1) := dc1_4 (by decide +kernel)
theorem dJ6_bitCount_0f7a4_3 : decode cJ6_bitCount_0f7a4 3 = .ok (.iushr, 1) := dc1_124 (by decide +kernel)
theorem dJ6_bitCount_0f7a4_4 : decode cJ6_bitCount_0f7a4 4 = .ok (.ldc_w 265, 3) := dcw_19 (by decide +kernel)
theorem dJ6_bitCount_0f7a4_7 : decode cJ6_bitCount_0f7a4 7 = .ok (.iand, 1) := dc1_126 (by decide +kernel)
theorem dJ6_bitCount_0f7a4_8 : decode cJ6_bitCount_0f7a4 8 = .ok (.isub, 1) := dc1_100 (by decide +kernel)
theorem dJ6_bitCount_0f7a4_9 : decode cJ6_bitCount_0f7a4 9 = .ok (.istore_n 0, 1) := dc1_59 (by decide +kernel)
theorem dJ6_bitCount_0f7a4_10 : decode cJ6_bitCount_0f7a4 10 = .ok (.iload_n 0, 1) := dc1_26 (by decide +kernel)
theorem dJ6_bitCount_0f7a4_11 : decode cJ6_bitCount_0f7a4 11 = .ok (.ldc_w 266, 3) := dcw_19 (by decide +kernel)
theorem dJ6_bitCount_0f7a4_14 : decode cJ6_bitCount_0f7a4 14 = .ok (.iand, 1) := dc1_126 (by decide +kernel)
theorem dJ6_bitCount_0f7a4_15 : decode cJ6_bitCount_0f7a4 15 = .ok (.iload_n 0, 1) := dc1_26 (by decide +kernel)
theorem dJ6_bitCount_0f7a4_16 : decode cJ6_bitCount_0f7a4 16 = .ok (.iconst 2, 1) := dc1_5 (by decide +kernel)
theorem dJ6_bitCount_0f7a4_17 : decode cJ6_bitCount_0f7a4 17 = .ok (.iushr, 1) := dc1_124 (by decide +kernel)
theorem dJ6_bitCount_0f7a4_18 : decode cJ6_bitCount_0f7a4 18 = .ok (.ldc_w 266, 3) := dcw_19 (by decide +kernel)
theorem dJ6_bitCount_0f7a4_21 : decode cJ6_bitCount_0f7a4 21 = .ok (.iand, 1) := dc1_126 (by decide +kernel)
theorem dJ6_bitCount_0f7a4_22 : decode cJ6_bitCount_0f7a4 22 = .ok (.iadd, 1) := dc1_96 (by decide +kernel)
theorem dJ6_bitCount_0f7a4_23 : decode cJ6_bitCount_0f7a4 23 = .ok (.istore_n 0, 1) := dc1_59 (by decide +kernel)
theorem dJ6_bitCount_0f7a4_24 : decode cJ6_bitCount_0f7a4 24 = .ok (.iload_n 0, 1) := dc1_26 (by decide +kernel)
theorem dJ6_bitCount_0f7a4_25 : decode cJ6_bitCount_0f7a4 25 = .ok (.iload_n 0, 1) := dc1_26 (by decide +kernel)
theorem dJ6_bitCount_0f7a4_26 : decode cJ6_bitCount_0f7a4 26 = .ok (.iconst 4, 1) := dc1_7 (by decide +kernel)
theorem dJ6_bitCount_0f7a4_27 : decode cJ6_bitCount_0f7a4 27 = .ok (.iushr, 1) := dc1_124 (by decide +kernel)
theorem dJ6_bitCount_0f7a4_28 : decode cJ6_bitCount_0f7a4 28 = .ok (.iadd, 1) := dc1_96 (by decide +kernel)
theorem dJ6_bitCount_0f7a4_29 : decode cJ6_bitCount_0f7a4 29 = .ok (.ldc_w 267, 3) := dcw_19 (by decide +kernel)
theorem dJ6_bitCount_0f7a4_32 : decode cJ6_bitCount_0f7a4 32 = .ok (.iand, 1) := dc1_126 (by decide +kernel)
theorem dJ6_bitCount_0f7a4_33 : decode cJ6_bitCount_0f7a4 33 = .ok (.istore_n 0, 1) := dc1_59 (by decide +kernel)
theorem dJ6_bitCount_0f7a4_34 : decode cJ6_bitCount_0f7a4 34 = .ok (.iload_n 0, 1) := dc1_26 (by decide +kernel)
theorem dJ6_bitCount_0f7a4_35 : decode cJ6_bitCount_0f7a4 35 = .ok (.iload_n 0, 1) := dc1_26 (by decide +kernel)
theorem dJ6_bitCount_0f7a4_36 : decode cJ6_bitCount_0f7a4 36 = .ok (.bipush 8, 2) := dcb_16 (n := 8) (by decide +kernel)
theorem dJ6_bitCount_0f7a4_38 : decode cJ6_bitCount_0f7a4 38 = .ok (.iushr, 1) := dc1_124 (by decide +kernel)
theorem dJ6_bitCount_0f7a4_39 : decode cJ6_bitCount_0f7a4 39 = .ok (.iadd, 1) := dc1_96 (by decide +kernel)
theorem dJ6_bitCount_0f7a4_40 : decode cJ6_bitCount_0f7a4 40 = .ok (.istore_n 0, 1) := dc1_59 (by decide +kernel)
theorem dJ6_bitCount_0f7a4_41 : decode cJ6_bitCount_0f7a4 41 = .ok (.iload_n 0, 1) := dc1_26 (by decide +kernel)
theorem dJ6_bitCount_0f7a4_42 : decode cJ6_bitCount_0f7a4 42 = .ok (.iload_n 0, 1) := dc1_26 (by decide +kernel)
theorem dJ6_bitCount_0f7a4_43 : decode cJ6_bitCount_0f7a4 43 = .ok (.bipush 16, 2) := dcb_16 (n := 16) (by decide +kernel)
theorem dJ6_bitCount_0f7a4_45 : decode cJ6_bitCount_0f7a4 45 = .ok (.iushr, 1) := dc1_124 (by decide +kernel)
theorem dJ6_bitCount_0f7a4_46 : decode cJ6_bitCount_0f7a4 46 = .ok (.iadd, 1) := dc1_96 (by decide +kernel)
theorem dJ6_bitCount_0f7a4_47 : decode cJ6_bitCount_0f7a4 47 = .ok (.istore_n 0, 1) := dc1_59 (by decide +kernel)
theorem dJ6_bitCount_0f7a4_48 : decode cJ6_bitCount_0f7a4 48 = .ok (.iload_n 0, 1) := dc1_26 (by decide +kernel)
theorem dJ6_bitCount_0f7a4_49 : decode cJ6_bitCount_0f7a4 49 = .ok (.bipush 63, 2) := dcb_16 (n := 63) (by decide +kernel)
theorem dJ6_bitCount_0f7a4_51 : decode cJ6_bitCount_0f7a4 51 = .ok (.iand, 1) := dc1_126 (by decide +kernel)
theorem dJ6_bitCount_0f7a4_52 : decode cJ6_bitCount_0f7a4 52 = .ok (.ireturn, 1) := dc1_172 (by decide +kernel)
theorem dJ7_fill_53178_0 : decode cJ7_fill_53178 0 = .ok (.iconst 0, 1) := dc1_3 (by decide +kernel)
theorem dJ7_fill_53178_1 : decode cJ7_fill_53178 1 = .ok (.istore_n 2, 1) := dc1_61 (by decide +kernel)
theorem dJ7_fill_53178_2 : decode cJ7_fill_53178 2 = .ok (.aload_n 0, 1) := dc1_42 (by decide +kernel)
theorem dJ7_fill_53178_3 : decode cJ7_fill_53178 3 = .ok (.arraylength, 1) := dc1_190 (by decide +kernel)
theorem dJ7_fill_53178_4 : decode cJ7_fill_53178 4 = .ok (.istore_n 3, 1) := dc1_62 (by decide +kernel)
theorem dJ7_fill_53178_5 : decode cJ7_fill_53178 5 = .ok (.iload_n 2, 1) := dc1_28 (by decide +kernel)
theorem dJ7_fill_53178_6 : decode cJ7_fill_53178 6 = .ok (.iload_n 3, 1) := dc1_29 (by decide +kernel)
theorem dJ7_fill_53178_7 : decode cJ7_fill_53178 7 = .ok (.if_icmp .ge 13, 3) := dcs_162 (n := 13) (by decide +kernel)
theorem dJ7_fill_53178_10 : decode cJ7_fill_53178 10 = .ok (.aload_n 0, 1) := dc1_42 (by decide +kernel)
theorem dJ7_fill_53178_11 : decode cJ7_fill_53178 11 = .ok (.iload_n 2, 1) := dc1_28 (by decide +kernel)
theorem dJ7_fill_53178_12 : decode cJ7_fill_53178 12 = .ok (.iload_n 1, 1) := dc1_27 (by decide +kernel)
theorem dJ7_fill_53178_13 : decode cJ7_fill_53178 13 = .ok (.iastore, 1) := dc1_79 (by decide +kernel)
theorem dJ7_fill_53178_14 : decode cJ7_fill_53178 14 = .ok (.iinc 2 1, 3) := dc_iinc (m := 1) (by decide +kernel)
theorem dJ7_fill_53178_17 : decode cJ7_fill_53178 17 = .ok (.goto (-12), 3) := dcs_167 (n := 65524) (by decide +kernel)
theorem dJ7_fill_53178_20 : decode cJ7_fill_53178 20 = .ok (.return_, 1) := dc1_177 (by decide +kernel)
set_option maxHeartbeats 4000000 in
set_option maxRecDepth 100000 in
theorem bkX10_sumOf_6_4 {l : Launch} {dC : Nat → ClassId} {dI : Nat → Nat → Nat} {cB cI cJ cZ cS : ClassId} {q0 : Nat} {as : List Value} {r : Int32} {s' : (Nat → Int32)} {k4 : (Nat → Int32) → Int32 → Int32 → Option (Int32 × (Nat → Int32))} (hk4 : ∀ (s : (Nat → Int32)) (x1 : Int32) (x2 : Int32), k4 s x1 x2 = some (r, s') → BlkI l yX10_sumOf wsX10_sumOf ({ frames := 0, cells := 0, slots := 0, locals := 0 }) cX10_sumOf 3 (some .int) (dC, dI) (tysA cB cI cJ cZ cS) as 4 [(q0, .inl (cI, 6, .inl s))] [(0, .ref q0), (1, .int x1), (2, .int x2)] [] (fun x u => x = r ∧ u = [(q0, .inl (cI, 6, .inl s'))])) (s : (Nat → Int32)) (x1 : Int32) (x2 : Int32) (hB : kX10_sumOf_6_4 k4 s x1 x2 = some (r, s')) : BlkI l yX10_sumOf wsX10_sumOf ({ frames := 0, cells := 0, slots := 0, locals := 0 }) cX10_sumOf 3 (some .int) (dC, dI) (tysA cB cI cJ cZ cS) as 4 [(q0, .inl (cI, 6, .inl s))] [(0, .ref q0), (1, .int x1), (2, .int x2)] [] (fun x u => x = r ∧ u = [(q0, .inl (cI, 6, .inl s'))]) := by
  intro p e s0 m below meth c A E H locs ls hP hD hS hl
  obtain ⟨C, hr, hlocks, hA, hK, hN⟩ := id E
  obtain ⟨hx, hb, hml, hown, hts⟩ := id C
  unfold kX10_sumOf_6_4 at hB
  refine lv_iload_n hx hb dX10_sumOf_4 rfl (lv_at hl 2 rfl) ?_
  refine lv_aload_n hx hb dX10_sumOf_5 rfl (lv_at hl 0 rfl) ?_
  refine q_alen (v := 6) C hK hP 0 1 rfl rfl dX10_sumOf_6 rfl ?_
  refine lv_icmp_ge (tgt := 22) hx hb dX10_sumOf_7 (by decide) (fun c1 => ?_) (fun c1 => ?_)
  · have hB := if_p hB c1
    refine lv_iload_n hx hb dX10_sumOf_22 rfl (lv_at hl 1 rfl) ?_
    exact q_iret C hr hlocks hK hP hD hS (Nat.le_of_ble_eq_true rfl) (Nat.le_of_ble_eq_true rfl) dX10_sumOf_23 (by cases hB; exact ⟨rfl, rfl⟩)
  · have hB := if_n hB c1
    refine lv_iload_n hx hb dX10_sumOf_10 rfl (lv_at hl 1 rfl) ?_
    refine lv_aload_n hx hb dX10_sumOf_11 rfl (lv_at hl 0 rfl) ?_
    refine lv_iload_n hx hb dX10_sumOf_12 rfl (lv_at hl 2 rfl) ?_
    obtain ⟨g2, hB⟩ := guard_inv hB
    refine q_iald (x := (s (Int32.toNatClampNeg x2))) C hK hP 0 1 rfl rfl (vpb_in g2) dX10_sumOf_13 rfl ?_
    refine lv_iadd hx hb dX10_sumOf_14 ?_
    refine lv_istore_n (lv' := [(1, .int (x1 + (s (Int32.toNatClampNeg x2)))), (0, .ref q0), (2, .int x2)]) hx hb dX10_sumOf_15 rfl hl (by decide) rfl (fun ls hl => ?_)
    refine lv_iinc (v := (x2 + 1)) (lv' := [(2, .int (x2 + 1)), (1, .int (x1 + (s (Int32.toNatClampNeg x2)))), (0, .ref q0)]) hx hb dX10_sumOf_16 hl (k := 2) rfl (rfl) (by decide) rfl (fun ls hl => ?_)
    refine lv_goto (tgt := 4) hx hb dX10_sumOf_19 (by decide) ?_
    exact hk4 _ _ _ hB p e s0 m below meth c A E H locs ls hP hD hS (lv_sub hl [2, 1, 0] rfl)
theorem bkX10_sumOf_6_4L {l : Launch} {dC : Nat → ClassId} {dI : Nat → Nat → Nat} {cB cI cJ cZ cS : ClassId} {q0 : Nat} {as : List Value} {r : Int32} {s' : (Nat → Int32)} : ∀ (n : Nat) (s : (Nat → Int32)) (x1 : Int32) (x2 : Int32), kX10_sumOf_6_4L n s x1 x2 = some (r, s') → BlkI l yX10_sumOf wsX10_sumOf ({ frames := 0, cells := 0, slots := 0, locals := 0 }) cX10_sumOf 3 (some .int) (dC, dI) (tysA cB cI cJ cZ cS) as 4 [(q0, .inl (cI, 6, .inl s))] [(0, .ref q0), (1, .int x1), (2, .int x2)] [] (fun x u => x = r ∧ u = [(q0, .inl (cI, 6, .inl s'))]) := by
  intro n
  induction n with
  | zero => intro s x1 x2 hB; exact none_ne hB
  | succ n ih => intro s x1 x2 hB; exact bkX10_sumOf_6_4 ih _ _ _ hB
set_option maxHeartbeats 4000000 in
set_option maxRecDepth 100000 in
theorem bkX10_sumOf_6 {l : Launch} {dC : Nat → ClassId} {dI : Nat → Nat → Nat} {cB cI cJ cZ cS : ClassId} {q0 : Nat} {as : List Value} {r : Int32} {s' : (Nat → Int32)} (s : (Nat → Int32)) (hB : kX10_sumOf_6 s = some (r, s')) : BlkI l yX10_sumOf wsX10_sumOf ({ frames := 0, cells := 0, slots := 0, locals := 0 }) cX10_sumOf 3 (some .int) (dC, dI) (tysA cB cI cJ cZ cS) as 0 [(q0, .inl (cI, 6, .inl s))] [(0, .ref q0)] [] (fun x u => x = r ∧ u = [(q0, .inl (cI, 6, .inl s'))]) := by
  intro p e s0 m below meth c A E H locs ls hP hD hS hl
  obtain ⟨C, hr, hlocks, hA, hK, hN⟩ := id E
  obtain ⟨hx, hb, hml, hown, hts⟩ := id C
  unfold kX10_sumOf_6 at hB
  refine lv_iconst (v := 0) hx hb dX10_sumOf_0 (by decide) ?_
  refine lv_istore_n (lv' := [(1, .int 0), (0, .ref q0)]) hx hb dX10_sumOf_1 rfl hl (by decide) rfl (fun ls hl => ?_)
  refine lv_iconst (v := 0) hx hb dX10_sumOf_2 (by decide) ?_
  refine lv_istore_n (lv' := [(2, .int 0), (1, .int 0), (0, .ref q0)]) hx hb dX10_sumOf_3 rfl hl (by decide) rfl (fun ls hl => ?_)
  exact bkX10_sumOf_6_4L fu _ _ _ hB p e s0 m below meth c A E H locs ls hP hD hS (lv_sub hl [2, 1, 0] rfl)
theorem ckX10_sumOf_6 {l : Launch} {dC : Nat → ClassId} {dI : Nat → Nat → Nat} {cB cI cJ cZ cS : ClassId} {q0 : Nat} {r : Int32} {s' : (Nat → Int32)} {s : (Nat → Int32)} (hB : kX10_sumOf_6 s = some (r, s')) : CI l yX10_sumOf wsX10_sumOf ({ frames := 0, cells := 0, slots := 0, locals := 0 }) (dC, dI) (tysA cB cI cJ cZ cS) [(q0, .inl (cI, 6, .inl s))] [.ref q0] (fun x u => x = r ∧ u = [(q0, .inl (cI, 6, .inl s'))]) :=
  CI_of (cc := cX10_sumOf) (maxL := 3) (ret := (some .int)) (by decide) rfl (Nat.le_of_ble_eq_true rfl) (bkX10_sumOf_6 _ hB)
set_option maxHeartbeats 4000000 in
set_option maxRecDepth 100000 in
theorem bkX10_thingIn_4 {l : Launch} {dC : Nat → ClassId} {dI : Nat → Nat → Nat} {cB cI cJ cZ cS : ClassId} {as : List Value} {r : Int32} {k4 : Int32 → Int32 → Int32 → Option Int32} (hk4 : ∀ (x1 : Int32) (x2 : Int32) (x3 : Int32), k4 x1 x2 x3 = some r → BlkI l yX10_thingIn wsX10_thingIn ({ frames := 0, cells := 0, slots := 0, locals := 0 }) cX10_thingIn 4 (some .int) (dC, dI) (tysA cB cI cJ cZ cS) as 4 [] [(1, .int x1), (2, .int x2), (3, .int x3)] [] (fun x _ => x = r)) (x1 : Int32) (x2 : Int32) (x3 : Int32) (hB : kX10_thingIn_4 k4 x1 x2 x3 = some r) : BlkI l yX10_thingIn wsX10_thingIn ({ frames := 0, cells := 0, slots := 0, locals := 0 }) cX10_thingIn 4 (some .int) (dC, dI) (tysA cB cI cJ cZ cS) as 4 [] [(1, .int x1), (2, .int x2), (3, .int x3)] [] (fun x _ => x = r) := by
  intro p e s0 m below meth c A E H locs ls hP hD hS hl
  obtain ⟨C, hr, hlocks, hA, hK, hN⟩ := id E
  obtain ⟨hx, hb, hml, hown, hts⟩ := id C
  unfold kX10_thingIn_4 at hB
  refine lv_iload_n hx hb dX10_thingIn_4 rfl (lv_at hl 2 rfl) ?_
  refine lv_iload_n hx hb dX10_thingIn_5 rfl (lv_at hl 0 rfl) ?_
  refine lv_icmp_ge (tgt := 20) hx hb dX10_thingIn_6 (by decide) (fun c1 => ?_) (fun c1 => ?_)
  · have hB := if_p hB c1
    refine lv_iload_n hx hb dX10_thingIn_20 rfl (lv_at hl 1 rfl) ?_
    refine lv_bipush (v := 6) hx hb dX10_thingIn_21 (by decide) ?_
    refine lv_irem hx hb dX10_thingIn_23 (by decide) ?_
    exact q_iret C hr hlocks hK hP hD hS (Nat.le_of_ble_eq_true rfl) (Nat.le_of_ble_eq_true rfl) dX10_thingIn_24 (by cases hB; rfl)
  · have hB := if_n hB c1
    refine lv_iload_n hx hb dX10_thingIn_9 rfl (lv_at hl 1 rfl) ?_
    refine lv_bipush (v := 6) hx hb dX10_thingIn_10 (by decide) ?_
    refine lv_idiv hx hb dX10_thingIn_12 (by decide) ?_
    refine lv_istore_n (lv' := [(2, .int (x2 / 6)), (1, .int x1), (3, .int x3)]) hx hb dX10_thingIn_13 rfl hl (by decide) rfl (fun ls hl => ?_)
    refine lv_iinc (v := (x3 + 1)) (lv' := [(3, .int (x3 + 1)), (2, .int (x2 / 6)), (1, .int x1)]) hx hb dX10_thingIn_14 hl (k := 2) rfl (rfl) (by decide) rfl (fun ls hl => ?_)
    refine lv_goto (tgt := 4) hx hb dX10_thingIn_17 (by decide) ?_
    exact hk4 _ _ _ hB p e s0 m below meth c A E H locs ls hP hD hS (lv_sub hl [2, 1, 0] rfl)
theorem bkX10_thingIn_4L {l : Launch} {dC : Nat → ClassId} {dI : Nat → Nat → Nat} {cB cI cJ cZ cS : ClassId} {as : List Value} {r : Int32} : ∀ (n : Nat) (x1 : Int32) (x2 : Int32) (x3 : Int32), kX10_thingIn_4L n x1 x2 x3 = some r → BlkI l yX10_thingIn wsX10_thingIn ({ frames := 0, cells := 0, slots := 0, locals := 0 }) cX10_thingIn 4 (some .int) (dC, dI) (tysA cB cI cJ cZ cS) as 4 [] [(1, .int x1), (2, .int x2), (3, .int x3)] [] (fun x _ => x = r) := by
  intro n
  induction n with
  | zero => intro x1 x2 x3 hB; exact none_ne hB
  | succ n ih => intro x1 x2 x3 hB; exact bkX10_thingIn_4 ih _ _ _ hB
set_option maxHeartbeats 4000000 in
set_option maxRecDepth 100000 in
theorem bkX10_thingIn {l : Launch} {dC : Nat → ClassId} {dI : Nat → Nat → Nat} {cB cI cJ cZ cS : ClassId} {as : List Value} {r : Int32} (x0 : Int32) (x1 : Int32) (hB : kX10_thingIn x0 x1 = some r) : BlkI l yX10_thingIn wsX10_thingIn ({ frames := 0, cells := 0, slots := 0, locals := 0 }) cX10_thingIn 4 (some .int) (dC, dI) (tysA cB cI cJ cZ cS) as 0 [] [(0, .int x0), (1, .int x1)] [] (fun x _ => x = r) := by
  intro p e s0 m below meth c A E H locs ls hP hD hS hl
  obtain ⟨C, hr, hlocks, hA, hK, hN⟩ := id E
  obtain ⟨hx, hb, hml, hown, hts⟩ := id C
  unfold kX10_thingIn at hB
  refine lv_iload_n hx hb dX10_thingIn_0 rfl (lv_at hl 0 rfl) ?_
  refine lv_istore_n (lv' := [(2, .int x0), (0, .int x0), (1, .int x1)]) hx hb dX10_thingIn_1 rfl hl (by decide) rfl (fun ls hl => ?_)
  refine lv_iconst (v := 0) hx hb dX10_thingIn_2 (by decide) ?_
  refine lv_istore_n (lv' := [(3, .int 0), (2, .int x0), (0, .int x0), (1, .int x1)]) hx hb dX10_thingIn_3 rfl hl (by decide) rfl (fun ls hl => ?_)
  exact bkX10_thingIn_4L fu _ _ _ hB p e s0 m below meth c A E H locs ls hP hD hS (lv_sub hl [3, 1, 0] rfl)
theorem ckX10_thingIn {l : Launch} {dC : Nat → ClassId} {dI : Nat → Nat → Nat} {cB cI cJ cZ cS : ClassId} {r : Int32} {x0 : Int32} {x1 : Int32} (hB : kX10_thingIn x0 x1 = some r) : CI l yX10_thingIn wsX10_thingIn ({ frames := 0, cells := 0, slots := 0, locals := 0 }) (dC, dI) (tysA cB cI cJ cZ cS) [] [.int x0, .int x1] (fun x _ => x = r) :=
  CI_of (cc := cX10_thingIn) (maxL := 4) (ret := (some .int)) (by decide) rfl (Nat.le_of_ble_eq_true rfl) (bkX10_thingIn _ _ hB)
theorem LX10_heldTo_M314 : Cond.methodLink RX10 314 Lib.Math.min.name ∈ wsX10_heldTo := by decide +kernel
theorem LX10_heldTo_M319 : Cond.methodLink RX10 319 Lib.Math.max.name ∈ wsX10_heldTo := by decide +kernel
theorem LX10_heldTo_MCmax : Cond.code Lib.Math.max.name Lib.Math.max.code 2 (some .int) ∈ wsX10_heldTo := by decide +kernel
theorem LX10_heldTo_MCmin : Cond.code Lib.Math.min.name Lib.Math.min.code 2 (some .int) ∈ wsX10_heldTo := by decide +kernel
theorem LX10_heldTo_MI : Cond.initialized "java/lang/Math" ∈ wsX10_heldTo := by decide +kernel
theorem LX10_heldTo_MSmax : Cond.static Lib.Math.max.name ∈ wsX10_heldTo := by decide +kernel
theorem LX10_heldTo_MSmin : Cond.static Lib.Math.min.name ∈ wsX10_heldTo := by decide +kernel
set_option maxHeartbeats 4000000 in
set_option maxRecDepth 100000 in
theorem bkX10_heldTo {l : Launch} {dC : Nat → ClassId} {dI : Nat → Nat → Nat} {cB cI cJ cZ cS : ClassId} {as : List Value} {r : Int32} (x0 : Int32) (x1 : Int32) (hB : kX10_heldTo x0 x1 = some r) : BlkI l yX10_heldTo wsX10_heldTo ({ frames := 1, cells := 0, slots := 0, locals := 24 }) cX10_heldTo 2 (some .int) (dC, dI) (tysA cB cI cJ cZ cS) as 0 [] [(0, .int x0), (1, .int x1)] [] (fun x _ => x = r) := by
  intro p e s0 m below meth c A E H locs ls hP hD hS hl
  obtain ⟨C, hr, hlocks, hA, hK, hN⟩ := id E
  obtain ⟨hx, hb, hml, hown, hts⟩ := id C
  unfold kX10_heldTo at hB
  refine lv_iconst (v := 0) hx hb dX10_heldTo_0 (by decide) ?_
  refine lv_iload_n hx hb dX10_heldTo_1 rfl (lv_at hl 0 rfl) ?_
  refine lv_iload_n hx hb dX10_heldTo_2 rfl (lv_at hl 1 rfl) ?_
  refine va_mmin hx hb (hml.trans hl.1.symm) hown (hts _ LX10_heldTo_M314) (hts _ LX10_heldTo_MSmin) (hts _ LX10_heldTo_MI) (hts _ LX10_heldTo_MCmin) (Nat.le_of_ble_eq_true rfl) (Nat.le_of_ble_eq_true rfl) (Nat.zero_le _) (Nat.zero_le _) dX10_heldTo_3 ?_
  refine q_top (y := (mmin x0 x1)) rfl ?_
  refine va_mmax hx hb (hml.trans hl.1.symm) hown (hts _ LX10_heldTo_M319) (hts _ LX10_heldTo_MSmax) (hts _ LX10_heldTo_MI) (hts _ LX10_heldTo_MCmax) (Nat.le_of_ble_eq_true rfl) (Nat.le_of_ble_eq_true rfl) (Nat.zero_le _) (Nat.zero_le _) dX10_heldTo_6 ?_
  refine q_top (y := (mmax 0 (mmin x0 x1))) rfl ?_
  exact q_iret C hr hlocks hK hP hD hS (Nat.le_of_ble_eq_true rfl) (Nat.le_of_ble_eq_true rfl) dX10_heldTo_9 (by cases hB; rfl)
theorem ckX10_heldTo {l : Launch} {dC : Nat → ClassId} {dI : Nat → Nat → Nat} {cB cI cJ cZ cS : ClassId} {r : Int32} {x0 : Int32} {x1 : Int32} (hB : kX10_heldTo x0 x1 = some r) : CI l yX10_heldTo wsX10_heldTo ({ frames := 1, cells := 0, slots := 0, locals := 24 }) (dC, dI) (tysA cB cI cJ cZ cS) [] [.int x0, .int x1] (fun x _ => x = r) :=
  CI_of (cc := cX10_heldTo) (maxL := 2) (ret := (some .int)) (by decide) rfl (Nat.le_of_ble_eq_true rfl) (bkX10_heldTo _ _ hB)
theorem LX10_stirred_K325 : Cond.constant RX10 325 1103515245 ∈ wsX10_stirred := by decide +kernel
set_option maxHeartbeats 4000000 in
set_option maxRecDepth 100000 in
theorem bkX10_stirred {l : Launch} {dC : Nat → ClassId} {dI : Nat → Nat → Nat} {cB cI cJ cZ cS : ClassId} {as : List Value} {r : Int32} (x0 : Int32) (x1 : Int32) (hB : kX10_stirred x0 x1 = some r) : BlkI l yX10_stirred wsX10_stirred ({ frames := 0, cells := 0, slots := 0, locals := 0 }) cX10_stirred 3 (some .int) (dC, dI) (tysA cB cI cJ cZ cS) as 0 [] [(0, .int x0), (1, .int x1)] [] (fun x _ => x = r) := by
  intro p e s0 m below meth c A E H locs ls hP hD hS hl
  obtain ⟨C, hr, hlocks, hA, hK, hN⟩ := id E
  obtain ⟨hx, hb, hml, hown, hts⟩ := id C
  unfold kX10_stirred at hB
  refine lv_iload_n hx hb dX10_stirred_0 rfl (lv_at hl 0 rfl) ?_
  refine lv_iload_n hx hb dX10_stirred_1 rfl (lv_at hl 1 rfl) ?_
  refine lv_ixor hx hb dX10_stirred_2 ?_
  refine lv_ldcw (v := 1103515245) hx hb hown (hts _ LX10_stirred_K325) dX10_stirred_3 ?_
  refine lv_imul hx hb dX10_stirred_6 ?_
  refine lv_sipush (v := 12345) hx hb dX10_stirred_7 (by decide) ?_
  refine lv_iadd hx hb dX10_stirred_10 ?_
  refine lv_istore_n (lv' := [(2, .int (((x0 ^^^ x1) * 1103515245) + 12345)), (0, .int x0), (1, .int x1)]) hx hb dX10_stirred_11 rfl hl (by decide) rfl (fun ls hl => ?_)
  refine lv_iload_n hx hb dX10_stirred_12 rfl (lv_at hl 0 rfl) ?_
  refine lv_iload_n hx hb dX10_stirred_13 rfl (lv_at hl 0 rfl) ?_
  refine lv_bipush (v := 15) hx hb dX10_stirred_14 (by decide) ?_
  refine lv_iushr (v := (ushr (((x0 ^^^ x1) * 1103515245) + 12345) 15)) hx hb dX10_stirred_16 rfl ?_
  refine lv_ixor hx hb dX10_stirred_17 ?_
  exact q_iret C hr hlocks hK hP hD hS (Nat.le_of_ble_eq_true rfl) (Nat.le_of_ble_eq_true rfl) dX10_stirred_18 (by cases hB; rfl)
theorem ckX10_stirred {l : Launch} {dC : Nat → ClassId} {dI : Nat → Nat → Nat} {cB cI cJ cZ cS : ClassId} {r : Int32} {x0 : Int32} {x1 : Int32} (hB : kX10_stirred x0 x1 = some r) : CI l yX10_stirred wsX10_stirred ({ frames := 0, cells := 0, slots := 0, locals := 0 }) (dC, dI) (tysA cB cI cJ cZ cS) [] [.int x0, .int x1] (fun x _ => x = r) :=
  CI_of (cc := cX10_stirred) (maxL := 3) (ret := (some .int)) (by decide) rfl (Nat.le_of_ble_eq_true rfl) (bkX10_stirred _ _ hB)
theorem LJ6_numberOfTrailingZeros_0f7a4_K264 : Cond.constant RJ6 264 65536 ∈ wsJ6_numberOfTrailingZeros_0f7a4 := by decide +kernel
set_option maxHeartbeats 4000000 in
set_option maxRecDepth 100000 in
theorem bkJ6_numberOfTrailingZeros_0f7a4_74 {l : Launch} {dC : Nat → ClassId} {dI : Nat → Nat → Nat} {cB cI cJ cZ cS : ClassId} {as : List Value} {r : Int32} (x0 : Int32) (x1 : Int32) (hB : kJ6_numberOfTrailingZeros_0f7a4_74 x0 x1 = some r) : BlkI l yJ6_numberOfTrailingZeros_0f7a4 wsJ6_numberOfTrailingZeros_0f7a4 ({ frames := 0, cells := 0, slots := 0, locals := 0 }) cJ6_numberOfTrailingZeros_0f7a4 2 (some .int) (dC, dI) (tysA cB cI cJ cZ cS) as 74 [] [(0, .int x0), (1, .int x1)] [] (fun x _ => x = r) := by
  intro p e s0 m below meth c A E H locs ls hP hD hS hl
  obtain ⟨C, hr, hlocks, hA, hK, hN⟩ := id E
  obtain ⟨hx, hb, hml, hown, hts⟩ := id C
  unfold kJ6_numberOfTrailingZeros_0f7a4_74 at hB
  refine lv_iload_n hx hb dJ6_numberOfTrailingZeros_0f7a4_74 rfl (lv_at hl 1 rfl) ?_
  refine lv_iload_n hx hb dJ6_numberOfTrailingZeros_0f7a4_75 rfl (lv_at hl 0 rfl) ?_
  refine lv_iconst (v := 1) hx hb dJ6_numberOfTrailingZeros_0f7a4_76 (by decide) ?_
  refine lv_iushr (v := (ushr x0 1)) hx hb dJ6_numberOfTrailingZeros_0f7a4_77 rfl ?_
  refine lv_iadd hx hb dJ6_numberOfTrailingZeros_0f7a4_78 ?_
  exact q_iret C hr hlocks hK hP hD hS (Nat.le_of_ble_eq_true rfl) (Nat.le_of_ble_eq_true rfl) dJ6_numberOfTrailingZeros_0f7a4_79 (by cases hB; rfl)
set_option maxHeartbeats 4000000 in
set_option maxRecDepth 100000 in
theorem bkJ6_numberOfTrailingZeros_0f7a4_62 {l : Launch} {dC : Nat → ClassId} {dI : Nat → Nat → Nat} {cB cI cJ cZ cS : ClassId} {as : List Value} {r : Int32} (x0 : Int32) (x1 : Int32) (hB : kJ6_numberOfTrailingZeros_0f7a4_62 x0 x1 = some r) : BlkI l yJ6_numberOfTrailingZeros_0f7a4 wsJ6_numberOfTrailingZeros_0f7a4 ({ frames := 0, cells := 0, slots := 0, locals := 0 }) cJ6_numberOfTrailingZeros_0f7a4 2 (some .int) (dC, dI) (tysA cB cI cJ cZ cS) as 62 [] [(0, .int x0), (1, .int x1)] [] (fun x _ => x = r) := by
  intro p e s0 m below meth c A E H locs ls hP hD hS hl
  obtain ⟨C, hr, hlocks, hA, hK, hN⟩ := id E
  obtain ⟨hx, hb, hml, hown, hts⟩ := id C
  unfold kJ6_numberOfTrailingZeros_0f7a4_62 at hB
  refine lv_iload_n hx hb dJ6_numberOfTrailingZeros_0f7a4_62 rfl (lv_at hl 0 rfl) ?_
  refine lv_iconst (v := 4) hx hb dJ6_numberOfTrailingZeros_0f7a4_63 (by decide) ?_
  refine lv_icmp_le (tgt := 74) hx hb dJ6_numberOfTrailingZeros_0f7a4_64 (by decide) (fun c1 => ?_) (fun c1 => ?_)
  · have hB := if_p hB c1
    exact bkJ6_numberOfTrailingZeros_0f7a4_74 _ _ hB p e s0 m below meth c A E H locs ls hP hD hS (lv_sub hl [0, 1] rfl)
  · have hB := if_n hB c1
    refine lv_iinc (v := (x1 + 2)) (lv' := [(1, .int (x1 + 2)), (0, .int x0)]) hx hb dJ6_numberOfTrailingZeros_0f7a4_67 hl (k := 1) rfl (rfl) (by decide) rfl (fun ls hl => ?_)
    refine lv_iload_n hx hb dJ6_numberOfTrailingZeros_0f7a4_70 rfl (lv_at hl 1 rfl) ?_
    refine lv_iconst (v := 2) hx hb dJ6_numberOfTrailingZeros_0f7a4_71 (by decide) ?_
    refine lv_iushr (v := (ushr x0 2)) hx hb dJ6_numberOfTrailingZeros_0f7a4_72 rfl ?_
    refine lv_istore_n (lv' := [(0, .int (ushr x0 2)), (1, .int (x1 + 2))]) hx hb dJ6_numberOfTrailingZeros_0f7a4_73 rfl hl (by decide) rfl (fun ls hl => ?_)
    exact bkJ6_numberOfTrailingZeros_0f7a4_74 _ _ hB p e s0 m below meth c A E H locs ls hP hD hS (lv_sub hl [0, 1] rfl)
set_option maxHeartbeats 4000000 in
set_option maxRecDepth 100000 in
theorem bkJ6_numberOfTrailingZeros_0f7a4_49 {l : Launch} {dC : Nat → ClassId} {dI : Nat → Nat → Nat} {cB cI cJ cZ cS : ClassId} {as : List Value} {r : Int32} (x0 : Int32) (x1 : Int32) (hB : kJ6_numberOfTrailingZeros_0f7a4_49 x0 x1 = some r) : BlkI l yJ6_numberOfTrailingZeros_0f7a4 wsJ6_numberOfTrailingZeros_0f7a4 ({ frames := 0, cells := 0, slots := 0, locals := 0 }) cJ6_numberOfTrailingZeros_0f7a4 2 (some .int) (dC, dI) (tysA cB cI cJ cZ cS) as 49 [] [(0, .int x0), (1, .int x1)] [] (fun x _ => x = r) := by
  intro p e s0 m below meth c A E H locs ls hP hD hS hl
  obtain ⟨C, hr, hlocks, hA, hK, hN⟩ := id E
  obtain ⟨hx, hb, hml, hown, hts⟩ := id C
  unfold kJ6_numberOfTrailingZeros_0f7a4_49 at hB
  refine lv_iload_n hx hb dJ6_numberOfTrailingZeros_0f7a4_49 rfl (lv_at hl 0 rfl) ?_
  refine lv_bipush (v := 16) hx hb dJ6_numberOfTrailingZeros_0f7a4_50 (by decide) ?_
  refine lv_icmp_le (tgt := 62) hx hb dJ6_numberOfTrailingZeros_0f7a4_52 (by decide) (fun c1 => ?_) (fun c1 => ?_)
  · have hB := if_p hB c1
    exact bkJ6_numberOfTrailingZeros_0f7a4_62 _ _ hB p e s0 m below meth c A E H locs ls hP hD hS (lv_sub hl [0, 1] rfl)
  · have hB := if_n hB c1
    refine lv_iinc (v := (x1 + 4)) (lv' := [(1, .int (x1 + 4)), (0, .int x0)]) hx hb dJ6_numberOfTrailingZeros_0f7a4_55 hl (k := 1) rfl (rfl) (by decide) rfl (fun ls hl => ?_)
    refine lv_iload_n hx hb dJ6_numberOfTrailingZeros_0f7a4_58 rfl (lv_at hl 1 rfl) ?_
    refine lv_iconst (v := 4) hx hb dJ6_numberOfTrailingZeros_0f7a4_59 (by decide) ?_
    refine lv_iushr (v := (ushr x0 4)) hx hb dJ6_numberOfTrailingZeros_0f7a4_60 rfl ?_
    refine lv_istore_n (lv' := [(0, .int (ushr x0 4)), (1, .int (x1 + 4))]) hx hb dJ6_numberOfTrailingZeros_0f7a4_61 rfl hl (by decide) rfl (fun ls hl => ?_)
    exact bkJ6_numberOfTrailingZeros_0f7a4_62 _ _ hB p e s0 m below meth c A E H locs ls hP hD hS (lv_sub hl [0, 1] rfl)
set_option maxHeartbeats 4000000 in
set_option maxRecDepth 100000 in
theorem bkJ6_numberOfTrailingZeros_0f7a4_34 {l : Launch} {dC : Nat → ClassId} {dI : Nat → Nat → Nat} {cB cI cJ cZ cS : ClassId} {as : List Value} {r : Int32} (x0 : Int32) (x1 : Int32) (hB : kJ6_numberOfTrailingZeros_0f7a4_34 x0 x1 = some r) : BlkI l yJ6_numberOfTrailingZeros_0f7a4 wsJ6_numberOfTrailingZeros_0f7a4 ({ frames := 0, cells := 0, slots := 0, locals := 0 }) cJ6_numberOfTrailingZeros_0f7a4 2 (some .int) (dC, dI) (tysA cB cI cJ cZ cS) as 34 [] [(0, .int x0), (1, .int x1)] [] (fun x _ => x = r) := by
  intro p e s0 m below meth c A E H locs ls hP hD hS hl
  obtain ⟨C, hr, hlocks, hA, hK, hN⟩ := id E
  obtain ⟨hx, hb, hml, hown, hts⟩ := id C
  unfold kJ6_numberOfTrailingZeros_0f7a4_34 at hB
  refine lv_iload_n hx hb dJ6_numberOfTrailingZeros_0f7a4_34 rfl (lv_at hl 0 rfl) ?_
  refine lv_sipush (v := 256) hx hb dJ6_numberOfTrailingZeros_0f7a4_35 (by decide) ?_
  refine lv_icmp_le (tgt := 49) hx hb dJ6_numberOfTrailingZeros_0f7a4_38 (by decide) (fun c1 => ?_) (fun c1 => ?_)
  · have hB := if_p hB c1
    exact bkJ6_numberOfTrailingZeros_0f7a4_49 _ _ hB p e s0 m below meth c A E H locs ls hP hD hS (lv_sub hl [0, 1] rfl)
  · have hB := if_n hB c1
    refine lv_iinc (v := (x1 + 8)) (lv' := [(1, .int (x1 + 8)), (0, .int x0)]) hx hb dJ6_numberOfTrailingZeros_0f7a4_41 hl (k := 1) rfl (rfl) (by decide) rfl (fun ls hl => ?_)
    refine lv_iload_n hx hb dJ6_numberOfTrailingZeros_0f7a4_44 rfl (lv_at hl 1 rfl) ?_
    refine lv_bipush (v := 8) hx hb dJ6_numberOfTrailingZeros_0f7a4_45 (by decide) ?_
    refine lv_iushr (v := (ushr x0 8)) hx hb dJ6_numberOfTrailingZeros_0f7a4_47 rfl ?_
    refine lv_istore_n (lv' := [(0, .int (ushr x0 8)), (1, .int (x1 + 8))]) hx hb dJ6_numberOfTrailingZeros_0f7a4_48 rfl hl (by decide) rfl (fun ls hl => ?_)
    exact bkJ6_numberOfTrailingZeros_0f7a4_49 _ _ hB p e s0 m below meth c A E H locs ls hP hD hS (lv_sub hl [0, 1] rfl)
set_option maxHeartbeats 4000000 in
set_option maxRecDepth 100000 in
theorem bkJ6_numberOfTrailingZeros_0f7a4 {l : Launch} {dC : Nat → ClassId} {dI : Nat → Nat → Nat} {cB cI cJ cZ cS : ClassId} {as : List Value} {r : Int32} (x0 : Int32) (hB : kJ6_numberOfTrailingZeros_0f7a4 x0 = some r) : BlkI l yJ6_numberOfTrailingZeros_0f7a4 wsJ6_numberOfTrailingZeros_0f7a4 ({ frames := 0, cells := 0, slots := 0, locals := 0 }) cJ6_numberOfTrailingZeros_0f7a4 2 (some .int) (dC, dI) (tysA cB cI cJ cZ cS) as 0 [] [(0, .int x0)] [] (fun x _ => x = r) := by
  intro p e s0 m below meth c A E H locs ls hP hD hS hl
  obtain ⟨C, hr, hlocks, hA, hK, hN⟩ := id E
  obtain ⟨hx, hb, hml, hown, hts⟩ := id C
  unfold kJ6_numberOfTrailingZeros_0f7a4 at hB
  refine lv_iload_n hx hb dJ6_numberOfTrailingZeros_0f7a4_0 rfl (lv_at hl 0 rfl) ?_
  refine lv_iconst (v := (-1)) hx hb dJ6_numberOfTrailingZeros_0f7a4_1 (by decide) ?_
  refine lv_ixor hx hb dJ6_numberOfTrailingZeros_0f7a4_2 ?_
  refine lv_iload_n hx hb dJ6_numberOfTrailingZeros_0f7a4_3 rfl (lv_at hl 0 rfl) ?_
  refine lv_iconst (v := 1) hx hb dJ6_numberOfTrailingZeros_0f7a4_4 (by decide) ?_
  refine lv_isub hx hb dJ6_numberOfTrailingZeros_0f7a4_5 ?_
  refine lv_iand hx hb dJ6_numberOfTrailingZeros_0f7a4_6 ?_
  refine lv_istore_n (lv' := [(0, .int ((x0 ^^^ (-1)) &&& (x0 - 1)))]) hx hb dJ6_numberOfTrailingZeros_0f7a4_7 rfl hl (by decide) rfl (fun ls hl => ?_)
  refine lv_iload_n hx hb dJ6_numberOfTrailingZeros_0f7a4_8 rfl (lv_at hl 0 rfl) ?_
  refine lv_if_gt (tgt := 17) hx hb dJ6_numberOfTrailingZeros_0f7a4_9 (by decide) (fun c1 => ?_) (fun c1 => ?_)
  · have hB := if_p hB c1
    refine lv_iconst (v := 1) hx hb dJ6_numberOfTrailingZeros_0f7a4_17 (by decide) ?_
    refine lv_istore_n (lv' := [(1, .int 1), (0, .int ((x0 ^^^ (-1)) &&& (x0 - 1)))]) hx hb dJ6_numberOfTrailingZeros_0f7a4_18 rfl hl (by decide) rfl (fun ls hl => ?_)
    refine lv_iload_n hx hb dJ6_numberOfTrailingZeros_0f7a4_19 rfl (lv_at hl 1 rfl) ?_
    refine lv_ldcw (v := 65536) hx hb hown (hts _ LJ6_numberOfTrailingZeros_0f7a4_K264) dJ6_numberOfTrailingZeros_0f7a4_20 ?_
    refine lv_icmp_le (tgt := 34) hx hb dJ6_numberOfTrailingZeros_0f7a4_23 (by decide) (fun c2 => ?_) (fun c2 => ?_)
    · have hB := if_p hB c2
      exact bkJ6_numberOfTrailingZeros_0f7a4_34 _ _ hB p e s0 m below meth c A E H locs ls hP hD hS (lv_sub hl [1, 0] rfl)
    · have hB := if_n hB c2
      refine lv_iinc (v := 17) (lv' := [(1, .int 17), (0, .int ((x0 ^^^ (-1)) &&& (x0 - 1)))]) hx hb dJ6_numberOfTrailingZeros_0f7a4_26 hl (k := 0) rfl (by decide +kernel) (by decide) rfl (fun ls hl => ?_)
      refine lv_iload_n hx hb dJ6_numberOfTrailingZeros_0f7a4_29 rfl (lv_at hl 1 rfl) ?_
      refine lv_bipush (v := 16) hx hb dJ6_numberOfTrailingZeros_0f7a4_30 (by decide) ?_
      refine lv_iushr (v := (ushr ((x0 ^^^ (-1)) &&& (x0 - 1)) 16)) hx hb dJ6_numberOfTrailingZeros_0f7a4_32 rfl ?_
      refine lv_istore_n (lv' := [(0, .int (ushr ((x0 ^^^ (-1)) &&& (x0 - 1)) 16)), (1, .int 17)]) hx hb dJ6_numberOfTrailingZeros_0f7a4_33 rfl hl (by decide) rfl (fun ls hl => ?_)
      exact bkJ6_numberOfTrailingZeros_0f7a4_34 _ _ hB p e s0 m below meth c A E H locs ls hP hD hS (lv_sub hl [0, 1] rfl)
  · have hB := if_n hB c1
    refine lv_iload_n hx hb dJ6_numberOfTrailingZeros_0f7a4_12 rfl (lv_at hl 0 rfl) ?_
    refine lv_bipush (v := 32) hx hb dJ6_numberOfTrailingZeros_0f7a4_13 (by decide) ?_
    refine lv_iand hx hb dJ6_numberOfTrailingZeros_0f7a4_15 ?_
    exact q_iret C hr hlocks hK hP hD hS (Nat.le_of_ble_eq_true rfl) (Nat.le_of_ble_eq_true rfl) dJ6_numberOfTrailingZeros_0f7a4_16 (by cases hB; rfl)
theorem ckJ6_numberOfTrailingZeros_0f7a4 {l : Launch} {dC : Nat → ClassId} {dI : Nat → Nat → Nat} {cB cI cJ cZ cS : ClassId} {r : Int32} {x0 : Int32} (hB : kJ6_numberOfTrailingZeros_0f7a4 x0 = some r) : CI l yJ6_numberOfTrailingZeros_0f7a4 wsJ6_numberOfTrailingZeros_0f7a4 ({ frames := 0, cells := 0, slots := 0, locals := 0 }) (dC, dI) (tysA cB cI cJ cZ cS) [] [.int x0] (fun x _ => x = r) :=
  CI_of (cc := cJ6_numberOfTrailingZeros_0f7a4) (maxL := 2) (ret := (some .int)) (by decide) rfl (Nat.le_of_ble_eq_true rfl) (bkJ6_numberOfTrailingZeros_0f7a4 _ hB)
theorem LJ6_bitCount_0f7a4_K265 : Cond.constant RJ6 265 1431655765 ∈ wsJ6_bitCount_0f7a4 := by decide +kernel
theorem LJ6_bitCount_0f7a4_K266 : Cond.constant RJ6 266 858993459 ∈ wsJ6_bitCount_0f7a4 := by decide +kernel
theorem LJ6_bitCount_0f7a4_K267 : Cond.constant RJ6 267 252645135 ∈ wsJ6_bitCount_0f7a4 := by decide +kernel
set_option maxHeartbeats 4000000 in
set_option maxRecDepth 100000 in
theorem bkJ6_bitCount_0f7a4 {l : Launch} {dC : Nat → ClassId} {dI : Nat → Nat → Nat} {cB cI cJ cZ cS : ClassId} {as : List Value} {r : Int32} (x0 : Int32) (hB : kJ6_bitCount_0f7a4 x0 = some r) : BlkI l yJ6_bitCount_0f7a4 wsJ6_bitCount_0f7a4 ({ frames := 0, cells := 0, slots := 0, locals := 0 }) cJ6_bitCount_0f7a4 1 (some .int) (dC, dI) (tysA cB cI cJ cZ cS) as 0 [] [(0, .int x0)] [] (fun x _ => x = r) := by
  intro p e s0 m below meth c A E H locs ls hP hD hS hl
  obtain ⟨C, hr, hlocks, hA, hK, hN⟩ := id E
  obtain ⟨hx, hb, hml, hown, hts⟩ := id C
  unfold kJ6_bitCount_0f7a4 at hB
  refine lv_iload_n hx hb dJ6_bitCount_0f7a4_0 rfl (lv_at hl 0 rfl) ?_
  refine lv_iload_n hx hb dJ6_bitCount_0f7a4_1 rfl (lv_at hl 0 rfl) ?_
  refine lv_iconst (v := 1) hx hb dJ6_bitCount_0f7a4_2 (by decide) ?_
  refine lv_iushr (v := (ushr x0 1)) hx hb dJ6_bitCount_0f7a4_3 rfl ?_
  refine lv_ldcw (v := 1431655765) hx hb hown (hts _ LJ6_bitCount_0f7a4_K265) dJ6_bitCount_0f7a4_4 ?_
  refine lv_iand hx hb dJ6_bitCount_0f7a4_7 ?_
  refine lv_isub hx hb dJ6_bitCount_0f7a4_8 ?_
  refine lv_istore_n (lv' := [(0, .int (x0 - ((ushr x0 1) &&& 1431655765)))]) hx hb dJ6_bitCount_0f7a4_9 rfl hl (by decide) rfl (fun ls hl => ?_)
  refine lv_iload_n hx hb dJ6_bitCount_0f7a4_10 rfl (lv_at hl 0 rfl) ?_
  refine lv_ldcw (v := 858993459) hx hb hown (hts _ LJ6_bitCount_0f7a4_K266) dJ6_bitCount_0f7a4_11 ?_
  refine lv_iand hx hb dJ6_bitCount_0f7a4_14 ?_
  refine lv_iload_n hx hb dJ6_bitCount_0f7a4_15 rfl (lv_at hl 0 rfl) ?_
  refine lv_iconst (v := 2) hx hb dJ6_bitCount_0f7a4_16 (by decide) ?_
  refine lv_iushr (v := (ushr (x0 - ((ushr x0 1) &&& 1431655765)) 2)) hx hb dJ6_bitCount_0f7a4_17 rfl ?_
  refine lv_ldcw (v := 858993459) hx hb hown (hts _ LJ6_bitCount_0f7a4_K266) dJ6_bitCount_0f7a4_18 ?_
  refine lv_iand hx hb dJ6_bitCount_0f7a4_21 ?_
  refine lv_iadd hx hb dJ6_bitCount_0f7a4_22 ?_
  refine lv_istore_n (lv' := [(0, .int (((x0 - ((ushr x0 1) &&& 1431655765)) &&& 858993459) + ((ushr (x0 - ((ushr x0 1) &&& 1431655765)) 2) &&& 858993459)))]) hx hb dJ6_bitCount_0f7a4_23 rfl hl (by decide) rfl (fun ls hl => ?_)
  refine lv_iload_n hx hb dJ6_bitCount_0f7a4_24 rfl (lv_at hl 0 rfl) ?_
  refine lv_iload_n hx hb dJ6_bitCount_0f7a4_25 rfl (lv_at hl 0 rfl) ?_
  refine lv_iconst (v := 4) hx hb dJ6_bitCount_0f7a4_26 (by decide) ?_
  refine lv_iushr (v := (ushr (((x0 - ((ushr x0 1) &&& 1431655765)) &&& 858993459) + ((ushr (x0 - ((ushr x0 1) &&& 1431655765)) 2) &&& 858993459)) 4)) hx hb dJ6_bitCount_0f7a4_27 rfl ?_
  refine lv_iadd hx hb dJ6_bitCount_0f7a4_28 ?_
  refine lv_ldcw (v := 252645135) hx hb hown (hts _ LJ6_bitCount_0f7a4_K267) dJ6_bitCount_0f7a4_29 ?_
  refine lv_iand hx hb dJ6_bitCount_0f7a4_32 ?_
  refine lv_istore_n (lv' := [(0, .int (((((x0 - ((ushr x0 1) &&& 1431655765)) &&& 858993459) + ((ushr (x0 - ((ushr x0 1) &&& 1431655765)) 2) &&& 858993459)) + (ushr (((x0 - ((ushr x0 1) &&& 1431655765)) &&& 858993459) + ((ushr (x0 - ((ushr x0 1) &&& 1431655765)) 2) &&& 858993459)) 4)) &&& 252645135))]) hx hb dJ6_bitCount_0f7a4_33 rfl hl (by decide) rfl (fun ls hl => ?_)
  refine lv_iload_n hx hb dJ6_bitCount_0f7a4_34 rfl (lv_at hl 0 rfl) ?_
  refine lv_iload_n hx hb dJ6_bitCount_0f7a4_35 rfl (lv_at hl 0 rfl) ?_
  refine lv_bipush (v := 8) hx hb dJ6_bitCount_0f7a4_36 (by decide) ?_
  refine lv_iushr (v := (ushr (((((x0 - ((ushr x0 1) &&& 1431655765)) &&& 858993459) + ((ushr (x0 - ((ushr x0 1) &&& 1431655765)) 2) &&& 858993459)) + (ushr (((x0 - ((ushr x0 1) &&& 1431655765)) &&& 858993459) + ((ushr (x0 - ((ushr x0 1) &&& 1431655765)) 2) &&& 858993459)) 4)) &&& 252645135) 8)) hx hb dJ6_bitCount_0f7a4_38 rfl ?_
  refine lv_iadd hx hb dJ6_bitCount_0f7a4_39 ?_
  refine lv_istore_n (lv' := [(0, .int ((((((x0 - ((ushr x0 1) &&& 1431655765)) &&& 858993459) + ((ushr (x0 - ((ushr x0 1) &&& 1431655765)) 2) &&& 858993459)) + (ushr (((x0 - ((ushr x0 1) &&& 1431655765)) &&& 858993459) + ((ushr (x0 - ((ushr x0 1) &&& 1431655765)) 2) &&& 858993459)) 4)) &&& 252645135) + (ushr (((((x0 - ((ushr x0 1) &&& 1431655765)) &&& 858993459) + ((ushr (x0 - ((ushr x0 1) &&& 1431655765)) 2) &&& 858993459)) + (ushr (((x0 - ((ushr x0 1) &&& 1431655765)) &&& 858993459) + ((ushr (x0 - ((ushr x0 1) &&& 1431655765)) 2) &&& 858993459)) 4)) &&& 252645135) 8)))]) hx hb dJ6_bitCount_0f7a4_40 rfl hl (by decide) rfl (fun ls hl => ?_)
  refine lv_iload_n hx hb dJ6_bitCount_0f7a4_41 rfl (lv_at hl 0 rfl) ?_
  refine lv_iload_n hx hb dJ6_bitCount_0f7a4_42 rfl (lv_at hl 0 rfl) ?_
  refine lv_bipush (v := 16) hx hb dJ6_bitCount_0f7a4_43 (by decide) ?_
  refine lv_iushr (v := (ushr ((((((x0 - ((ushr x0 1) &&& 1431655765)) &&& 858993459) + ((ushr (x0 - ((ushr x0 1) &&& 1431655765)) 2) &&& 858993459)) + (ushr (((x0 - ((ushr x0 1) &&& 1431655765)) &&& 858993459) + ((ushr (x0 - ((ushr x0 1) &&& 1431655765)) 2) &&& 858993459)) 4)) &&& 252645135) + (ushr (((((x0 - ((ushr x0 1) &&& 1431655765)) &&& 858993459) + ((ushr (x0 - ((ushr x0 1) &&& 1431655765)) 2) &&& 858993459)) + (ushr (((x0 - ((ushr x0 1) &&& 1431655765)) &&& 858993459) + ((ushr (x0 - ((ushr x0 1) &&& 1431655765)) 2) &&& 858993459)) 4)) &&& 252645135) 8)) 16)) hx hb dJ6_bitCount_0f7a4_45 rfl ?_
  refine lv_iadd hx hb dJ6_bitCount_0f7a4_46 ?_
  refine lv_istore_n (lv' := [(0, .int (((((((x0 - ((ushr x0 1) &&& 1431655765)) &&& 858993459) + ((ushr (x0 - ((ushr x0 1) &&& 1431655765)) 2) &&& 858993459)) + (ushr (((x0 - ((ushr x0 1) &&& 1431655765)) &&& 858993459) + ((ushr (x0 - ((ushr x0 1) &&& 1431655765)) 2) &&& 858993459)) 4)) &&& 252645135) + (ushr (((((x0 - ((ushr x0 1) &&& 1431655765)) &&& 858993459) + ((ushr (x0 - ((ushr x0 1) &&& 1431655765)) 2) &&& 858993459)) + (ushr (((x0 - ((ushr x0 1) &&& 1431655765)) &&& 858993459) + ((ushr (x0 - ((ushr x0 1) &&& 1431655765)) 2) &&& 858993459)) 4)) &&& 252645135) 8)) + (ushr ((((((x0 - ((ushr x0 1) &&& 1431655765)) &&& 858993459) + ((ushr (x0 - ((ushr x0 1) &&& 1431655765)) 2) &&& 858993459)) + (ushr (((x0 - ((ushr x0 1) &&& 1431655765)) &&& 858993459) + ((ushr (x0 - ((ushr x0 1) &&& 1431655765)) 2) &&& 858993459)) 4)) &&& 252645135) + (ushr (((((x0 - ((ushr x0 1) &&& 1431655765)) &&& 858993459) + ((ushr (x0 - ((ushr x0 1) &&& 1431655765)) 2) &&& 858993459)) + (ushr (((x0 - ((ushr x0 1) &&& 1431655765)) &&& 858993459) + ((ushr (x0 - ((ushr x0 1) &&& 1431655765)) 2) &&& 858993459)) 4)) &&& 252645135) 8)) 16)))]) hx hb dJ6_bitCount_0f7a4_47 rfl hl (by decide) rfl (fun ls hl => ?_)
  refine lv_iload_n hx hb dJ6_bitCount_0f7a4_48 rfl (lv_at hl 0 rfl) ?_
  refine lv_bipush (v := 63) hx hb dJ6_bitCount_0f7a4_49 (by decide) ?_
  refine lv_iand hx hb dJ6_bitCount_0f7a4_51 ?_
  exact q_iret C hr hlocks hK hP hD hS (Nat.le_of_ble_eq_true rfl) (Nat.le_of_ble_eq_true rfl) dJ6_bitCount_0f7a4_52 (by cases hB; rfl)
theorem ckJ6_bitCount_0f7a4 {l : Launch} {dC : Nat → ClassId} {dI : Nat → Nat → Nat} {cB cI cJ cZ cS : ClassId} {r : Int32} {x0 : Int32} (hB : kJ6_bitCount_0f7a4 x0 = some r) : CI l yJ6_bitCount_0f7a4 wsJ6_bitCount_0f7a4 ({ frames := 0, cells := 0, slots := 0, locals := 0 }) (dC, dI) (tysA cB cI cJ cZ cS) [] [.int x0] (fun x _ => x = r) :=
  CI_of (cc := cJ6_bitCount_0f7a4) (maxL := 1) (ret := (some .int)) (by decide) rfl (Nat.le_of_ble_eq_true rfl) (bkJ6_bitCount_0f7a4 _ hB)
set_option maxHeartbeats 4000000 in
set_option maxRecDepth 100000 in
theorem bkJ7_fill_53178_4_5 {l : Launch} {dC : Nat → ClassId} {dI : Nat → Nat → Nat} {cB cI cJ cZ cS : ClassId} {q0 : Nat} {as : List Value} {s' : (Nat → Int32)} {k5 : (Nat → Int32) → Int32 → Int32 → Int32 → Option (Nat → Int32)} (hk5 : ∀ (s : (Nat → Int32)) (x1 : Int32) (x2 : Int32) (x3 : Int32), k5 s x1 x2 x3 = some s' → BlkV l yJ7_fill_53178 wsJ7_fill_53178 ({ frames := 0, cells := 0, slots := 0, locals := 0 }) cJ7_fill_53178 4 none (dC, dI) (tysA cB cI cJ cZ cS) as 5 [(q0, .inl (cI, 4, .inl s))] [(0, .ref q0), (1, .int x1), (2, .int x2), (3, .int x3)] [] (fun u => u = [(q0, .inl (cI, 4, .inl s'))])) (s : (Nat → Int32)) (x1 : Int32) (x2 : Int32) (x3 : Int32) (hB : kJ7_fill_53178_4_5 k5 s x1 x2 x3 = some s') : BlkV l yJ7_fill_53178 wsJ7_fill_53178 ({ frames := 0, cells := 0, slots := 0, locals := 0 }) cJ7_fill_53178 4 none (dC, dI) (tysA cB cI cJ cZ cS) as 5 [(q0, .inl (cI, 4, .inl s))] [(0, .ref q0), (1, .int x1), (2, .int x2), (3, .int x3)] [] (fun u => u = [(q0, .inl (cI, 4, .inl s'))]) := by
  intro p e s0 m below meth c A E H locs ls hP hD hS hl
  obtain ⟨C, hr, hlocks, hA, hK, hN⟩ := id E
  obtain ⟨hx, hb, hml, hown, hts⟩ := id C
  unfold kJ7_fill_53178_4_5 at hB
  refine lv_iload_n hx hb dJ7_fill_53178_5 rfl (lv_at hl 2 rfl) ?_
  refine lv_iload_n hx hb dJ7_fill_53178_6 rfl (lv_at hl 3 rfl) ?_
  refine lv_icmp_ge (tgt := 20) hx hb dJ7_fill_53178_7 (by decide) (fun c1 => ?_) (fun c1 => ?_)
  · have hB := if_p hB c1
    exact q_vret C hr hlocks hK hP hD hS (Nat.le_of_ble_eq_true rfl) (Nat.le_of_ble_eq_true rfl) dJ7_fill_53178_20 (by cases hB; rfl)
  · have hB := if_n hB c1
    refine lv_aload_n hx hb dJ7_fill_53178_10 rfl (lv_at hl 0 rfl) ?_
    refine lv_iload_n hx hb dJ7_fill_53178_11 rfl (lv_at hl 2 rfl) ?_
    refine lv_iload_n hx hb dJ7_fill_53178_12 rfl (lv_at hl 1 rfl) ?_
    obtain ⟨g2, hB⟩ := guard_inv hB
    obtain ⟨s3, hs4, hB⟩ := letS_inv hB
    refine q_iast (f2 := (upd s (Int32.toNatClampNeg x2) x1)) (w2 := [(q0, .inl (cI, 4, .inl s3))]) C hK hP hD hS 0 1 rfl rfl (vpb_in g2) dJ7_fill_53178_13 rfl (by subst hs4; rfl) (fun H locs hP hD hS => ?_)
    refine lv_iinc (v := (x2 + 1)) (lv' := [(2, .int (x2 + 1)), (0, .ref q0), (1, .int x1), (3, .int x3)]) hx hb dJ7_fill_53178_14 hl (k := 2) rfl (rfl) (by decide) rfl (fun ls hl => ?_)
    refine lv_goto (tgt := 5) hx hb dJ7_fill_53178_17 (by decide) ?_
    exact hk5 _ _ _ _ hB p e s0 m below meth c A E H locs ls hP hD hS (lv_sub hl [1, 2, 0, 3] rfl)
theorem bkJ7_fill_53178_4_5L {l : Launch} {dC : Nat → ClassId} {dI : Nat → Nat → Nat} {cB cI cJ cZ cS : ClassId} {q0 : Nat} {as : List Value} {s' : (Nat → Int32)} : ∀ (n : Nat) (s : (Nat → Int32)) (x1 : Int32) (x2 : Int32) (x3 : Int32), kJ7_fill_53178_4_5L n s x1 x2 x3 = some s' → BlkV l yJ7_fill_53178 wsJ7_fill_53178 ({ frames := 0, cells := 0, slots := 0, locals := 0 }) cJ7_fill_53178 4 none (dC, dI) (tysA cB cI cJ cZ cS) as 5 [(q0, .inl (cI, 4, .inl s))] [(0, .ref q0), (1, .int x1), (2, .int x2), (3, .int x3)] [] (fun u => u = [(q0, .inl (cI, 4, .inl s'))]) := by
  intro n
  induction n with
  | zero => intro s x1 x2 x3 hB; exact none_ne hB
  | succ n ih => intro s x1 x2 x3 hB; exact bkJ7_fill_53178_4_5 ih _ _ _ _ hB
set_option maxHeartbeats 4000000 in
set_option maxRecDepth 100000 in
theorem bkJ7_fill_53178_4 {l : Launch} {dC : Nat → ClassId} {dI : Nat → Nat → Nat} {cB cI cJ cZ cS : ClassId} {q0 : Nat} {as : List Value} {s' : (Nat → Int32)} (s : (Nat → Int32)) (x1 : Int32) (hB : kJ7_fill_53178_4 s x1 = some s') : BlkV l yJ7_fill_53178 wsJ7_fill_53178 ({ frames := 0, cells := 0, slots := 0, locals := 0 }) cJ7_fill_53178 4 none (dC, dI) (tysA cB cI cJ cZ cS) as 0 [(q0, .inl (cI, 4, .inl s))] [(0, .ref q0), (1, .int x1)] [] (fun u => u = [(q0, .inl (cI, 4, .inl s'))]) := by
  intro p e s0 m below meth c A E H locs ls hP hD hS hl
  obtain ⟨C, hr, hlocks, hA, hK, hN⟩ := id E
  obtain ⟨hx, hb, hml, hown, hts⟩ := id C
  unfold kJ7_fill_53178_4 at hB
  refine lv_iconst (v := 0) hx hb dJ7_fill_53178_0 (by decide) ?_
  refine lv_istore_n (lv' := [(2, .int 0), (0, .ref q0), (1, .int x1)]) hx hb dJ7_fill_53178_1 rfl hl (by decide) rfl (fun ls hl => ?_)
  refine lv_aload_n hx hb dJ7_fill_53178_2 rfl (lv_at hl 1 rfl) ?_
  refine q_alen (v := 4) C hK hP 0 1 rfl rfl dJ7_fill_53178_3 rfl ?_
  refine lv_istore_n (lv' := [(3, .int 4), (2, .int 0), (0, .ref q0), (1, .int x1)]) hx hb dJ7_fill_53178_4 rfl hl (by decide) rfl (fun ls hl => ?_)
  exact bkJ7_fill_53178_4_5L fu _ _ _ _ hB p e s0 m below meth c A E H locs ls hP hD hS (lv_sub hl [2, 3, 1, 0] rfl)
theorem ckJ7_fill_53178_4 {l : Launch} {dC : Nat → ClassId} {dI : Nat → Nat → Nat} {cB cI cJ cZ cS : ClassId} {q0 : Nat} {s' : (Nat → Int32)} {s : (Nat → Int32)} {x1 : Int32} (hB : kJ7_fill_53178_4 s x1 = some s') : CV l yJ7_fill_53178 wsJ7_fill_53178 ({ frames := 0, cells := 0, slots := 0, locals := 0 }) (dC, dI) (tysA cB cI cJ cZ cS) [(q0, .inl (cI, 4, .inl s))] [.ref q0, .int x1] (fun u => u = [(q0, .inl (cI, 4, .inl s'))]) :=
  CV_of (cc := cJ7_fill_53178) (maxL := 4) (ret := none) (by decide) rfl (Nat.le_of_ble_eq_true rfl) (bkJ7_fill_53178_4 _ _ hB)
set_option maxHeartbeats 4000000 in
set_option maxRecDepth 100000 in
theorem bkJ7_fill_53178_5_5 {l : Launch} {dC : Nat → ClassId} {dI : Nat → Nat → Nat} {cB cI cJ cZ cS : ClassId} {q0 : Nat} {as : List Value} {s' : (Nat → Int32)} {k5 : (Nat → Int32) → Int32 → Int32 → Int32 → Option (Nat → Int32)} (hk5 : ∀ (s : (Nat → Int32)) (x1 : Int32) (x2 : Int32) (x3 : Int32), k5 s x1 x2 x3 = some s' → BlkV l yJ7_fill_53178 wsJ7_fill_53178 ({ frames := 0, cells := 0, slots := 0, locals := 0 }) cJ7_fill_53178 4 none (dC, dI) (tysA cB cI cJ cZ cS) as 5 [(q0, .inl (cI, 5, .inl s))] [(0, .ref q0), (1, .int x1), (2, .int x2), (3, .int x3)] [] (fun u => u = [(q0, .inl (cI, 5, .inl s'))])) (s : (Nat → Int32)) (x1 : Int32) (x2 : Int32) (x3 : Int32) (hB : kJ7_fill_53178_5_5 k5 s x1 x2 x3 = some s') : BlkV l yJ7_fill_53178 wsJ7_fill_53178 ({ frames := 0, cells := 0, slots := 0, locals := 0 }) cJ7_fill_53178 4 none (dC, dI) (tysA cB cI cJ cZ cS) as 5 [(q0, .inl (cI, 5, .inl s))] [(0, .ref q0), (1, .int x1), (2, .int x2), (3, .int x3)] [] (fun u => u = [(q0, .inl (cI, 5, .inl s'))]) := by
  intro p e s0 m below meth c A E H locs ls hP hD hS hl
  obtain ⟨C, hr, hlocks, hA, hK, hN⟩ := id E
  obtain ⟨hx, hb, hml, hown, hts⟩ := id C
  unfold kJ7_fill_53178_5_5 at hB
  refine lv_iload_n hx hb dJ7_fill_53178_5 rfl (lv_at hl 2 rfl) ?_
  refine lv_iload_n hx hb dJ7_fill_53178_6 rfl (lv_at hl 3 rfl) ?_
  refine lv_icmp_ge (tgt := 20) hx hb dJ7_fill_53178_7 (by decide) (fun c1 => ?_) (fun c1 => ?_)
  · have hB := if_p hB c1
    exact q_vret C hr hlocks hK hP hD hS (Nat.le_of_ble_eq_true rfl) (Nat.le_of_ble_eq_true rfl) dJ7_fill_53178_20 (by cases hB; rfl)
  · have hB := if_n hB c1
    refine lv_aload_n hx hb dJ7_fill_53178_10 rfl (lv_at hl 0 rfl) ?_
    refine lv_iload_n hx hb dJ7_fill_53178_11 rfl (lv_at hl 2 rfl) ?_
    refine lv_iload_n hx hb dJ7_fill_53178_12 rfl (lv_at hl 1 rfl) ?_
    obtain ⟨g2, hB⟩ := guard_inv hB
    obtain ⟨s3, hs4, hB⟩ := letS_inv hB
    refine q_iast (f2 := (upd s (Int32.toNatClampNeg x2) x1)) (w2 := [(q0, .inl (cI, 5, .inl s3))]) C hK hP hD hS 0 1 rfl rfl (vpb_in g2) dJ7_fill_53178_13 rfl (by subst hs4; rfl) (fun H locs hP hD hS => ?_)
    refine lv_iinc (v := (x2 + 1)) (lv' := [(2, .int (x2 + 1)), (0, .ref q0), (1, .int x1), (3, .int x3)]) hx hb dJ7_fill_53178_14 hl (k := 2) rfl (rfl) (by decide) rfl (fun ls hl => ?_)
    refine lv_goto (tgt := 5) hx hb dJ7_fill_53178_17 (by decide) ?_
    exact hk5 _ _ _ _ hB p e s0 m below meth c A E H locs ls hP hD hS (lv_sub hl [1, 2, 0, 3] rfl)
theorem bkJ7_fill_53178_5_5L {l : Launch} {dC : Nat → ClassId} {dI : Nat → Nat → Nat} {cB cI cJ cZ cS : ClassId} {q0 : Nat} {as : List Value} {s' : (Nat → Int32)} : ∀ (n : Nat) (s : (Nat → Int32)) (x1 : Int32) (x2 : Int32) (x3 : Int32), kJ7_fill_53178_5_5L n s x1 x2 x3 = some s' → BlkV l yJ7_fill_53178 wsJ7_fill_53178 ({ frames := 0, cells := 0, slots := 0, locals := 0 }) cJ7_fill_53178 4 none (dC, dI) (tysA cB cI cJ cZ cS) as 5 [(q0, .inl (cI, 5, .inl s))] [(0, .ref q0), (1, .int x1), (2, .int x2), (3, .int x3)] [] (fun u => u = [(q0, .inl (cI, 5, .inl s'))]) := by
  intro n
  induction n with
  | zero => intro s x1 x2 x3 hB; exact none_ne hB
  | succ n ih => intro s x1 x2 x3 hB; exact bkJ7_fill_53178_5_5 ih _ _ _ _ hB
set_option maxHeartbeats 4000000 in
set_option maxRecDepth 100000 in
theorem bkJ7_fill_53178_5 {l : Launch} {dC : Nat → ClassId} {dI : Nat → Nat → Nat} {cB cI cJ cZ cS : ClassId} {q0 : Nat} {as : List Value} {s' : (Nat → Int32)} (s : (Nat → Int32)) (x1 : Int32) (hB : kJ7_fill_53178_5 s x1 = some s') : BlkV l yJ7_fill_53178 wsJ7_fill_53178 ({ frames := 0, cells := 0, slots := 0, locals := 0 }) cJ7_fill_53178 4 none (dC, dI) (tysA cB cI cJ cZ cS) as 0 [(q0, .inl (cI, 5, .inl s))] [(0, .ref q0), (1, .int x1)] [] (fun u => u = [(q0, .inl (cI, 5, .inl s'))]) := by
  intro p e s0 m below meth c A E H locs ls hP hD hS hl
  obtain ⟨C, hr, hlocks, hA, hK, hN⟩ := id E
  obtain ⟨hx, hb, hml, hown, hts⟩ := id C
  unfold kJ7_fill_53178_5 at hB
  refine lv_iconst (v := 0) hx hb dJ7_fill_53178_0 (by decide) ?_
  refine lv_istore_n (lv' := [(2, .int 0), (0, .ref q0), (1, .int x1)]) hx hb dJ7_fill_53178_1 rfl hl (by decide) rfl (fun ls hl => ?_)
  refine lv_aload_n hx hb dJ7_fill_53178_2 rfl (lv_at hl 1 rfl) ?_
  refine q_alen (v := 5) C hK hP 0 1 rfl rfl dJ7_fill_53178_3 rfl ?_
  refine lv_istore_n (lv' := [(3, .int 5), (2, .int 0), (0, .ref q0), (1, .int x1)]) hx hb dJ7_fill_53178_4 rfl hl (by decide) rfl (fun ls hl => ?_)
  exact bkJ7_fill_53178_5_5L fu _ _ _ _ hB p e s0 m below meth c A E H locs ls hP hD hS (lv_sub hl [2, 3, 1, 0] rfl)
theorem ckJ7_fill_53178_5 {l : Launch} {dC : Nat → ClassId} {dI : Nat → Nat → Nat} {cB cI cJ cZ cS : ClassId} {q0 : Nat} {s' : (Nat → Int32)} {s : (Nat → Int32)} {x1 : Int32} (hB : kJ7_fill_53178_5 s x1 = some s') : CV l yJ7_fill_53178 wsJ7_fill_53178 ({ frames := 0, cells := 0, slots := 0, locals := 0 }) (dC, dI) (tysA cB cI cJ cZ cS) [(q0, .inl (cI, 5, .inl s))] [.ref q0, .int x1] (fun u => u = [(q0, .inl (cI, 5, .inl s'))]) :=
  CV_of (cc := cJ7_fill_53178) (maxL := 4) (ret := none) (by decide) rfl (Nat.le_of_ble_eq_true rfl) (bkJ7_fill_53178_5 _ _ hB)
set_option maxHeartbeats 4000000 in
set_option maxRecDepth 100000 in
theorem bkJ7_fill_53178_6_5 {l : Launch} {dC : Nat → ClassId} {dI : Nat → Nat → Nat} {cB cI cJ cZ cS : ClassId} {q0 : Nat} {as : List Value} {s' : (Nat → Int32)} {k5 : (Nat → Int32) → Int32 → Int32 → Int32 → Option (Nat → Int32)} (hk5 : ∀ (s : (Nat → Int32)) (x1 : Int32) (x2 : Int32) (x3 : Int32), k5 s x1 x2 x3 = some s' → BlkV l yJ7_fill_53178 wsJ7_fill_53178 ({ frames := 0, cells := 0, slots := 0, locals := 0 }) cJ7_fill_53178 4 none (dC, dI) (tysA cB cI cJ cZ cS) as 5 [(q0, .inl (cI, 6, .inl s))] [(0, .ref q0), (1, .int x1), (2, .int x2), (3, .int x3)] [] (fun u => u = [(q0, .inl (cI, 6, .inl s'))])) (s : (Nat → Int32)) (x1 : Int32) (x2 : Int32) (x3 : Int32) (hB : kJ7_fill_53178_6_5 k5 s x1 x2 x3 = some s') : BlkV l yJ7_fill_53178 wsJ7_fill_53178 ({ frames := 0, cells := 0, slots := 0, locals := 0 }) cJ7_fill_53178 4 none (dC, dI) (tysA cB cI cJ cZ cS) as 5 [(q0, .inl (cI, 6, .inl s))] [(0, .ref q0), (1, .int x1), (2, .int x2), (3, .int x3)] [] (fun u => u = [(q0, .inl (cI, 6, .inl s'))]) := by
  intro p e s0 m below meth c A E H locs ls hP hD hS hl
  obtain ⟨C, hr, hlocks, hA, hK, hN⟩ := id E
  obtain ⟨hx, hb, hml, hown, hts⟩ := id C
  unfold kJ7_fill_53178_6_5 at hB
  refine lv_iload_n hx hb dJ7_fill_53178_5 rfl (lv_at hl 2 rfl) ?_
  refine lv_iload_n hx hb dJ7_fill_53178_6 rfl (lv_at hl 3 rfl) ?_
  refine lv_icmp_ge (tgt := 20) hx hb dJ7_fill_53178_7 (by decide) (fun c1 => ?_) (fun c1 => ?_)
  · have hB := if_p hB c1
    exact q_vret C hr hlocks hK hP hD hS (Nat.le_of_ble_eq_true rfl) (Nat.le_of_ble_eq_true rfl) dJ7_fill_53178_20 (by cases hB; rfl)
  · have hB := if_n hB c1
    refine lv_aload_n hx hb dJ7_fill_53178_10 rfl (lv_at hl 0 rfl) ?_
    refine lv_iload_n hx hb dJ7_fill_53178_11 rfl (lv_at hl 2 rfl) ?_
    refine lv_iload_n hx hb dJ7_fill_53178_12 rfl (lv_at hl 1 rfl) ?_
    obtain ⟨g2, hB⟩ := guard_inv hB
    obtain ⟨s3, hs4, hB⟩ := letS_inv hB
    refine q_iast (f2 := (upd s (Int32.toNatClampNeg x2) x1)) (w2 := [(q0, .inl (cI, 6, .inl s3))]) C hK hP hD hS 0 1 rfl rfl (vpb_in g2) dJ7_fill_53178_13 rfl (by subst hs4; rfl) (fun H locs hP hD hS => ?_)
    refine lv_iinc (v := (x2 + 1)) (lv' := [(2, .int (x2 + 1)), (0, .ref q0), (1, .int x1), (3, .int x3)]) hx hb dJ7_fill_53178_14 hl (k := 2) rfl (rfl) (by decide) rfl (fun ls hl => ?_)
    refine lv_goto (tgt := 5) hx hb dJ7_fill_53178_17 (by decide) ?_
    exact hk5 _ _ _ _ hB p e s0 m below meth c A E H locs ls hP hD hS (lv_sub hl [1, 2, 0, 3] rfl)
theorem bkJ7_fill_53178_6_5L {l : Launch} {dC : Nat → ClassId} {dI : Nat → Nat → Nat} {cB cI cJ cZ cS : ClassId} {q0 : Nat} {as : List Value} {s' : (Nat → Int32)} : ∀ (n : Nat) (s : (Nat → Int32)) (x1 : Int32) (x2 : Int32) (x3 : Int32), kJ7_fill_53178_6_5L n s x1 x2 x3 = some s' → BlkV l yJ7_fill_53178 wsJ7_fill_53178 ({ frames := 0, cells := 0, slots := 0, locals := 0 }) cJ7_fill_53178 4 none (dC, dI) (tysA cB cI cJ cZ cS) as 5 [(q0, .inl (cI, 6, .inl s))] [(0, .ref q0), (1, .int x1), (2, .int x2), (3, .int x3)] [] (fun u => u = [(q0, .inl (cI, 6, .inl s'))]) := by
  intro n
  induction n with
  | zero => intro s x1 x2 x3 hB; exact none_ne hB
  | succ n ih => intro s x1 x2 x3 hB; exact bkJ7_fill_53178_6_5 ih _ _ _ _ hB
set_option maxHeartbeats 4000000 in
set_option maxRecDepth 100000 in
theorem bkJ7_fill_53178_6 {l : Launch} {dC : Nat → ClassId} {dI : Nat → Nat → Nat} {cB cI cJ cZ cS : ClassId} {q0 : Nat} {as : List Value} {s' : (Nat → Int32)} (s : (Nat → Int32)) (x1 : Int32) (hB : kJ7_fill_53178_6 s x1 = some s') : BlkV l yJ7_fill_53178 wsJ7_fill_53178 ({ frames := 0, cells := 0, slots := 0, locals := 0 }) cJ7_fill_53178 4 none (dC, dI) (tysA cB cI cJ cZ cS) as 0 [(q0, .inl (cI, 6, .inl s))] [(0, .ref q0), (1, .int x1)] [] (fun u => u = [(q0, .inl (cI, 6, .inl s'))]) := by
  intro p e s0 m below meth c A E H locs ls hP hD hS hl
  obtain ⟨C, hr, hlocks, hA, hK, hN⟩ := id E
  obtain ⟨hx, hb, hml, hown, hts⟩ := id C
  unfold kJ7_fill_53178_6 at hB
  refine lv_iconst (v := 0) hx hb dJ7_fill_53178_0 (by decide) ?_
  refine lv_istore_n (lv' := [(2, .int 0), (0, .ref q0), (1, .int x1)]) hx hb dJ7_fill_53178_1 rfl hl (by decide) rfl (fun ls hl => ?_)
  refine lv_aload_n hx hb dJ7_fill_53178_2 rfl (lv_at hl 1 rfl) ?_
  refine q_alen (v := 6) C hK hP 0 1 rfl rfl dJ7_fill_53178_3 rfl ?_
  refine lv_istore_n (lv' := [(3, .int 6), (2, .int 0), (0, .ref q0), (1, .int x1)]) hx hb dJ7_fill_53178_4 rfl hl (by decide) rfl (fun ls hl => ?_)
  exact bkJ7_fill_53178_6_5L fu _ _ _ _ hB p e s0 m below meth c A E H locs ls hP hD hS (lv_sub hl [2, 3, 1, 0] rfl)
theorem ckJ7_fill_53178_6 {l : Launch} {dC : Nat → ClassId} {dI : Nat → Nat → Nat} {cB cI cJ cZ cS : ClassId} {q0 : Nat} {s' : (Nat → Int32)} {s : (Nat → Int32)} {x1 : Int32} (hB : kJ7_fill_53178_6 s x1 = some s') : CV l yJ7_fill_53178 wsJ7_fill_53178 ({ frames := 0, cells := 0, slots := 0, locals := 0 }) (dC, dI) (tysA cB cI cJ cZ cS) [(q0, .inl (cI, 6, .inl s))] [.ref q0, .int x1] (fun u => u = [(q0, .inl (cI, 6, .inl s'))]) :=
  CV_of (cc := cJ7_fill_53178) (maxL := 4) (ret := none) (by decide) rfl (Nat.le_of_ble_eq_true rfl) (bkJ7_fill_53178_6 _ _ hB)
set_option maxHeartbeats 4000000 in
set_option maxRecDepth 100000 in
theorem bkJ7_fill_53178_9_5 {l : Launch} {dC : Nat → ClassId} {dI : Nat → Nat → Nat} {cB cI cJ cZ cS : ClassId} {q0 : Nat} {as : List Value} {s' : (Nat → Int32)} {k5 : (Nat → Int32) → Int32 → Int32 → Int32 → Option (Nat → Int32)} (hk5 : ∀ (s : (Nat → Int32)) (x1 : Int32) (x2 : Int32) (x3 : Int32), k5 s x1 x2 x3 = some s' → BlkV l yJ7_fill_53178 wsJ7_fill_53178 ({ frames := 0, cells := 0, slots := 0, locals := 0 }) cJ7_fill_53178 4 none (dC, dI) (tysA cB cI cJ cZ cS) as 5 [(q0, .inl (cI, 9, .inl s))] [(0, .ref q0), (1, .int x1), (2, .int x2), (3, .int x3)] [] (fun u => u = [(q0, .inl (cI, 9, .inl s'))])) (s : (Nat → Int32)) (x1 : Int32) (x2 : Int32) (x3 : Int32) (hB : kJ7_fill_53178_9_5 k5 s x1 x2 x3 = some s') : BlkV l yJ7_fill_53178 wsJ7_fill_53178 ({ frames := 0, cells := 0, slots := 0, locals := 0 }) cJ7_fill_53178 4 none (dC, dI) (tysA cB cI cJ cZ cS) as 5 [(q0, .inl (cI, 9, .inl s))] [(0, .ref q0), (1, .int x1), (2, .int x2), (3, .int x3)] [] (fun u => u = [(q0, .inl (cI, 9, .inl s'))]) := by
  intro p e s0 m below meth c A E H locs ls hP hD hS hl
  obtain ⟨C, hr, hlocks, hA, hK, hN⟩ := id E
  obtain ⟨hx, hb, hml, hown, hts⟩ := id C
  unfold kJ7_fill_53178_9_5 at hB
  refine lv_iload_n hx hb dJ7_fill_53178_5 rfl (lv_at hl 2 rfl) ?_
  refine lv_iload_n hx hb dJ7_fill_53178_6 rfl (lv_at hl 3 rfl) ?_
  refine lv_icmp_ge (tgt := 20) hx hb dJ7_fill_53178_7 (by decide) (fun c1 => ?_) (fun c1 => ?_)
  · have hB := if_p hB c1
    exact q_vret C hr hlocks hK hP hD hS (Nat.le_of_ble_eq_true rfl) (Nat.le_of_ble_eq_true rfl) dJ7_fill_53178_20 (by cases hB; rfl)
  · have hB := if_n hB c1
    refine lv_aload_n hx hb dJ7_fill_53178_10 rfl (lv_at hl 0 rfl) ?_
    refine lv_iload_n hx hb dJ7_fill_53178_11 rfl (lv_at hl 2 rfl) ?_
    refine lv_iload_n hx hb dJ7_fill_53178_12 rfl (lv_at hl 1 rfl) ?_
    obtain ⟨g2, hB⟩ := guard_inv hB
    obtain ⟨s3, hs4, hB⟩ := letS_inv hB
    refine q_iast (f2 := (upd s (Int32.toNatClampNeg x2) x1)) (w2 := [(q0, .inl (cI, 9, .inl s3))]) C hK hP hD hS 0 1 rfl rfl (vpb_in g2) dJ7_fill_53178_13 rfl (by subst hs4; rfl) (fun H locs hP hD hS => ?_)
    refine lv_iinc (v := (x2 + 1)) (lv' := [(2, .int (x2 + 1)), (0, .ref q0), (1, .int x1), (3, .int x3)]) hx hb dJ7_fill_53178_14 hl (k := 2) rfl (rfl) (by decide) rfl (fun ls hl => ?_)
    refine lv_goto (tgt := 5) hx hb dJ7_fill_53178_17 (by decide) ?_
    exact hk5 _ _ _ _ hB p e s0 m below meth c A E H locs ls hP hD hS (lv_sub hl [1, 2, 0, 3] rfl)
theorem bkJ7_fill_53178_9_5L {l : Launch} {dC : Nat → ClassId} {dI : Nat → Nat → Nat} {cB cI cJ cZ cS : ClassId} {q0 : Nat} {as : List Value} {s' : (Nat → Int32)} : ∀ (n : Nat) (s : (Nat → Int32)) (x1 : Int32) (x2 : Int32) (x3 : Int32), kJ7_fill_53178_9_5L n s x1 x2 x3 = some s' → BlkV l yJ7_fill_53178 wsJ7_fill_53178 ({ frames := 0, cells := 0, slots := 0, locals := 0 }) cJ7_fill_53178 4 none (dC, dI) (tysA cB cI cJ cZ cS) as 5 [(q0, .inl (cI, 9, .inl s))] [(0, .ref q0), (1, .int x1), (2, .int x2), (3, .int x3)] [] (fun u => u = [(q0, .inl (cI, 9, .inl s'))]) := by
  intro n
  induction n with
  | zero => intro s x1 x2 x3 hB; exact none_ne hB
  | succ n ih => intro s x1 x2 x3 hB; exact bkJ7_fill_53178_9_5 ih _ _ _ _ hB
set_option maxHeartbeats 4000000 in
set_option maxRecDepth 100000 in
theorem bkJ7_fill_53178_9 {l : Launch} {dC : Nat → ClassId} {dI : Nat → Nat → Nat} {cB cI cJ cZ cS : ClassId} {q0 : Nat} {as : List Value} {s' : (Nat → Int32)} (s : (Nat → Int32)) (x1 : Int32) (hB : kJ7_fill_53178_9 s x1 = some s') : BlkV l yJ7_fill_53178 wsJ7_fill_53178 ({ frames := 0, cells := 0, slots := 0, locals := 0 }) cJ7_fill_53178 4 none (dC, dI) (tysA cB cI cJ cZ cS) as 0 [(q0, .inl (cI, 9, .inl s))] [(0, .ref q0), (1, .int x1)] [] (fun u => u = [(q0, .inl (cI, 9, .inl s'))]) := by
  intro p e s0 m below meth c A E H locs ls hP hD hS hl
  obtain ⟨C, hr, hlocks, hA, hK, hN⟩ := id E
  obtain ⟨hx, hb, hml, hown, hts⟩ := id C
  unfold kJ7_fill_53178_9 at hB
  refine lv_iconst (v := 0) hx hb dJ7_fill_53178_0 (by decide) ?_
  refine lv_istore_n (lv' := [(2, .int 0), (0, .ref q0), (1, .int x1)]) hx hb dJ7_fill_53178_1 rfl hl (by decide) rfl (fun ls hl => ?_)
  refine lv_aload_n hx hb dJ7_fill_53178_2 rfl (lv_at hl 1 rfl) ?_
  refine q_alen (v := 9) C hK hP 0 1 rfl rfl dJ7_fill_53178_3 rfl ?_
  refine lv_istore_n (lv' := [(3, .int 9), (2, .int 0), (0, .ref q0), (1, .int x1)]) hx hb dJ7_fill_53178_4 rfl hl (by decide) rfl (fun ls hl => ?_)
  exact bkJ7_fill_53178_9_5L fu _ _ _ _ hB p e s0 m below meth c A E H locs ls hP hD hS (lv_sub hl [2, 3, 1, 0] rfl)
theorem ckJ7_fill_53178_9 {l : Launch} {dC : Nat → ClassId} {dI : Nat → Nat → Nat} {cB cI cJ cZ cS : ClassId} {q0 : Nat} {s' : (Nat → Int32)} {s : (Nat → Int32)} {x1 : Int32} (hB : kJ7_fill_53178_9 s x1 = some s') : CV l yJ7_fill_53178 wsJ7_fill_53178 ({ frames := 0, cells := 0, slots := 0, locals := 0 }) (dC, dI) (tysA cB cI cJ cZ cS) [(q0, .inl (cI, 9, .inl s))] [.ref q0, .int x1] (fun u => u = [(q0, .inl (cI, 9, .inl s'))]) :=
  CV_of (cc := cJ7_fill_53178) (maxL := 4) (ret := none) (by decide) rfl (Nat.le_of_ble_eq_true rfl) (bkJ7_fill_53178_9 _ _ hB)
set_option maxHeartbeats 4000000 in
set_option maxRecDepth 100000 in
theorem bkJ7_fill_53178_20_5 {l : Launch} {dC : Nat → ClassId} {dI : Nat → Nat → Nat} {cB cI cJ cZ cS : ClassId} {q0 : Nat} {as : List Value} {s' : (Nat → Int32)} {k5 : (Nat → Int32) → Int32 → Int32 → Int32 → Option (Nat → Int32)} (hk5 : ∀ (s : (Nat → Int32)) (x1 : Int32) (x2 : Int32) (x3 : Int32), k5 s x1 x2 x3 = some s' → BlkV l yJ7_fill_53178 wsJ7_fill_53178 ({ frames := 0, cells := 0, slots := 0, locals := 0 }) cJ7_fill_53178 4 none (dC, dI) (tysA cB cI cJ cZ cS) as 5 [(q0, .inl (cI, 20, .inl s))] [(0, .ref q0), (1, .int x1), (2, .int x2), (3, .int x3)] [] (fun u => u = [(q0, .inl (cI, 20, .inl s'))])) (s : (Nat → Int32)) (x1 : Int32) (x2 : Int32) (x3 : Int32) (hB : kJ7_fill_53178_20_5 k5 s x1 x2 x3 = some s') : BlkV l yJ7_fill_53178 wsJ7_fill_53178 ({ frames := 0, cells := 0, slots := 0, locals := 0 }) cJ7_fill_53178 4 none (dC, dI) (tysA cB cI cJ cZ cS) as 5 [(q0, .inl (cI, 20, .inl s))] [(0, .ref q0), (1, .int x1), (2, .int x2), (3, .int x3)] [] (fun u => u = [(q0, .inl (cI, 20, .inl s'))]) := by
  intro p e s0 m below meth c A E H locs ls hP hD hS hl
  obtain ⟨C, hr, hlocks, hA, hK, hN⟩ := id E
  obtain ⟨hx, hb, hml, hown, hts⟩ := id C
  unfold kJ7_fill_53178_20_5 at hB
  refine lv_iload_n hx hb dJ7_fill_53178_5 rfl (lv_at hl 2 rfl) ?_
  refine lv_iload_n hx hb dJ7_fill_53178_6 rfl (lv_at hl 3 rfl) ?_
  refine lv_icmp_ge (tgt := 20) hx hb dJ7_fill_53178_7 (by decide) (fun c1 => ?_) (fun c1 => ?_)
  · have hB := if_p hB c1
    exact q_vret C hr hlocks hK hP hD hS (Nat.le_of_ble_eq_true rfl) (Nat.le_of_ble_eq_true rfl) dJ7_fill_53178_20 (by cases hB; rfl)
  · have hB := if_n hB c1
    refine lv_aload_n hx hb dJ7_fill_53178_10 rfl (lv_at hl 0 rfl) ?_
    refine lv_iload_n hx hb dJ7_fill_53178_11 rfl (lv_at hl 2 rfl) ?_
    refine lv_iload_n hx hb dJ7_fill_53178_12 rfl (lv_at hl 1 rfl) ?_
    obtain ⟨g2, hB⟩ := guard_inv hB
    obtain ⟨s3, hs4, hB⟩ := letS_inv hB
    refine q_iast (f2 := (upd s (Int32.toNatClampNeg x2) x1)) (w2 := [(q0, .inl (cI, 20, .inl s3))]) C hK hP hD hS 0 1 rfl rfl (vpb_in g2) dJ7_fill_53178_13 rfl (by subst hs4; rfl) (fun H locs hP hD hS => ?_)
    refine lv_iinc (v := (x2 + 1)) (lv' := [(2, .int (x2 + 1)), (0, .ref q0), (1, .int x1), (3, .int x3)]) hx hb dJ7_fill_53178_14 hl (k := 2) rfl (rfl) (by decide) rfl (fun ls hl => ?_)
    refine lv_goto (tgt := 5) hx hb dJ7_fill_53178_17 (by decide) ?_
    exact hk5 _ _ _ _ hB p e s0 m below meth c A E H locs ls hP hD hS (lv_sub hl [1, 2, 0, 3] rfl)
theorem bkJ7_fill_53178_20_5L {l : Launch} {dC : Nat → ClassId} {dI : Nat → Nat → Nat} {cB cI cJ cZ cS : ClassId} {q0 : Nat} {as : List Value} {s' : (Nat → Int32)} : ∀ (n : Nat) (s : (Nat → Int32)) (x1 : Int32) (x2 : Int32) (x3 : Int32), kJ7_fill_53178_20_5L n s x1 x2 x3 = some s' → BlkV l yJ7_fill_53178 wsJ7_fill_53178 ({ frames := 0, cells := 0, slots := 0, locals := 0 }) cJ7_fill_53178 4 none (dC, dI) (tysA cB cI cJ cZ cS) as 5 [(q0, .inl (cI, 20, .inl s))] [(0, .ref q0), (1, .int x1), (2, .int x2), (3, .int x3)] [] (fun u => u = [(q0, .inl (cI, 20, .inl s'))]) := by
  intro n
  induction n with
  | zero => intro s x1 x2 x3 hB; exact none_ne hB
  | succ n ih => intro s x1 x2 x3 hB; exact bkJ7_fill_53178_20_5 ih _ _ _ _ hB
set_option maxHeartbeats 4000000 in
set_option maxRecDepth 100000 in
theorem bkJ7_fill_53178_20 {l : Launch} {dC : Nat → ClassId} {dI : Nat → Nat → Nat} {cB cI cJ cZ cS : ClassId} {q0 : Nat} {as : List Value} {s' : (Nat → Int32)} (s : (Nat → Int32)) (x1 : Int32) (hB : kJ7_fill_53178_20 s x1 = some s') : BlkV l yJ7_fill_53178 wsJ7_fill_53178 ({ frames := 0, cells := 0, slots := 0, locals := 0 }) cJ7_fill_53178 4 none (dC, dI) (tysA cB cI cJ cZ cS) as 0 [(q0, .inl (cI, 20, .inl s))] [(0, .ref q0), (1, .int x1)] [] (fun u => u = [(q0, .inl (cI, 20, .inl s'))]) := by
  intro p e s0 m below meth c A E H locs ls hP hD hS hl
  obtain ⟨C, hr, hlocks, hA, hK, hN⟩ := id E
  obtain ⟨hx, hb, hml, hown, hts⟩ := id C
  unfold kJ7_fill_53178_20 at hB
  refine lv_iconst (v := 0) hx hb dJ7_fill_53178_0 (by decide) ?_
  refine lv_istore_n (lv' := [(2, .int 0), (0, .ref q0), (1, .int x1)]) hx hb dJ7_fill_53178_1 rfl hl (by decide) rfl (fun ls hl => ?_)
  refine lv_aload_n hx hb dJ7_fill_53178_2 rfl (lv_at hl 1 rfl) ?_
  refine q_alen (v := 20) C hK hP 0 1 rfl rfl dJ7_fill_53178_3 rfl ?_
  refine lv_istore_n (lv' := [(3, .int 20), (2, .int 0), (0, .ref q0), (1, .int x1)]) hx hb dJ7_fill_53178_4 rfl hl (by decide) rfl (fun ls hl => ?_)
  exact bkJ7_fill_53178_20_5L fu _ _ _ _ hB p e s0 m below meth c A E H locs ls hP hD hS (lv_sub hl [2, 3, 1, 0] rfl)
theorem ckJ7_fill_53178_20 {l : Launch} {dC : Nat → ClassId} {dI : Nat → Nat → Nat} {cB cI cJ cZ cS : ClassId} {q0 : Nat} {s' : (Nat → Int32)} {s : (Nat → Int32)} {x1 : Int32} (hB : kJ7_fill_53178_20 s x1 = some s') : CV l yJ7_fill_53178 wsJ7_fill_53178 ({ frames := 0, cells := 0, slots := 0, locals := 0 }) (dC, dI) (tysA cB cI cJ cZ cS) [(q0, .inl (cI, 20, .inl s))] [.ref q0, .int x1] (fun u => u = [(q0, .inl (cI, 20, .inl s'))]) :=
  CV_of (cc := cJ7_fill_53178) (maxL := 4) (ret := none) (by decide) rfl (Nat.le_of_ble_eq_true rfl) (bkJ7_fill_53178_20 _ _ hB)
theorem LX0_clearVars_27 : Cond.fieldLink RX0 27 "GuessFerry$Crossing" "vars" "[I" ∈ wsX0_clearVars := by decide +kernel
theorem inX0_clearVars_X0 : ∀ w ∈ u_ws RX0 TX0 2, w ∈ wsX0_clearVars := by decide +kernel
theorem inX0_clearVars_X6 : ∀ w ∈ u_ws RX6 TX6 7, w ∈ wsX0_clearVars := by decide +kernel
set_option maxHeartbeats 4000000 in
set_option maxRecDepth 100000 in
theorem bkX0_clearVars {l : Launch} {dC : Nat → ClassId} {dI : Nat → Nat → Nat} {cB cI cJ cZ cS : ClassId} {a b : Nat → Nat} {as : List Value} {s' : JS} (s : JS) (hB : kX0_clearVars s = some s') : BlkV l yX0_clearVars wsX0_clearVars ({ frames := 1, cells := 0, slots := 0, locals := 23 }) cX0_clearVars 2 none (dC, dI) (tysA cB cI cJ cZ cS) as 0 (wJ cB cI cJ cZ cS a b s) [(0, .ref (a 35)), (1, .ref (b 0))] [] (fun u => u = (wJ cB cI cJ cZ cS a b s')) := by
  intro p e s0 m below meth c A E H locs ls hP hD hS hl
  obtain ⟨C, hr, hlocks, hA, hK, hN⟩ := id E
  obtain ⟨hx, hb, hml, hown, hts⟩ := id C
  unfold kX0_clearVars at hB
  refine lv_aload_n hx hb dX0_clearVars_0 rfl (lv_at hl 0 rfl) ?_
  refine q_get (v := .ref (a 13)) C inX0_clearVars_X0 hK hP 41 rfl rfl 1 (by decide) rfl LX0_clearVars_27 rfl dX0_clearVars_1 ?_
  refine lv_iconst (v := 0) hx hb dX0_clearVars_4 (by decide) ?_
  obtain ⟨s1, hc, hB⟩ := bindP_inv hB
  refine q_gov (wr := (((wJ cB cI cJ cZ cS a b s)).eraseIdx 19)) (va_runS (As := [.ref (a 13), .int 0]) (rest := []) C (ckJ7_fill_53178_9 hc _) (va_cwS 2 hts gX0_clearVars_J7_fill_53178 rfl rfl rfl (by decide +kernel) ⟨Nat.le_of_ble_eq_true rfl, Nat.le_of_ble_eq_true rfl⟩) (q_pre hN hK hP hD [19] rfl (by decide)) rfl rfl hl.1 rfl (lv_room (Nat.le_of_ble_eq_true rfl)) dX0_clearVars_5 ⟨Nat.le_of_ble_eq_true rfl, Nat.le_of_ble_eq_true rfl⟩) hP hD hS hA [19] [0, 1, 2, 3, 4, 5, 6, 7, 8, 9, 10, 11, 12, 13, 14, 15, 16, 17, 18, 20, 21, 22, 23, 24, 25, 26, 27, 28, 29, 30, 31, 32, 33, 34, 35, 36, 37, 38, 39, 40, 41, 42, 43, 44, 45, 46, 47, 48, 49, 50, 51, 52] rfl rfl (by decide) (by decide) (fun w1 H locs hw hP hD hS => ?_)
  subst hw
  obtain ⟨s2, hs3, hB⟩ := letS_inv hB
  have hP : va_P (dC, dI) vwCl (wJ cB cI cJ cZ cS a b s2) H := by subst hs3; exact hP.sub [0, 1, 2, 3, 4, 5, 6, 7, 8, 9, 10, 11, 12, 13, 14, 15, 16, 17, 18, 52, 19, 20, 21, 22, 23, 24, 25, 26, 27, 28, 29, 30, 31, 32, 33, 34, 35, 36, 37, 38, 39, 40, 41, 42, 43, 44, 45, 46, 47, 48, 49, 50, 51] rfl
  have hD : va_D A (wJ cB cI cJ cZ cS a b s2) := by subst hs3; exact hD.sub [0, 1, 2, 3, 4, 5, 6, 7, 8, 9, 10, 11, 12, 13, 14, 15, 16, 17, 18, 52, 19, 20, 21, 22, 23, 24, 25, 26, 27, 28, 29, 30, 31, 32, 33, 34, 35, 36, 37, 38, 39, 40, 41, 42, 43, 44, 45, 46, 47, 48, 49, 50, 51] (by decide) rfl
  refine lv_aload_n hx hb dX0_clearVars_8 rfl (lv_at hl 0 rfl) ?_
  refine q_get (v := .ref (a 13)) C inX0_clearVars_X0 hK hP 41 rfl rfl 1 (by decide) rfl LX0_clearVars_27 rfl dX0_clearVars_9 ?_
  refine lv_iconst (v := 5) hx hb dX0_clearVars_12 (by decide) ?_
  refine lv_aload_n hx hb dX0_clearVars_13 rfl (lv_at hl 1 rfl) ?_
  refine q_getN (v := .int (s2.d.v 5)) C hN inX0_clearVars_X6 hK hP 0 rfl rfl 5 (by decide) rfl nwF_X0_59 rfl dX0_clearVars_14 ?_
  obtain ⟨s4, hs5, hB⟩ := letS_inv hB
  refine q_iast (f2 := (upd (s2.k.f 13) 5 (s2.d.v 5))) (w2 := (wJ cB cI cJ cZ cS a b s4)) C hK hP hD hS 19 1 rfl rfl (vp_lit (by decide +kernel)) dX0_clearVars_17 rfl (by subst hs5; rfl) (fun H locs hP hD hS => ?_)
  exact q_vret C hr hlocks hK hP hD hS (Nat.le_of_ble_eq_true rfl) (Nat.le_of_ble_eq_true rfl) dX0_clearVars_18 (by cases hB; rfl)
theorem ckX0_clearVars {l : Launch} {dC : Nat → ClassId} {dI : Nat → Nat → Nat} {cB cI cJ cZ cS : ClassId} {a b : Nat → Nat} {s' : JS} {s : JS} (hB : kX0_clearVars s = some s') : CV l yX0_clearVars wsX0_clearVars ({ frames := 1, cells := 0, slots := 0, locals := 23 }) (dC, dI) (tysA cB cI cJ cZ cS) (wJ cB cI cJ cZ cS a b s) [.ref (a 35), .ref (b 0)] (fun u => u = (wJ cB cI cJ cZ cS a b s')) :=
  CV_of (cc := cX0_clearVars) (maxL := 2) (ret := none) (by decide) rfl (Nat.le_of_ble_eq_true rfl) (bkX0_clearVars _ hB)
