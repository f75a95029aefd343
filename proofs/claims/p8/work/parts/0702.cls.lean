theorem dX6_copyFrom_0 : decode cX6_copyFrom 0 = .ok (.aload_n 1, 1) := dc1_43 (by decide +kernel)
theorem dX6_copyFrom_1 : decode cX6_copyFrom 1 = .ok (.getfield 9, 3) := dcw_180 (by decide +kernel)
theorem dX6_copyFrom_4 : decode cX6_copyFrom 4 = .ok (.iconst 0, 1) := dc1_3 (by decide +kernel)
theorem dX6_copyFrom_5 : decode cX6_copyFrom 5 = .ok (.aload_n 0, 1) := dc1_42 (by decide +kernel)
theorem dX6_copyFrom_6 : decode cX6_copyFrom 6 = .ok (.getfield 9, 3) := dcw_180 (by decide +kernel)
theorem dX6_copyFrom_9 : decode cX6_copyFrom 9 = .ok (.iconst 0, 1) := dc1_3 (by decide +kernel)
theorem dX6_copyFrom_10 : decode cX6_copyFrom 10 = .ok (.iconst 5, 1) := dc1_8 (by decide +kernel)
theorem dX6_copyFrom_11 : decode cX6_copyFrom 11 = .ok (.invokestatic 40, 3) := dcw_184 (by decide +kernel)
theorem dX6_copyFrom_14 : decode cX6_copyFrom 14 = .ok (.aload_n 1, 1) := dc1_43 (by decide +kernel)
theorem dX6_copyFrom_15 : decode cX6_copyFrom 15 = .ok (.getfield 15, 3) := dcw_180 (by decide +kernel)
theorem dX6_copyFrom_18 : decode cX6_copyFrom 18 = .ok (.iconst 0, 1) := dc1_3 (by decide +kernel)
theorem dX6_copyFrom_19 : decode cX6_copyFrom 19 = .ok (.aload_n 0, 1) := dc1_42 (by decide +kernel)
theorem dX6_copyFrom_20 : decode cX6_copyFrom 20 = .ok (.getfield 15, 3) := dcw_180 (by decide +kernel)
theorem dX6_copyFrom_23 : decode cX6_copyFrom 23 = .ok (.iconst 0, 1) := dc1_3 (by decide +kernel)
theorem dX6_copyFrom_24 : decode cX6_copyFrom 24 = .ok (.iconst 5, 1) := dc1_8 (by decide +kernel)
theorem dX6_copyFrom_25 : decode cX6_copyFrom 25 = .ok (.invokestatic 40, 3) := dcw_184 (by decide +kernel)
theorem dX6_copyFrom_28 : decode cX6_copyFrom 28 = .ok (.aload_n 1, 1) := dc1_43 (by decide +kernel)
theorem dX6_copyFrom_29 : decode cX6_copyFrom 29 = .ok (.getfield 18, 3) := dcw_180 (by decide +kernel)
theorem dX6_copyFrom_32 : decode cX6_copyFrom 32 = .ok (.iconst 0, 1) := dc1_3 (by decide +kernel)
theorem dX6_copyFrom_33 : decode cX6_copyFrom 33 = .ok (.aload_n 0, 1) := dc1_42 (by decide +kernel)
theorem dX6_copyFrom_34 : decode cX6_copyFrom 34 = .ok (.getfield 18, 3) := dcw_180 (by decide +kernel)
theorem dX6_copyFrom_37 : decode cX6_copyFrom 37 = .ok (.iconst 0, 1) := dc1_3 (by decide +kernel)
theorem dX6_copyFrom_38 : decode cX6_copyFrom 38 = .ok (.iconst 5, 1) := dc1_8 (by decide +kernel)
theorem dX6_copyFrom_39 : decode cX6_copyFrom 39 = .ok (.invokestatic 40, 3) := dcw_184 (by decide +kernel)
theorem dX6_copyFrom_42 : decode cX6_copyFrom 42 = .ok (.aload_n 1, 1) := dc1_43 (by decide +kernel)
theorem dX6_copyFrom_43 : decode cX6_copyFrom 43 = .ok (.getfield 21, 3) := dcw_180 (by decide +kernel)
theorem dX6_copyFrom_46 : decode cX6_copyFrom 46 = .ok (.iconst 0, 1) := dc1_3 (by decide +kernel)
theorem dX6_copyFrom_47 : decode cX6_copyFrom 47 = .ok (.aload_n 0, 1) := dc1_42 (by decide +kernel)
theorem dX6_copyFrom_48 : decode cX6_copyFrom 48 = .ok (.getfield 21, 3) := dcw_180 (by decide +kernel)
theorem dX6_copyFrom_51 : decode cX6_copyFrom 51 = .ok (.iconst 0, 1) := dc1_3 (by decide +kernel)
theorem dX6_copyFrom_52 : decode cX6_copyFrom 52 = .ok (.bipush 6, 2) := dcb_16 (n := 6) (by decide +kernel)
theorem dX6_copyFrom_54 : decode cX6_copyFrom 54 = .ok (.invokestatic 40, 3) := dcw_184 (by decide +kernel)
theorem dX6_copyFrom_57 : decode cX6_copyFrom 57 = .ok (.aload_n 1, 1) := dc1_43 (by decide +kernel)
theorem dX6_copyFrom_58 : decode cX6_copyFrom 58 = .ok (.getfield 24, 3) := dcw_180 (by decide +kernel)
theorem dX6_copyFrom_61 : decode cX6_copyFrom 61 = .ok (.iconst 0, 1) := dc1_3 (by decide +kernel)
theorem dX6_copyFrom_62 : decode cX6_copyFrom 62 = .ok (.aload_n 0, 1) := dc1_42 (by decide +kernel)
theorem dX6_copyFrom_63 : decode cX6_copyFrom 63 = .ok (.getfield 24, 3) := dcw_180 (by decide +kernel)
theorem dX6_copyFrom_66 : decode cX6_copyFrom 66 = .ok (.iconst 0, 1) := dc1_3 (by decide +kernel)
theorem dX6_copyFrom_67 : decode cX6_copyFrom 67 = .ok (.bipush 6, 2) := dcb_16 (n := 6) (by decide +kernel)
theorem dX6_copyFrom_69 : decode cX6_copyFrom 69 = .ok (.invokestatic 40, 3) := dcw_184 (by decide +kernel)
theorem dX6_copyFrom_72 : decode cX6_copyFrom 72 = .ok (.aload_n 0, 1) := dc1_42 (by decide +kernel)
theorem dX6_copyFrom_73 : decode cX6_copyFrom 73 = .ok (.aload_n 1, 1) := dc1_43 (by decide +kernel)
theorem dX6_copyFrom_74 : decode cX6_copyFrom 74 = .ok (.getfield 33, 3) := dcw_180 (by decide +kernel)
theorem dX6_copyFrom_77 : decode cX6_copyFrom 77 = .ok (.putfield 33, 3) := dcw_181 (by decide +kernel)
theorem dX6_copyFrom_80 : decode cX6_copyFrom 80 = .ok (.aload_n 0, 1) := dc1_42 (by decide +kernel)
theorem dX6_copyFrom_81 : decode cX6_copyFrom 81 = .ok (.aload_n 1, 1) := dc1_43 (by decide +kernel)
theorem dX6_copyFrom_82 : decode cX6_copyFrom 82 = .ok (.getfield 37, 3) := dcw_180 (by decide +kernel)
theorem dX6_copyFrom_85 : decode cX6_copyFrom 85 = .ok (.putfield 37, 3) := dcw_181 (by decide +kernel)
theorem dX6_copyFrom_88 : decode cX6_copyFrom 88 = .ok (.return_, 1) := dc1_177 (by decide +kernel)
theorem dX7_hasRoomFor_0 : decode cX7_hasRoomFor 0 = .ok (.iload_n 1, 1) := dc1_27 (by decide +kernel)
theorem dX7_hasRoomFor_1 : decode cX7_hasRoomFor 1 = .ok (.aload_n 0, 1) := dc1_42 (by decide +kernel)
theorem dX7_hasRoomFor_2 : decode cX7_hasRoomFor 2 = .ok (.getfield 9, 3) := dcw_180 (by decide +kernel)
theorem dX7_hasRoomFor_5 : decode cX7_hasRoomFor 5 = .ok (.arraylength, 1) := dc1_190 (by decide +kernel)
theorem dX7_hasRoomFor_6 : decode cX7_hasRoomFor 6 = .ok (.aload_n 0, 1) := dc1_42 (by decide +kernel)
theorem dX7_hasRoomFor_7 : decode cX7_hasRoomFor 7 = .ok (.getfield 15, 3) := dcw_180 (by decide +kernel)
theorem dX7_hasRoomFor_10 : decode cX7_hasRoomFor 10 = .ok (.isub, 1) := dc1_100 (by decide +kernel)
theorem dX7_hasRoomFor_11 : decode cX7_hasRoomFor 11 = .ok (.if_icmp .gt 7, 3) := dcs_163 (n := 7) (by decide +kernel)
theorem dX7_hasRoomFor_14 : decode cX7_hasRoomFor 14 = .ok (.iconst 1, 1) := dc1_4 (by decide +kernel)
theorem dX7_hasRoomFor_15 : decode cX7_hasRoomFor 15 = .ok (.goto 4, 3) := dcs_167 (n := 4) (by decide +kernel)
theorem dX7_hasRoomFor_18 : decode cX7_hasRoomFor 18 = .ok (.iconst 0, 1) := dc1_3 (by decide +kernel)
theorem dX7_hasRoomFor_19 : decode cX7_hasRoomFor 19 = .ok (.ireturn, 1) := dc1_172 (by decide +kernel)
theorem dX7_addFour_0 : decode cX7_addFour 0 = .ok (.bipush 24, 2) := dcb_16 (n := 24) (by decide +kernel)
theorem dX7_addFour_2 : decode cX7_addFour 2 = .ok (.istore_n 2, 1) := dc1_61 (by decide +kernel)
theorem dX7_addFour_3 : decode cX7_addFour 3 = .ok (.iload_n 2, 1) := dc1_28 (by decide +kernel)
theorem dX7_addFour_4 : decode cX7_addFour 4 = .ok (.ifCond .lt 44, 3) := dcs_155 (n := 44) (by decide +kernel)
theorem dX7_addFour_7 : decode cX7_addFour 7 = .ok (.aload_n 0, 1) := dc1_42 (by decide +kernel)
theorem dX7_addFour_8 : decode cX7_addFour 8 = .ok (.getfield 15, 3) := dcw_180 (by decide +kernel)
theorem dX7_addFour_11 : decode cX7_addFour 11 = .ok (.aload_n 0, 1) := dc1_42 (by decide +kernel)
theorem dX7_addFour_12 : decode cX7_addFour 12 = .ok (.getfield 9, 3) := dcw_180 (by decide +kernel)
theorem dX7_addFour_15 : decode cX7_addFour 15 = .ok (.arraylength, 1) := dc1_190 (by decide +kernel)
theorem dX7_addFour_16 : decode cX7_addFour 16 = .ok (.if_icmp .ge 26, 3) := dcs_162 (n := 26) (by decide +kernel)
theorem dX7_addFour_19 : decode cX7_addFour 19 = .ok (.aload_n 0, 1) := dc1_42 (by decide +kernel)
theorem dX7_addFour_20 : decode cX7_addFour 20 = .ok (.getfield 9, 3) := dcw_180 (by decide +kernel)
theorem dX7_addFour_23 : decode cX7_addFour 23 = .ok (.aload_n 0, 1) := dc1_42 (by decide +kernel)
theorem dX7_addFour_24 : decode cX7_addFour 24 = .ok (.getfield 15, 3) := dcw_180 (by decide +kernel)
theorem dX7_addFour_27 : decode cX7_addFour 27 = .ok (.iload_n 1, 1) := dc1_27 (by decide +kernel)
theorem dX7_addFour_28 : decode cX7_addFour 28 = .ok (.iload_n 2, 1) := dc1_28 (by decide +kernel)
theorem dX7_addFour_29 : decode cX7_addFour 29 = .ok (.iushr, 1) := dc1_124 (by decide +kernel)
theorem dX7_addFour_30 : decode cX7_addFour 30 = .ok (.i2b, 1) := dc1_145 (by decide +kernel)
theorem dX7_addFour_31 : decode cX7_addFour 31 = .ok (.bastore, 1) := dc1_84 (by decide +kernel)
theorem dX7_addFour_32 : decode cX7_addFour 32 = .ok (.aload_n 0, 1) := dc1_42 (by decide +kernel)
theorem dX7_addFour_33 : decode cX7_addFour 33 = .ok (.dup, 1) := dc1_89 (by decide +kernel)
theorem dX7_addFour_34 : decode cX7_addFour 34 = .ok (.getfield 15, 3) := dcw_180 (by decide +kernel)
theorem dX7_addFour_37 : decode cX7_addFour 37 = .ok (.iconst 1, 1) := dc1_4 (by decide +kernel)
theorem dX7_addFour_38 : decode cX7_addFour 38 = .ok (.iadd, 1) := dc1_96 (by decide +kernel)
theorem dX7_addFour_39 : decode cX7_addFour 39 = .ok (.putfield 15, 3) := dcw_181 (by decide +kernel)
theorem dX7_addFour_42 : decode cX7_addFour 42 = .ok (.iinc 2 (-8), 3) := dc_iinc (m := 248) (by decide +kernel)
theorem dX7_addFour_45 : decode cX7_addFour 45 = .ok (.goto (-42), 3) := dcs_167 (n := 65494) (by decide +kernel)
theorem dX7_addFour_48 : decode cX7_addFour 48 = .ok (.return_, 1) := dc1_177 (by decide +kernel)
theorem dX7_byteAt_0 : decode cX7_byteAt 0 = .ok (.iload_n 1, 1) := dc1_27 (by decide +kernel)
theorem dX7_byteAt_1 : decode cX7_byteAt 1 = .ok (.ifCond .lt 24, 3) := dcs_155 (n := 24) (by decide +kernel)
theorem dX7_byteAt_4 : decode cX7_byteAt 4 = .ok (.iload_n 1, 1) := dc1_27 (by decide +kernel)
theorem dX7_byteAt_5 : decode cX7_byteAt 5 = .ok (.aload_n 0, 1) := dc1_42 (by decide +kernel)
theorem dX7_byteAt_6 : decode cX7_byteAt 6 = .ok (.getfield 15, 3) := dcw_180 (by decide +kernel)
theorem dX7_byteAt_9 : decode cX7_byteAt 9 = .ok (.if_icmp .ge 16, 3) := dcs_162 (n := 16) (by decide +kernel)
theorem dX7_byteAt_12 : decode cX7_byteAt 12 = .ok (.aload_n 0, 1) := dc1_42 (by decide +kernel)
theorem dX7_byteAt_13 : decode cX7_byteAt 13 = .ok (.getfield 9, 3) := dcw_180 (by decide +kernel)
theorem dX7_byteAt_16 : decode cX7_byteAt 16 = .ok (.iload_n 1, 1) := dc1_27 (by decide +kernel)
theorem dX7_byteAt_17 : decode cX7_byteAt 17 = .ok (.baload, 1) := dc1_51 (by decide +kernel)
theorem dX7_byteAt_18 : decode cX7_byteAt 18 = .ok (.sipush 255, 3) := dcs_17 (n := 255) (by decide +kernel)
theorem dX7_byteAt_21 : decode cX7_byteAt 21 = .ok (.iand, 1) := dc1_126 (by decide +kernel)
theorem dX7_byteAt_22 : decode cX7_byteAt 22 = .ok (.goto 4, 3) := dcs_167 (n := 4) (by decide +kernel)
theorem dX7_byteAt_25 : decode cX7_byteAt 25 = .ok (.iconst (-1), 1) := dc1_2 (by decide +kernel)
theorem dX7_byteAt_26 : decode cX7_byteAt 26 = .ok (.ireturn, 1) := dc1_172 (by decide +kernel)
theorem dX8_add_0 : decode cX8_add 0 = .ok (.aload_n 0, 1) := dc1_42 (by decide +kernel)
theorem dX8_add_1 : decode cX8_add 1 = .ok (.getfield 35, 3) := dcw_180 (by decide +kernel)
theorem dX8_add_4 : decode cX8_add 4 = .ok (.bipush 20, 2) := dcb_16 (n := 20) (by decide +kernel)
theorem dX8_add_6 : decode cX8_add 6 = .ok (.if_icmp .lt 5, 3) := dcs_161 (n := 5) (by decide +kernel)
theorem dX8_add_9 : decode cX8_add 9 = .ok (.iconst (-1), 1) := dc1_2 (by decide +kernel)
theorem dX8_add_10 : decode cX8_add 10 = .ok (.ireturn, 1) := dc1_172 (by decide +kernel)
theorem dX8_add_11 : decode cX8_add 11 = .ok (.aload_n 0, 1) := dc1_42 (by decide +kernel)
theorem dX8_add_12 : decode cX8_add 12 = .ok (.getfield 9, 3) := dcw_180 (by decide +kernel)
theorem dX8_add_15 : decode cX8_add 15 = .ok (.aload_n 0, 1) := dc1_42 (by decide +kernel)
theorem dX8_add_16 : decode cX8_add 16 = .ok (.getfield 35, 3) := dcw_180 (by decide +kernel)
theorem dX8_add_19 : decode cX8_add 19 = .ok (.iload_n 1, 1) := dc1_27 (by decide +kernel)
theorem dX8_add_20 : decode cX8_add 20 = .ok (.iastore, 1) := dc1_79 (by decide +kernel)
theorem dX8_add_21 : decode cX8_add 21 = .ok (.aload_n 0, 1) := dc1_42 (by decide +kernel)
theorem dX8_add_22 : decode cX8_add 22 = .ok (.getfield 15, 3) := dcw_180 (by decide +kernel)
theorem dX8_add_25 : decode cX8_add 25 = .ok (.aload_n 0, 1) := dc1_42 (by decide +kernel)
theorem dX8_add_26 : decode cX8_add 26 = .ok (.getfield 35, 3) := dcw_180 (by decide +kernel)
theorem dX8_add_29 : decode cX8_add 29 = .ok (.iload_n 2, 1) := dc1_28 (by decide +kernel)
theorem dX8_add_30 : decode cX8_add 30 = .ok (.iastore, 1) := dc1_79 (by decide +kernel)
theorem dX8_add_31 : decode cX8_add 31 = .ok (.aload_n 0, 1) := dc1_42 (by decide +kernel)
theorem dX8_add_32 : decode cX8_add 32 = .ok (.dup, 1) := dc1_89 (by decide +kernel)
theorem dX8_add_33 : decode cX8_add 33 = .ok (.getfield 35, 3) := dcw_180 (by decide +kernel)
theorem dX8_add_36 : decode cX8_add 36 = .ok (.iconst 1, 1) := dc1_4 (by decide +kernel)
theorem dX8_add_37 : decode cX8_add 37 = .ok (.iadd, 1) := dc1_96 (by decide +kernel)
theorem dX8_add_38 : decode cX8_add 38 = .ok (.putfield 35, 3) := dcw_181 (by decide +kernel)
theorem dX8_add_41 : decode cX8_add 41 = .ok (.aload_n 0, 1) := dc1_42 (by decide +kernel)
theorem dX8_add_42 : decode cX8_add 42 = .ok (.getfield 35, 3) := dcw_180 (by decide +kernel)
theorem dX8_add_45 : decode cX8_add 45 = .ok (.iconst 1, 1) := dc1_4 (by decide +kernel)
theorem dX8_add_46 : decode cX8_add 46 = .ok (.isub, 1) := dc1_100 (by decide +kernel)
theorem dX8_add_47 : decode cX8_add 47 = .ok (.ireturn, 1) := dc1_172 (by decide +kernel)
theorem dX8_areSuch_0 : decode cX8_areSuch 0 = .ok (.iload_n 1, 1) := dc1_27 (by decide +kernel)
theorem dX8_areSuch_1 : decode cX8_areSuch 1 = .ok (.ifCond .lt 24, 3) := dcs_155 (n := 24) (by decide +kernel)
theorem dX8_areSuch_4 : decode cX8_areSuch 4 = .ok (.iload_n 1, 1) := dc1_27 (by decide +kernel)
theorem dX8_areSuch_5 : decode cX8_areSuch 5 = .ok (.aload_n 0, 1) := dc1_42 (by decide +kernel)
theorem dX8_areSuch_6 : decode cX8_areSuch 6 = .ok (.getfield 35, 3) := dcw_180 (by decide +kernel)
theorem dX8_areSuch_9 : decode cX8_areSuch 9 = .ok (.if_icmp .gt 16, 3) := dcs_163 (n := 16) (by decide +kernel)
theorem dX8_areSuch_12 : decode cX8_areSuch 12 = .ok (.iload_n 2, 1) := dc1_28 (by decide +kernel)
theorem dX8_areSuch_13 : decode cX8_areSuch 13 = .ok (.ifCond .lt 12, 3) := dcs_155 (n := 12) (by decide +kernel)
theorem dX8_areSuch_16 : decode cX8_areSuch 16 = .ok (.iload_n 2, 1) := dc1_28 (by decide +kernel)
theorem dX8_areSuch_17 : decode cX8_areSuch 17 = .ok (.iconst 3, 1) := dc1_6 (by decide +kernel)
theorem dX8_areSuch_18 : decode cX8_areSuch 18 = .ok (.if_icmp .gt 7, 3) := dcs_163 (n := 7) (by decide +kernel)
theorem dX8_areSuch_21 : decode cX8_areSuch 21 = .ok (.iconst 1, 1) := dc1_4 (by decide +kernel)
theorem dX8_areSuch_22 : decode cX8_areSuch 22 = .ok (.goto 4, 3) := dcs_167 (n := 4) (by decide +kernel)
theorem dX8_areSuch_25 : decode cX8_areSuch 25 = .ok (.iconst 0, 1) := dc1_3 (by decide +kernel)
theorem dX8_areSuch_26 : decode cX8_areSuch 26 = .ok (.ireturn, 1) := dc1_172 (by decide +kernel)
theorem dX8_withWave_0 : decode cX8_withWave 0 = .ok (.iconst 0, 1) := dc1_3 (by decide +kernel)
theorem dX8_withWave_1 : decode cX8_withWave 1 = .ok (.istore 4, 2) := dcu_54 (by decide +kernel)
theorem dX8_withWave_3 : decode cX8_withWave 3 = .ok (.iconst 0, 1) := dc1_3 (by decide +kernel)
theorem dX8_withWave_4 : decode cX8_withWave 4 = .ok (.istore 5, 2) := dcu_54 (by decide +kernel)
theorem dX8_withWave_6 : decode cX8_withWave 6 = .ok (.iload 5, 2) := dcu_21 (by decide +kernel)
theorem dX8_withWave_8 : decode cX8_withWave 8 = .ok (.bipush 6, 2) := dcb_16 (n := 6) (by decide +kernel)
theorem dX8_withWave_10 : decode cX8_withWave 10 = .ok (.if_icmp .ge 74, 3) := dcs_162 (n := 74) (by decide +kernel)
theorem dX8_withWave_13 : decode cX8_withWave 13 = .ok (.iload_n 1, 1) := dc1_27 (by decide +kernel)
theorem dX8_withWave_14 : decode cX8_withWave 14 = .ok (.bipush 6, 2) := dcb_16 (n := 6) (by decide +kernel)
theorem dX8_withWave_16 : decode cX8_withWave 16 = .ok (.imul, 1) := dc1_104 (by decide +kernel)
theorem dX8_withWave_17 : decode cX8_withWave 17 = .ok (.iload 5, 2) := dcu_21 (by decide +kernel)
theorem dX8_withWave_19 : decode cX8_withWave 19 = .ok (.iadd, 1) := dc1_96 (by decide +kernel)
theorem dX8_withWave_20 : decode cX8_withWave 20 = .ok (.istore 6, 2) := dcu_54 (by decide +kernel)
theorem dX8_withWave_22 : decode cX8_withWave 22 = .ok (.aload_n 0, 1) := dc1_42 (by decide +kernel)
theorem dX8_withWave_23 : decode cX8_withWave 23 = .ok (.getfield 18, 3) := dcw_180 (by decide +kernel)
theorem dX8_withWave_26 : decode cX8_withWave 26 = .ok (.iload 6, 2) := dcu_21 (by decide +kernel)
theorem dX8_withWave_28 : decode cX8_withWave 28 = .ok (.iaload, 1) := dc1_46 (by decide +kernel)
theorem dX8_withWave_29 : decode cX8_withWave 29 = .ok (.ifCond .le 49, 3) := dcs_158 (n := 49) (by decide +kernel)
theorem dX8_withWave_32 : decode cX8_withWave 32 = .ok (.aload_n 0, 1) := dc1_42 (by decide +kernel)
theorem dX8_withWave_33 : decode cX8_withWave 33 = .ok (.getfield 21, 3) := dcw_180 (by decide +kernel)
theorem dX8_withWave_36 : decode cX8_withWave 36 = .ok (.iload 6, 2) := dcu_21 (by decide +kernel)
theorem dX8_withWave_38 : decode cX8_withWave 38 = .ok (.iaload, 1) := dc1_46 (by decide +kernel)
theorem dX8_withWave_39 : decode cX8_withWave 39 = .ok (.iload_n 2, 1) := dc1_28 (by decide +kernel)
theorem dX8_withWave_40 : decode cX8_withWave 40 = .ok (.if_icmp .gt 38, 3) := dcs_163 (n := 38) (by decide +kernel)
theorem dX8_withWave_43 : decode cX8_withWave 43 = .ok (.iload 4, 2) := dcu_21 (by decide +kernel)
theorem dX8_withWave_45 : decode cX8_withWave 45 = .ok (.aload_n 0, 1) := dc1_42 (by decide +kernel)
theorem dX8_withWave_46 : decode cX8_withWave 46 = .ok (.getfield 24, 3) := dcw_180 (by decide +kernel)
theorem dX8_withWave_49 : decode cX8_withWave 49 = .ok (.iload_n 2, 1) := dc1_28 (by decide +kernel)
theorem dX8_withWave_50 : decode cX8_withWave 50 = .ok (.aload_n 0, 1) := dc1_42 (by decide +kernel)
theorem dX8_withWave_51 : decode cX8_withWave 51 = .ok (.getfield 21, 3) := dcw_180 (by decide +kernel)
theorem dX8_withWave_54 : decode cX8_withWave 54 = .ok (.iload 6, 2) := dcu_21 (by decide +kernel)
theorem dX8_withWave_56 : decode cX8_withWave 56 = .ok (.iaload, 1) := dc1_46 (by decide +kernel)
theorem dX8_withWave_57 : decode cX8_withWave 57 = .ok (.isub, 1) := dc1_100 (by decide +kernel)
theorem dX8_withWave_58 : decode cX8_withWave 58 = .ok (.iaload, 1) := dc1_46 (by decide +kernel)
theorem dX8_withWave_59 : decode cX8_withWave 59 = .ok (.iload_n 3, 1) := dc1_29 (by decide +kernel)
theorem dX8_withWave_60 : decode cX8_withWave 60 = .ok (.ifCond .eq 13, 3) := dcs_153 (n := 13) (by decide +kernel)
theorem dX8_withWave_63 : decode cX8_withWave 63 = .ok (.aload_n 0, 1) := dc1_42 (by decide +kernel)
theorem dX8_withWave_64 : decode cX8_withWave 64 = .ok (.getfield 18, 3) := dcw_180 (by decide +kernel)
theorem dX8_withWave_67 : decode cX8_withWave 67 = .ok (.iload 6, 2) := dcu_21 (by decide +kernel)
theorem dX8_withWave_69 : decode cX8_withWave 69 = .ok (.iaload, 1) := dc1_46 (by decide +kernel)
theorem dX8_withWave_70 : decode cX8_withWave 70 = .ok (.goto 4, 3) := dcs_167 (n := 4) (by decide +kernel)
theorem dX8_withWave_73 : decode cX8_withWave 73 = .ok (.iconst 1, 1) := dc1_4 (by decide +kernel)
theorem dX8_withWave_74 : decode cX8_withWave 74 = .ok (.imul, 1) := dc1_104 (by decide +kernel)
theorem dX8_withWave_75 : decode cX8_withWave 75 = .ok (.iadd, 1) := dc1_96 (by decide +kernel)
theorem dX8_withWave_76 : decode cX8_withWave 76 = .ok (.istore 4, 2) := dcu_54 (by decide +kernel)
theorem dX8_withWave_78 : decode cX8_withWave 78 = .ok (.iinc 5 1, 3) := dc_iinc (m := 1) (by decide +kernel)
theorem dX8_withWave_81 : decode cX8_withWave 81 = .ok (.goto (-75), 3) := dcs_167 (n := 65461) (by decide +kernel)
theorem dX8_withWave_84 : decode cX8_withWave 84 = .ok (.iload 4, 2) := dcu_21 (by decide +kernel)
theorem dX8_withWave_86 : decode cX8_withWave 86 = .ok (.ireturn, 1) := dc1_172 (by decide +kernel)
theorem dX8_upTo_0 : decode cX8_upTo 0 = .ok (.iconst 0, 1) := dc1_3 (by decide +kernel)
theorem dX8_upTo_1 : decode cX8_upTo 1 = .ok (.istore_n 2, 1) := dc1_61 (by decide +kernel)
theorem dX8_upTo_2 : decode cX8_upTo 2 = .ok (.iconst 0, 1) := dc1_3 (by decide +kernel)
theorem dX8_upTo_3 : decode cX8_upTo 3 = .ok (.istore_n 3, 1) := dc1_62 (by decide +kernel)
theorem dX8_upTo_4 : decode cX8_upTo 4 = .ok (.iload_n 3, 1) := dc1_29 (by decide +kernel)
theorem dX8_upTo_5 : decode cX8_upTo 5 = .ok (.iload_n 1, 1) := dc1_27 (by decide +kernel)
theorem dX8_upTo_6 : decode cX8_upTo 6 = .ok (.if_icmp .gt 23, 3) := dcs_163 (n := 23) (by decide +kernel)
theorem dX8_upTo_9 : decode cX8_upTo 9 = .ok (.iload_n 3, 1) := dc1_29 (by decide +kernel)
theorem dX8_upTo_10 : decode cX8_upTo 10 = .ok (.iconst 3, 1) := dc1_6 (by decide +kernel)
theorem dX8_upTo_11 : decode cX8_upTo 11 = .ok (.if_icmp .gt 18, 3) := dcs_163 (n := 18) (by decide +kernel)
theorem dX8_upTo_14 : decode cX8_upTo 14 = .ok (.iload_n 2, 1) := dc1_28 (by decide +kernel)
theorem dX8_upTo_15 : decode cX8_upTo 15 = .ok (.aload_n 0, 1) := dc1_42 (by decide +kernel)
theorem dX8_upTo_16 : decode cX8_upTo 16 = .ok (.getfield 24, 3) := dcw_180 (by decide +kernel)
theorem dX8_upTo_19 : decode cX8_upTo 19 = .ok (.iload_n 3, 1) := dc1_29 (by decide +kernel)
theorem dX8_upTo_20 : decode cX8_upTo 20 = .ok (.iaload, 1) := dc1_46 (by decide +kernel)
theorem dX8_upTo_21 : decode cX8_upTo 21 = .ok (.iadd, 1) := dc1_96 (by decide +kernel)
theorem dX8_upTo_22 : decode cX8_upTo 22 = .ok (.istore_n 2, 1) := dc1_61 (by decide +kernel)
theorem dX8_upTo_23 : decode cX8_upTo 23 = .ok (.iinc 3 1, 3) := dc_iinc (m := 1) (by decide +kernel)
theorem dX8_upTo_26 : decode cX8_upTo 26 = .ok (.goto (-22), 3) := dcs_167 (n := 65514) (by decide +kernel)
theorem dX8_upTo_29 : decode cX8_upTo 29 = .ok (.iload_n 2, 1) := dc1_28 (by decide +kernel)
theorem dX8_upTo_30 : decode cX8_upTo 30 = .ok (.ireturn, 1) := dc1_172 (by decide +kernel)
theorem ggX8_fittingWith_X8_upTo : GoodIn wsX8_fittingWith wsX8_upTo := gi_sub (fun w h => List.mem_cons_of_mem _ (List.mem_append_left _ (List.mem_append_right _ h))) gd_wsX8_upTo
set_option maxRecDepth 20000 in
theorem gX8_fittingWith_X8_upTo : GoodIn wsX8_fittingWith (wsV RX8 76 RX8 yX8_upTo wsX8_upTo) := goodIn_app (goodIn_r _ [3, 4, 5, 6] (by decide +kernel) (by decide +kernel)) ggX8_fittingWith_X8_upTo
theorem dX8_fittingWith_0 : decode cX8_fittingWith 0 = .ok (.iload_n 1, 1) := dc1_27 (by decide +kernel)
theorem dX8_fittingWith_1 : decode cX8_fittingWith 1 = .ok (.bipush 6, 2) := dcb_16 (n := 6) (by decide +kernel)
theorem dX8_fittingWith_3 : decode cX8_fittingWith 3 = .ok (.imul, 1) := dc1_104 (by decide +kernel)
theorem dX8_fittingWith_4 : decode cX8_fittingWith 4 = .ok (.iload_n 2, 1) := dc1_28 (by decide +kernel)
theorem dX8_fittingWith_5 : decode cX8_fittingWith 5 = .ok (.iadd, 1) := dc1_96 (by decide +kernel)
theorem dX8_fittingWith_6 : decode cX8_fittingWith 6 = .ok (.istore 4, 2) := dcu_54 (by decide +kernel)
theorem dX8_fittingWith_8 : decode cX8_fittingWith 8 = .ok (.aload_n 0, 1) := dc1_42 (by decide +kernel)
theorem dX8_fittingWith_9 : decode cX8_fittingWith 9 = .ok (.getfield 18, 3) := dcw_180 (by decide +kernel)
theorem dX8_fittingWith_12 : decode cX8_fittingWith 12 = .ok (.iload 4, 2) := dcu_21 (by decide +kernel)
theorem dX8_fittingWith_14 : decode cX8_fittingWith 14 = .ok (.iaload, 1) := dc1_46 (by decide +kernel)
theorem dX8_fittingWith_15 : decode cX8_fittingWith 15 = .ok (.ifCond .le 19, 3) := dcs_158 (n := 19) (by decide +kernel)
theorem dX8_fittingWith_18 : decode cX8_fittingWith 18 = .ok (.aload_n 0, 1) := dc1_42 (by decide +kernel)
theorem dX8_fittingWith_19 : decode cX8_fittingWith 19 = .ok (.iload_n 3, 1) := dc1_29 (by decide +kernel)
theorem dX8_fittingWith_20 : decode cX8_fittingWith 20 = .ok (.aload_n 0, 1) := dc1_42 (by decide +kernel)
theorem dX8_fittingWith_21 : decode cX8_fittingWith 21 = .ok (.getfield 21, 3) := dcw_180 (by decide +kernel)
theorem dX8_fittingWith_24 : decode cX8_fittingWith 24 = .ok (.iload 4, 2) := dcu_21 (by decide +kernel)
theorem dX8_fittingWith_26 : decode cX8_fittingWith 26 = .ok (.iaload, 1) := dc1_46 (by decide +kernel)
theorem dX8_fittingWith_27 : decode cX8_fittingWith 27 = .ok (.isub, 1) := dc1_100 (by decide +kernel)
theorem dX8_fittingWith_28 : decode cX8_fittingWith 28 = .ok (.invokevirtual 76, 3) := dcw_182 (by decide +kernel)
theorem dX8_fittingWith_31 : decode cX8_fittingWith 31 = .ok (.goto 4, 3) := dcs_167 (n := 4) (by decide +kernel)
theorem dX8_fittingWith_34 : decode cX8_fittingWith 34 = .ok (.iconst 0, 1) := dc1_3 (by decide +kernel)
theorem dX8_fittingWith_35 : decode cX8_fittingWith 35 = .ok (.ireturn, 1) := dc1_172 (by decide +kernel)
theorem dX9_isBlank_0 : decode cX9_isBlank 0 = .ok (.iload_n 0, 1) := dc1_26 (by decide +kernel)
theorem dX9_isBlank_1 : decode cX9_isBlank 1 = .ok (.bipush 9, 2) := dcb_16 (n := 9) (by decide +kernel)
theorem dX9_isBlank_3 : decode cX9_isBlank 3 = .ok (.if_icmp .eq 21, 3) := dcs_159 (n := 21) (by decide +kernel)
theorem dX9_isBlank_6 : decode cX9_isBlank 6 = .ok (.iload_n 0, 1) := dc1_26 (by decide +kernel)
theorem dX9_isBlank_7 : decode cX9_isBlank 7 = .ok (.bipush 10, 2) := dcb_16 (n := 10) (by decide +kernel)
theorem dX9_isBlank_9 : decode cX9_isBlank 9 = .ok (.if_icmp .eq 15, 3) := dcs_159 (n := 15) (by decide +kernel)
theorem dX9_isBlank_12 : decode cX9_isBlank 12 = .ok (.iload_n 0, 1) := dc1_26 (by decide +kernel)
theorem dX9_isBlank_13 : decode cX9_isBlank 13 = .ok (.bipush 13, 2) := dcb_16 (n := 13) (by decide +kernel)
theorem dX9_isBlank_15 : decode cX9_isBlank 15 = .ok (.if_icmp .eq 9, 3) := dcs_159 (n := 9) (by decide +kernel)
theorem dX9_isBlank_18 : decode cX9_isBlank 18 = .ok (.iload_n 0, 1) := dc1_26 (by decide +kernel)
theorem dX9_isBlank_19 : decode cX9_isBlank 19 = .ok (.bipush 32, 2) := dcb_16 (n := 32) (by decide +kernel)
theorem dX9_isBlank_21 : decode cX9_isBlank 21 = .ok (.if_icmp .ne 7, 3) := dcs_160 (n := 7) (by decide +kernel)
theorem dX9_isBlank_24 : decode cX9_isBlank 24 = .ok (.iconst 1, 1) := dc1_4 (by decide +kernel)
theorem dX9_isBlank_25 : decode cX9_isBlank 25 = .ok (.goto 4, 3) := dcs_167 (n := 4) (by decide +kernel)
theorem dX9_isBlank_28 : decode cX9_isBlank 28 = .ok (.iconst 0, 1) := dc1_3 (by decide +kernel)
theorem dX9_isBlank_29 : decode cX9_isBlank 29 = .ok (.ireturn, 1) := dc1_172 (by decide +kernel)
set_option maxHeartbeats 4000000 in
set_option maxRecDepth 100000 in
theorem bkX5_oddsAt_d {l : Launch} {dC : Nat → ClassId} {dI : Nat → Nat → Nat} {cB cI cJ cZ cS : ClassId} {a : Nat → Nat} {as : List Value} {r : Int32} {s' : KS} (s : KS) (x1 : Int32) (x2 : Int32) (hB : kX5_oddsAt_d s x1 x2 = some (r, s')) : BlkI l yX5_oddsAt wsX5_oddsAt ({ frames := 0, cells := 0, slots := 0, locals := 0 }) cX5_oddsAt 3 (some .int) (dC, dI) (tysA cB cI cJ cZ cS) as 0 (wK cB cI cJ cZ cS a s) [(0, .ref (a 15)), (1, .int x1), (2, .int x2)] [] (fun x u => x = r ∧ u = (wK cB cI cJ cZ cS a s')) := by
  intro p e s0 m below meth c A E H locs ls hP hD hS hl
  obtain ⟨C, hr, hlocks, hA, hK, hN⟩ := id E
  obtain ⟨hx, hb, hml, hown, hts⟩ := id C
  unfold kX5_oddsAt_d at hB
  refine lv_aload_n hx hb dX5_oddsAt_0 rfl (lv_at hl 0 rfl) ?_
  refine q_get (v := .ref (a 16)) C inX5_oddsAt_X5 hK hP 15 rfl rfl 0 (by decide) rfl LX5_oddsAt_9 rfl dX5_oddsAt_1 ?_
  refine lv_iload_n hx hb dX5_oddsAt_4 rfl (lv_at hl 1 rfl) ?_
  refine lv_bipush (v := 6) hx hb dX5_oddsAt_5 (by decide) ?_
  refine lv_imul hx hb dX5_oddsAt_7 ?_
  refine lv_iload_n hx hb dX5_oddsAt_8 rfl (lv_at hl 2 rfl) ?_
  refine lv_iadd hx hb dX5_oddsAt_9 ?_
  obtain ⟨g1, hB⟩ := guard_inv hB
  refine q_iald (x := ((s.f 16) (Int32.toNatClampNeg ((x1 * 6) + x2)))) C hK hP 16 1 rfl rfl (vpb_in g1) dX5_oddsAt_10 rfl ?_
  exact q_iret C hr hlocks hK hP hD hS (Nat.le_of_ble_eq_true rfl) (Nat.le_of_ble_eq_true rfl) dX5_oddsAt_11 (by cases hB; exact ⟨rfl, rfl⟩)
theorem ckX5_oddsAt_d {l : Launch} {dC : Nat → ClassId} {dI : Nat → Nat → Nat} {cB cI cJ cZ cS : ClassId} {a : Nat → Nat} {r : Int32} {s' : KS} {s : KS} {x1 : Int32} {x2 : Int32} (hB : kX5_oddsAt_d s x1 x2 = some (r, s')) : CI l yX5_oddsAt wsX5_oddsAt ({ frames := 0, cells := 0, slots := 0, locals := 0 }) (dC, dI) (tysA cB cI cJ cZ cS) (wK cB cI cJ cZ cS a s) [.ref (a 15), .int x1, .int x2] (fun x u => x = r ∧ u = (wK cB cI cJ cZ cS a s')) :=
  CI_of (cc := cX5_oddsAt) (maxL := 3) (ret := (some .int)) (by decide) rfl (Nat.le_of_ble_eq_true rfl) (bkX5_oddsAt_d _ _ _ hB)
theorem LX6_copyFrom_15 : Cond.fieldLink RX6 15 "GuessFerry$Standing" "buoys" "[I" ∈ wsX6_copyFrom := by decide +kernel
theorem LX6_copyFrom_18 : Cond.fieldLink RX6 18 "GuessFerry$Standing" "shifted" "[I" ∈ wsX6_copyFrom := by decide +kernel
theorem LX6_copyFrom_21 : Cond.fieldLink RX6 21 "GuessFerry$Standing" "status" "[I" ∈ wsX6_copyFrom := by decide +kernel
theorem LX6_copyFrom_24 : Cond.fieldLink RX6 24 "GuessFerry$Standing" "goes" "[I" ∈ wsX6_copyFrom := by decide +kernel
theorem LX6_copyFrom_33 : Cond.fieldLink RX6 33 "GuessFerry$Standing" "year" "I" ∈ wsX6_copyFrom := by decide +kernel
theorem LX6_copyFrom_37 : Cond.fieldLink RX6 37 "GuessFerry$Standing" "paid" "I" ∈ wsX6_copyFrom := by decide +kernel
theorem LX6_copyFrom_9 : Cond.fieldLink RX6 9 "GuessFerry$Standing" "found" "[I" ∈ wsX6_copyFrom := by decide +kernel
theorem LX6_copyFrom_A40 : Cond.methodLink RX6 40 arraycopyName ∈ wsX6_copyFrom := by decide +kernel
theorem LX6_copyFrom_AI : Cond.initialized "java/lang/System" ∈ wsX6_copyFrom := by decide +kernel
theorem LX6_copyFrom_AN : Cond.native arraycopyName ∈ wsX6_copyFrom := by decide +kernel
theorem LX6_copyFrom_AS : Cond.static arraycopyName ∈ wsX6_copyFrom := by decide +kernel
theorem inX6_copyFrom_X6 : ∀ w ∈ u_ws RX6 TX6 7, w ∈ wsX6_copyFrom := fun _ h => List.mem_cons_of_mem _ (List.mem_append_right _ h)
set_option maxHeartbeats 4000000 in
set_option maxRecDepth 100000 in
theorem bkX6_copyFrom {l : Launch} {dC : Nat → ClassId} {dI : Nat → Nat → Nat} {cB cI cJ cZ cS : ClassId} {b b2 : Nat → Nat} {as : List Value} {s' : DS} (s : DS) (hB : kX6_copyFrom s = some s') : BlkV l yX6_copyFrom wsX6_copyFrom ({ frames := 1, cells := 0, slots := 0, locals := 64 }) cX6_copyFrom 2 none (dC, dI) (tysA cB cI cJ cZ cS) as 0 (wDD cI b b2 s) [(0, .ref (b 0)), (1, .ref (b2 0))] [] (fun u => u = (wDD cI b b2 s')) := by
  intro p e s0 m below meth c A E H locs ls hP hD hS hl
  obtain ⟨C, hr, hlocks, hA, hK, hN⟩ := id E
  obtain ⟨hx, hb, hml, hown, hts⟩ := id C
  unfold kX6_copyFrom at hB
  refine lv_aload_n hx hb dX6_copyFrom_0 rfl (lv_at hl 1 rfl) ?_
  refine q_get (v := .ref (b2 1)) C inX6_copyFrom_X6 hK hP 0 rfl rfl 0 (by decide) rfl LX6_copyFrom_9 rfl dX6_copyFrom_1 ?_
  refine lv_iconst (v := 0) hx hb dX6_copyFrom_4 (by decide) ?_
  refine lv_aload_n hx hb dX6_copyFrom_5 rfl (lv_at hl 0 rfl) ?_
  refine q_get (v := .ref (b 1)) C inX6_copyFrom_X6 hK hP 6 rfl rfl 0 (by decide) rfl LX6_copyFrom_9 rfl dX6_copyFrom_6 ?_
  refine lv_iconst (v := 0) hx hb dX6_copyFrom_9 (by decide) ?_
  refine lv_iconst (v := 5) hx hb dX6_copyFrom_10 (by decide) ?_
  obtain ⟨s1, hs2, hB⟩ := letS_inv hB
  refine va_copyi hx hb (hml.trans hl.1.symm) hown (hts _ LX6_copyFrom_A40) (hts _ LX6_copyFrom_AN) (hts _ LX6_copyFrom_AS) (hts _ LX6_copyFrom_AI) hK hP hD hS 1 7 1 1 rfl rfl rfl rfl rfl (by decide +kernel) (by decide +kernel) (by decide +kernel) (by decide +kernel) (by decide +kernel) (fun _ _ => rfl) (Nat.le_of_ble_eq_true rfl) (by decide +kernel) dX6_copyFrom_11 (fun H locs hP hD hS => ?_)
  have hP : va_P (dC, dI) vwCl (wDD cI b b2 s1) H := by subst hs2; exact hP
  have hD : va_D A (wDD cI b b2 s1) := by subst hs2; exact hD
  refine lv_aload_n hx hb dX6_copyFrom_14 rfl (lv_at hl 1 rfl) ?_
  refine q_get (v := .ref (b2 2)) C inX6_copyFrom_X6 hK hP 0 rfl rfl 1 (by decide) rfl LX6_copyFrom_15 rfl dX6_copyFrom_15 ?_
  refine lv_iconst (v := 0) hx hb dX6_copyFrom_18 (by decide) ?_
  refine lv_aload_n hx hb dX6_copyFrom_19 rfl (lv_at hl 0 rfl) ?_
  refine q_get (v := .ref (b 2)) C inX6_copyFrom_X6 hK hP 6 rfl rfl 1 (by decide) rfl LX6_copyFrom_15 rfl dX6_copyFrom_20 ?_
  refine lv_iconst (v := 0) hx hb dX6_copyFrom_23 (by decide) ?_
  refine lv_iconst (v := 5) hx hb dX6_copyFrom_24 (by decide) ?_
  obtain ⟨s3, hs4, hB⟩ := letS_inv hB
  refine va_copyi hx hb (hml.trans hl.1.symm) hown (hts _ LX6_copyFrom_A40) (hts _ LX6_copyFrom_AN) (hts _ LX6_copyFrom_AS) (hts _ LX6_copyFrom_AI) hK hP hD hS 2 8 1 1 rfl rfl rfl rfl rfl (by decide +kernel) (by decide +kernel) (by decide +kernel) (by decide +kernel) (by decide +kernel) (fun _ _ => rfl) (Nat.le_of_ble_eq_true rfl) (by decide +kernel) dX6_copyFrom_25 (fun H locs hP hD hS => ?_)
  have hP : va_P (dC, dI) vwCl (wDD cI b b2 s3) H := by subst hs4; exact hP
  have hD : va_D A (wDD cI b b2 s3) := by subst hs4; exact hD
  refine lv_aload_n hx hb dX6_copyFrom_28 rfl (lv_at hl 1 rfl) ?_
  refine q_get (v := .ref (b2 3)) C inX6_copyFrom_X6 hK hP 0 rfl rfl 2 (by decide) rfl LX6_copyFrom_18 rfl dX6_copyFrom_29 ?_
  refine lv_iconst (v := 0) hx hb dX6_copyFrom_32 (by decide) ?_
  refine lv_aload_n hx hb dX6_copyFrom_33 rfl (lv_at hl 0 rfl) ?_
  refine q_get (v := .ref (b 3)) C inX6_copyFrom_X6 hK hP 6 rfl rfl 2 (by decide) rfl LX6_copyFrom_18 rfl dX6_copyFrom_34 ?_
  refine lv_iconst (v := 0) hx hb dX6_copyFrom_37 (by decide) ?_
  refine lv_iconst (v := 5) hx hb dX6_copyFrom_38 (by decide) ?_
  obtain ⟨s5, hs6, hB⟩ := letS_inv hB
  refine va_copyi hx hb (hml.trans hl.1.symm) hown (hts _ LX6_copyFrom_A40) (hts _ LX6_copyFrom_AN) (hts _ LX6_copyFrom_AS) (hts _ LX6_copyFrom_AI) hK hP hD hS 3 9 1 1 rfl rfl rfl rfl rfl (by decide +kernel) (by decide +kernel) (by decide +kernel) (by decide +kernel) (by decide +kernel) (fun _ _ => rfl) (Nat.le_of_ble_eq_true rfl) (by decide +kernel) dX6_copyFrom_39 (fun H locs hP hD hS => ?_)
  have hP : va_P (dC, dI) vwCl (wDD cI b b2 s5) H := by subst hs6; exact hP
  have hD : va_D A (wDD cI b b2 s5) := by subst hs6; exact hD
  refine lv_aload_n hx hb dX6_copyFrom_42 rfl (lv_at hl 1 rfl) ?_
  refine q_get (v := .ref (b2 4)) C inX6_copyFrom_X6 hK hP 0 rfl rfl 3 (by decide) rfl LX6_copyFrom_21 rfl dX6_copyFrom_43 ?_
  refine lv_iconst (v := 0) hx hb dX6_copyFrom_46 (by decide) ?_
  refine lv_aload_n hx hb dX6_copyFrom_47 rfl (lv_at hl 0 rfl) ?_
  refine q_get (v := .ref (b 4)) C inX6_copyFrom_X6 hK hP 6 rfl rfl 3 (by decide) rfl LX6_copyFrom_21 rfl dX6_copyFrom_48 ?_
  refine lv_iconst (v := 0) hx hb dX6_copyFrom_51 (by decide) ?_
  refine lv_bipush (v := 6) hx hb dX6_copyFrom_52 (by decide) ?_
  obtain ⟨s7, hs8, hB⟩ := letS_inv hB
  refine va_copyi hx hb (hml.trans hl.1.symm) hown (hts _ LX6_copyFrom_A40) (hts _ LX6_copyFrom_AN) (hts _ LX6_copyFrom_AS) (hts _ LX6_copyFrom_AI) hK hP hD hS 4 10 1 1 rfl rfl rfl rfl rfl (by decide +kernel) (by decide +kernel) (by decide +kernel) (by decide +kernel) (by decide +kernel) (fun _ _ => rfl) (Nat.le_of_ble_eq_true rfl) (by decide +kernel) dX6_copyFrom_54 (fun H locs hP hD hS => ?_)
  have hP : va_P (dC, dI) vwCl (wDD cI b b2 s7) H := by subst hs8; exact hP
  have hD : va_D A (wDD cI b b2 s7) := by subst hs8; exact hD
  refine lv_aload_n hx hb dX6_copyFrom_57 rfl (lv_at hl 1 rfl) ?_
  refine q_get (v := .ref (b2 5)) C inX6_copyFrom_X6 hK hP 0 rfl rfl 4 (by decide) rfl LX6_copyFrom_24 rfl dX6_copyFrom_58 ?_
  refine lv_iconst (v := 0) hx hb dX6_copyFrom_61 (by decide) ?_
  refine lv_aload_n hx hb dX6_copyFrom_62 rfl (lv_at hl 0 rfl) ?_
  refine q_get (v := .ref (b 5)) C inX6_copyFrom_X6 hK hP 6 rfl rfl 4 (by decide) rfl LX6_copyFrom_24 rfl dX6_copyFrom_63 ?_
  refine lv_iconst (v := 0) hx hb dX6_copyFrom_66 (by decide) ?_
  refine lv_bipush (v := 6) hx hb dX6_copyFrom_67 (by decide) ?_
  obtain ⟨s9, hs10, hB⟩ := letS_inv hB
  refine va_copyi hx hb (hml.trans hl.1.symm) hown (hts _ LX6_copyFrom_A40) (hts _ LX6_copyFrom_AN) (hts _ LX6_copyFrom_AS) (hts _ LX6_copyFrom_AI) hK hP hD hS 5 11 1 1 rfl rfl rfl rfl rfl (by decide +kernel) (by decide +kernel) (by decide +kernel) (by decide +kernel) (by decide +kernel) (fun _ _ => rfl) (Nat.le_of_ble_eq_true rfl) (by decide +kernel) dX6_copyFrom_69 (fun H locs hP hD hS => ?_)
  have hP : va_P (dC, dI) vwCl (wDD cI b b2 s9) H := by subst hs10; exact hP
  have hD : va_D A (wDD cI b b2 s9) := by subst hs10; exact hD
  refine lv_aload_n hx hb dX6_copyFrom_72 rfl (lv_at hl 0 rfl) ?_
  refine lv_aload_n hx hb dX6_copyFrom_73 rfl (lv_at hl 1 rfl) ?_
  refine q_get (v := .int (s9.e.v 5)) C inX6_copyFrom_X6 hK hP 0 rfl rfl 5 (by decide) rfl LX6_copyFrom_33 rfl dX6_copyFrom_74 ?_
  obtain ⟨s11, hs12, hB⟩ := letS_inv hB
  refine q_put (ty := .int) (w2 := (wDD cI b b2 s11)) tyX6 tyX6_ok nmX6 C inX6_copyFrom_X6 hK hP hD hS 6 rfl rfl 5 (by decide) rfl LX6_copyFrom_33 rfl (by decide +kernel) (rfl) rfl (Nat.le_of_ble_eq_true rfl) dX6_copyFrom_77 (by subst hs12; rfl) (fun H locs hP hD hS => ?_)
  refine lv_aload_n hx hb dX6_copyFrom_80 rfl (lv_at hl 0 rfl) ?_
  refine lv_aload_n hx hb dX6_copyFrom_81 rfl (lv_at hl 1 rfl) ?_
  refine q_get (v := .int (s11.e.v 6)) C inX6_copyFrom_X6 hK hP 0 rfl rfl 6 (by decide) rfl LX6_copyFrom_37 rfl dX6_copyFrom_82 ?_
  obtain ⟨s13, hs14, hB⟩ := letS_inv hB
  refine q_put (ty := .int) (w2 := (wDD cI b b2 s13)) tyX6 tyX6_ok nmX6 C inX6_copyFrom_X6 hK hP hD hS 6 rfl rfl 6 (by decide) rfl LX6_copyFrom_37 rfl (by decide +kernel) (rfl) rfl (Nat.le_of_ble_eq_true rfl) dX6_copyFrom_85 (by subst hs14; rfl) (fun H locs hP hD hS => ?_)
  exact q_vret C hr hlocks hK hP hD hS (Nat.le_of_ble_eq_true rfl) (Nat.le_of_ble_eq_true rfl) dX6_copyFrom_88 (by cases hB; rfl)
theorem ckX6_copyFrom {l : Launch} {dC : Nat → ClassId} {dI : Nat → Nat → Nat} {cB cI cJ cZ cS : ClassId} {b b2 : Nat → Nat} {s' : DS} {s : DS} (hB : kX6_copyFrom s = some s') : CV l yX6_copyFrom wsX6_copyFrom ({ frames := 1, cells := 0, slots := 0, locals := 64 }) (dC, dI) (tysA cB cI cJ cZ cS) (wDD cI b b2 s) [.ref (b 0), .ref (b2 0)] (fun u => u = (wDD cI b b2 s')) :=
  CV_of (cc := cX6_copyFrom) (maxL := 2) (ret := none) (by decide) rfl (Nat.le_of_ble_eq_true rfl) (bkX6_copyFrom _ hB)
theorem LX7_hasRoomFor_15 : Cond.fieldLink RX7 15 "GuessFerry$Tape" "length" "I" ∈ wsX7_hasRoomFor := by decide +kernel
theorem LX7_hasRoomFor_9 : Cond.fieldLink RX7 9 "GuessFerry$Tape" "bytes" "[B" ∈ wsX7_hasRoomFor := by decide +kernel
theorem inX7_hasRoomFor_X7 : ∀ w ∈ u_ws RX7 TX7 2, w ∈ wsX7_hasRoomFor := fun _ h => List.mem_cons_of_mem _ (List.mem_append_right _ h)
set_option maxHeartbeats 4000000 in
set_option maxRecDepth 100000 in
theorem bkX7_hasRoomFor {l : Launch} {dC : Nat → ClassId} {dI : Nat → Nat → Nat} {cB cI cJ cZ cS : ClassId} {a : Nat → Nat} {as : List Value} {r : Int32} {s' : KS} (s : KS) (x1 : Int32) (hB : kX7_hasRoomFor s x1 = some (r, s')) : BlkI l yX7_hasRoomFor wsX7_hasRoomFor ({ frames := 0, cells := 0, slots := 0, locals := 0 }) cX7_hasRoomFor 2 (some .boolean) (dC, dI) (tysA cB cI cJ cZ cS) as 0 (wK cB cI cJ cZ cS a s) [(0, .ref (a 0)), (1, .int x1)] [] (fun x u => x = r ∧ u = (wK cB cI cJ cZ cS a s')) := by
  intro p e s0 m below meth c A E H locs ls hP hD hS hl
  obtain ⟨C, hr, hlocks, hA, hK, hN⟩ := id E
  obtain ⟨hx, hb, hml, hown, hts⟩ := id C
  unfold kX7_hasRoomFor at hB
  refine lv_iload_n hx hb dX7_hasRoomFor_0 rfl (lv_at hl 1 rfl) ?_
  refine lv_aload_n hx hb dX7_hasRoomFor_1 rfl (lv_at hl 0 rfl) ?_
  refine q_get (v := .ref (a 1)) C inX7_hasRoomFor_X7 hK hP 0 rfl rfl 0 (by decide) rfl LX7_hasRoomFor_9 rfl dX7_hasRoomFor_2 ?_
  refine q_alen (v := 2000) C hK hP 1 0 rfl rfl dX7_hasRoomFor_5 rfl ?_
  refine lv_aload_n hx hb dX7_hasRoomFor_6 rfl (lv_at hl 0 rfl) ?_
  refine q_get (v := .int (s.v 0)) C inX7_hasRoomFor_X7 hK hP 0 rfl rfl 1 (by decide) rfl LX7_hasRoomFor_15 rfl dX7_hasRoomFor_7 ?_
  refine lv_isub hx hb dX7_hasRoomFor_10 ?_
  refine lv_icmp_gt (tgt := 18) hx hb dX7_hasRoomFor_11 (by decide) (fun c1 => ?_) (fun c1 => ?_)
  · have hB := if_p hB c1
    refine lv_iconst (v := 0) hx hb dX7_hasRoomFor_18 (by decide) ?_
    exact q_zret C hr hlocks (Or.inl rfl) hK hP hD hS (Nat.le_of_ble_eq_true rfl) (Nat.le_of_ble_eq_true rfl) dX7_hasRoomFor_19 (by cases hB; exact ⟨rfl, rfl⟩)
  · have hB := if_n hB c1
    refine lv_iconst (v := 1) hx hb dX7_hasRoomFor_14 (by decide) ?_
    refine lv_goto (tgt := 19) hx hb dX7_hasRoomFor_15 (by decide) ?_
    exact q_zret C hr hlocks (Or.inr rfl) hK hP hD hS (Nat.le_of_ble_eq_true rfl) (Nat.le_of_ble_eq_true rfl) dX7_hasRoomFor_19 (by cases hB; exact ⟨rfl, rfl⟩)
theorem ckX7_hasRoomFor {l : Launch} {dC : Nat → ClassId} {dI : Nat → Nat → Nat} {cB cI cJ cZ cS : ClassId} {a : Nat → Nat} {r : Int32} {s' : KS} {s : KS} {x1 : Int32} (hB : kX7_hasRoomFor s x1 = some (r, s')) : CI l yX7_hasRoomFor wsX7_hasRoomFor ({ frames := 0, cells := 0, slots := 0, locals := 0 }) (dC, dI) (tysA cB cI cJ cZ cS) (wK cB cI cJ cZ cS a s) [.ref (a 0), .int x1] (fun x u => x = r ∧ u = (wK cB cI cJ cZ cS a s')) :=
  CI_of (cc := cX7_hasRoomFor) (maxL := 2) (ret := (some .boolean)) (by decide) rfl (Nat.le_of_ble_eq_true rfl) (bkX7_hasRoomFor _ _ hB)
theorem LX7_addFour_15 : Cond.fieldLink RX7 15 "GuessFerry$Tape" "length" "I" ∈ wsX7_addFour := by decide +kernel
theorem LX7_addFour_9 : Cond.fieldLink RX7 9 "GuessFerry$Tape" "bytes" "[B" ∈ wsX7_addFour := by decide +kernel
theorem inX7_addFour_X7 : ∀ w ∈ u_ws RX7 TX7 2, w ∈ wsX7_addFour := fun _ h => List.mem_cons_of_mem _ (List.mem_append_right _ h)
set_option maxHeartbeats 4000000 in
set_option maxRecDepth 100000 in
theorem bkX7_addFour_42 {l : Launch} {dC : Nat → ClassId} {dI : Nat → Nat → Nat} {cB cI cJ cZ cS : ClassId} {a : Nat → Nat} {as : List Value} {s' : KS} {k3 : KS → Int32 → Int32 → Option KS} (hk3 : ∀ (s : KS) (x1 : Int32) (x2 : Int32), k3 s x1 x2 = some s' → BlkV l yX7_addFour wsX7_addFour ({ frames := 0, cells := 0, slots := 0, locals := 0 }) cX7_addFour 3 none (dC, dI) (tysA cB cI cJ cZ cS) as 3 (wK cB cI cJ cZ cS a s) [(0, .ref (a 0)), (1, .int x1), (2, .int x2)] [] (fun u => u = (wK cB cI cJ cZ cS a s'))) (s : KS) (x1 : Int32) (x2 : Int32) (hB : kX7_addFour_42 k3 s x1 x2 = some s') : BlkV l yX7_addFour wsX7_addFour ({ frames := 0, cells := 0, slots := 0, locals := 0 }) cX7_addFour 3 none (dC, dI) (tysA cB cI cJ cZ cS) as 42 (wK cB cI cJ cZ cS a s) [(0, .ref (a 0)), (1, .int x1), (2, .int x2)] [] (fun u => u = (wK cB cI cJ cZ cS a s')) := by
  intro p e s0 m below meth c A E H locs ls hP hD hS hl
  obtain ⟨C, hr, hlocks, hA, hK, hN⟩ := id E
  obtain ⟨hx, hb, hml, hown, hts⟩ := id C
  unfold kX7_addFour_42 at hB
  refine lv_iinc (v := (x2 + (-8))) (lv' := [(2, .int (x2 + (-8))), (0, .ref (a 0)), (1, .int x1)]) hx hb dX7_addFour_42 hl (k := 2) rfl (rfl) (by decide) rfl (fun ls hl => ?_)
  refine lv_goto (tgt := 3) hx hb dX7_addFour_45 (by decide) ?_
  exact hk3 _ _ _ hB p e s0 m below meth c A E H locs ls hP hD hS (lv_sub hl [1, 2, 0] rfl)
set_option maxHeartbeats 4000000 in
set_option maxRecDepth 100000 in
theorem bkX7_addFour_3 {l : Launch} {dC : Nat → ClassId} {dI : Nat → Nat → Nat} {cB cI cJ cZ cS : ClassId} {a : Nat → Nat} {as : List Value} {s' : KS} {k3 : KS → Int32 → Int32 → Option KS} (hk3 : ∀ (s : KS) (x1 : Int32) (x2 : Int32), k3 s x1 x2 = some s' → BlkV l yX7_addFour wsX7_addFour ({ frames := 0, cells := 0, slots := 0, locals := 0 }) cX7_addFour 3 none (dC, dI) (tysA cB cI cJ cZ cS) as 3 (wK cB cI cJ cZ cS a s) [(0, .ref (a 0)), (1, .int x1), (2, .int x2)] [] (fun u => u = (wK cB cI cJ cZ cS a s'))) (s : KS) (x1 : Int32) (x2 : Int32) (hB : kX7_addFour_3 k3 s x1 x2 = some s') : BlkV l yX7_addFour wsX7_addFour ({ frames := 0, cells := 0, slots := 0, locals := 0 }) cX7_addFour 3 none (dC, dI) (tysA cB cI cJ cZ cS) as 3 (wK cB cI cJ cZ cS a s) [(0, .ref (a 0)), (1, .int x1), (2, .int x2)] [] (fun u => u = (wK cB cI cJ cZ cS a s')) := by
  intro p e s0 m below meth c A E H locs ls hP hD hS hl
  obtain ⟨C, hr, hlocks, hA, hK, hN⟩ := id E
  obtain ⟨hx, hb, hml, hown, hts⟩ := id C
  unfold kX7_addFour_3 at hB
  refine lv_iload_n hx hb dX7_addFour_3 rfl (lv_at hl 2 rfl) ?_
  refine lv_if_lt (tgt := 48) hx hb dX7_addFour_4 (by decide) (fun c1 => ?_) (fun c1 => ?_)
  · have hB := if_p hB c1
    exact q_vret C hr hlocks hK hP hD hS (Nat.le_of_ble_eq_true rfl) (Nat.le_of_ble_eq_true rfl) dX7_addFour_48 (by cases hB; rfl)
  · have hB := if_n hB c1
    refine lv_aload_n hx hb dX7_addFour_7 rfl (lv_at hl 0 rfl) ?_
    refine q_get (v := .int (s.v 0)) C inX7_addFour_X7 hK hP 0 rfl rfl 1 (by decide) rfl LX7_addFour_15 rfl dX7_addFour_8 ?_
    refine lv_aload_n hx hb dX7_addFour_11 rfl (lv_at hl 0 rfl) ?_
    refine q_get (v := .ref (a 1)) C inX7_addFour_X7 hK hP 0 rfl rfl 0 (by decide) rfl LX7_addFour_9 rfl dX7_addFour_12 ?_
    refine q_alen (v := 2000) C hK hP 1 0 rfl rfl dX7_addFour_15 rfl ?_
    refine lv_icmp_ge (tgt := 42) hx hb dX7_addFour_16 (by decide) (fun c2 => ?_) (fun c2 => ?_)
    · have hB := if_p hB c2
      exact bkX7_addFour_42 (hk3) _ _ _ hB p e s0 m below meth c A E H locs ls hP hD hS (lv_sub hl [0, 1, 2] rfl)
    · have hB := if_n hB c2
      refine lv_aload_n hx hb dX7_addFour_19 rfl (lv_at hl 0 rfl) ?_
      refine q_get (v := .ref (a 1)) C inX7_addFour_X7 hK hP 0 rfl rfl 0 (by decide) rfl LX7_addFour_9 rfl dX7_addFour_20 ?_
      refine lv_aload_n hx hb dX7_addFour_23 rfl (lv_at hl 0 rfl) ?_
      refine q_get (v := .int (s.v 0)) C inX7_addFour_X7 hK hP 0 rfl rfl 1 (by decide) rfl LX7_addFour_15 rfl dX7_addFour_24 ?_
      refine lv_iload_n hx hb dX7_addFour_27 rfl (lv_at hl 1 rfl) ?_
      refine lv_iload_n hx hb dX7_addFour_28 rfl (lv_at hl 2 rfl) ?_
      refine lv_iushr (v := (ushr x1 x2)) hx hb dX7_addFour_29 rfl ?_
      refine lv_i2b (v := (Int8.toInt32 (Int32.toInt8 (ushr x1 x2)))) hx hb dX7_addFour_30 rfl ?_
      obtain ⟨g3, hB⟩ := guard_inv hB
      obtain ⟨s4, hs5, hB⟩ := letS_inv hB
      refine q_bast (f2 := (upd (s.f 1) (Int32.toNatClampNeg (s.v 0)) (vp_nar .byte (Int8.toInt32 (Int32.toInt8 (ushr x1 x2)))))) (w2 := (wK cB cI cJ cZ cS a s4)) C hK hP hD hS 1 0 rfl rfl (vpb_in g3) dX7_addFour_31 rfl (by subst hs5; rfl) (fun H locs hP hD hS => ?_)
      refine lv_aload_n hx hb dX7_addFour_32 rfl (lv_at hl 0 rfl) ?_
      refine lv_dup hx hb dX7_addFour_33 rfl ?_
      refine q_get (v := .int (s4.v 0)) C inX7_addFour_X7 hK hP 0 rfl rfl 1 (by decide) rfl LX7_addFour_15 rfl dX7_addFour_34 ?_
      refine lv_iconst (v := 1) hx hb dX7_addFour_37 (by decide) ?_
      refine lv_iadd hx hb dX7_addFour_38 ?_
      obtain ⟨s6, hs7, hB⟩ := letS_inv hB
      refine q_put (ty := .int) (w2 := (wK cB cI cJ cZ cS a s6)) tyX7 tyX7_ok nmX7 C inX7_addFour_X7 hK hP hD hS 0 rfl rfl 1 (by decide) rfl LX7_addFour_15 rfl (by decide +kernel) (rfl) rfl (Nat.le_of_ble_eq_true rfl) dX7_addFour_39 (by subst hs7; rfl) (fun H locs hP hD hS => ?_)
      exact bkX7_addFour_42 (hk3) _ _ _ hB p e s0 m below meth c A E H locs ls hP hD hS (lv_sub hl [0, 1, 2] rfl)
theorem bkX7_addFour_3L {l : Launch} {dC : Nat → ClassId} {dI : Nat → Nat → Nat} {cB cI cJ cZ cS : ClassId} {a : Nat → Nat} {as : List Value} {s' : KS} : ∀ (n : Nat) (s : KS) (x1 : Int32) (x2 : Int32), kX7_addFour_3L n s x1 x2 = some s' → BlkV l yX7_addFour wsX7_addFour ({ frames := 0, cells := 0, slots := 0, locals := 0 }) cX7_addFour 3 none (dC, dI) (tysA cB cI cJ cZ cS) as 3 (wK cB cI cJ cZ cS a s) [(0, .ref (a 0)), (1, .int x1), (2, .int x2)] [] (fun u => u = (wK cB cI cJ cZ cS a s')) := by
  intro n
  induction n with
  | zero => intro s x1 x2 hB; exact none_ne hB
  | succ n ih => intro s x1 x2 hB; exact bkX7_addFour_3 ih _ _ _ hB
set_option maxHeartbeats 4000000 in
set_option maxRecDepth 100000 in
theorem bkX7_addFour {l : Launch} {dC : Nat → ClassId} {dI : Nat → Nat → Nat} {cB cI cJ cZ cS : ClassId} {a : Nat → Nat} {as : List Value} {s' : KS} (s : KS) (x1 : Int32) (hB : kX7_addFour s x1 = some s') : BlkV l yX7_addFour wsX7_addFour ({ frames := 0, cells := 0, slots := 0, locals := 0 }) cX7_addFour 3 none (dC, dI) (tysA cB cI cJ cZ cS) as 0 (wK cB cI cJ cZ cS a s) [(0, .ref (a 0)), (1, .int x1)] [] (fun u => u = (wK cB cI cJ cZ cS a s')) := by
  intro p e s0 m below meth c A E H locs ls hP hD hS hl
  obtain ⟨C, hr, hlocks, hA, hK, hN⟩ := id E
  obtain ⟨hx, hb, hml, hown, hts⟩ := id C
  unfold kX7_addFour at hB
  refine lv_bipush (v := 24) hx hb dX7_addFour_0 (by decide) ?_
  refine lv_istore_n (lv' := [(2, .int 24), (0, .ref (a 0)), (1, .int x1)]) hx hb dX7_addFour_2 rfl hl (by decide) rfl (fun ls hl => ?_)
  exact bkX7_addFour_3L fu _ _ _ hB p e s0 m below meth c A E H locs ls hP hD hS (lv_sub hl [1, 2, 0] rfl)
theorem ckX7_addFour {l : Launch} {dC : Nat → ClassId} {dI : Nat → Nat → Nat} {cB cI cJ cZ cS : ClassId} {a : Nat → Nat} {s' : KS} {s : KS} {x1 : Int32} (hB : kX7_addFour s x1 = some s') : CV l yX7_addFour wsX7_addFour ({ frames := 0, cells := 0, slots := 0, locals := 0 }) (dC, dI) (tysA cB cI cJ cZ cS) (wK cB cI cJ cZ cS a s) [.ref (a 0), .int x1] (fun u => u = (wK cB cI cJ cZ cS a s')) :=
  CV_of (cc := cX7_addFour) (maxL := 3) (ret := none) (by decide) rfl (Nat.le_of_ble_eq_true rfl) (bkX7_addFour _ _ hB)
theorem LX7_byteAt_15 : Cond.fieldLink RX7 15 "GuessFerry$Tape" "length" "I" ∈ wsX7_byteAt := by decide +kernel
theorem LX7_byteAt_9 : Cond.fieldLink RX7 9 "GuessFerry$Tape" "bytes" "[B" ∈ wsX7_byteAt := by decide +kernel
theorem inX7_byteAt_X7 : ∀ w ∈ u_ws RX7 TX7 2, w ∈ wsX7_byteAt := fun _ h => List.mem_cons_of_mem _ (List.mem_append_right _ h)
set_option maxHeartbeats 4000000 in
set_option maxRecDepth 100000 in
theorem bkX7_byteAt {l : Launch} {dC : Nat → ClassId} {dI : Nat → Nat → Nat} {cB cI cJ cZ cS : ClassId} {a : Nat → Nat} {as : List Value} {r : Int32} {s' : KS} (s : KS) (x1 : Int32) (hB : kX7_byteAt s x1 = some (r, s')) : BlkI l yX7_byteAt wsX7_byteAt ({ frames := 0, cells := 0, slots := 0, locals := 0 }) cX7_byteAt 2 (some .int) (dC, dI) (tysA cB cI cJ cZ cS) as 0 (wK cB cI cJ cZ cS a s) [(0, .ref (a 0)), (1, .int x1)] [] (fun x u => x = r ∧ u = (wK cB cI cJ cZ cS a s')) := by
  intro p e s0 m below meth c A E H locs ls hP hD hS hl
  obtain ⟨C, hr, hlocks, hA, hK, hN⟩ := id E
  obtain ⟨hx, hb, hml, hown, hts⟩ := id C
  unfold kX7_byteAt at hB
  refine lv_iload_n hx hb dX7_byteAt_0 rfl (lv_at hl 1 rfl) ?_
  refine lv_if_lt (tgt := 25) hx hb dX7_byteAt_1 (by decide) (fun c1 => ?_) (fun c1 => ?_)
  · have hB := if_p hB c1
    refine lv_iconst (v := (-1)) hx hb dX7_byteAt_25 (by decide) ?_
    exact q_iret C hr hlocks hK hP hD hS (Nat.le_of_ble_eq_true rfl) (Nat.le_of_ble_eq_true rfl) dX7_byteAt_26 (by cases hB; exact ⟨rfl, rfl⟩)
  · have hB := if_n hB c1
    refine lv_iload_n hx hb dX7_byteAt_4 rfl (lv_at hl 1 rfl) ?_
    refine lv_aload_n hx hb dX7_byteAt_5 rfl (lv_at hl 0 rfl) ?_
    refine q_get (v := .int (s.v 0)) C inX7_byteAt_X7 hK hP 0 rfl rfl 1 (by decide) rfl LX7_byteAt_15 rfl dX7_byteAt_6 ?_
    refine lv_icmp_ge (tgt := 25) hx hb dX7_byteAt_9 (by decide) (fun c2 => ?_) (fun c2 => ?_)
    · have hB := if_p hB c2
      refine lv_iconst (v := (-1)) hx hb dX7_byteAt_25 (by decide) ?_
      exact q_iret C hr hlocks hK hP hD hS (Nat.le_of_ble_eq_true rfl) (Nat.le_of_ble_eq_true rfl) dX7_byteAt_26 (by cases hB; exact ⟨rfl, rfl⟩)
    · have hB := if_n hB c2
      refine lv_aload_n hx hb dX7_byteAt_12 rfl (lv_at hl 0 rfl) ?_
      refine q_get (v := .ref (a 1)) C inX7_byteAt_X7 hK hP 0 rfl rfl 0 (by decide) rfl LX7_byteAt_9 rfl dX7_byteAt_13 ?_
      refine lv_iload_n hx hb dX7_byteAt_16 rfl (lv_at hl 1 rfl) ?_
      obtain ⟨g3, hB⟩ := guard_inv hB
      refine q_bald (x := ((s.f 1) (Int32.toNatClampNeg x1))) C hK hP 1 0 rfl rfl (vpb_in g3) dX7_byteAt_17 rfl ?_
      refine lv_sipush (v := 255) hx hb dX7_byteAt_18 (by decide) ?_
      refine lv_iand hx hb dX7_byteAt_21 ?_
      refine lv_goto (tgt := 26) hx hb dX7_byteAt_22 (by decide) ?_
      exact q_iret C hr hlocks hK hP hD hS (Nat.le_of_ble_eq_true rfl) (Nat.le_of_ble_eq_true rfl) dX7_byteAt_26 (by cases hB; exact ⟨rfl, rfl⟩)
theorem ckX7_byteAt {l : Launch} {dC : Nat → ClassId} {dI : Nat → Nat → Nat} {cB cI cJ cZ cS : ClassId} {a : Nat → Nat} {r : Int32} {s' : KS} {s : KS} {x1 : Int32} (hB : kX7_byteAt s x1 = some (r, s')) : CI l yX7_byteAt wsX7_byteAt ({ frames := 0, cells := 0, slots := 0, locals := 0 }) (dC, dI) (tysA cB cI cJ cZ cS) (wK cB cI cJ cZ cS a s) [.ref (a 0), .int x1] (fun x u => x = r ∧ u = (wK cB cI cJ cZ cS a s')) :=
  CI_of (cc := cX7_byteAt) (maxL := 2) (ret := (some .int)) (by decide) rfl (Nat.le_of_ble_eq_true rfl) (bkX7_byteAt _ _ hB)
theorem LX8_add_15 : Cond.fieldLink RX8 15 "GuessFerry$Tellers" "toldThings" "[I" ∈ wsX8_add := by decide +kernel
theorem LX8_add_35 : Cond.fieldLink RX8 35 "GuessFerry$Tellers" "told" "I" ∈ wsX8_add := by decide +kernel
theorem LX8_add_9 : Cond.fieldLink RX8 9 "GuessFerry$Tellers" "toldWaves" "[I" ∈ wsX8_add := by decide +kernel
theorem inX8_add_X8 : ∀ w ∈ u_ws RX8 TX8 8, w ∈ wsX8_add := fun _ h => List.mem_cons_of_mem _ (List.mem_append_right _ h)
set_option maxHeartbeats 4000000 in
set_option maxRecDepth 100000 in
theorem bkX8_add {l : Launch} {dC : Nat → ClassId} {dI : Nat → Nat → Nat} {cB cI cJ cZ cS : ClassId} {a : Nat → Nat} {as : List Value} {r : Int32} {s' : KS} (s : KS) (x1 : Int32) (x2 : Int32) (hB : kX8_add s x1 x2 = some (r, s')) : BlkI l yX8_add wsX8_add ({ frames := 0, cells := 0, slots := 0, locals := 0 }) cX8_add 3 (some .int) (dC, dI) (tysA cB cI cJ cZ cS) as 0 (wK cB cI cJ cZ cS a s) [(0, .ref (a 41)), (1, .int x1), (2, .int x2)] [] (fun x u => x = r ∧ u = (wK cB cI cJ cZ cS a s')) := by
  intro p e s0 m below meth c A E H locs ls hP hD hS hl
  obtain ⟨C, hr, hlocks, hA, hK, hN⟩ := id E
  obtain ⟨hx, hb, hml, hown, hts⟩ := id C
  unfold kX8_add at hB
  refine lv_aload_n hx hb dX8_add_0 rfl (lv_at hl 0 rfl) ?_
  refine q_get (v := .int (s.v 21)) C inX8_add_X8 hK hP 41 rfl rfl 7 (by decide) rfl LX8_add_35 rfl dX8_add_1 ?_
  refine lv_bipush (v := 20) hx hb dX8_add_4 (by decide) ?_
  refine lv_icmp_lt (tgt := 11) hx hb dX8_add_6 (by decide) (fun c1 => ?_) (fun c1 => ?_)
  · have hB := if_p hB c1
    refine lv_aload_n hx hb dX8_add_11 rfl (lv_at hl 0 rfl) ?_
    refine q_get (v := .ref (a 42)) C inX8_add_X8 hK hP 41 rfl rfl 2 (by decide) rfl LX8_add_9 rfl dX8_add_12 ?_
    refine lv_aload_n hx hb dX8_add_15 rfl (lv_at hl 0 rfl) ?_
    refine q_get (v := .int (s.v 21)) C inX8_add_X8 hK hP 41 rfl rfl 7 (by decide) rfl LX8_add_35 rfl dX8_add_16 ?_
    refine lv_iload_n hx hb dX8_add_19 rfl (lv_at hl 1 rfl) ?_
    obtain ⟨g2, hB⟩ := guard_inv hB
    obtain ⟨s3, hs4, hB⟩ := letS_inv hB
    refine q_iast (f2 := (upd (s.f 42) (Int32.toNatClampNeg (s.v 21)) x1)) (w2 := (wK cB cI cJ cZ cS a s3)) C hK hP hD hS 42 1 rfl rfl (vpb_in g2) dX8_add_20 rfl (by subst hs4; rfl) (fun H locs hP hD hS => ?_)
    refine lv_aload_n hx hb dX8_add_21 rfl (lv_at hl 0 rfl) ?_
    refine q_get (v := .ref (a 43)) C inX8_add_X8 hK hP 41 rfl rfl 3 (by decide) rfl LX8_add_15 rfl dX8_add_22 ?_
    refine lv_aload_n hx hb dX8_add_25 rfl (lv_at hl 0 rfl) ?_
    refine q_get (v := .int (s3.v 21)) C inX8_add_X8 hK hP 41 rfl rfl 7 (by decide) rfl LX8_add_35 rfl dX8_add_26 ?_
    refine lv_iload_n hx hb dX8_add_29 rfl (lv_at hl 2 rfl) ?_
    obtain ⟨g5, hB⟩ := guard_inv hB
    obtain ⟨s6, hs7, hB⟩ := letS_inv hB
    refine q_iast (f2 := (upd (s3.f 43) (Int32.toNatClampNeg (s3.v 21)) x2)) (w2 := (wK cB cI cJ cZ cS a s6)) C hK hP hD hS 43 1 rfl rfl (vpb_in g5) dX8_add_30 rfl (by subst hs7; rfl) (fun H locs hP hD hS => ?_)
    refine lv_aload_n hx hb dX8_add_31 rfl (lv_at hl 0 rfl) ?_
    refine lv_dup hx hb dX8_add_32 rfl ?_
    refine q_get (v := .int (s6.v 21)) C inX8_add_X8 hK hP 41 rfl rfl 7 (by decide) rfl LX8_add_35 rfl dX8_add_33 ?_
    refine lv_iconst (v := 1) hx hb dX8_add_36 (by decide) ?_
    refine lv_iadd hx hb dX8_add_37 ?_
    obtain ⟨s8, hs9, hB⟩ := letS_inv hB
    refine q_put (ty := .int) (w2 := (wK cB cI cJ cZ cS a s8)) tyX8 tyX8_ok nmX8 C inX8_add_X8 hK hP hD hS 41 rfl rfl 7 (by decide) rfl LX8_add_35 rfl (by decide +kernel) (rfl) rfl (Nat.le_of_ble_eq_true rfl) dX8_add_38 (by subst hs9; rfl) (fun H locs hP hD hS => ?_)
    refine lv_aload_n hx hb dX8_add_41 rfl (lv_at hl 0 rfl) ?_
    refine q_get (v := .int (s8.v 21)) C inX8_add_X8 hK hP 41 rfl rfl 7 (by decide) rfl LX8_add_35 rfl dX8_add_42 ?_
    refine lv_iconst (v := 1) hx hb dX8_add_45 (by decide) ?_
    refine lv_isub hx hb dX8_add_46 ?_
    exact q_iret C hr hlocks hK hP hD hS (Nat.le_of_ble_eq_true rfl) (Nat.le_of_ble_eq_true rfl) dX8_add_47 (by cases hB; exact ⟨rfl, rfl⟩)
  · have hB := if_n hB c1
    refine lv_iconst (v := (-1)) hx hb dX8_add_9 (by decide) ?_
    exact q_iret C hr hlocks hK hP hD hS (Nat.le_of_ble_eq_true rfl) (Nat.le_of_ble_eq_true rfl) dX8_add_10 (by cases hB; exact ⟨rfl, rfl⟩)
theorem ckX8_add {l : Launch} {dC : Nat → ClassId} {dI : Nat → Nat → Nat} {cB cI cJ cZ cS : ClassId} {a : Nat → Nat} {r : Int32} {s' : KS} {s : KS} {x1 : Int32} {x2 : Int32} (hB : kX8_add s x1 x2 = some (r, s')) : CI l yX8_add wsX8_add ({ frames := 0, cells := 0, slots := 0, locals := 0 }) (dC, dI) (tysA cB cI cJ cZ cS) (wK cB cI cJ cZ cS a s) [.ref (a 41), .int x1, .int x2] (fun x u => x = r ∧ u = (wK cB cI cJ cZ cS a s')) :=
  CI_of (cc := cX8_add) (maxL := 3) (ret := (some .int)) (by decide) rfl (Nat.le_of_ble_eq_true rfl) (bkX8_add _ _ _ hB)
theorem LX8_areSuch_35 : Cond.fieldLink RX8 35 "GuessFerry$Tellers" "told" "I" ∈ wsX8_areSuch := by decide +kernel
theorem inX8_areSuch_X8 : ∀ w ∈ u_ws RX8 TX8 8, w ∈ wsX8_areSuch := fun _ h => List.mem_cons_of_mem _ (List.mem_append_right _ h)
set_option maxHeartbeats 4000000 in
set_option maxRecDepth 100000 in
theorem bkX8_areSuch {l : Launch} {dC : Nat → ClassId} {dI : Nat → Nat → Nat} {cB cI cJ cZ cS : ClassId} {a : Nat → Nat} {as : List Value} {r : Int32} {s' : KS} (s : KS) (x1 : Int32) (x2 : Int32) (hB : kX8_areSuch s x1 x2 = some (r, s')) : BlkI l yX8_areSuch wsX8_areSuch ({ frames := 0, cells := 0, slots := 0, locals := 0 }) cX8_areSuch 3 (some .boolean) (dC, dI) (tysA cB cI cJ cZ cS) as 0 (wK cB cI cJ cZ cS a s) [(0, .ref (a 41)), (1, .int x1), (2, .int x2)] [] (fun x u => x = r ∧ u = (wK cB cI cJ cZ cS a s')) := by
  intro p e s0 m below meth c A E H locs ls hP hD hS hl
  obtain ⟨C, hr, hlocks, hA, hK, hN⟩ := id E
  obtain ⟨hx, hb, hml, hown, hts⟩ := id C
  unfold kX8_areSuch at hB
  refine lv_iload_n hx hb dX8_areSuch_0 rfl (lv_at hl 1 rfl) ?_
  refine lv_if_lt (tgt := 25) hx hb dX8_areSuch_1 (by decide) (fun c1 => ?_) (fun c1 => ?_)
  · have hB := if_p hB c1
    refine lv_iconst (v := 0) hx hb dX8_areSuch_25 (by decide) ?_
    exact q_zret C hr hlocks (Or.inl rfl) hK hP hD hS (Nat.le_of_ble_eq_true rfl) (Nat.le_of_ble_eq_true rfl) dX8_areSuch_26 (by cases hB; exact ⟨rfl, rfl⟩)
  · have hB := if_n hB c1
    refine lv_iload_n hx hb dX8_areSuch_4 rfl (lv_at hl 1 rfl) ?_
    refine lv_aload_n hx hb dX8_areSuch_5 rfl (lv_at hl 0 rfl) ?_
    refine q_get (v := .int (s.v 21)) C inX8_areSuch_X8 hK hP 41 rfl rfl 7 (by decide) rfl LX8_areSuch_35 rfl dX8_areSuch_6 ?_
    refine lv_icmp_gt (tgt := 25) hx hb dX8_areSuch_9 (by decide) (fun c2 => ?_) (fun c2 => ?_)
    · have hB := if_p hB c2
      refine lv_iconst (v := 0) hx hb dX8_areSuch_25 (by decide) ?_
      exact q_zret C hr hlocks (Or.inl rfl) hK hP hD hS (Nat.le_of_ble_eq_true rfl) (Nat.le_of_ble_eq_true rfl) dX8_areSuch_26 (by cases hB; exact ⟨rfl, rfl⟩)
    · have hB := if_n hB c2
      refine lv_iload_n hx hb dX8_areSuch_12 rfl (lv_at hl 2 rfl) ?_
      refine lv_if_lt (tgt := 25) hx hb dX8_areSuch_13 (by decide) (fun c3 => ?_) (fun c3 => ?_)
      · have hB := if_p hB c3
        refine lv_iconst (v := 0) hx hb dX8_areSuch_25 (by decide) ?_
        exact q_zret C hr hlocks (Or.inl rfl) hK hP hD hS (Nat.le_of_ble_eq_true rfl) (Nat.le_of_ble_eq_true rfl) dX8_areSuch_26 (by cases hB; exact ⟨rfl, rfl⟩)
      · have hB := if_n hB c3
        refine lv_iload_n hx hb dX8_areSuch_16 rfl (lv_at hl 2 rfl) ?_
        refine lv_iconst (v := 3) hx hb dX8_areSuch_17 (by decide) ?_
        refine lv_icmp_gt (tgt := 25) hx hb dX8_areSuch_18 (by decide) (fun c4 => ?_) (fun c4 => ?_)
        · have hB := if_p hB c4
          refine lv_iconst (v := 0) hx hb dX8_areSuch_25 (by decide) ?_
          exact q_zret C hr hlocks (Or.inl rfl) hK hP hD hS (Nat.le_of_ble_eq_true rfl) (Nat.le_of_ble_eq_true rfl) dX8_areSuch_26 (by cases hB; exact ⟨rfl, rfl⟩)
        · have hB := if_n hB c4
          refine lv_iconst (v := 1) hx hb dX8_areSuch_21 (by decide) ?_
          refine lv_goto (tgt := 26) hx hb dX8_areSuch_22 (by decide) ?_
          exact q_zret C hr hlocks (Or.inr rfl) hK hP hD hS (Nat.le_of_ble_eq_true rfl) (Nat.le_of_ble_eq_true rfl) dX8_areSuch_26 (by cases hB; exact ⟨rfl, rfl⟩)
theorem ckX8_areSuch {l : Launch} {dC : Nat → ClassId} {dI : Nat → Nat → Nat} {cB cI cJ cZ cS : ClassId} {a : Nat → Nat} {r : Int32} {s' : KS} {s : KS} {x1 : Int32} {x2 : Int32} (hB : kX8_areSuch s x1 x2 = some (r, s')) : CI l yX8_areSuch wsX8_areSuch ({ frames := 0, cells := 0, slots := 0, locals := 0 }) (dC, dI) (tysA cB cI cJ cZ cS) (wK cB cI cJ cZ cS a s) [.ref (a 41), .int x1, .int x2] (fun x u => x = r ∧ u = (wK cB cI cJ cZ cS a s')) :=
  CI_of (cc := cX8_areSuch) (maxL := 3) (ret := (some .boolean)) (by decide) rfl (Nat.le_of_ble_eq_true rfl) (bkX8_areSuch _ _ _ hB)
theorem LX8_withWave_18 : Cond.fieldLink RX8 18 "GuessFerry$Tellers" "odds" "[I" ∈ wsX8_withWave := by decide +kernel
theorem LX8_withWave_21 : Cond.fieldLink RX8 21 "GuessFerry$Tellers" "belied" "[I" ∈ wsX8_withWave := by decide +kernel
theorem LX8_withWave_24 : Cond.fieldLink RX8 24 "GuessFerry$Tellers" "byLies" "[I" ∈ wsX8_withWave := by decide +kernel
theorem inX8_withWave_X8 : ∀ w ∈ u_ws RX8 TX8 8, w ∈ wsX8_withWave := fun _ h => List.mem_cons_of_mem _ (List.mem_append_right _ h)
set_option maxHeartbeats 4000000 in
set_option maxRecDepth 100000 in
theorem bkX8_withWave_78 {l : Launch} {dC : Nat → ClassId} {dI : Nat → Nat → Nat} {cB cI cJ cZ cS : ClassId} {a : Nat → Nat} {as : List Value} {r : Int32} {s' : KS} {k6 : KS → Int32 → Int32 → Int32 → Int32 → Int32 → Option (Int32 × KS)} (hk6 : ∀ (s : KS) (x1 : Int32) (x2 : Int32) (x3 : Int32) (x4 : Int32) (x5 : Int32), k6 s x1 x2 x3 x4 x5 = some (r, s') → BlkI l yX8_withWave wsX8_withWave ({ frames := 0, cells := 0, slots := 0, locals := 0 }) cX8_withWave 7 (some .int) (dC, dI) (tysA cB cI cJ cZ cS) as 6 (wK cB cI cJ cZ cS a s) [(0, .ref (a 41)), (1, .int x1), (2, .int x2), (3, .int x3), (4, .int x4), (5, .int x5)] [] (fun x u => x = r ∧ u = (wK cB cI cJ cZ cS a s'))) (s : KS) (x1 : Int32) (x2 : Int32) (x3 : Int32) (x4 : Int32) (x5 : Int32) (hB : kX8_withWave_78 k6 s x1 x2 x3 x4 x5 = some (r, s')) : BlkI l yX8_withWave wsX8_withWave ({ frames := 0, cells := 0, slots := 0, locals := 0 }) cX8_withWave 7 (some .int) (dC, dI) (tysA cB cI cJ cZ cS) as 78 (wK cB cI cJ cZ cS a s) [(0, .ref (a 41)), (1, .int x1), (2, .int x2), (3, .int x3), (4, .int x4), (5, .int x5)] [] (fun x u => x = r ∧ u = (wK cB cI cJ cZ cS a s')) := by
  intro p e s0 m below meth c A E H locs ls hP hD hS hl
  obtain ⟨C, hr, hlocks, hA, hK, hN⟩ := id E
  obtain ⟨hx, hb, hml, hown, hts⟩ := id C
  unfold kX8_withWave_78 at hB
  refine lv_iinc (v := (x5 + 1)) (lv' := [(5, .int (x5 + 1)), (0, .ref (a 41)), (1, .int x1), (2, .int x2), (3, .int x3), (4, .int x4)]) hx hb dX8_withWave_78 hl (k := 5) rfl (rfl) (by decide) rfl (fun ls hl => ?_)
  refine lv_goto (tgt := 6) hx hb dX8_withWave_81 (by decide) ?_
  exact hk6 _ _ _ _ _ _ hB p e s0 m below meth c A E H locs ls hP hD hS (lv_sub hl [1, 2, 3, 4, 5, 0] rfl)
set_option maxHeartbeats 4000000 in
set_option maxRecDepth 100000 in
theorem bkX8_withWave_74 {l : Launch} {dC : Nat → ClassId} {dI : Nat → Nat → Nat} {cB cI cJ cZ cS : ClassId} {a : Nat → Nat} {as : List Value} {r : Int32} {s' : KS} {k6 : KS → Int32 → Int32 → Int32 → Int32 → Int32 → Option (Int32 × KS)} (hk6 : ∀ (s : KS) (x1 : Int32) (x2 : Int32) (x3 : Int32) (x4 : Int32) (x5 : Int32), k6 s x1 x2 x3 x4 x5 = some (r, s') → BlkI l yX8_withWave wsX8_withWave ({ frames := 0, cells := 0, slots := 0, locals := 0 }) cX8_withWave 7 (some .int) (dC, dI) (tysA cB cI cJ cZ cS) as 6 (wK cB cI cJ cZ cS a s) [(0, .ref (a 41)), (1, .int x1), (2, .int x2), (3, .int x3), (4, .int x4), (5, .int x5)] [] (fun x u => x = r ∧ u = (wK cB cI cJ cZ cS a s'))) (s : KS) (x1 : Int32) (x2 : Int32) (x3 : Int32) (x5 : Int32) (t0 : Int32) (t1 : Int32) (t2 : Int32) (hB : kX8_withWave_74 k6 s x1 x2 x3 x5 t0 t1 t2 = some (r, s')) : BlkI l yX8_withWave wsX8_withWave ({ frames := 0, cells := 0, slots := 0, locals := 0 }) cX8_withWave 7 (some .int) (dC, dI) (tysA cB cI cJ cZ cS) as 74 (wK cB cI cJ cZ cS a s) [(0, .ref (a 41)), (1, .int x1), (2, .int x2), (3, .int x3), (5, .int x5)] [.int t0, .int t1, .int t2] (fun x u => x = r ∧ u = (wK cB cI cJ cZ cS a s')) := by
  intro p e s0 m below meth c A E H locs ls hP hD hS hl
  obtain ⟨C, hr, hlocks, hA, hK, hN⟩ := id E
  obtain ⟨hx, hb, hml, hown, hts⟩ := id C
  unfold kX8_withWave_74 at hB
  refine lv_imul hx hb dX8_withWave_74 ?_
  refine lv_iadd hx hb dX8_withWave_75 ?_
  refine lv_istore (lv' := [(4, .int (t2 + (t1 * t0))), (0, .ref (a 41)), (1, .int x1), (2, .int x2), (3, .int x3), (5, .int x5)]) hx hb dX8_withWave_76 hl (by decide) rfl (fun ls hl => ?_)
  exact bkX8_withWave_78 (hk6) _ _ _ _ _ _ hB p e s0 m below meth c A E H locs ls hP hD hS (lv_sub hl [1, 2, 3, 4, 0, 5] rfl)
set_option maxHeartbeats 4000000 in
set_option maxRecDepth 100000 in
theorem bkX8_withWave_6 {l : Launch} {dC : Nat → ClassId} {dI : Nat → Nat → Nat} {cB cI cJ cZ cS : ClassId} {a : Nat → Nat} {as : List Value} {r : Int32} {s' : KS} {k6 : KS → Int32 → Int32 → Int32 → Int32 → Int32 → Option (Int32 × KS)} (hk6 : ∀ (s : KS) (x1 : Int32) (x2 : Int32) (x3 : Int32) (x4 : Int32) (x5 : Int32), k6 s x1 x2 x3 x4 x5 = some (r, s') → BlkI l yX8_withWave wsX8_withWave ({ frames := 0, cells := 0, slots := 0, locals := 0 }) cX8_withWave 7 (some .int) (dC, dI) (tysA cB cI cJ cZ cS) as 6 (wK cB cI cJ cZ cS a s) [(0, .ref (a 41)), (1, .int x1), (2, .int x2), (3, .int x3), (4, .int x4), (5, .int x5)] [] (fun x u => x = r ∧ u = (wK cB cI cJ cZ cS a s'))) (s : KS) (x1 : Int32) (x2 : Int32) (x3 : Int32) (x4 : Int32) (x5 : Int32) (hB : kX8_withWave_6 k6 s x1 x2 x3 x4 x5 = some (r, s')) : BlkI l yX8_withWave wsX8_withWave ({ frames := 0, cells := 0, slots := 0, locals := 0 }) cX8_withWave 7 (some .int) (dC, dI) (tysA cB cI cJ cZ cS) as 6 (wK cB cI cJ cZ cS a s) [(0, .ref (a 41)), (1, .int x1), (2, .int x2), (3, .int x3), (4, .int x4), (5, .int x5)] [] (fun x u => x = r ∧ u = (wK cB cI cJ cZ cS a s')) := by
  intro p e s0 m below meth c A E H locs ls hP hD hS hl
  obtain ⟨C, hr, hlocks, hA, hK, hN⟩ := id E
  obtain ⟨hx, hb, hml, hown, hts⟩ := id C
  unfold kX8_withWave_6 at hB
  refine lv_iload hx hb dX8_withWave_6 (lv_at hl 5 rfl) ?_
  refine lv_bipush (v := 6) hx hb dX8_withWave_8 (by decide) ?_
  refine lv_icmp_ge (tgt := 84) hx hb dX8_withWave_10 (by decide) (fun c1 => ?_) (fun c1 => ?_)
  · have hB := if_p hB c1
    refine lv_iload hx hb dX8_withWave_84 (lv_at hl 4 rfl) ?_
    exact q_iret C hr hlocks hK hP hD hS (Nat.le_of_ble_eq_true rfl) (Nat.le_of_ble_eq_true rfl) dX8_withWave_86 (by cases hB; exact ⟨rfl, rfl⟩)
  · have hB := if_n hB c1
    refine lv_iload_n hx hb dX8_withWave_13 rfl (lv_at hl 1 rfl) ?_
    refine lv_bipush (v := 6) hx hb dX8_withWave_14 (by decide) ?_
    refine lv_imul hx hb dX8_withWave_16 ?_
    refine lv_iload hx hb dX8_withWave_17 (lv_at hl 5 rfl) ?_
    refine lv_iadd hx hb dX8_withWave_19 ?_
    refine lv_istore (lv' := [(6, .int ((x1 * 6) + x5)), (0, .ref (a 41)), (1, .int x1), (2, .int x2), (3, .int x3), (4, .int x4), (5, .int x5)]) hx hb dX8_withWave_20 hl (by decide) rfl (fun ls hl => ?_)
    refine lv_aload_n hx hb dX8_withWave_22 rfl (lv_at hl 1 rfl) ?_
    refine q_get (v := .ref (a 44)) C inX8_withWave_X8 hK hP 41 rfl rfl 4 (by decide) rfl LX8_withWave_18 rfl dX8_withWave_23 ?_
    refine lv_iload hx hb dX8_withWave_26 (lv_at hl 0 rfl) ?_
    obtain ⟨g2, hB⟩ := guard_inv hB
    refine q_iald (x := ((s.f 44) (Int32.toNatClampNeg ((x1 * 6) + x5)))) C hK hP 44 1 rfl rfl (vpb_in g2) dX8_withWave_28 rfl ?_
    refine lv_if_le (tgt := 78) hx hb dX8_withWave_29 (by decide) (fun c3 => ?_) (fun c3 => ?_)
    · have hB := if_p hB c3
      exact bkX8_withWave_78 (hk6) _ _ _ _ _ _ hB p e s0 m below meth c A E H locs ls hP hD hS (lv_sub hl [1, 2, 3, 4, 5, 6] rfl)
    · have hB := if_n hB c3
      refine lv_aload_n hx hb dX8_withWave_32 rfl (lv_at hl 1 rfl) ?_
      refine q_get (v := .ref (a 45)) C inX8_withWave_X8 hK hP 41 rfl rfl 5 (by decide) rfl LX8_withWave_21 rfl dX8_withWave_33 ?_
      refine lv_iload hx hb dX8_withWave_36 (lv_at hl 0 rfl) ?_
      obtain ⟨g4, hB⟩ := guard_inv hB
      refine q_iald (x := ((s.f 45) (Int32.toNatClampNeg ((x1 * 6) + x5)))) C hK hP 45 1 rfl rfl (vpb_in g4) dX8_withWave_38 rfl ?_
      refine lv_iload_n hx hb dX8_withWave_39 rfl (lv_at hl 3 rfl) ?_
      refine lv_icmp_gt (tgt := 78) hx hb dX8_withWave_40 (by decide) (fun c5 => ?_) (fun c5 => ?_)
      · have hB := if_p hB c5
        exact bkX8_withWave_78 (hk6) _ _ _ _ _ _ hB p e s0 m below meth c A E H locs ls hP hD hS (lv_sub hl [1, 2, 3, 4, 5, 6] rfl)
      · have hB := if_n hB c5
        refine lv_iload hx hb dX8_withWave_43 (lv_at hl 5 rfl) ?_
        refine lv_aload_n hx hb dX8_withWave_45 rfl (lv_at hl 1 rfl) ?_
        refine q_get (v := .ref (a 46)) C inX8_withWave_X8 hK hP 41 rfl rfl 6 (by decide) rfl LX8_withWave_24 rfl dX8_withWave_46 ?_
        refine lv_iload_n hx hb dX8_withWave_49 rfl (lv_at hl 3 rfl) ?_
        refine lv_aload_n hx hb dX8_withWave_50 rfl (lv_at hl 1 rfl) ?_
        refine q_get (v := .ref (a 45)) C inX8_withWave_X8 hK hP 41 rfl rfl 5 (by decide) rfl LX8_withWave_21 rfl dX8_withWave_51 ?_
        refine lv_iload hx hb dX8_withWave_54 (lv_at hl 0 rfl) ?_
        obtain ⟨g6, hB⟩ := guard_inv hB
        refine q_iald (x := ((s.f 45) (Int32.toNatClampNeg ((x1 * 6) + x5)))) C hK hP 45 1 rfl rfl (vpb_in g6) dX8_withWave_56 rfl ?_
        refine lv_isub hx hb dX8_withWave_57 ?_
        obtain ⟨g7, hB⟩ := guard_inv hB
        refine q_iald (x := ((s.f 46) (Int32.toNatClampNeg (x2 - ((s.f 45) (Int32.toNatClampNeg ((x1 * 6) + x5))))))) C hK hP 46 1 rfl rfl (vpb_in g7) dX8_withWave_58 rfl ?_
        refine lv_iload_n hx hb dX8_withWave_59 rfl (lv_at hl 4 rfl) ?_
        refine lv_if_eq (tgt := 73) hx hb dX8_withWave_60 (by decide) (fun c8 => ?_) (fun c8 => ?_)
        · have hB := if_p hB c8
          refine lv_iconst (v := 1) hx hb dX8_withWave_73 (by decide) ?_
          exact bkX8_withWave_74 (hk6) _ _ _ _ _ _ _ _ hB p e s0 m below meth c A E H locs ls hP hD hS (lv_sub hl [1, 2, 3, 4, 6] rfl)
        · have hB := if_n hB c8
          refine lv_aload_n hx hb dX8_withWave_63 rfl (lv_at hl 1 rfl) ?_
          refine q_get (v := .ref (a 44)) C inX8_withWave_X8 hK hP 41 rfl rfl 4 (by decide) rfl LX8_withWave_18 rfl dX8_withWave_64 ?_
          refine lv_iload hx hb dX8_withWave_67 (lv_at hl 0 rfl) ?_
          obtain ⟨g9, hB⟩ := guard_inv hB
          refine q_iald (x := ((s.f 44) (Int32.toNatClampNeg ((x1 * 6) + x5)))) C hK hP 44 1 rfl rfl (vpb_in g9) dX8_withWave_69 rfl ?_
          refine lv_goto (tgt := 74) hx hb dX8_withWave_70 (by decide) ?_
          exact bkX8_withWave_74 (hk6) _ _ _ _ _ _ _ _ hB p e s0 m below meth c A E H locs ls hP hD hS (lv_sub hl [1, 2, 3, 4, 6] rfl)
theorem bkX8_withWave_6L {l : Launch} {dC : Nat → ClassId} {dI : Nat → Nat → Nat} {cB cI cJ cZ cS : ClassId} {a : Nat → Nat} {as : List Value} {r : Int32} {s' : KS} : ∀ (n : Nat) (s : KS) (x1 : Int32) (x2 : Int32) (x3 : Int32) (x4 : Int32) (x5 : Int32), kX8_withWave_6L n s x1 x2 x3 x4 x5 = some (r, s') → BlkI l yX8_withWave wsX8_withWave ({ frames := 0, cells := 0, slots := 0, locals := 0 }) cX8_withWave 7 (some .int) (dC, dI) (tysA cB cI cJ cZ cS) as 6 (wK cB cI cJ cZ cS a s) [(0, .ref (a 41)), (1, .int x1), (2, .int x2), (3, .int x3), (4, .int x4), (5, .int x5)] [] (fun x u => x = r ∧ u = (wK cB cI cJ cZ cS a s')) := by
  intro n
  induction n with
  | zero => intro s x1 x2 x3 x4 x5 hB; exact none_ne hB
  | succ n ih => intro s x1 x2 x3 x4 x5 hB; exact bkX8_withWave_6 ih _ _ _ _ _ _ hB
set_option maxHeartbeats 4000000 in
set_option maxRecDepth 100000 in
theorem bkX8_withWave {l : Launch} {dC : Nat → ClassId} {dI : Nat → Nat → Nat} {cB cI cJ cZ cS : ClassId} {a : Nat → Nat} {as : List Value} {r : Int32} {s' : KS} (s : KS) (x1 : Int32) (x2 : Int32) (x3 : Int32) (hB : kX8_withWave s x1 x2 x3 = some (r, s')) : BlkI l yX8_withWave wsX8_withWave ({ frames := 0, cells := 0, slots := 0, locals := 0 }) cX8_withWave 7 (some .int) (dC, dI) (tysA cB cI cJ cZ cS) as 0 (wK cB cI cJ cZ cS a s) [(0, .ref (a 41)), (1, .int x1), (2, .int x2), (3, .int x3)] [] (fun x u => x = r ∧ u = (wK cB cI cJ cZ cS a s')) := by
  intro p e s0 m below meth c A E H locs ls hP hD hS hl
  obtain ⟨C, hr, hlocks, hA, hK, hN⟩ := id E
  obtain ⟨hx, hb, hml, hown, hts⟩ := id C
  unfold kX8_withWave at hB
  refine lv_iconst (v := 0) hx hb dX8_withWave_0 (by decide) ?_
  refine lv_istore (lv' := [(4, .int 0), (0, .ref (a 41)), (1, .int x1), (2, .int x2), (3, .int x3)]) hx hb dX8_withWave_1 hl (by decide) rfl (fun ls hl => ?_)
  refine lv_iconst (v := 0) hx hb dX8_withWave_3 (by decide) ?_
  refine lv_istore (lv' := [(5, .int 0), (4, .int 0), (0, .ref (a 41)), (1, .int x1), (2, .int x2), (3, .int x3)]) hx hb dX8_withWave_4 hl (by decide) rfl (fun ls hl => ?_)
  exact bkX8_withWave_6L fu _ _ _ _ _ _ hB p e s0 m below meth c A E H locs ls hP hD hS (lv_sub hl [2, 3, 4, 5, 1, 0] rfl)
theorem ckX8_withWave {l : Launch} {dC : Nat → ClassId} {dI : Nat → Nat → Nat} {cB cI cJ cZ cS : ClassId} {a : Nat → Nat} {r : Int32} {s' : KS} {s : KS} {x1 : Int32} {x2 : Int32} {x3 : Int32} (hB : kX8_withWave s x1 x2 x3 = some (r, s')) : CI l yX8_withWave wsX8_withWave ({ frames := 0, cells := 0, slots := 0, locals := 0 }) (dC, dI) (tysA cB cI cJ cZ cS) (wK cB cI cJ cZ cS a s) [.ref (a 41), .int x1, .int x2, .int x3] (fun x u => x = r ∧ u = (wK cB cI cJ cZ cS a s')) :=
  CI_of (cc := cX8_withWave) (maxL := 7) (ret := (some .int)) (by decide) rfl (Nat.le_of_ble_eq_true rfl) (bkX8_withWave _ _ _ _ hB)
theorem LX8_upTo_24 : Cond.fieldLink RX8 24 "GuessFerry$Tellers" "byLies" "[I" ∈ wsX8_upTo := by decide +kernel
theorem inX8_upTo_X8 : ∀ w ∈ u_ws RX8 TX8 8, w ∈ wsX8_upTo := fun _ h => List.mem_cons_of_mem _ (List.mem_append_right _ h)
set_option maxHeartbeats 4000000 in
set_option maxRecDepth 100000 in
theorem bkX8_upTo_4 {l : Launch} {dC : Nat → ClassId} {dI : Nat → Nat → Nat} {cB cI cJ cZ cS : ClassId} {a : Nat → Nat} {as : List Value} {r : Int32} {s' : KS} {k4 : KS → Int32 → Int32 → Int32 → Option (Int32 × KS)} (hk4 : ∀ (s : KS) (x1 : Int32) (x2 : Int32) (x3 : Int32), k4 s x1 x2 x3 = some (r, s') → BlkI l yX8_upTo wsX8_upTo ({ frames := 0, cells := 0, slots := 0, locals := 0 }) cX8_upTo 4 (some .int) (dC, dI) (tysA cB cI cJ cZ cS) as 4 (wK cB cI cJ cZ cS a s) [(0, .ref (a 41)), (1, .int x1), (2, .int x2), (3, .int x3)] [] (fun x u => x = r ∧ u = (wK cB cI cJ cZ cS a s'))) (s : KS) (x1 : Int32) (x2 : Int32) (x3 : Int32) (hB : kX8_upTo_4 k4 s x1 x2 x3 = some (r, s')) : BlkI l yX8_upTo wsX8_upTo ({ frames := 0, cells := 0, slots := 0, locals := 0 }) cX8_upTo 4 (some .int) (dC, dI) (tysA cB cI cJ cZ cS) as 4 (wK cB cI cJ cZ cS a s) [(0, .ref (a 41)), (1, .int x1), (2, .int x2), (3, .int x3)] [] (fun x u => x = r ∧ u = (wK cB cI cJ cZ cS a s')) := by
  intro p e s0 m below meth c A E H locs ls hP hD hS hl
  obtain ⟨C, hr, hlocks, hA, hK, hN⟩ := id E
  obtain ⟨hx, hb, hml, hown, hts⟩ := id C
  unfold kX8_upTo_4 at hB
  refine lv_iload_n hx hb dX8_upTo_4 rfl (lv_at hl 3 rfl) ?_
  refine lv_iload_n hx hb dX8_upTo_5 rfl (lv_at hl 1 rfl) ?_
  refine lv_icmp_gt (tgt := 29) hx hb dX8_upTo_6 (by decide) (fun c1 => ?_) (fun c1 => ?_)
  · have hB := if_p hB c1
    refine lv_iload_n hx hb dX8_upTo_29 rfl (lv_at hl 2 rfl) ?_
    exact q_iret C hr hlocks hK hP hD hS (Nat.le_of_ble_eq_true rfl) (Nat.le_of_ble_eq_true rfl) dX8_upTo_30 (by cases hB; exact ⟨rfl, rfl⟩)
  · have hB := if_n hB c1
    refine lv_iload_n hx hb dX8_upTo_9 rfl (lv_at hl 3 rfl) ?_
    refine lv_iconst (v := 3) hx hb dX8_upTo_10 (by decide) ?_
    refine lv_icmp_gt (tgt := 29) hx hb dX8_upTo_11 (by decide) (fun c2 => ?_) (fun c2 => ?_)
    · have hB := if_p hB c2
      refine lv_iload_n hx hb dX8_upTo_29 rfl (lv_at hl 2 rfl) ?_
      exact q_iret C hr hlocks hK hP hD hS (Nat.le_of_ble_eq_true rfl) (Nat.le_of_ble_eq_true rfl) dX8_upTo_30 (by cases hB; exact ⟨rfl, rfl⟩)
    · have hB := if_n hB c2
      refine lv_iload_n hx hb dX8_upTo_14 rfl (lv_at hl 2 rfl) ?_
      refine lv_aload_n hx hb dX8_upTo_15 rfl (lv_at hl 0 rfl) ?_
      refine q_get (v := .ref (a 46)) C inX8_upTo_X8 hK hP 41 rfl rfl 6 (by decide) rfl LX8_upTo_24 rfl dX8_upTo_16 ?_
      refine lv_iload_n hx hb dX8_upTo_19 rfl (lv_at hl 3 rfl) ?_
      obtain ⟨g3, hB⟩ := guard_inv hB
      refine q_iald (x := ((s.f 46) (Int32.toNatClampNeg x3))) C hK hP 46 1 rfl rfl (vpb_in g3) dX8_upTo_20 rfl ?_
      refine lv_iadd hx hb dX8_upTo_21 ?_
      refine lv_istore_n (lv' := [(2, .int (x2 + ((s.f 46) (Int32.toNatClampNeg x3)))), (0, .ref (a 41)), (1, .int x1), (3, .int x3)]) hx hb dX8_upTo_22 rfl hl (by decide) rfl (fun ls hl => ?_)
      refine lv_iinc (v := (x3 + 1)) (lv' := [(3, .int (x3 + 1)), (2, .int (x2 + ((s.f 46) (Int32.toNatClampNeg x3)))), (0, .ref (a 41)), (1, .int x1)]) hx hb dX8_upTo_23 hl (k := 3) rfl (rfl) (by decide) rfl (fun ls hl => ?_)
      refine lv_goto (tgt := 4) hx hb dX8_upTo_26 (by decide) ?_
      exact hk4 _ _ _ _ hB p e s0 m below meth c A E H locs ls hP hD hS (lv_sub hl [2, 3, 1, 0] rfl)
theorem bkX8_upTo_4L {l : Launch} {dC : Nat → ClassId} {dI : Nat → Nat → Nat} {cB cI cJ cZ cS : ClassId} {a : Nat → Nat} {as : List Value} {r : Int32} {s' : KS} : ∀ (n : Nat) (s : KS) (x1 : Int32) (x2 : Int32) (x3 : Int32), kX8_upTo_4L n s x1 x2 x3 = some (r, s') → BlkI l yX8_upTo wsX8_upTo ({ frames := 0, cells := 0, slots := 0, locals := 0 }) cX8_upTo 4 (some .int) (dC, dI) (tysA cB cI cJ cZ cS) as 4 (wK cB cI cJ cZ cS a s) [(0, .ref (a 41)), (1, .int x1), (2, .int x2), (3, .int x3)] [] (fun x u => x = r ∧ u = (wK cB cI cJ cZ cS a s')) := by
  intro n
  induction n with
  | zero => intro s x1 x2 x3 hB; exact none_ne hB
  | succ n ih => intro s x1 x2 x3 hB; exact bkX8_upTo_4 ih _ _ _ _ hB
set_option maxHeartbeats 4000000 in
set_option maxRecDepth 100000 in
theorem bkX8_upTo {l : Launch} {dC : Nat → ClassId} {dI : Nat → Nat → Nat} {cB cI cJ cZ cS : ClassId} {a : Nat → Nat} {as : List Value} {r : Int32} {s' : KS} (s : KS) (x1 : Int32) (hB : kX8_upTo s x1 = some (r, s')) : BlkI l yX8_upTo wsX8_upTo ({ frames := 0, cells := 0, slots := 0, locals := 0 }) cX8_upTo 4 (some .int) (dC, dI) (tysA cB cI cJ cZ cS) as 0 (wK cB cI cJ cZ cS a s) [(0, .ref (a 41)), (1, .int x1)] [] (fun x u => x = r ∧ u = (wK cB cI cJ cZ cS a s')) := by
  intro p e s0 m below meth c A E H locs ls hP hD hS hl
  obtain ⟨C, hr, hlocks, hA, hK, hN⟩ := id E
  obtain ⟨hx, hb, hml, hown, hts⟩ := id C
  unfold kX8_upTo at hB
  refine lv_iconst (v := 0) hx hb dX8_upTo_0 (by decide) ?_
  refine lv_istore_n (lv' := [(2, .int 0), (0, .ref (a 41)), (1, .int x1)]) hx hb dX8_upTo_1 rfl hl (by decide) rfl (fun ls hl => ?_)
  refine lv_iconst (v := 0) hx hb dX8_upTo_2 (by decide) ?_
  refine lv_istore_n (lv' := [(3, .int 0), (2, .int 0), (0, .ref (a 41)), (1, .int x1)]) hx hb dX8_upTo_3 rfl hl (by decide) rfl (fun ls hl => ?_)
  exact bkX8_upTo_4L fu _ _ _ _ hB p e s0 m below meth c A E H locs ls hP hD hS (lv_sub hl [2, 3, 1, 0] rfl)
theorem ckX8_upTo {l : Launch} {dC : Nat → ClassId} {dI : Nat → Nat → Nat} {cB cI cJ cZ cS : ClassId} {a : Nat → Nat} {r : Int32} {s' : KS} {s : KS} {x1 : Int32} (hB : kX8_upTo s x1 = some (r, s')) : CI l yX8_upTo wsX8_upTo ({ frames := 0, cells := 0, slots := 0, locals := 0 }) (dC, dI) (tysA cB cI cJ cZ cS) (wK cB cI cJ cZ cS a s) [.ref (a 41), .int x1] (fun x u => x = r ∧ u = (wK cB cI cJ cZ cS a s')) :=
  CI_of (cc := cX8_upTo) (maxL := 4) (ret := (some .int)) (by decide) rfl (Nat.le_of_ble_eq_true rfl) (bkX8_upTo _ _ hB)
theorem LX8_fittingWith_18 : Cond.fieldLink RX8 18 "GuessFerry$Tellers" "odds" "[I" ∈ wsX8_fittingWith := by decide +kernel
theorem LX8_fittingWith_21 : Cond.fieldLink RX8 21 "GuessFerry$Tellers" "belied" "[I" ∈ wsX8_fittingWith := by decide +kernel
theorem inX8_fittingWith_X8 : ∀ w ∈ u_ws RX8 TX8 8, w ∈ wsX8_fittingWith := by decide +kernel
set_option maxHeartbeats 4000000 in
set_option maxRecDepth 100000 in
theorem bkX8_fittingWith {l : Launch} {dC : Nat → ClassId} {dI : Nat → Nat → Nat} {cB cI cJ cZ cS : ClassId} {a : Nat → Nat} {as : List Value} {r : Int32} {s' : KS} (s : KS) (x1 : Int32) (x2 : Int32) (x3 : Int32) (hB : kX8_fittingWith s x1 x2 x3 = some (r, s')) : BlkI l yX8_fittingWith wsX8_fittingWith ({ frames := 1, cells := 0, slots := 0, locals := 23 }) cX8_fittingWith 5 (some .int) (dC, dI) (tysA cB cI cJ cZ cS) as 0 (wK cB cI cJ cZ cS a s) [(0, .ref (a 41)), (1, .int x1), (2, .int x2), (3, .int x3)] [] (fun x u => x = r ∧ u = (wK cB cI cJ cZ cS a s')) := by
  intro p e s0 m below meth c A E H locs ls hP hD hS hl
  obtain ⟨C, hr, hlocks, hA, hK, hN⟩ := id E
  obtain ⟨hx, hb, hml, hown, hts⟩ := id C
  unfold kX8_fittingWith at hB
  refine lv_iload_n hx hb dX8_fittingWith_0 rfl (lv_at hl 1 rfl) ?_
  refine lv_bipush (v := 6) hx hb dX8_fittingWith_1 (by decide) ?_
  refine lv_imul hx hb dX8_fittingWith_3 ?_
  refine lv_iload_n hx hb dX8_fittingWith_4 rfl (lv_at hl 2 rfl) ?_
  refine lv_iadd hx hb dX8_fittingWith_5 ?_
  refine lv_istore (lv' := [(4, .int ((x1 * 6) + x2)), (0, .ref (a 41)), (1, .int x1), (2, .int x2), (3, .int x3)]) hx hb dX8_fittingWith_6 hl (by decide) rfl (fun ls hl => ?_)
  refine lv_aload_n hx hb dX8_fittingWith_8 rfl (lv_at hl 1 rfl) ?_
  refine q_get (v := .ref (a 44)) C inX8_fittingWith_X8 hK hP 41 rfl rfl 4 (by decide) rfl LX8_fittingWith_18 rfl dX8_fittingWith_9 ?_
  refine lv_iload hx hb dX8_fittingWith_12 (lv_at hl 0 rfl) ?_
  obtain ⟨g1, hB⟩ := guard_inv hB
  refine q_iald (x := ((s.f 44) (Int32.toNatClampNeg ((x1 * 6) + x2)))) C hK hP 44 1 rfl rfl (vpb_in g1) dX8_fittingWith_14 rfl ?_
  refine lv_if_le (tgt := 34) hx hb dX8_fittingWith_15 (by decide) (fun c2 => ?_) (fun c2 => ?_)
  · have hB := if_p hB c2
    refine lv_iconst (v := 0) hx hb dX8_fittingWith_34 (by decide) ?_
    exact q_iret C hr hlocks hK hP hD hS (Nat.le_of_ble_eq_true rfl) (Nat.le_of_ble_eq_true rfl) dX8_fittingWith_35 (by cases hB; exact ⟨rfl, rfl⟩)
  · have hB := if_n hB c2
    refine lv_aload_n hx hb dX8_fittingWith_18 rfl (lv_at hl 1 rfl) ?_
    refine lv_iload_n hx hb dX8_fittingWith_19 rfl (lv_at hl 4 rfl) ?_
    refine lv_aload_n hx hb dX8_fittingWith_20 rfl (lv_at hl 1 rfl) ?_
    refine q_get (v := .ref (a 45)) C inX8_fittingWith_X8 hK hP 41 rfl rfl 5 (by decide) rfl LX8_fittingWith_21 rfl dX8_fittingWith_21 ?_
    refine lv_iload hx hb dX8_fittingWith_24 (lv_at hl 0 rfl) ?_
    obtain ⟨g3, hB⟩ := guard_inv hB
    refine q_iald (x := ((s.f 45) (Int32.toNatClampNeg ((x1 * 6) + x2)))) C hK hP 45 1 rfl rfl (vpb_in g3) dX8_fittingWith_26 rfl ?_
    refine lv_isub hx hb dX8_fittingWith_27 ?_
    obtain ⟨q_, s4, hc, hB⟩ := bindI_inv hB
    refine q_goiF (va_runV (As := [.int (x3 - ((s.f 45) (Int32.toNatClampNeg ((x1 * 6) + x2))))]) (rest := []) C (ckX8_upTo hc _) (cwV 1 hts gX8_fittingWith_X8_upTo rfl rfl rfl (by decide +kernel) ⟨Nat.le_of_ble_eq_true rfl, Nat.le_of_ble_eq_true rfl⟩) (q_preV hK hP (ci := 8) (q0 := 41) rfl rfl rfl (q_preF hN hK hP hD)) rfl rfl hl.1 rfl (lv_room (Nat.le_of_ble_eq_true rfl)) dX8_fittingWith_28 ⟨Nat.le_of_ble_eq_true rfl, Nat.le_of_ble_eq_true rfl⟩) hD hS hA (fun r5 w1 H locs hw hP hD hS => ?_)
    obtain ⟨hq_, hw⟩ := hw; subst hw; subst hq_
    refine lv_goto (tgt := 35) hx hb dX8_fittingWith_31 (by decide) ?_
    exact q_iret C hr hlocks hK hP hD hS (Nat.le_of_ble_eq_true rfl) (Nat.le_of_ble_eq_true rfl) dX8_fittingWith_35 (by cases hB; exact ⟨rfl, rfl⟩)
theorem ckX8_fittingWith {l : Launch} {dC : Nat → ClassId} {dI : Nat → Nat → Nat} {cB cI cJ cZ cS : ClassId} {a : Nat → Nat} {r : Int32} {s' : KS} {s : KS} {x1 : Int32} {x2 : Int32} {x3 : Int32} (hB : kX8_fittingWith s x1 x2 x3 = some (r, s')) : CI l yX8_fittingWith wsX8_fittingWith ({ frames := 1, cells := 0, slots := 0, locals := 23 }) (dC, dI) (tysA cB cI cJ cZ cS) (wK cB cI cJ cZ cS a s) [.ref (a 41), .int x1, .int x2, .int x3] (fun x u => x = r ∧ u = (wK cB cI cJ cZ cS a s')) :=
  CI_of (cc := cX8_fittingWith) (maxL := 5) (ret := (some .int)) (by decide) rfl (Nat.le_of_ble_eq_true rfl) (bkX8_fittingWith _ _ _ _ hB)
set_option maxHeartbeats 4000000 in
set_option maxRecDepth 100000 in
theorem bkX9_isBlank {l : Launch} {dC : Nat → ClassId} {dI : Nat → Nat → Nat} {cB cI cJ cZ cS : ClassId} {as : List Value} {r : Int32} (x0 : Int32) (hB : kX9_isBlank x0 = some r) : BlkI l yX9_isBlank wsX9_isBlank ({ frames := 0, cells := 0, slots := 0, locals := 0 }) cX9_isBlank 1 (some .boolean) (dC, dI) (tysA cB cI cJ cZ cS) as 0 [] [(0, .int x0)] [] (fun x _ => x = r) := by
  intro p e s0 m below meth c A E H locs ls hP hD hS hl
  obtain ⟨C, hr, hlocks, hA, hK, hN⟩ := id E
  obtain ⟨hx, hb, hml, hown, hts⟩ := id C
  unfold kX9_isBlank at hB
  refine lv_iload_n hx hb dX9_isBlank_0 rfl (lv_at hl 0 rfl) ?_
  refine lv_bipush (v := 9) hx hb dX9_isBlank_1 (by decide) ?_
  refine lv_icmp_eq (tgt := 24) hx hb dX9_isBlank_3 (by decide) (fun c1 => ?_) (fun c1 => ?_)
  · have hB := if_p hB c1
    refine lv_iconst (v := 1) hx hb dX9_isBlank_24 (by decide) ?_
    refine lv_goto (tgt := 29) hx hb dX9_isBlank_25 (by decide) ?_
    exact q_zret C hr hlocks (Or.inr rfl) hK hP hD hS (Nat.le_of_ble_eq_true rfl) (Nat.le_of_ble_eq_true rfl) dX9_isBlank_29 (by cases hB; rfl)
  · have hB := if_n hB c1
    refine lv_iload_n hx hb dX9_isBlank_6 rfl (lv_at hl 0 rfl) ?_
    refine lv_bipush (v := 10) hx hb dX9_isBlank_7 (by decide) ?_
    refine lv_icmp_eq (tgt := 24) hx hb dX9_isBlank_9 (by decide) (fun c2 => ?_) (fun c2 => ?_)
    · have hB := if_p hB c2
      refine lv_iconst (v := 1) hx hb dX9_isBlank_24 (by decide) ?_
      refine lv_goto (tgt := 29) hx hb dX9_isBlank_25 (by decide) ?_
      exact q_zret C hr hlocks (Or.inr rfl) hK hP hD hS (Nat.le_of_ble_eq_true rfl) (Nat.le_of_ble_eq_true rfl) dX9_isBlank_29 (by cases hB; rfl)
    · have hB := if_n hB c2
      refine lv_iload_n hx hb dX9_isBlank_12 rfl (lv_at hl 0 rfl) ?_
      refine lv_bipush (v := 13) hx hb dX9_isBlank_13 (by decide) ?_
      refine lv_icmp_eq (tgt := 24) hx hb dX9_isBlank_15 (by decide) (fun c3 => ?_) (fun c3 => ?_)
      · have hB := if_p hB c3
        refine lv_iconst (v := 1) hx hb dX9_isBlank_24 (by decide) ?_
        refine lv_goto (tgt := 29) hx hb dX9_isBlank_25 (by decide) ?_
        exact q_zret C hr hlocks (Or.inr rfl) hK hP hD hS (Nat.le_of_ble_eq_true rfl) (Nat.le_of_ble_eq_true rfl) dX9_isBlank_29 (by cases hB; rfl)
      · have hB := if_n hB c3
        refine lv_iload_n hx hb dX9_isBlank_18 rfl (lv_at hl 0 rfl) ?_
        refine lv_bipush (v := 32) hx hb dX9_isBlank_19 (by decide) ?_
        refine lv_icmp_ne (tgt := 28) hx hb dX9_isBlank_21 (by decide) (fun c4 => ?_) (fun c4 => ?_)
        · have hB := if_n hB c4
          refine lv_iconst (v := 0) hx hb dX9_isBlank_28 (by decide) ?_
          exact q_zret C hr hlocks (Or.inl rfl) hK hP hD hS (Nat.le_of_ble_eq_true rfl) (Nat.le_of_ble_eq_true rfl) dX9_isBlank_29 (by cases hB; rfl)
        · have hB := if_p hB c4
          refine lv_iconst (v := 1) hx hb dX9_isBlank_24 (by decide) ?_
          refine lv_goto (tgt := 29) hx hb dX9_isBlank_25 (by decide) ?_
          exact q_zret C hr hlocks (Or.inr rfl) hK hP hD hS (Nat.le_of_ble_eq_true rfl) (Nat.le_of_ble_eq_true rfl) dX9_isBlank_29 (by cases hB; rfl)
theorem ckX9_isBlank {l : Launch} {dC : Nat → ClassId} {dI : Nat → Nat → Nat} {cB cI cJ cZ cS : ClassId} {r : Int32} {x0 : Int32} (hB : kX9_isBlank x0 = some r) : CI l yX9_isBlank wsX9_isBlank ({ frames := 0, cells := 0, slots := 0, locals := 0 }) (dC, dI) (tysA cB cI cJ cZ cS) [] [.int x0] (fun x _ => x = r) :=
  CI_of (cc := cX9_isBlank) (maxL := 1) (ret := (some .boolean)) (by decide) rfl (Nat.le_of_ble_eq_true rfl) (bkX9_isBlank _ hB)
