section
theorem dX0_mayBe_0 : decode cX0_mayBe 0 = .ok (.aload_n 1, 1) := dc1_43 (by decide +kernel)
theorem dX0_mayBe_1 : decode cX0_mayBe 1 = .ok (.getfield 28, 3) := dcw_180 (by decide +kernel)
theorem dX0_mayBe_4 : decode cX0_mayBe 4 = .ok (.iload_n 2, 1) := dc1_28 (by decide +kernel)
theorem dX0_mayBe_5 : decode cX0_mayBe 5 = .ok (.iaload, 1) := dc1_46 (by decide +kernel)
theorem dX0_mayBe_6 : decode cX0_mayBe 6 = .ok (.iconst (-1), 1) := dc1_2 (by decide +kernel)
theorem dX0_mayBe_7 : decode cX0_mayBe 7 = .ok (.if_icmp .eq 12, 3) := dcs_159 (n := 12) (by decide +kernel)
theorem dX0_mayBe_10 : decode cX0_mayBe 10 = .ok (.iconst 1, 1) := dc1_4 (by decide +kernel)
theorem dX0_mayBe_11 : decode cX0_mayBe 11 = .ok (.aload_n 1, 1) := dc1_43 (by decide +kernel)
theorem dX0_mayBe_12 : decode cX0_mayBe 12 = .ok (.getfield 28, 3) := dcw_180 (by decide +kernel)
theorem dX0_mayBe_15 : decode cX0_mayBe 15 = .ok (.iload_n 2, 1) := dc1_28 (by decide +kernel)
theorem dX0_mayBe_16 : decode cX0_mayBe 16 = .ok (.iaload, 1) := dc1_46 (by decide +kernel)
theorem dX0_mayBe_17 : decode cX0_mayBe 17 = .ok (.ishl, 1) := dc1_120 (by decide +kernel)
theorem dX0_mayBe_18 : decode cX0_mayBe 18 = .ok (.ireturn, 1) := dc1_172 (by decide +kernel)
theorem dX0_mayBe_19 : decode cX0_mayBe 19 = .ok (.aload_n 0, 1) := dc1_42 (by decide +kernel)
theorem dX0_mayBe_20 : decode cX0_mayBe 20 = .ok (.getfield 9, 3) := dcw_180 (by decide +kernel)
theorem dX0_mayBe_23 : decode cX0_mayBe 23 = .ok (.getfield 33, 3) := dcw_180 (by decide +kernel)
theorem dX0_mayBe_26 : decode cX0_mayBe 26 = .ok (.iload_n 2, 1) := dc1_28 (by decide +kernel)
theorem dX0_mayBe_27 : decode cX0_mayBe 27 = .ok (.iaload, 1) := dc1_46 (by decide +kernel)
theorem dX0_mayBe_28 : decode cX0_mayBe 28 = .ok (.aload_n 1, 1) := dc1_43 (by decide +kernel)
theorem dX0_mayBe_29 : decode cX0_mayBe 29 = .ok (.getfield 36, 3) := dcw_180 (by decide +kernel)
theorem dX0_mayBe_32 : decode cX0_mayBe 32 = .ok (.iload_n 2, 1) := dc1_28 (by decide +kernel)
theorem dX0_mayBe_33 : decode cX0_mayBe 33 = .ok (.iaload, 1) := dc1_46 (by decide +kernel)
theorem dX0_mayBe_34 : decode cX0_mayBe 34 = .ok (.iconst (-1), 1) := dc1_2 (by decide +kernel)
theorem dX0_mayBe_35 : decode cX0_mayBe 35 = .ok (.ixor, 1) := dc1_130 (by decide +kernel)
theorem dX0_mayBe_36 : decode cX0_mayBe 36 = .ok (.iand, 1) := dc1_126 (by decide +kernel)
theorem dX0_mayBe_37 : decode cX0_mayBe 37 = .ok (.ireturn, 1) := dc1_172 (by decide +kernel)
theorem dX0_setParty_0 : decode cX0_setParty 0 = .ok (.aload_n 0, 1) := dc1_42 (by decide +kernel)
theorem dX0_setParty_1 : decode cX0_setParty 1 = .ok (.getfield 27, 3) := dcw_180 (by decide +kernel)
theorem dX0_setParty_4 : decode cX0_setParty 4 = .ok (.iconst 2, 1) := dc1_5 (by decide +kernel)
theorem dX0_setParty_5 : decode cX0_setParty 5 = .ok (.aload_n 0, 1) := dc1_42 (by decide +kernel)
theorem dX0_setParty_6 : decode cX0_setParty 6 = .ok (.getfield 9, 3) := dcw_180 (by decide +kernel)
theorem dX0_setParty_9 : decode cX0_setParty 9 = .ok (.getfield 62, 3) := dcw_180 (by decide +kernel)
theorem dX0_setParty_12 : decode cX0_setParty 12 = .ok (.iload_n 2, 1) := dc1_28 (by decide +kernel)
theorem dX0_setParty_13 : decode cX0_setParty 13 = .ok (.iaload, 1) := dc1_46 (by decide +kernel)
theorem dX0_setParty_14 : decode cX0_setParty 14 = .ok (.iastore, 1) := dc1_79 (by decide +kernel)
theorem dX0_setParty_15 : decode cX0_setParty 15 = .ok (.aload_n 0, 1) := dc1_42 (by decide +kernel)
theorem dX0_setParty_16 : decode cX0_setParty 16 = .ok (.getfield 27, 3) := dcw_180 (by decide +kernel)
theorem dX0_setParty_19 : decode cX0_setParty 19 = .ok (.iconst 3, 1) := dc1_6 (by decide +kernel)
theorem dX0_setParty_20 : decode cX0_setParty 20 = .ok (.aload_n 0, 1) := dc1_42 (by decide +kernel)
theorem dX0_setParty_21 : decode cX0_setParty 21 = .ok (.getfield 9, 3) := dcw_180 (by decide +kernel)
theorem dX0_setParty_24 : decode cX0_setParty 24 = .ok (.getfield 65, 3) := dcw_180 (by decide +kernel)
theorem dX0_setParty_27 : decode cX0_setParty 27 = .ok (.iload_n 2, 1) := dc1_28 (by decide +kernel)
theorem dX0_setParty_28 : decode cX0_setParty 28 = .ok (.iaload, 1) := dc1_46 (by decide +kernel)
theorem dX0_setParty_29 : decode cX0_setParty 29 = .ok (.iastore, 1) := dc1_79 (by decide +kernel)
theorem dX0_setParty_30 : decode cX0_setParty 30 = .ok (.aload_n 0, 1) := dc1_42 (by decide +kernel)
theorem dX0_setParty_31 : decode cX0_setParty 31 = .ok (.getfield 27, 3) := dcw_180 (by decide +kernel)
theorem dX0_setParty_34 : decode cX0_setParty 34 = .ok (.bipush 6, 2) := dcb_16 (n := 6) (by decide +kernel)
theorem dX0_setParty_36 : decode cX0_setParty 36 = .ok (.iload_n 2, 1) := dc1_28 (by decide +kernel)
theorem dX0_setParty_37 : decode cX0_setParty 37 = .ok (.iastore, 1) := dc1_79 (by decide +kernel)
theorem dX0_setParty_38 : decode cX0_setParty 38 = .ok (.aload_n 0, 1) := dc1_42 (by decide +kernel)
theorem dX0_setParty_39 : decode cX0_setParty 39 = .ok (.getfield 27, 3) := dcw_180 (by decide +kernel)
theorem dX0_setParty_42 : decode cX0_setParty 42 = .ok (.bipush 8, 2) := dcb_16 (n := 8) (by decide +kernel)
theorem dX0_setParty_44 : decode cX0_setParty 44 = .ok (.aload_n 1, 1) := dc1_43 (by decide +kernel)
theorem dX0_setParty_45 : decode cX0_setParty 45 = .ok (.getfield 68, 3) := dcw_180 (by decide +kernel)
theorem dX0_setParty_48 : decode cX0_setParty 48 = .ok (.iload_n 2, 1) := dc1_28 (by decide +kernel)
theorem dX0_setParty_49 : decode cX0_setParty 49 = .ok (.iaload, 1) := dc1_46 (by decide +kernel)
theorem dX0_setParty_50 : decode cX0_setParty 50 = .ok (.iastore, 1) := dc1_79 (by decide +kernel)
theorem dX0_setParty_51 : decode cX0_setParty 51 = .ok (.return_, 1) := dc1_177 (by decide +kernel)
theorem dX1_copyFrom_0 : decode cX1_copyFrom 0 = .ok (.aload_n 1, 1) := dc1_43 (by decide +kernel)
theorem dX1_copyFrom_1 : decode cX1_copyFrom 1 = .ok (.getfield 15, 3) := dcw_180 (by decide +kernel)
theorem dX1_copyFrom_4 : decode cX1_copyFrom 4 = .ok (.iconst 0, 1) := dc1_3 (by decide +kernel)
theorem dX1_copyFrom_5 : decode cX1_copyFrom 5 = .ok (.aload_n 0, 1) := dc1_42 (by decide +kernel)
theorem dX1_copyFrom_6 : decode cX1_copyFrom 6 = .ok (.getfield 15, 3) := dcw_180 (by decide +kernel)
theorem dX1_copyFrom_9 : decode cX1_copyFrom 9 = .ok (.iconst 0, 1) := dc1_3 (by decide +kernel)
theorem dX1_copyFrom_10 : decode cX1_copyFrom 10 = .ok (.sipush 404, 3) := dcs_17 (n := 404) (by decide +kernel)
theorem dX1_copyFrom_13 : decode cX1_copyFrom 13 = .ok (.invokestatic 51, 3) := dcw_184 (by decide +kernel)
theorem dX1_copyFrom_16 : decode cX1_copyFrom 16 = .ok (.aload_n 1, 1) := dc1_43 (by decide +kernel)
theorem dX1_copyFrom_17 : decode cX1_copyFrom 17 = .ok (.getfield 19, 3) := dcw_180 (by decide +kernel)
theorem dX1_copyFrom_20 : decode cX1_copyFrom 20 = .ok (.iconst 0, 1) := dc1_3 (by decide +kernel)
theorem dX1_copyFrom_21 : decode cX1_copyFrom 21 = .ok (.aload_n 0, 1) := dc1_42 (by decide +kernel)
theorem dX1_copyFrom_22 : decode cX1_copyFrom 22 = .ok (.getfield 19, 3) := dcw_180 (by decide +kernel)
theorem dX1_copyFrom_25 : decode cX1_copyFrom 25 = .ok (.iconst 0, 1) := dc1_3 (by decide +kernel)
theorem dX1_copyFrom_26 : decode cX1_copyFrom 26 = .ok (.bipush 52, 2) := dcb_16 (n := 52) (by decide +kernel)
theorem dX1_copyFrom_28 : decode cX1_copyFrom 28 = .ok (.invokestatic 51, 3) := dcw_184 (by decide +kernel)
theorem dX1_copyFrom_31 : decode cX1_copyFrom 31 = .ok (.aload_n 1, 1) := dc1_43 (by decide +kernel)
theorem dX1_copyFrom_32 : decode cX1_copyFrom 32 = .ok (.getfield 22, 3) := dcw_180 (by decide +kernel)
theorem dX1_copyFrom_35 : decode cX1_copyFrom 35 = .ok (.iconst 0, 1) := dc1_3 (by decide +kernel)
theorem dX1_copyFrom_36 : decode cX1_copyFrom 36 = .ok (.aload_n 0, 1) := dc1_42 (by decide +kernel)
theorem dX1_copyFrom_37 : decode cX1_copyFrom 37 = .ok (.getfield 22, 3) := dcw_180 (by decide +kernel)
theorem dX1_copyFrom_40 : decode cX1_copyFrom 40 = .ok (.iconst 0, 1) := dc1_3 (by decide +kernel)
theorem dX1_copyFrom_41 : decode cX1_copyFrom 41 = .ok (.iconst 4, 1) := dc1_7 (by decide +kernel)
theorem dX1_copyFrom_42 : decode cX1_copyFrom 42 = .ok (.invokestatic 51, 3) := dcw_184 (by decide +kernel)
theorem dX1_copyFrom_45 : decode cX1_copyFrom 45 = .ok (.aload_n 1, 1) := dc1_43 (by decide +kernel)
theorem dX1_copyFrom_46 : decode cX1_copyFrom 46 = .ok (.getfield 25, 3) := dcw_180 (by decide +kernel)
theorem dX1_copyFrom_49 : decode cX1_copyFrom 49 = .ok (.iconst 0, 1) := dc1_3 (by decide +kernel)
theorem dX1_copyFrom_50 : decode cX1_copyFrom 50 = .ok (.aload_n 0, 1) := dc1_42 (by decide +kernel)
theorem dX1_copyFrom_51 : decode cX1_copyFrom 51 = .ok (.getfield 25, 3) := dcw_180 (by decide +kernel)
theorem dX1_copyFrom_54 : decode cX1_copyFrom 54 = .ok (.iconst 0, 1) := dc1_3 (by decide +kernel)
theorem dX1_copyFrom_55 : decode cX1_copyFrom 55 = .ok (.iconst 4, 1) := dc1_7 (by decide +kernel)
theorem dX1_copyFrom_56 : decode cX1_copyFrom 56 = .ok (.invokestatic 51, 3) := dcw_184 (by decide +kernel)
theorem dX1_copyFrom_59 : decode cX1_copyFrom 59 = .ok (.aload_n 0, 1) := dc1_42 (by decide +kernel)
theorem dX1_copyFrom_60 : decode cX1_copyFrom 60 = .ok (.aload_n 1, 1) := dc1_43 (by decide +kernel)
theorem dX1_copyFrom_61 : decode cX1_copyFrom 61 = .ok (.getfield 34, 3) := dcw_180 (by decide +kernel)
theorem dX1_copyFrom_64 : decode cX1_copyFrom 64 = .ok (.putfield 34, 3) := dcw_181 (by decide +kernel)
theorem dX1_copyFrom_67 : decode cX1_copyFrom 67 = .ok (.return_, 1) := dc1_177 (by decide +kernel)
theorem dX1_begin_0 : decode cX1_begin 0 = .ok (.aload_n 0, 1) := dc1_42 (by decide +kernel)
theorem dX1_begin_1 : decode cX1_begin 1 = .ok (.iload_n 1, 1) := dc1_27 (by decide +kernel)
theorem dX1_begin_2 : decode cX1_begin 2 = .ok (.putfield 57, 3) := dcw_181 (by decide +kernel)
theorem dX1_begin_5 : decode cX1_begin 5 = .ok (.aload_n 0, 1) := dc1_42 (by decide +kernel)
theorem dX1_begin_6 : decode cX1_begin 6 = .ok (.getfield 22, 3) := dcw_180 (by decide +kernel)
theorem dX1_begin_9 : decode cX1_begin 9 = .ok (.iload_n 1, 1) := dc1_27 (by decide +kernel)
theorem dX1_begin_10 : decode cX1_begin 10 = .ok (.aload_n 0, 1) := dc1_42 (by decide +kernel)
theorem dX1_begin_11 : decode cX1_begin 11 = .ok (.getfield 34, 3) := dcw_180 (by decide +kernel)
theorem dX1_begin_14 : decode cX1_begin 14 = .ok (.iastore, 1) := dc1_79 (by decide +kernel)
theorem dX1_begin_15 : decode cX1_begin 15 = .ok (.aload_n 0, 1) := dc1_42 (by decide +kernel)
theorem dX1_begin_16 : decode cX1_begin 16 = .ok (.getfield 25, 3) := dcw_180 (by decide +kernel)
theorem dX1_begin_19 : decode cX1_begin 19 = .ok (.iload_n 1, 1) := dc1_27 (by decide +kernel)
theorem dX1_begin_20 : decode cX1_begin 20 = .ok (.iconst 0, 1) := dc1_3 (by decide +kernel)
theorem dX1_begin_21 : decode cX1_begin 21 = .ok (.iastore, 1) := dc1_79 (by decide +kernel)
theorem dX1_begin_22 : decode cX1_begin 22 = .ok (.return_, 1) := dc1_177 (by decide +kernel)
theorem dX1_endPart_0 : decode cX1_endPart 0 = .ok (.aload_n 0, 1) := dc1_42 (by decide +kernel)
theorem dX1_endPart_1 : decode cX1_endPart 1 = .ok (.getfield 25, 3) := dcw_180 (by decide +kernel)
theorem dX1_endPart_4 : decode cX1_endPart 4 = .ok (.aload_n 0, 1) := dc1_42 (by decide +kernel)
theorem dX1_endPart_5 : decode cX1_endPart 5 = .ok (.getfield 57, 3) := dcw_180 (by decide +kernel)
theorem dX1_endPart_8 : decode cX1_endPart 8 = .ok (.iaload, 1) := dc1_46 (by decide +kernel)
theorem dX1_endPart_9 : decode cX1_endPart 9 = .ok (.istore_n 1, 1) := dc1_60 (by decide +kernel)
theorem dX1_endPart_10 : decode cX1_endPart 10 = .ok (.iload_n 1, 1) := dc1_27 (by decide +kernel)
theorem dX1_endPart_11 : decode cX1_endPart 11 = .ok (.bipush 13, 2) := dcb_16 (n := 13) (by decide +kernel)
theorem dX1_endPart_13 : decode cX1_endPart 13 = .ok (.if_icmp .ge 33, 3) := dcs_162 (n := 33) (by decide +kernel)
theorem dX1_endPart_16 : decode cX1_endPart 16 = .ok (.aload_n 0, 1) := dc1_42 (by decide +kernel)
theorem dX1_endPart_17 : decode cX1_endPart 17 = .ok (.getfield 19, 3) := dcw_180 (by decide +kernel)
theorem dX1_endPart_20 : decode cX1_endPart 20 = .ok (.aload_n 0, 1) := dc1_42 (by decide +kernel)
theorem dX1_endPart_21 : decode cX1_endPart 21 = .ok (.getfield 57, 3) := dcw_180 (by decide +kernel)
theorem dX1_endPart_24 : decode cX1_endPart 24 = .ok (.bipush 13, 2) := dcb_16 (n := 13) (by decide +kernel)
theorem dX1_endPart_26 : decode cX1_endPart 26 = .ok (.imul, 1) := dc1_104 (by decide +kernel)
theorem dX1_endPart_27 : decode cX1_endPart 27 = .ok (.iload_n 1, 1) := dc1_27 (by decide +kernel)
theorem dX1_endPart_28 : decode cX1_endPart 28 = .ok (.iadd, 1) := dc1_96 (by decide +kernel)
theorem dX1_endPart_29 : decode cX1_endPart 29 = .ok (.aload_n 0, 1) := dc1_42 (by decide +kernel)
theorem dX1_endPart_30 : decode cX1_endPart 30 = .ok (.getfield 34, 3) := dcw_180 (by decide +kernel)
theorem dX1_endPart_33 : decode cX1_endPart 33 = .ok (.iastore, 1) := dc1_79 (by decide +kernel)
theorem dX1_endPart_34 : decode cX1_endPart 34 = .ok (.aload_n 0, 1) := dc1_42 (by decide +kernel)
theorem dX1_endPart_35 : decode cX1_endPart 35 = .ok (.getfield 25, 3) := dcw_180 (by decide +kernel)
theorem dX1_endPart_38 : decode cX1_endPart 38 = .ok (.aload_n 0, 1) := dc1_42 (by decide +kernel)
theorem dX1_endPart_39 : decode cX1_endPart 39 = .ok (.getfield 57, 3) := dcw_180 (by decide +kernel)
theorem dX1_endPart_42 : decode cX1_endPart 42 = .ok (.iload_n 1, 1) := dc1_27 (by decide +kernel)
theorem dX1_endPart_43 : decode cX1_endPart 43 = .ok (.iconst 1, 1) := dc1_4 (by decide +kernel)
theorem dX1_endPart_44 : decode cX1_endPart 44 = .ok (.iadd, 1) := dc1_96 (by decide +kernel)
theorem dX1_endPart_45 : decode cX1_endPart 45 = .ok (.iastore, 1) := dc1_79 (by decide +kernel)
theorem dX1_endPart_46 : decode cX1_endPart 46 = .ok (.return_, 1) := dc1_177 (by decide +kernel)
theorem dX1_put_0 : decode cX1_put 0 = .ok (.aload_n 0, 1) := dc1_42 (by decide +kernel)
theorem dX1_put_1 : decode cX1_put 1 = .ok (.getfield 34, 3) := dcw_180 (by decide +kernel)
theorem dX1_put_4 : decode cX1_put 4 = .ok (.sipush 404, 3) := dcs_17 (n := 404) (by decide +kernel)
theorem dX1_put_7 : decode cX1_put 7 = .ok (.if_icmp .ge 23, 3) := dcs_162 (n := 23) (by decide +kernel)
theorem dX1_put_10 : decode cX1_put 10 = .ok (.aload_n 0, 1) := dc1_42 (by decide +kernel)
theorem dX1_put_11 : decode cX1_put 11 = .ok (.getfield 15, 3) := dcw_180 (by decide +kernel)
theorem dX1_put_14 : decode cX1_put 14 = .ok (.aload_n 0, 1) := dc1_42 (by decide +kernel)
theorem dX1_put_15 : decode cX1_put 15 = .ok (.getfield 34, 3) := dcw_180 (by decide +kernel)
theorem dX1_put_18 : decode cX1_put 18 = .ok (.iload_n 1, 1) := dc1_27 (by decide +kernel)
theorem dX1_put_19 : decode cX1_put 19 = .ok (.iastore, 1) := dc1_79 (by decide +kernel)
theorem dX1_put_20 : decode cX1_put 20 = .ok (.aload_n 0, 1) := dc1_42 (by decide +kernel)
theorem dX1_put_21 : decode cX1_put 21 = .ok (.dup, 1) := dc1_89 (by decide +kernel)
theorem dX1_put_22 : decode cX1_put 22 = .ok (.getfield 34, 3) := dcw_180 (by decide +kernel)
theorem dX1_put_25 : decode cX1_put 25 = .ok (.iconst 1, 1) := dc1_4 (by decide +kernel)
theorem dX1_put_26 : decode cX1_put 26 = .ok (.iadd, 1) := dc1_96 (by decide +kernel)
theorem dX1_put_27 : decode cX1_put 27 = .ok (.putfield 34, 3) := dcw_181 (by decide +kernel)
theorem dX1_put_30 : decode cX1_put 30 = .ok (.return_, 1) := dc1_177 (by decide +kernel)
theorem dX1_joined_0 : decode cX1_joined 0 = .ok (.iload_n 1, 1) := dc1_27 (by decide +kernel)
theorem dX1_joined_1 : decode cX1_joined 1 = .ok (.tableswitch 43 42 45 #[39, 31, 43, 35], 31) := by decide +kernel
theorem dX1_joined_32 : decode cX1_joined 32 = .ok (.iload_n 2, 1) := dc1_28 (by decide +kernel)
theorem dX1_joined_33 : decode cX1_joined 33 = .ok (.iload_n 3, 1) := dc1_29 (by decide +kernel)
theorem dX1_joined_34 : decode cX1_joined 34 = .ok (.iadd, 1) := dc1_96 (by decide +kernel)
theorem dX1_joined_35 : decode cX1_joined 35 = .ok (.ireturn, 1) := dc1_172 (by decide +kernel)
theorem dX1_joined_36 : decode cX1_joined 36 = .ok (.iload_n 2, 1) := dc1_28 (by decide +kernel)
theorem dX1_joined_37 : decode cX1_joined 37 = .ok (.iload_n 3, 1) := dc1_29 (by decide +kernel)
theorem dX1_joined_38 : decode cX1_joined 38 = .ok (.isub, 1) := dc1_100 (by decide +kernel)
theorem dX1_joined_39 : decode cX1_joined 39 = .ok (.ireturn, 1) := dc1_172 (by decide +kernel)
theorem dX1_joined_40 : decode cX1_joined 40 = .ok (.iload_n 2, 1) := dc1_28 (by decide +kernel)
theorem dX1_joined_41 : decode cX1_joined 41 = .ok (.iload_n 3, 1) := dc1_29 (by decide +kernel)
theorem dX1_joined_42 : decode cX1_joined 42 = .ok (.imul, 1) := dc1_104 (by decide +kernel)
theorem dX1_joined_43 : decode cX1_joined 43 = .ok (.ireturn, 1) := dc1_172 (by decide +kernel)
theorem dX1_joined_44 : decode cX1_joined 44 = .ok (.iload_n 3, 1) := dc1_29 (by decide +kernel)
theorem dX1_joined_45 : decode cX1_joined 45 = .ok (.ifCond .ne 10, 3) := dcs_154 (n := 10) (by decide +kernel)
theorem dX1_joined_48 : decode cX1_joined 48 = .ok (.aload_n 0, 1) := dc1_42 (by decide +kernel)
theorem dX1_joined_49 : decode cX1_joined 49 = .ok (.iconst 1, 1) := dc1_4 (by decide +kernel)
theorem dX1_joined_50 : decode cX1_joined 50 = .ok (.putfield 63, 3) := dcw_181 (by decide +kernel)
theorem dX1_joined_53 : decode cX1_joined 53 = .ok (.iconst 0, 1) := dc1_3 (by decide +kernel)
theorem dX1_joined_54 : decode cX1_joined 54 = .ok (.ireturn, 1) := dc1_172 (by decide +kernel)
theorem dX1_joined_55 : decode cX1_joined 55 = .ok (.iload_n 2, 1) := dc1_28 (by decide +kernel)
theorem dX1_joined_56 : decode cX1_joined 56 = .ok (.iload_n 3, 1) := dc1_29 (by decide +kernel)
theorem dX1_joined_57 : decode cX1_joined 57 = .ok (.idiv, 1) := dc1_108 (by decide +kernel)
theorem dX1_joined_58 : decode cX1_joined 58 = .ok (.ireturn, 1) := dc1_172 (by decide +kernel)
theorem dX2_putOnTop_0 : decode cX2_putOnTop 0 = .ok (.iload_n 3, 1) := dc1_29 (by decide +kernel)
theorem dX2_putOnTop_1 : decode cX2_putOnTop 1 = .ok (.istore 4, 2) := dcu_54 (by decide +kernel)
theorem dX2_putOnTop_3 : decode cX2_putOnTop 3 = .ok (.iload 4, 2) := dcu_21 (by decide +kernel)
theorem dX2_putOnTop_5 : decode cX2_putOnTop 5 = .ok (.ifCond .le 54, 3) := dcs_158 (n := 54) (by decide +kernel)
theorem dX2_putOnTop_8 : decode cX2_putOnTop 8 = .ok (.aload_n 0, 1) := dc1_42 (by decide +kernel)
theorem dX2_putOnTop_9 : decode cX2_putOnTop 9 = .ok (.getfield 21, 3) := dcw_180 (by decide +kernel)
theorem dX2_putOnTop_12 : decode cX2_putOnTop 12 = .ok (.iload 4, 2) := dcu_21 (by decide +kernel)
theorem dX2_putOnTop_14 : decode cX2_putOnTop 14 = .ok (.iconst 1, 1) := dc1_4 (by decide +kernel)
theorem dX2_putOnTop_15 : decode cX2_putOnTop 15 = .ok (.isub, 1) := dc1_100 (by decide +kernel)
theorem dX2_putOnTop_16 : decode cX2_putOnTop 16 = .ok (.iaload, 1) := dc1_46 (by decide +kernel)
theorem dX2_putOnTop_17 : decode cX2_putOnTop 17 = .ok (.iload_n 2, 1) := dc1_28 (by decide +kernel)
theorem dX2_putOnTop_18 : decode cX2_putOnTop 18 = .ok (.if_icmp .ge 41, 3) := dcs_162 (n := 41) (by decide +kernel)
theorem dX2_putOnTop_21 : decode cX2_putOnTop 21 = .ok (.aload_n 0, 1) := dc1_42 (by decide +kernel)
theorem dX2_putOnTop_22 : decode cX2_putOnTop 22 = .ok (.getfield 21, 3) := dcw_180 (by decide +kernel)
theorem dX2_putOnTop_25 : decode cX2_putOnTop 25 = .ok (.iload 4, 2) := dcu_21 (by decide +kernel)
theorem dX2_putOnTop_27 : decode cX2_putOnTop 27 = .ok (.aload_n 0, 1) := dc1_42 (by decide +kernel)
theorem dX2_putOnTop_28 : decode cX2_putOnTop 28 = .ok (.getfield 21, 3) := dcw_180 (by decide +kernel)
theorem dX2_putOnTop_31 : decode cX2_putOnTop 31 = .ok (.iload 4, 2) := dcu_21 (by decide +kernel)
theorem dX2_putOnTop_33 : decode cX2_putOnTop 33 = .ok (.iconst 1, 1) := dc1_4 (by decide +kernel)
theorem dX2_putOnTop_34 : decode cX2_putOnTop 34 = .ok (.isub, 1) := dc1_100 (by decide +kernel)
theorem dX2_putOnTop_35 : decode cX2_putOnTop 35 = .ok (.iaload, 1) := dc1_46 (by decide +kernel)
theorem dX2_putOnTop_36 : decode cX2_putOnTop 36 = .ok (.iastore, 1) := dc1_79 (by decide +kernel)
theorem dX2_putOnTop_37 : decode cX2_putOnTop 37 = .ok (.aload_n 0, 1) := dc1_42 (by decide +kernel)
theorem dX2_putOnTop_38 : decode cX2_putOnTop 38 = .ok (.getfield 18, 3) := dcw_180 (by decide +kernel)
theorem dX2_putOnTop_41 : decode cX2_putOnTop 41 = .ok (.iload 4, 2) := dcu_21 (by decide +kernel)
theorem dX2_putOnTop_43 : decode cX2_putOnTop 43 = .ok (.aload_n 0, 1) := dc1_42 (by decide +kernel)
theorem dX2_putOnTop_44 : decode cX2_putOnTop 44 = .ok (.getfield 18, 3) := dcw_180 (by decide +kernel)
theorem dX2_putOnTop_47 : decode cX2_putOnTop 47 = .ok (.iload 4, 2) := dcu_21 (by decide +kernel)
theorem dX2_putOnTop_49 : decode cX2_putOnTop 49 = .ok (.iconst 1, 1) := dc1_4 (by decide +kernel)
theorem dX2_putOnTop_50 : decode cX2_putOnTop 50 = .ok (.isub, 1) := dc1_100 (by decide +kernel)
theorem dX2_putOnTop_51 : decode cX2_putOnTop 51 = .ok (.iaload, 1) := dc1_46 (by decide +kernel)
theorem dX2_putOnTop_52 : decode cX2_putOnTop 52 = .ok (.iastore, 1) := dc1_79 (by decide +kernel)
theorem dX2_putOnTop_53 : decode cX2_putOnTop 53 = .ok (.iinc 4 (-1), 3) := dc_iinc (m := 255) (by decide +kernel)
theorem dX2_putOnTop_56 : decode cX2_putOnTop 56 = .ok (.goto (-53), 3) := dcs_167 (n := 65483) (by decide +kernel)
theorem dX2_putOnTop_59 : decode cX2_putOnTop 59 = .ok (.aload_n 0, 1) := dc1_42 (by decide +kernel)
theorem dX2_putOnTop_60 : decode cX2_putOnTop 60 = .ok (.getfield 21, 3) := dcw_180 (by decide +kernel)
theorem dX2_putOnTop_63 : decode cX2_putOnTop 63 = .ok (.iload 4, 2) := dcu_21 (by decide +kernel)
theorem dX2_putOnTop_65 : decode cX2_putOnTop 65 = .ok (.iload_n 2, 1) := dc1_28 (by decide +kernel)
theorem dX2_putOnTop_66 : decode cX2_putOnTop 66 = .ok (.iastore, 1) := dc1_79 (by decide +kernel)
theorem dX2_putOnTop_67 : decode cX2_putOnTop 67 = .ok (.aload_n 0, 1) := dc1_42 (by decide +kernel)
theorem dX2_putOnTop_68 : decode cX2_putOnTop 68 = .ok (.getfield 18, 3) := dcw_180 (by decide +kernel)
theorem dX2_putOnTop_71 : decode cX2_putOnTop 71 = .ok (.iload 4, 2) := dcu_21 (by decide +kernel)
theorem dX2_putOnTop_73 : decode cX2_putOnTop 73 = .ok (.iload_n 1, 1) := dc1_27 (by decide +kernel)
theorem dX2_putOnTop_74 : decode cX2_putOnTop 74 = .ok (.iastore, 1) := dc1_79 (by decide +kernel)
theorem dX2_putOnTop_75 : decode cX2_putOnTop 75 = .ok (.return_, 1) := dc1_177 (by decide +kernel)
theorem dX3_forgetAll_0 : decode cX3_forgetAll 0 = .ok (.aload_n 0, 1) := dc1_42 (by decide +kernel)
theorem dX3_forgetAll_1 : decode cX3_forgetAll 1 = .ok (.iconst 0, 1) := dc1_3 (by decide +kernel)
theorem dX3_forgetAll_2 : decode cX3_forgetAll 2 = .ok (.putfield 25, 3) := dcw_181 (by decide +kernel)
theorem dX3_forgetAll_5 : decode cX3_forgetAll 5 = .ok (.iconst 0, 1) := dc1_3 (by decide +kernel)
theorem dX3_forgetAll_6 : decode cX3_forgetAll 6 = .ok (.istore_n 1, 1) := dc1_60 (by decide +kernel)
theorem dX3_forgetAll_7 : decode cX3_forgetAll 7 = .ok (.iload_n 1, 1) := dc1_27 (by decide +kernel)
theorem dX3_forgetAll_8 : decode cX3_forgetAll 8 = .ok (.iconst 3, 1) := dc1_6 (by decide +kernel)
theorem dX3_forgetAll_9 : decode cX3_forgetAll 9 = .ok (.if_icmp .ge 16, 3) := dcs_162 (n := 16) (by decide +kernel)
theorem dX3_forgetAll_12 : decode cX3_forgetAll 12 = .ok (.aload_n 0, 1) := dc1_42 (by decide +kernel)
theorem dX3_forgetAll_13 : decode cX3_forgetAll 13 = .ok (.getfield 20, 3) := dcw_180 (by decide +kernel)
theorem dX3_forgetAll_16 : decode cX3_forgetAll 16 = .ok (.iload_n 1, 1) := dc1_27 (by decide +kernel)
theorem dX3_forgetAll_17 : decode cX3_forgetAll 17 = .ok (.iconst 0, 1) := dc1_3 (by decide +kernel)
theorem dX3_forgetAll_18 : decode cX3_forgetAll 18 = .ok (.bastore, 1) := dc1_84 (by decide +kernel)
theorem dX3_forgetAll_19 : decode cX3_forgetAll 19 = .ok (.iinc 1 1, 3) := dc_iinc (m := 1) (by decide +kernel)
theorem dX3_forgetAll_22 : decode cX3_forgetAll 22 = .ok (.goto (-15), 3) := dcs_167 (n := 65521) (by decide +kernel)
theorem dX3_forgetAll_25 : decode cX3_forgetAll 25 = .ok (.return_, 1) := dc1_177 (by decide +kernel)
theorem dX3_slotsHeld_0 : decode cX3_slotsHeld 0 = .ok (.iconst 0, 1) := dc1_3 (by decide +kernel)
theorem dX3_slotsHeld_1 : decode cX3_slotsHeld 1 = .ok (.istore_n 1, 1) := dc1_60 (by decide +kernel)
theorem dX3_slotsHeld_2 : decode cX3_slotsHeld 2 = .ok (.iconst 0, 1) := dc1_3 (by decide +kernel)
theorem dX3_slotsHeld_3 : decode cX3_slotsHeld 3 = .ok (.istore_n 2, 1) := dc1_61 (by decide +kernel)
theorem dX3_slotsHeld_4 : decode cX3_slotsHeld 4 = .ok (.iload_n 2, 1) := dc1_28 (by decide +kernel)
theorem dX3_slotsHeld_5 : decode cX3_slotsHeld 5 = .ok (.iconst 3, 1) := dc1_6 (by decide +kernel)
theorem dX3_slotsHeld_6 : decode cX3_slotsHeld 6 = .ok (.if_icmp .ge 26, 3) := dcs_162 (n := 26) (by decide +kernel)
theorem dX3_slotsHeld_9 : decode cX3_slotsHeld 9 = .ok (.iload_n 1, 1) := dc1_27 (by decide +kernel)
theorem dX3_slotsHeld_10 : decode cX3_slotsHeld 10 = .ok (.aload_n 0, 1) := dc1_42 (by decide +kernel)
theorem dX3_slotsHeld_11 : decode cX3_slotsHeld 11 = .ok (.getfield 20, 3) := dcw_180 (by decide +kernel)
theorem dX3_slotsHeld_14 : decode cX3_slotsHeld 14 = .ok (.iload_n 2, 1) := dc1_28 (by decide +kernel)
theorem dX3_slotsHeld_15 : decode cX3_slotsHeld 15 = .ok (.baload, 1) := dc1_51 (by decide +kernel)
theorem dX3_slotsHeld_16 : decode cX3_slotsHeld 16 = .ok (.ifCond .eq 7, 3) := dcs_153 (n := 7) (by decide +kernel)
theorem dX3_slotsHeld_19 : decode cX3_slotsHeld 19 = .ok (.iconst 1, 1) := dc1_4 (by decide +kernel)
theorem dX3_slotsHeld_20 : decode cX3_slotsHeld 20 = .ok (.goto 4, 3) := dcs_167 (n := 4) (by decide +kernel)
theorem dX3_slotsHeld_23 : decode cX3_slotsHeld 23 = .ok (.iconst 0, 1) := dc1_3 (by decide +kernel)
theorem dX3_slotsHeld_24 : decode cX3_slotsHeld 24 = .ok (.iadd, 1) := dc1_96 (by decide +kernel)
theorem dX3_slotsHeld_25 : decode cX3_slotsHeld 25 = .ok (.istore_n 1, 1) := dc1_60 (by decide +kernel)
theorem dX3_slotsHeld_26 : decode cX3_slotsHeld 26 = .ok (.iinc 2 1, 3) := dc_iinc (m := 1) (by decide +kernel)
theorem dX3_slotsHeld_29 : decode cX3_slotsHeld 29 = .ok (.goto (-25), 3) := dcs_167 (n := 65511) (by decide +kernel)
theorem dX3_slotsHeld_32 : decode cX3_slotsHeld 32 = .ok (.iload_n 1, 1) := dc1_27 (by decide +kernel)
theorem dX3_slotsHeld_33 : decode cX3_slotsHeld 33 = .ok (.ireturn, 1) := dc1_172 (by decide +kernel)
theorem dX4_isAt_0 : decode cX4_isAt 0 = .ok (.aload_n 0, 1) := dc1_42 (by decide +kernel)
theorem dX4_isAt_1 : decode cX4_isAt 1 = .ok (.getfield 41, 3) := dcw_180 (by decide +kernel)
theorem dX4_isAt_4 : decode cX4_isAt 4 = .ok (.ifCond .ne 23, 3) := dcs_154 (n := 23) (by decide +kernel)
theorem dX4_isAt_7 : decode cX4_isAt 7 = .ok (.aload_n 0, 1) := dc1_42 (by decide +kernel)
theorem dX4_isAt_8 : decode cX4_isAt 8 = .ok (.getfield 31, 3) := dcw_180 (by decide +kernel)
theorem dX4_isAt_11 : decode cX4_isAt 11 = .ok (.getfield 63, 3) := dcw_180 (by decide +kernel)
theorem dX4_isAt_14 : decode cX4_isAt 14 = .ok (.aload_n 0, 1) := dc1_42 (by decide +kernel)
theorem dX4_isAt_15 : decode cX4_isAt 15 = .ok (.getfield 38, 3) := dcw_180 (by decide +kernel)
theorem dX4_isAt_18 : decode cX4_isAt 18 = .ok (.iaload, 1) := dc1_46 (by decide +kernel)
theorem dX4_isAt_19 : decode cX4_isAt 19 = .ok (.iload_n 1, 1) := dc1_27 (by decide +kernel)
theorem dX4_isAt_20 : decode cX4_isAt 20 = .ok (.if_icmp .ne 7, 3) := dcs_160 (n := 7) (by decide +kernel)
theorem dX4_isAt_23 : decode cX4_isAt 23 = .ok (.iconst 1, 1) := dc1_4 (by decide +kernel)
theorem dX4_isAt_24 : decode cX4_isAt 24 = .ok (.goto 4, 3) := dcs_167 (n := 4) (by decide +kernel)
theorem dX4_isAt_27 : decode cX4_isAt 27 = .ok (.iconst 0, 1) := dc1_3 (by decide +kernel)
theorem dX4_isAt_28 : decode cX4_isAt 28 = .ok (.ireturn, 1) := dc1_172 (by decide +kernel)
theorem LX0_mayBe_9 : Cond.fieldLink RX0 9 "GuessFerry$Crossing" "sound" "LGuessFerry$Sound;" ∈ wsX0_mayBe := (List.mem_cons_of_mem _ (List.mem_append_left _ (List.mem_append_left _ (List.mem_append_left _ (List.mem_of_getElem? (i := 0) rfl)))))
theorem inX0_mayBe_X0 : ∀ w ∈ u_ws RX0 TX0 2, w ∈ wsX0_mayBe := fun _ h => List.mem_cons_of_mem _ (List.mem_append_left _ (List.mem_append_right _ h))
theorem inX0_mayBe_X5 : ∀ w ∈ u_ws RX5 TX5 10, w ∈ wsX0_mayBe := fun _ h => List.mem_cons_of_mem _ (List.mem_append_right _ h)
theorem inX0_mayBe_X6 : ∀ w ∈ u_ws RX6 TX6 7, w ∈ wsX0_mayBe := fun _ h => List.mem_cons_of_mem _ (List.mem_append_left _ (List.mem_append_left _ (List.mem_append_right _ h)))
set_option maxHeartbeats 4000000 in
set_option maxRecDepth 100000 in
theorem bkX0_mayBe {l : Launch} {dC : Nat → ClassId} {dI : Nat → Nat → Nat} {cB cI cJ cZ cS : ClassId} {a b : Nat → Nat} {as : List Value} {r : Int32} {s' : JS} (s : JS) (x2 : Int32) (hB : kX0_mayBe s x2 = some (r, s')) : BlkI l yX0_mayBe wsX0_mayBe ({ frames := 0, cells := 0, slots := 0, locals := 0 }) cX0_mayBe 3 (some .int) (dC, dI) (tysA cB cI cJ cZ cS) as 0 (wJ cB cI cJ cZ cS a b s) [(0, .ref (a 35)), (1, .ref (b 0)), (2, .int x2)] [] (fun x u => x = r ∧ u = (wJ cB cI cJ cZ cS a b s')) := by
  intro p e s0 m below meth c A E H locs ls hP hD hS hl
  obtain ⟨C, hr, hlocks, hA, hK, hN⟩ := id E
  obtain ⟨hx, hb, hml, hown, hts⟩ := id C
  unfold kX0_mayBe at hB
  refine lv_aload_n hx hb dX0_mayBe_0 rfl (lv_at hl 1 rfl) ?_
  refine q_getN (v := .ref (b 1)) C hN inX0_mayBe_X6 hK hP 0 rfl rfl 0 (by decide) rfl nwF_X0_28 rfl dX0_mayBe_1 ?_
  refine lv_iload_n hx hb dX0_mayBe_4 rfl (lv_at hl 2 rfl) ?_
  obtain ⟨g1, hB⟩ := guard_inv hB
  refine q_iald (x := ((s.d.f 0) (Int32.toNatClampNeg x2))) C hK hP 1 1 rfl rfl (vpb_in g1) dX0_mayBe_5 rfl ?_
  refine lv_iconst (v := (-1)) hx hb dX0_mayBe_6 (by decide) ?_
  refine lv_icmp_eq (tgt := 19) hx hb dX0_mayBe_7 (by decide) (fun c2 => ?_) (fun c2 => ?_)
  · have hB := if_p hB c2
    refine lv_aload_n hx hb dX0_mayBe_19 rfl (lv_at hl 0 rfl) ?_
    refine q_get (v := .ref (a 2)) C inX0_mayBe_X0 hK hP 41 rfl rfl 0 (by decide) rfl LX0_mayBe_9 rfl dX0_mayBe_20 ?_
    refine q_getN (v := .ref (a 5)) C hN inX0_mayBe_X5 hK hP 8 rfl rfl 2 (by decide) rfl nwF_X0_33 rfl dX0_mayBe_23 ?_
    refine lv_iload_n hx hb dX0_mayBe_26 rfl (lv_at hl 2 rfl) ?_
    obtain ⟨g3, hB⟩ := guard_inv hB
    refine q_iald (x := ((s.k.f 5) (Int32.toNatClampNeg x2))) C hK hP 11 1 rfl rfl (vpb_in g3) dX0_mayBe_27 rfl ?_
    refine lv_aload_n hx hb dX0_mayBe_28 rfl (lv_at hl 1 rfl) ?_
    refine q_getN (v := .ref (b 2)) C hN inX0_mayBe_X6 hK hP 0 rfl rfl 1 (by decide) rfl nwF_X0_36 rfl dX0_mayBe_29 ?_
    refine lv_iload_n hx hb dX0_mayBe_32 rfl (lv_at hl 2 rfl) ?_
    obtain ⟨g4, hB⟩ := guard_inv hB
    refine q_iald (x := ((s.d.f 1) (Int32.toNatClampNeg x2))) C hK hP 2 1 rfl rfl (vpb_in g4) dX0_mayBe_33 rfl ?_
    refine lv_iconst (v := (-1)) hx hb dX0_mayBe_34 (by decide) ?_
    refine lv_ixor hx hb dX0_mayBe_35 ?_
    refine lv_iand hx hb dX0_mayBe_36 ?_
    exact q_iret C hr hlocks hK hP hD hS (Nat.le_of_ble_eq_true rfl) (Nat.le_of_ble_eq_true rfl) dX0_mayBe_37 (by cases hB; exact ⟨rfl, rfl⟩)
  · have hB := if_n hB c2
    refine lv_iconst (v := 1) hx hb dX0_mayBe_10 (by decide) ?_
    refine lv_aload_n hx hb dX0_mayBe_11 rfl (lv_at hl 1 rfl) ?_
    refine q_getN (v := .ref (b 1)) C hN inX0_mayBe_X6 hK hP 0 rfl rfl 0 (by decide) rfl nwF_X0_28 rfl dX0_mayBe_12 ?_
    refine lv_iload_n hx hb dX0_mayBe_15 rfl (lv_at hl 2 rfl) ?_
    obtain ⟨g5, hB⟩ := guard_inv hB
    refine q_iald (x := ((s.d.f 0) (Int32.toNatClampNeg x2))) C hK hP 1 1 rfl rfl (vpb_in g5) dX0_mayBe_16 rfl ?_
    refine lv_ishl hx hb dX0_mayBe_17 ?_
    exact q_iret C hr hlocks hK hP hD hS (Nat.le_of_ble_eq_true rfl) (Nat.le_of_ble_eq_true rfl) dX0_mayBe_18 (by cases hB; exact ⟨rfl, rfl⟩)
theorem ckX0_mayBe {l : Launch} {dC : Nat → ClassId} {dI : Nat → Nat → Nat} {cB cI cJ cZ cS : ClassId} {a b : Nat → Nat} {r : Int32} {s' : JS} {s : JS} {x2 : Int32} (hB : kX0_mayBe s x2 = some (r, s')) : CI l yX0_mayBe wsX0_mayBe ({ frames := 0, cells := 0, slots := 0, locals := 0 }) (dC, dI) (tysA cB cI cJ cZ cS) (wJ cB cI cJ cZ cS a b s) [.ref (a 35), .ref (b 0), .int x2] (fun x u => x = r ∧ u = (wJ cB cI cJ cZ cS a b s')) :=
  CI_of (cc := cX0_mayBe) (maxL := 3) (ret := (some .int)) (by decide) rfl (Nat.le_of_ble_eq_true rfl) (bkX0_mayBe _ _ hB)
theorem LX0_setParty_27 : Cond.fieldLink RX0 27 "GuessFerry$Crossing" "vars" "[I" ∈ wsX0_setParty := (List.mem_cons_of_mem _ (List.mem_append_left _ (List.mem_append_left _ (List.mem_append_left _ (List.mem_of_getElem? (i := 0) rfl)))))
theorem LX0_setParty_9 : Cond.fieldLink RX0 9 "GuessFerry$Crossing" "sound" "LGuessFerry$Sound;" ∈ wsX0_setParty := (List.mem_cons_of_mem _ (List.mem_append_left _ (List.mem_append_left _ (List.mem_append_left _ (List.mem_of_getElem? (i := 1) rfl)))))
theorem inX0_setParty_X0 : ∀ w ∈ u_ws RX0 TX0 2, w ∈ wsX0_setParty := fun _ h => List.mem_cons_of_mem _ (List.mem_append_left _ (List.mem_append_left _ (List.mem_append_right _ h)))
theorem inX0_setParty_X5 : ∀ w ∈ u_ws RX5 TX5 10, w ∈ wsX0_setParty := fun _ h => List.mem_cons_of_mem _ (List.mem_append_left _ (List.mem_append_right _ h))
theorem inX0_setParty_X6 : ∀ w ∈ u_ws RX6 TX6 7, w ∈ wsX0_setParty := fun _ h => List.mem_cons_of_mem _ (List.mem_append_right _ h)
set_option maxHeartbeats 4000000 in
set_option maxRecDepth 100000 in
theorem bkX0_setParty {l : Launch} {dC : Nat → ClassId} {dI : Nat → Nat → Nat} {cB cI cJ cZ cS : ClassId} {a b : Nat → Nat} {as : List Value} {s' : JS} (s : JS) (x2 : Int32) (hB : kX0_setParty s x2 = some s') : BlkV l yX0_setParty wsX0_setParty ({ frames := 0, cells := 0, slots := 0, locals := 0 }) cX0_setParty 3 none (dC, dI) (tysA cB cI cJ cZ cS) as 0 (wJ cB cI cJ cZ cS a b s) [(0, .ref (a 35)), (1, .ref (b 0)), (2, .int x2)] [] (fun u => u = (wJ cB cI cJ cZ cS a b s')) := by
  intro p e s0 m below meth c A E H locs ls hP hD hS hl
  obtain ⟨C, hr, hlocks, hA, hK, hN⟩ := id E
  obtain ⟨hx, hb, hml, hown, hts⟩ := id C
  unfold kX0_setParty at hB
  refine lv_aload_n hx hb dX0_setParty_0 rfl (lv_at hl 0 rfl) ?_
  refine q_get (v := .ref (a 13)) C inX0_setParty_X0 hK hP 41 rfl rfl 1 (by decide) rfl LX0_setParty_27 rfl dX0_setParty_1 ?_
  refine lv_iconst (v := 2) hx hb dX0_setParty_4 (by decide) ?_
  refine lv_aload_n hx hb dX0_setParty_5 rfl (lv_at hl 0 rfl) ?_
  refine q_get (v := .ref (a 2)) C inX0_setParty_X0 hK hP 41 rfl rfl 0 (by decide) rfl LX0_setParty_9 rfl dX0_setParty_6 ?_
  refine q_getN (v := .ref (a 6)) C hN inX0_setParty_X5 hK hP 8 rfl rfl 3 (by decide) rfl nwF_X0_62 rfl dX0_setParty_9 ?_
  refine lv_iload_n hx hb dX0_setParty_12 rfl (lv_at hl 2 rfl) ?_
  obtain ⟨g1, hB⟩ := guard_inv hB
  refine q_iald (x := ((s.k.f 6) (Int32.toNatClampNeg x2))) C hK hP 12 1 rfl rfl (vpb_in g1) dX0_setParty_13 rfl ?_
  obtain ⟨s2, hs3, hB⟩ := letS_inv hB
  refine q_iast (f2 := (upd (s.k.f 13) 2 ((s.k.f 6) (Int32.toNatClampNeg x2)))) (w2 := (wJ cB cI cJ cZ cS a b s2)) C hK hP hD hS 19 1 rfl rfl (vp_lit (by decide +kernel)) dX0_setParty_14 rfl (by subst hs3; rfl) (fun H locs hP hD hS => ?_)
  refine lv_aload_n hx hb dX0_setParty_15 rfl (lv_at hl 0 rfl) ?_
  refine q_get (v := .ref (a 13)) C inX0_setParty_X0 hK hP 41 rfl rfl 1 (by decide) rfl LX0_setParty_27 rfl dX0_setParty_16 ?_
  refine lv_iconst (v := 3) hx hb dX0_setParty_19 (by decide) ?_
  refine lv_aload_n hx hb dX0_setParty_20 rfl (lv_at hl 0 rfl) ?_
  refine q_get (v := .ref (a 2)) C inX0_setParty_X0 hK hP 41 rfl rfl 0 (by decide) rfl LX0_setParty_9 rfl dX0_setParty_21 ?_
  refine q_getN (v := .ref (a 7)) C hN inX0_setParty_X5 hK hP 8 rfl rfl 4 (by decide) rfl nwF_X0_65 rfl dX0_setParty_24 ?_
  refine lv_iload_n hx hb dX0_setParty_27 rfl (lv_at hl 2 rfl) ?_
  obtain ⟨g4, hB⟩ := guard_inv hB
  refine q_iald (x := ((s2.k.f 7) (Int32.toNatClampNeg x2))) C hK hP 13 1 rfl rfl (vpb_in g4) dX0_setParty_28 rfl ?_
  obtain ⟨s5, hs6, hB⟩ := letS_inv hB
  refine q_iast (f2 := (upd (s2.k.f 13) 3 ((s2.k.f 7) (Int32.toNatClampNeg x2)))) (w2 := (wJ cB cI cJ cZ cS a b s5)) C hK hP hD hS 19 1 rfl rfl (vp_lit (by decide +kernel)) dX0_setParty_29 rfl (by subst hs6; rfl) (fun H locs hP hD hS => ?_)
  refine lv_aload_n hx hb dX0_setParty_30 rfl (lv_at hl 0 rfl) ?_
  refine q_get (v := .ref (a 13)) C inX0_setParty_X0 hK hP 41 rfl rfl 1 (by decide) rfl LX0_setParty_27 rfl dX0_setParty_31 ?_
  refine lv_bipush (v := 6) hx hb dX0_setParty_34 (by decide) ?_
  refine lv_iload_n hx hb dX0_setParty_36 rfl (lv_at hl 2 rfl) ?_
  obtain ⟨s7, hs8, hB⟩ := letS_inv hB
  refine q_iast (f2 := (upd (s5.k.f 13) 6 x2)) (w2 := (wJ cB cI cJ cZ cS a b s7)) C hK hP hD hS 19 1 rfl rfl (vp_lit (by decide +kernel)) dX0_setParty_37 rfl (by subst hs8; rfl) (fun H locs hP hD hS => ?_)
  refine lv_aload_n hx hb dX0_setParty_38 rfl (lv_at hl 0 rfl) ?_
  refine q_get (v := .ref (a 13)) C inX0_setParty_X0 hK hP 41 rfl rfl 1 (by decide) rfl LX0_setParty_27 rfl dX0_setParty_39 ?_
  refine lv_bipush (v := 8) hx hb dX0_setParty_42 (by decide) ?_
  refine lv_aload_n hx hb dX0_setParty_44 rfl (lv_at hl 1 rfl) ?_
  refine q_getN (v := .ref (b 5)) C hN inX0_setParty_X6 hK hP 0 rfl rfl 4 (by decide) rfl nwF_X0_68 rfl dX0_setParty_45 ?_
  refine lv_iload_n hx hb dX0_setParty_48 rfl (lv_at hl 2 rfl) ?_
  obtain ⟨g9, hB⟩ := guard_inv hB
  refine q_iald (x := ((s7.d.f 4) (Int32.toNatClampNeg x2))) C hK hP 5 1 rfl rfl (vpb_in g9) dX0_setParty_49 rfl ?_
  obtain ⟨s10, hs11, hB⟩ := letS_inv hB
  refine q_iast (f2 := (upd (s7.k.f 13) 8 ((s7.d.f 4) (Int32.toNatClampNeg x2)))) (w2 := (wJ cB cI cJ cZ cS a b s10)) C hK hP hD hS 19 1 rfl rfl (vp_lit (by decide +kernel)) dX0_setParty_50 rfl (by subst hs11; rfl) (fun H locs hP hD hS => ?_)
  exact q_vret C hr hlocks hK hP hD hS (Nat.le_of_ble_eq_true rfl) (Nat.le_of_ble_eq_true rfl) dX0_setParty_51 (by cases hB; rfl)
theorem ckX0_setParty {l : Launch} {dC : Nat → ClassId} {dI : Nat → Nat → Nat} {cB cI cJ cZ cS : ClassId} {a b : Nat → Nat} {s' : JS} {s : JS} {x2 : Int32} (hB : kX0_setParty s x2 = some s') : CV l yX0_setParty wsX0_setParty ({ frames := 0, cells := 0, slots := 0, locals := 0 }) (dC, dI) (tysA cB cI cJ cZ cS) (wJ cB cI cJ cZ cS a b s) [.ref (a 35), .ref (b 0), .int x2] (fun u => u = (wJ cB cI cJ cZ cS a b s')) :=
  CV_of (cc := cX0_setParty) (maxL := 3) (ret := none) (by decide) rfl (Nat.le_of_ble_eq_true rfl) (bkX0_setParty _ _ hB)
theorem LX1_copyFrom_15 : Cond.fieldLink RX1 15 "GuessFerry$Laws" "steps" "[I" ∈ wsX1_copyFrom := (List.mem_cons_of_mem _ (List.mem_append_left _ (List.mem_of_getElem? (i := 0) rfl)))
theorem LX1_copyFrom_19 : Cond.fieldLink RX1 19 "GuessFerry$Laws" "partEnds" "[I" ∈ wsX1_copyFrom := (List.mem_cons_of_mem _ (List.mem_append_left _ (List.mem_of_getElem? (i := 5) rfl)))
theorem LX1_copyFrom_22 : Cond.fieldLink RX1 22 "GuessFerry$Laws" "lawStarts" "[I" ∈ wsX1_copyFrom := (List.mem_cons_of_mem _ (List.mem_append_left _ (List.mem_of_getElem? (i := 6) rfl)))
theorem LX1_copyFrom_25 : Cond.fieldLink RX1 25 "GuessFerry$Laws" "partCounts" "[I" ∈ wsX1_copyFrom := (List.mem_cons_of_mem _ (List.mem_append_left _ (List.mem_of_getElem? (i := 7) rfl)))
theorem LX1_copyFrom_34 : Cond.fieldLink RX1 34 "GuessFerry$Laws" "length" "I" ∈ wsX1_copyFrom := (List.mem_cons_of_mem _ (List.mem_append_left _ (List.mem_of_getElem? (i := 8) rfl)))
theorem LX1_copyFrom_A51 : Cond.methodLink RX1 51 arraycopyName ∈ wsX1_copyFrom := (List.mem_cons_of_mem _ (List.mem_append_left _ (List.mem_of_getElem? (i := 1) rfl)))
theorem LX1_copyFrom_AI : Cond.initialized "java/lang/System" ∈ wsX1_copyFrom := (List.mem_cons_of_mem _ (List.mem_append_left _ (List.mem_of_getElem? (i := 4) rfl)))
theorem LX1_copyFrom_AN : Cond.native arraycopyName ∈ wsX1_copyFrom := (List.mem_cons_of_mem _ (List.mem_append_left _ (List.mem_of_getElem? (i := 2) rfl)))
theorem LX1_copyFrom_AS : Cond.static arraycopyName ∈ wsX1_copyFrom := (List.mem_cons_of_mem _ (List.mem_append_left _ (List.mem_of_getElem? (i := 3) rfl)))
theorem inX1_copyFrom_X1 : ∀ w ∈ u_ws RX1 TX1 9, w ∈ wsX1_copyFrom := fun _ h => List.mem_cons_of_mem _ (List.mem_append_right _ h)
set_option maxHeartbeats 4000000 in
set_option maxRecDepth 100000 in
theorem bkX1_copyFrom {l : Launch} {dC : Nat → ClassId} {dI : Nat → Nat → Nat} {cB cI cJ cZ cS : ClassId} {a : Nat → Nat} {as : List Value} {s' : KS} (s : KS) (hB : kX1_copyFrom s = some s') : BlkV l yX1_copyFrom wsX1_copyFrom ({ frames := 1, cells := 0, slots := 0, locals := 64 }) cX1_copyFrom 2 none (dC, dI) (tysA cB cI cJ cZ cS) as 0 (wK cB cI cJ cZ cS a s) [(0, .ref (a 8)), (1, .ref (a 21))] [] (fun u => u = (wK cB cI cJ cZ cS a s')) := by
  intro p e s0 m below meth c A E H locs ls hP hD hS hl
  obtain ⟨C, hr, hlocks, hA, hK, hN⟩ := id E
  obtain ⟨hx, hb, hml, hown, hts⟩ := id C
  unfold kX1_copyFrom at hB
  refine lv_aload_n hx hb dX1_copyFrom_0 rfl (lv_at hl 1 rfl) ?_
  refine q_get (v := .ref (a 22)) C inX1_copyFrom_X1 hK hP 21 rfl rfl 0 (by decide) rfl LX1_copyFrom_15 rfl dX1_copyFrom_1 ?_
  refine lv_iconst (v := 0) hx hb dX1_copyFrom_4 (by decide) ?_
  refine lv_aload_n hx hb dX1_copyFrom_5 rfl (lv_at hl 0 rfl) ?_
  refine q_get (v := .ref (a 9)) C inX1_copyFrom_X1 hK hP 8 rfl rfl 0 (by decide) rfl LX1_copyFrom_15 rfl dX1_copyFrom_6 ?_
  refine lv_iconst (v := 0) hx hb dX1_copyFrom_9 (by decide) ?_
  refine lv_sipush (v := 404) hx hb dX1_copyFrom_10 (by decide) ?_
  obtain ⟨s1, hs2, hB⟩ := letS_inv hB
  refine va_copyi hx hb (hml.trans hl.1.symm) hown (hts _ LX1_copyFrom_A51) (hts _ LX1_copyFrom_AN) (hts _ LX1_copyFrom_AS) (hts _ LX1_copyFrom_AI) hK hP hD hS 22 9 1 1 rfl rfl rfl rfl rfl (by decide +kernel) (by decide +kernel) (by decide +kernel) (by decide +kernel) (by decide +kernel) (fun _ _ => rfl) (Nat.le_of_ble_eq_true rfl) (by decide +kernel) dX1_copyFrom_13 (fun H locs hP hD hS => ?_)
  have hP : va_P (dC, dI) vwCl (wK cB cI cJ cZ cS a s1) H := by subst hs2; exact hP
  have hD : va_D A (wK cB cI cJ cZ cS a s1) := by subst hs2; exact hD
  refine lv_aload_n hx hb dX1_copyFrom_16 rfl (lv_at hl 1 rfl) ?_
  refine q_get (v := .ref (a 23)) C inX1_copyFrom_X1 hK hP 21 rfl rfl 1 (by decide) rfl LX1_copyFrom_19 rfl dX1_copyFrom_17 ?_
  refine lv_iconst (v := 0) hx hb dX1_copyFrom_20 (by decide) ?_
  refine lv_aload_n hx hb dX1_copyFrom_21 rfl (lv_at hl 0 rfl) ?_
  refine q_get (v := .ref (a 10)) C inX1_copyFrom_X1 hK hP 8 rfl rfl 1 (by decide) rfl LX1_copyFrom_19 rfl dX1_copyFrom_22 ?_
  refine lv_iconst (v := 0) hx hb dX1_copyFrom_25 (by decide) ?_
  refine lv_bipush (v := 52) hx hb dX1_copyFrom_26 (by decide) ?_
  obtain ⟨s3, hs4, hB⟩ := letS_inv hB
  refine va_copyi hx hb (hml.trans hl.1.symm) hown (hts _ LX1_copyFrom_A51) (hts _ LX1_copyFrom_AN) (hts _ LX1_copyFrom_AS) (hts _ LX1_copyFrom_AI) hK hP hD hS 23 10 1 1 rfl rfl rfl rfl rfl (by decide +kernel) (by decide +kernel) (by decide +kernel) (by decide +kernel) (by decide +kernel) (fun _ _ => rfl) (Nat.le_of_ble_eq_true rfl) (by decide +kernel) dX1_copyFrom_28 (fun H locs hP hD hS => ?_)
  have hP : va_P (dC, dI) vwCl (wK cB cI cJ cZ cS a s3) H := by subst hs4; exact hP
  have hD : va_D A (wK cB cI cJ cZ cS a s3) := by subst hs4; exact hD
  refine lv_aload_n hx hb dX1_copyFrom_31 rfl (lv_at hl 1 rfl) ?_
  refine q_get (v := .ref (a 24)) C inX1_copyFrom_X1 hK hP 21 rfl rfl 2 (by decide) rfl LX1_copyFrom_22 rfl dX1_copyFrom_32 ?_
  refine lv_iconst (v := 0) hx hb dX1_copyFrom_35 (by decide) ?_
  refine lv_aload_n hx hb dX1_copyFrom_36 rfl (lv_at hl 0 rfl) ?_
  refine q_get (v := .ref (a 11)) C inX1_copyFrom_X1 hK hP 8 rfl rfl 2 (by decide) rfl LX1_copyFrom_22 rfl dX1_copyFrom_37 ?_
  refine lv_iconst (v := 0) hx hb dX1_copyFrom_40 (by decide) ?_
  refine lv_iconst (v := 4) hx hb dX1_copyFrom_41 (by decide) ?_
  obtain ⟨s5, hs6, hB⟩ := letS_inv hB
  refine va_copyi hx hb (hml.trans hl.1.symm) hown (hts _ LX1_copyFrom_A51) (hts _ LX1_copyFrom_AN) (hts _ LX1_copyFrom_AS) (hts _ LX1_copyFrom_AI) hK hP hD hS 24 11 1 1 rfl rfl rfl rfl rfl (by decide +kernel) (by decide +kernel) (by decide +kernel) (by decide +kernel) (by decide +kernel) (fun _ _ => rfl) (Nat.le_of_ble_eq_true rfl) (by decide +kernel) dX1_copyFrom_42 (fun H locs hP hD hS => ?_)
  have hP : va_P (dC, dI) vwCl (wK cB cI cJ cZ cS a s5) H := by subst hs6; exact hP
  have hD : va_D A (wK cB cI cJ cZ cS a s5) := by subst hs6; exact hD
  refine lv_aload_n hx hb dX1_copyFrom_45 rfl (lv_at hl 1 rfl) ?_
  refine q_get (v := .ref (a 25)) C inX1_copyFrom_X1 hK hP 21 rfl rfl 3 (by decide) rfl LX1_copyFrom_25 rfl dX1_copyFrom_46 ?_
  refine lv_iconst (v := 0) hx hb dX1_copyFrom_49 (by decide) ?_
  refine lv_aload_n hx hb dX1_copyFrom_50 rfl (lv_at hl 0 rfl) ?_
  refine q_get (v := .ref (a 12)) C inX1_copyFrom_X1 hK hP 8 rfl rfl 3 (by decide) rfl LX1_copyFrom_25 rfl dX1_copyFrom_51 ?_
  refine lv_iconst (v := 0) hx hb dX1_copyFrom_54 (by decide) ?_
  refine lv_iconst (v := 4) hx hb dX1_copyFrom_55 (by decide) ?_
  obtain ⟨s7, hs8, hB⟩ := letS_inv hB
  refine va_copyi hx hb (hml.trans hl.1.symm) hown (hts _ LX1_copyFrom_A51) (hts _ LX1_copyFrom_AN) (hts _ LX1_copyFrom_AS) (hts _ LX1_copyFrom_AI) hK hP hD hS 25 12 1 1 rfl rfl rfl rfl rfl (by decide +kernel) (by decide +kernel) (by decide +kernel) (by decide +kernel) (by decide +kernel) (fun _ _ => rfl) (Nat.le_of_ble_eq_true rfl) (by decide +kernel) dX1_copyFrom_56 (fun H locs hP hD hS => ?_)
  have hP : va_P (dC, dI) vwCl (wK cB cI cJ cZ cS a s7) H := by subst hs8; exact hP
  have hD : va_D A (wK cB cI cJ cZ cS a s7) := by subst hs8; exact hD
  refine lv_aload_n hx hb dX1_copyFrom_59 rfl (lv_at hl 0 rfl) ?_
  refine lv_aload_n hx hb dX1_copyFrom_60 rfl (lv_at hl 1 rfl) ?_
  refine q_get (v := .int (s7.v 12)) C inX1_copyFrom_X1 hK hP 21 rfl rfl 6 (by decide) rfl LX1_copyFrom_34 rfl dX1_copyFrom_61 ?_
  obtain ⟨s9, hs10, hB⟩ := letS_inv hB
  refine q_put (ty := .int) (w2 := (wK cB cI cJ cZ cS a s9)) tyX1 tyX1_ok nmX1 C inX1_copyFrom_X1 hK hP hD hS 8 rfl rfl 6 (by decide) rfl LX1_copyFrom_34 rfl (by decide +kernel) (rfl) rfl (Nat.le_of_ble_eq_true rfl) dX1_copyFrom_64 (by subst hs10; rfl) (fun H locs hP hD hS => ?_)
  exact q_vret C hr hlocks hK hP hD hS (Nat.le_of_ble_eq_true rfl) (Nat.le_of_ble_eq_true rfl) dX1_copyFrom_67 (by cases hB; rfl)
theorem ckX1_copyFrom {l : Launch} {dC : Nat → ClassId} {dI : Nat → Nat → Nat} {cB cI cJ cZ cS : ClassId} {a : Nat → Nat} {s' : KS} {s : KS} (hB : kX1_copyFrom s = some s') : CV l yX1_copyFrom wsX1_copyFrom ({ frames := 1, cells := 0, slots := 0, locals := 64 }) (dC, dI) (tysA cB cI cJ cZ cS) (wK cB cI cJ cZ cS a s) [.ref (a 8), .ref (a 21)] (fun u => u = (wK cB cI cJ cZ cS a s')) :=
  CV_of (cc := cX1_copyFrom) (maxL := 2) (ret := none) (by decide) rfl (Nat.le_of_ble_eq_true rfl) (bkX1_copyFrom _ hB)
theorem LX1_begin_22 : Cond.fieldLink RX1 22 "GuessFerry$Laws" "lawStarts" "[I" ∈ wsX1_begin := (List.mem_cons_of_mem _ (List.mem_append_left _ (List.mem_of_getElem? (i := 1) rfl)))
theorem LX1_begin_25 : Cond.fieldLink RX1 25 "GuessFerry$Laws" "partCounts" "[I" ∈ wsX1_begin := (List.mem_cons_of_mem _ (List.mem_append_left _ (List.mem_of_getElem? (i := 3) rfl)))
theorem LX1_begin_34 : Cond.fieldLink RX1 34 "GuessFerry$Laws" "length" "I" ∈ wsX1_begin := (List.mem_cons_of_mem _ (List.mem_append_left _ (List.mem_of_getElem? (i := 2) rfl)))
theorem LX1_begin_57 : Cond.fieldLink RX1 57 "GuessFerry$Laws" "current" "I" ∈ wsX1_begin := (List.mem_cons_of_mem _ (List.mem_append_left _ (List.mem_of_getElem? (i := 0) rfl)))
theorem inX1_begin_X1 : ∀ w ∈ u_ws RX1 TX1 9, w ∈ wsX1_begin := fun _ h => List.mem_cons_of_mem _ (List.mem_append_right _ h)
set_option maxHeartbeats 4000000 in
set_option maxRecDepth 100000 in
theorem bkX1_begin {l : Launch} {dC : Nat → ClassId} {dI : Nat → Nat → Nat} {cB cI cJ cZ cS : ClassId} {a : Nat → Nat} {as : List Value} {s' : KS} (s : KS) (x1 : Int32) (hB : kX1_begin s x1 = some s') : BlkV l yX1_begin wsX1_begin ({ frames := 0, cells := 0, slots := 0, locals := 0 }) cX1_begin 2 none (dC, dI) (tysA cB cI cJ cZ cS) as 0 (wK cB cI cJ cZ cS a s) [(0, .ref (a 21)), (1, .int x1)] [] (fun u => u = (wK cB cI cJ cZ cS a s')) := by
  intro p e s0 m below meth c A E H locs ls hP hD hS hl
  obtain ⟨C, hr, hlocks, hA, hK, hN⟩ := id E
  obtain ⟨hx, hb, hml, hown, hts⟩ := id C
  unfold kX1_begin at hB
  refine lv_aload_n hx hb dX1_begin_0 rfl (lv_at hl 0 rfl) ?_
  refine lv_iload_n hx hb dX1_begin_1 rfl (lv_at hl 1 rfl) ?_
  obtain ⟨s1, hs2, hB⟩ := letS_inv hB
  refine q_put (ty := .int) (w2 := (wK cB cI cJ cZ cS a s1)) tyX1 tyX1_ok nmX1 C inX1_begin_X1 hK hP hD hS 21 rfl rfl 7 (by decide) rfl LX1_begin_57 rfl (by decide +kernel) (rfl) rfl (Nat.le_of_ble_eq_true rfl) dX1_begin_2 (by subst hs2; rfl) (fun H locs hP hD hS => ?_)
  refine lv_aload_n hx hb dX1_begin_5 rfl (lv_at hl 0 rfl) ?_
  refine q_get (v := .ref (a 24)) C inX1_begin_X1 hK hP 21 rfl rfl 2 (by decide) rfl LX1_begin_22 rfl dX1_begin_6 ?_
  refine lv_iload_n hx hb dX1_begin_9 rfl (lv_at hl 1 rfl) ?_
  refine lv_aload_n hx hb dX1_begin_10 rfl (lv_at hl 0 rfl) ?_
  refine q_get (v := .int (s1.v 12)) C inX1_begin_X1 hK hP 21 rfl rfl 6 (by decide) rfl LX1_begin_34 rfl dX1_begin_11 ?_
  obtain ⟨g3, hB⟩ := guard_inv hB
  obtain ⟨s4, hs5, hB⟩ := letS_inv hB
  refine q_iast (f2 := (upd (s1.f 24) (Int32.toNatClampNeg x1) (s1.v 12))) (w2 := (wK cB cI cJ cZ cS a s4)) C hK hP hD hS 24 1 rfl rfl (vpb_in g3) dX1_begin_14 rfl (by subst hs5; rfl) (fun H locs hP hD hS => ?_)
  refine lv_aload_n hx hb dX1_begin_15 rfl (lv_at hl 0 rfl) ?_
  refine q_get (v := .ref (a 25)) C inX1_begin_X1 hK hP 21 rfl rfl 3 (by decide) rfl LX1_begin_25 rfl dX1_begin_16 ?_
  refine lv_iload_n hx hb dX1_begin_19 rfl (lv_at hl 1 rfl) ?_
  refine lv_iconst (v := 0) hx hb dX1_begin_20 (by decide) ?_
  obtain ⟨g6, hB⟩ := guard_inv hB
  obtain ⟨s7, hs8, hB⟩ := letS_inv hB
  refine q_iast (f2 := (upd (s4.f 25) (Int32.toNatClampNeg x1) 0)) (w2 := (wK cB cI cJ cZ cS a s7)) C hK hP hD hS 25 1 rfl rfl (vpb_in g6) dX1_begin_21 rfl (by subst hs8; rfl) (fun H locs hP hD hS => ?_)
  exact q_vret C hr hlocks hK hP hD hS (Nat.le_of_ble_eq_true rfl) (Nat.le_of_ble_eq_true rfl) dX1_begin_22 (by cases hB; rfl)
theorem ckX1_begin {l : Launch} {dC : Nat → ClassId} {dI : Nat → Nat → Nat} {cB cI cJ cZ cS : ClassId} {a : Nat → Nat} {s' : KS} {s : KS} {x1 : Int32} (hB : kX1_begin s x1 = some s') : CV l yX1_begin wsX1_begin ({ frames := 0, cells := 0, slots := 0, locals := 0 }) (dC, dI) (tysA cB cI cJ cZ cS) (wK cB cI cJ cZ cS a s) [.ref (a 21), .int x1] (fun u => u = (wK cB cI cJ cZ cS a s')) :=
  CV_of (cc := cX1_begin) (maxL := 2) (ret := none) (by decide) rfl (Nat.le_of_ble_eq_true rfl) (bkX1_begin _ _ hB)
theorem LX1_endPart_19 : Cond.fieldLink RX1 19 "GuessFerry$Laws" "partEnds" "[I" ∈ wsX1_endPart := (List.mem_cons_of_mem _ (List.mem_append_left _ (List.mem_of_getElem? (i := 2) rfl)))
theorem LX1_endPart_25 : Cond.fieldLink RX1 25 "GuessFerry$Laws" "partCounts" "[I" ∈ wsX1_endPart := (List.mem_cons_of_mem _ (List.mem_append_left _ (List.mem_of_getElem? (i := 0) rfl)))
theorem LX1_endPart_34 : Cond.fieldLink RX1 34 "GuessFerry$Laws" "length" "I" ∈ wsX1_endPart := (List.mem_cons_of_mem _ (List.mem_append_left _ (List.mem_of_getElem? (i := 3) rfl)))
theorem LX1_endPart_57 : Cond.fieldLink RX1 57 "GuessFerry$Laws" "current" "I" ∈ wsX1_endPart := (List.mem_cons_of_mem _ (List.mem_append_left _ (List.mem_of_getElem? (i := 1) rfl)))
theorem inX1_endPart_X1 : ∀ w ∈ u_ws RX1 TX1 9, w ∈ wsX1_endPart := fun _ h => List.mem_cons_of_mem _ (List.mem_append_right _ h)
set_option maxHeartbeats 4000000 in
set_option maxRecDepth 100000 in
theorem bkX1_endPart {l : Launch} {dC : Nat → ClassId} {dI : Nat → Nat → Nat} {cB cI cJ cZ cS : ClassId} {a : Nat → Nat} {as : List Value} {s' : KS} (s : KS) (hB : kX1_endPart s = some s') : BlkV l yX1_endPart wsX1_endPart ({ frames := 0, cells := 0, slots := 0, locals := 0 }) cX1_endPart 2 none (dC, dI) (tysA cB cI cJ cZ cS) as 0 (wK cB cI cJ cZ cS a s) [(0, .ref (a 21))] [] (fun u => u = (wK cB cI cJ cZ cS a s')) := by
  intro p e s0 m below meth c A E H locs ls hP hD hS hl
  obtain ⟨C, hr, hlocks, hA, hK, hN⟩ := id E
  obtain ⟨hx, hb, hml, hown, hts⟩ := id C
  unfold kX1_endPart at hB
  refine lv_aload_n hx hb dX1_endPart_0 rfl (lv_at hl 0 rfl) ?_
  refine q_get (v := .ref (a 25)) C inX1_endPart_X1 hK hP 21 rfl rfl 3 (by decide) rfl LX1_endPart_25 rfl dX1_endPart_1 ?_
  refine lv_aload_n hx hb dX1_endPart_4 rfl (lv_at hl 0 rfl) ?_
  refine q_get (v := .int (s.v 13)) C inX1_endPart_X1 hK hP 21 rfl rfl 7 (by decide) rfl LX1_endPart_57 rfl dX1_endPart_5 ?_
  obtain ⟨g1, hB⟩ := guard_inv hB
  refine q_iald (x := ((s.f 25) (Int32.toNatClampNeg (s.v 13)))) C hK hP 25 1 rfl rfl (vpb_in g1) dX1_endPart_8 rfl ?_
  refine lv_istore_n (lv' := [(1, .int ((s.f 25) (Int32.toNatClampNeg (s.v 13)))), (0, .ref (a 21))]) hx hb dX1_endPart_9 rfl hl (by decide) rfl (fun ls hl => ?_)
  refine lv_iload_n hx hb dX1_endPart_10 rfl (lv_at hl 0 rfl) ?_
  refine lv_bipush (v := 13) hx hb dX1_endPart_11 (by decide) ?_
  refine lv_icmp_ge (tgt := 46) hx hb dX1_endPart_13 (by decide) (fun c2 => ?_) (fun c2 => ?_)
  · have hB := if_p hB c2
    exact q_vret C hr hlocks hK hP hD hS (Nat.le_of_ble_eq_true rfl) (Nat.le_of_ble_eq_true rfl) dX1_endPart_46 (by cases hB; rfl)
  · have hB := if_n hB c2
    refine lv_aload_n hx hb dX1_endPart_16 rfl (lv_at hl 1 rfl) ?_
    refine q_get (v := .ref (a 23)) C inX1_endPart_X1 hK hP 21 rfl rfl 1 (by decide) rfl LX1_endPart_19 rfl dX1_endPart_17 ?_
    refine lv_aload_n hx hb dX1_endPart_20 rfl (lv_at hl 1 rfl) ?_
    refine q_get (v := .int (s.v 13)) C inX1_endPart_X1 hK hP 21 rfl rfl 7 (by decide) rfl LX1_endPart_57 rfl dX1_endPart_21 ?_
    refine lv_bipush (v := 13) hx hb dX1_endPart_24 (by decide) ?_
    refine lv_imul hx hb dX1_endPart_26 ?_
    refine lv_iload_n hx hb dX1_endPart_27 rfl (lv_at hl 0 rfl) ?_
    refine lv_iadd hx hb dX1_endPart_28 ?_
    refine lv_aload_n hx hb dX1_endPart_29 rfl (lv_at hl 1 rfl) ?_
    refine q_get (v := .int (s.v 12)) C inX1_endPart_X1 hK hP 21 rfl rfl 6 (by decide) rfl LX1_endPart_34 rfl dX1_endPart_30 ?_
    obtain ⟨g3, hB⟩ := guard_inv hB
    obtain ⟨s4, hs5, hB⟩ := letS_inv hB
    refine q_iast (f2 := (upd (s.f 23) (Int32.toNatClampNeg (((s.v 13) * 13) + ((s.f 25) (Int32.toNatClampNeg (s.v 13))))) (s.v 12))) (w2 := (wK cB cI cJ cZ cS a s4)) C hK hP hD hS 23 1 rfl rfl (vpb_in g3) dX1_endPart_33 rfl (by subst hs5; rfl) (fun H locs hP hD hS => ?_)
    refine lv_aload_n hx hb dX1_endPart_34 rfl (lv_at hl 1 rfl) ?_
    refine q_get (v := .ref (a 25)) C inX1_endPart_X1 hK hP 21 rfl rfl 3 (by decide) rfl LX1_endPart_25 rfl dX1_endPart_35 ?_
    refine lv_aload_n hx hb dX1_endPart_38 rfl (lv_at hl 1 rfl) ?_
    refine q_get (v := .int (s4.v 13)) C inX1_endPart_X1 hK hP 21 rfl rfl 7 (by decide) rfl LX1_endPart_57 rfl dX1_endPart_39 ?_
    refine lv_iload_n hx hb dX1_endPart_42 rfl (lv_at hl 0 rfl) ?_
    refine lv_iconst (v := 1) hx hb dX1_endPart_43 (by decide) ?_
    refine lv_iadd hx hb dX1_endPart_44 ?_
    obtain ⟨g6, hB⟩ := guard_inv hB
    obtain ⟨s7, hs8, hB⟩ := letS_inv hB
    refine q_iast (f2 := (upd (s4.f 25) (Int32.toNatClampNeg (s4.v 13)) (((s.f 25) (Int32.toNatClampNeg (s.v 13))) + 1))) (w2 := (wK cB cI cJ cZ cS a s7)) C hK hP hD hS 25 1 rfl rfl (vpb_in g6) dX1_endPart_45 rfl (by subst hs8; rfl) (fun H locs hP hD hS => ?_)
    exact q_vret C hr hlocks hK hP hD hS (Nat.le_of_ble_eq_true rfl) (Nat.le_of_ble_eq_true rfl) dX1_endPart_46 (by cases hB; rfl)
theorem ckX1_endPart {l : Launch} {dC : Nat → ClassId} {dI : Nat → Nat → Nat} {cB cI cJ cZ cS : ClassId} {a : Nat → Nat} {s' : KS} {s : KS} (hB : kX1_endPart s = some s') : CV l yX1_endPart wsX1_endPart ({ frames := 0, cells := 0, slots := 0, locals := 0 }) (dC, dI) (tysA cB cI cJ cZ cS) (wK cB cI cJ cZ cS a s) [.ref (a 21)] (fun u => u = (wK cB cI cJ cZ cS a s')) :=
  CV_of (cc := cX1_endPart) (maxL := 2) (ret := none) (by decide) rfl (Nat.le_of_ble_eq_true rfl) (bkX1_endPart _ hB)
theorem LX1_put_15 : Cond.fieldLink RX1 15 "GuessFerry$Laws" "steps" "[I" ∈ wsX1_put := (List.mem_cons_of_mem _ (List.mem_append_left _ (List.mem_of_getElem? (i := 1) rfl)))
theorem LX1_put_34 : Cond.fieldLink RX1 34 "GuessFerry$Laws" "length" "I" ∈ wsX1_put := (List.mem_cons_of_mem _ (List.mem_append_left _ (List.mem_of_getElem? (i := 0) rfl)))
theorem inX1_put_X1 : ∀ w ∈ u_ws RX1 TX1 9, w ∈ wsX1_put := fun _ h => List.mem_cons_of_mem _ (List.mem_append_right _ h)
set_option maxHeartbeats 4000000 in
set_option maxRecDepth 100000 in
theorem bkX1_put {l : Launch} {dC : Nat → ClassId} {dI : Nat → Nat → Nat} {cB cI cJ cZ cS : ClassId} {a : Nat → Nat} {as : List Value} {s' : KS} (s : KS) (x1 : Int32) (hB : kX1_put s x1 = some s') : BlkV l yX1_put wsX1_put ({ frames := 0, cells := 0, slots := 0, locals := 0 }) cX1_put 2 none (dC, dI) (tysA cB cI cJ cZ cS) as 0 (wK cB cI cJ cZ cS a s) [(0, .ref (a 21)), (1, .int x1)] [] (fun u => u = (wK cB cI cJ cZ cS a s')) := by
  intro p e s0 m below meth c A E H locs ls hP hD hS hl
  obtain ⟨C, hr, hlocks, hA, hK, hN⟩ := id E
  obtain ⟨hx, hb, hml, hown, hts⟩ := id C
  unfold kX1_put at hB
  refine lv_aload_n hx hb dX1_put_0 rfl (lv_at hl 0 rfl) ?_
  refine q_get (v := .int (s.v 12)) C inX1_put_X1 hK hP 21 rfl rfl 6 (by decide) rfl LX1_put_34 rfl dX1_put_1 ?_
  refine lv_sipush (v := 404) hx hb dX1_put_4 (by decide) ?_
  refine lv_icmp_ge (tgt := 30) hx hb dX1_put_7 (by decide) (fun c1 => ?_) (fun c1 => ?_)
  · have hB := if_p hB c1
    exact q_vret C hr hlocks hK hP hD hS (Nat.le_of_ble_eq_true rfl) (Nat.le_of_ble_eq_true rfl) dX1_put_30 (by cases hB; rfl)
  · have hB := if_n hB c1
    refine lv_aload_n hx hb dX1_put_10 rfl (lv_at hl 0 rfl) ?_
    refine q_get (v := .ref (a 22)) C inX1_put_X1 hK hP 21 rfl rfl 0 (by decide) rfl LX1_put_15 rfl dX1_put_11 ?_
    refine lv_aload_n hx hb dX1_put_14 rfl (lv_at hl 0 rfl) ?_
    refine q_get (v := .int (s.v 12)) C inX1_put_X1 hK hP 21 rfl rfl 6 (by decide) rfl LX1_put_34 rfl dX1_put_15 ?_
    refine lv_iload_n hx hb dX1_put_18 rfl (lv_at hl 1 rfl) ?_
    obtain ⟨g2, hB⟩ := guard_inv hB
    obtain ⟨s3, hs4, hB⟩ := letS_inv hB
    refine q_iast (f2 := (upd (s.f 22) (Int32.toNatClampNeg (s.v 12)) x1)) (w2 := (wK cB cI cJ cZ cS a s3)) C hK hP hD hS 22 1 rfl rfl (vpb_in g2) dX1_put_19 rfl (by subst hs4; rfl) (fun H locs hP hD hS => ?_)
    refine lv_aload_n hx hb dX1_put_20 rfl (lv_at hl 0 rfl) ?_
    refine lv_dup hx hb dX1_put_21 rfl ?_
    refine q_get (v := .int (s3.v 12)) C inX1_put_X1 hK hP 21 rfl rfl 6 (by decide) rfl LX1_put_34 rfl dX1_put_22 ?_
    refine lv_iconst (v := 1) hx hb dX1_put_25 (by decide) ?_
    refine lv_iadd hx hb dX1_put_26 ?_
    obtain ⟨s5, hs6, hB⟩ := letS_inv hB
    refine q_put (ty := .int) (w2 := (wK cB cI cJ cZ cS a s5)) tyX1 tyX1_ok nmX1 C inX1_put_X1 hK hP hD hS 21 rfl rfl 6 (by decide) rfl LX1_put_34 rfl (by decide +kernel) (rfl) rfl (Nat.le_of_ble_eq_true rfl) dX1_put_27 (by subst hs6; rfl) (fun H locs hP hD hS => ?_)
    exact q_vret C hr hlocks hK hP hD hS (Nat.le_of_ble_eq_true rfl) (Nat.le_of_ble_eq_true rfl) dX1_put_30 (by cases hB; rfl)
theorem ckX1_put {l : Launch} {dC : Nat → ClassId} {dI : Nat → Nat → Nat} {cB cI cJ cZ cS : ClassId} {a : Nat → Nat} {s' : KS} {s : KS} {x1 : Int32} (hB : kX1_put s x1 = some s') : CV l yX1_put wsX1_put ({ frames := 0, cells := 0, slots := 0, locals := 0 }) (dC, dI) (tysA cB cI cJ cZ cS) (wK cB cI cJ cZ cS a s) [.ref (a 21), .int x1] (fun u => u = (wK cB cI cJ cZ cS a s')) :=
  CV_of (cc := cX1_put) (maxL := 2) (ret := none) (by decide) rfl (Nat.le_of_ble_eq_true rfl) (bkX1_put _ _ hB)
theorem LX1_joined_63 : Cond.fieldLink RX1 63 "GuessFerry$Laws" "isByZero" "Z" ∈ wsX1_joined := (List.mem_cons_of_mem _ (List.mem_append_left _ (List.mem_of_getElem? (i := 0) rfl)))
theorem inX1_joined_X1 : ∀ w ∈ u_ws RX1 TX1 9, w ∈ wsX1_joined := fun _ h => List.mem_cons_of_mem _ (List.mem_append_right _ h)
set_option maxHeartbeats 4000000 in
set_option maxRecDepth 100000 in
theorem bkX1_joined {l : Launch} {dC : Nat → ClassId} {dI : Nat → Nat → Nat} {cB cI cJ cZ cS : ClassId} {a : Nat → Nat} {as : List Value} {r : Int32} {s' : KS} (s : KS) (x1 : Int32) (x2 : Int32) (x3 : Int32) (hB : kX1_joined s x1 x2 x3 = some (r, s')) : BlkI l yX1_joined wsX1_joined ({ frames := 0, cells := 0, slots := 0, locals := 0 }) cX1_joined 4 (some .int) (dC, dI) (tysA cB cI cJ cZ cS) as 0 (wK cB cI cJ cZ cS a s) [(0, .ref (a 8)), (1, .int x1), (2, .int x2), (3, .int x3)] [] (fun x u => x = r ∧ u = (wK cB cI cJ cZ cS a s')) := by
  intro p e s0 m below meth c A E H locs ls hP hD hS hl
  obtain ⟨C, hr, hlocks, hA, hK, hN⟩ := id E
  obtain ⟨hx, hb, hml, hown, hts⟩ := id C
  unfold kX1_joined at hB
  refine lv_iload_n hx hb dX1_joined_0 rfl (lv_at hl 1 rfl) ?_
  by_cases e1 : x1 = 42
  · have hB := if_p hB e1
    refine q_top (y := 42) e1 ?_
    refine lv_tableIn (off := 39) (tgt := 40) hx hb dX1_joined_1 (by decide +kernel) (by decide +kernel) (by decide +kernel) (by decide) ?_
    refine lv_iload_n hx hb dX1_joined_40 rfl (lv_at hl 2 rfl) ?_
    refine lv_iload_n hx hb dX1_joined_41 rfl (lv_at hl 3 rfl) ?_
    refine lv_imul hx hb dX1_joined_42 ?_
    exact q_iret C hr hlocks hK hP hD hS (Nat.le_of_ble_eq_true rfl) (Nat.le_of_ble_eq_true rfl) dX1_joined_43 (by cases hB; exact ⟨rfl, rfl⟩)
  · have hB := if_n hB e1
    by_cases e2 : x1 = 43
    · have hB := if_p hB e2
      refine q_top (y := 43) e2 ?_
      refine lv_tableIn (off := 31) (tgt := 32) hx hb dX1_joined_1 (by decide +kernel) (by decide +kernel) (by decide +kernel) (by decide) ?_
      refine lv_iload_n hx hb dX1_joined_32 rfl (lv_at hl 2 rfl) ?_
      refine lv_iload_n hx hb dX1_joined_33 rfl (lv_at hl 3 rfl) ?_
      refine lv_iadd hx hb dX1_joined_34 ?_
      exact q_iret C hr hlocks hK hP hD hS (Nat.le_of_ble_eq_true rfl) (Nat.le_of_ble_eq_true rfl) dX1_joined_35 (by cases hB; exact ⟨rfl, rfl⟩)
    · have hB := if_n hB e2
      by_cases e3 : x1 = 44
      · have hB := if_p hB e3
        refine q_top (y := 44) e3 ?_
        refine lv_tableIn (off := 43) (tgt := 44) hx hb dX1_joined_1 (by decide +kernel) (by decide +kernel) (by decide +kernel) (by decide) ?_
        refine lv_iload_n hx hb dX1_joined_44 rfl (lv_at hl 3 rfl) ?_
        refine lv_if_ne (tgt := 55) hx hb dX1_joined_45 (by decide) (fun c4 => ?_) (fun c4 => ?_)
        · have hB := if_n hB c4
          refine lv_iload_n hx hb dX1_joined_55 rfl (lv_at hl 2 rfl) ?_
          refine lv_iload_n hx hb dX1_joined_56 rfl (lv_at hl 3 rfl) ?_
          obtain ⟨z5, hB⟩ := guard_inv hB
          refine lv_idiv hx hb dX1_joined_57 z5 ?_
          exact q_iret C hr hlocks hK hP hD hS (Nat.le_of_ble_eq_true rfl) (Nat.le_of_ble_eq_true rfl) dX1_joined_58 (by cases hB; exact ⟨rfl, rfl⟩)
        · have hB := if_p hB c4
          refine lv_aload_n hx hb dX1_joined_48 rfl (lv_at hl 0 rfl) ?_
          refine lv_iconst (v := 1) hx hb dX1_joined_49 (by decide) ?_
          obtain ⟨s6, hs7, hB⟩ := letS_inv hB
          refine q_put (ty := .boolean) (w2 := (wK cB cI cJ cZ cS a s6)) tyX1 tyX1_ok nmX1 C inX1_joined_X1 hK hP hD hS 8 rfl rfl 8 (by decide) rfl LX1_joined_63 rfl (by decide +kernel) (by decide +kernel) rfl (Nat.le_of_ble_eq_true rfl) dX1_joined_50 (by subst hs7; rfl) (fun H locs hP hD hS => ?_)
          refine lv_iconst (v := 0) hx hb dX1_joined_53 (by decide) ?_
          exact q_iret C hr hlocks hK hP hD hS (Nat.le_of_ble_eq_true rfl) (Nat.le_of_ble_eq_true rfl) dX1_joined_54 (by cases hB; exact ⟨rfl, rfl⟩)
      · have hB := if_n hB e3
        by_cases e8 : x1 = 45
        · have hB := if_p hB e8
          refine q_top (y := 45) e8 ?_
          refine lv_tableIn (off := 35) (tgt := 36) hx hb dX1_joined_1 (by decide +kernel) (by decide +kernel) (by decide +kernel) (by decide) ?_
          refine lv_iload_n hx hb dX1_joined_36 rfl (lv_at hl 2 rfl) ?_
          refine lv_iload_n hx hb dX1_joined_37 rfl (lv_at hl 3 rfl) ?_
          refine lv_isub hx hb dX1_joined_38 ?_
          exact q_iret C hr hlocks hK hP hD hS (Nat.le_of_ble_eq_true rfl) (Nat.le_of_ble_eq_true rfl) dX1_joined_39 (by cases hB; exact ⟨rfl, rfl⟩)
        · have hB := if_n hB e8
          refine lv_tableOut (tgt := 44) hx hb dX1_joined_1 (by have := ne_toInt (k := 42) rfl e1; have := ne_toInt (k := 43) rfl e2; have := ne_toInt (k := 44) rfl e3; have := ne_toInt (k := 45) rfl e8; omega) (by decide) ?_
          refine lv_iload_n hx hb dX1_joined_44 rfl (lv_at hl 3 rfl) ?_
          refine lv_if_ne (tgt := 55) hx hb dX1_joined_45 (by decide) (fun c9 => ?_) (fun c9 => ?_)
          · have hB := if_n hB c9
            refine lv_iload_n hx hb dX1_joined_55 rfl (lv_at hl 2 rfl) ?_
            refine lv_iload_n hx hb dX1_joined_56 rfl (lv_at hl 3 rfl) ?_
            obtain ⟨z10, hB⟩ := guard_inv hB
            refine lv_idiv hx hb dX1_joined_57 z10 ?_
            exact q_iret C hr hlocks hK hP hD hS (Nat.le_of_ble_eq_true rfl) (Nat.le_of_ble_eq_true rfl) dX1_joined_58 (by cases hB; exact ⟨rfl, rfl⟩)
          · have hB := if_p hB c9
            refine lv_aload_n hx hb dX1_joined_48 rfl (lv_at hl 0 rfl) ?_
            refine lv_iconst (v := 1) hx hb dX1_joined_49 (by decide) ?_
            obtain ⟨s11, hs12, hB⟩ := letS_inv hB
            refine q_put (ty := .boolean) (w2 := (wK cB cI cJ cZ cS a s11)) tyX1 tyX1_ok nmX1 C inX1_joined_X1 hK hP hD hS 8 rfl rfl 8 (by decide) rfl LX1_joined_63 rfl (by decide +kernel) (by decide +kernel) rfl (Nat.le_of_ble_eq_true rfl) dX1_joined_50 (by subst hs12; rfl) (fun H locs hP hD hS => ?_)
            refine lv_iconst (v := 0) hx hb dX1_joined_53 (by decide) ?_
            exact q_iret C hr hlocks hK hP hD hS (Nat.le_of_ble_eq_true rfl) (Nat.le_of_ble_eq_true rfl) dX1_joined_54 (by cases hB; exact ⟨rfl, rfl⟩)
theorem ckX1_joined {l : Launch} {dC : Nat → ClassId} {dI : Nat → Nat → Nat} {cB cI cJ cZ cS : ClassId} {a : Nat → Nat} {r : Int32} {s' : KS} {s : KS} {x1 : Int32} {x2 : Int32} {x3 : Int32} (hB : kX1_joined s x1 x2 x3 = some (r, s')) : CI l yX1_joined wsX1_joined ({ frames := 0, cells := 0, slots := 0, locals := 0 }) (dC, dI) (tysA cB cI cJ cZ cS) (wK cB cI cJ cZ cS a s) [.ref (a 8), .int x1, .int x2, .int x3] (fun x u => x = r ∧ u = (wK cB cI cJ cZ cS a s')) :=
  CI_of (cc := cX1_joined) (maxL := 4) (ret := (some .int)) (by decide) rfl (Nat.le_of_ble_eq_true rfl) (bkX1_joined _ _ _ _ hB)
theorem LX2_putOnTop_18 : Cond.fieldLink RX2 18 "GuessFerry$Outlook" "topGuesses" "[I" ∈ wsX2_putOnTop := (List.mem_cons_of_mem _ (List.mem_append_left _ (List.mem_of_getElem? (i := 1) rfl)))
theorem LX2_putOnTop_21 : Cond.fieldLink RX2 21 "GuessFerry$Outlook" "topOdds" "[I" ∈ wsX2_putOnTop := (List.mem_cons_of_mem _ (List.mem_append_left _ (List.mem_of_getElem? (i := 0) rfl)))
theorem inX2_putOnTop_X2 : ∀ w ∈ u_ws RX2 TX2 6, w ∈ wsX2_putOnTop := fun _ h => List.mem_cons_of_mem _ (List.mem_append_right _ h)
set_option maxHeartbeats 4000000 in
set_option maxRecDepth 100000 in
theorem bkX2_putOnTop_59 {l : Launch} {dC : Nat → ClassId} {dI : Nat → Nat → Nat} {cB cI cJ cZ cS : ClassId} {a : Nat → Nat} {as : List Value} {s' : KS} (s : KS) (x1 : Int32) (x2 : Int32) (x4 : Int32) (hB : kX2_putOnTop_59 s x1 x2 x4 = some s') : BlkV l yX2_putOnTop wsX2_putOnTop ({ frames := 0, cells := 0, slots := 0, locals := 0 }) cX2_putOnTop 5 none (dC, dI) (tysA cB cI cJ cZ cS) as 59 (wK cB cI cJ cZ cS a s) [(0, .ref (a 36)), (1, .int x1), (2, .int x2), (4, .int x4)] [] (fun u => u = (wK cB cI cJ cZ cS a s')) := by
  intro p e s0 m below meth c A E H locs ls hP hD hS hl
  obtain ⟨C, hr, hlocks, hA, hK, hN⟩ := id E
  obtain ⟨hx, hb, hml, hown, hts⟩ := id C
  unfold kX2_putOnTop_59 at hB
  refine lv_aload_n hx hb dX2_putOnTop_59 rfl (lv_at hl 0 rfl) ?_
  refine q_get (v := .ref (a 40)) C inX2_putOnTop_X2 hK hP 36 rfl rfl 5 (by decide) rfl LX2_putOnTop_21 rfl dX2_putOnTop_60 ?_
  refine lv_iload hx hb dX2_putOnTop_63 (lv_at hl 3 rfl) ?_
  refine lv_iload_n hx hb dX2_putOnTop_65 rfl (lv_at hl 2 rfl) ?_
  obtain ⟨g1, hB⟩ := guard_inv hB
  obtain ⟨s2, hs3, hB⟩ := letS_inv hB
  refine q_iast (f2 := (upd (s.f 40) (Int32.toNatClampNeg x4) x2)) (w2 := (wK cB cI cJ cZ cS a s2)) C hK hP hD hS 40 1 rfl rfl (vpb_in g1) dX2_putOnTop_66 rfl (by subst hs3; rfl) (fun H locs hP hD hS => ?_)
  refine lv_aload_n hx hb dX2_putOnTop_67 rfl (lv_at hl 0 rfl) ?_
  refine q_get (v := .ref (a 39)) C inX2_putOnTop_X2 hK hP 36 rfl rfl 4 (by decide) rfl LX2_putOnTop_18 rfl dX2_putOnTop_68 ?_
  refine lv_iload hx hb dX2_putOnTop_71 (lv_at hl 3 rfl) ?_
  refine lv_iload_n hx hb dX2_putOnTop_73 rfl (lv_at hl 1 rfl) ?_
  obtain ⟨g4, hB⟩ := guard_inv hB
  obtain ⟨s5, hs6, hB⟩ := letS_inv hB
  refine q_iast (f2 := (upd (s2.f 39) (Int32.toNatClampNeg x4) x1)) (w2 := (wK cB cI cJ cZ cS a s5)) C hK hP hD hS 39 1 rfl rfl (vpb_in g4) dX2_putOnTop_74 rfl (by subst hs6; rfl) (fun H locs hP hD hS => ?_)
  exact q_vret C hr hlocks hK hP hD hS (Nat.le_of_ble_eq_true rfl) (Nat.le_of_ble_eq_true rfl) dX2_putOnTop_75 (by cases hB; rfl)
set_option maxHeartbeats 4000000 in
set_option maxRecDepth 100000 in
theorem bkX2_putOnTop_3 {l : Launch} {dC : Nat → ClassId} {dI : Nat → Nat → Nat} {cB cI cJ cZ cS : ClassId} {a : Nat → Nat} {as : List Value} {s' : KS} {k3 : KS → Int32 → Int32 → Int32 → Option KS} (hk3 : ∀ (s : KS) (x1 : Int32) (x2 : Int32) (x4 : Int32), k3 s x1 x2 x4 = some s' → BlkV l yX2_putOnTop wsX2_putOnTop ({ frames := 0, cells := 0, slots := 0, locals := 0 }) cX2_putOnTop 5 none (dC, dI) (tysA cB cI cJ cZ cS) as 3 (wK cB cI cJ cZ cS a s) [(0, .ref (a 36)), (1, .int x1), (2, .int x2), (4, .int x4)] [] (fun u => u = (wK cB cI cJ cZ cS a s'))) (s : KS) (x1 : Int32) (x2 : Int32) (x4 : Int32) (hB : kX2_putOnTop_3 k3 s x1 x2 x4 = some s') : BlkV l yX2_putOnTop wsX2_putOnTop ({ frames := 0, cells := 0, slots := 0, locals := 0 }) cX2_putOnTop 5 none (dC, dI) (tysA cB cI cJ cZ cS) as 3 (wK cB cI cJ cZ cS a s) [(0, .ref (a 36)), (1, .int x1), (2, .int x2), (4, .int x4)] [] (fun u => u = (wK cB cI cJ cZ cS a s')) := by
  intro p e s0 m below meth c A E H locs ls hP hD hS hl
  obtain ⟨C, hr, hlocks, hA, hK, hN⟩ := id E
  obtain ⟨hx, hb, hml, hown, hts⟩ := id C
  unfold kX2_putOnTop_3 at hB
  refine lv_iload hx hb dX2_putOnTop_3 (lv_at hl 3 rfl) ?_
  refine lv_if_le (tgt := 59) hx hb dX2_putOnTop_5 (by decide) (fun c1 => ?_) (fun c1 => ?_)
  · have hB := if_p hB c1
    exact bkX2_putOnTop_59 _ _ _ _ hB p e s0 m below meth c A E H locs ls hP hD hS (lv_sub hl [0, 1, 2, 3] rfl)
  · have hB := if_n hB c1
    refine lv_aload_n hx hb dX2_putOnTop_8 rfl (lv_at hl 0 rfl) ?_
    refine q_get (v := .ref (a 40)) C inX2_putOnTop_X2 hK hP 36 rfl rfl 5 (by decide) rfl LX2_putOnTop_21 rfl dX2_putOnTop_9 ?_
    refine lv_iload hx hb dX2_putOnTop_12 (lv_at hl 3 rfl) ?_
    refine lv_iconst (v := 1) hx hb dX2_putOnTop_14 (by decide) ?_
    refine lv_isub hx hb dX2_putOnTop_15 ?_
    obtain ⟨g2, hB⟩ := guard_inv hB
    refine q_iald (x := ((s.f 40) (Int32.toNatClampNeg (x4 - 1)))) C hK hP 40 1 rfl rfl (vpb_in g2) dX2_putOnTop_16 rfl ?_
    refine lv_iload_n hx hb dX2_putOnTop_17 rfl (lv_at hl 2 rfl) ?_
    refine lv_icmp_ge (tgt := 59) hx hb dX2_putOnTop_18 (by decide) (fun c3 => ?_) (fun c3 => ?_)
    · have hB := if_p hB c3
      exact bkX2_putOnTop_59 _ _ _ _ hB p e s0 m below meth c A E H locs ls hP hD hS (lv_sub hl [0, 1, 2, 3] rfl)
    · have hB := if_n hB c3
      refine lv_aload_n hx hb dX2_putOnTop_21 rfl (lv_at hl 0 rfl) ?_
      refine q_get (v := .ref (a 40)) C inX2_putOnTop_X2 hK hP 36 rfl rfl 5 (by decide) rfl LX2_putOnTop_21 rfl dX2_putOnTop_22 ?_
      refine lv_iload hx hb dX2_putOnTop_25 (lv_at hl 3 rfl) ?_
      refine lv_aload_n hx hb dX2_putOnTop_27 rfl (lv_at hl 0 rfl) ?_
      refine q_get (v := .ref (a 40)) C inX2_putOnTop_X2 hK hP 36 rfl rfl 5 (by decide) rfl LX2_putOnTop_21 rfl dX2_putOnTop_28 ?_
      refine lv_iload hx hb dX2_putOnTop_31 (lv_at hl 3 rfl) ?_
      refine lv_iconst (v := 1) hx hb dX2_putOnTop_33 (by decide) ?_
      refine lv_isub hx hb dX2_putOnTop_34 ?_
      obtain ⟨g4, hB⟩ := guard_inv hB
      refine q_iald (x := ((s.f 40) (Int32.toNatClampNeg (x4 - 1)))) C hK hP 40 1 rfl rfl (vpb_in g4) dX2_putOnTop_35 rfl ?_
      obtain ⟨g5, hB⟩ := guard_inv hB
      obtain ⟨s6, hs7, hB⟩ := letS_inv hB
      refine q_iast (f2 := (upd (s.f 40) (Int32.toNatClampNeg x4) ((s.f 40) (Int32.toNatClampNeg (x4 - 1))))) (w2 := (wK cB cI cJ cZ cS a s6)) C hK hP hD hS 40 1 rfl rfl (vpb_in g5) dX2_putOnTop_36 rfl (by subst hs7; rfl) (fun H locs hP hD hS => ?_)
      refine lv_aload_n hx hb dX2_putOnTop_37 rfl (lv_at hl 0 rfl) ?_
      refine q_get (v := .ref (a 39)) C inX2_putOnTop_X2 hK hP 36 rfl rfl 4 (by decide) rfl LX2_putOnTop_18 rfl dX2_putOnTop_38 ?_
      refine lv_iload hx hb dX2_putOnTop_41 (lv_at hl 3 rfl) ?_
      refine lv_aload_n hx hb dX2_putOnTop_43 rfl (lv_at hl 0 rfl) ?_
      refine q_get (v := .ref (a 39)) C inX2_putOnTop_X2 hK hP 36 rfl rfl 4 (by decide) rfl LX2_putOnTop_18 rfl dX2_putOnTop_44 ?_
      refine lv_iload hx hb dX2_putOnTop_47 (lv_at hl 3 rfl) ?_
      refine lv_iconst (v := 1) hx hb dX2_putOnTop_49 (by decide) ?_
      refine lv_isub hx hb dX2_putOnTop_50 ?_
      obtain ⟨g8, hB⟩ := guard_inv hB
      refine q_iald (x := ((s6.f 39) (Int32.toNatClampNeg (x4 - 1)))) C hK hP 39 1 rfl rfl (vpb_in g8) dX2_putOnTop_51 rfl ?_
      obtain ⟨g9, hB⟩ := guard_inv hB
      obtain ⟨s10, hs11, hB⟩ := letS_inv hB
      refine q_iast (f2 := (upd (s6.f 39) (Int32.toNatClampNeg x4) ((s6.f 39) (Int32.toNatClampNeg (x4 - 1))))) (w2 := (wK cB cI cJ cZ cS a s10)) C hK hP hD hS 39 1 rfl rfl (vpb_in g9) dX2_putOnTop_52 rfl (by subst hs11; rfl) (fun H locs hP hD hS => ?_)
      refine lv_iinc (v := (x4 + (-1))) (lv' := [(4, .int (x4 + (-1))), (0, .ref (a 36)), (1, .int x1), (2, .int x2)]) hx hb dX2_putOnTop_53 hl (k := 3) rfl (rfl) (by decide) rfl (fun ls hl => ?_)
      refine lv_goto (tgt := 3) hx hb dX2_putOnTop_56 (by decide) ?_
      exact hk3 _ _ _ _ hB p e s0 m below meth c A E H locs ls hP hD hS (lv_sub hl [1, 2, 3, 0] rfl)
theorem bkX2_putOnTop_3L {l : Launch} {dC : Nat → ClassId} {dI : Nat → Nat → Nat} {cB cI cJ cZ cS : ClassId} {a : Nat → Nat} {as : List Value} {s' : KS} : ∀ (n : Nat) (s : KS) (x1 : Int32) (x2 : Int32) (x4 : Int32), kX2_putOnTop_3L n s x1 x2 x4 = some s' → BlkV l yX2_putOnTop wsX2_putOnTop ({ frames := 0, cells := 0, slots := 0, locals := 0 }) cX2_putOnTop 5 none (dC, dI) (tysA cB cI cJ cZ cS) as 3 (wK cB cI cJ cZ cS a s) [(0, .ref (a 36)), (1, .int x1), (2, .int x2), (4, .int x4)] [] (fun u => u = (wK cB cI cJ cZ cS a s')) := by
  intro n
  induction n with
  | zero => intro s x1 x2 x4 hB; exact none_ne hB
  | succ n ih => intro s x1 x2 x4 hB; exact bkX2_putOnTop_3 ih _ _ _ _ hB
set_option maxHeartbeats 4000000 in
set_option maxRecDepth 100000 in
theorem bkX2_putOnTop {l : Launch} {dC : Nat → ClassId} {dI : Nat → Nat → Nat} {cB cI cJ cZ cS : ClassId} {a : Nat → Nat} {as : List Value} {s' : KS} (s : KS) (x1 : Int32) (x2 : Int32) (x3 : Int32) (hB : kX2_putOnTop s x1 x2 x3 = some s') : BlkV l yX2_putOnTop wsX2_putOnTop ({ frames := 0, cells := 0, slots := 0, locals := 0 }) cX2_putOnTop 5 none (dC, dI) (tysA cB cI cJ cZ cS) as 0 (wK cB cI cJ cZ cS a s) [(0, .ref (a 36)), (1, .int x1), (2, .int x2), (3, .int x3)] [] (fun u => u = (wK cB cI cJ cZ cS a s')) := by
  intro p e s0 m below meth c A E H locs ls hP hD hS hl
  obtain ⟨C, hr, hlocks, hA, hK, hN⟩ := id E
  obtain ⟨hx, hb, hml, hown, hts⟩ := id C
  unfold kX2_putOnTop at hB
  refine lv_iload_n hx hb dX2_putOnTop_0 rfl (lv_at hl 3 rfl) ?_
  refine lv_istore (lv' := [(4, .int x3), (0, .ref (a 36)), (1, .int x1), (2, .int x2), (3, .int x3)]) hx hb dX2_putOnTop_1 hl (by decide) rfl (fun ls hl => ?_)
  exact bkX2_putOnTop_3L fu _ _ _ _ hB p e s0 m below meth c A E H locs ls hP hD hS (lv_sub hl [1, 2, 3, 0] rfl)
theorem ckX2_putOnTop {l : Launch} {dC : Nat → ClassId} {dI : Nat → Nat → Nat} {cB cI cJ cZ cS : ClassId} {a : Nat → Nat} {s' : KS} {s : KS} {x1 : Int32} {x2 : Int32} {x3 : Int32} (hB : kX2_putOnTop s x1 x2 x3 = some s') : CV l yX2_putOnTop wsX2_putOnTop ({ frames := 0, cells := 0, slots := 0, locals := 0 }) (dC, dI) (tysA cB cI cJ cZ cS) (wK cB cI cJ cZ cS a s) [.ref (a 36), .int x1, .int x2, .int x3] (fun u => u = (wK cB cI cJ cZ cS a s')) :=
  CV_of (cc := cX2_putOnTop) (maxL := 5) (ret := none) (by decide) rfl (Nat.le_of_ble_eq_true rfl) (bkX2_putOnTop _ _ _ _ hB)
theorem LX3_forgetAll_20 : Cond.fieldLink RX3 20 "GuessFerry$Past" "isHeld" "[Z" ∈ wsX3_forgetAll := (List.mem_cons_of_mem _ (List.mem_append_left _ (List.mem_of_getElem? (i := 1) rfl)))
theorem LX3_forgetAll_25 : Cond.fieldLink RX3 25 "GuessFerry$Past" "size" "I" ∈ wsX3_forgetAll := (List.mem_cons_of_mem _ (List.mem_append_left _ (List.mem_of_getElem? (i := 0) rfl)))
theorem inX3_forgetAll_X3 : ∀ w ∈ u_ws RX3 TX3 5, w ∈ wsX3_forgetAll := fun _ h => List.mem_cons_of_mem _ (List.mem_append_right _ h)
set_option maxHeartbeats 4000000 in
set_option maxRecDepth 100000 in
theorem bkX3_forgetAll_7 {l : Launch} {dC : Nat → ClassId} {dI : Nat → Nat → Nat} {cB cI cJ cZ cS : ClassId} {a b b2 c0 : Nat → Nat} {rg sl : Nat → Option Nat} {as : List Value} {s' : GS} {k7 : GS → Int32 → Option GS} (hk7 : ∀ (s : GS) (x1 : Int32), k7 s x1 = some s' → BlkV l yX3_forgetAll wsX3_forgetAll ({ frames := 0, cells := 0, slots := 0, locals := 0 }) cX3_forgetAll 2 none (dC, dI) (tysA cB cI cJ cZ cS) as 7 (wG cZ cS a b b2 c0 rg sl s) [(0, .ref (c0 1)), (1, .int x1)] [] (fun u => u = (wG cZ cS a b b2 c0 rg sl s'))) (s : GS) (x1 : Int32) (hB : kX3_forgetAll_7 k7 s x1 = some s') : BlkV l yX3_forgetAll wsX3_forgetAll ({ frames := 0, cells := 0, slots := 0, locals := 0 }) cX3_forgetAll 2 none (dC, dI) (tysA cB cI cJ cZ cS) as 7 (wG cZ cS a b b2 c0 rg sl s) [(0, .ref (c0 1)), (1, .int x1)] [] (fun u => u = (wG cZ cS a b b2 c0 rg sl s')) := by
  intro p e s0 m below meth c A E H locs ls hP hD hS hl
  obtain ⟨C, hr, hlocks, hA, hK, hN⟩ := id E
  obtain ⟨hx, hb, hml, hown, hts⟩ := id C
  unfold kX3_forgetAll_7 at hB
  refine lv_iload_n hx hb dX3_forgetAll_7 rfl (lv_at hl 1 rfl) ?_
  refine lv_iconst (v := 3) hx hb dX3_forgetAll_8 (by decide) ?_
  refine lv_icmp_ge (tgt := 25) hx hb dX3_forgetAll_9 (by decide) (fun c1 => ?_) (fun c1 => ?_)
  · have hB := if_p hB c1
    exact q_vret C hr hlocks hK hP hD hS (Nat.le_of_ble_eq_true rfl) (Nat.le_of_ble_eq_true rfl) dX3_forgetAll_25 (by cases hB; rfl)
  · have hB := if_n hB c1
    refine lv_aload_n hx hb dX3_forgetAll_12 rfl (lv_at hl 0 rfl) ?_
    refine q_get (v := .ref (c0 4)) C inX3_forgetAll_X3 hK hP 1 rfl rfl 2 (by decide) rfl LX3_forgetAll_20 rfl dX3_forgetAll_13 ?_
    refine lv_iload_n hx hb dX3_forgetAll_16 rfl (lv_at hl 1 rfl) ?_
    refine lv_iconst (v := 0) hx hb dX3_forgetAll_17 (by decide) ?_
    obtain ⟨g2, hB⟩ := guard_inv hB
    obtain ⟨s3, hs4, hB⟩ := letS_inv hB
    refine q_zast (f2 := (upd (s.f 4) (Int32.toNatClampNeg x1) (vp_nar .boolean 0))) (w2 := (wG cZ cS a b b2 c0 rg sl s3)) C hK hP hD hS 4 3 rfl rfl (vpb_in g2) dX3_forgetAll_18 rfl (by subst hs4; rfl) (fun H locs hP hD hS => ?_)
    refine lv_iinc (v := (x1 + 1)) (lv' := [(1, .int (x1 + 1)), (0, .ref (c0 1))]) hx hb dX3_forgetAll_19 hl (k := 1) rfl (rfl) (by decide) rfl (fun ls hl => ?_)
    refine lv_goto (tgt := 7) hx hb dX3_forgetAll_22 (by decide) ?_
    exact hk7 _ _ hB p e s0 m below meth c A E H locs ls hP hD hS (lv_sub hl [1, 0] rfl)
theorem bkX3_forgetAll_7L {l : Launch} {dC : Nat → ClassId} {dI : Nat → Nat → Nat} {cB cI cJ cZ cS : ClassId} {a b b2 c0 : Nat → Nat} {rg sl : Nat → Option Nat} {as : List Value} {s' : GS} : ∀ (n : Nat) (s : GS) (x1 : Int32), kX3_forgetAll_7L n s x1 = some s' → BlkV l yX3_forgetAll wsX3_forgetAll ({ frames := 0, cells := 0, slots := 0, locals := 0 }) cX3_forgetAll 2 none (dC, dI) (tysA cB cI cJ cZ cS) as 7 (wG cZ cS a b b2 c0 rg sl s) [(0, .ref (c0 1)), (1, .int x1)] [] (fun u => u = (wG cZ cS a b b2 c0 rg sl s')) := by
  intro n
  induction n with
  | zero => intro s x1 hB; exact none_ne hB
  | succ n ih => intro s x1 hB; exact bkX3_forgetAll_7 ih _ _ hB
set_option maxHeartbeats 4000000 in
set_option maxRecDepth 100000 in
theorem bkX3_forgetAll {l : Launch} {dC : Nat → ClassId} {dI : Nat → Nat → Nat} {cB cI cJ cZ cS : ClassId} {a b b2 c0 : Nat → Nat} {rg sl : Nat → Option Nat} {as : List Value} {s' : GS} (s : GS) (hB : kX3_forgetAll s = some s') : BlkV l yX3_forgetAll wsX3_forgetAll ({ frames := 0, cells := 0, slots := 0, locals := 0 }) cX3_forgetAll 2 none (dC, dI) (tysA cB cI cJ cZ cS) as 0 (wG cZ cS a b b2 c0 rg sl s) [(0, .ref (c0 1))] [] (fun u => u = (wG cZ cS a b b2 c0 rg sl s')) := by
  intro p e s0 m below meth c A E H locs ls hP hD hS hl
  obtain ⟨C, hr, hlocks, hA, hK, hN⟩ := id E
  obtain ⟨hx, hb, hml, hown, hts⟩ := id C
  unfold kX3_forgetAll at hB
  refine lv_aload_n hx hb dX3_forgetAll_0 rfl (lv_at hl 0 rfl) ?_
  refine lv_iconst (v := 0) hx hb dX3_forgetAll_1 (by decide) ?_
  obtain ⟨s1, hs2, hB⟩ := letS_inv hB
  refine q_put (ty := .int) (w2 := (wG cZ cS a b b2 c0 rg sl s1)) tyX3 tyX3_ok nmX3 C inX3_forgetAll_X3 hK hP hD hS 1 rfl rfl 4 (by decide) rfl LX3_forgetAll_25 rfl (by decide +kernel) (rfl) rfl (Nat.le_of_ble_eq_true rfl) dX3_forgetAll_2 (by subst hs2; rfl) (fun H locs hP hD hS => ?_)
  refine lv_iconst (v := 0) hx hb dX3_forgetAll_5 (by decide) ?_
  refine lv_istore_n (lv' := [(1, .int 0), (0, .ref (c0 1))]) hx hb dX3_forgetAll_6 rfl hl (by decide) rfl (fun ls hl => ?_)
  exact bkX3_forgetAll_7L fu _ _ hB p e s0 m below meth c A E H locs ls hP hD hS (lv_sub hl [1, 0] rfl)
theorem ckX3_forgetAll {l : Launch} {dC : Nat → ClassId} {dI : Nat → Nat → Nat} {cB cI cJ cZ cS : ClassId} {a b b2 c0 : Nat → Nat} {rg sl : Nat → Option Nat} {s' : GS} {s : GS} (hB : kX3_forgetAll s = some s') : CV l yX3_forgetAll wsX3_forgetAll ({ frames := 0, cells := 0, slots := 0, locals := 0 }) (dC, dI) (tysA cB cI cJ cZ cS) (wG cZ cS a b b2 c0 rg sl s) [.ref (c0 1)] (fun u => u = (wG cZ cS a b b2 c0 rg sl s')) :=
  CV_of (cc := cX3_forgetAll) (maxL := 2) (ret := none) (by decide) rfl (Nat.le_of_ble_eq_true rfl) (bkX3_forgetAll _ hB)
theorem LX3_slotsHeld_20 : Cond.fieldLink RX3 20 "GuessFerry$Past" "isHeld" "[Z" ∈ wsX3_slotsHeld := (List.mem_cons_of_mem _ (List.mem_append_left _ (List.mem_of_getElem? (i := 0) rfl)))
theorem inX3_slotsHeld_X3 : ∀ w ∈ u_ws RX3 TX3 5, w ∈ wsX3_slotsHeld := fun _ h => List.mem_cons_of_mem _ (List.mem_append_right _ h)
set_option maxHeartbeats 4000000 in
set_option maxRecDepth 100000 in
theorem bkX3_slotsHeld_24 {l : Launch} {dC : Nat → ClassId} {dI : Nat → Nat → Nat} {cB cI cJ cZ cS : ClassId} {a b b2 c0 : Nat → Nat} {rg sl : Nat → Option Nat} {as : List Value} {r : Int32} {s' : GS} {k4 : GS → Int32 → Int32 → Option (Int32 × GS)} (hk4 : ∀ (s : GS) (x1 : Int32) (x2 : Int32), k4 s x1 x2 = some (r, s') → BlkI l yX3_slotsHeld wsX3_slotsHeld ({ frames := 0, cells := 0, slots := 0, locals := 0 }) cX3_slotsHeld 3 (some .int) (dC, dI) (tysA cB cI cJ cZ cS) as 4 (wG cZ cS a b b2 c0 rg sl s) [(0, .ref (c0 1)), (1, .int x1), (2, .int x2)] [] (fun x u => x = r ∧ u = (wG cZ cS a b b2 c0 rg sl s'))) (s : GS) (x2 : Int32) (t0 : Int32) (t1 : Int32) (hB : kX3_slotsHeld_24 k4 s x2 t0 t1 = some (r, s')) : BlkI l yX3_slotsHeld wsX3_slotsHeld ({ frames := 0, cells := 0, slots := 0, locals := 0 }) cX3_slotsHeld 3 (some .int) (dC, dI) (tysA cB cI cJ cZ cS) as 24 (wG cZ cS a b b2 c0 rg sl s) [(0, .ref (c0 1)), (2, .int x2)] [.int t0, .int t1] (fun x u => x = r ∧ u = (wG cZ cS a b b2 c0 rg sl s')) := by
  intro p e s0 m below meth c A E H locs ls hP hD hS hl
  obtain ⟨C, hr, hlocks, hA, hK, hN⟩ := id E
  obtain ⟨hx, hb, hml, hown, hts⟩ := id C
  unfold kX3_slotsHeld_24 at hB
  refine lv_iadd hx hb dX3_slotsHeld_24 ?_
  refine lv_istore_n (lv' := [(1, .int (t1 + t0)), (0, .ref (c0 1)), (2, .int x2)]) hx hb dX3_slotsHeld_25 rfl hl (by decide) rfl (fun ls hl => ?_)
  refine lv_iinc (v := (x2 + 1)) (lv' := [(2, .int (x2 + 1)), (1, .int (t1 + t0)), (0, .ref (c0 1))]) hx hb dX3_slotsHeld_26 hl (k := 2) rfl (rfl) (by decide) rfl (fun ls hl => ?_)
  refine lv_goto (tgt := 4) hx hb dX3_slotsHeld_29 (by decide) ?_
  exact hk4 _ _ _ hB p e s0 m below meth c A E H locs ls hP hD hS (lv_sub hl [2, 1, 0] rfl)
set_option maxHeartbeats 4000000 in
set_option maxRecDepth 100000 in
theorem bkX3_slotsHeld_4 {l : Launch} {dC : Nat → ClassId} {dI : Nat → Nat → Nat} {cB cI cJ cZ cS : ClassId} {a b b2 c0 : Nat → Nat} {rg sl : Nat → Option Nat} {as : List Value} {r : Int32} {s' : GS} {k4 : GS → Int32 → Int32 → Option (Int32 × GS)} (hk4 : ∀ (s : GS) (x1 : Int32) (x2 : Int32), k4 s x1 x2 = some (r, s') → BlkI l yX3_slotsHeld wsX3_slotsHeld ({ frames := 0, cells := 0, slots := 0, locals := 0 }) cX3_slotsHeld 3 (some .int) (dC, dI) (tysA cB cI cJ cZ cS) as 4 (wG cZ cS a b b2 c0 rg sl s) [(0, .ref (c0 1)), (1, .int x1), (2, .int x2)] [] (fun x u => x = r ∧ u = (wG cZ cS a b b2 c0 rg sl s'))) (s : GS) (x1 : Int32) (x2 : Int32) (hB : kX3_slotsHeld_4 k4 s x1 x2 = some (r, s')) : BlkI l yX3_slotsHeld wsX3_slotsHeld ({ frames := 0, cells := 0, slots := 0, locals := 0 }) cX3_slotsHeld 3 (some .int) (dC, dI) (tysA cB cI cJ cZ cS) as 4 (wG cZ cS a b b2 c0 rg sl s) [(0, .ref (c0 1)), (1, .int x1), (2, .int x2)] [] (fun x u => x = r ∧ u = (wG cZ cS a b b2 c0 rg sl s')) := by
  intro p e s0 m below meth c A E H locs ls hP hD hS hl
  obtain ⟨C, hr, hlocks, hA, hK, hN⟩ := id E
  obtain ⟨hx, hb, hml, hown, hts⟩ := id C
  unfold kX3_slotsHeld_4 at hB
  refine lv_iload_n hx hb dX3_slotsHeld_4 rfl (lv_at hl 2 rfl) ?_
  refine lv_iconst (v := 3) hx hb dX3_slotsHeld_5 (by decide) ?_
  refine lv_icmp_ge (tgt := 32) hx hb dX3_slotsHeld_6 (by decide) (fun c1 => ?_) (fun c1 => ?_)
  · have hB := if_p hB c1
    refine lv_iload_n hx hb dX3_slotsHeld_32 rfl (lv_at hl 1 rfl) ?_
    exact q_iret C hr hlocks hK hP hD hS (Nat.le_of_ble_eq_true rfl) (Nat.le_of_ble_eq_true rfl) dX3_slotsHeld_33 (by cases hB; exact ⟨rfl, rfl⟩)
  · have hB := if_n hB c1
    refine lv_iload_n hx hb dX3_slotsHeld_9 rfl (lv_at hl 1 rfl) ?_
    refine lv_aload_n hx hb dX3_slotsHeld_10 rfl (lv_at hl 0 rfl) ?_
    refine q_get (v := .ref (c0 4)) C inX3_slotsHeld_X3 hK hP 1 rfl rfl 2 (by decide) rfl LX3_slotsHeld_20 rfl dX3_slotsHeld_11 ?_
    refine lv_iload_n hx hb dX3_slotsHeld_14 rfl (lv_at hl 2 rfl) ?_
    obtain ⟨g2, hB⟩ := guard_inv hB
    refine q_zald (x := ((s.f 4) (Int32.toNatClampNeg x2))) C hK hP 4 3 rfl rfl (vpb_in g2) dX3_slotsHeld_15 rfl ?_
    refine lv_if_eq (tgt := 23) hx hb dX3_slotsHeld_16 (by decide) (fun c3 => ?_) (fun c3 => ?_)
    · have hB := if_p hB c3
      refine lv_iconst (v := 0) hx hb dX3_slotsHeld_23 (by decide) ?_
      exact bkX3_slotsHeld_24 (hk4) _ _ _ _ hB p e s0 m below meth c A E H locs ls hP hD hS (lv_sub hl [0, 2] rfl)
    · have hB := if_n hB c3
      refine lv_iconst (v := 1) hx hb dX3_slotsHeld_19 (by decide) ?_
      refine lv_goto (tgt := 24) hx hb dX3_slotsHeld_20 (by decide) ?_
      exact bkX3_slotsHeld_24 (hk4) _ _ _ _ hB p e s0 m below meth c A E H locs ls hP hD hS (lv_sub hl [0, 2] rfl)
theorem bkX3_slotsHeld_4L {l : Launch} {dC : Nat → ClassId} {dI : Nat → Nat → Nat} {cB cI cJ cZ cS : ClassId} {a b b2 c0 : Nat → Nat} {rg sl : Nat → Option Nat} {as : List Value} {r : Int32} {s' : GS} : ∀ (n : Nat) (s : GS) (x1 : Int32) (x2 : Int32), kX3_slotsHeld_4L n s x1 x2 = some (r, s') → BlkI l yX3_slotsHeld wsX3_slotsHeld ({ frames := 0, cells := 0, slots := 0, locals := 0 }) cX3_slotsHeld 3 (some .int) (dC, dI) (tysA cB cI cJ cZ cS) as 4 (wG cZ cS a b b2 c0 rg sl s) [(0, .ref (c0 1)), (1, .int x1), (2, .int x2)] [] (fun x u => x = r ∧ u = (wG cZ cS a b b2 c0 rg sl s')) := by
  intro n
  induction n with
  | zero => intro s x1 x2 hB; exact none_ne hB
  | succ n ih => intro s x1 x2 hB; exact bkX3_slotsHeld_4 ih _ _ _ hB
set_option maxHeartbeats 4000000 in
set_option maxRecDepth 100000 in
theorem bkX3_slotsHeld {l : Launch} {dC : Nat → ClassId} {dI : Nat → Nat → Nat} {cB cI cJ cZ cS : ClassId} {a b b2 c0 : Nat → Nat} {rg sl : Nat → Option Nat} {as : List Value} {r : Int32} {s' : GS} (s : GS) (hB : kX3_slotsHeld s = some (r, s')) : BlkI l yX3_slotsHeld wsX3_slotsHeld ({ frames := 0, cells := 0, slots := 0, locals := 0 }) cX3_slotsHeld 3 (some .int) (dC, dI) (tysA cB cI cJ cZ cS) as 0 (wG cZ cS a b b2 c0 rg sl s) [(0, .ref (c0 1))] [] (fun x u => x = r ∧ u = (wG cZ cS a b b2 c0 rg sl s')) := by
  intro p e s0 m below meth c A E H locs ls hP hD hS hl
  obtain ⟨C, hr, hlocks, hA, hK, hN⟩ := id E
  obtain ⟨hx, hb, hml, hown, hts⟩ := id C
  unfold kX3_slotsHeld at hB
  refine lv_iconst (v := 0) hx hb dX3_slotsHeld_0 (by decide) ?_
  refine lv_istore_n (lv' := [(1, .int 0), (0, .ref (c0 1))]) hx hb dX3_slotsHeld_1 rfl hl (by decide) rfl (fun ls hl => ?_)
  refine lv_iconst (v := 0) hx hb dX3_slotsHeld_2 (by decide) ?_
  refine lv_istore_n (lv' := [(2, .int 0), (1, .int 0), (0, .ref (c0 1))]) hx hb dX3_slotsHeld_3 rfl hl (by decide) rfl (fun ls hl => ?_)
  exact bkX3_slotsHeld_4L fu _ _ _ hB p e s0 m below meth c A E H locs ls hP hD hS (lv_sub hl [2, 1, 0] rfl)
theorem ckX3_slotsHeld {l : Launch} {dC : Nat → ClassId} {dI : Nat → Nat → Nat} {cB cI cJ cZ cS : ClassId} {a b b2 c0 : Nat → Nat} {rg sl : Nat → Option Nat} {r : Int32} {s' : GS} {s : GS} (hB : kX3_slotsHeld s = some (r, s')) : CI l yX3_slotsHeld wsX3_slotsHeld ({ frames := 0, cells := 0, slots := 0, locals := 0 }) (dC, dI) (tysA cB cI cJ cZ cS) (wG cZ cS a b b2 c0 rg sl s) [.ref (c0 1)] (fun x u => x = r ∧ u = (wG cZ cS a b b2 c0 rg sl s')) :=
  CI_of (cc := cX3_slotsHeld) (maxL := 3) (ret := (some .int)) (by decide) rfl (Nat.le_of_ble_eq_true rfl) (bkX3_slotsHeld _ hB)
theorem LX4_isAt_31 : Cond.fieldLink RX4 31 "GuessFerry$Reader" "tokens" "LGuessFerry$Tokens;" ∈ wsX4_isAt := (List.mem_cons_of_mem _ (List.mem_append_left _ (List.mem_append_left _ (List.mem_of_getElem? (i := 1) rfl))))
theorem LX4_isAt_38 : Cond.fieldLink RX4 38 "GuessFerry$Reader" "at" "I" ∈ wsX4_isAt := (List.mem_cons_of_mem _ (List.mem_append_left _ (List.mem_append_left _ (List.mem_of_getElem? (i := 2) rfl))))
theorem LX4_isAt_41 : Cond.fieldLink RX4 41 "GuessFerry$Reader" "fault" "I" ∈ wsX4_isAt := (List.mem_cons_of_mem _ (List.mem_append_left _ (List.mem_append_left _ (List.mem_of_getElem? (i := 0) rfl))))
theorem inX4_isAt_X4 : ∀ w ∈ u_ws RX4 TX4 8, w ∈ wsX4_isAt := fun _ h => List.mem_cons_of_mem _ (List.mem_append_left _ (List.mem_append_right _ h))
theorem inX4_isAt_X9 : ∀ w ∈ u_ws RX9 TX9 7, w ∈ wsX4_isAt := fun _ h => List.mem_cons_of_mem _ (List.mem_append_right _ h)
set_option maxHeartbeats 4000000 in
set_option maxRecDepth 100000 in
theorem bkX4_isAt {l : Launch} {dC : Nat → ClassId} {dI : Nat → Nat → Nat} {cB cI cJ cZ cS : ClassId} {a : Nat → Nat} {as : List Value} {r : Int32} {s' : KS} (s : KS) (x1 : Int32) (hB : kX4_isAt s x1 = some (r, s')) : BlkI l yX4_isAt wsX4_isAt ({ frames := 0, cells := 0, slots := 0, locals := 0 }) cX4_isAt 2 (some .boolean) (dC, dI) (tysA cB cI cJ cZ cS) as 0 (wK cB cI cJ cZ cS a s) [(0, .ref (a 28)), (1, .int x1)] [] (fun x u => x = r ∧ u = (wK cB cI cJ cZ cS a s')) := by
  intro p e s0 m below meth c A E H locs ls hP hD hS hl
  obtain ⟨C, hr, hlocks, hA, hK, hN⟩ := id E
  obtain ⟨hx, hb, hml, hown, hts⟩ := id C
  unfold kX4_isAt at hB
  refine lv_aload_n hx hb dX4_isAt_0 rfl (lv_at hl 0 rfl) ?_
  refine q_get (v := .int (s.v 16)) C inX4_isAt_X4 hK hP 28 rfl rfl 4 (by decide) rfl LX4_isAt_41 rfl dX4_isAt_1 ?_
  refine lv_if_ne (tgt := 27) hx hb dX4_isAt_4 (by decide) (fun c1 => ?_) (fun c1 => ?_)
  · have hB := if_n hB c1
    refine lv_iconst (v := 0) hx hb dX4_isAt_27 (by decide) ?_
    exact q_zret C hr hlocks (Or.inl rfl) hK hP hD hS (Nat.le_of_ble_eq_true rfl) (Nat.le_of_ble_eq_true rfl) dX4_isAt_28 (by cases hB; exact ⟨rfl, rfl⟩)
  · have hB := if_p hB c1
    refine lv_aload_n hx hb dX4_isAt_7 rfl (lv_at hl 0 rfl) ?_
    refine q_get (v := .ref (a 30)) C inX4_isAt_X4 hK hP 28 rfl rfl 0 (by decide) rfl LX4_isAt_31 rfl dX4_isAt_8 ?_
    refine q_getN (v := .ref (a 32)) C hN inX4_isAt_X9 hK hP 30 rfl rfl 2 (by decide) rfl nwF_X4_63 rfl dX4_isAt_11 ?_
    refine lv_aload_n hx hb dX4_isAt_14 rfl (lv_at hl 0 rfl) ?_
    refine q_get (v := .int (s.v 15)) C inX4_isAt_X4 hK hP 28 rfl rfl 3 (by decide) rfl LX4_isAt_38 rfl dX4_isAt_15 ?_
    obtain ⟨g2, hB⟩ := guard_inv hB
    refine q_iald (x := ((s.f 32) (Int32.toNatClampNeg (s.v 15)))) C hK hP 32 1 rfl rfl (vpb_in g2) dX4_isAt_18 rfl ?_
    refine lv_iload_n hx hb dX4_isAt_19 rfl (lv_at hl 1 rfl) ?_
    refine lv_icmp_ne (tgt := 27) hx hb dX4_isAt_20 (by decide) (fun c3 => ?_) (fun c3 => ?_)
    · have hB := if_n hB c3
      refine lv_iconst (v := 0) hx hb dX4_isAt_27 (by decide) ?_
      exact q_zret C hr hlocks (Or.inl rfl) hK hP hD hS (Nat.le_of_ble_eq_true rfl) (Nat.le_of_ble_eq_true rfl) dX4_isAt_28 (by cases hB; exact ⟨rfl, rfl⟩)
    · have hB := if_p hB c3
      refine lv_iconst (v := 1) hx hb dX4_isAt_23 (by decide) ?_
      refine lv_goto (tgt := 28) hx hb dX4_isAt_24 (by decide) ?_
      exact q_zret C hr hlocks (Or.inr rfl) hK hP hD hS (Nat.le_of_ble_eq_true rfl) (Nat.le_of_ble_eq_true rfl) dX4_isAt_28 (by cases hB; exact ⟨rfl, rfl⟩)
theorem ckX4_isAt {l : Launch} {dC : Nat → ClassId} {dI : Nat → Nat → Nat} {cB cI cJ cZ cS : ClassId} {a : Nat → Nat} {r : Int32} {s' : KS} {s : KS} {x1 : Int32} (hB : kX4_isAt s x1 = some (r, s')) : CI l yX4_isAt wsX4_isAt ({ frames := 0, cells := 0, slots := 0, locals := 0 }) (dC, dI) (tysA cB cI cJ cZ cS) (wK cB cI cJ cZ cS a s) [.ref (a 28), .int x1] (fun x u => x = r ∧ u = (wK cB cI cJ cZ cS a s')) :=
  CI_of (cc := cX4_isAt) (maxL := 2) (ret := (some .boolean)) (by decide) rfl (Nat.le_of_ble_eq_true rfl) (bkX4_isAt _ _ hB)
end
section
theorem dX4_fail_0 : decode cX4_fail 0 = .ok (.aload_n 0, 1) := dc1_42 (by decide +kernel)
theorem dX4_fail_1 : decode cX4_fail 1 = .ok (.getfield 41, 3) := dcw_180 (by decide +kernel)
theorem dX4_fail_4 : decode cX4_fail 4 = .ok (.ifCond .ne 24, 3) := dcs_154 (n := 24) (by decide +kernel)
theorem dX4_fail_7 : decode cX4_fail 7 = .ok (.aload_n 0, 1) := dc1_42 (by decide +kernel)
theorem dX4_fail_8 : decode cX4_fail 8 = .ok (.iload_n 1, 1) := dc1_27 (by decide +kernel)
theorem dX4_fail_9 : decode cX4_fail 9 = .ok (.putfield 41, 3) := dcw_181 (by decide +kernel)
theorem dX4_fail_12 : decode cX4_fail 12 = .ok (.aload_n 0, 1) := dc1_42 (by decide +kernel)
theorem dX4_fail_13 : decode cX4_fail 13 = .ok (.aload_n 0, 1) := dc1_42 (by decide +kernel)
theorem dX4_fail_14 : decode cX4_fail 14 = .ok (.getfield 31, 3) := dcw_180 (by decide +kernel)
theorem dX4_fail_17 : decode cX4_fail 17 = .ok (.getfield 67, 3) := dcw_180 (by decide +kernel)
theorem dX4_fail_20 : decode cX4_fail 20 = .ok (.aload_n 0, 1) := dc1_42 (by decide +kernel)
theorem dX4_fail_21 : decode cX4_fail 21 = .ok (.getfield 38, 3) := dcw_180 (by decide +kernel)
theorem dX4_fail_24 : decode cX4_fail 24 = .ok (.iaload, 1) := dc1_46 (by decide +kernel)
theorem dX4_fail_25 : decode cX4_fail 25 = .ok (.putfield 22, 3) := dcw_181 (by decide +kernel)
theorem dX4_fail_28 : decode cX4_fail 28 = .ok (.return_, 1) := dc1_177 (by decide +kernel)
theorem dX4_failLater_0 : decode cX4_failLater 0 = .ok (.aload_n 0, 1) := dc1_42 (by decide +kernel)
theorem dX4_failLater_1 : decode cX4_failLater 1 = .ok (.getfield 44, 3) := dcw_180 (by decide +kernel)
theorem dX4_failLater_4 : decode cX4_failLater 4 = .ok (.ifCond .ne 13, 3) := dcs_154 (n := 13) (by decide +kernel)
theorem dX4_failLater_7 : decode cX4_failLater 7 = .ok (.aload_n 0, 1) := dc1_42 (by decide +kernel)
theorem dX4_failLater_8 : decode cX4_failLater 8 = .ok (.iload_n 1, 1) := dc1_27 (by decide +kernel)
theorem dX4_failLater_9 : decode cX4_failLater 9 = .ok (.putfield 44, 3) := dcw_181 (by decide +kernel)
theorem dX4_failLater_12 : decode cX4_failLater 12 = .ok (.aload_n 0, 1) := dc1_42 (by decide +kernel)
theorem dX4_failLater_13 : decode cX4_failLater 13 = .ok (.iload_n 2, 1) := dc1_28 (by decide +kernel)
theorem dX4_failLater_14 : decode cX4_failLater 14 = .ok (.putfield 47, 3) := dcw_181 (by decide +kernel)
theorem dX4_failLater_17 : decode cX4_failLater 17 = .ok (.return_, 1) := dc1_177 (by decide +kernel)
theorem ggX4_take_X4_isAt : GoodIn wsX4_take wsX4_isAt := gi_sub (fun w h => List.mem_cons_of_mem _ (List.mem_append_left _ (List.mem_append_left _ (List.mem_append_right _ (List.mem_append_left _ h))))) gd_wsX4_isAt
set_option maxRecDepth 20000 in
theorem gX4_take_X4_isAt : GoodIn wsX4_take (wsV RX4 53 RX4 yX4_isAt wsX4_isAt) := goodIn_app (goodIn_r _ [2, 3, 4, 5] (by decide +kernel) (by decide +kernel)) ggX4_take_X4_isAt
theorem ggX4_take_X4_fail : GoodIn wsX4_take wsX4_fail := gi_sub (fun w h => List.mem_cons_of_mem _ (List.mem_append_left _ (List.mem_append_left _ (List.mem_append_right _ (List.mem_append_right _ h))))) gd_wsX4_fail
set_option maxRecDepth 20000 in
theorem gX4_take_X4_fail : GoodIn wsX4_take (wsV RX4 70 RX4 yX4_fail wsX4_fail) := goodIn_app (goodIn_r _ [6, 7, 8, 5] (by decide +kernel) (by decide +kernel)) ggX4_take_X4_fail
theorem dX4_take_0 : decode cX4_take 0 = .ok (.aload_n 0, 1) := dc1_42 (by decide +kernel)
theorem dX4_take_1 : decode cX4_take 1 = .ok (.iload_n 1, 1) := dc1_27 (by decide +kernel)
theorem dX4_take_2 : decode cX4_take 2 = .ok (.invokevirtual 53, 3) := dcw_182 (by decide +kernel)
theorem dX4_take_5 : decode cX4_take 5 = .ok (.ifCond .ne 11, 3) := dcs_154 (n := 11) (by decide +kernel)
theorem dX4_take_8 : decode cX4_take 8 = .ok (.aload_n 0, 1) := dc1_42 (by decide +kernel)
theorem dX4_take_9 : decode cX4_take 9 = .ok (.iconst 1, 1) := dc1_4 (by decide +kernel)
theorem dX4_take_10 : decode cX4_take 10 = .ok (.invokevirtual 70, 3) := dcw_182 (by decide +kernel)
theorem dX4_take_13 : decode cX4_take 13 = .ok (.goto 31, 3) := dcs_167 (n := 31) (by decide +kernel)
theorem dX4_take_16 : decode cX4_take 16 = .ok (.aload_n 0, 1) := dc1_42 (by decide +kernel)
theorem dX4_take_17 : decode cX4_take 17 = .ok (.getfield 38, 3) := dcw_180 (by decide +kernel)
theorem dX4_take_20 : decode cX4_take 20 = .ok (.sipush 400, 3) := dcs_17 (n := 400) (by decide +kernel)
theorem dX4_take_23 : decode cX4_take 23 = .ok (.if_icmp .lt 11, 3) := dcs_161 (n := 11) (by decide +kernel)
theorem dX4_take_26 : decode cX4_take 26 = .ok (.aload_n 0, 1) := dc1_42 (by decide +kernel)
theorem dX4_take_27 : decode cX4_take 27 = .ok (.iconst 2, 1) := dc1_5 (by decide +kernel)
theorem dX4_take_28 : decode cX4_take 28 = .ok (.invokevirtual 70, 3) := dcw_182 (by decide +kernel)
theorem dX4_take_31 : decode cX4_take 31 = .ok (.goto 13, 3) := dcs_167 (n := 13) (by decide +kernel)
theorem dX4_take_34 : decode cX4_take 34 = .ok (.aload_n 0, 1) := dc1_42 (by decide +kernel)
theorem dX4_take_35 : decode cX4_take 35 = .ok (.dup, 1) := dc1_89 (by decide +kernel)
theorem dX4_take_36 : decode cX4_take 36 = .ok (.getfield 38, 3) := dcw_180 (by decide +kernel)
theorem dX4_take_39 : decode cX4_take 39 = .ok (.iconst 1, 1) := dc1_4 (by decide +kernel)
theorem dX4_take_40 : decode cX4_take 40 = .ok (.iadd, 1) := dc1_96 (by decide +kernel)
theorem dX4_take_41 : decode cX4_take 41 = .ok (.putfield 38, 3) := dcw_181 (by decide +kernel)
theorem dX4_take_44 : decode cX4_take 44 = .ok (.return_, 1) := dc1_177 (by decide +kernel)
theorem ggX4_takeInt_X4_isAt : GoodIn wsX4_takeInt wsX4_isAt := gi_sub (fun w h => List.mem_cons_of_mem _ (List.mem_append_left _ (List.mem_append_left _ (List.mem_append_right _ (List.mem_append_left _ h))))) gd_wsX4_isAt
set_option maxRecDepth 20000 in
theorem gX4_takeInt_X4_isAt : GoodIn wsX4_takeInt (wsV RX4 53 RX4 yX4_isAt wsX4_isAt) := goodIn_app (goodIn_r _ [3, 4, 5, 6] (by decide +kernel) (by decide +kernel)) ggX4_takeInt_X4_isAt
theorem ggX4_takeInt_X4_failLater : GoodIn wsX4_takeInt wsX4_failLater := gi_sub (fun w h => List.mem_cons_of_mem _ (List.mem_append_left _ (List.mem_append_left _ (List.mem_append_right _ (List.mem_append_right _ (List.mem_append_left _ h)))))) gd_wsX4_failLater
set_option maxRecDepth 20000 in
theorem gX4_takeInt_X4_failLater : GoodIn wsX4_takeInt (wsV RX4 77 RX4 yX4_failLater wsX4_failLater) := goodIn_app (goodIn_r _ [7, 8, 9, 6] (by decide +kernel) (by decide +kernel)) ggX4_takeInt_X4_failLater
theorem ggX4_takeInt_X4_take : GoodIn wsX4_takeInt wsX4_take := gi_sub (fun w h => List.mem_cons_of_mem _ (List.mem_append_left _ (List.mem_append_left _ (List.mem_append_right _ (List.mem_append_right _ (List.mem_append_right _ h)))))) gd_wsX4_take
set_option maxRecDepth 20000 in
theorem gX4_takeInt_X4_take : GoodIn wsX4_takeInt (wsV RX4 81 RX4 yX4_take wsX4_take) := goodIn_app (goodIn_r _ [10, 11, 12, 6] (by decide +kernel) (by decide +kernel)) ggX4_takeInt_X4_take
theorem dX4_takeInt_0 : decode cX4_takeInt 0 = .ok (.aload_n 0, 1) := dc1_42 (by decide +kernel)
theorem dX4_takeInt_1 : decode cX4_takeInt 1 = .ok (.getfield 31, 3) := dcw_180 (by decide +kernel)
theorem dX4_takeInt_4 : decode cX4_takeInt 4 = .ok (.getfield 74, 3) := dcw_180 (by decide +kernel)
theorem dX4_takeInt_7 : decode cX4_takeInt 7 = .ok (.aload_n 0, 1) := dc1_42 (by decide +kernel)
theorem dX4_takeInt_8 : decode cX4_takeInt 8 = .ok (.getfield 38, 3) := dcw_180 (by decide +kernel)
theorem dX4_takeInt_11 : decode cX4_takeInt 11 = .ok (.laload, 1) := dc1_47 (by decide +kernel)
theorem dX4_takeInt_12 : decode cX4_takeInt 12 = .ok (.l2i, 1) := dc1_136 (by decide +kernel)
theorem dX4_takeInt_13 : decode cX4_takeInt 13 = .ok (.istore_n 2, 1) := dc1_61 (by decide +kernel)
theorem dX4_takeInt_14 : decode cX4_takeInt 14 = .ok (.aload_n 0, 1) := dc1_42 (by decide +kernel)
theorem dX4_takeInt_15 : decode cX4_takeInt 15 = .ok (.sipush 301, 3) := dcs_17 (n := 301) (by decide +kernel)
theorem dX4_takeInt_18 : decode cX4_takeInt 18 = .ok (.invokevirtual 53, 3) := dcw_182 (by decide +kernel)
theorem dX4_takeInt_21 : decode cX4_takeInt 21 = .ok (.ifCond .eq 25, 3) := dcs_153 (n := 25) (by decide +kernel)
theorem dX4_takeInt_24 : decode cX4_takeInt 24 = .ok (.iload_n 2, 1) := dc1_28 (by decide +kernel)
theorem dX4_takeInt_25 : decode cX4_takeInt 25 = .ok (.iload_n 1, 1) := dc1_27 (by decide +kernel)
theorem dX4_takeInt_26 : decode cX4_takeInt 26 = .ok (.if_icmp .le 20, 3) := dcs_164 (n := 20) (by decide +kernel)
theorem dX4_takeInt_29 : decode cX4_takeInt 29 = .ok (.aload_n 0, 1) := dc1_42 (by decide +kernel)
theorem dX4_takeInt_30 : decode cX4_takeInt 30 = .ok (.iconst 5, 1) := dc1_8 (by decide +kernel)
theorem dX4_takeInt_31 : decode cX4_takeInt 31 = .ok (.aload_n 0, 1) := dc1_42 (by decide +kernel)
theorem dX4_takeInt_32 : decode cX4_takeInt 32 = .ok (.getfield 31, 3) := dcw_180 (by decide +kernel)
theorem dX4_takeInt_35 : decode cX4_takeInt 35 = .ok (.getfield 67, 3) := dcw_180 (by decide +kernel)
theorem dX4_takeInt_38 : decode cX4_takeInt 38 = .ok (.aload_n 0, 1) := dc1_42 (by decide +kernel)
theorem dX4_takeInt_39 : decode cX4_takeInt 39 = .ok (.getfield 38, 3) := dcw_180 (by decide +kernel)
theorem dX4_takeInt_42 : decode cX4_takeInt 42 = .ok (.iaload, 1) := dc1_46 (by decide +kernel)
theorem dX4_takeInt_43 : decode cX4_takeInt 43 = .ok (.invokevirtual 77, 3) := dcw_182 (by decide +kernel)
theorem dX4_takeInt_46 : decode cX4_takeInt 46 = .ok (.aload_n 0, 1) := dc1_42 (by decide +kernel)
theorem dX4_takeInt_47 : decode cX4_takeInt 47 = .ok (.sipush 301, 3) := dcs_17 (n := 301) (by decide +kernel)
theorem dX4_takeInt_50 : decode cX4_takeInt 50 = .ok (.invokevirtual 81, 3) := dcw_182 (by decide +kernel)
theorem dX4_takeInt_53 : decode cX4_takeInt 53 = .ok (.iload_n 2, 1) := dc1_28 (by decide +kernel)
theorem dX4_takeInt_54 : decode cX4_takeInt 54 = .ok (.ireturn, 1) := dc1_172 (by decide +kernel)
theorem ggX4_readWave_X4_fail : GoodIn wsX4_readWave wsX4_fail := gi_sub (fun w h => List.mem_cons_of_mem _ (List.mem_append_left _ (List.mem_append_left _ (List.mem_append_left _ (List.mem_append_right _ (List.mem_append_left _ h)))))) gd_wsX4_fail
set_option maxRecDepth 20000 in
theorem gX4_readWave_X4_fail : GoodIn wsX4_readWave (wsV RX4 70 RX4 yX4_fail wsX4_fail) := goodIn_app (goodIn_r _ [4, 5, 6, 7] (by decide +kernel) (by decide +kernel)) ggX4_readWave_X4_fail
theorem ggX4_readWave_X4_take : GoodIn wsX4_readWave wsX4_take := gi_sub (fun w h => List.mem_cons_of_mem _ (List.mem_append_left _ (List.mem_append_left _ (List.mem_append_left _ (List.mem_append_right _ (List.mem_append_right _ (List.mem_append_left _ h))))))) gd_wsX4_take
set_option maxRecDepth 20000 in
theorem gX4_readWave_X4_take : GoodIn wsX4_readWave (wsV RX4 81 RX4 yX4_take wsX4_take) := goodIn_app (goodIn_r _ [8, 9, 10, 7] (by decide +kernel) (by decide +kernel)) ggX4_readWave_X4_take
theorem ggX4_readWave_X4_takeInt : GoodIn wsX4_readWave wsX4_takeInt := gi_sub (fun w h => List.mem_cons_of_mem _ (List.mem_append_left _ (List.mem_append_left _ (List.mem_append_left _ (List.mem_append_right _ (List.mem_append_right _ (List.mem_append_right _ (List.mem_append_left _ h)))))))) gd_wsX4_takeInt
set_option maxRecDepth 20000 in
theorem gX4_readWave_X4_takeInt : GoodIn wsX4_readWave (wsV RX4 90 RX4 yX4_takeInt wsX4_takeInt) := goodIn_app (goodIn_r _ [11, 12, 13, 7] (by decide +kernel) (by decide +kernel)) ggX4_readWave_X4_takeInt
theorem ggX4_readWave_X4_failLater : GoodIn wsX4_readWave wsX4_failLater := gi_sub (fun w h => List.mem_cons_of_mem _ (List.mem_append_left _ (List.mem_append_left _ (List.mem_append_left _ (List.mem_append_right _ (List.mem_append_right _ (List.mem_append_right _ (List.mem_append_right _ h)))))))) gd_wsX4_failLater
set_option maxRecDepth 20000 in
theorem gX4_readWave_X4_failLater : GoodIn wsX4_readWave (wsV RX4 77 RX4 yX4_failLater wsX4_failLater) := goodIn_app (goodIn_r _ [14, 15, 16, 7] (by decide +kernel) (by decide +kernel)) ggX4_readWave_X4_failLater
theorem dX4_readWave_0 : decode cX4_readWave 0 = .ok (.aload_n 0, 1) := dc1_42 (by decide +kernel)
theorem dX4_readWave_1 : decode cX4_readWave 1 = .ok (.getfield 12, 3) := dcw_180 (by decide +kernel)
theorem dX4_readWave_4 : decode cX4_readWave 4 = .ok (.getfield 100, 3) := dcw_180 (by decide +kernel)
theorem dX4_readWave_7 : decode cX4_readWave 7 = .ok (.iconst 5, 1) := dc1_8 (by decide +kernel)
theorem dX4_readWave_8 : decode cX4_readWave 8 = .ok (.if_icmp .lt 9, 3) := dcs_161 (n := 9) (by decide +kernel)
theorem dX4_readWave_11 : decode cX4_readWave 11 = .ok (.aload_n 0, 1) := dc1_42 (by decide +kernel)
theorem dX4_readWave_12 : decode cX4_readWave 12 = .ok (.iconst 2, 1) := dc1_5 (by decide +kernel)
theorem dX4_readWave_13 : decode cX4_readWave 13 = .ok (.invokevirtual 70, 3) := dcw_182 (by decide +kernel)
theorem dX4_readWave_16 : decode cX4_readWave 16 = .ok (.return_, 1) := dc1_177 (by decide +kernel)
theorem dX4_readWave_17 : decode cX4_readWave 17 = .ok (.aload_n 0, 1) := dc1_42 (by decide +kernel)
theorem dX4_readWave_18 : decode cX4_readWave 18 = .ok (.sipush 256, 3) := dcs_17 (n := 256) (by decide +kernel)
theorem dX4_readWave_21 : decode cX4_readWave 21 = .ok (.invokevirtual 81, 3) := dcw_182 (by decide +kernel)
theorem dX4_readWave_24 : decode cX4_readWave 24 = .ok (.iconst 0, 1) := dc1_3 (by decide +kernel)
theorem dX4_readWave_25 : decode cX4_readWave 25 = .ok (.istore_n 1, 1) := dc1_60 (by decide +kernel)
theorem dX4_readWave_26 : decode cX4_readWave 26 = .ok (.iconst (-1), 1) := dc1_2 (by decide +kernel)
theorem dX4_readWave_27 : decode cX4_readWave 27 = .ok (.istore_n 2, 1) := dc1_61 (by decide +kernel)
theorem dX4_readWave_28 : decode cX4_readWave 28 = .ok (.iconst 0, 1) := dc1_3 (by decide +kernel)
theorem dX4_readWave_29 : decode cX4_readWave 29 = .ok (.istore_n 3, 1) := dc1_62 (by decide +kernel)
theorem dX4_readWave_30 : decode cX4_readWave 30 = .ok (.iload_n 3, 1) := dc1_29 (by decide +kernel)
theorem dX4_readWave_31 : decode cX4_readWave 31 = .ok (.bipush 6, 2) := dcb_16 (n := 6) (by decide +kernel)
theorem dX4_readWave_33 : decode cX4_readWave 33 = .ok (.if_icmp .ge 57, 3) := dcs_162 (n := 57) (by decide +kernel)
theorem dX4_readWave_36 : decode cX4_readWave 36 = .ok (.aload_n 0, 1) := dc1_42 (by decide +kernel)
theorem dX4_readWave_37 : decode cX4_readWave 37 = .ok (.getfield 31, 3) := dcw_180 (by decide +kernel)
theorem dX4_readWave_40 : decode cX4_readWave 40 = .ok (.getfield 67, 3) := dcw_180 (by decide +kernel)
theorem dX4_readWave_43 : decode cX4_readWave 43 = .ok (.aload_n 0, 1) := dc1_42 (by decide +kernel)
theorem dX4_readWave_44 : decode cX4_readWave 44 = .ok (.getfield 38, 3) := dcw_180 (by decide +kernel)
theorem dX4_readWave_47 : decode cX4_readWave 47 = .ok (.iaload, 1) := dc1_46 (by decide +kernel)
theorem dX4_readWave_48 : decode cX4_readWave 48 = .ok (.istore_n 2, 1) := dc1_61 (by decide +kernel)
theorem dX4_readWave_49 : decode cX4_readWave 49 = .ok (.aload_n 0, 1) := dc1_42 (by decide +kernel)
theorem dX4_readWave_50 : decode cX4_readWave 50 = .ok (.bipush 9, 2) := dcb_16 (n := 9) (by decide +kernel)
theorem dX4_readWave_52 : decode cX4_readWave 52 = .ok (.invokevirtual 90, 3) := dcw_182 (by decide +kernel)
theorem dX4_readWave_55 : decode cX4_readWave 55 = .ok (.istore 4, 2) := dcu_54 (by decide +kernel)
theorem dX4_readWave_57 : decode cX4_readWave 57 = .ok (.aload_n 0, 1) := dc1_42 (by decide +kernel)
theorem dX4_readWave_58 : decode cX4_readWave 58 = .ok (.getfield 12, 3) := dcw_180 (by decide +kernel)
theorem dX4_readWave_61 : decode cX4_readWave 61 = .ok (.getfield 103, 3) := dcw_180 (by decide +kernel)
theorem dX4_readWave_64 : decode cX4_readWave 64 = .ok (.aload_n 0, 1) := dc1_42 (by decide +kernel)
theorem dX4_readWave_65 : decode cX4_readWave 65 = .ok (.getfield 12, 3) := dcw_180 (by decide +kernel)
theorem dX4_readWave_68 : decode cX4_readWave 68 = .ok (.getfield 100, 3) := dcw_180 (by decide +kernel)
theorem dX4_readWave_71 : decode cX4_readWave 71 = .ok (.bipush 6, 2) := dcb_16 (n := 6) (by decide +kernel)
theorem dX4_readWave_73 : decode cX4_readWave 73 = .ok (.imul, 1) := dc1_104 (by decide +kernel)
theorem dX4_readWave_74 : decode cX4_readWave 74 = .ok (.iload_n 3, 1) := dc1_29 (by decide +kernel)
theorem dX4_readWave_75 : decode cX4_readWave 75 = .ok (.iadd, 1) := dc1_96 (by decide +kernel)
theorem dX4_readWave_76 : decode cX4_readWave 76 = .ok (.iload 4, 2) := dcu_21 (by decide +kernel)
theorem dX4_readWave_78 : decode cX4_readWave 78 = .ok (.iastore, 1) := dc1_79 (by decide +kernel)
theorem dX4_readWave_79 : decode cX4_readWave 79 = .ok (.iload_n 1, 1) := dc1_27 (by decide +kernel)
theorem dX4_readWave_80 : decode cX4_readWave 80 = .ok (.iload 4, 2) := dcu_21 (by decide +kernel)
theorem dX4_readWave_82 : decode cX4_readWave 82 = .ok (.iadd, 1) := dc1_96 (by decide +kernel)
theorem dX4_readWave_83 : decode cX4_readWave 83 = .ok (.istore_n 1, 1) := dc1_60 (by decide +kernel)
theorem dX4_readWave_84 : decode cX4_readWave 84 = .ok (.iinc 3 1, 3) := dc_iinc (m := 1) (by decide +kernel)
theorem dX4_readWave_87 : decode cX4_readWave 87 = .ok (.goto (-57), 3) := dcs_167 (n := 65479) (by decide +kernel)
theorem dX4_readWave_90 : decode cX4_readWave 90 = .ok (.iload_n 1, 1) := dc1_27 (by decide +kernel)
theorem dX4_readWave_91 : decode cX4_readWave 91 = .ok (.ifCond .ne 9, 3) := dcs_154 (n := 9) (by decide +kernel)
theorem dX4_readWave_94 : decode cX4_readWave 94 = .ok (.aload_n 0, 1) := dc1_42 (by decide +kernel)
theorem dX4_readWave_95 : decode cX4_readWave 95 = .ok (.iconst 5, 1) := dc1_8 (by decide +kernel)
theorem dX4_readWave_96 : decode cX4_readWave 96 = .ok (.iload_n 2, 1) := dc1_28 (by decide +kernel)
theorem dX4_readWave_97 : decode cX4_readWave 97 = .ok (.invokevirtual 77, 3) := dcw_182 (by decide +kernel)
theorem dX4_readWave_100 : decode cX4_readWave 100 = .ok (.aload_n 0, 1) := dc1_42 (by decide +kernel)
theorem dX4_readWave_101 : decode cX4_readWave 101 = .ok (.bipush 59, 2) := dcb_16 (n := 59) (by decide +kernel)
theorem dX4_readWave_103 : decode cX4_readWave 103 = .ok (.invokevirtual 81, 3) := dcw_182 (by decide +kernel)
theorem dX4_readWave_106 : decode cX4_readWave 106 = .ok (.aload_n 0, 1) := dc1_42 (by decide +kernel)
theorem dX4_readWave_107 : decode cX4_readWave 107 = .ok (.getfield 12, 3) := dcw_180 (by decide +kernel)
theorem dX4_readWave_110 : decode cX4_readWave 110 = .ok (.dup, 1) := dc1_89 (by decide +kernel)
theorem dX4_readWave_111 : decode cX4_readWave 111 = .ok (.getfield 100, 3) := dcw_180 (by decide +kernel)
theorem dX4_readWave_114 : decode cX4_readWave 114 = .ok (.iconst 1, 1) := dc1_4 (by decide +kernel)
theorem dX4_readWave_115 : decode cX4_readWave 115 = .ok (.iadd, 1) := dc1_96 (by decide +kernel)
theorem dX4_readWave_116 : decode cX4_readWave 116 = .ok (.putfield 100, 3) := dcw_181 (by decide +kernel)
theorem dX4_readWave_119 : decode cX4_readWave 119 = .ok (.return_, 1) := dc1_177 (by decide +kernel)
theorem dX4_isTold_0 : decode cX4_isTold 0 = .ok (.iconst 0, 1) := dc1_3 (by decide +kernel)
theorem dX4_isTold_1 : decode cX4_isTold 1 = .ok (.istore_n 3, 1) := dc1_62 (by decide +kernel)
theorem dX4_isTold_2 : decode cX4_isTold 2 = .ok (.iload_n 3, 1) := dc1_29 (by decide +kernel)
theorem dX4_isTold_3 : decode cX4_isTold 3 = .ok (.aload_n 0, 1) := dc1_42 (by decide +kernel)
theorem dX4_isTold_4 : decode cX4_isTold 4 = .ok (.getfield 12, 3) := dcw_180 (by decide +kernel)
theorem dX4_isTold_7 : decode cX4_isTold 7 = .ok (.getfield 106, 3) := dcw_180 (by decide +kernel)
theorem dX4_isTold_10 : decode cX4_isTold 10 = .ok (.if_icmp .ge 22, 3) := dcs_162 (n := 22) (by decide +kernel)
theorem dX4_isTold_13 : decode cX4_isTold 13 = .ok (.aload_n 0, 1) := dc1_42 (by decide +kernel)
theorem dX4_isTold_14 : decode cX4_isTold 14 = .ok (.getfield 18, 3) := dcw_180 (by decide +kernel)
theorem dX4_isTold_17 : decode cX4_isTold 17 = .ok (.iload_n 3, 1) := dc1_29 (by decide +kernel)
theorem dX4_isTold_18 : decode cX4_isTold 18 = .ok (.laload, 1) := dc1_47 (by decide +kernel)
theorem dX4_isTold_19 : decode cX4_isTold 19 = .ok (.lload_n 1, 1) := dc1_31 (by decide +kernel)
theorem dX4_isTold_20 : decode cX4_isTold 20 = .ok (.lcmp, 1) := dc1_148 (by decide +kernel)
theorem dX4_isTold_21 : decode cX4_isTold 21 = .ok (.ifCond .ne 5, 3) := dcs_154 (n := 5) (by decide +kernel)
theorem dX4_isTold_24 : decode cX4_isTold 24 = .ok (.iconst 1, 1) := dc1_4 (by decide +kernel)
theorem dX4_isTold_25 : decode cX4_isTold 25 = .ok (.ireturn, 1) := dc1_172 (by decide +kernel)
theorem dX4_isTold_26 : decode cX4_isTold 26 = .ok (.iinc 3 1, 3) := dc_iinc (m := 1) (by decide +kernel)
theorem dX4_isTold_29 : decode cX4_isTold 29 = .ok (.goto (-27), 3) := dcs_167 (n := 65509) (by decide +kernel)
theorem dX4_isTold_32 : decode cX4_isTold 32 = .ok (.iconst 0, 1) := dc1_3 (by decide +kernel)
theorem dX4_isTold_33 : decode cX4_isTold 33 = .ok (.ireturn, 1) := dc1_172 (by decide +kernel)
theorem ggX5_copyFrom_X1_copyFrom : GoodIn wsX5_copyFrom wsX1_copyFrom := gi_sub (fun w h => List.mem_cons_of_mem _ (List.mem_append_left _ (List.mem_append_left _ (List.mem_append_right _ h)))) gd_wsX1_copyFrom
set_option maxRecDepth 20000 in
theorem gX5_copyFrom_X1_copyFrom_n61 : GoodIn wsX5_copyFrom (wsX1_copyFrom) := ggX5_copyFrom_X1_copyFrom
theorem dX5_copyFrom_0 : decode cX5_copyFrom 0 = .ok (.aload_n 1, 1) := dc1_43 (by decide +kernel)
theorem dX5_copyFrom_1 : decode cX5_copyFrom 1 = .ok (.getfield 9, 3) := dcw_180 (by decide +kernel)
theorem dX5_copyFrom_4 : decode cX5_copyFrom 4 = .ok (.iconst 0, 1) := dc1_3 (by decide +kernel)
theorem dX5_copyFrom_5 : decode cX5_copyFrom 5 = .ok (.aload_n 0, 1) := dc1_42 (by decide +kernel)
theorem dX5_copyFrom_6 : decode cX5_copyFrom 6 = .ok (.getfield 9, 3) := dcw_180 (by decide +kernel)
theorem dX5_copyFrom_9 : decode cX5_copyFrom 9 = .ok (.iconst 0, 1) := dc1_3 (by decide +kernel)
theorem dX5_copyFrom_10 : decode cX5_copyFrom 10 = .ok (.bipush 30, 2) := dcb_16 (n := 30) (by decide +kernel)
theorem dX5_copyFrom_12 : decode cX5_copyFrom 12 = .ok (.invokestatic 55, 3) := dcw_184 (by decide +kernel)
theorem dX5_copyFrom_15 : decode cX5_copyFrom 15 = .ok (.aload_n 1, 1) := dc1_43 (by decide +kernel)
theorem dX5_copyFrom_16 : decode cX5_copyFrom 16 = .ok (.getfield 15, 3) := dcw_180 (by decide +kernel)
theorem dX5_copyFrom_19 : decode cX5_copyFrom 19 = .ok (.iconst 0, 1) := dc1_3 (by decide +kernel)
theorem dX5_copyFrom_20 : decode cX5_copyFrom 20 = .ok (.aload_n 0, 1) := dc1_42 (by decide +kernel)
theorem dX5_copyFrom_21 : decode cX5_copyFrom 21 = .ok (.getfield 15, 3) := dcw_180 (by decide +kernel)
theorem dX5_copyFrom_24 : decode cX5_copyFrom 24 = .ok (.iconst 0, 1) := dc1_3 (by decide +kernel)
theorem dX5_copyFrom_25 : decode cX5_copyFrom 25 = .ok (.iconst 5, 1) := dc1_8 (by decide +kernel)
theorem dX5_copyFrom_26 : decode cX5_copyFrom 26 = .ok (.invokestatic 55, 3) := dcw_184 (by decide +kernel)
theorem dX5_copyFrom_29 : decode cX5_copyFrom 29 = .ok (.aload_n 1, 1) := dc1_43 (by decide +kernel)
theorem dX5_copyFrom_30 : decode cX5_copyFrom 30 = .ok (.getfield 18, 3) := dcw_180 (by decide +kernel)
theorem dX5_copyFrom_33 : decode cX5_copyFrom 33 = .ok (.iconst 0, 1) := dc1_3 (by decide +kernel)
theorem dX5_copyFrom_34 : decode cX5_copyFrom 34 = .ok (.aload_n 0, 1) := dc1_42 (by decide +kernel)
theorem dX5_copyFrom_35 : decode cX5_copyFrom 35 = .ok (.getfield 18, 3) := dcw_180 (by decide +kernel)
theorem dX5_copyFrom_38 : decode cX5_copyFrom 38 = .ok (.iconst 0, 1) := dc1_3 (by decide +kernel)
theorem dX5_copyFrom_39 : decode cX5_copyFrom 39 = .ok (.iconst 5, 1) := dc1_8 (by decide +kernel)
theorem dX5_copyFrom_40 : decode cX5_copyFrom 40 = .ok (.invokestatic 55, 3) := dcw_184 (by decide +kernel)
theorem dX5_copyFrom_43 : decode cX5_copyFrom 43 = .ok (.aload_n 1, 1) := dc1_43 (by decide +kernel)
theorem dX5_copyFrom_44 : decode cX5_copyFrom 44 = .ok (.getfield 21, 3) := dcw_180 (by decide +kernel)
theorem dX5_copyFrom_47 : decode cX5_copyFrom 47 = .ok (.iconst 0, 1) := dc1_3 (by decide +kernel)
theorem dX5_copyFrom_48 : decode cX5_copyFrom 48 = .ok (.aload_n 0, 1) := dc1_42 (by decide +kernel)
theorem dX5_copyFrom_49 : decode cX5_copyFrom 49 = .ok (.getfield 21, 3) := dcw_180 (by decide +kernel)
theorem dX5_copyFrom_52 : decode cX5_copyFrom 52 = .ok (.iconst 0, 1) := dc1_3 (by decide +kernel)
theorem dX5_copyFrom_53 : decode cX5_copyFrom 53 = .ok (.bipush 6, 2) := dcb_16 (n := 6) (by decide +kernel)
theorem dX5_copyFrom_55 : decode cX5_copyFrom 55 = .ok (.invokestatic 55, 3) := dcw_184 (by decide +kernel)
theorem dX5_copyFrom_58 : decode cX5_copyFrom 58 = .ok (.aload_n 1, 1) := dc1_43 (by decide +kernel)
theorem dX5_copyFrom_59 : decode cX5_copyFrom 59 = .ok (.getfield 24, 3) := dcw_180 (by decide +kernel)
theorem dX5_copyFrom_62 : decode cX5_copyFrom 62 = .ok (.iconst 0, 1) := dc1_3 (by decide +kernel)
theorem dX5_copyFrom_63 : decode cX5_copyFrom 63 = .ok (.aload_n 0, 1) := dc1_42 (by decide +kernel)
theorem dX5_copyFrom_64 : decode cX5_copyFrom 64 = .ok (.getfield 24, 3) := dcw_180 (by decide +kernel)
theorem dX5_copyFrom_67 : decode cX5_copyFrom 67 = .ok (.iconst 0, 1) := dc1_3 (by decide +kernel)
theorem dX5_copyFrom_68 : decode cX5_copyFrom 68 = .ok (.bipush 6, 2) := dcb_16 (n := 6) (by decide +kernel)
theorem dX5_copyFrom_70 : decode cX5_copyFrom 70 = .ok (.invokestatic 55, 3) := dcw_184 (by decide +kernel)
theorem dX5_copyFrom_73 : decode cX5_copyFrom 73 = .ok (.aload_n 0, 1) := dc1_42 (by decide +kernel)
theorem dX5_copyFrom_74 : decode cX5_copyFrom 74 = .ok (.getfield 30, 3) := dcw_180 (by decide +kernel)
theorem dX5_copyFrom_77 : decode cX5_copyFrom 77 = .ok (.aload_n 1, 1) := dc1_43 (by decide +kernel)
theorem dX5_copyFrom_78 : decode cX5_copyFrom 78 = .ok (.getfield 30, 3) := dcw_180 (by decide +kernel)
theorem dX5_copyFrom_81 : decode cX5_copyFrom 81 = .ok (.invokevirtual 61, 3) := dcw_182 (by decide +kernel)
theorem dX5_copyFrom_84 : decode cX5_copyFrom 84 = .ok (.aload_n 0, 1) := dc1_42 (by decide +kernel)
theorem dX5_copyFrom_85 : decode cX5_copyFrom 85 = .ok (.aload_n 1, 1) := dc1_43 (by decide +kernel)
theorem dX5_copyFrom_86 : decode cX5_copyFrom 86 = .ok (.getfield 37, 3) := dcw_180 (by decide +kernel)
theorem dX5_copyFrom_89 : decode cX5_copyFrom 89 = .ok (.putfield 37, 3) := dcw_181 (by decide +kernel)
theorem dX5_copyFrom_92 : decode cX5_copyFrom 92 = .ok (.aload_n 0, 1) := dc1_42 (by decide +kernel)
theorem dX5_copyFrom_93 : decode cX5_copyFrom 93 = .ok (.aload_n 1, 1) := dc1_43 (by decide +kernel)
theorem dX5_copyFrom_94 : decode cX5_copyFrom 94 = .ok (.getfield 41, 3) := dcw_180 (by decide +kernel)
theorem dX5_copyFrom_97 : decode cX5_copyFrom 97 = .ok (.putfield 41, 3) := dcw_181 (by decide +kernel)
theorem dX5_copyFrom_100 : decode cX5_copyFrom 100 = .ok (.aload_n 0, 1) := dc1_42 (by decide +kernel)
theorem dX5_copyFrom_101 : decode cX5_copyFrom 101 = .ok (.aload_n 1, 1) := dc1_43 (by decide +kernel)
theorem dX5_copyFrom_102 : decode cX5_copyFrom 102 = .ok (.getfield 44, 3) := dcw_180 (by decide +kernel)
theorem dX5_copyFrom_105 : decode cX5_copyFrom 105 = .ok (.putfield 44, 3) := dcw_181 (by decide +kernel)
theorem dX5_copyFrom_108 : decode cX5_copyFrom 108 = .ok (.aload_n 0, 1) := dc1_42 (by decide +kernel)
theorem dX5_copyFrom_109 : decode cX5_copyFrom 109 = .ok (.aload_n 1, 1) := dc1_43 (by decide +kernel)
theorem dX5_copyFrom_110 : decode cX5_copyFrom 110 = .ok (.getfield 47, 3) := dcw_180 (by decide +kernel)
theorem dX5_copyFrom_113 : decode cX5_copyFrom 113 = .ok (.putfield 47, 3) := dcw_181 (by decide +kernel)
theorem dX5_copyFrom_116 : decode cX5_copyFrom 116 = .ok (.return_, 1) := dc1_177 (by decide +kernel)
theorem dX5_hasWave_0 : decode cX5_hasWave 0 = .ok (.iload_n 1, 1) := dc1_27 (by decide +kernel)
theorem dX5_hasWave_1 : decode cX5_hasWave 1 = .ok (.ifCond .lt 15, 3) := dcs_155 (n := 15) (by decide +kernel)
theorem dX5_hasWave_4 : decode cX5_hasWave 4 = .ok (.iload_n 1, 1) := dc1_27 (by decide +kernel)
theorem dX5_hasWave_5 : decode cX5_hasWave 5 = .ok (.aload_n 0, 1) := dc1_42 (by decide +kernel)
theorem dX5_hasWave_6 : decode cX5_hasWave 6 = .ok (.getfield 37, 3) := dcw_180 (by decide +kernel)
theorem dX5_hasWave_9 : decode cX5_hasWave 9 = .ok (.if_icmp .ge 7, 3) := dcs_162 (n := 7) (by decide +kernel)
theorem dX5_hasWave_12 : decode cX5_hasWave 12 = .ok (.iconst 1, 1) := dc1_4 (by decide +kernel)
theorem dX5_hasWave_13 : decode cX5_hasWave 13 = .ok (.goto 4, 3) := dcs_167 (n := 4) (by decide +kernel)
theorem dX5_hasWave_16 : decode cX5_hasWave 16 = .ok (.iconst 0, 1) := dc1_3 (by decide +kernel)
theorem dX5_hasWave_17 : decode cX5_hasWave 17 = .ok (.ireturn, 1) := dc1_172 (by decide +kernel)
theorem dX5_hasParty_0 : decode cX5_hasParty 0 = .ok (.iload_n 1, 1) := dc1_27 (by decide +kernel)
theorem dX5_hasParty_1 : decode cX5_hasParty 1 = .ok (.ifCond .lt 15, 3) := dcs_155 (n := 15) (by decide +kernel)
theorem dX5_hasParty_4 : decode cX5_hasParty 4 = .ok (.iload_n 1, 1) := dc1_27 (by decide +kernel)
theorem dX5_hasParty_5 : decode cX5_hasParty 5 = .ok (.aload_n 0, 1) := dc1_42 (by decide +kernel)
theorem dX5_hasParty_6 : decode cX5_hasParty 6 = .ok (.getfield 41, 3) := dcw_180 (by decide +kernel)
theorem dX5_hasParty_9 : decode cX5_hasParty 9 = .ok (.if_icmp .ge 7, 3) := dcs_162 (n := 7) (by decide +kernel)
theorem dX5_hasParty_12 : decode cX5_hasParty 12 = .ok (.iconst 1, 1) := dc1_4 (by decide +kernel)
theorem dX5_hasParty_13 : decode cX5_hasParty 13 = .ok (.goto 4, 3) := dcs_167 (n := 4) (by decide +kernel)
theorem dX5_hasParty_16 : decode cX5_hasParty 16 = .ok (.iconst 0, 1) := dc1_3 (by decide +kernel)
theorem dX5_hasParty_17 : decode cX5_hasParty 17 = .ok (.ireturn, 1) := dc1_172 (by decide +kernel)
theorem dX5_hasGuess_0 : decode cX5_hasGuess 0 = .ok (.iload_n 1, 1) := dc1_27 (by decide +kernel)
theorem dX5_hasGuess_1 : decode cX5_hasGuess 1 = .ok (.ifCond .lt 15, 3) := dcs_155 (n := 15) (by decide +kernel)
theorem dX5_hasGuess_4 : decode cX5_hasGuess 4 = .ok (.iload_n 1, 1) := dc1_27 (by decide +kernel)
theorem dX5_hasGuess_5 : decode cX5_hasGuess 5 = .ok (.aload_n 0, 1) := dc1_42 (by decide +kernel)
theorem dX5_hasGuess_6 : decode cX5_hasGuess 6 = .ok (.getfield 44, 3) := dcw_180 (by decide +kernel)
theorem dX5_hasGuess_9 : decode cX5_hasGuess 9 = .ok (.if_icmp .ge 7, 3) := dcs_162 (n := 7) (by decide +kernel)
theorem dX5_hasGuess_12 : decode cX5_hasGuess 12 = .ok (.iconst 1, 1) := dc1_4 (by decide +kernel)
theorem dX5_hasGuess_13 : decode cX5_hasGuess 13 = .ok (.goto 4, 3) := dcs_167 (n := 4) (by decide +kernel)
theorem dX5_hasGuess_16 : decode cX5_hasGuess 16 = .ok (.iconst 0, 1) := dc1_3 (by decide +kernel)
theorem dX5_hasGuess_17 : decode cX5_hasGuess 17 = .ok (.ireturn, 1) := dc1_172 (by decide +kernel)
theorem dX5_oddsAt_0 : decode cX5_oddsAt 0 = .ok (.aload_n 0, 1) := dc1_42 (by decide +kernel)
theorem dX5_oddsAt_1 : decode cX5_oddsAt 1 = .ok (.getfield 9, 3) := dcw_180 (by decide +kernel)
theorem dX5_oddsAt_4 : decode cX5_oddsAt 4 = .ok (.iload_n 1, 1) := dc1_27 (by decide +kernel)
theorem dX5_oddsAt_5 : decode cX5_oddsAt 5 = .ok (.bipush 6, 2) := dcb_16 (n := 6) (by decide +kernel)
theorem dX5_oddsAt_7 : decode cX5_oddsAt 7 = .ok (.imul, 1) := dc1_104 (by decide +kernel)
theorem dX5_oddsAt_8 : decode cX5_oddsAt 8 = .ok (.iload_n 2, 1) := dc1_28 (by decide +kernel)
theorem dX5_oddsAt_9 : decode cX5_oddsAt 9 = .ok (.iadd, 1) := dc1_96 (by decide +kernel)
theorem dX5_oddsAt_10 : decode cX5_oddsAt 10 = .ok (.iaload, 1) := dc1_46 (by decide +kernel)
theorem dX5_oddsAt_11 : decode cX5_oddsAt 11 = .ok (.ireturn, 1) := dc1_172 (by decide +kernel)
theorem LX4_fail_22 : Cond.fieldLink RX4 22 "GuessFerry$Reader" "faultPlace" "I" ∈ wsX4_fail := (List.mem_cons_of_mem _ (List.mem_append_left _ (List.mem_append_left _ (List.mem_of_getElem? (i := 3) rfl))))
theorem LX4_fail_31 : Cond.fieldLink RX4 31 "GuessFerry$Reader" "tokens" "LGuessFerry$Tokens;" ∈ wsX4_fail := (List.mem_cons_of_mem _ (List.mem_append_left _ (List.mem_append_left _ (List.mem_of_getElem? (i := 1) rfl))))
theorem LX4_fail_38 : Cond.fieldLink RX4 38 "GuessFerry$Reader" "at" "I" ∈ wsX4_fail := (List.mem_cons_of_mem _ (List.mem_append_left _ (List.mem_append_left _ (List.mem_of_getElem? (i := 2) rfl))))
theorem LX4_fail_41 : Cond.fieldLink RX4 41 "GuessFerry$Reader" "fault" "I" ∈ wsX4_fail := (List.mem_cons_of_mem _ (List.mem_append_left _ (List.mem_append_left _ (List.mem_of_getElem? (i := 0) rfl))))
theorem inX4_fail_X4 : ∀ w ∈ u_ws RX4 TX4 8, w ∈ wsX4_fail := fun _ h => List.mem_cons_of_mem _ (List.mem_append_left _ (List.mem_append_right _ h))
theorem inX4_fail_X9 : ∀ w ∈ u_ws RX9 TX9 7, w ∈ wsX4_fail := fun _ h => List.mem_cons_of_mem _ (List.mem_append_right _ h)
set_option maxHeartbeats 4000000 in
set_option maxRecDepth 100000 in
theorem bkX4_fail {l : Launch} {dC : Nat → ClassId} {dI : Nat → Nat → Nat} {cB cI cJ cZ cS : ClassId} {a : Nat → Nat} {as : List Value} {s' : KS} (s : KS) (x1 : Int32) (hB : kX4_fail s x1 = some s') : BlkV l yX4_fail wsX4_fail ({ frames := 0, cells := 0, slots := 0, locals := 0 }) cX4_fail 2 none (dC, dI) (tysA cB cI cJ cZ cS) as 0 (wK cB cI cJ cZ cS a s) [(0, .ref (a 28)), (1, .int x1)] [] (fun u => u = (wK cB cI cJ cZ cS a s')) := by
  intro p e s0 m below meth c A E H locs ls hP hD hS hl
  obtain ⟨C, hr, hlocks, hA, hK, hN⟩ := id E
  obtain ⟨hx, hb, hml, hown, hts⟩ := id C
  unfold kX4_fail at hB
  refine lv_aload_n hx hb dX4_fail_0 rfl (lv_at hl 0 rfl) ?_
  refine q_get (v := .int (s.v 16)) C inX4_fail_X4 hK hP 28 rfl rfl 4 (by decide) rfl LX4_fail_41 rfl dX4_fail_1 ?_
  refine lv_if_ne (tgt := 28) hx hb dX4_fail_4 (by decide) (fun c1 => ?_) (fun c1 => ?_)
  · have hB := if_n hB c1
    exact q_vret C hr hlocks hK hP hD hS (Nat.le_of_ble_eq_true rfl) (Nat.le_of_ble_eq_true rfl) dX4_fail_28 (by cases hB; rfl)
  · have hB := if_p hB c1
    refine lv_aload_n hx hb dX4_fail_7 rfl (lv_at hl 0 rfl) ?_
    refine lv_iload_n hx hb dX4_fail_8 rfl (lv_at hl 1 rfl) ?_
    obtain ⟨s2, hs3, hB⟩ := letS_inv hB
    refine q_put (ty := .int) (w2 := (wK cB cI cJ cZ cS a s2)) tyX4 tyX4_ok nmX4 C inX4_fail_X4 hK hP hD hS 28 rfl rfl 4 (by decide) rfl LX4_fail_41 rfl (by decide +kernel) (rfl) rfl (Nat.le_of_ble_eq_true rfl) dX4_fail_9 (by subst hs3; rfl) (fun H locs hP hD hS => ?_)
    refine lv_aload_n hx hb dX4_fail_12 rfl (lv_at hl 0 rfl) ?_
    refine lv_aload_n hx hb dX4_fail_13 rfl (lv_at hl 0 rfl) ?_
    refine q_get (v := .ref (a 30)) C inX4_fail_X4 hK hP 28 rfl rfl 0 (by decide) rfl LX4_fail_31 rfl dX4_fail_14 ?_
    refine q_getN (v := .ref (a 33)) C hN inX4_fail_X9 hK hP 30 rfl rfl 3 (by decide) rfl nwF_X4_67 rfl dX4_fail_17 ?_
    refine lv_aload_n hx hb dX4_fail_20 rfl (lv_at hl 0 rfl) ?_
    refine q_get (v := .int (s2.v 15)) C inX4_fail_X4 hK hP 28 rfl rfl 3 (by decide) rfl LX4_fail_38 rfl dX4_fail_21 ?_
    obtain ⟨g4, hB⟩ := guard_inv hB
    refine q_iald (x := ((s2.f 33) (Int32.toNatClampNeg (s2.v 15)))) C hK hP 33 1 rfl rfl (vpb_in g4) dX4_fail_24 rfl ?_
    obtain ⟨s5, hs6, hB⟩ := letS_inv hB
    refine q_put (ty := .int) (w2 := (wK cB cI cJ cZ cS a s5)) tyX4 tyX4_ok nmX4 C inX4_fail_X4 hK hP hD hS 28 rfl rfl 5 (by decide) rfl LX4_fail_22 rfl (by decide +kernel) (rfl) rfl (Nat.le_of_ble_eq_true rfl) dX4_fail_25 (by subst hs6; rfl) (fun H locs hP hD hS => ?_)
    exact q_vret C hr hlocks hK hP hD hS (Nat.le_of_ble_eq_true rfl) (Nat.le_of_ble_eq_true rfl) dX4_fail_28 (by cases hB; rfl)
theorem ckX4_fail {l : Launch} {dC : Nat → ClassId} {dI : Nat → Nat → Nat} {cB cI cJ cZ cS : ClassId} {a : Nat → Nat} {s' : KS} {s : KS} {x1 : Int32} (hB : kX4_fail s x1 = some s') : CV l yX4_fail wsX4_fail ({ frames := 0, cells := 0, slots := 0, locals := 0 }) (dC, dI) (tysA cB cI cJ cZ cS) (wK cB cI cJ cZ cS a s) [.ref (a 28), .int x1] (fun u => u = (wK cB cI cJ cZ cS a s')) :=
  CV_of (cc := cX4_fail) (maxL := 2) (ret := none) (by decide) rfl (Nat.le_of_ble_eq_true rfl) (bkX4_fail _ _ hB)
theorem LX4_failLater_44 : Cond.fieldLink RX4 44 "GuessFerry$Reader" "laterFault" "I" ∈ wsX4_failLater := (List.mem_cons_of_mem _ (List.mem_append_left _ (List.mem_of_getElem? (i := 0) rfl)))
theorem LX4_failLater_47 : Cond.fieldLink RX4 47 "GuessFerry$Reader" "laterPlace" "I" ∈ wsX4_failLater := (List.mem_cons_of_mem _ (List.mem_append_left _ (List.mem_of_getElem? (i := 1) rfl)))
theorem inX4_failLater_X4 : ∀ w ∈ u_ws RX4 TX4 8, w ∈ wsX4_failLater := fun _ h => List.mem_cons_of_mem _ (List.mem_append_right _ h)
set_option maxHeartbeats 4000000 in
set_option maxRecDepth 100000 in
theorem bkX4_failLater {l : Launch} {dC : Nat → ClassId} {dI : Nat → Nat → Nat} {cB cI cJ cZ cS : ClassId} {a : Nat → Nat} {as : List Value} {s' : KS} (s : KS) (x1 : Int32) (x2 : Int32) (hB : kX4_failLater s x1 x2 = some s') : BlkV l yX4_failLater wsX4_failLater ({ frames := 0, cells := 0, slots := 0, locals := 0 }) cX4_failLater 3 none (dC, dI) (tysA cB cI cJ cZ cS) as 0 (wK cB cI cJ cZ cS a s) [(0, .ref (a 28)), (1, .int x1), (2, .int x2)] [] (fun u => u = (wK cB cI cJ cZ cS a s')) := by
  intro p e s0 m below meth c A E H locs ls hP hD hS hl
  obtain ⟨C, hr, hlocks, hA, hK, hN⟩ := id E
  obtain ⟨hx, hb, hml, hown, hts⟩ := id C
  unfold kX4_failLater at hB
  refine lv_aload_n hx hb dX4_failLater_0 rfl (lv_at hl 0 rfl) ?_
  refine q_get (v := .int (s.v 18)) C inX4_failLater_X4 hK hP 28 rfl rfl 6 (by decide) rfl LX4_failLater_44 rfl dX4_failLater_1 ?_
  refine lv_if_ne (tgt := 17) hx hb dX4_failLater_4 (by decide) (fun c1 => ?_) (fun c1 => ?_)
  · have hB := if_n hB c1
    exact q_vret C hr hlocks hK hP hD hS (Nat.le_of_ble_eq_true rfl) (Nat.le_of_ble_eq_true rfl) dX4_failLater_17 (by cases hB; rfl)
  · have hB := if_p hB c1
    refine lv_aload_n hx hb dX4_failLater_7 rfl (lv_at hl 0 rfl) ?_
    refine lv_iload_n hx hb dX4_failLater_8 rfl (lv_at hl 1 rfl) ?_
    obtain ⟨s2, hs3, hB⟩ := letS_inv hB
    refine q_put (ty := .int) (w2 := (wK cB cI cJ cZ cS a s2)) tyX4 tyX4_ok nmX4 C inX4_failLater_X4 hK hP hD hS 28 rfl rfl 6 (by decide) rfl LX4_failLater_44 rfl (by decide +kernel) (rfl) rfl (Nat.le_of_ble_eq_true rfl) dX4_failLater_9 (by subst hs3; rfl) (fun H locs hP hD hS => ?_)
    refine lv_aload_n hx hb dX4_failLater_12 rfl (lv_at hl 0 rfl) ?_
    refine lv_iload_n hx hb dX4_failLater_13 rfl (lv_at hl 2 rfl) ?_
    obtain ⟨s4, hs5, hB⟩ := letS_inv hB
    refine q_put (ty := .int) (w2 := (wK cB cI cJ cZ cS a s4)) tyX4 tyX4_ok nmX4 C inX4_failLater_X4 hK hP hD hS 28 rfl rfl 7 (by decide) rfl LX4_failLater_47 rfl (by decide +kernel) (rfl) rfl (Nat.le_of_ble_eq_true rfl) dX4_failLater_14 (by subst hs5; rfl) (fun H locs hP hD hS => ?_)
    exact q_vret C hr hlocks hK hP hD hS (Nat.le_of_ble_eq_true rfl) (Nat.le_of_ble_eq_true rfl) dX4_failLater_17 (by cases hB; rfl)
theorem ckX4_failLater {l : Launch} {dC : Nat → ClassId} {dI : Nat → Nat → Nat} {cB cI cJ cZ cS : ClassId} {a : Nat → Nat} {s' : KS} {s : KS} {x1 : Int32} {x2 : Int32} (hB : kX4_failLater s x1 x2 = some s') : CV l yX4_failLater wsX4_failLater ({ frames := 0, cells := 0, slots := 0, locals := 0 }) (dC, dI) (tysA cB cI cJ cZ cS) (wK cB cI cJ cZ cS a s) [.ref (a 28), .int x1, .int x2] (fun u => u = (wK cB cI cJ cZ cS a s')) :=
  CV_of (cc := cX4_failLater) (maxL := 3) (ret := none) (by decide) rfl (Nat.le_of_ble_eq_true rfl) (bkX4_failLater _ _ _ hB)
theorem LX4_take_38 : Cond.fieldLink RX4 38 "GuessFerry$Reader" "at" "I" ∈ wsX4_take := (List.mem_cons_of_mem _ (List.mem_append_left _ (List.mem_append_left _ (List.mem_append_left _ (List.mem_of_getElem? (i := 0) rfl)))))
theorem inX4_take_X4 : ∀ w ∈ u_ws RX4 TX4 8, w ∈ wsX4_take := fun w h => (List.mem_cons_of_mem _ (List.mem_append_left _ (List.mem_append_right _ h)))
set_option maxHeartbeats 4000000 in
set_option maxRecDepth 100000 in
theorem bkX4_take {l : Launch} {dC : Nat → ClassId} {dI : Nat → Nat → Nat} {cB cI cJ cZ cS : ClassId} {a : Nat → Nat} {as : List Value} {s' : KS} (s : KS) (x1 : Int32) (hB : kX4_take s x1 = some s') : BlkV l yX4_take wsX4_take ({ frames := 1, cells := 0, slots := 0, locals := 21 }) cX4_take 2 none (dC, dI) (tysA cB cI cJ cZ cS) as 0 (wK cB cI cJ cZ cS a s) [(0, .ref (a 28)), (1, .int x1)] [] (fun u => u = (wK cB cI cJ cZ cS a s')) := by
  intro p e s0 m below meth c A E H locs ls hP hD hS hl
  obtain ⟨C, hr, hlocks, hA, hK, hN⟩ := id E
  obtain ⟨hx, hb, hml, hown, hts⟩ := id C
  unfold kX4_take at hB
  refine lv_aload_n hx hb dX4_take_0 rfl (lv_at hl 0 rfl) ?_
  refine lv_iload_n hx hb dX4_take_1 rfl (lv_at hl 1 rfl) ?_
  obtain ⟨q_, s1, hc, hB⟩ := bindI_inv hB
  refine q_goiF (va_runV (As := [.int x1]) (rest := []) C (ckX4_isAt hc _) (cwV 1 hts gX4_take_X4_isAt rfl rfl rfl (by decide +kernel) ⟨Nat.le_of_ble_eq_true rfl, Nat.le_of_ble_eq_true rfl⟩) (q_preV hK hP (ci := 4) (q0 := 28) rfl rfl rfl (q_preF hN hK hP hD)) rfl rfl hl.1 rfl (lv_room (Nat.le_of_ble_eq_true rfl)) dX4_take_2 ⟨Nat.le_of_ble_eq_true rfl, Nat.le_of_ble_eq_true rfl⟩) hD hS hA (fun r2 w1 H locs hw hP hD hS => ?_)
  obtain ⟨hq_, hw⟩ := hw; subst hw; subst hq_
  refine lv_if_ne (tgt := 16) hx hb dX4_take_5 (by decide) (fun c3 => ?_) (fun c3 => ?_)
  · have hB := if_n hB c3
    refine lv_aload_n hx hb dX4_take_16 rfl (lv_at hl 0 rfl) ?_
    refine q_get (v := .int (s1.v 15)) C inX4_take_X4 hK hP 28 rfl rfl 3 (by decide) rfl LX4_take_38 rfl dX4_take_17 ?_
    refine lv_sipush (v := 400) hx hb dX4_take_20 (by decide) ?_
    refine lv_icmp_lt (tgt := 34) hx hb dX4_take_23 (by decide) (fun c4 => ?_) (fun c4 => ?_)
    · have hB := if_p hB c4
      refine lv_aload_n hx hb dX4_take_34 rfl (lv_at hl 0 rfl) ?_
      refine lv_dup hx hb dX4_take_35 rfl ?_
      refine q_get (v := .int (s1.v 15)) C inX4_take_X4 hK hP 28 rfl rfl 3 (by decide) rfl LX4_take_38 rfl dX4_take_36 ?_
      refine lv_iconst (v := 1) hx hb dX4_take_39 (by decide) ?_
      refine lv_iadd hx hb dX4_take_40 ?_
      obtain ⟨s5, hs6, hB⟩ := letS_inv hB
      refine q_put (ty := .int) (w2 := (wK cB cI cJ cZ cS a s5)) tyX4 tyX4_ok nmX4 C inX4_take_X4 hK hP hD hS 28 rfl rfl 3 (by decide) rfl LX4_take_38 rfl (by decide +kernel) (rfl) rfl (Nat.le_of_ble_eq_true rfl) dX4_take_41 (by subst hs6; rfl) (fun H locs hP hD hS => ?_)
      exact q_vret C hr hlocks hK hP hD hS (Nat.le_of_ble_eq_true rfl) (Nat.le_of_ble_eq_true rfl) dX4_take_44 (by cases hB; rfl)
    · have hB := if_n hB c4
      refine lv_aload_n hx hb dX4_take_26 rfl (lv_at hl 0 rfl) ?_
      refine lv_iconst (v := 2) hx hb dX4_take_27 (by decide) ?_
      obtain ⟨s7, hc, hB⟩ := bindP_inv hB
      refine q_govF (va_runV (As := [.int 2]) (rest := []) C (ckX4_fail hc _) (cwV 1 hts gX4_take_X4_fail rfl rfl rfl (by decide +kernel) ⟨Nat.le_of_ble_eq_true rfl, Nat.le_of_ble_eq_true rfl⟩) (q_preV hK hP (ci := 4) (q0 := 28) rfl rfl rfl (q_preF hN hK hP hD)) rfl rfl hl.1 rfl (lv_room (Nat.le_of_ble_eq_true rfl)) dX4_take_28 ⟨Nat.le_of_ble_eq_true rfl, Nat.le_of_ble_eq_true rfl⟩) hD hS hA (fun w1 H locs hw hP hD hS => ?_)
      subst hw
      refine lv_goto (tgt := 44) hx hb dX4_take_31 (by decide) ?_
      exact q_vret C hr hlocks hK hP hD hS (Nat.le_of_ble_eq_true rfl) (Nat.le_of_ble_eq_true rfl) dX4_take_44 (by cases hB; rfl)
  · have hB := if_p hB c3
    refine lv_aload_n hx hb dX4_take_8 rfl (lv_at hl 0 rfl) ?_
    refine lv_iconst (v := 1) hx hb dX4_take_9 (by decide) ?_
    obtain ⟨s8, hc, hB⟩ := bindP_inv hB
    refine q_govF (va_runV (As := [.int 1]) (rest := []) C (ckX4_fail hc _) (cwV 1 hts gX4_take_X4_fail rfl rfl rfl (by decide +kernel) ⟨Nat.le_of_ble_eq_true rfl, Nat.le_of_ble_eq_true rfl⟩) (q_preV hK hP (ci := 4) (q0 := 28) rfl rfl rfl (q_preF hN hK hP hD)) rfl rfl hl.1 rfl (lv_room (Nat.le_of_ble_eq_true rfl)) dX4_take_10 ⟨Nat.le_of_ble_eq_true rfl, Nat.le_of_ble_eq_true rfl⟩) hD hS hA (fun w1 H locs hw hP hD hS => ?_)
    subst hw
    refine lv_goto (tgt := 44) hx hb dX4_take_13 (by decide) ?_
    exact q_vret C hr hlocks hK hP hD hS (Nat.le_of_ble_eq_true rfl) (Nat.le_of_ble_eq_true rfl) dX4_take_44 (by cases hB; rfl)
theorem ckX4_take {l : Launch} {dC : Nat → ClassId} {dI : Nat → Nat → Nat} {cB cI cJ cZ cS : ClassId} {a : Nat → Nat} {s' : KS} {s : KS} {x1 : Int32} (hB : kX4_take s x1 = some s') : CV l yX4_take wsX4_take ({ frames := 1, cells := 0, slots := 0, locals := 21 }) (dC, dI) (tysA cB cI cJ cZ cS) (wK cB cI cJ cZ cS a s) [.ref (a 28), .int x1] (fun u => u = (wK cB cI cJ cZ cS a s')) :=
  CV_of (cc := cX4_take) (maxL := 2) (ret := none) (by decide) rfl (Nat.le_of_ble_eq_true rfl) (bkX4_take _ _ hB)
theorem LX4_takeInt_31 : Cond.fieldLink RX4 31 "GuessFerry$Reader" "tokens" "LGuessFerry$Tokens;" ∈ wsX4_takeInt := (List.mem_cons_of_mem _ (List.mem_append_left _ (List.mem_append_left _ (List.mem_append_left _ (List.mem_of_getElem? (i := 0) rfl)))))
theorem LX4_takeInt_38 : Cond.fieldLink RX4 38 "GuessFerry$Reader" "at" "I" ∈ wsX4_takeInt := (List.mem_cons_of_mem _ (List.mem_append_left _ (List.mem_append_left _ (List.mem_append_left _ (List.mem_of_getElem? (i := 1) rfl)))))
theorem inX4_takeInt_X4 : ∀ w ∈ u_ws RX4 TX4 8, w ∈ wsX4_takeInt := fun w h => (List.mem_cons_of_mem _ (List.mem_append_left _ (List.mem_append_right _ h)))
theorem inX4_takeInt_X9 : ∀ w ∈ u_ws RX9 TX9 7, w ∈ wsX4_takeInt := fun w h => (List.mem_cons_of_mem _ (List.mem_append_right _ h))
set_option maxHeartbeats 4000000 in
set_option maxRecDepth 100000 in
theorem bkX4_takeInt_46 {l : Launch} {dC : Nat → ClassId} {dI : Nat → Nat → Nat} {cB cI cJ cZ cS : ClassId} {a : Nat → Nat} {as : List Value} {r : Int32} {s' : KS} (s : KS) (x2 : Int32) (hB : kX4_takeInt_46 s x2 = some (r, s')) : BlkI l yX4_takeInt wsX4_takeInt ({ frames := 2, cells := 0, slots := 0, locals := 42 }) cX4_takeInt 3 (some .int) (dC, dI) (tysA cB cI cJ cZ cS) as 46 (wK cB cI cJ cZ cS a s) [(0, .ref (a 28)), (2, .int x2)] [] (fun x u => x = r ∧ u = (wK cB cI cJ cZ cS a s')) := by
  intro p e s0 m below meth c A E H locs ls hP hD hS hl
  obtain ⟨C, hr, hlocks, hA, hK, hN⟩ := id E
  obtain ⟨hx, hb, hml, hown, hts⟩ := id C
  unfold kX4_takeInt_46 at hB
  refine lv_aload_n hx hb dX4_takeInt_46 rfl (lv_at hl 0 rfl) ?_
  refine lv_sipush (v := 301) hx hb dX4_takeInt_47 (by decide) ?_
  obtain ⟨s1, hc, hB⟩ := bindP_inv hB
  refine q_govF (va_runV (As := [.int 301]) (rest := []) C (ckX4_take hc _) (cwV 1 hts gX4_takeInt_X4_take rfl rfl rfl (by decide +kernel) ⟨Nat.le_of_ble_eq_true rfl, Nat.le_of_ble_eq_true rfl⟩) (q_preV hK hP (ci := 4) (q0 := 28) rfl rfl rfl (q_preF hN hK hP hD)) rfl rfl hl.1 rfl (lv_room (Nat.le_of_ble_eq_true rfl)) dX4_takeInt_50 ⟨Nat.le_of_ble_eq_true rfl, Nat.le_of_ble_eq_true rfl⟩) hD hS hA (fun w1 H locs hw hP hD hS => ?_)
  subst hw
  refine lv_iload_n hx hb dX4_takeInt_53 rfl (lv_at hl 1 rfl) ?_
  exact q_iret C hr hlocks hK hP hD hS (Nat.le_of_ble_eq_true rfl) (Nat.le_of_ble_eq_true rfl) dX4_takeInt_54 (by cases hB; exact ⟨rfl, rfl⟩)
set_option maxHeartbeats 4000000 in
set_option maxRecDepth 100000 in
theorem bkX4_takeInt {l : Launch} {dC : Nat → ClassId} {dI : Nat → Nat → Nat} {cB cI cJ cZ cS : ClassId} {a : Nat → Nat} {as : List Value} {r : Int32} {s' : KS} (s : KS) (x1 : Int32) (hB : kX4_takeInt s x1 = some (r, s')) : BlkI l yX4_takeInt wsX4_takeInt ({ frames := 2, cells := 0, slots := 0, locals := 42 }) cX4_takeInt 3 (some .int) (dC, dI) (tysA cB cI cJ cZ cS) as 0 (wK cB cI cJ cZ cS a s) [(0, .ref (a 28)), (1, .int x1)] [] (fun x u => x = r ∧ u = (wK cB cI cJ cZ cS a s')) := by
  intro p e s0 m below meth c A E H locs ls hP hD hS hl
  obtain ⟨C, hr, hlocks, hA, hK, hN⟩ := id E
  obtain ⟨hx, hb, hml, hown, hts⟩ := id C
  unfold kX4_takeInt at hB
  refine lv_aload_n hx hb dX4_takeInt_0 rfl (lv_at hl 0 rfl) ?_
  refine q_get (v := .ref (a 30)) C inX4_takeInt_X4 hK hP 28 rfl rfl 0 (by decide) rfl LX4_takeInt_31 rfl dX4_takeInt_1 ?_
  refine q_getN (v := .ref (a 34)) C hN inX4_takeInt_X9 hK hP 30 rfl rfl 4 (by decide) rfl nwF_X4_74 rfl dX4_takeInt_4 ?_
  refine lv_aload_n hx hb dX4_takeInt_7 rfl (lv_at hl 0 rfl) ?_
  refine q_get (v := .int (s.v 15)) C inX4_takeInt_X4 hK hP 28 rfl rfl 3 (by decide) rfl LX4_takeInt_38 rfl dX4_takeInt_8 ?_
  obtain ⟨g1, hB⟩ := guard_inv hB
  refine q_lald (x := ((s.g 34) (Int32.toNatClampNeg (s.v 15)))) C hK hP 34 2 rfl rfl (vpb_in g1) dX4_takeInt_11 rfl ?_
  refine lv_l2i (v := (Int64.toInt32 ((s.g 34) (Int32.toNatClampNeg (s.v 15))))) hx hb dX4_takeInt_12 rfl ?_
  refine lv_istore_n (lv' := [(2, .int (Int64.toInt32 ((s.g 34) (Int32.toNatClampNeg (s.v 15))))), (0, .ref (a 28)), (1, .int x1)]) hx hb dX4_takeInt_13 rfl hl (by decide) rfl (fun ls hl => ?_)
  refine lv_aload_n hx hb dX4_takeInt_14 rfl (lv_at hl 1 rfl) ?_
  refine lv_sipush (v := 301) hx hb dX4_takeInt_15 (by decide) ?_
  obtain ⟨q_, s2, hc, hB⟩ := bindI_inv hB
  refine q_goiF (va_runV (As := [.int 301]) (rest := []) C (ckX4_isAt hc _) (cwV 1 hts gX4_takeInt_X4_isAt rfl rfl rfl (by decide +kernel) ⟨Nat.le_of_ble_eq_true rfl, Nat.le_of_ble_eq_true rfl⟩) (q_preV hK hP (ci := 4) (q0 := 28) rfl rfl rfl (q_preF hN hK hP hD)) rfl rfl hl.1 rfl (lv_room (Nat.le_of_ble_eq_true rfl)) dX4_takeInt_18 ⟨Nat.le_of_ble_eq_true rfl, Nat.le_of_ble_eq_true rfl⟩) hD hS hA (fun r3 w1 H locs hw hP hD hS => ?_)
  obtain ⟨hq_, hw⟩ := hw; subst hw; subst hq_
  refine lv_if_eq (tgt := 46) hx hb dX4_takeInt_21 (by decide) (fun c4 => ?_) (fun c4 => ?_)
  · have hB := if_p hB c4
    exact bkX4_takeInt_46 _ _ hB p e s0 m below meth c A E H locs ls hP hD hS (lv_sub hl [1, 0] rfl)
  · have hB := if_n hB c4
    refine lv_iload_n hx hb dX4_takeInt_24 rfl (lv_at hl 0 rfl) ?_
    refine lv_iload_n hx hb dX4_takeInt_25 rfl (lv_at hl 2 rfl) ?_
    refine lv_icmp_le (tgt := 46) hx hb dX4_takeInt_26 (by decide) (fun c5 => ?_) (fun c5 => ?_)
    · have hB := if_p hB c5
      exact bkX4_takeInt_46 _ _ hB p e s0 m below meth c A E H locs ls hP hD hS (lv_sub hl [1, 0] rfl)
    · have hB := if_n hB c5
      refine lv_aload_n hx hb dX4_takeInt_29 rfl (lv_at hl 1 rfl) ?_
      refine lv_iconst (v := 5) hx hb dX4_takeInt_30 (by decide) ?_
      refine lv_aload_n hx hb dX4_takeInt_31 rfl (lv_at hl 1 rfl) ?_
      refine q_get (v := .ref (a 30)) C inX4_takeInt_X4 hK hP 28 rfl rfl 0 (by decide) rfl LX4_takeInt_31 rfl dX4_takeInt_32 ?_
      refine q_getN (v := .ref (a 33)) C hN inX4_takeInt_X9 hK hP 30 rfl rfl 3 (by decide) rfl nwF_X4_67 rfl dX4_takeInt_35 ?_
      refine lv_aload_n hx hb dX4_takeInt_38 rfl (lv_at hl 1 rfl) ?_
      refine q_get (v := .int (s2.v 15)) C inX4_takeInt_X4 hK hP 28 rfl rfl 3 (by decide) rfl LX4_takeInt_38 rfl dX4_takeInt_39 ?_
      obtain ⟨g6, hB⟩ := guard_inv hB
      refine q_iald (x := ((s2.f 33) (Int32.toNatClampNeg (s2.v 15)))) C hK hP 33 1 rfl rfl (vpb_in g6) dX4_takeInt_42 rfl ?_
      obtain ⟨s7, hc, hB⟩ := bindP_inv hB
      refine q_govF (va_runV (As := [.int 5, .int ((s2.f 33) (Int32.toNatClampNeg (s2.v 15)))]) (rest := []) C (ckX4_failLater hc _) (cwV 2 hts gX4_takeInt_X4_failLater rfl rfl rfl (by decide +kernel) ⟨Nat.le_of_ble_eq_true rfl, Nat.le_of_ble_eq_true rfl⟩) (q_preV hK hP (ci := 4) (q0 := 28) rfl rfl rfl (q_preF hN hK hP hD)) rfl rfl hl.1 rfl (lv_room (Nat.le_of_ble_eq_true rfl)) dX4_takeInt_43 ⟨Nat.le_of_ble_eq_true rfl, Nat.le_of_ble_eq_true rfl⟩) hD hS hA (fun w1 H locs hw hP hD hS => ?_)
      subst hw
      exact bkX4_takeInt_46 _ _ hB p e s0 m below meth c A E H locs ls hP hD hS (lv_sub hl [1, 0] rfl)
theorem ckX4_takeInt {l : Launch} {dC : Nat → ClassId} {dI : Nat → Nat → Nat} {cB cI cJ cZ cS : ClassId} {a : Nat → Nat} {r : Int32} {s' : KS} {s : KS} {x1 : Int32} (hB : kX4_takeInt s x1 = some (r, s')) : CI l yX4_takeInt wsX4_takeInt ({ frames := 2, cells := 0, slots := 0, locals := 42 }) (dC, dI) (tysA cB cI cJ cZ cS) (wK cB cI cJ cZ cS a s) [.ref (a 28), .int x1] (fun x u => x = r ∧ u = (wK cB cI cJ cZ cS a s')) :=
  CI_of (cc := cX4_takeInt) (maxL := 3) (ret := (some .int)) (by decide) rfl (Nat.le_of_ble_eq_true rfl) (bkX4_takeInt _ _ hB)
theorem LX4_readWave_12 : Cond.fieldLink RX4 12 "GuessFerry$Reader" "draft" "LGuessFerry$Sound;" ∈ wsX4_readWave := (List.mem_cons_of_mem _ (List.mem_append_left _ (List.mem_append_left _ (List.mem_append_left _ (List.mem_append_left _ (List.mem_of_getElem? (i := 0) rfl))))))
theorem LX4_readWave_31 : Cond.fieldLink RX4 31 "GuessFerry$Reader" "tokens" "LGuessFerry$Tokens;" ∈ wsX4_readWave := (List.mem_cons_of_mem _ (List.mem_append_left _ (List.mem_append_left _ (List.mem_append_left _ (List.mem_append_left _ (List.mem_of_getElem? (i := 1) rfl))))))
theorem LX4_readWave_38 : Cond.fieldLink RX4 38 "GuessFerry$Reader" "at" "I" ∈ wsX4_readWave := (List.mem_cons_of_mem _ (List.mem_append_left _ (List.mem_append_left _ (List.mem_append_left _ (List.mem_append_left _ (List.mem_of_getElem? (i := 2) rfl))))))
theorem inX4_readWave_X4 : ∀ w ∈ u_ws RX4 TX4 8, w ∈ wsX4_readWave := fun w h => (List.mem_cons_of_mem _ (List.mem_append_left _ (List.mem_append_left _ (List.mem_append_right _ h))))
theorem inX4_readWave_X5 : ∀ w ∈ u_ws RX5 TX5 10, w ∈ wsX4_readWave := fun w h => (List.mem_cons_of_mem _ (List.mem_append_left _ (List.mem_append_right _ h)))
theorem inX4_readWave_X9 : ∀ w ∈ u_ws RX9 TX9 7, w ∈ wsX4_readWave := fun w h => (List.mem_cons_of_mem _ (List.mem_append_right _ h))
set_option maxHeartbeats 4000000 in
set_option maxRecDepth 100000 in
theorem bkX4_readWave_100 {l : Launch} {dC : Nat → ClassId} {dI : Nat → Nat → Nat} {cB cI cJ cZ cS : ClassId} {a : Nat → Nat} {as : List Value} {s' : KS} (s : KS) (hB : kX4_readWave_100 s = some s') : BlkV l yX4_readWave wsX4_readWave ({ frames := 3, cells := 0, slots := 0, locals := 64 }) cX4_readWave 5 none (dC, dI) (tysA cB cI cJ cZ cS) as 100 (wK cB cI cJ cZ cS a s) [(0, .ref (a 28))] [] (fun u => u = (wK cB cI cJ cZ cS a s')) := by
  intro p e s0 m below meth c A E H locs ls hP hD hS hl
  obtain ⟨C, hr, hlocks, hA, hK, hN⟩ := id E
  obtain ⟨hx, hb, hml, hown, hts⟩ := id C
  unfold kX4_readWave_100 at hB
  refine lv_aload_n hx hb dX4_readWave_100 rfl (lv_at hl 0 rfl) ?_
  refine lv_bipush (v := 59) hx hb dX4_readWave_101 (by decide) ?_
  obtain ⟨s1, hc, hB⟩ := bindP_inv hB
  refine q_govF (va_runV (As := [.int 59]) (rest := []) C (ckX4_take hc _) (cwV 1 hts gX4_readWave_X4_take rfl rfl rfl (by decide +kernel) ⟨Nat.le_of_ble_eq_true rfl, Nat.le_of_ble_eq_true rfl⟩) (q_preV hK hP (ci := 4) (q0 := 28) rfl rfl rfl (q_preF hN hK hP hD)) rfl rfl hl.1 rfl (lv_room (Nat.le_of_ble_eq_true rfl)) dX4_readWave_103 ⟨Nat.le_of_ble_eq_true rfl, Nat.le_of_ble_eq_true rfl⟩) hD hS hA (fun w1 H locs hw hP hD hS => ?_)
  subst hw
  refine lv_aload_n hx hb dX4_readWave_106 rfl (lv_at hl 0 rfl) ?_
  refine q_get (v := .ref (a 15)) C inX4_readWave_X4 hK hP 28 rfl rfl 1 (by decide) rfl LX4_readWave_12 rfl dX4_readWave_107 ?_
  refine lv_dup hx hb dX4_readWave_110 rfl ?_
  refine q_getN (v := .int (s1.v 8)) C hN inX4_readWave_X5 hK hP 15 rfl rfl 6 (by decide) rfl nwF_X4_100 rfl dX4_readWave_111 ?_
  refine lv_iconst (v := 1) hx hb dX4_readWave_114 (by decide) ?_
  refine lv_iadd hx hb dX4_readWave_115 ?_
  obtain ⟨s2, hs3, hB⟩ := letS_inv hB
  refine q_putN (ty := .int) (w2 := (wK cB cI cJ cZ cS a s2)) tyX5 tyX5_ok nmX5 C hN inX4_readWave_X5 hK hP hD hS 15 rfl rfl 6 (by decide) rfl nwF_X4_100 rfl (by decide +kernel) (rfl) rfl (Nat.le_of_ble_eq_true rfl) dX4_readWave_116 (by subst hs3; rfl) (fun H locs hP hD hS => ?_)
  exact q_vret C hr hlocks hK hP hD hS (Nat.le_of_ble_eq_true rfl) (Nat.le_of_ble_eq_true rfl) dX4_readWave_119 (by cases hB; rfl)
set_option maxHeartbeats 4000000 in
set_option maxRecDepth 100000 in
theorem bkX4_readWave_30 {l : Launch} {dC : Nat → ClassId} {dI : Nat → Nat → Nat} {cB cI cJ cZ cS : ClassId} {a : Nat → Nat} {as : List Value} {s' : KS} {k30 : KS → Int32 → Int32 → Int32 → Option KS} (hk30 : ∀ (s : KS) (x1 : Int32) (x2 : Int32) (x3 : Int32), k30 s x1 x2 x3 = some s' → BlkV l yX4_readWave wsX4_readWave ({ frames := 3, cells := 0, slots := 0, locals := 64 }) cX4_readWave 5 none (dC, dI) (tysA cB cI cJ cZ cS) as 30 (wK cB cI cJ cZ cS a s) [(0, .ref (a 28)), (1, .int x1), (2, .int x2), (3, .int x3)] [] (fun u => u = (wK cB cI cJ cZ cS a s'))) (s : KS) (x1 : Int32) (x2 : Int32) (x3 : Int32) (hB : kX4_readWave_30 k30 s x1 x2 x3 = some s') : BlkV l yX4_readWave wsX4_readWave ({ frames := 3, cells := 0, slots := 0, locals := 64 }) cX4_readWave 5 none (dC, dI) (tysA cB cI cJ cZ cS) as 30 (wK cB cI cJ cZ cS a s) [(0, .ref (a 28)), (1, .int x1), (2, .int x2), (3, .int x3)] [] (fun u => u = (wK cB cI cJ cZ cS a s')) := by
  intro p e s0 m below meth c A E H locs ls hP hD hS hl
  obtain ⟨C, hr, hlocks, hA, hK, hN⟩ := id E
  obtain ⟨hx, hb, hml, hown, hts⟩ := id C
  unfold kX4_readWave_30 at hB
  refine lv_iload_n hx hb dX4_readWave_30 rfl (lv_at hl 3 rfl) ?_
  refine lv_bipush (v := 6) hx hb dX4_readWave_31 (by decide) ?_
  refine lv_icmp_ge (tgt := 90) hx hb dX4_readWave_33 (by decide) (fun c1 => ?_) (fun c1 => ?_)
  · have hB := if_p hB c1
    refine lv_iload_n hx hb dX4_readWave_90 rfl (lv_at hl 1 rfl) ?_
    refine lv_if_ne (tgt := 100) hx hb dX4_readWave_91 (by decide) (fun c2 => ?_) (fun c2 => ?_)
    · have hB := if_n hB c2
      exact bkX4_readWave_100 _ hB p e s0 m below meth c A E H locs ls hP hD hS (lv_sub hl [0] rfl)
    · have hB := if_p hB c2
      refine lv_aload_n hx hb dX4_readWave_94 rfl (lv_at hl 0 rfl) ?_
      refine lv_iconst (v := 5) hx hb dX4_readWave_95 (by decide) ?_
      refine lv_iload_n hx hb dX4_readWave_96 rfl (lv_at hl 2 rfl) ?_
      obtain ⟨s3, hc, hB⟩ := bindP_inv hB
      refine q_govF (va_runV (As := [.int 5, .int x2]) (rest := []) C (ckX4_failLater hc _) (cwV 2 hts gX4_readWave_X4_failLater rfl rfl rfl (by decide +kernel) ⟨Nat.le_of_ble_eq_true rfl, Nat.le_of_ble_eq_true rfl⟩) (q_preV hK hP (ci := 4) (q0 := 28) rfl rfl rfl (q_preF hN hK hP hD)) rfl rfl hl.1 rfl (lv_room (Nat.le_of_ble_eq_true rfl)) dX4_readWave_97 ⟨Nat.le_of_ble_eq_true rfl, Nat.le_of_ble_eq_true rfl⟩) hD hS hA (fun w1 H locs hw hP hD hS => ?_)
      subst hw
      exact bkX4_readWave_100 _ hB p e s0 m below meth c A E H locs ls hP hD hS (lv_sub hl [0] rfl)
  · have hB := if_n hB c1
    refine lv_aload_n hx hb dX4_readWave_36 rfl (lv_at hl 0 rfl) ?_
    refine q_get (v := .ref (a 30)) C inX4_readWave_X4 hK hP 28 rfl rfl 0 (by decide) rfl LX4_readWave_31 rfl dX4_readWave_37 ?_
    refine q_getN (v := .ref (a 33)) C hN inX4_readWave_X9 hK hP 30 rfl rfl 3 (by decide) rfl nwF_X4_67 rfl dX4_readWave_40 ?_
    refine lv_aload_n hx hb dX4_readWave_43 rfl (lv_at hl 0 rfl) ?_
    refine q_get (v := .int (s.v 15)) C inX4_readWave_X4 hK hP 28 rfl rfl 3 (by decide) rfl LX4_readWave_38 rfl dX4_readWave_44 ?_
    obtain ⟨g4, hB⟩ := guard_inv hB
    refine q_iald (x := ((s.f 33) (Int32.toNatClampNeg (s.v 15)))) C hK hP 33 1 rfl rfl (vpb_in g4) dX4_readWave_47 rfl ?_
    refine lv_istore_n (lv' := [(2, .int ((s.f 33) (Int32.toNatClampNeg (s.v 15)))), (0, .ref (a 28)), (1, .int x1), (3, .int x3)]) hx hb dX4_readWave_48 rfl hl (by decide) rfl (fun ls hl => ?_)
    refine lv_aload_n hx hb dX4_readWave_49 rfl (lv_at hl 1 rfl) ?_
    refine lv_bipush (v := 9) hx hb dX4_readWave_50 (by decide) ?_
    obtain ⟨q_, s5, hc, hB⟩ := bindI_inv hB
    refine q_goiF (va_runV (As := [.int 9]) (rest := []) C (ckX4_takeInt hc _) (cwV 1 hts gX4_readWave_X4_takeInt rfl rfl rfl (by decide +kernel) ⟨Nat.le_of_ble_eq_true rfl, Nat.le_of_ble_eq_true rfl⟩) (q_preV hK hP (ci := 4) (q0 := 28) rfl rfl rfl (q_preF hN hK hP hD)) rfl rfl hl.1 rfl (lv_room (Nat.le_of_ble_eq_true rfl)) dX4_readWave_52 ⟨Nat.le_of_ble_eq_true rfl, Nat.le_of_ble_eq_true rfl⟩) hD hS hA (fun r6 w1 H locs hw hP hD hS => ?_)
    obtain ⟨hq_, hw⟩ := hw; subst hw; subst hq_
    refine lv_istore (lv' := [(4, .int r6), (2, .int ((s.f 33) (Int32.toNatClampNeg (s.v 15)))), (0, .ref (a 28)), (1, .int x1), (3, .int x3)]) hx hb dX4_readWave_55 hl (by decide) rfl (fun ls hl => ?_)
    refine lv_aload_n hx hb dX4_readWave_57 rfl (lv_at hl 2 rfl) ?_
    refine q_get (v := .ref (a 15)) C inX4_readWave_X4 hK hP 28 rfl rfl 1 (by decide) rfl LX4_readWave_12 rfl dX4_readWave_58 ?_
    refine q_getN (v := .ref (a 16)) C hN inX4_readWave_X5 hK hP 15 rfl rfl 0 (by decide) rfl nwF_X4_103 rfl dX4_readWave_61 ?_
    refine lv_aload_n hx hb dX4_readWave_64 rfl (lv_at hl 2 rfl) ?_
    refine q_get (v := .ref (a 15)) C inX4_readWave_X4 hK hP 28 rfl rfl 1 (by decide) rfl LX4_readWave_12 rfl dX4_readWave_65 ?_
    refine q_getN (v := .int (s5.v 8)) C hN inX4_readWave_X5 hK hP 15 rfl rfl 6 (by decide) rfl nwF_X4_100 rfl dX4_readWave_68 ?_
    refine lv_bipush (v := 6) hx hb dX4_readWave_71 (by decide) ?_
    refine lv_imul hx hb dX4_readWave_73 ?_
    refine lv_iload_n hx hb dX4_readWave_74 rfl (lv_at hl 4 rfl) ?_
    refine lv_iadd hx hb dX4_readWave_75 ?_
    refine lv_iload hx hb dX4_readWave_76 (lv_at hl 0 rfl) ?_
    obtain ⟨g7, hB⟩ := guard_inv hB
    obtain ⟨s8, hs9, hB⟩ := letS_inv hB
    refine q_iast (f2 := (upd (s5.f 16) (Int32.toNatClampNeg (((s5.v 8) * 6) + x3)) r6)) (w2 := (wK cB cI cJ cZ cS a s8)) C hK hP hD hS 16 1 rfl rfl (vpb_in g7) dX4_readWave_78 rfl (by subst hs9; rfl) (fun H locs hP hD hS => ?_)
    refine lv_iload_n hx hb dX4_readWave_79 rfl (lv_at hl 3 rfl) ?_
    refine lv_iload hx hb dX4_readWave_80 (lv_at hl 0 rfl) ?_
    refine lv_iadd hx hb dX4_readWave_82 ?_
    refine lv_istore_n (lv' := [(1, .int (x1 + r6)), (4, .int r6), (2, .int ((s.f 33) (Int32.toNatClampNeg (s.v 15)))), (0, .ref (a 28)), (3, .int x3)]) hx hb dX4_readWave_83 rfl hl (by decide) rfl (fun ls hl => ?_)
    refine lv_iinc (v := (x3 + 1)) (lv' := [(3, .int (x3 + 1)), (1, .int (x1 + r6)), (4, .int r6), (2, .int ((s.f 33) (Int32.toNatClampNeg (s.v 15)))), (0, .ref (a 28))]) hx hb dX4_readWave_84 hl (k := 4) rfl (rfl) (by decide) rfl (fun ls hl => ?_)
    refine lv_goto (tgt := 30) hx hb dX4_readWave_87 (by decide) ?_
    exact hk30 _ _ _ _ hB p e s0 m below meth c A E H locs ls hP hD hS (lv_sub hl [4, 1, 3, 0] rfl)
theorem bkX4_readWave_30L {l : Launch} {dC : Nat → ClassId} {dI : Nat → Nat → Nat} {cB cI cJ cZ cS : ClassId} {a : Nat → Nat} {as : List Value} {s' : KS} : ∀ (n : Nat) (s : KS) (x1 : Int32) (x2 : Int32) (x3 : Int32), kX4_readWave_30L n s x1 x2 x3 = some s' → BlkV l yX4_readWave wsX4_readWave ({ frames := 3, cells := 0, slots := 0, locals := 64 }) cX4_readWave 5 none (dC, dI) (tysA cB cI cJ cZ cS) as 30 (wK cB cI cJ cZ cS a s) [(0, .ref (a 28)), (1, .int x1), (2, .int x2), (3, .int x3)] [] (fun u => u = (wK cB cI cJ cZ cS a s')) := by
  intro n
  induction n with
  | zero => intro s x1 x2 x3 hB; exact none_ne hB
  | succ n ih => intro s x1 x2 x3 hB; exact bkX4_readWave_30 ih _ _ _ _ hB
set_option maxHeartbeats 4000000 in
set_option maxRecDepth 100000 in
theorem bkX4_readWave {l : Launch} {dC : Nat → ClassId} {dI : Nat → Nat → Nat} {cB cI cJ cZ cS : ClassId} {a : Nat → Nat} {as : List Value} {s' : KS} (s : KS) (hB : kX4_readWave s = some s') : BlkV l yX4_readWave wsX4_readWave ({ frames := 3, cells := 0, slots := 0, locals := 64 }) cX4_readWave 5 none (dC, dI) (tysA cB cI cJ cZ cS) as 0 (wK cB cI cJ cZ cS a s) [(0, .ref (a 28))] [] (fun u => u = (wK cB cI cJ cZ cS a s')) := by
  intro p e s0 m below meth c A E H locs ls hP hD hS hl
  obtain ⟨C, hr, hlocks, hA, hK, hN⟩ := id E
  obtain ⟨hx, hb, hml, hown, hts⟩ := id C
  unfold kX4_readWave at hB
  refine lv_aload_n hx hb dX4_readWave_0 rfl (lv_at hl 0 rfl) ?_
  refine q_get (v := .ref (a 15)) C inX4_readWave_X4 hK hP 28 rfl rfl 1 (by decide) rfl LX4_readWave_12 rfl dX4_readWave_1 ?_
  refine q_getN (v := .int (s.v 8)) C hN inX4_readWave_X5 hK hP 15 rfl rfl 6 (by decide) rfl nwF_X4_100 rfl dX4_readWave_4 ?_
  refine lv_iconst (v := 5) hx hb dX4_readWave_7 (by decide) ?_
  refine lv_icmp_lt (tgt := 17) hx hb dX4_readWave_8 (by decide) (fun c1 => ?_) (fun c1 => ?_)
  · have hB := if_p hB c1
    refine lv_aload_n hx hb dX4_readWave_17 rfl (lv_at hl 0 rfl) ?_
    refine lv_sipush (v := 256) hx hb dX4_readWave_18 (by decide) ?_
    obtain ⟨s2, hc, hB⟩ := bindP_inv hB
    refine q_govF (va_runV (As := [.int 256]) (rest := []) C (ckX4_take hc _) (cwV 1 hts gX4_readWave_X4_take rfl rfl rfl (by decide +kernel) ⟨Nat.le_of_ble_eq_true rfl, Nat.le_of_ble_eq_true rfl⟩) (q_preV hK hP (ci := 4) (q0 := 28) rfl rfl rfl (q_preF hN hK hP hD)) rfl rfl hl.1 rfl (lv_room (Nat.le_of_ble_eq_true rfl)) dX4_readWave_21 ⟨Nat.le_of_ble_eq_true rfl, Nat.le_of_ble_eq_true rfl⟩) hD hS hA (fun w1 H locs hw hP hD hS => ?_)
    subst hw
    refine lv_iconst (v := 0) hx hb dX4_readWave_24 (by decide) ?_
    refine lv_istore_n (lv' := [(1, .int 0), (0, .ref (a 28))]) hx hb dX4_readWave_25 rfl hl (by decide) rfl (fun ls hl => ?_)
    refine lv_iconst (v := (-1)) hx hb dX4_readWave_26 (by decide) ?_
    refine lv_istore_n (lv' := [(2, .int (-1)), (1, .int 0), (0, .ref (a 28))]) hx hb dX4_readWave_27 rfl hl (by decide) rfl (fun ls hl => ?_)
    refine lv_iconst (v := 0) hx hb dX4_readWave_28 (by decide) ?_
    refine lv_istore_n (lv' := [(3, .int 0), (2, .int (-1)), (1, .int 0), (0, .ref (a 28))]) hx hb dX4_readWave_29 rfl hl (by decide) rfl (fun ls hl => ?_)
    exact bkX4_readWave_30L fu _ _ _ _ hB p e s0 m below meth c A E H locs ls hP hD hS (lv_sub hl [3, 2, 1, 0] rfl)
  · have hB := if_n hB c1
    refine lv_aload_n hx hb dX4_readWave_11 rfl (lv_at hl 0 rfl) ?_
    refine lv_iconst (v := 2) hx hb dX4_readWave_12 (by decide) ?_
    obtain ⟨s3, hc, hB⟩ := bindP_inv hB
    refine q_govF (va_runV (As := [.int 2]) (rest := []) C (ckX4_fail hc _) (cwV 1 hts gX4_readWave_X4_fail rfl rfl rfl (by decide +kernel) ⟨Nat.le_of_ble_eq_true rfl, Nat.le_of_ble_eq_true rfl⟩) (q_preV hK hP (ci := 4) (q0 := 28) rfl rfl rfl (q_preF hN hK hP hD)) rfl rfl hl.1 rfl (lv_room (Nat.le_of_ble_eq_true rfl)) dX4_readWave_13 ⟨Nat.le_of_ble_eq_true rfl, Nat.le_of_ble_eq_true rfl⟩) hD hS hA (fun w1 H locs hw hP hD hS => ?_)
    subst hw
    exact q_vret C hr hlocks hK hP hD hS (Nat.le_of_ble_eq_true rfl) (Nat.le_of_ble_eq_true rfl) dX4_readWave_16 (by cases hB; rfl)
theorem ckX4_readWave {l : Launch} {dC : Nat → ClassId} {dI : Nat → Nat → Nat} {cB cI cJ cZ cS : ClassId} {a : Nat → Nat} {s' : KS} {s : KS} (hB : kX4_readWave s = some s') : CV l yX4_readWave wsX4_readWave ({ frames := 3, cells := 0, slots := 0, locals := 64 }) (dC, dI) (tysA cB cI cJ cZ cS) (wK cB cI cJ cZ cS a s) [.ref (a 28)] (fun u => u = (wK cB cI cJ cZ cS a s')) :=
  CV_of (cc := cX4_readWave) (maxL := 5) (ret := none) (by decide) rfl (Nat.le_of_ble_eq_true rfl) (bkX4_readWave _ hB)
theorem LX4_isTold_12 : Cond.fieldLink RX4 12 "GuessFerry$Reader" "draft" "LGuessFerry$Sound;" ∈ wsX4_isTold := (List.mem_cons_of_mem _ (List.mem_append_left _ (List.mem_append_left _ (List.mem_of_getElem? (i := 0) rfl))))
theorem LX4_isTold_18 : Cond.fieldLink RX4 18 "GuessFerry$Reader" "names" "[J" ∈ wsX4_isTold := (List.mem_cons_of_mem _ (List.mem_append_left _ (List.mem_append_left _ (List.mem_of_getElem? (i := 1) rfl))))
theorem inX4_isTold_X4 : ∀ w ∈ u_ws RX4 TX4 8, w ∈ wsX4_isTold := fun _ h => List.mem_cons_of_mem _ (List.mem_append_left _ (List.mem_append_right _ h))
theorem inX4_isTold_X5 : ∀ w ∈ u_ws RX5 TX5 10, w ∈ wsX4_isTold := fun _ h => List.mem_cons_of_mem _ (List.mem_append_right _ h)
set_option maxHeartbeats 4000000 in
set_option maxRecDepth 100000 in
theorem bkX4_isTold_2 {l : Launch} {dC : Nat → ClassId} {dI : Nat → Nat → Nat} {cB cI cJ cZ cS : ClassId} {a : Nat → Nat} {as : List Value} {r : Int32} {s' : KS} {k2 : KS → Int64 → Int32 → Option (Int32 × KS)} (hk2 : ∀ (s : KS) (x1 : Int64) (x3 : Int32), k2 s x1 x3 = some (r, s') → BlkI l yX4_isTold wsX4_isTold ({ frames := 0, cells := 0, slots := 0, locals := 0 }) cX4_isTold 4 (some .boolean) (dC, dI) (tysA cB cI cJ cZ cS) as 2 (wK cB cI cJ cZ cS a s) [(0, .ref (a 28)), (1, .long x1), (3, .int x3)] [] (fun x u => x = r ∧ u = (wK cB cI cJ cZ cS a s'))) (s : KS) (x1 : Int64) (x3 : Int32) (hB : kX4_isTold_2 k2 s x1 x3 = some (r, s')) : BlkI l yX4_isTold wsX4_isTold ({ frames := 0, cells := 0, slots := 0, locals := 0 }) cX4_isTold 4 (some .boolean) (dC, dI) (tysA cB cI cJ cZ cS) as 2 (wK cB cI cJ cZ cS a s) [(0, .ref (a 28)), (1, .long x1), (3, .int x3)] [] (fun x u => x = r ∧ u = (wK cB cI cJ cZ cS a s')) := by
  intro p e s0 m below meth c A E H locs ls hP hD hS hl
  obtain ⟨C, hr, hlocks, hA, hK, hN⟩ := id E
  obtain ⟨hx, hb, hml, hown, hts⟩ := id C
  unfold kX4_isTold_2 at hB
  refine lv_iload_n hx hb dX4_isTold_2 rfl (lv_at hl 2 rfl) ?_
  refine lv_aload_n hx hb dX4_isTold_3 rfl (lv_at hl 0 rfl) ?_
  refine q_get (v := .ref (a 15)) C inX4_isTold_X4 hK hP 28 rfl rfl 1 (by decide) rfl LX4_isTold_12 rfl dX4_isTold_4 ?_
  refine q_getN (v := .int (s.v 9)) C hN inX4_isTold_X5 hK hP 15 rfl rfl 7 (by decide) rfl nwF_X4_106 rfl dX4_isTold_7 ?_
  refine lv_icmp_ge (tgt := 32) hx hb dX4_isTold_10 (by decide) (fun c1 => ?_) (fun c1 => ?_)
  · have hB := if_p hB c1
    refine lv_iconst (v := 0) hx hb dX4_isTold_32 (by decide) ?_
    exact q_zret C hr hlocks (Or.inl rfl) hK hP hD hS (Nat.le_of_ble_eq_true rfl) (Nat.le_of_ble_eq_true rfl) dX4_isTold_33 (by cases hB; exact ⟨rfl, rfl⟩)
  · have hB := if_n hB c1
    refine lv_aload_n hx hb dX4_isTold_13 rfl (lv_at hl 0 rfl) ?_
    refine q_get (v := .ref (a 29)) C inX4_isTold_X4 hK hP 28 rfl rfl 2 (by decide) rfl LX4_isTold_18 rfl dX4_isTold_14 ?_
    refine lv_iload_n hx hb dX4_isTold_17 rfl (lv_at hl 2 rfl) ?_
    obtain ⟨g2, hB⟩ := guard_inv hB
    refine q_lald (x := ((s.g 29) (Int32.toNatClampNeg x3))) C hK hP 29 2 rfl rfl (vpb_in g2) dX4_isTold_18 rfl ?_
    refine lv_lload_n hx hb dX4_isTold_19 rfl (lv_at hl 1 rfl) ?_
    refine W.lcmp hx hb dX4_isTold_20 ?_
    refine lv_if_ne (tgt := 26) hx hb dX4_isTold_21 (by decide) (fun c3 => ?_) (fun c3 => ?_)
    · have hB := if_n hB c3
      refine lv_iinc (v := (x3 + 1)) (lv' := [(3, .int (x3 + 1)), (0, .ref (a 28)), (1, .long x1)]) hx hb dX4_isTold_26 hl (k := 2) rfl (rfl) (by decide) rfl (fun ls hl => ?_)
      refine lv_goto (tgt := 2) hx hb dX4_isTold_29 (by decide) ?_
      exact hk2 _ _ _ hB p e s0 m below meth c A E H locs ls hP hD hS (lv_sub hl [1, 2, 0] rfl)
    · have hB := if_p hB c3
      refine lv_iconst (v := 1) hx hb dX4_isTold_24 (by decide) ?_
      exact q_zret C hr hlocks (Or.inr rfl) hK hP hD hS (Nat.le_of_ble_eq_true rfl) (Nat.le_of_ble_eq_true rfl) dX4_isTold_25 (by cases hB; exact ⟨rfl, rfl⟩)
theorem bkX4_isTold_2L {l : Launch} {dC : Nat → ClassId} {dI : Nat → Nat → Nat} {cB cI cJ cZ cS : ClassId} {a : Nat → Nat} {as : List Value} {r : Int32} {s' : KS} : ∀ (n : Nat) (s : KS) (x1 : Int64) (x3 : Int32), kX4_isTold_2L n s x1 x3 = some (r, s') → BlkI l yX4_isTold wsX4_isTold ({ frames := 0, cells := 0, slots := 0, locals := 0 }) cX4_isTold 4 (some .boolean) (dC, dI) (tysA cB cI cJ cZ cS) as 2 (wK cB cI cJ cZ cS a s) [(0, .ref (a 28)), (1, .long x1), (3, .int x3)] [] (fun x u => x = r ∧ u = (wK cB cI cJ cZ cS a s')) := by
  intro n
  induction n with
  | zero => intro s x1 x3 hB; exact none_ne hB
  | succ n ih => intro s x1 x3 hB; exact bkX4_isTold_2 ih _ _ _ hB
set_option maxHeartbeats 4000000 in
set_option maxRecDepth 100000 in
theorem bkX4_isTold {l : Launch} {dC : Nat → ClassId} {dI : Nat → Nat → Nat} {cB cI cJ cZ cS : ClassId} {a : Nat → Nat} {as : List Value} {r : Int32} {s' : KS} (s : KS) (x1 : Int64) (hB : kX4_isTold s x1 = some (r, s')) : BlkI l yX4_isTold wsX4_isTold ({ frames := 0, cells := 0, slots := 0, locals := 0 }) cX4_isTold 4 (some .boolean) (dC, dI) (tysA cB cI cJ cZ cS) as 0 (wK cB cI cJ cZ cS a s) [(0, .ref (a 28)), (1, .long x1)] [] (fun x u => x = r ∧ u = (wK cB cI cJ cZ cS a s')) := by
  intro p e s0 m below meth c A E H locs ls hP hD hS hl
  obtain ⟨C, hr, hlocks, hA, hK, hN⟩ := id E
  obtain ⟨hx, hb, hml, hown, hts⟩ := id C
  unfold kX4_isTold at hB
  refine lv_iconst (v := 0) hx hb dX4_isTold_0 (by decide) ?_
  refine lv_istore_n (lv' := [(3, .int 0), (0, .ref (a 28)), (1, .long x1)]) hx hb dX4_isTold_1 rfl hl (by decide) rfl (fun ls hl => ?_)
  exact bkX4_isTold_2L fu _ _ _ hB p e s0 m below meth c A E H locs ls hP hD hS (lv_sub hl [1, 2, 0] rfl)
theorem ckX4_isTold {l : Launch} {dC : Nat → ClassId} {dI : Nat → Nat → Nat} {cB cI cJ cZ cS : ClassId} {a : Nat → Nat} {r : Int32} {s' : KS} {s : KS} {x1 : Int64} (hB : kX4_isTold s x1 = some (r, s')) : CI l yX4_isTold wsX4_isTold ({ frames := 0, cells := 0, slots := 0, locals := 0 }) (dC, dI) (tysA cB cI cJ cZ cS) (wK cB cI cJ cZ cS a s) [.ref (a 28), .long x1] (fun x u => x = r ∧ u = (wK cB cI cJ cZ cS a s')) :=
  CI_of (cc := cX4_isTold) (maxL := 4) (ret := (some .boolean)) (by decide) rfl (Nat.le_of_ble_eq_true rfl) (bkX4_isTold _ _ hB)
theorem LX5_copyFrom_15 : Cond.fieldLink RX5 15 "GuessFerry$Sound" "oddsSums" "[I" ∈ wsX5_copyFrom := (List.mem_cons_of_mem _ (List.mem_append_left _ (List.mem_append_left _ (List.mem_append_left _ (List.mem_of_getElem? (i := 5) rfl)))))
theorem LX5_copyFrom_18 : Cond.fieldLink RX5 18 "GuessFerry$Sound" "likely" "[I" ∈ wsX5_copyFrom := (List.mem_cons_of_mem _ (List.mem_append_left _ (List.mem_append_left _ (List.mem_append_left _ (List.mem_of_getElem? (i := 6) rfl)))))
theorem LX5_copyFrom_21 : Cond.fieldLink RX5 21 "GuessFerry$Sound" "heavy" "[I" ∈ wsX5_copyFrom := (List.mem_cons_of_mem _ (List.mem_append_left _ (List.mem_append_left _ (List.mem_append_left _ (List.mem_of_getElem? (i := 7) rfl)))))
theorem LX5_copyFrom_24 : Cond.fieldLink RX5 24 "GuessFerry$Sound" "nerve" "[I" ∈ wsX5_copyFrom := (List.mem_cons_of_mem _ (List.mem_append_left _ (List.mem_append_left _ (List.mem_append_left _ (List.mem_of_getElem? (i := 8) rfl)))))
theorem LX5_copyFrom_30 : Cond.fieldLink RX5 30 "GuessFerry$Sound" "laws" "LGuessFerry$Laws;" ∈ wsX5_copyFrom := (List.mem_cons_of_mem _ (List.mem_append_left _ (List.mem_append_left _ (List.mem_append_left _ (List.mem_of_getElem? (i := 9) rfl)))))
theorem LX5_copyFrom_37 : Cond.fieldLink RX5 37 "GuessFerry$Sound" "waves" "I" ∈ wsX5_copyFrom := (List.mem_cons_of_mem _ (List.mem_append_left _ (List.mem_append_left _ (List.mem_append_left _ (List.mem_of_getElem? (i := 10) rfl)))))
theorem LX5_copyFrom_41 : Cond.fieldLink RX5 41 "GuessFerry$Sound" "parties" "I" ∈ wsX5_copyFrom := (List.mem_cons_of_mem _ (List.mem_append_left _ (List.mem_append_left _ (List.mem_append_left _ (List.mem_of_getElem? (i := 11) rfl)))))
theorem LX5_copyFrom_44 : Cond.fieldLink RX5 44 "GuessFerry$Sound" "guesses" "I" ∈ wsX5_copyFrom := (List.mem_cons_of_mem _ (List.mem_append_left _ (List.mem_append_left _ (List.mem_append_left _ (List.mem_of_getElem? (i := 12) rfl)))))
theorem LX5_copyFrom_47 : Cond.fieldLink RX5 47 "GuessFerry$Sound" "seed" "I" ∈ wsX5_copyFrom := (List.mem_cons_of_mem _ (List.mem_append_left _ (List.mem_append_left _ (List.mem_append_left _ (List.mem_of_getElem? (i := 13) rfl)))))
theorem LX5_copyFrom_9 : Cond.fieldLink RX5 9 "GuessFerry$Sound" "odds" "[I" ∈ wsX5_copyFrom := (List.mem_cons_of_mem _ (List.mem_append_left _ (List.mem_append_left _ (List.mem_append_left _ (List.mem_of_getElem? (i := 0) rfl)))))
theorem LX5_copyFrom_A55 : Cond.methodLink RX5 55 arraycopyName ∈ wsX5_copyFrom := (List.mem_cons_of_mem _ (List.mem_append_left _ (List.mem_append_left _ (List.mem_append_left _ (List.mem_of_getElem? (i := 1) rfl)))))
theorem LX5_copyFrom_AI : Cond.initialized "java/lang/System" ∈ wsX5_copyFrom := (List.mem_cons_of_mem _ (List.mem_append_left _ (List.mem_append_left _ (List.mem_append_left _ (List.mem_of_getElem? (i := 4) rfl)))))
theorem LX5_copyFrom_AN : Cond.native arraycopyName ∈ wsX5_copyFrom := (List.mem_cons_of_mem _ (List.mem_append_left _ (List.mem_append_left _ (List.mem_append_left _ (List.mem_of_getElem? (i := 2) rfl)))))
theorem LX5_copyFrom_AS : Cond.static arraycopyName ∈ wsX5_copyFrom := (List.mem_cons_of_mem _ (List.mem_append_left _ (List.mem_append_left _ (List.mem_append_left _ (List.mem_of_getElem? (i := 3) rfl)))))
theorem LX5_copyFrom_E_X1_copyFrom : Cond.selects RX1 yX1_copyFrom yX1_copyFrom ∈ wsX5_copyFrom := (List.mem_cons_of_mem _ (List.mem_append_left _ (List.mem_append_left _ (List.mem_append_left _ (List.mem_of_getElem? (i := 16) rfl)))))
theorem LX5_copyFrom_I_X1 : Cond.initialized RX1 ∈ wsX5_copyFrom := (List.mem_cons_of_mem _ (List.mem_append_left _ (List.mem_append_left _ (List.mem_append_left _ (List.mem_of_getElem? (i := 15) rfl)))))
theorem LX5_copyFrom_N_X1_copyFrom : Cond.instanceMethod yX1_copyFrom ∈ wsX5_copyFrom := (List.mem_cons_of_mem _ (List.mem_append_left _ (List.mem_append_left _ (List.mem_append_left _ (List.mem_of_getElem? (i := 14) rfl)))))
theorem inX5_copyFrom_X5 : ∀ w ∈ u_ws RX5 TX5 10, w ∈ wsX5_copyFrom := fun w h => (List.mem_cons_of_mem _ (List.mem_append_left _ (List.mem_append_right _ h)))
set_option maxHeartbeats 4000000 in
set_option maxRecDepth 100000 in
theorem bkX5_copyFrom {l : Launch} {dC : Nat → ClassId} {dI : Nat → Nat → Nat} {cB cI cJ cZ cS : ClassId} {a : Nat → Nat} {as : List Value} {s' : KS} (s : KS) (hB : kX5_copyFrom s = some s') : BlkV l yX5_copyFrom wsX5_copyFrom ({ frames := 2, cells := 0, slots := 0, locals := 85 }) cX5_copyFrom 2 none (dC, dI) (tysA cB cI cJ cZ cS) as 0 (wK cB cI cJ cZ cS a s) [(0, .ref (a 2)), (1, .ref (a 15))] [] (fun u => u = (wK cB cI cJ cZ cS a s')) := by
  intro p e s0 m below meth c A E H locs ls hP hD hS hl
  obtain ⟨C, hr, hlocks, hA, hK, hN⟩ := id E
  obtain ⟨hx, hb, hml, hown, hts⟩ := id C
  unfold kX5_copyFrom at hB
  refine lv_aload_n hx hb dX5_copyFrom_0 rfl (lv_at hl 1 rfl) ?_
  refine q_get (v := .ref (a 16)) C inX5_copyFrom_X5 hK hP 15 rfl rfl 0 (by decide) rfl LX5_copyFrom_9 rfl dX5_copyFrom_1 ?_
  refine lv_iconst (v := 0) hx hb dX5_copyFrom_4 (by decide) ?_
  refine lv_aload_n hx hb dX5_copyFrom_5 rfl (lv_at hl 0 rfl) ?_
  refine q_get (v := .ref (a 3)) C inX5_copyFrom_X5 hK hP 2 rfl rfl 0 (by decide) rfl LX5_copyFrom_9 rfl dX5_copyFrom_6 ?_
  refine lv_iconst (v := 0) hx hb dX5_copyFrom_9 (by decide) ?_
  refine lv_bipush (v := 30) hx hb dX5_copyFrom_10 (by decide) ?_
  obtain ⟨s1, hs2, hB⟩ := letS_inv hB
  refine va_copyi hx hb (hml.trans hl.1.symm) hown (hts _ LX5_copyFrom_A55) (hts _ LX5_copyFrom_AN) (hts _ LX5_copyFrom_AS) (hts _ LX5_copyFrom_AI) hK hP hD hS 16 3 1 1 rfl rfl rfl rfl rfl (by decide +kernel) (by decide +kernel) (by decide +kernel) (by decide +kernel) (by decide +kernel) (fun _ _ => rfl) (Nat.le_of_ble_eq_true rfl) (by decide +kernel) dX5_copyFrom_12 (fun H locs hP hD hS => ?_)
  have hP : va_P (dC, dI) vwCl (wK cB cI cJ cZ cS a s1) H := by subst hs2; exact hP
  have hD : va_D A (wK cB cI cJ cZ cS a s1) := by subst hs2; exact hD
  refine lv_aload_n hx hb dX5_copyFrom_15 rfl (lv_at hl 1 rfl) ?_
  refine q_get (v := .ref (a 17)) C inX5_copyFrom_X5 hK hP 15 rfl rfl 1 (by decide) rfl LX5_copyFrom_15 rfl dX5_copyFrom_16 ?_
  refine lv_iconst (v := 0) hx hb dX5_copyFrom_19 (by decide) ?_
  refine lv_aload_n hx hb dX5_copyFrom_20 rfl (lv_at hl 0 rfl) ?_
  refine q_get (v := .ref (a 4)) C inX5_copyFrom_X5 hK hP 2 rfl rfl 1 (by decide) rfl LX5_copyFrom_15 rfl dX5_copyFrom_21 ?_
  refine lv_iconst (v := 0) hx hb dX5_copyFrom_24 (by decide) ?_
  refine lv_iconst (v := 5) hx hb dX5_copyFrom_25 (by decide) ?_
  obtain ⟨s3, hs4, hB⟩ := letS_inv hB
  refine va_copyi hx hb (hml.trans hl.1.symm) hown (hts _ LX5_copyFrom_A55) (hts _ LX5_copyFrom_AN) (hts _ LX5_copyFrom_AS) (hts _ LX5_copyFrom_AI) hK hP hD hS 17 4 1 1 rfl rfl rfl rfl rfl (by decide +kernel) (by decide +kernel) (by decide +kernel) (by decide +kernel) (by decide +kernel) (fun _ _ => rfl) (Nat.le_of_ble_eq_true rfl) (by decide +kernel) dX5_copyFrom_26 (fun H locs hP hD hS => ?_)
  have hP : va_P (dC, dI) vwCl (wK cB cI cJ cZ cS a s3) H := by subst hs4; exact hP
  have hD : va_D A (wK cB cI cJ cZ cS a s3) := by subst hs4; exact hD
  refine lv_aload_n hx hb dX5_copyFrom_29 rfl (lv_at hl 1 rfl) ?_
  refine q_get (v := .ref (a 18)) C inX5_copyFrom_X5 hK hP 15 rfl rfl 2 (by decide) rfl LX5_copyFrom_18 rfl dX5_copyFrom_30 ?_
  refine lv_iconst (v := 0) hx hb dX5_copyFrom_33 (by decide) ?_
  refine lv_aload_n hx hb dX5_copyFrom_34 rfl (lv_at hl 0 rfl) ?_
  refine q_get (v := .ref (a 5)) C inX5_copyFrom_X5 hK hP 2 rfl rfl 2 (by decide) rfl LX5_copyFrom_18 rfl dX5_copyFrom_35 ?_
  refine lv_iconst (v := 0) hx hb dX5_copyFrom_38 (by decide) ?_
  refine lv_iconst (v := 5) hx hb dX5_copyFrom_39 (by decide) ?_
  obtain ⟨s5, hs6, hB⟩ := letS_inv hB
  refine va_copyi hx hb (hml.trans hl.1.symm) hown (hts _ LX5_copyFrom_A55) (hts _ LX5_copyFrom_AN) (hts _ LX5_copyFrom_AS) (hts _ LX5_copyFrom_AI) hK hP hD hS 18 5 1 1 rfl rfl rfl rfl rfl (by decide +kernel) (by decide +kernel) (by decide +kernel) (by decide +kernel) (by decide +kernel) (fun _ _ => rfl) (Nat.le_of_ble_eq_true rfl) (by decide +kernel) dX5_copyFrom_40 (fun H locs hP hD hS => ?_)
  have hP : va_P (dC, dI) vwCl (wK cB cI cJ cZ cS a s5) H := by subst hs6; exact hP
  have hD : va_D A (wK cB cI cJ cZ cS a s5) := by subst hs6; exact hD
  refine lv_aload_n hx hb dX5_copyFrom_43 rfl (lv_at hl 1 rfl) ?_
  refine q_get (v := .ref (a 19)) C inX5_copyFrom_X5 hK hP 15 rfl rfl 3 (by decide) rfl LX5_copyFrom_21 rfl dX5_copyFrom_44 ?_
  refine lv_iconst (v := 0) hx hb dX5_copyFrom_47 (by decide) ?_
  refine lv_aload_n hx hb dX5_copyFrom_48 rfl (lv_at hl 0 rfl) ?_
  refine q_get (v := .ref (a 6)) C inX5_copyFrom_X5 hK hP 2 rfl rfl 3 (by decide) rfl LX5_copyFrom_21 rfl dX5_copyFrom_49 ?_
  refine lv_iconst (v := 0) hx hb dX5_copyFrom_52 (by decide) ?_
  refine lv_bipush (v := 6) hx hb dX5_copyFrom_53 (by decide) ?_
  obtain ⟨s7, hs8, hB⟩ := letS_inv hB
  refine va_copyi hx hb (hml.trans hl.1.symm) hown (hts _ LX5_copyFrom_A55) (hts _ LX5_copyFrom_AN) (hts _ LX5_copyFrom_AS) (hts _ LX5_copyFrom_AI) hK hP hD hS 19 6 1 1 rfl rfl rfl rfl rfl (by decide +kernel) (by decide +kernel) (by decide +kernel) (by decide +kernel) (by decide +kernel) (fun _ _ => rfl) (Nat.le_of_ble_eq_true rfl) (by decide +kernel) dX5_copyFrom_55 (fun H locs hP hD hS => ?_)
  have hP : va_P (dC, dI) vwCl (wK cB cI cJ cZ cS a s7) H := by subst hs8; exact hP
  have hD : va_D A (wK cB cI cJ cZ cS a s7) := by subst hs8; exact hD
  refine lv_aload_n hx hb dX5_copyFrom_58 rfl (lv_at hl 1 rfl) ?_
  refine q_get (v := .ref (a 20)) C inX5_copyFrom_X5 hK hP 15 rfl rfl 4 (by decide) rfl LX5_copyFrom_24 rfl dX5_copyFrom_59 ?_
  refine lv_iconst (v := 0) hx hb dX5_copyFrom_62 (by decide) ?_
  refine lv_aload_n hx hb dX5_copyFrom_63 rfl (lv_at hl 0 rfl) ?_
  refine q_get (v := .ref (a 7)) C inX5_copyFrom_X5 hK hP 2 rfl rfl 4 (by decide) rfl LX5_copyFrom_24 rfl dX5_copyFrom_64 ?_
  refine lv_iconst (v := 0) hx hb dX5_copyFrom_67 (by decide) ?_
  refine lv_bipush (v := 6) hx hb dX5_copyFrom_68 (by decide) ?_
  obtain ⟨s9, hs10, hB⟩ := letS_inv hB
  refine va_copyi hx hb (hml.trans hl.1.symm) hown (hts _ LX5_copyFrom_A55) (hts _ LX5_copyFrom_AN) (hts _ LX5_copyFrom_AS) (hts _ LX5_copyFrom_AI) hK hP hD hS 20 7 1 1 rfl rfl rfl rfl rfl (by decide +kernel) (by decide +kernel) (by decide +kernel) (by decide +kernel) (by decide +kernel) (fun _ _ => rfl) (Nat.le_of_ble_eq_true rfl) (by decide +kernel) dX5_copyFrom_70 (fun H locs hP hD hS => ?_)
  have hP : va_P (dC, dI) vwCl (wK cB cI cJ cZ cS a s9) H := by subst hs10; exact hP
  have hD : va_D A (wK cB cI cJ cZ cS a s9) := by subst hs10; exact hD
  refine lv_aload_n hx hb dX5_copyFrom_73 rfl (lv_at hl 0 rfl) ?_
  refine q_get (v := .ref (a 8)) C inX5_copyFrom_X5 hK hP 2 rfl rfl 5 (by decide) rfl LX5_copyFrom_30 rfl dX5_copyFrom_74 ?_
  refine lv_aload_n hx hb dX5_copyFrom_77 rfl (lv_at hl 1 rfl) ?_
  refine q_get (v := .ref (a 21)) C inX5_copyFrom_X5 hK hP 15 rfl rfl 5 (by decide) rfl LX5_copyFrom_30 rfl dX5_copyFrom_78 ?_
  obtain ⟨s11, hc, hB⟩ := bindP_inv hB
  refine q_govF (va_runVN (As := [.ref (a 21)]) (rest := []) C (ckX1_copyFrom hc _) ⟨va_cnB 1 hts gX5_copyFrom_X1_copyFrom_n61 rfl rfl rfl (hN _ nwM_X5_61 rfl) (hts _ LX5_copyFrom_I_X1) (by decide +kernel) ⟨Nat.le_of_ble_eq_true rfl, Nat.le_of_ble_eq_true rfl⟩, hts _ LX5_copyFrom_N_X1_copyFrom, hts _ LX5_copyFrom_E_X1_copyFrom⟩ (q_preV hK hP (ci := 1) (q0 := 8) rfl rfl rfl (q_preF hN hK hP hD)) rfl rfl hl.1 rfl (lv_room (Nat.le_of_ble_eq_true rfl)) dX5_copyFrom_81 ⟨Nat.le_of_ble_eq_true rfl, Nat.le_of_ble_eq_true rfl⟩) hD hS hA (fun w1 H locs hw hP hD hS => ?_)
  subst hw
  refine lv_aload_n hx hb dX5_copyFrom_84 rfl (lv_at hl 0 rfl) ?_
  refine lv_aload_n hx hb dX5_copyFrom_85 rfl (lv_at hl 1 rfl) ?_
  refine q_get (v := .int (s11.v 8)) C inX5_copyFrom_X5 hK hP 15 rfl rfl 6 (by decide) rfl LX5_copyFrom_37 rfl dX5_copyFrom_86 ?_
  obtain ⟨s12, hs13, hB⟩ := letS_inv hB
  refine q_put (ty := .int) (w2 := (wK cB cI cJ cZ cS a s12)) tyX5 tyX5_ok nmX5 C inX5_copyFrom_X5 hK hP hD hS 2 rfl rfl 6 (by decide) rfl LX5_copyFrom_37 rfl (by decide +kernel) (rfl) rfl (Nat.le_of_ble_eq_true rfl) dX5_copyFrom_89 (by subst hs13; rfl) (fun H locs hP hD hS => ?_)
  refine lv_aload_n hx hb dX5_copyFrom_92 rfl (lv_at hl 0 rfl) ?_
  refine lv_aload_n hx hb dX5_copyFrom_93 rfl (lv_at hl 1 rfl) ?_
  refine q_get (v := .int (s12.v 9)) C inX5_copyFrom_X5 hK hP 15 rfl rfl 7 (by decide) rfl LX5_copyFrom_41 rfl dX5_copyFrom_94 ?_
  obtain ⟨s14, hs15, hB⟩ := letS_inv hB
  refine q_put (ty := .int) (w2 := (wK cB cI cJ cZ cS a s14)) tyX5 tyX5_ok nmX5 C inX5_copyFrom_X5 hK hP hD hS 2 rfl rfl 7 (by decide) rfl LX5_copyFrom_41 rfl (by decide +kernel) (rfl) rfl (Nat.le_of_ble_eq_true rfl) dX5_copyFrom_97 (by subst hs15; rfl) (fun H locs hP hD hS => ?_)
  refine lv_aload_n hx hb dX5_copyFrom_100 rfl (lv_at hl 0 rfl) ?_
  refine lv_aload_n hx hb dX5_copyFrom_101 rfl (lv_at hl 1 rfl) ?_
  refine q_get (v := .int (s14.v 10)) C inX5_copyFrom_X5 hK hP 15 rfl rfl 8 (by decide) rfl LX5_copyFrom_44 rfl dX5_copyFrom_102 ?_
  obtain ⟨s16, hs17, hB⟩ := letS_inv hB
  refine q_put (ty := .int) (w2 := (wK cB cI cJ cZ cS a s16)) tyX5 tyX5_ok nmX5 C inX5_copyFrom_X5 hK hP hD hS 2 rfl rfl 8 (by decide) rfl LX5_copyFrom_44 rfl (by decide +kernel) (rfl) rfl (Nat.le_of_ble_eq_true rfl) dX5_copyFrom_105 (by subst hs17; rfl) (fun H locs hP hD hS => ?_)
  refine lv_aload_n hx hb dX5_copyFrom_108 rfl (lv_at hl 0 rfl) ?_
  refine lv_aload_n hx hb dX5_copyFrom_109 rfl (lv_at hl 1 rfl) ?_
  refine q_get (v := .int (s16.v 11)) C inX5_copyFrom_X5 hK hP 15 rfl rfl 9 (by decide) rfl LX5_copyFrom_47 rfl dX5_copyFrom_110 ?_
  obtain ⟨s18, hs19, hB⟩ := letS_inv hB
  refine q_put (ty := .int) (w2 := (wK cB cI cJ cZ cS a s18)) tyX5 tyX5_ok nmX5 C inX5_copyFrom_X5 hK hP hD hS 2 rfl rfl 9 (by decide) rfl LX5_copyFrom_47 rfl (by decide +kernel) (rfl) rfl (Nat.le_of_ble_eq_true rfl) dX5_copyFrom_113 (by subst hs19; rfl) (fun H locs hP hD hS => ?_)
  exact q_vret C hr hlocks hK hP hD hS (Nat.le_of_ble_eq_true rfl) (Nat.le_of_ble_eq_true rfl) dX5_copyFrom_116 (by cases hB; rfl)
theorem ckX5_copyFrom {l : Launch} {dC : Nat → ClassId} {dI : Nat → Nat → Nat} {cB cI cJ cZ cS : ClassId} {a : Nat → Nat} {s' : KS} {s : KS} (hB : kX5_copyFrom s = some s') : CV l yX5_copyFrom wsX5_copyFrom ({ frames := 2, cells := 0, slots := 0, locals := 85 }) (dC, dI) (tysA cB cI cJ cZ cS) (wK cB cI cJ cZ cS a s) [.ref (a 2), .ref (a 15)] (fun u => u = (wK cB cI cJ cZ cS a s')) :=
  CV_of (cc := cX5_copyFrom) (maxL := 2) (ret := none) (by decide) rfl (Nat.le_of_ble_eq_true rfl) (bkX5_copyFrom _ hB)
theorem LX5_hasWave_37 : Cond.fieldLink RX5 37 "GuessFerry$Sound" "waves" "I" ∈ wsX5_hasWave := (List.mem_cons_of_mem _ (List.mem_append_left _ (List.mem_of_getElem? (i := 0) rfl)))
theorem inX5_hasWave_X5 : ∀ w ∈ u_ws RX5 TX5 10, w ∈ wsX5_hasWave := fun _ h => List.mem_cons_of_mem _ (List.mem_append_right _ h)
set_option maxHeartbeats 4000000 in
set_option maxRecDepth 100000 in
theorem bkX5_hasWave {l : Launch} {dC : Nat → ClassId} {dI : Nat → Nat → Nat} {cB cI cJ cZ cS : ClassId} {a : Nat → Nat} {as : List Value} {r : Int32} {s' : KS} (s : KS) (x1 : Int32) (hB : kX5_hasWave s x1 = some (r, s')) : BlkI l yX5_hasWave wsX5_hasWave ({ frames := 0, cells := 0, slots := 0, locals := 0 }) cX5_hasWave 2 (some .boolean) (dC, dI) (tysA cB cI cJ cZ cS) as 0 (wK cB cI cJ cZ cS a s) [(0, .ref (a 2)), (1, .int x1)] [] (fun x u => x = r ∧ u = (wK cB cI cJ cZ cS a s')) := by
  intro p e s0 m below meth c A E H locs ls hP hD hS hl
  obtain ⟨C, hr, hlocks, hA, hK, hN⟩ := id E
  obtain ⟨hx, hb, hml, hown, hts⟩ := id C
  unfold kX5_hasWave at hB
  refine lv_iload_n hx hb dX5_hasWave_0 rfl (lv_at hl 1 rfl) ?_
  refine lv_if_lt (tgt := 16) hx hb dX5_hasWave_1 (by decide) (fun c1 => ?_) (fun c1 => ?_)
  · have hB := if_p hB c1
    refine lv_iconst (v := 0) hx hb dX5_hasWave_16 (by decide) ?_
    exact q_zret C hr hlocks (Or.inl rfl) hK hP hD hS (Nat.le_of_ble_eq_true rfl) (Nat.le_of_ble_eq_true rfl) dX5_hasWave_17 (by cases hB; exact ⟨rfl, rfl⟩)
  · have hB := if_n hB c1
    refine lv_iload_n hx hb dX5_hasWave_4 rfl (lv_at hl 1 rfl) ?_
    refine lv_aload_n hx hb dX5_hasWave_5 rfl (lv_at hl 0 rfl) ?_
    refine q_get (v := .int (s.v 1)) C inX5_hasWave_X5 hK hP 2 rfl rfl 6 (by decide) rfl LX5_hasWave_37 rfl dX5_hasWave_6 ?_
    refine lv_icmp_ge (tgt := 16) hx hb dX5_hasWave_9 (by decide) (fun c2 => ?_) (fun c2 => ?_)
    · have hB := if_p hB c2
      refine lv_iconst (v := 0) hx hb dX5_hasWave_16 (by decide) ?_
      exact q_zret C hr hlocks (Or.inl rfl) hK hP hD hS (Nat.le_of_ble_eq_true rfl) (Nat.le_of_ble_eq_true rfl) dX5_hasWave_17 (by cases hB; exact ⟨rfl, rfl⟩)
    · have hB := if_n hB c2
      refine lv_iconst (v := 1) hx hb dX5_hasWave_12 (by decide) ?_
      refine lv_goto (tgt := 17) hx hb dX5_hasWave_13 (by decide) ?_
      exact q_zret C hr hlocks (Or.inr rfl) hK hP hD hS (Nat.le_of_ble_eq_true rfl) (Nat.le_of_ble_eq_true rfl) dX5_hasWave_17 (by cases hB; exact ⟨rfl, rfl⟩)
theorem ckX5_hasWave {l : Launch} {dC : Nat → ClassId} {dI : Nat → Nat → Nat} {cB cI cJ cZ cS : ClassId} {a : Nat → Nat} {r : Int32} {s' : KS} {s : KS} {x1 : Int32} (hB : kX5_hasWave s x1 = some (r, s')) : CI l yX5_hasWave wsX5_hasWave ({ frames := 0, cells := 0, slots := 0, locals := 0 }) (dC, dI) (tysA cB cI cJ cZ cS) (wK cB cI cJ cZ cS a s) [.ref (a 2), .int x1] (fun x u => x = r ∧ u = (wK cB cI cJ cZ cS a s')) :=
  CI_of (cc := cX5_hasWave) (maxL := 2) (ret := (some .boolean)) (by decide) rfl (Nat.le_of_ble_eq_true rfl) (bkX5_hasWave _ _ hB)
theorem LX5_hasParty_41 : Cond.fieldLink RX5 41 "GuessFerry$Sound" "parties" "I" ∈ wsX5_hasParty := (List.mem_cons_of_mem _ (List.mem_append_left _ (List.mem_of_getElem? (i := 0) rfl)))
theorem inX5_hasParty_X5 : ∀ w ∈ u_ws RX5 TX5 10, w ∈ wsX5_hasParty := fun _ h => List.mem_cons_of_mem _ (List.mem_append_right _ h)
set_option maxHeartbeats 4000000 in
set_option maxRecDepth 100000 in
theorem bkX5_hasParty {l : Launch} {dC : Nat → ClassId} {dI : Nat → Nat → Nat} {cB cI cJ cZ cS : ClassId} {a : Nat → Nat} {as : List Value} {r : Int32} {s' : KS} (s : KS) (x1 : Int32) (hB : kX5_hasParty s x1 = some (r, s')) : BlkI l yX5_hasParty wsX5_hasParty ({ frames := 0, cells := 0, slots := 0, locals := 0 }) cX5_hasParty 2 (some .boolean) (dC, dI) (tysA cB cI cJ cZ cS) as 0 (wK cB cI cJ cZ cS a s) [(0, .ref (a 2)), (1, .int x1)] [] (fun x u => x = r ∧ u = (wK cB cI cJ cZ cS a s')) := by
  intro p e s0 m below meth c A E H locs ls hP hD hS hl
  obtain ⟨C, hr, hlocks, hA, hK, hN⟩ := id E
  obtain ⟨hx, hb, hml, hown, hts⟩ := id C
  unfold kX5_hasParty at hB
  refine lv_iload_n hx hb dX5_hasParty_0 rfl (lv_at hl 1 rfl) ?_
  refine lv_if_lt (tgt := 16) hx hb dX5_hasParty_1 (by decide) (fun c1 => ?_) (fun c1 => ?_)
  · have hB := if_p hB c1
    refine lv_iconst (v := 0) hx hb dX5_hasParty_16 (by decide) ?_
    exact q_zret C hr hlocks (Or.inl rfl) hK hP hD hS (Nat.le_of_ble_eq_true rfl) (Nat.le_of_ble_eq_true rfl) dX5_hasParty_17 (by cases hB; exact ⟨rfl, rfl⟩)
  · have hB := if_n hB c1
    refine lv_iload_n hx hb dX5_hasParty_4 rfl (lv_at hl 1 rfl) ?_
    refine lv_aload_n hx hb dX5_hasParty_5 rfl (lv_at hl 0 rfl) ?_
    refine q_get (v := .int (s.v 2)) C inX5_hasParty_X5 hK hP 2 rfl rfl 7 (by decide) rfl LX5_hasParty_41 rfl dX5_hasParty_6 ?_
    refine lv_icmp_ge (tgt := 16) hx hb dX5_hasParty_9 (by decide) (fun c2 => ?_) (fun c2 => ?_)
    · have hB := if_p hB c2
      refine lv_iconst (v := 0) hx hb dX5_hasParty_16 (by decide) ?_
      exact q_zret C hr hlocks (Or.inl rfl) hK hP hD hS (Nat.le_of_ble_eq_true rfl) (Nat.le_of_ble_eq_true rfl) dX5_hasParty_17 (by cases hB; exact ⟨rfl, rfl⟩)
    · have hB := if_n hB c2
      refine lv_iconst (v := 1) hx hb dX5_hasParty_12 (by decide) ?_
      refine lv_goto (tgt := 17) hx hb dX5_hasParty_13 (by decide) ?_
      exact q_zret C hr hlocks (Or.inr rfl) hK hP hD hS (Nat.le_of_ble_eq_true rfl) (Nat.le_of_ble_eq_true rfl) dX5_hasParty_17 (by cases hB; exact ⟨rfl, rfl⟩)
theorem ckX5_hasParty {l : Launch} {dC : Nat → ClassId} {dI : Nat → Nat → Nat} {cB cI cJ cZ cS : ClassId} {a : Nat → Nat} {r : Int32} {s' : KS} {s : KS} {x1 : Int32} (hB : kX5_hasParty s x1 = some (r, s')) : CI l yX5_hasParty wsX5_hasParty ({ frames := 0, cells := 0, slots := 0, locals := 0 }) (dC, dI) (tysA cB cI cJ cZ cS) (wK cB cI cJ cZ cS a s) [.ref (a 2), .int x1] (fun x u => x = r ∧ u = (wK cB cI cJ cZ cS a s')) :=
  CI_of (cc := cX5_hasParty) (maxL := 2) (ret := (some .boolean)) (by decide) rfl (Nat.le_of_ble_eq_true rfl) (bkX5_hasParty _ _ hB)
theorem LX5_hasGuess_44 : Cond.fieldLink RX5 44 "GuessFerry$Sound" "guesses" "I" ∈ wsX5_hasGuess := (List.mem_cons_of_mem _ (List.mem_append_left _ (List.mem_of_getElem? (i := 0) rfl)))
theorem inX5_hasGuess_X5 : ∀ w ∈ u_ws RX5 TX5 10, w ∈ wsX5_hasGuess := fun _ h => List.mem_cons_of_mem _ (List.mem_append_right _ h)
set_option maxHeartbeats 4000000 in
set_option maxRecDepth 100000 in
theorem bkX5_hasGuess {l : Launch} {dC : Nat → ClassId} {dI : Nat → Nat → Nat} {cB cI cJ cZ cS : ClassId} {a : Nat → Nat} {as : List Value} {r : Int32} {s' : KS} (s : KS) (x1 : Int32) (hB : kX5_hasGuess s x1 = some (r, s')) : BlkI l yX5_hasGuess wsX5_hasGuess ({ frames := 0, cells := 0, slots := 0, locals := 0 }) cX5_hasGuess 2 (some .boolean) (dC, dI) (tysA cB cI cJ cZ cS) as 0 (wK cB cI cJ cZ cS a s) [(0, .ref (a 2)), (1, .int x1)] [] (fun x u => x = r ∧ u = (wK cB cI cJ cZ cS a s')) := by
  intro p e s0 m below meth c A E H locs ls hP hD hS hl
  obtain ⟨C, hr, hlocks, hA, hK, hN⟩ := id E
  obtain ⟨hx, hb, hml, hown, hts⟩ := id C
  unfold kX5_hasGuess at hB
  refine lv_iload_n hx hb dX5_hasGuess_0 rfl (lv_at hl 1 rfl) ?_
  refine lv_if_lt (tgt := 16) hx hb dX5_hasGuess_1 (by decide) (fun c1 => ?_) (fun c1 => ?_)
  · have hB := if_p hB c1
    refine lv_iconst (v := 0) hx hb dX5_hasGuess_16 (by decide) ?_
    exact q_zret C hr hlocks (Or.inl rfl) hK hP hD hS (Nat.le_of_ble_eq_true rfl) (Nat.le_of_ble_eq_true rfl) dX5_hasGuess_17 (by cases hB; exact ⟨rfl, rfl⟩)
  · have hB := if_n hB c1
    refine lv_iload_n hx hb dX5_hasGuess_4 rfl (lv_at hl 1 rfl) ?_
    refine lv_aload_n hx hb dX5_hasGuess_5 rfl (lv_at hl 0 rfl) ?_
    refine q_get (v := .int (s.v 3)) C inX5_hasGuess_X5 hK hP 2 rfl rfl 8 (by decide) rfl LX5_hasGuess_44 rfl dX5_hasGuess_6 ?_
    refine lv_icmp_ge (tgt := 16) hx hb dX5_hasGuess_9 (by decide) (fun c2 => ?_) (fun c2 => ?_)
    · have hB := if_p hB c2
      refine lv_iconst (v := 0) hx hb dX5_hasGuess_16 (by decide) ?_
      exact q_zret C hr hlocks (Or.inl rfl) hK hP hD hS (Nat.le_of_ble_eq_true rfl) (Nat.le_of_ble_eq_true rfl) dX5_hasGuess_17 (by cases hB; exact ⟨rfl, rfl⟩)
    · have hB := if_n hB c2
      refine lv_iconst (v := 1) hx hb dX5_hasGuess_12 (by decide) ?_
      refine lv_goto (tgt := 17) hx hb dX5_hasGuess_13 (by decide) ?_
      exact q_zret C hr hlocks (Or.inr rfl) hK hP hD hS (Nat.le_of_ble_eq_true rfl) (Nat.le_of_ble_eq_true rfl) dX5_hasGuess_17 (by cases hB; exact ⟨rfl, rfl⟩)
theorem ckX5_hasGuess {l : Launch} {dC : Nat → ClassId} {dI : Nat → Nat → Nat} {cB cI cJ cZ cS : ClassId} {a : Nat → Nat} {r : Int32} {s' : KS} {s : KS} {x1 : Int32} (hB : kX5_hasGuess s x1 = some (r, s')) : CI l yX5_hasGuess wsX5_hasGuess ({ frames := 0, cells := 0, slots := 0, locals := 0 }) (dC, dI) (tysA cB cI cJ cZ cS) (wK cB cI cJ cZ cS a s) [.ref (a 2), .int x1] (fun x u => x = r ∧ u = (wK cB cI cJ cZ cS a s')) :=
  CI_of (cc := cX5_hasGuess) (maxL := 2) (ret := (some .boolean)) (by decide) rfl (Nat.le_of_ble_eq_true rfl) (bkX5_hasGuess _ _ hB)
theorem LX5_oddsAt_9 : Cond.fieldLink RX5 9 "GuessFerry$Sound" "odds" "[I" ∈ wsX5_oddsAt := (List.mem_cons_of_mem _ (List.mem_append_left _ (List.mem_of_getElem? (i := 0) rfl)))
theorem inX5_oddsAt_X5 : ∀ w ∈ u_ws RX5 TX5 10, w ∈ wsX5_oddsAt := fun _ h => List.mem_cons_of_mem _ (List.mem_append_right _ h)
set_option maxHeartbeats 4000000 in
set_option maxRecDepth 100000 in
theorem bkX5_oddsAt {l : Launch} {dC : Nat → ClassId} {dI : Nat → Nat → Nat} {cB cI cJ cZ cS : ClassId} {a : Nat → Nat} {as : List Value} {r : Int32} {s' : KS} (s : KS) (x1 : Int32) (x2 : Int32) (hB : kX5_oddsAt s x1 x2 = some (r, s')) : BlkI l yX5_oddsAt wsX5_oddsAt ({ frames := 0, cells := 0, slots := 0, locals := 0 }) cX5_oddsAt 3 (some .int) (dC, dI) (tysA cB cI cJ cZ cS) as 0 (wK cB cI cJ cZ cS a s) [(0, .ref (a 2)), (1, .int x1), (2, .int x2)] [] (fun x u => x = r ∧ u = (wK cB cI cJ cZ cS a s')) := by
  intro p e s0 m below meth c A E H locs ls hP hD hS hl
  obtain ⟨C, hr, hlocks, hA, hK, hN⟩ := id E
  obtain ⟨hx, hb, hml, hown, hts⟩ := id C
  unfold kX5_oddsAt at hB
  refine lv_aload_n hx hb dX5_oddsAt_0 rfl (lv_at hl 0 rfl) ?_
  refine q_get (v := .ref (a 3)) C inX5_oddsAt_X5 hK hP 2 rfl rfl 0 (by decide) rfl LX5_oddsAt_9 rfl dX5_oddsAt_1 ?_
  refine lv_iload_n hx hb dX5_oddsAt_4 rfl (lv_at hl 1 rfl) ?_
  refine lv_bipush (v := 6) hx hb dX5_oddsAt_5 (by decide) ?_
  refine lv_imul hx hb dX5_oddsAt_7 ?_
  refine lv_iload_n hx hb dX5_oddsAt_8 rfl (lv_at hl 2 rfl) ?_
  refine lv_iadd hx hb dX5_oddsAt_9 ?_
  obtain ⟨g1, hB⟩ := guard_inv hB
  refine q_iald (x := ((s.f 3) (Int32.toNatClampNeg ((x1 * 6) + x2)))) C hK hP 3 1 rfl rfl (vpb_in g1) dX5_oddsAt_10 rfl ?_
  exact q_iret C hr hlocks hK hP hD hS (Nat.le_of_ble_eq_true rfl) (Nat.le_of_ble_eq_true rfl) dX5_oddsAt_11 (by cases hB; exact ⟨rfl, rfl⟩)
theorem ckX5_oddsAt {l : Launch} {dC : Nat → ClassId} {dI : Nat → Nat → Nat} {cB cI cJ cZ cS : ClassId} {a : Nat → Nat} {r : Int32} {s' : KS} {s : KS} {x1 : Int32} {x2 : Int32} (hB : kX5_oddsAt s x1 x2 = some (r, s')) : CI l yX5_oddsAt wsX5_oddsAt ({ frames := 0, cells := 0, slots := 0, locals := 0 }) (dC, dI) (tysA cB cI cJ cZ cS) (wK cB cI cJ cZ cS a s) [.ref (a 2), .int x1, .int x2] (fun x u => x = r ∧ u = (wK cB cI cJ cZ cS a s')) :=
  CI_of (cc := cX5_oddsAt) (maxL := 3) (ret := (some .int)) (by decide) rfl (Nat.le_of_ble_eq_true rfl) (bkX5_oddsAt _ _ _ hB)
end
section
theorem dX6_copyFrom_0 : decode cX6_copyFrom 0 = .ok (.aload_n 1, 1) := dc1_43 (by decide +kernel)
theorem dX6_copyFrom_1 : decode cX6_copyFrom 1 = .ok (.getfield 9, 3) := dcw_180 (by decide +kernel)
theorem dX6_copyFrom_4 : decode cX6_copyFrom 4 = .ok (.iconst 0, 1) := dc1_3 (by decide +kernel)
theorem dX6_copyFrom_5 : decode cX6_copyFrom 5 = .ok (.aload_n 0, 1) := dc1_42 (by decide +kernel)
theorem dX6_copyFrom_6 : decode cX6_copyFrom 6 = .ok (.getfield 9, 3) := dcw_180 (by decide +kernel)
theorem dX6_copyFrom_9 : decode cX6_copyFrom 9 = .ok (.iconst 0, 1) := dc1_3 (by decide +kernel)
theorem dX6_copyFrom_10 : decode cX6_copyFrom 10 = .ok (.iconst 5, 1) := dc1_8 (by decide +kernel)
theorem dX6_copyFrom_11 : decode cX6_copyFrom 11 = .ok (.invokestatic 40, 3) := dcw_184 (by decide +kernel)
theorem dX6_copyFrom_14 : decode cX6_copyFrom 14 = .ok (.aload_n 1, 1) := dc1_43 (by decide +kernel)
theorem dX6_copyFrom_15 : decode cX6_copyFrom 15 = .ok (.getfield 15, 3) := dcw_180 (by decide +kernel)
theorem dX6_copyFrom_18 : decode cX6_copyFrom 18 = .ok (.iconst 0, 1) := dc1_3 (by decide +kernel)
theorem dX6_copyFrom_19 : decode cX6_copyFrom 19 = .ok (.aload_n 0, 1) := dc1_42 (by decide +kernel)
theorem dX6_copyFrom_20 : decode cX6_copyFrom 20 = .ok (.getfield 15, 3) := dcw_180 (by decide +kernel)
theorem dX6_copyFrom_23 : decode cX6_copyFrom 23 = .ok (.iconst 0, 1) := dc1_3 (by decide +kernel)
theorem dX6_copyFrom_24 : decode cX6_copyFrom 24 = .ok (.iconst 5, 1) := dc1_8 (by decide +kernel)
theorem dX6_copyFrom_25 : decode cX6_copyFrom 25 = .ok (.invokestatic 40, 3) := dcw_184 (by decide +kernel)
theorem dX6_copyFrom_28 : decode cX6_copyFrom 28 = .ok (.aload_n 1, 1) := dc1_43 (by decide +kernel)
theorem dX6_copyFrom_29 : decode cX6_copyFrom 29 = .ok (.getfield 18, 3) := dcw_180 (by decide +kernel)
theorem dX6_copyFrom_32 : decode cX6_copyFrom 32 = .ok (.iconst 0, 1) := dc1_3 (by decide +kernel)
theorem dX6_copyFrom_33 : decode cX6_copyFrom 33 = .ok (.aload_n 0, 1) := dc1_42 (by decide +kernel)
theorem dX6_copyFrom_34 : decode cX6_copyFrom 34 = .ok (.getfield 18, 3) := dcw_180 (by decide +kernel)
theorem dX6_copyFrom_37 : decode cX6_copyFrom 37 = .ok (.iconst 0, 1) := dc1_3 (by decide +kernel)
theorem dX6_copyFrom_38 : decode cX6_copyFrom 38 = .ok (.iconst 5, 1) := dc1_8 (by decide +kernel)
theorem dX6_copyFrom_39 : decode cX6_copyFrom 39 = .ok (.invokestatic 40, 3) := dcw_184 (by decide +kernel)
theorem dX6_copyFrom_42 : decode cX6_copyFrom 42 = .ok (.aload_n 1, 1) := dc1_43 (by decide +kernel)
theorem dX6_copyFrom_43 : decode cX6_copyFrom 43 = .ok (.getfield 21, 3) := dcw_180 (by decide +kernel)
theorem dX6_copyFrom_46 : decode cX6_copyFrom 46 = .ok (.iconst 0, 1) := dc1_3 (by decide +kernel)
theorem dX6_copyFrom_47 : decode cX6_copyFrom 47 = .ok (.aload_n 0, 1) := dc1_42 (by decide +kernel)
theorem dX6_copyFrom_48 : decode cX6_copyFrom 48 = .ok (.getfield 21, 3) := dcw_180 (by decide +kernel)
theorem dX6_copyFrom_51 : decode cX6_copyFrom 51 = .ok (.iconst 0, 1) := dc1_3 (by decide +kernel)
theorem dX6_copyFrom_52 : decode cX6_copyFrom 52 = .ok (.bipush 6, 2) := dcb_16 (n := 6) (by decide +kernel)
theorem dX6_copyFrom_54 : decode cX6_copyFrom 54 = .ok (.invokestatic 40, 3) := dcw_184 (by decide +kernel)
theorem dX6_copyFrom_57 : decode cX6_copyFrom 57 = .ok (.aload_n 1, 1) := dc1_43 (by decide +kernel)
theorem dX6_copyFrom_58 : decode cX6_copyFrom 58 = .ok (.getfield 24, 3) := dcw_180 (by decide +kernel)
theorem dX6_copyFrom_61 : decode cX6_copyFrom 61 = .ok (.iconst 0, 1) := dc1_3 (by decide +kernel)
theorem dX6_copyFrom_62 : decode cX6_copyFrom 62 = .ok (.aload_n 0, 1) := dc1_42 (by decide +kernel)
theorem dX6_copyFrom_63 : decode cX6_copyFrom 63 = .ok (.getfield 24, 3) := dcw_180 (by decide +kernel)
theorem dX6_copyFrom_66 : decode cX6_copyFrom 66 = .ok (.iconst 0, 1) := dc1_3 (by decide +kernel)
theorem dX6_copyFrom_67 : decode cX6_copyFrom 67 = .ok (.bipush 6, 2) := dcb_16 (n := 6) (by decide +kernel)
theorem dX6_copyFrom_69 : decode cX6_copyFrom 69 = .ok (.invokestatic 40, 3) := dcw_184 (by decide +kernel)
theorem dX6_copyFrom_72 : decode cX6_copyFrom 72 = .ok (.aload_n 0, 1) := dc1_42 (by decide +kernel)
theorem dX6_copyFrom_73 : decode cX6_copyFrom 73 = .ok (.aload_n 1, 1) := dc1_43 (by decide +kernel)
theorem dX6_copyFrom_74 : decode cX6_copyFrom 74 = .ok (.getfield 33, 3) := dcw_180 (by decide +kernel)
theorem dX6_copyFrom_77 : decode cX6_copyFrom 77 = .ok (.putfield 33, 3) := dcw_181 (by decide +kernel)
theorem dX6_copyFrom_80 : decode cX6_copyFrom 80 = .ok (.aload_n 0, 1) := dc1_42 (by decide +kernel)
theorem dX6_copyFrom_81 : decode cX6_copyFrom 81 = .ok (.aload_n 1, 1) := dc1_43 (by decide +kernel)
theorem dX6_copyFrom_82 : decode cX6_copyFrom 82 = .ok (.getfield 37, 3) := dcw_180 (by decide +kernel)
theorem dX6_copyFrom_85 : decode cX6_copyFrom 85 = .ok (.putfield 37, 3) := dcw_181 (by decide +kernel)
theorem dX6_copyFrom_88 : decode cX6_copyFrom 88 = .ok (.return_, 1) := dc1_177 (by decide +kernel)
theorem dX7_hasRoomFor_0 : decode cX7_hasRoomFor 0 = .ok (.iload_n 1, 1) := dc1_27 (by decide +kernel)
theorem dX7_hasRoomFor_1 : decode cX7_hasRoomFor 1 = .ok (.aload_n 0, 1) := dc1_42 (by decide +kernel)
theorem dX7_hasRoomFor_2 : decode cX7_hasRoomFor 2 = .ok (.getfield 9, 3) := dcw_180 (by decide +kernel)
theorem dX7_hasRoomFor_5 : decode cX7_hasRoomFor 5 = .ok (.arraylength, 1) := dc1_190 (by decide +kernel)
theorem dX7_hasRoomFor_6 : decode cX7_hasRoomFor 6 = .ok (.aload_n 0, 1) := dc1_42 (by decide +kernel)
theorem dX7_hasRoomFor_7 : decode cX7_hasRoomFor 7 = .ok (.getfield 15, 3) := dcw_180 (by decide +kernel)
theorem dX7_hasRoomFor_10 : decode cX7_hasRoomFor 10 = .ok (.isub, 1) := dc1_100 (by decide +kernel)
theorem dX7_hasRoomFor_11 : decode cX7_hasRoomFor 11 = .ok (.if_icmp .gt 7, 3) := dcs_163 (n := 7) (by decide +kernel)
theorem dX7_hasRoomFor_14 : decode cX7_hasRoomFor 14 = .ok (.iconst 1, 1) := dc1_4 (by decide +kernel)
theorem dX7_hasRoomFor_15 : decode cX7_hasRoomFor 15 = .ok (.goto 4, 3) := dcs_167 (n := 4) (by decide +kernel)
theorem dX7_hasRoomFor_18 : decode cX7_hasRoomFor 18 = .ok (.iconst 0, 1) := dc1_3 (by decide +kernel)
theorem dX7_hasRoomFor_19 : decode cX7_hasRoomFor 19 = .ok (.ireturn, 1) := dc1_172 (by decide +kernel)
theorem dX7_addFour_0 : decode cX7_addFour 0 = .ok (.bipush 24, 2) := dcb_16 (n := 24) (by decide +kernel)
theorem dX7_addFour_2 : decode cX7_addFour 2 = .ok (.istore_n 2, 1) := dc1_61 (by decide +kernel)
theorem dX7_addFour_3 : decode cX7_addFour 3 = .ok (.iload_n 2, 1) := dc1_28 (by decide +kernel)
theorem dX7_addFour_4 : decode cX7_addFour 4 = .ok (.ifCond .lt 44, 3) := dcs_155 (n := 44) (by decide +kernel)
theorem dX7_addFour_7 : decode cX7_addFour 7 = .ok (.aload_n 0, 1) := dc1_42 (by decide +kernel)
theorem dX7_addFour_8 : decode cX7_addFour 8 = .ok (.getfield 15, 3) := dcw_180 (by decide +kernel)
theorem dX7_addFour_11 : decode cX7_addFour 11 = .ok (.aload_n 0, 1) := dc1_42 (by decide +kernel)
theorem dX7_addFour_12 : decode cX7_addFour 12 = .ok (.getfield 9, 3) := dcw_180 (by decide +kernel)
theorem dX7_addFour_15 : decode cX7_addFour 15 = .ok (.arraylength, 1) := dc1_190 (by decide +kernel)
theorem dX7_addFour_16 : decode cX7_addFour 16 = .ok (.if_icmp .ge 26, 3) := dcs_162 (n := 26) (by decide +kernel)
theorem dX7_addFour_19 : decode cX7_addFour 19 = .ok (.aload_n 0, 1) := dc1_42 (by decide +kernel)
theorem dX7_addFour_20 : decode cX7_addFour 20 = .ok (.getfield 9, 3) := dcw_180 (by decide +kernel)
theorem dX7_addFour_23 : decode cX7_addFour 23 = .ok (.aload_n 0, 1) := dc1_42 (by decide +kernel)
theorem dX7_addFour_24 : decode cX7_addFour 24 = .ok (.getfield 15, 3) := dcw_180 (by decide +kernel)
theorem dX7_addFour_27 : decode cX7_addFour 27 = .ok (.iload_n 1, 1) := dc1_27 (by decide +kernel)
theorem dX7_addFour_28 : decode cX7_addFour 28 = .ok (.iload_n 2, 1) := dc1_28 (by decide +kernel)
theorem dX7_addFour_29 : decode cX7_addFour 29 = .ok (.iushr, 1) := dc1_124 (by decide +kernel)
theorem dX7_addFour_30 : decode cX7_addFour 30 = .ok (.i2b, 1) := dc1_145 (by decide +kernel)
theorem dX7_addFour_31 : decode cX7_addFour 31 = .ok (.bastore, 1) := dc1_84 (by decide +kernel)
theorem dX7_addFour_32 : decode cX7_addFour 32 = .ok (.aload_n 0, 1) := dc1_42 (by decide +kernel)
theorem dX7_addFour_33 : decode cX7_addFour 33 = .ok (.dup, 1) := dc1_89 (by decide +kernel)
theorem dX7_addFour_34 : decode cX7_addFour 34 = .ok (.getfield 15, 3) := dcw_180 (by decide +kernel)
theorem dX7_addFour_37 : decode cX7_addFour 37 = .ok (.iconst 1, 1) := dc1_4 (by decide +kernel)
theorem dX7_addFour_38 : decode cX7_addFour 38 = .ok (.iadd, 1) := dc1_96 (by decide +kernel)
theorem dX7_addFour_39 : decode cX7_addFour 39 = .ok (.putfield 15, 3) := dcw_181 (by decide +kernel)
theorem dX7_addFour_42 : decode cX7_addFour 42 = .ok (.iinc 2 (-8), 3) := dc_iinc (m := 248) (by decide +kernel)
theorem dX7_addFour_45 : decode cX7_addFour 45 = .ok (.goto (-42), 3) := dcs_167 (n := 65494) (by decide +kernel)
theorem dX7_addFour_48 : decode cX7_addFour 48 = .ok (.return_, 1) := dc1_177 (by decide +kernel)
theorem dX7_byteAt_0 : decode cX7_byteAt 0 = .ok (.iload_n 1, 1) := dc1_27 (by decide +kernel)
theorem dX7_byteAt_1 : decode cX7_byteAt 1 = .ok (.ifCond .lt 24, 3) := dcs_155 (n := 24) (by decide +kernel)
theorem dX7_byteAt_4 : decode cX7_byteAt 4 = .ok (.iload_n 1, 1) := dc1_27 (by decide +kernel)
theorem dX7_byteAt_5 : decode cX7_byteAt 5 = .ok (.aload_n 0, 1) := dc1_42 (by decide +kernel)
theorem dX7_byteAt_6 : decode cX7_byteAt 6 = .ok (.getfield 15, 3) := dcw_180 (by decide +kernel)
theorem dX7_byteAt_9 : decode cX7_byteAt 9 = .ok (.if_icmp .ge 16, 3) := dcs_162 (n := 16) (by decide +kernel)
theorem dX7_byteAt_12 : decode cX7_byteAt 12 = .ok (.aload_n 0, 1) := dc1_42 (by decide +kernel)
theorem dX7_byteAt_13 : decode cX7_byteAt 13 = .ok (.getfield 9, 3) := dcw_180 (by decide +kernel)
theorem dX7_byteAt_16 : decode cX7_byteAt 16 = .ok (.iload_n 1, 1) := dc1_27 (by decide +kernel)
theorem dX7_byteAt_17 : decode cX7_byteAt 17 = .ok (.baload, 1) := dc1_51 (by decide +kernel)
theorem dX7_byteAt_18 : decode cX7_byteAt 18 = .ok (.sipush 255, 3) := dcs_17 (n := 255) (by decide +kernel)
theorem dX7_byteAt_21 : decode cX7_byteAt 21 = .ok (.iand, 1) := dc1_126 (by decide +kernel)
theorem dX7_byteAt_22 : decode cX7_byteAt 22 = .ok (.goto 4, 3) := dcs_167 (n := 4) (by decide +kernel)
theorem dX7_byteAt_25 : decode cX7_byteAt 25 = .ok (.iconst (-1), 1) := dc1_2 (by decide +kernel)
theorem dX7_byteAt_26 : decode cX7_byteAt 26 = .ok (.ireturn, 1) := dc1_172 (by decide +kernel)
theorem dX8_add_0 : decode cX8_add 0 = .ok (.aload_n 0, 1) := dc1_42 (by decide +kernel)
theorem dX8_add_1 : decode cX8_add 1 = .ok (.getfield 35, 3) := dcw_180 (by decide +kernel)
theorem dX8_add_4 : decode cX8_add 4 = .ok (.bipush 20, 2) := dcb_16 (n := 20) (by decide +kernel)
theorem dX8_add_6 : decode cX8_add 6 = .ok (.if_icmp .lt 5, 3) := dcs_161 (n := 5) (by decide +kernel)
theorem dX8_add_9 : decode cX8_add 9 = .ok (.iconst (-1), 1) := dc1_2 (by decide +kernel)
theorem dX8_add_10 : decode cX8_add 10 = .ok (.ireturn, 1) := dc1_172 (by decide +kernel)
theorem dX8_add_11 : decode cX8_add 11 = .ok (.aload_n 0, 1) := dc1_42 (by decide +kernel)
theorem dX8_add_12 : decode cX8_add 12 = .ok (.getfield 9, 3) := dcw_180 (by decide +kernel)
theorem dX8_add_15 : decode cX8_add 15 = .ok (.aload_n 0, 1) := dc1_42 (by decide +kernel)
theorem dX8_add_16 : decode cX8_add 16 = .ok (.getfield 35, 3) := dcw_180 (by decide +kernel)
theorem dX8_add_19 : decode cX8_add 19 = .ok (.iload_n 1, 1) := dc1_27 (by decide +kernel)
theorem dX8_add_20 : decode cX8_add 20 = .ok (.iastore, 1) := dc1_79 (by decide +kernel)
theorem dX8_add_21 : decode cX8_add 21 = .ok (.aload_n 0, 1) := dc1_42 (by decide +kernel)
theorem dX8_add_22 : decode cX8_add 22 = .ok (.getfield 15, 3) := dcw_180 (by decide +kernel)
theorem dX8_add_25 : decode cX8_add 25 = .ok (.aload_n 0, 1) := dc1_42 (by decide +kernel)
theorem dX8_add_26 : decode cX8_add 26 = .ok (.getfield 35, 3) := dcw_180 (by decide +kernel)
theorem dX8_add_29 : decode cX8_add 29 = .ok (.iload_n 2, 1) := dc1_28 (by decide +kernel)
theorem dX8_add_30 : decode cX8_add 30 = .ok (.iastore, 1) := dc1_79 (by decide +kernel)
theorem dX8_add_31 : decode cX8_add 31 = .ok (.aload_n 0, 1) := dc1_42 (by decide +kernel)
theorem dX8_add_32 : decode cX8_add 32 = .ok (.dup, 1) := dc1_89 (by decide +kernel)
theorem dX8_add_33 : decode cX8_add 33 = .ok (.getfield 35, 3) := dcw_180 (by decide +kernel)
theorem dX8_add_36 : decode cX8_add 36 = .ok (.iconst 1, 1) := dc1_4 (by decide +kernel)
theorem dX8_add_37 : decode cX8_add 37 = .ok (.iadd, 1) := dc1_96 (by decide +kernel)
theorem dX8_add_38 : decode cX8_add 38 = .ok (.putfield 35, 3) := dcw_181 (by decide +kernel)
theorem dX8_add_41 : decode cX8_add 41 = .ok (.aload_n 0, 1) := dc1_42 (by decide +kernel)
theorem dX8_add_42 : decode cX8_add 42 = .ok (.getfield 35, 3) := dcw_180 (by decide +kernel)
theorem dX8_add_45 : decode cX8_add 45 = .ok (.iconst 1, 1) := dc1_4 (by decide +kernel)
theorem dX8_add_46 : decode cX8_add 46 = .ok (.isub, 1) := dc1_100 (by decide +kernel)
theorem dX8_add_47 : decode cX8_add 47 = .ok (.ireturn, 1) := dc1_172 (by decide +kernel)
theorem dX8_areSuch_0 : decode cX8_areSuch 0 = .ok (.iload_n 1, 1) := dc1_27 (by decide +kernel)
theorem dX8_areSuch_1 : decode cX8_areSuch 1 = .ok (.ifCond .lt 24, 3) := dcs_155 (n := 24) (by decide +kernel)
theorem dX8_areSuch_4 : decode cX8_areSuch 4 = .ok (.iload_n 1, 1) := dc1_27 (by decide +kernel)
theorem dX8_areSuch_5 : decode cX8_areSuch 5 = .ok (.aload_n 0, 1) := dc1_42 (by decide +kernel)
theorem dX8_areSuch_6 : decode cX8_areSuch 6 = .ok (.getfield 35, 3) := dcw_180 (by decide +kernel)
theorem dX8_areSuch_9 : decode cX8_areSuch 9 = .ok (.if_icmp .gt 16, 3) := dcs_163 (n := 16) (by decide +kernel)
theorem dX8_areSuch_12 : decode cX8_areSuch 12 = .ok (.iload_n 2, 1) := dc1_28 (by decide +kernel)
theorem dX8_areSuch_13 : decode cX8_areSuch 13 = .ok (.ifCond .lt 12, 3) := dcs_155 (n := 12) (by decide +kernel)
theorem dX8_areSuch_16 : decode cX8_areSuch 16 = .ok (.iload_n 2, 1) := dc1_28 (by decide +kernel)
theorem dX8_areSuch_17 : decode cX8_areSuch 17 = .ok (.iconst 3, 1) := dc1_6 (by decide +kernel)
theorem dX8_areSuch_18 : decode cX8_areSuch 18 = .ok (.if_icmp .gt 7, 3) := dcs_163 (n := 7) (by decide +kernel)
theorem dX8_areSuch_21 : decode cX8_areSuch 21 = .ok (.iconst 1, 1) := dc1_4 (by decide +kernel)
theorem dX8_areSuch_22 : decode cX8_areSuch 22 = .ok (.goto 4, 3) := dcs_167 (n := 4) (by decide +kernel)
theorem dX8_areSuch_25 : decode cX8_areSuch 25 = .ok (.iconst 0, 1) := dc1_3 (by decide +kernel)
theorem dX8_areSuch_26 : decode cX8_areSuch 26 = .ok (.ireturn, 1) := dc1_172 (by decide +kernel)
theorem dX8_withWave_0 : decode cX8_withWave 0 = .ok (.iconst 0, 1) := dc1_3 (by decide +kernel)
theorem dX8_withWave_1 : decode cX8_withWave 1 = .ok (.istore 4, 2) := dcu_54 (by decide +kernel)
theorem dX8_withWave_3 : decode cX8_withWave 3 = .ok (.iconst 0, 1) := dc1_3 (by decide +kernel)
theorem dX8_withWave_4 : decode cX8_withWave 4 = .ok (.istore 5, 2) := dcu_54 (by decide +kernel)
theorem dX8_withWave_6 : decode cX8_withWave 6 = .ok (.iload 5, 2) := dcu_21 (by decide +kernel)
theorem dX8_withWave_8 : decode cX8_withWave 8 = .ok (.bipush 6, 2) := dcb_16 (n := 6) (by decide +kernel)
theorem dX8_withWave_10 : decode cX8_withWave 10 = .ok (.if_icmp .ge 74, 3) := dcs_162 (n := 74) (by decide +kernel)
theorem dX8_withWave_13 : decode cX8_withWave 13 = .ok (.iload_n 1, 1) := dc1_27 (by decide +kernel)
theorem dX8_withWave_14 : decode cX8_withWave 14 = .ok (.bipush 6, 2) := dcb_16 (n := 6) (by decide +kernel)
theorem dX8_withWave_16 : decode cX8_withWave 16 = .ok (.imul, 1) := dc1_104 (by decide +kernel)
theorem dX8_withWave_17 : decode cX8_withWave 17 = .ok (.iload 5, 2) := dcu_21 (by decide +kernel)
theorem dX8_withWave_19 : decode cX8_withWave 19 = .ok (.iadd, 1) := dc1_96 (by decide +kernel)
theorem dX8_withWave_20 : decode cX8_withWave 20 = .ok (.istore 6, 2) := dcu_54 (by decide +kernel)
theorem dX8_withWave_22 : decode cX8_withWave 22 = .ok (.aload_n 0, 1) := dc1_42 (by decide +kernel)
theorem dX8_withWave_23 : decode cX8_withWave 23 = .ok (.getfield 18, 3) := dcw_180 (by decide +kernel)
theorem dX8_withWave_26 : decode cX8_withWave 26 = .ok (.iload 6, 2) := dcu_21 (by decide +kernel)
theorem dX8_withWave_28 : decode cX8_withWave 28 = .ok (.iaload, 1) := dc1_46 (by decide +kernel)
theorem dX8_withWave_29 : decode cX8_withWave 29 = .ok (.ifCond .le 49, 3) := dcs_158 (n := 49) (by decide +kernel)
theorem dX8_withWave_32 : decode cX8_withWave 32 = .ok (.aload_n 0, 1) := dc1_42 (by decide +kernel)
theorem dX8_withWave_33 : decode cX8_withWave 33 = .ok (.getfield 21, 3) := dcw_180 (by decide +kernel)
theorem dX8_withWave_36 : decode cX8_withWave 36 = .ok (.iload 6, 2) := dcu_21 (by decide +kernel)
theorem dX8_withWave_38 : decode cX8_withWave 38 = .ok (.iaload, 1) := dc1_46 (by decide +kernel)
theorem dX8_withWave_39 : decode cX8_withWave 39 = .ok (.iload_n 2, 1) := dc1_28 (by decide +kernel)
theorem dX8_withWave_40 : decode cX8_withWave 40 = .ok (.if_icmp .gt 38, 3) := dcs_163 (n := 38) (by decide +kernel)
theorem dX8_withWave_43 : decode cX8_withWave 43 = .ok (.iload 4, 2) := dcu_21 (by decide +kernel)
theorem dX8_withWave_45 : decode cX8_withWave 45 = .ok (.aload_n 0, 1) := dc1_42 (by decide +kernel)
theorem dX8_withWave_46 : decode cX8_withWave 46 = .ok (.getfield 24, 3) := dcw_180 (by decide +kernel)
theorem dX8_withWave_49 : decode cX8_withWave 49 = .ok (.iload_n 2, 1) := dc1_28 (by decide +kernel)
theorem dX8_withWave_50 : decode cX8_withWave 50 = .ok (.aload_n 0, 1) := dc1_42 (by decide +kernel)
theorem dX8_withWave_51 : decode cX8_withWave 51 = .ok (.getfield 21, 3) := dcw_180 (by decide +kernel)
theorem dX8_withWave_54 : decode cX8_withWave 54 = .ok (.iload 6, 2) := dcu_21 (by decide +kernel)
theorem dX8_withWave_56 : decode cX8_withWave 56 = .ok (.iaload, 1) := dc1_46 (by decide +kernel)
theorem dX8_withWave_57 : decode cX8_withWave 57 = .ok (.isub, 1) := dc1_100 (by decide +kernel)
theorem dX8_withWave_58 : decode cX8_withWave 58 = .ok (.iaload, 1) := dc1_46 (by decide +kernel)
theorem dX8_withWave_59 : decode cX8_withWave 59 = .ok (.iload_n 3, 1) := dc1_29 (by decide +kernel)
theorem dX8_withWave_60 : decode cX8_withWave 60 = .ok (.ifCond .eq 13, 3) := dcs_153 (n := 13) (by decide +kernel)
theorem dX8_withWave_63 : decode cX8_withWave 63 = .ok (.aload_n 0, 1) := dc1_42 (by decide +kernel)
theorem dX8_withWave_64 : decode cX8_withWave 64 = .ok (.getfield 18, 3) := dcw_180 (by decide +kernel)
theorem dX8_withWave_67 : decode cX8_withWave 67 = .ok (.iload 6, 2) := dcu_21 (by decide +kernel)
theorem dX8_withWave_69 : decode cX8_withWave 69 = .ok (.iaload, 1) := dc1_46 (by decide +kernel)
theorem dX8_withWave_70 : decode cX8_withWave 70 = .ok (.goto 4, 3) := dcs_167 (n := 4) (by decide +kernel)
theorem dX8_withWave_73 : decode cX8_withWave 73 = .ok (.iconst 1, 1) := dc1_4 (by decide +kernel)
theorem dX8_withWave_74 : decode cX8_withWave 74 = .ok (.imul, 1) := dc1_104 (by decide +kernel)
theorem dX8_withWave_75 : decode cX8_withWave 75 = .ok (.iadd, 1) := dc1_96 (by decide +kernel)
theorem dX8_withWave_76 : decode cX8_withWave 76 = .ok (.istore 4, 2) := dcu_54 (by decide +kernel)
theorem dX8_withWave_78 : decode cX8_withWave 78 = .ok (.iinc 5 1, 3) := dc_iinc (m := 1) (by decide +kernel)
theorem dX8_withWave_81 : decode cX8_withWave 81 = .ok (.goto (-75), 3) := dcs_167 (n := 65461) (by decide +kernel)
theorem dX8_withWave_84 : decode cX8_withWave 84 = .ok (.iload 4, 2) := dcu_21 (by decide +kernel)
theorem dX8_withWave_86 : decode cX8_withWave 86 = .ok (.ireturn, 1) := dc1_172 (by decide +kernel)
theorem dX8_upTo_0 : decode cX8_upTo 0 = .ok (.iconst 0, 1) := dc1_3 (by decide +kernel)
theorem dX8_upTo_1 : decode cX8_upTo 1 = .ok (.istore_n 2, 1) := dc1_61 (by decide +kernel)
theorem dX8_upTo_2 : decode cX8_upTo 2 = .ok (.iconst 0, 1) := dc1_3 (by decide +kernel)
theorem dX8_upTo_3 : decode cX8_upTo 3 = .ok (.istore_n 3, 1) := dc1_62 (by decide +kernel)
theorem dX8_upTo_4 : decode cX8_upTo 4 = .ok (.iload_n 3, 1) := dc1_29 (by decide +kernel)
theorem dX8_upTo_5 : decode cX8_upTo 5 = .ok (.iload_n 1, 1) := dc1_27 (by decide +kernel)
theorem dX8_upTo_6 : decode cX8_upTo 6 = .ok (.if_icmp .gt 23, 3) := dcs_163 (n := 23) (by decide +kernel)
theorem dX8_upTo_9 : decode cX8_upTo 9 = .ok (.iload_n 3, 1) := dc1_29 (by decide +kernel)
theorem dX8_upTo_10 : decode cX8_upTo 10 = .ok (.iconst 3, 1) := dc1_6 (by decide +kernel)
theorem dX8_upTo_11 : decode cX8_upTo 11 = .ok (.if_icmp .gt 18, 3) := dcs_163 (n := 18) (by decide +kernel)
theorem dX8_upTo_14 : decode cX8_upTo 14 = .ok (.iload_n 2, 1) := dc1_28 (by decide +kernel)
theorem dX8_upTo_15 : decode cX8_upTo 15 = .ok (.aload_n 0, 1) := dc1_42 (by decide +kernel)
theorem dX8_upTo_16 : decode cX8_upTo 16 = .ok (.getfield 24, 3) := dcw_180 (by decide +kernel)
theorem dX8_upTo_19 : decode cX8_upTo 19 = .ok (.iload_n 3, 1) := dc1_29 (by decide +kernel)
theorem dX8_upTo_20 : decode cX8_upTo 20 = .ok (.iaload, 1) := dc1_46 (by decide +kernel)
theorem dX8_upTo_21 : decode cX8_upTo 21 = .ok (.iadd, 1) := dc1_96 (by decide +kernel)
theorem dX8_upTo_22 : decode cX8_upTo 22 = .ok (.istore_n 2, 1) := dc1_61 (by decide +kernel)
theorem dX8_upTo_23 : decode cX8_upTo 23 = .ok (.iinc 3 1, 3) := dc_iinc (m := 1) (by decide +kernel)
theorem dX8_upTo_26 : decode cX8_upTo 26 = .ok (.goto (-22), 3) := dcs_167 (n := 65514) (by decide +kernel)
theorem dX8_upTo_29 : decode cX8_upTo 29 = .ok (.iload_n 2, 1) := dc1_28 (by decide +kernel)
theorem dX8_upTo_30 : decode cX8_upTo 30 = .ok (.ireturn, 1) := dc1_172 (by decide +kernel)
theorem ggX8_fittingWith_X8_upTo : GoodIn wsX8_fittingWith wsX8_upTo := gi_sub (fun w h => List.mem_cons_of_mem _ (List.mem_append_left _ (List.mem_append_right _ h))) gd_wsX8_upTo
set_option maxRecDepth 20000 in
theorem gX8_fittingWith_X8_upTo : GoodIn wsX8_fittingWith (wsV RX8 76 RX8 yX8_upTo wsX8_upTo) := goodIn_app (goodIn_r _ [3, 4, 5, 6] (by decide +kernel) (by decide +kernel)) ggX8_fittingWith_X8_upTo
theorem dX8_fittingWith_0 : decode cX8_fittingWith 0 = .ok (.iload_n 1, 1) := dc1_27 (by decide +kernel)
theorem dX8_fittingWith_1 : decode cX8_fittingWith 1 = .ok (.bipush 6, 2) := dcb_16 (n := 6) (by decide +kernel)
theorem dX8_fittingWith_3 : decode cX8_fittingWith 3 = .ok (.imul, 1) := dc1_104 (by decide +kernel)
theorem dX8_fittingWith_4 : decode cX8_fittingWith 4 = .ok (.iload_n 2, 1) := dc1_28 (by decide +kernel)
theorem dX8_fittingWith_5 : decode cX8_fittingWith 5 = .ok (.iadd, 1) := dc1_96 (by decide +kernel)
theorem dX8_fittingWith_6 : decode cX8_fittingWith 6 = .ok (.istore 4, 2) := dcu_54 (by decide +kernel)
theorem dX8_fittingWith_8 : decode cX8_fittingWith 8 = .ok (.aload_n 0, 1) := dc1_42 (by decide +kernel)
theorem dX8_fittingWith_9 : decode cX8_fittingWith 9 = .ok (.getfield 18, 3) := dcw_180 (by decide +kernel)
theorem dX8_fittingWith_12 : decode cX8_fittingWith 12 = .ok (.iload 4, 2) := dcu_21 (by decide +kernel)
theorem dX8_fittingWith_14 : decode cX8_fittingWith 14 = .ok (.iaload, 1) := dc1_46 (by decide +kernel)
theorem dX8_fittingWith_15 : decode cX8_fittingWith 15 = .ok (.ifCond .le 19, 3) := dcs_158 (n := 19) (by decide +kernel)
theorem dX8_fittingWith_18 : decode cX8_fittingWith 18 = .ok (.aload_n 0, 1) := dc1_42 (by decide +kernel)
theorem dX8_fittingWith_19 : decode cX8_fittingWith 19 = .ok (.iload_n 3, 1) := dc1_29 (by decide +kernel)
theorem dX8_fittingWith_20 : decode cX8_fittingWith 20 = .ok (.aload_n 0, 1) := dc1_42 (by decide +kernel)
theorem dX8_fittingWith_21 : decode cX8_fittingWith 21 = .ok (.getfield 21, 3) := dcw_180 (by decide +kernel)
theorem dX8_fittingWith_24 : decode cX8_fittingWith 24 = .ok (.iload 4, 2) := dcu_21 (by decide +kernel)
theorem dX8_fittingWith_26 : decode cX8_fittingWith 26 = .ok (.iaload, 1) := dc1_46 (by decide +kernel)
theorem dX8_fittingWith_27 : decode cX8_fittingWith 27 = .ok (.isub, 1) := dc1_100 (by decide +kernel)
theorem dX8_fittingWith_28 : decode cX8_fittingWith 28 = .ok (.invokevirtual 76, 3) := dcw_182 (by decide +kernel)
theorem dX8_fittingWith_31 : decode cX8_fittingWith 31 = .ok (.goto 4, 3) := dcs_167 (n := 4) (by decide +kernel)
theorem dX8_fittingWith_34 : decode cX8_fittingWith 34 = .ok (.iconst 0, 1) := dc1_3 (by decide +kernel)
theorem dX8_fittingWith_35 : decode cX8_fittingWith 35 = .ok (.ireturn, 1) := dc1_172 (by decide +kernel)
theorem dX9_isBlank_0 : decode cX9_isBlank 0 = .ok (.iload_n 0, 1) := dc1_26 (by decide +kernel)
theorem dX9_isBlank_1 : decode cX9_isBlank 1 = .ok (.bipush 9, 2) := dcb_16 (n := 9) (by decide +kernel)
theorem dX9_isBlank_3 : decode cX9_isBlank 3 = .ok (.if_icmp .eq 21, 3) := dcs_159 (n := 21) (by decide +kernel)
theorem dX9_isBlank_6 : decode cX9_isBlank 6 = .ok (.iload_n 0, 1) := dc1_26 (by decide +kernel)
theorem dX9_isBlank_7 : decode cX9_isBlank 7 = .ok (.bipush 10, 2) := dcb_16 (n := 10) (by decide +kernel)
theorem dX9_isBlank_9 : decode cX9_isBlank 9 = .ok (.if_icmp .eq 15, 3) := dcs_159 (n := 15) (by decide +kernel)
theorem dX9_isBlank_12 : decode cX9_isBlank 12 = .ok (.iload_n 0, 1) := dc1_26 (by decide +kernel)
theorem dX9_isBlank_13 : decode cX9_isBlank 13 = .ok (.bipush 13, 2) := dcb_16 (n := 13) (by decide +kernel)
theorem dX9_isBlank_15 : decode cX9_isBlank 15 = .ok (.if_icmp .eq 9, 3) := dcs_159 (n := 9) (by decide +kernel)
theorem dX9_isBlank_18 : decode cX9_isBlank 18 = .ok (.iload_n 0, 1) := dc1_26 (by decide +kernel)
theorem dX9_isBlank_19 : decode cX9_isBlank 19 = .ok (.bipush 32, 2) := dcb_16 (n := 32) (by decide +kernel)
theorem dX9_isBlank_21 : decode cX9_isBlank 21 = .ok (.if_icmp .ne 7, 3) := dcs_160 (n := 7) (by decide +kernel)
theorem dX9_isBlank_24 : decode cX9_isBlank 24 = .ok (.iconst 1, 1) := dc1_4 (by decide +kernel)
theorem dX9_isBlank_25 : decode cX9_isBlank 25 = .ok (.goto 4, 3) := dcs_167 (n := 4) (by decide +kernel)
theorem dX9_isBlank_28 : decode cX9_isBlank 28 = .ok (.iconst 0, 1) := dc1_3 (by decide +kernel)
theorem dX9_isBlank_29 : decode cX9_isBlank 29 = .ok (.ireturn, 1) := dc1_172 (by decide +kernel)
set_option maxHeartbeats 4000000 in
set_option maxRecDepth 100000 in
theorem bkX5_oddsAt_d {l : Launch} {dC : Nat → ClassId} {dI : Nat → Nat → Nat} {cB cI cJ cZ cS : ClassId} {a : Nat → Nat} {as : List Value} {r : Int32} {s' : KS} (s : KS) (x1 : Int32) (x2 : Int32) (hB : kX5_oddsAt_d s x1 x2 = some (r, s')) : BlkI l yX5_oddsAt wsX5_oddsAt ({ frames := 0, cells := 0, slots := 0, locals := 0 }) cX5_oddsAt 3 (some .int) (dC, dI) (tysA cB cI cJ cZ cS) as 0 (wK cB cI cJ cZ cS a s) [(0, .ref (a 15)), (1, .int x1), (2, .int x2)] [] (fun x u => x = r ∧ u = (wK cB cI cJ cZ cS a s')) := by
  intro p e s0 m below meth c A E H locs ls hP hD hS hl
  obtain ⟨C, hr, hlocks, hA, hK, hN⟩ := id E
  obtain ⟨hx, hb, hml, hown, hts⟩ := id C
  unfold kX5_oddsAt_d at hB
  refine lv_aload_n hx hb dX5_oddsAt_0 rfl (lv_at hl 0 rfl) ?_
  refine q_get (v := .ref (a 16)) C inX5_oddsAt_X5 hK hP 15 rfl rfl 0 (by decide) rfl LX5_oddsAt_9 rfl dX5_oddsAt_1 ?_
  refine lv_iload_n hx hb dX5_oddsAt_4 rfl (lv_at hl 1 rfl) ?_
  refine lv_bipush (v := 6) hx hb dX5_oddsAt_5 (by decide) ?_
  refine lv_imul hx hb dX5_oddsAt_7 ?_
  refine lv_iload_n hx hb dX5_oddsAt_8 rfl (lv_at hl 2 rfl) ?_
  refine lv_iadd hx hb dX5_oddsAt_9 ?_
  obtain ⟨g1, hB⟩ := guard_inv hB
  refine q_iald (x := ((s.f 16) (Int32.toNatClampNeg ((x1 * 6) + x2)))) C hK hP 16 1 rfl rfl (vpb_in g1) dX5_oddsAt_10 rfl ?_
  exact q_iret C hr hlocks hK hP hD hS (Nat.le_of_ble_eq_true rfl) (Nat.le_of_ble_eq_true rfl) dX5_oddsAt_11 (by cases hB; exact ⟨rfl, rfl⟩)
theorem ckX5_oddsAt_d {l : Launch} {dC : Nat → ClassId} {dI : Nat → Nat → Nat} {cB cI cJ cZ cS : ClassId} {a : Nat → Nat} {r : Int32} {s' : KS} {s : KS} {x1 : Int32} {x2 : Int32} (hB : kX5_oddsAt_d s x1 x2 = some (r, s')) : CI l yX5_oddsAt wsX5_oddsAt ({ frames := 0, cells := 0, slots := 0, locals := 0 }) (dC, dI) (tysA cB cI cJ cZ cS) (wK cB cI cJ cZ cS a s) [.ref (a 15), .int x1, .int x2] (fun x u => x = r ∧ u = (wK cB cI cJ cZ cS a s')) :=
  CI_of (cc := cX5_oddsAt) (maxL := 3) (ret := (some .int)) (by decide) rfl (Nat.le_of_ble_eq_true rfl) (bkX5_oddsAt_d _ _ _ hB)
theorem LX6_copyFrom_15 : Cond.fieldLink RX6 15 "GuessFerry$Standing" "buoys" "[I" ∈ wsX6_copyFrom := (List.mem_cons_of_mem _ (List.mem_append_left _ (List.mem_of_getElem? (i := 5) rfl)))
theorem LX6_copyFrom_18 : Cond.fieldLink RX6 18 "GuessFerry$Standing" "shifted" "[I" ∈ wsX6_copyFrom := (List.mem_cons_of_mem _ (List.mem_append_left _ (List.mem_of_getElem? (i := 6) rfl)))
theorem LX6_copyFrom_21 : Cond.fieldLink RX6 21 "GuessFerry$Standing" "status" "[I" ∈ wsX6_copyFrom := (List.mem_cons_of_mem _ (List.mem_append_left _ (List.mem_of_getElem? (i := 7) rfl)))
theorem LX6_copyFrom_24 : Cond.fieldLink RX6 24 "GuessFerry$Standing" "goes" "[I" ∈ wsX6_copyFrom := (List.mem_cons_of_mem _ (List.mem_append_left _ (List.mem_of_getElem? (i := 8) rfl)))
theorem LX6_copyFrom_33 : Cond.fieldLink RX6 33 "GuessFerry$Standing" "year" "I" ∈ wsX6_copyFrom := (List.mem_cons_of_mem _ (List.mem_append_left _ (List.mem_of_getElem? (i := 9) rfl)))
theorem LX6_copyFrom_37 : Cond.fieldLink RX6 37 "GuessFerry$Standing" "paid" "I" ∈ wsX6_copyFrom := (List.mem_cons_of_mem _ (List.mem_append_left _ (List.mem_of_getElem? (i := 10) rfl)))
theorem LX6_copyFrom_9 : Cond.fieldLink RX6 9 "GuessFerry$Standing" "found" "[I" ∈ wsX6_copyFrom := (List.mem_cons_of_mem _ (List.mem_append_left _ (List.mem_of_getElem? (i := 0) rfl)))
theorem LX6_copyFrom_A40 : Cond.methodLink RX6 40 arraycopyName ∈ wsX6_copyFrom := (List.mem_cons_of_mem _ (List.mem_append_left _ (List.mem_of_getElem? (i := 1) rfl)))
theorem LX6_copyFrom_AI : Cond.initialized "java/lang/System" ∈ wsX6_copyFrom := (List.mem_cons_of_mem _ (List.mem_append_left _ (List.mem_of_getElem? (i := 4) rfl)))
theorem LX6_copyFrom_AN : Cond.native arraycopyName ∈ wsX6_copyFrom := (List.mem_cons_of_mem _ (List.mem_append_left _ (List.mem_of_getElem? (i := 2) rfl)))
theorem LX6_copyFrom_AS : Cond.static arraycopyName ∈ wsX6_copyFrom := (List.mem_cons_of_mem _ (List.mem_append_left _ (List.mem_of_getElem? (i := 3) rfl)))
theorem inX6_copyFrom_X6 : ∀ w ∈ u_ws RX6 TX6 7, w ∈ wsX6_copyFrom := fun _ h => List.mem_cons_of_mem _ (List.mem_append_right _ h)
set_option maxHeartbeats 4000000 in
set_option maxRecDepth 100000 in
theorem bkX6_copyFrom {l : Launch} {dC : Nat → ClassId} {dI : Nat → Nat → Nat} {cB cI cJ cZ cS : ClassId} {b b2 : Nat → Nat} {as : List Value} {s' : DS} (s : DS) (hB : kX6_copyFrom s = some s') : BlkV l yX6_copyFrom wsX6_copyFrom ({ frames := 1, cells := 0, slots := 0, locals := 64 }) cX6_copyFrom 2 none (dC, dI) (tysA cB cI cJ cZ cS) as 0 (wDD cI b b2 s) [(0, .ref (b 0)), (1, .ref (b2 0))] [] (fun u => u = (wDD cI b b2 s')) := by
  intro p e s0 m below meth c A E H locs ls hP hD hS hl
  obtain ⟨C, hr, hlocks, hA, hK, hN⟩ := id E
  obtain ⟨hx, hb, hml, hown, hts⟩ := id C
  unfold kX6_copyFrom at hB
  refine lv_aload_n hx hb dX6_copyFrom_0 rfl (lv_at hl 1 rfl) ?_
  refine q_get (v := .ref (b2 1)) C inX6_copyFrom_X6 hK hP 0 rfl rfl 0 (by decide) rfl LX6_copyFrom_9 rfl dX6_copyFrom_1 ?_
  refine lv_iconst (v := 0) hx hb dX6_copyFrom_4 (by decide) ?_
  refine lv_aload_n hx hb dX6_copyFrom_5 rfl (lv_at hl 0 rfl) ?_
  refine q_get (v := .ref (b 1)) C inX6_copyFrom_X6 hK hP 6 rfl rfl 0 (by decide) rfl LX6_copyFrom_9 rfl dX6_copyFrom_6 ?_
  refine lv_iconst (v := 0) hx hb dX6_copyFrom_9 (by decide) ?_
  refine lv_iconst (v := 5) hx hb dX6_copyFrom_10 (by decide) ?_
  obtain ⟨s1, hs2, hB⟩ := letS_inv hB
  refine va_copyi hx hb (hml.trans hl.1.symm) hown (hts _ LX6_copyFrom_A40) (hts _ LX6_copyFrom_AN) (hts _ LX6_copyFrom_AS) (hts _ LX6_copyFrom_AI) hK hP hD hS 1 7 1 1 rfl rfl rfl rfl rfl (by decide +kernel) (by decide +kernel) (by decide +kernel) (by decide +kernel) (by decide +kernel) (fun _ _ => rfl) (Nat.le_of_ble_eq_true rfl) (by decide +kernel) dX6_copyFrom_11 (fun H locs hP hD hS => ?_)
  have hP : va_P (dC, dI) vwCl (wDD cI b b2 s1) H := by subst hs2; exact hP
  have hD : va_D A (wDD cI b b2 s1) := by subst hs2; exact hD
  refine lv_aload_n hx hb dX6_copyFrom_14 rfl (lv_at hl 1 rfl) ?_
  refine q_get (v := .ref (b2 2)) C inX6_copyFrom_X6 hK hP 0 rfl rfl 1 (by decide) rfl LX6_copyFrom_15 rfl dX6_copyFrom_15 ?_
  refine lv_iconst (v := 0) hx hb dX6_copyFrom_18 (by decide) ?_
  refine lv_aload_n hx hb dX6_copyFrom_19 rfl (lv_at hl 0 rfl) ?_
  refine q_get (v := .ref (b 2)) C inX6_copyFrom_X6 hK hP 6 rfl rfl 1 (by decide) rfl LX6_copyFrom_15 rfl dX6_copyFrom_20 ?_
  refine lv_iconst (v := 0) hx hb dX6_copyFrom_23 (by decide) ?_
  refine lv_iconst (v := 5) hx hb dX6_copyFrom_24 (by decide) ?_
  obtain ⟨s3, hs4, hB⟩ := letS_inv hB
  refine va_copyi hx hb (hml.trans hl.1.symm) hown (hts _ LX6_copyFrom_A40) (hts _ LX6_copyFrom_AN) (hts _ LX6_copyFrom_AS) (hts _ LX6_copyFrom_AI) hK hP hD hS 2 8 1 1 rfl rfl rfl rfl rfl (by decide +kernel) (by decide +kernel) (by decide +kernel) (by decide +kernel) (by decide +kernel) (fun _ _ => rfl) (Nat.le_of_ble_eq_true rfl) (by decide +kernel) dX6_copyFrom_25 (fun H locs hP hD hS => ?_)
  have hP : va_P (dC, dI) vwCl (wDD cI b b2 s3) H := by subst hs4; exact hP
  have hD : va_D A (wDD cI b b2 s3) := by subst hs4; exact hD
  refine lv_aload_n hx hb dX6_copyFrom_28 rfl (lv_at hl 1 rfl) ?_
  refine q_get (v := .ref (b2 3)) C inX6_copyFrom_X6 hK hP 0 rfl rfl 2 (by decide) rfl LX6_copyFrom_18 rfl dX6_copyFrom_29 ?_
  refine lv_iconst (v := 0) hx hb dX6_copyFrom_32 (by decide) ?_
  refine lv_aload_n hx hb dX6_copyFrom_33 rfl (lv_at hl 0 rfl) ?_
  refine q_get (v := .ref (b 3)) C inX6_copyFrom_X6 hK hP 6 rfl rfl 2 (by decide) rfl LX6_copyFrom_18 rfl dX6_copyFrom_34 ?_
  refine lv_iconst (v := 0) hx hb dX6_copyFrom_37 (by decide) ?_
  refine lv_iconst (v := 5) hx hb dX6_copyFrom_38 (by decide) ?_
  obtain ⟨s5, hs6, hB⟩ := letS_inv hB
  refine va_copyi hx hb (hml.trans hl.1.symm) hown (hts _ LX6_copyFrom_A40) (hts _ LX6_copyFrom_AN) (hts _ LX6_copyFrom_AS) (hts _ LX6_copyFrom_AI) hK hP hD hS 3 9 1 1 rfl rfl rfl rfl rfl (by decide +kernel) (by decide +kernel) (by decide +kernel) (by decide +kernel) (by decide +kernel) (fun _ _ => rfl) (Nat.le_of_ble_eq_true rfl) (by decide +kernel) dX6_copyFrom_39 (fun H locs hP hD hS => ?_)
  have hP : va_P (dC, dI) vwCl (wDD cI b b2 s5) H := by subst hs6; exact hP
  have hD : va_D A (wDD cI b b2 s5) := by subst hs6; exact hD
  refine lv_aload_n hx hb dX6_copyFrom_42 rfl (lv_at hl 1 rfl) ?_
  refine q_get (v := .ref (b2 4)) C inX6_copyFrom_X6 hK hP 0 rfl rfl 3 (by decide) rfl LX6_copyFrom_21 rfl dX6_copyFrom_43 ?_
  refine lv_iconst (v := 0) hx hb dX6_copyFrom_46 (by decide) ?_
  refine lv_aload_n hx hb dX6_copyFrom_47 rfl (lv_at hl 0 rfl) ?_
  refine q_get (v := .ref (b 4)) C inX6_copyFrom_X6 hK hP 6 rfl rfl 3 (by decide) rfl LX6_copyFrom_21 rfl dX6_copyFrom_48 ?_
  refine lv_iconst (v := 0) hx hb dX6_copyFrom_51 (by decide) ?_
  refine lv_bipush (v := 6) hx hb dX6_copyFrom_52 (by decide) ?_
  obtain ⟨s7, hs8, hB⟩ := letS_inv hB
  refine va_copyi hx hb (hml.trans hl.1.symm) hown (hts _ LX6_copyFrom_A40) (hts _ LX6_copyFrom_AN) (hts _ LX6_copyFrom_AS) (hts _ LX6_copyFrom_AI) hK hP hD hS 4 10 1 1 rfl rfl rfl rfl rfl (by decide +kernel) (by decide +kernel) (by decide +kernel) (by decide +kernel) (by decide +kernel) (fun _ _ => rfl) (Nat.le_of_ble_eq_true rfl) (by decide +kernel) dX6_copyFrom_54 (fun H locs hP hD hS => ?_)
  have hP : va_P (dC, dI) vwCl (wDD cI b b2 s7) H := by subst hs8; exact hP
  have hD : va_D A (wDD cI b b2 s7) := by subst hs8; exact hD
  refine lv_aload_n hx hb dX6_copyFrom_57 rfl (lv_at hl 1 rfl) ?_
  refine q_get (v := .ref (b2 5)) C inX6_copyFrom_X6 hK hP 0 rfl rfl 4 (by decide) rfl LX6_copyFrom_24 rfl dX6_copyFrom_58 ?_
  refine lv_iconst (v := 0) hx hb dX6_copyFrom_61 (by decide) ?_
  refine lv_aload_n hx hb dX6_copyFrom_62 rfl (lv_at hl 0 rfl) ?_
  refine q_get (v := .ref (b 5)) C inX6_copyFrom_X6 hK hP 6 rfl rfl 4 (by decide) rfl LX6_copyFrom_24 rfl dX6_copyFrom_63 ?_
  refine lv_iconst (v := 0) hx hb dX6_copyFrom_66 (by decide) ?_
  refine lv_bipush (v := 6) hx hb dX6_copyFrom_67 (by decide) ?_
  obtain ⟨s9, hs10, hB⟩ := letS_inv hB
  refine va_copyi hx hb (hml.trans hl.1.symm) hown (hts _ LX6_copyFrom_A40) (hts _ LX6_copyFrom_AN) (hts _ LX6_copyFrom_AS) (hts _ LX6_copyFrom_AI) hK hP hD hS 5 11 1 1 rfl rfl rfl rfl rfl (by decide +kernel) (by decide +kernel) (by decide +kernel) (by decide +kernel) (by decide +kernel) (fun _ _ => rfl) (Nat.le_of_ble_eq_true rfl) (by decide +kernel) dX6_copyFrom_69 (fun H locs hP hD hS => ?_)
  have hP : va_P (dC, dI) vwCl (wDD cI b b2 s9) H := by subst hs10; exact hP
  have hD : va_D A (wDD cI b b2 s9) := by subst hs10; exact hD
  refine lv_aload_n hx hb dX6_copyFrom_72 rfl (lv_at hl 0 rfl) ?_
  refine lv_aload_n hx hb dX6_copyFrom_73 rfl (lv_at hl 1 rfl) ?_
  refine q_get (v := .int (s9.e.v 5)) C inX6_copyFrom_X6 hK hP 0 rfl rfl 5 (by decide) rfl LX6_copyFrom_33 rfl dX6_copyFrom_74 ?_
  obtain ⟨s11, hs12, hB⟩ := letS_inv hB
  refine q_put (ty := .int) (w2 := (wDD cI b b2 s11)) tyX6 tyX6_ok nmX6 C inX6_copyFrom_X6 hK hP hD hS 6 rfl rfl 5 (by decide) rfl LX6_copyFrom_33 rfl (by decide +kernel) (rfl) rfl (Nat.le_of_ble_eq_true rfl) dX6_copyFrom_77 (by subst hs12; rfl) (fun H locs hP hD hS => ?_)
  refine lv_aload_n hx hb dX6_copyFrom_80 rfl (lv_at hl 0 rfl) ?_
  refine lv_aload_n hx hb dX6_copyFrom_81 rfl (lv_at hl 1 rfl) ?_
  refine q_get (v := .int (s11.e.v 6)) C inX6_copyFrom_X6 hK hP 0 rfl rfl 6 (by decide) rfl LX6_copyFrom_37 rfl dX6_copyFrom_82 ?_
  obtain ⟨s13, hs14, hB⟩ := letS_inv hB
  refine q_put (ty := .int) (w2 := (wDD cI b b2 s13)) tyX6 tyX6_ok nmX6 C inX6_copyFrom_X6 hK hP hD hS 6 rfl rfl 6 (by decide) rfl LX6_copyFrom_37 rfl (by decide +kernel) (rfl) rfl (Nat.le_of_ble_eq_true rfl) dX6_copyFrom_85 (by subst hs14; rfl) (fun H locs hP hD hS => ?_)
  exact q_vret C hr hlocks hK hP hD hS (Nat.le_of_ble_eq_true rfl) (Nat.le_of_ble_eq_true rfl) dX6_copyFrom_88 (by cases hB; rfl)
theorem ckX6_copyFrom {l : Launch} {dC : Nat → ClassId} {dI : Nat → Nat → Nat} {cB cI cJ cZ cS : ClassId} {b b2 : Nat → Nat} {s' : DS} {s : DS} (hB : kX6_copyFrom s = some s') : CV l yX6_copyFrom wsX6_copyFrom ({ frames := 1, cells := 0, slots := 0, locals := 64 }) (dC, dI) (tysA cB cI cJ cZ cS) (wDD cI b b2 s) [.ref (b 0), .ref (b2 0)] (fun u => u = (wDD cI b b2 s')) :=
  CV_of (cc := cX6_copyFrom) (maxL := 2) (ret := none) (by decide) rfl (Nat.le_of_ble_eq_true rfl) (bkX6_copyFrom _ hB)
theorem LX7_hasRoomFor_15 : Cond.fieldLink RX7 15 "GuessFerry$Tape" "length" "I" ∈ wsX7_hasRoomFor := (List.mem_cons_of_mem _ (List.mem_append_left _ (List.mem_of_getElem? (i := 1) rfl)))
theorem LX7_hasRoomFor_9 : Cond.fieldLink RX7 9 "GuessFerry$Tape" "bytes" "[B" ∈ wsX7_hasRoomFor := (List.mem_cons_of_mem _ (List.mem_append_left _ (List.mem_of_getElem? (i := 0) rfl)))
theorem inX7_hasRoomFor_X7 : ∀ w ∈ u_ws RX7 TX7 2, w ∈ wsX7_hasRoomFor := fun _ h => List.mem_cons_of_mem _ (List.mem_append_right _ h)
set_option maxHeartbeats 4000000 in
set_option maxRecDepth 100000 in
theorem bkX7_hasRoomFor {l : Launch} {dC : Nat → ClassId} {dI : Nat → Nat → Nat} {cB cI cJ cZ cS : ClassId} {a : Nat → Nat} {as : List Value} {r : Int32} {s' : KS} (s : KS) (x1 : Int32) (hB : kX7_hasRoomFor s x1 = some (r, s')) : BlkI l yX7_hasRoomFor wsX7_hasRoomFor ({ frames := 0, cells := 0, slots := 0, locals := 0 }) cX7_hasRoomFor 2 (some .boolean) (dC, dI) (tysA cB cI cJ cZ cS) as 0 (wK cB cI cJ cZ cS a s) [(0, .ref (a 0)), (1, .int x1)] [] (fun x u => x = r ∧ u = (wK cB cI cJ cZ cS a s')) := by
  intro p e s0 m below meth c A E H locs ls hP hD hS hl
  obtain ⟨C, hr, hlocks, hA, hK, hN⟩ := id E
  obtain ⟨hx, hb, hml, hown, hts⟩ := id C
  unfold kX7_hasRoomFor at hB
  refine lv_iload_n hx hb dX7_hasRoomFor_0 rfl (lv_at hl 1 rfl) ?_
  refine lv_aload_n hx hb dX7_hasRoomFor_1 rfl (lv_at hl 0 rfl) ?_
  refine q_get (v := .ref (a 1)) C inX7_hasRoomFor_X7 hK hP 0 rfl rfl 0 (by decide) rfl LX7_hasRoomFor_9 rfl dX7_hasRoomFor_2 ?_
  refine q_alen (v := 2000) C hK hP 1 0 rfl rfl dX7_hasRoomFor_5 rfl ?_
  refine lv_aload_n hx hb dX7_hasRoomFor_6 rfl (lv_at hl 0 rfl) ?_
  refine q_get (v := .int (s.v 0)) C inX7_hasRoomFor_X7 hK hP 0 rfl rfl 1 (by decide) rfl LX7_hasRoomFor_15 rfl dX7_hasRoomFor_7 ?_
  refine lv_isub hx hb dX7_hasRoomFor_10 ?_
  refine lv_icmp_gt (tgt := 18) hx hb dX7_hasRoomFor_11 (by decide) (fun c1 => ?_) (fun c1 => ?_)
  · have hB := if_p hB c1
    refine lv_iconst (v := 0) hx hb dX7_hasRoomFor_18 (by decide) ?_
    exact q_zret C hr hlocks (Or.inl rfl) hK hP hD hS (Nat.le_of_ble_eq_true rfl) (Nat.le_of_ble_eq_true rfl) dX7_hasRoomFor_19 (by cases hB; exact ⟨rfl, rfl⟩)
  · have hB := if_n hB c1
    refine lv_iconst (v := 1) hx hb dX7_hasRoomFor_14 (by decide) ?_
    refine lv_goto (tgt := 19) hx hb dX7_hasRoomFor_15 (by decide) ?_
    exact q_zret C hr hlocks (Or.inr rfl) hK hP hD hS (Nat.le_of_ble_eq_true rfl) (Nat.le_of_ble_eq_true rfl) dX7_hasRoomFor_19 (by cases hB; exact ⟨rfl, rfl⟩)
theorem ckX7_hasRoomFor {l : Launch} {dC : Nat → ClassId} {dI : Nat → Nat → Nat} {cB cI cJ cZ cS : ClassId} {a : Nat → Nat} {r : Int32} {s' : KS} {s : KS} {x1 : Int32} (hB : kX7_hasRoomFor s x1 = some (r, s')) : CI l yX7_hasRoomFor wsX7_hasRoomFor ({ frames := 0, cells := 0, slots := 0, locals := 0 }) (dC, dI) (tysA cB cI cJ cZ cS) (wK cB cI cJ cZ cS a s) [.ref (a 0), .int x1] (fun x u => x = r ∧ u = (wK cB cI cJ cZ cS a s')) :=
  CI_of (cc := cX7_hasRoomFor) (maxL := 2) (ret := (some .boolean)) (by decide) rfl (Nat.le_of_ble_eq_true rfl) (bkX7_hasRoomFor _ _ hB)
theorem LX7_addFour_15 : Cond.fieldLink RX7 15 "GuessFerry$Tape" "length" "I" ∈ wsX7_addFour := (List.mem_cons_of_mem _ (List.mem_append_left _ (List.mem_of_getElem? (i := 0) rfl)))
theorem LX7_addFour_9 : Cond.fieldLink RX7 9 "GuessFerry$Tape" "bytes" "[B" ∈ wsX7_addFour := (List.mem_cons_of_mem _ (List.mem_append_left _ (List.mem_of_getElem? (i := 1) rfl)))
theorem inX7_addFour_X7 : ∀ w ∈ u_ws RX7 TX7 2, w ∈ wsX7_addFour := fun _ h => List.mem_cons_of_mem _ (List.mem_append_right _ h)
set_option maxHeartbeats 4000000 in
set_option maxRecDepth 100000 in
theorem bkX7_addFour_42 {l : Launch} {dC : Nat → ClassId} {dI : Nat → Nat → Nat} {cB cI cJ cZ cS : ClassId} {a : Nat → Nat} {as : List Value} {s' : KS} {k3 : KS → Int32 → Int32 → Option KS} (hk3 : ∀ (s : KS) (x1 : Int32) (x2 : Int32), k3 s x1 x2 = some s' → BlkV l yX7_addFour wsX7_addFour ({ frames := 0, cells := 0, slots := 0, locals := 0 }) cX7_addFour 3 none (dC, dI) (tysA cB cI cJ cZ cS) as 3 (wK cB cI cJ cZ cS a s) [(0, .ref (a 0)), (1, .int x1), (2, .int x2)] [] (fun u => u = (wK cB cI cJ cZ cS a s'))) (s : KS) (x1 : Int32) (x2 : Int32) (hB : kX7_addFour_42 k3 s x1 x2 = some s') : BlkV l yX7_addFour wsX7_addFour ({ frames := 0, cells := 0, slots := 0, locals := 0 }) cX7_addFour 3 none (dC, dI) (tysA cB cI cJ cZ cS) as 42 (wK cB cI cJ cZ cS a s) [(0, .ref (a 0)), (1, .int x1), (2, .int x2)] [] (fun u => u = (wK cB cI cJ cZ cS a s')) := by
  intro p e s0 m below meth c A E H locs ls hP hD hS hl
  obtain ⟨C, hr, hlocks, hA, hK, hN⟩ := id E
  obtain ⟨hx, hb, hml, hown, hts⟩ := id C
  unfold kX7_addFour_42 at hB
  refine lv_iinc (v := (x2 + (-8))) (lv' := [(2, .int (x2 + (-8))), (0, .ref (a 0)), (1, .int x1)]) hx hb dX7_addFour_42 hl (k := 2) rfl (rfl) (by decide) rfl (fun ls hl => ?_)
  refine lv_goto (tgt := 3) hx hb dX7_addFour_45 (by decide) ?_
  exact hk3 _ _ _ hB p e s0 m below meth c A E H locs ls hP hD hS (lv_sub hl [1, 2, 0] rfl)
set_option maxHeartbeats 4000000 in
set_option maxRecDepth 100000 in
theorem bkX7_addFour_3 {l : Launch} {dC : Nat → ClassId} {dI : Nat → Nat → Nat} {cB cI cJ cZ cS : ClassId} {a : Nat → Nat} {as : List Value} {s' : KS} {k3 : KS → Int32 → Int32 → Option KS} (hk3 : ∀ (s : KS) (x1 : Int32) (x2 : Int32), k3 s x1 x2 = some s' → BlkV l yX7_addFour wsX7_addFour ({ frames := 0, cells := 0, slots := 0, locals := 0 }) cX7_addFour 3 none (dC, dI) (tysA cB cI cJ cZ cS) as 3 (wK cB cI cJ cZ cS a s) [(0, .ref (a 0)), (1, .int x1), (2, .int x2)] [] (fun u => u = (wK cB cI cJ cZ cS a s'))) (s : KS) (x1 : Int32) (x2 : Int32) (hB : kX7_addFour_3 k3 s x1 x2 = some s') : BlkV l yX7_addFour wsX7_addFour ({ frames := 0, cells := 0, slots := 0, locals := 0 }) cX7_addFour 3 none (dC, dI) (tysA cB cI cJ cZ cS) as 3 (wK cB cI cJ cZ cS a s) [(0, .ref (a 0)), (1, .int x1), (2, .int x2)] [] (fun u => u = (wK cB cI cJ cZ cS a s')) := by
  intro p e s0 m below meth c A E H locs ls hP hD hS hl
  obtain ⟨C, hr, hlocks, hA, hK, hN⟩ := id E
  obtain ⟨hx, hb, hml, hown, hts⟩ := id C
  unfold kX7_addFour_3 at hB
  refine lv_iload_n hx hb dX7_addFour_3 rfl (lv_at hl 2 rfl) ?_
  refine lv_if_lt (tgt := 48) hx hb dX7_addFour_4 (by decide) (fun c1 => ?_) (fun c1 => ?_)
  · have hB := if_p hB c1
    exact q_vret C hr hlocks hK hP hD hS (Nat.le_of_ble_eq_true rfl) (Nat.le_of_ble_eq_true rfl) dX7_addFour_48 (by cases hB; rfl)
  · have hB := if_n hB c1
    refine lv_aload_n hx hb dX7_addFour_7 rfl (lv_at hl 0 rfl) ?_
    refine q_get (v := .int (s.v 0)) C inX7_addFour_X7 hK hP 0 rfl rfl 1 (by decide) rfl LX7_addFour_15 rfl dX7_addFour_8 ?_
    refine lv_aload_n hx hb dX7_addFour_11 rfl (lv_at hl 0 rfl) ?_
    refine q_get (v := .ref (a 1)) C inX7_addFour_X7 hK hP 0 rfl rfl 0 (by decide) rfl LX7_addFour_9 rfl dX7_addFour_12 ?_
    refine q_alen (v := 2000) C hK hP 1 0 rfl rfl dX7_addFour_15 rfl ?_
    refine lv_icmp_ge (tgt := 42) hx hb dX7_addFour_16 (by decide) (fun c2 => ?_) (fun c2 => ?_)
    · have hB := if_p hB c2
      exact bkX7_addFour_42 (hk3) _ _ _ hB p e s0 m below meth c A E H locs ls hP hD hS (lv_sub hl [0, 1, 2] rfl)
    · have hB := if_n hB c2
      refine lv_aload_n hx hb dX7_addFour_19 rfl (lv_at hl 0 rfl) ?_
      refine q_get (v := .ref (a 1)) C inX7_addFour_X7 hK hP 0 rfl rfl 0 (by decide) rfl LX7_addFour_9 rfl dX7_addFour_20 ?_
      refine lv_aload_n hx hb dX7_addFour_23 rfl (lv_at hl 0 rfl) ?_
      refine q_get (v := .int (s.v 0)) C inX7_addFour_X7 hK hP 0 rfl rfl 1 (by decide) rfl LX7_addFour_15 rfl dX7_addFour_24 ?_
      refine lv_iload_n hx hb dX7_addFour_27 rfl (lv_at hl 1 rfl) ?_
      refine lv_iload_n hx hb dX7_addFour_28 rfl (lv_at hl 2 rfl) ?_
      refine lv_iushr (v := (ushr x1 x2)) hx hb dX7_addFour_29 rfl ?_
      refine lv_i2b (v := (Int8.toInt32 (Int32.toInt8 (ushr x1 x2)))) hx hb dX7_addFour_30 rfl ?_
      obtain ⟨g3, hB⟩ := guard_inv hB
      obtain ⟨s4, hs5, hB⟩ := letS_inv hB
      refine q_bast (f2 := (upd (s.f 1) (Int32.toNatClampNeg (s.v 0)) (vp_nar .byte (Int8.toInt32 (Int32.toInt8 (ushr x1 x2)))))) (w2 := (wK cB cI cJ cZ cS a s4)) C hK hP hD hS 1 0 rfl rfl (vpb_in g3) dX7_addFour_31 rfl (by subst hs5; rfl) (fun H locs hP hD hS => ?_)
      refine lv_aload_n hx hb dX7_addFour_32 rfl (lv_at hl 0 rfl) ?_
      refine lv_dup hx hb dX7_addFour_33 rfl ?_
      refine q_get (v := .int (s4.v 0)) C inX7_addFour_X7 hK hP 0 rfl rfl 1 (by decide) rfl LX7_addFour_15 rfl dX7_addFour_34 ?_
      refine lv_iconst (v := 1) hx hb dX7_addFour_37 (by decide) ?_
      refine lv_iadd hx hb dX7_addFour_38 ?_
      obtain ⟨s6, hs7, hB⟩ := letS_inv hB
      refine q_put (ty := .int) (w2 := (wK cB cI cJ cZ cS a s6)) tyX7 tyX7_ok nmX7 C inX7_addFour_X7 hK hP hD hS 0 rfl rfl 1 (by decide) rfl LX7_addFour_15 rfl (by decide +kernel) (rfl) rfl (Nat.le_of_ble_eq_true rfl) dX7_addFour_39 (by subst hs7; rfl) (fun H locs hP hD hS => ?_)
      exact bkX7_addFour_42 (hk3) _ _ _ hB p e s0 m below meth c A E H locs ls hP hD hS (lv_sub hl [0, 1, 2] rfl)
theorem bkX7_addFour_3L {l : Launch} {dC : Nat → ClassId} {dI : Nat → Nat → Nat} {cB cI cJ cZ cS : ClassId} {a : Nat → Nat} {as : List Value} {s' : KS} : ∀ (n : Nat) (s : KS) (x1 : Int32) (x2 : Int32), kX7_addFour_3L n s x1 x2 = some s' → BlkV l yX7_addFour wsX7_addFour ({ frames := 0, cells := 0, slots := 0, locals := 0 }) cX7_addFour 3 none (dC, dI) (tysA cB cI cJ cZ cS) as 3 (wK cB cI cJ cZ cS a s) [(0, .ref (a 0)), (1, .int x1), (2, .int x2)] [] (fun u => u = (wK cB cI cJ cZ cS a s')) := by
  intro n
  induction n with
  | zero => intro s x1 x2 hB; exact none_ne hB
  | succ n ih => intro s x1 x2 hB; exact bkX7_addFour_3 ih _ _ _ hB
set_option maxHeartbeats 4000000 in
set_option maxRecDepth 100000 in
theorem bkX7_addFour {l : Launch} {dC : Nat → ClassId} {dI : Nat → Nat → Nat} {cB cI cJ cZ cS : ClassId} {a : Nat → Nat} {as : List Value} {s' : KS} (s : KS) (x1 : Int32) (hB : kX7_addFour s x1 = some s') : BlkV l yX7_addFour wsX7_addFour ({ frames := 0, cells := 0, slots := 0, locals := 0 }) cX7_addFour 3 none (dC, dI) (tysA cB cI cJ cZ cS) as 0 (wK cB cI cJ cZ cS a s) [(0, .ref (a 0)), (1, .int x1)] [] (fun u => u = (wK cB cI cJ cZ cS a s')) := by
  intro p e s0 m below meth c A E H locs ls hP hD hS hl
  obtain ⟨C, hr, hlocks, hA, hK, hN⟩ := id E
  obtain ⟨hx, hb, hml, hown, hts⟩ := id C
  unfold kX7_addFour at hB
  refine lv_bipush (v := 24) hx hb dX7_addFour_0 (by decide) ?_
  refine lv_istore_n (lv' := [(2, .int 24), (0, .ref (a 0)), (1, .int x1)]) hx hb dX7_addFour_2 rfl hl (by decide) rfl (fun ls hl => ?_)
  exact bkX7_addFour_3L fu _ _ _ hB p e s0 m below meth c A E H locs ls hP hD hS (lv_sub hl [1, 2, 0] rfl)
theorem ckX7_addFour {l : Launch} {dC : Nat → ClassId} {dI : Nat → Nat → Nat} {cB cI cJ cZ cS : ClassId} {a : Nat → Nat} {s' : KS} {s : KS} {x1 : Int32} (hB : kX7_addFour s x1 = some s') : CV l yX7_addFour wsX7_addFour ({ frames := 0, cells := 0, slots := 0, locals := 0 }) (dC, dI) (tysA cB cI cJ cZ cS) (wK cB cI cJ cZ cS a s) [.ref (a 0), .int x1] (fun u => u = (wK cB cI cJ cZ cS a s')) :=
  CV_of (cc := cX7_addFour) (maxL := 3) (ret := none) (by decide) rfl (Nat.le_of_ble_eq_true rfl) (bkX7_addFour _ _ hB)
theorem LX7_byteAt_15 : Cond.fieldLink RX7 15 "GuessFerry$Tape" "length" "I" ∈ wsX7_byteAt := (List.mem_cons_of_mem _ (List.mem_append_left _ (List.mem_of_getElem? (i := 0) rfl)))
theorem LX7_byteAt_9 : Cond.fieldLink RX7 9 "GuessFerry$Tape" "bytes" "[B" ∈ wsX7_byteAt := (List.mem_cons_of_mem _ (List.mem_append_left _ (List.mem_of_getElem? (i := 1) rfl)))
theorem inX7_byteAt_X7 : ∀ w ∈ u_ws RX7 TX7 2, w ∈ wsX7_byteAt := fun _ h => List.mem_cons_of_mem _ (List.mem_append_right _ h)
set_option maxHeartbeats 4000000 in
set_option maxRecDepth 100000 in
theorem bkX7_byteAt {l : Launch} {dC : Nat → ClassId} {dI : Nat → Nat → Nat} {cB cI cJ cZ cS : ClassId} {a : Nat → Nat} {as : List Value} {r : Int32} {s' : KS} (s : KS) (x1 : Int32) (hB : kX7_byteAt s x1 = some (r, s')) : BlkI l yX7_byteAt wsX7_byteAt ({ frames := 0, cells := 0, slots := 0, locals := 0 }) cX7_byteAt 2 (some .int) (dC, dI) (tysA cB cI cJ cZ cS) as 0 (wK cB cI cJ cZ cS a s) [(0, .ref (a 0)), (1, .int x1)] [] (fun x u => x = r ∧ u = (wK cB cI cJ cZ cS a s')) := by
  intro p e s0 m below meth c A E H locs ls hP hD hS hl
  obtain ⟨C, hr, hlocks, hA, hK, hN⟩ := id E
  obtain ⟨hx, hb, hml, hown, hts⟩ := id C
  unfold kX7_byteAt at hB
  refine lv_iload_n hx hb dX7_byteAt_0 rfl (lv_at hl 1 rfl) ?_
  refine lv_if_lt (tgt := 25) hx hb dX7_byteAt_1 (by decide) (fun c1 => ?_) (fun c1 => ?_)
  · have hB := if_p hB c1
    refine lv_iconst (v := (-1)) hx hb dX7_byteAt_25 (by decide) ?_
    exact q_iret C hr hlocks hK hP hD hS (Nat.le_of_ble_eq_true rfl) (Nat.le_of_ble_eq_true rfl) dX7_byteAt_26 (by cases hB; exact ⟨rfl, rfl⟩)
  · have hB := if_n hB c1
    refine lv_iload_n hx hb dX7_byteAt_4 rfl (lv_at hl 1 rfl) ?_
    refine lv_aload_n hx hb dX7_byteAt_5 rfl (lv_at hl 0 rfl) ?_
    refine q_get (v := .int (s.v 0)) C inX7_byteAt_X7 hK hP 0 rfl rfl 1 (by decide) rfl LX7_byteAt_15 rfl dX7_byteAt_6 ?_
    refine lv_icmp_ge (tgt := 25) hx hb dX7_byteAt_9 (by decide) (fun c2 => ?_) (fun c2 => ?_)
    · have hB := if_p hB c2
      refine lv_iconst (v := (-1)) hx hb dX7_byteAt_25 (by decide) ?_
      exact q_iret C hr hlocks hK hP hD hS (Nat.le_of_ble_eq_true rfl) (Nat.le_of_ble_eq_true rfl) dX7_byteAt_26 (by cases hB; exact ⟨rfl, rfl⟩)
    · have hB := if_n hB c2
      refine lv_aload_n hx hb dX7_byteAt_12 rfl (lv_at hl 0 rfl) ?_
      refine q_get (v := .ref (a 1)) C inX7_byteAt_X7 hK hP 0 rfl rfl 0 (by decide) rfl LX7_byteAt_9 rfl dX7_byteAt_13 ?_
      refine lv_iload_n hx hb dX7_byteAt_16 rfl (lv_at hl 1 rfl) ?_
      obtain ⟨g3, hB⟩ := guard_inv hB
      refine q_bald (x := ((s.f 1) (Int32.toNatClampNeg x1))) C hK hP 1 0 rfl rfl (vpb_in g3) dX7_byteAt_17 rfl ?_
      refine lv_sipush (v := 255) hx hb dX7_byteAt_18 (by decide) ?_
      refine lv_iand hx hb dX7_byteAt_21 ?_
      refine lv_goto (tgt := 26) hx hb dX7_byteAt_22 (by decide) ?_
      exact q_iret C hr hlocks hK hP hD hS (Nat.le_of_ble_eq_true rfl) (Nat.le_of_ble_eq_true rfl) dX7_byteAt_26 (by cases hB; exact ⟨rfl, rfl⟩)
theorem ckX7_byteAt {l : Launch} {dC : Nat → ClassId} {dI : Nat → Nat → Nat} {cB cI cJ cZ cS : ClassId} {a : Nat → Nat} {r : Int32} {s' : KS} {s : KS} {x1 : Int32} (hB : kX7_byteAt s x1 = some (r, s')) : CI l yX7_byteAt wsX7_byteAt ({ frames := 0, cells := 0, slots := 0, locals := 0 }) (dC, dI) (tysA cB cI cJ cZ cS) (wK cB cI cJ cZ cS a s) [.ref (a 0), .int x1] (fun x u => x = r ∧ u = (wK cB cI cJ cZ cS a s')) :=
  CI_of (cc := cX7_byteAt) (maxL := 2) (ret := (some .int)) (by decide) rfl (Nat.le_of_ble_eq_true rfl) (bkX7_byteAt _ _ hB)
theorem LX8_add_15 : Cond.fieldLink RX8 15 "GuessFerry$Tellers" "toldThings" "[I" ∈ wsX8_add := (List.mem_cons_of_mem _ (List.mem_append_left _ (List.mem_of_getElem? (i := 2) rfl)))
theorem LX8_add_35 : Cond.fieldLink RX8 35 "GuessFerry$Tellers" "told" "I" ∈ wsX8_add := (List.mem_cons_of_mem _ (List.mem_append_left _ (List.mem_of_getElem? (i := 0) rfl)))
theorem LX8_add_9 : Cond.fieldLink RX8 9 "GuessFerry$Tellers" "toldWaves" "[I" ∈ wsX8_add := (List.mem_cons_of_mem _ (List.mem_append_left _ (List.mem_of_getElem? (i := 1) rfl)))
theorem inX8_add_X8 : ∀ w ∈ u_ws RX8 TX8 8, w ∈ wsX8_add := fun _ h => List.mem_cons_of_mem _ (List.mem_append_right _ h)
set_option maxHeartbeats 4000000 in
set_option maxRecDepth 100000 in
theorem bkX8_add {l : Launch} {dC : Nat → ClassId} {dI : Nat → Nat → Nat} {cB cI cJ cZ cS : ClassId} {a : Nat → Nat} {as : List Value} {r : Int32} {s' : KS} (s : KS) (x1 : Int32) (x2 : Int32) (hB : kX8_add s x1 x2 = some (r, s')) : BlkI l yX8_add wsX8_add ({ frames := 0, cells := 0, slots := 0, locals := 0 }) cX8_add 3 (some .int) (dC, dI) (tysA cB cI cJ cZ cS) as 0 (wK cB cI cJ cZ cS a s) [(0, .ref (a 41)), (1, .int x1), (2, .int x2)] [] (fun x u => x = r ∧ u = (wK cB cI cJ cZ cS a s')) := by
  intro p e s0 m below meth c A E H locs ls hP hD hS hl
  obtain ⟨C, hr, hlocks, hA, hK, hN⟩ := id E
  obtain ⟨hx, hb, hml, hown, hts⟩ := id C
  unfold kX8_add at hB
  refine lv_aload_n hx hb dX8_add_0 rfl (lv_at hl 0 rfl) ?_
  refine q_get (v := .int (s.v 21)) C inX8_add_X8 hK hP 41 rfl rfl 7 (by decide) rfl LX8_add_35 rfl dX8_add_1 ?_
  refine lv_bipush (v := 20) hx hb dX8_add_4 (by decide) ?_
  refine lv_icmp_lt (tgt := 11) hx hb dX8_add_6 (by decide) (fun c1 => ?_) (fun c1 => ?_)
  · have hB := if_p hB c1
    refine lv_aload_n hx hb dX8_add_11 rfl (lv_at hl 0 rfl) ?_
    refine q_get (v := .ref (a 42)) C inX8_add_X8 hK hP 41 rfl rfl 2 (by decide) rfl LX8_add_9 rfl dX8_add_12 ?_
    refine lv_aload_n hx hb dX8_add_15 rfl (lv_at hl 0 rfl) ?_
    refine q_get (v := .int (s.v 21)) C inX8_add_X8 hK hP 41 rfl rfl 7 (by decide) rfl LX8_add_35 rfl dX8_add_16 ?_
    refine lv_iload_n hx hb dX8_add_19 rfl (lv_at hl 1 rfl) ?_
    obtain ⟨g2, hB⟩ := guard_inv hB
    obtain ⟨s3, hs4, hB⟩ := letS_inv hB
    refine q_iast (f2 := (upd (s.f 42) (Int32.toNatClampNeg (s.v 21)) x1)) (w2 := (wK cB cI cJ cZ cS a s3)) C hK hP hD hS 42 1 rfl rfl (vpb_in g2) dX8_add_20 rfl (by subst hs4; rfl) (fun H locs hP hD hS => ?_)
    refine lv_aload_n hx hb dX8_add_21 rfl (lv_at hl 0 rfl) ?_
    refine q_get (v := .ref (a 43)) C inX8_add_X8 hK hP 41 rfl rfl 3 (by decide) rfl LX8_add_15 rfl dX8_add_22 ?_
    refine lv_aload_n hx hb dX8_add_25 rfl (lv_at hl 0 rfl) ?_
    refine q_get (v := .int (s3.v 21)) C inX8_add_X8 hK hP 41 rfl rfl 7 (by decide) rfl LX8_add_35 rfl dX8_add_26 ?_
    refine lv_iload_n hx hb dX8_add_29 rfl (lv_at hl 2 rfl) ?_
    obtain ⟨g5, hB⟩ := guard_inv hB
    obtain ⟨s6, hs7, hB⟩ := letS_inv hB
    refine q_iast (f2 := (upd (s3.f 43) (Int32.toNatClampNeg (s3.v 21)) x2)) (w2 := (wK cB cI cJ cZ cS a s6)) C hK hP hD hS 43 1 rfl rfl (vpb_in g5) dX8_add_30 rfl (by subst hs7; rfl) (fun H locs hP hD hS => ?_)
    refine lv_aload_n hx hb dX8_add_31 rfl (lv_at hl 0 rfl) ?_
    refine lv_dup hx hb dX8_add_32 rfl ?_
    refine q_get (v := .int (s6.v 21)) C inX8_add_X8 hK hP 41 rfl rfl 7 (by decide) rfl LX8_add_35 rfl dX8_add_33 ?_
    refine lv_iconst (v := 1) hx hb dX8_add_36 (by decide) ?_
    refine lv_iadd hx hb dX8_add_37 ?_
    obtain ⟨s8, hs9, hB⟩ := letS_inv hB
    refine q_put (ty := .int) (w2 := (wK cB cI cJ cZ cS a s8)) tyX8 tyX8_ok nmX8 C inX8_add_X8 hK hP hD hS 41 rfl rfl 7 (by decide) rfl LX8_add_35 rfl (by decide +kernel) (rfl) rfl (Nat.le_of_ble_eq_true rfl) dX8_add_38 (by subst hs9; rfl) (fun H locs hP hD hS => ?_)
    refine lv_aload_n hx hb dX8_add_41 rfl (lv_at hl 0 rfl) ?_
    refine q_get (v := .int (s8.v 21)) C inX8_add_X8 hK hP 41 rfl rfl 7 (by decide) rfl LX8_add_35 rfl dX8_add_42 ?_
    refine lv_iconst (v := 1) hx hb dX8_add_45 (by decide) ?_
    refine lv_isub hx hb dX8_add_46 ?_
    exact q_iret C hr hlocks hK hP hD hS (Nat.le_of_ble_eq_true rfl) (Nat.le_of_ble_eq_true rfl) dX8_add_47 (by cases hB; exact ⟨rfl, rfl⟩)
  · have hB := if_n hB c1
    refine lv_iconst (v := (-1)) hx hb dX8_add_9 (by decide) ?_
    exact q_iret C hr hlocks hK hP hD hS (Nat.le_of_ble_eq_true rfl) (Nat.le_of_ble_eq_true rfl) dX8_add_10 (by cases hB; exact ⟨rfl, rfl⟩)
theorem ckX8_add {l : Launch} {dC : Nat → ClassId} {dI : Nat → Nat → Nat} {cB cI cJ cZ cS : ClassId} {a : Nat → Nat} {r : Int32} {s' : KS} {s : KS} {x1 : Int32} {x2 : Int32} (hB : kX8_add s x1 x2 = some (r, s')) : CI l yX8_add wsX8_add ({ frames := 0, cells := 0, slots := 0, locals := 0 }) (dC, dI) (tysA cB cI cJ cZ cS) (wK cB cI cJ cZ cS a s) [.ref (a 41), .int x1, .int x2] (fun x u => x = r ∧ u = (wK cB cI cJ cZ cS a s')) :=
  CI_of (cc := cX8_add) (maxL := 3) (ret := (some .int)) (by decide) rfl (Nat.le_of_ble_eq_true rfl) (bkX8_add _ _ _ hB)
theorem LX8_areSuch_35 : Cond.fieldLink RX8 35 "GuessFerry$Tellers" "told" "I" ∈ wsX8_areSuch := (List.mem_cons_of_mem _ (List.mem_append_left _ (List.mem_of_getElem? (i := 0) rfl)))
theorem inX8_areSuch_X8 : ∀ w ∈ u_ws RX8 TX8 8, w ∈ wsX8_areSuch := fun _ h => List.mem_cons_of_mem _ (List.mem_append_right _ h)
set_option maxHeartbeats 4000000 in
set_option maxRecDepth 100000 in
theorem bkX8_areSuch {l : Launch} {dC : Nat → ClassId} {dI : Nat → Nat → Nat} {cB cI cJ cZ cS : ClassId} {a : Nat → Nat} {as : List Value} {r : Int32} {s' : KS} (s : KS) (x1 : Int32) (x2 : Int32) (hB : kX8_areSuch s x1 x2 = some (r, s')) : BlkI l yX8_areSuch wsX8_areSuch ({ frames := 0, cells := 0, slots := 0, locals := 0 }) cX8_areSuch 3 (some .boolean) (dC, dI) (tysA cB cI cJ cZ cS) as 0 (wK cB cI cJ cZ cS a s) [(0, .ref (a 41)), (1, .int x1), (2, .int x2)] [] (fun x u => x = r ∧ u = (wK cB cI cJ cZ cS a s')) := by
  intro p e s0 m below meth c A E H locs ls hP hD hS hl
  obtain ⟨C, hr, hlocks, hA, hK, hN⟩ := id E
  obtain ⟨hx, hb, hml, hown, hts⟩ := id C
  unfold kX8_areSuch at hB
  refine lv_iload_n hx hb dX8_areSuch_0 rfl (lv_at hl 1 rfl) ?_
  refine lv_if_lt (tgt := 25) hx hb dX8_areSuch_1 (by decide) (fun c1 => ?_) (fun c1 => ?_)
  · have hB := if_p hB c1
    refine lv_iconst (v := 0) hx hb dX8_areSuch_25 (by decide) ?_
    exact q_zret C hr hlocks (Or.inl rfl) hK hP hD hS (Nat.le_of_ble_eq_true rfl) (Nat.le_of_ble_eq_true rfl) dX8_areSuch_26 (by cases hB; exact ⟨rfl, rfl⟩)
  · have hB := if_n hB c1
    refine lv_iload_n hx hb dX8_areSuch_4 rfl (lv_at hl 1 rfl) ?_
    refine lv_aload_n hx hb dX8_areSuch_5 rfl (lv_at hl 0 rfl) ?_
    refine q_get (v := .int (s.v 21)) C inX8_areSuch_X8 hK hP 41 rfl rfl 7 (by decide) rfl LX8_areSuch_35 rfl dX8_areSuch_6 ?_
    refine lv_icmp_gt (tgt := 25) hx hb dX8_areSuch_9 (by decide) (fun c2 => ?_) (fun c2 => ?_)
    · have hB := if_p hB c2
      refine lv_iconst (v := 0) hx hb dX8_areSuch_25 (by decide) ?_
      exact q_zret C hr hlocks (Or.inl rfl) hK hP hD hS (Nat.le_of_ble_eq_true rfl) (Nat.le_of_ble_eq_true rfl) dX8_areSuch_26 (by cases hB; exact ⟨rfl, rfl⟩)
    · have hB := if_n hB c2
      refine lv_iload_n hx hb dX8_areSuch_12 rfl (lv_at hl 2 rfl) ?_
      refine lv_if_lt (tgt := 25) hx hb dX8_areSuch_13 (by decide) (fun c3 => ?_) (fun c3 => ?_)
      · have hB := if_p hB c3
        refine lv_iconst (v := 0) hx hb dX8_areSuch_25 (by decide) ?_
        exact q_zret C hr hlocks (Or.inl rfl) hK hP hD hS (Nat.le_of_ble_eq_true rfl) (Nat.le_of_ble_eq_true rfl) dX8_areSuch_26 (by cases hB; exact ⟨rfl, rfl⟩)
      · have hB := if_n hB c3
        refine lv_iload_n hx hb dX8_areSuch_16 rfl (lv_at hl 2 rfl) ?_
        refine lv_iconst (v := 3) hx hb dX8_areSuch_17 (by decide) ?_
        refine lv_icmp_gt (tgt := 25) hx hb dX8_areSuch_18 (by decide) (fun c4 => ?_) (fun c4 => ?_)
        · have hB := if_p hB c4
          refine lv_iconst (v := 0) hx hb dX8_areSuch_25 (by decide) ?_
          exact q_zret C hr hlocks (Or.inl rfl) hK hP hD hS (Nat.le_of_ble_eq_true rfl) (Nat.le_of_ble_eq_true rfl) dX8_areSuch_26 (by cases hB; exact ⟨rfl, rfl⟩)
        · have hB := if_n hB c4
          refine lv_iconst (v := 1) hx hb dX8_areSuch_21 (by decide) ?_
          refine lv_goto (tgt := 26) hx hb dX8_areSuch_22 (by decide) ?_
          exact q_zret C hr hlocks (Or.inr rfl) hK hP hD hS (Nat.le_of_ble_eq_true rfl) (Nat.le_of_ble_eq_true rfl) dX8_areSuch_26 (by cases hB; exact ⟨rfl, rfl⟩)
theorem ckX8_areSuch {l : Launch} {dC : Nat → ClassId} {dI : Nat → Nat → Nat} {cB cI cJ cZ cS : ClassId} {a : Nat → Nat} {r : Int32} {s' : KS} {s : KS} {x1 : Int32} {x2 : Int32} (hB : kX8_areSuch s x1 x2 = some (r, s')) : CI l yX8_areSuch wsX8_areSuch ({ frames := 0, cells := 0, slots := 0, locals := 0 }) (dC, dI) (tysA cB cI cJ cZ cS) (wK cB cI cJ cZ cS a s) [.ref (a 41), .int x1, .int x2] (fun x u => x = r ∧ u = (wK cB cI cJ cZ cS a s')) :=
  CI_of (cc := cX8_areSuch) (maxL := 3) (ret := (some .boolean)) (by decide) rfl (Nat.le_of_ble_eq_true rfl) (bkX8_areSuch _ _ _ hB)
theorem LX8_withWave_18 : Cond.fieldLink RX8 18 "GuessFerry$Tellers" "odds" "[I" ∈ wsX8_withWave := (List.mem_cons_of_mem _ (List.mem_append_left _ (List.mem_of_getElem? (i := 0) rfl)))
theorem LX8_withWave_21 : Cond.fieldLink RX8 21 "GuessFerry$Tellers" "belied" "[I" ∈ wsX8_withWave := (List.mem_cons_of_mem _ (List.mem_append_left _ (List.mem_of_getElem? (i := 1) rfl)))
theorem LX8_withWave_24 : Cond.fieldLink RX8 24 "GuessFerry$Tellers" "byLies" "[I" ∈ wsX8_withWave := (List.mem_cons_of_mem _ (List.mem_append_left _ (List.mem_of_getElem? (i := 2) rfl)))
theorem inX8_withWave_X8 : ∀ w ∈ u_ws RX8 TX8 8, w ∈ wsX8_withWave := fun _ h => List.mem_cons_of_mem _ (List.mem_append_right _ h)
set_option maxHeartbeats 4000000 in
set_option maxRecDepth 100000 in
theorem bkX8_withWave_78 {l : Launch} {dC : Nat → ClassId} {dI : Nat → Nat → Nat} {cB cI cJ cZ cS : ClassId} {a : Nat → Nat} {as : List Value} {r : Int32} {s' : KS} {k6 : KS → Int32 → Int32 → Int32 → Int32 → Int32 → Option (Int32 × KS)} (hk6 : ∀ (s : KS) (x1 : Int32) (x2 : Int32) (x3 : Int32) (x4 : Int32) (x5 : Int32), k6 s x1 x2 x3 x4 x5 = some (r, s') → BlkI l yX8_withWave wsX8_withWave ({ frames := 0, cells := 0, slots := 0, locals := 0 }) cX8_withWave 7 (some .int) (dC, dI) (tysA cB cI cJ cZ cS) as 6 (wK cB cI cJ cZ cS a s) [(0, .ref (a 41)), (1, .int x1), (2, .int x2), (3, .int x3), (4, .int x4), (5, .int x5)] [] (fun x u => x = r ∧ u = (wK cB cI cJ cZ cS a s'))) (s : KS) (x1 : Int32) (x2 : Int32) (x3 : Int32) (x4 : Int32) (x5 : Int32) (hB : kX8_withWave_78 k6 s x1 x2 x3 x4 x5 = some (r, s')) : BlkI l yX8_withWave wsX8_withWave ({ frames := 0, cells := 0, slots := 0, locals := 0 }) cX8_withWave 7 (some .int) (dC, dI) (tysA cB cI cJ cZ cS) as 78 (wK cB cI cJ cZ cS a s) [(0, .ref (a 41)), (1, .int x1), (2, .int x2), (3, .int x3), (4, .int x4), (5, .int x5)] [] (fun x u => x = r ∧ u = (wK cB cI cJ cZ cS a s')) := by
  intro p e s0 m below meth c A E H locs ls hP hD hS hl
  obtain ⟨C, hr, hlocks, hA, hK, hN⟩ := id E
  obtain ⟨hx, hb, hml, hown, hts⟩ := id C
  unfold kX8_withWave_78 at hB
  refine lv_iinc (v := (x5 + 1)) (lv' := [(5, .int (x5 + 1)), (0, .ref (a 41)), (1, .int x1), (2, .int x2), (3, .int x3), (4, .int x4)]) hx hb dX8_withWave_78 hl (k := 5) rfl (rfl) (by decide) rfl (fun ls hl => ?_)
  refine lv_goto (tgt := 6) hx hb dX8_withWave_81 (by decide) ?_
  exact hk6 _ _ _ _ _ _ hB p e s0 m below meth c A E H locs ls hP hD hS (lv_sub hl [1, 2, 3, 4, 5, 0] rfl)
set_option maxHeartbeats 4000000 in
set_option maxRecDepth 100000 in
theorem bkX8_withWave_74 {l : Launch} {dC : Nat → ClassId} {dI : Nat → Nat → Nat} {cB cI cJ cZ cS : ClassId} {a : Nat → Nat} {as : List Value} {r : Int32} {s' : KS} {k6 : KS → Int32 → Int32 → Int32 → Int32 → Int32 → Option (Int32 × KS)} (hk6 : ∀ (s : KS) (x1 : Int32) (x2 : Int32) (x3 : Int32) (x4 : Int32) (x5 : Int32), k6 s x1 x2 x3 x4 x5 = some (r, s') → BlkI l yX8_withWave wsX8_withWave ({ frames := 0, cells := 0, slots := 0, locals := 0 }) cX8_withWave 7 (some .int) (dC, dI) (tysA cB cI cJ cZ cS) as 6 (wK cB cI cJ cZ cS a s) [(0, .ref (a 41)), (1, .int x1), (2, .int x2), (3, .int x3), (4, .int x4), (5, .int x5)] [] (fun x u => x = r ∧ u = (wK cB cI cJ cZ cS a s'))) (s : KS) (x1 : Int32) (x2 : Int32) (x3 : Int32) (x5 : Int32) (t0 : Int32) (t1 : Int32) (t2 : Int32) (hB : kX8_withWave_74 k6 s x1 x2 x3 x5 t0 t1 t2 = some (r, s')) : BlkI l yX8_withWave wsX8_withWave ({ frames := 0, cells := 0, slots := 0, locals := 0 }) cX8_withWave 7 (some .int) (dC, dI) (tysA cB cI cJ cZ cS) as 74 (wK cB cI cJ cZ cS a s) [(0, .ref (a 41)), (1, .int x1), (2, .int x2), (3, .int x3), (5, .int x5)] [.int t0, .int t1, .int t2] (fun x u => x = r ∧ u = (wK cB cI cJ cZ cS a s')) := by
  intro p e s0 m below meth c A E H locs ls hP hD hS hl
  obtain ⟨C, hr, hlocks, hA, hK, hN⟩ := id E
  obtain ⟨hx, hb, hml, hown, hts⟩ := id C
  unfold kX8_withWave_74 at hB
  refine lv_imul hx hb dX8_withWave_74 ?_
  refine lv_iadd hx hb dX8_withWave_75 ?_
  refine lv_istore (lv' := [(4, .int (t2 + (t1 * t0))), (0, .ref (a 41)), (1, .int x1), (2, .int x2), (3, .int x3), (5, .int x5)]) hx hb dX8_withWave_76 hl (by decide) rfl (fun ls hl => ?_)
  exact bkX8_withWave_78 (hk6) _ _ _ _ _ _ hB p e s0 m below meth c A E H locs ls hP hD hS (lv_sub hl [1, 2, 3, 4, 0, 5] rfl)
set_option maxHeartbeats 4000000 in
set_option maxRecDepth 100000 in
theorem bkX8_withWave_6 {l : Launch} {dC : Nat → ClassId} {dI : Nat → Nat → Nat} {cB cI cJ cZ cS : ClassId} {a : Nat → Nat} {as : List Value} {r : Int32} {s' : KS} {k6 : KS → Int32 → Int32 → Int32 → Int32 → Int32 → Option (Int32 × KS)} (hk6 : ∀ (s : KS) (x1 : Int32) (x2 : Int32) (x3 : Int32) (x4 : Int32) (x5 : Int32), k6 s x1 x2 x3 x4 x5 = some (r, s') → BlkI l yX8_withWave wsX8_withWave ({ frames := 0, cells := 0, slots := 0, locals := 0 }) cX8_withWave 7 (some .int) (dC, dI) (tysA cB cI cJ cZ cS) as 6 (wK cB cI cJ cZ cS a s) [(0, .ref (a 41)), (1, .int x1), (2, .int x2), (3, .int x3), (4, .int x4), (5, .int x5)] [] (fun x u => x = r ∧ u = (wK cB cI cJ cZ cS a s'))) (s : KS) (x1 : Int32) (x2 : Int32) (x3 : Int32) (x4 : Int32) (x5 : Int32) (hB : kX8_withWave_6 k6 s x1 x2 x3 x4 x5 = some (r, s')) : BlkI l yX8_withWave wsX8_withWave ({ frames := 0, cells := 0, slots := 0, locals := 0 }) cX8_withWave 7 (some .int) (dC, dI) (tysA cB cI cJ cZ cS) as 6 (wK cB cI cJ cZ cS a s) [(0, .ref (a 41)), (1, .int x1), (2, .int x2), (3, .int x3), (4, .int x4), (5, .int x5)] [] (fun x u => x = r ∧ u = (wK cB cI cJ cZ cS a s')) := by
  intro p e s0 m below meth c A E H locs ls hP hD hS hl
  obtain ⟨C, hr, hlocks, hA, hK, hN⟩ := id E
  obtain ⟨hx, hb, hml, hown, hts⟩ := id C
  unfold kX8_withWave_6 at hB
  refine lv_iload hx hb dX8_withWave_6 (lv_at hl 5 rfl) ?_
  refine lv_bipush (v := 6) hx hb dX8_withWave_8 (by decide) ?_
  refine lv_icmp_ge (tgt := 84) hx hb dX8_withWave_10 (by decide) (fun c1 => ?_) (fun c1 => ?_)
  · have hB := if_p hB c1
    refine lv_iload hx hb dX8_withWave_84 (lv_at hl 4 rfl) ?_
    exact q_iret C hr hlocks hK hP hD hS (Nat.le_of_ble_eq_true rfl) (Nat.le_of_ble_eq_true rfl) dX8_withWave_86 (by cases hB; exact ⟨rfl, rfl⟩)
  · have hB := if_n hB c1
    refine lv_iload_n hx hb dX8_withWave_13 rfl (lv_at hl 1 rfl) ?_
    refine lv_bipush (v := 6) hx hb dX8_withWave_14 (by decide) ?_
    refine lv_imul hx hb dX8_withWave_16 ?_
    refine lv_iload hx hb dX8_withWave_17 (lv_at hl 5 rfl) ?_
    refine lv_iadd hx hb dX8_withWave_19 ?_
    refine lv_istore (lv' := [(6, .int ((x1 * 6) + x5)), (0, .ref (a 41)), (1, .int x1), (2, .int x2), (3, .int x3), (4, .int x4), (5, .int x5)]) hx hb dX8_withWave_20 hl (by decide) rfl (fun ls hl => ?_)
    refine lv_aload_n hx hb dX8_withWave_22 rfl (lv_at hl 1 rfl) ?_
    refine q_get (v := .ref (a 44)) C inX8_withWave_X8 hK hP 41 rfl rfl 4 (by decide) rfl LX8_withWave_18 rfl dX8_withWave_23 ?_
    refine lv_iload hx hb dX8_withWave_26 (lv_at hl 0 rfl) ?_
    obtain ⟨g2, hB⟩ := guard_inv hB
    refine q_iald (x := ((s.f 44) (Int32.toNatClampNeg ((x1 * 6) + x5)))) C hK hP 44 1 rfl rfl (vpb_in g2) dX8_withWave_28 rfl ?_
    refine lv_if_le (tgt := 78) hx hb dX8_withWave_29 (by decide) (fun c3 => ?_) (fun c3 => ?_)
    · have hB := if_p hB c3
      exact bkX8_withWave_78 (hk6) _ _ _ _ _ _ hB p e s0 m below meth c A E H locs ls hP hD hS (lv_sub hl [1, 2, 3, 4, 5, 6] rfl)
    · have hB := if_n hB c3
      refine lv_aload_n hx hb dX8_withWave_32 rfl (lv_at hl 1 rfl) ?_
      refine q_get (v := .ref (a 45)) C inX8_withWave_X8 hK hP 41 rfl rfl 5 (by decide) rfl LX8_withWave_21 rfl dX8_withWave_33 ?_
      refine lv_iload hx hb dX8_withWave_36 (lv_at hl 0 rfl) ?_
      obtain ⟨g4, hB⟩ := guard_inv hB
      refine q_iald (x := ((s.f 45) (Int32.toNatClampNeg ((x1 * 6) + x5)))) C hK hP 45 1 rfl rfl (vpb_in g4) dX8_withWave_38 rfl ?_
      refine lv_iload_n hx hb dX8_withWave_39 rfl (lv_at hl 3 rfl) ?_
      refine lv_icmp_gt (tgt := 78) hx hb dX8_withWave_40 (by decide) (fun c5 => ?_) (fun c5 => ?_)
      · have hB := if_p hB c5
        exact bkX8_withWave_78 (hk6) _ _ _ _ _ _ hB p e s0 m below meth c A E H locs ls hP hD hS (lv_sub hl [1, 2, 3, 4, 5, 6] rfl)
      · have hB := if_n hB c5
        refine lv_iload hx hb dX8_withWave_43 (lv_at hl 5 rfl) ?_
        refine lv_aload_n hx hb dX8_withWave_45 rfl (lv_at hl 1 rfl) ?_
        refine q_get (v := .ref (a 46)) C inX8_withWave_X8 hK hP 41 rfl rfl 6 (by decide) rfl LX8_withWave_24 rfl dX8_withWave_46 ?_
        refine lv_iload_n hx hb dX8_withWave_49 rfl (lv_at hl 3 rfl) ?_
        refine lv_aload_n hx hb dX8_withWave_50 rfl (lv_at hl 1 rfl) ?_
        refine q_get (v := .ref (a 45)) C inX8_withWave_X8 hK hP 41 rfl rfl 5 (by decide) rfl LX8_withWave_21 rfl dX8_withWave_51 ?_
        refine lv_iload hx hb dX8_withWave_54 (lv_at hl 0 rfl) ?_
        obtain ⟨g6, hB⟩ := guard_inv hB
        refine q_iald (x := ((s.f 45) (Int32.toNatClampNeg ((x1 * 6) + x5)))) C hK hP 45 1 rfl rfl (vpb_in g6) dX8_withWave_56 rfl ?_
        refine lv_isub hx hb dX8_withWave_57 ?_
        obtain ⟨g7, hB⟩ := guard_inv hB
        refine q_iald (x := ((s.f 46) (Int32.toNatClampNeg (x2 - ((s.f 45) (Int32.toNatClampNeg ((x1 * 6) + x5))))))) C hK hP 46 1 rfl rfl (vpb_in g7) dX8_withWave_58 rfl ?_
        refine lv_iload_n hx hb dX8_withWave_59 rfl (lv_at hl 4 rfl) ?_
        refine lv_if_eq (tgt := 73) hx hb dX8_withWave_60 (by decide) (fun c8 => ?_) (fun c8 => ?_)
        · have hB := if_p hB c8
          refine lv_iconst (v := 1) hx hb dX8_withWave_73 (by decide) ?_
          exact bkX8_withWave_74 (hk6) _ _ _ _ _ _ _ _ hB p e s0 m below meth c A E H locs ls hP hD hS (lv_sub hl [1, 2, 3, 4, 6] rfl)
        · have hB := if_n hB c8
          refine lv_aload_n hx hb dX8_withWave_63 rfl (lv_at hl 1 rfl) ?_
          refine q_get (v := .ref (a 44)) C inX8_withWave_X8 hK hP 41 rfl rfl 4 (by decide) rfl LX8_withWave_18 rfl dX8_withWave_64 ?_
          refine lv_iload hx hb dX8_withWave_67 (lv_at hl 0 rfl) ?_
          obtain ⟨g9, hB⟩ := guard_inv hB
          refine q_iald (x := ((s.f 44) (Int32.toNatClampNeg ((x1 * 6) + x5)))) C hK hP 44 1 rfl rfl (vpb_in g9) dX8_withWave_69 rfl ?_
          refine lv_goto (tgt := 74) hx hb dX8_withWave_70 (by decide) ?_
          exact bkX8_withWave_74 (hk6) _ _ _ _ _ _ _ _ hB p e s0 m below meth c A E H locs ls hP hD hS (lv_sub hl [1, 2, 3, 4, 6] rfl)
theorem bkX8_withWave_6L {l : Launch} {dC : Nat → ClassId} {dI : Nat → Nat → Nat} {cB cI cJ cZ cS : ClassId} {a : Nat → Nat} {as : List Value} {r : Int32} {s' : KS} : ∀ (n : Nat) (s : KS) (x1 : Int32) (x2 : Int32) (x3 : Int32) (x4 : Int32) (x5 : Int32), kX8_withWave_6L n s x1 x2 x3 x4 x5 = some (r, s') → BlkI l yX8_withWave wsX8_withWave ({ frames := 0, cells := 0, slots := 0, locals := 0 }) cX8_withWave 7 (some .int) (dC, dI) (tysA cB cI cJ cZ cS) as 6 (wK cB cI cJ cZ cS a s) [(0, .ref (a 41)), (1, .int x1), (2, .int x2), (3, .int x3), (4, .int x4), (5, .int x5)] [] (fun x u => x = r ∧ u = (wK cB cI cJ cZ cS a s')) := by
  intro n
  induction n with
  | zero => intro s x1 x2 x3 x4 x5 hB; exact none_ne hB
  | succ n ih => intro s x1 x2 x3 x4 x5 hB; exact bkX8_withWave_6 ih _ _ _ _ _ _ hB
set_option maxHeartbeats 4000000 in
set_option maxRecDepth 100000 in
theorem bkX8_withWave {l : Launch} {dC : Nat → ClassId} {dI : Nat → Nat → Nat} {cB cI cJ cZ cS : ClassId} {a : Nat → Nat} {as : List Value} {r : Int32} {s' : KS} (s : KS) (x1 : Int32) (x2 : Int32) (x3 : Int32) (hB : kX8_withWave s x1 x2 x3 = some (r, s')) : BlkI l yX8_withWave wsX8_withWave ({ frames := 0, cells := 0, slots := 0, locals := 0 }) cX8_withWave 7 (some .int) (dC, dI) (tysA cB cI cJ cZ cS) as 0 (wK cB cI cJ cZ cS a s) [(0, .ref (a 41)), (1, .int x1), (2, .int x2), (3, .int x3)] [] (fun x u => x = r ∧ u = (wK cB cI cJ cZ cS a s')) := by
  intro p e s0 m below meth c A E H locs ls hP hD hS hl
  obtain ⟨C, hr, hlocks, hA, hK, hN⟩ := id E
  obtain ⟨hx, hb, hml, hown, hts⟩ := id C
  unfold kX8_withWave at hB
  refine lv_iconst (v := 0) hx hb dX8_withWave_0 (by decide) ?_
  refine lv_istore (lv' := [(4, .int 0), (0, .ref (a 41)), (1, .int x1), (2, .int x2), (3, .int x3)]) hx hb dX8_withWave_1 hl (by decide) rfl (fun ls hl => ?_)
  refine lv_iconst (v := 0) hx hb dX8_withWave_3 (by decide) ?_
  refine lv_istore (lv' := [(5, .int 0), (4, .int 0), (0, .ref (a 41)), (1, .int x1), (2, .int x2), (3, .int x3)]) hx hb dX8_withWave_4 hl (by decide) rfl (fun ls hl => ?_)
  exact bkX8_withWave_6L fu _ _ _ _ _ _ hB p e s0 m below meth c A E H locs ls hP hD hS (lv_sub hl [2, 3, 4, 5, 1, 0] rfl)
theorem ckX8_withWave {l : Launch} {dC : Nat → ClassId} {dI : Nat → Nat → Nat} {cB cI cJ cZ cS : ClassId} {a : Nat → Nat} {r : Int32} {s' : KS} {s : KS} {x1 : Int32} {x2 : Int32} {x3 : Int32} (hB : kX8_withWave s x1 x2 x3 = some (r, s')) : CI l yX8_withWave wsX8_withWave ({ frames := 0, cells := 0, slots := 0, locals := 0 }) (dC, dI) (tysA cB cI cJ cZ cS) (wK cB cI cJ cZ cS a s) [.ref (a 41), .int x1, .int x2, .int x3] (fun x u => x = r ∧ u = (wK cB cI cJ cZ cS a s')) :=
  CI_of (cc := cX8_withWave) (maxL := 7) (ret := (some .int)) (by decide) rfl (Nat.le_of_ble_eq_true rfl) (bkX8_withWave _ _ _ _ hB)
theorem LX8_upTo_24 : Cond.fieldLink RX8 24 "GuessFerry$Tellers" "byLies" "[I" ∈ wsX8_upTo := (List.mem_cons_of_mem _ (List.mem_append_left _ (List.mem_of_getElem? (i := 0) rfl)))
theorem inX8_upTo_X8 : ∀ w ∈ u_ws RX8 TX8 8, w ∈ wsX8_upTo := fun _ h => List.mem_cons_of_mem _ (List.mem_append_right _ h)
set_option maxHeartbeats 4000000 in
set_option maxRecDepth 100000 in
theorem bkX8_upTo_4 {l : Launch} {dC : Nat → ClassId} {dI : Nat → Nat → Nat} {cB cI cJ cZ cS : ClassId} {a : Nat → Nat} {as : List Value} {r : Int32} {s' : KS} {k4 : KS → Int32 → Int32 → Int32 → Option (Int32 × KS)} (hk4 : ∀ (s : KS) (x1 : Int32) (x2 : Int32) (x3 : Int32), k4 s x1 x2 x3 = some (r, s') → BlkI l yX8_upTo wsX8_upTo ({ frames := 0, cells := 0, slots := 0, locals := 0 }) cX8_upTo 4 (some .int) (dC, dI) (tysA cB cI cJ cZ cS) as 4 (wK cB cI cJ cZ cS a s) [(0, .ref (a 41)), (1, .int x1), (2, .int x2), (3, .int x3)] [] (fun x u => x = r ∧ u = (wK cB cI cJ cZ cS a s'))) (s : KS) (x1 : Int32) (x2 : Int32) (x3 : Int32) (hB : kX8_upTo_4 k4 s x1 x2 x3 = some (r, s')) : BlkI l yX8_upTo wsX8_upTo ({ frames := 0, cells := 0, slots := 0, locals := 0 }) cX8_upTo 4 (some .int) (dC, dI) (tysA cB cI cJ cZ cS) as 4 (wK cB cI cJ cZ cS a s) [(0, .ref (a 41)), (1, .int x1), (2, .int x2), (3, .int x3)] [] (fun x u => x = r ∧ u = (wK cB cI cJ cZ cS a s')) := by
  intro p e s0 m below meth c A E H locs ls hP hD hS hl
  obtain ⟨C, hr, hlocks, hA, hK, hN⟩ := id E
  obtain ⟨hx, hb, hml, hown, hts⟩ := id C
  unfold kX8_upTo_4 at hB
  refine lv_iload_n hx hb dX8_upTo_4 rfl (lv_at hl 3 rfl) ?_
  refine lv_iload_n hx hb dX8_upTo_5 rfl (lv_at hl 1 rfl) ?_
  refine lv_icmp_gt (tgt := 29) hx hb dX8_upTo_6 (by decide) (fun c1 => ?_) (fun c1 => ?_)
  · have hB := if_p hB c1
    refine lv_iload_n hx hb dX8_upTo_29 rfl (lv_at hl 2 rfl) ?_
    exact q_iret C hr hlocks hK hP hD hS (Nat.le_of_ble_eq_true rfl) (Nat.le_of_ble_eq_true rfl) dX8_upTo_30 (by cases hB; exact ⟨rfl, rfl⟩)
  · have hB := if_n hB c1
    refine lv_iload_n hx hb dX8_upTo_9 rfl (lv_at hl 3 rfl) ?_
    refine lv_iconst (v := 3) hx hb dX8_upTo_10 (by decide) ?_
    refine lv_icmp_gt (tgt := 29) hx hb dX8_upTo_11 (by decide) (fun c2 => ?_) (fun c2 => ?_)
    · have hB := if_p hB c2
      refine lv_iload_n hx hb dX8_upTo_29 rfl (lv_at hl 2 rfl) ?_
      exact q_iret C hr hlocks hK hP hD hS (Nat.le_of_ble_eq_true rfl) (Nat.le_of_ble_eq_true rfl) dX8_upTo_30 (by cases hB; exact ⟨rfl, rfl⟩)
    · have hB := if_n hB c2
      refine lv_iload_n hx hb dX8_upTo_14 rfl (lv_at hl 2 rfl) ?_
      refine lv_aload_n hx hb dX8_upTo_15 rfl (lv_at hl 0 rfl) ?_
      refine q_get (v := .ref (a 46)) C inX8_upTo_X8 hK hP 41 rfl rfl 6 (by decide) rfl LX8_upTo_24 rfl dX8_upTo_16 ?_
      refine lv_iload_n hx hb dX8_upTo_19 rfl (lv_at hl 3 rfl) ?_
      obtain ⟨g3, hB⟩ := guard_inv hB
      refine q_iald (x := ((s.f 46) (Int32.toNatClampNeg x3))) C hK hP 46 1 rfl rfl (vpb_in g3) dX8_upTo_20 rfl ?_
      refine lv_iadd hx hb dX8_upTo_21 ?_
      refine lv_istore_n (lv' := [(2, .int (x2 + ((s.f 46) (Int32.toNatClampNeg x3)))), (0, .ref (a 41)), (1, .int x1), (3, .int x3)]) hx hb dX8_upTo_22 rfl hl (by decide) rfl (fun ls hl => ?_)
      refine lv_iinc (v := (x3 + 1)) (lv' := [(3, .int (x3 + 1)), (2, .int (x2 + ((s.f 46) (Int32.toNatClampNeg x3)))), (0, .ref (a 41)), (1, .int x1)]) hx hb dX8_upTo_23 hl (k := 3) rfl (rfl) (by decide) rfl (fun ls hl => ?_)
      refine lv_goto (tgt := 4) hx hb dX8_upTo_26 (by decide) ?_
      exact hk4 _ _ _ _ hB p e s0 m below meth c A E H locs ls hP hD hS (lv_sub hl [2, 3, 1, 0] rfl)
theorem bkX8_upTo_4L {l : Launch} {dC : Nat → ClassId} {dI : Nat → Nat → Nat} {cB cI cJ cZ cS : ClassId} {a : Nat → Nat} {as : List Value} {r : Int32} {s' : KS} : ∀ (n : Nat) (s : KS) (x1 : Int32) (x2 : Int32) (x3 : Int32), kX8_upTo_4L n s x1 x2 x3 = some (r, s') → BlkI l yX8_upTo wsX8_upTo ({ frames := 0, cells := 0, slots := 0, locals := 0 }) cX8_upTo 4 (some .int) (dC, dI) (tysA cB cI cJ cZ cS) as 4 (wK cB cI cJ cZ cS a s) [(0, .ref (a 41)), (1, .int x1), (2, .int x2), (3, .int x3)] [] (fun x u => x = r ∧ u = (wK cB cI cJ cZ cS a s')) := by
  intro n
  induction n with
  | zero => intro s x1 x2 x3 hB; exact none_ne hB
  | succ n ih => intro s x1 x2 x3 hB; exact bkX8_upTo_4 ih _ _ _ _ hB
set_option maxHeartbeats 4000000 in
set_option maxRecDepth 100000 in
theorem bkX8_upTo {l : Launch} {dC : Nat → ClassId} {dI : Nat → Nat → Nat} {cB cI cJ cZ cS : ClassId} {a : Nat → Nat} {as : List Value} {r : Int32} {s' : KS} (s : KS) (x1 : Int32) (hB : kX8_upTo s x1 = some (r, s')) : BlkI l yX8_upTo wsX8_upTo ({ frames := 0, cells := 0, slots := 0, locals := 0 }) cX8_upTo 4 (some .int) (dC, dI) (tysA cB cI cJ cZ cS) as 0 (wK cB cI cJ cZ cS a s) [(0, .ref (a 41)), (1, .int x1)] [] (fun x u => x = r ∧ u = (wK cB cI cJ cZ cS a s')) := by
  intro p e s0 m below meth c A E H locs ls hP hD hS hl
  obtain ⟨C, hr, hlocks, hA, hK, hN⟩ := id E
  obtain ⟨hx, hb, hml, hown, hts⟩ := id C
  unfold kX8_upTo at hB
  refine lv_iconst (v := 0) hx hb dX8_upTo_0 (by decide) ?_
  refine lv_istore_n (lv' := [(2, .int 0), (0, .ref (a 41)), (1, .int x1)]) hx hb dX8_upTo_1 rfl hl (by decide) rfl (fun ls hl => ?_)
  refine lv_iconst (v := 0) hx hb dX8_upTo_2 (by decide) ?_
  refine lv_istore_n (lv' := [(3, .int 0), (2, .int 0), (0, .ref (a 41)), (1, .int x1)]) hx hb dX8_upTo_3 rfl hl (by decide) rfl (fun ls hl => ?_)
  exact bkX8_upTo_4L fu _ _ _ _ hB p e s0 m below meth c A E H locs ls hP hD hS (lv_sub hl [2, 3, 1, 0] rfl)
theorem ckX8_upTo {l : Launch} {dC : Nat → ClassId} {dI : Nat → Nat → Nat} {cB cI cJ cZ cS : ClassId} {a : Nat → Nat} {r : Int32} {s' : KS} {s : KS} {x1 : Int32} (hB : kX8_upTo s x1 = some (r, s')) : CI l yX8_upTo wsX8_upTo ({ frames := 0, cells := 0, slots := 0, locals := 0 }) (dC, dI) (tysA cB cI cJ cZ cS) (wK cB cI cJ cZ cS a s) [.ref (a 41), .int x1] (fun x u => x = r ∧ u = (wK cB cI cJ cZ cS a s')) :=
  CI_of (cc := cX8_upTo) (maxL := 4) (ret := (some .int)) (by decide) rfl (Nat.le_of_ble_eq_true rfl) (bkX8_upTo _ _ hB)
theorem LX8_fittingWith_18 : Cond.fieldLink RX8 18 "GuessFerry$Tellers" "odds" "[I" ∈ wsX8_fittingWith := (List.mem_cons_of_mem _ (List.mem_append_left _ (List.mem_append_left _ (List.mem_of_getElem? (i := 0) rfl))))
theorem LX8_fittingWith_21 : Cond.fieldLink RX8 21 "GuessFerry$Tellers" "belied" "[I" ∈ wsX8_fittingWith := (List.mem_cons_of_mem _ (List.mem_append_left _ (List.mem_append_left _ (List.mem_of_getElem? (i := 1) rfl))))
theorem inX8_fittingWith_X8 : ∀ w ∈ u_ws RX8 TX8 8, w ∈ wsX8_fittingWith := fun w h => (List.mem_cons_of_mem _ (List.mem_append_right _ h))
set_option maxHeartbeats 4000000 in
set_option maxRecDepth 100000 in
theorem bkX8_fittingWith {l : Launch} {dC : Nat → ClassId} {dI : Nat → Nat → Nat} {cB cI cJ cZ cS : ClassId} {a : Nat → Nat} {as : List Value} {r : Int32} {s' : KS} (s : KS) (x1 : Int32) (x2 : Int32) (x3 : Int32) (hB : kX8_fittingWith s x1 x2 x3 = some (r, s')) : BlkI l yX8_fittingWith wsX8_fittingWith ({ frames := 1, cells := 0, slots := 0, locals := 23 }) cX8_fittingWith 5 (some .int) (dC, dI) (tysA cB cI cJ cZ cS) as 0 (wK cB cI cJ cZ cS a s) [(0, .ref (a 41)), (1, .int x1), (2, .int x2), (3, .int x3)] [] (fun x u => x = r ∧ u = (wK cB cI cJ cZ cS a s')) := by
  intro p e s0 m below meth c A E H locs ls hP hD hS hl
  obtain ⟨C, hr, hlocks, hA, hK, hN⟩ := id E
  obtain ⟨hx, hb, hml, hown, hts⟩ := id C
  unfold kX8_fittingWith at hB
  refine lv_iload_n hx hb dX8_fittingWith_0 rfl (lv_at hl 1 rfl) ?_
  refine lv_bipush (v := 6) hx hb dX8_fittingWith_1 (by decide) ?_
  refine lv_imul hx hb dX8_fittingWith_3 ?_
  refine lv_iload_n hx hb dX8_fittingWith_4 rfl (lv_at hl 2 rfl) ?_
  refine lv_iadd hx hb dX8_fittingWith_5 ?_
  refine lv_istore (lv' := [(4, .int ((x1 * 6) + x2)), (0, .ref (a 41)), (1, .int x1), (2, .int x2), (3, .int x3)]) hx hb dX8_fittingWith_6 hl (by decide) rfl (fun ls hl => ?_)
  refine lv_aload_n hx hb dX8_fittingWith_8 rfl (lv_at hl 1 rfl) ?_
  refine q_get (v := .ref (a 44)) C inX8_fittingWith_X8 hK hP 41 rfl rfl 4 (by decide) rfl LX8_fittingWith_18 rfl dX8_fittingWith_9 ?_
  refine lv_iload hx hb dX8_fittingWith_12 (lv_at hl 0 rfl) ?_
  obtain ⟨g1, hB⟩ := guard_inv hB
  refine q_iald (x := ((s.f 44) (Int32.toNatClampNeg ((x1 * 6) + x2)))) C hK hP 44 1 rfl rfl (vpb_in g1) dX8_fittingWith_14 rfl ?_
  refine lv_if_le (tgt := 34) hx hb dX8_fittingWith_15 (by decide) (fun c2 => ?_) (fun c2 => ?_)
  · have hB := if_p hB c2
    refine lv_iconst (v := 0) hx hb dX8_fittingWith_34 (by decide) ?_
    exact q_iret C hr hlocks hK hP hD hS (Nat.le_of_ble_eq_true rfl) (Nat.le_of_ble_eq_true rfl) dX8_fittingWith_35 (by cases hB; exact ⟨rfl, rfl⟩)
  · have hB := if_n hB c2
    refine lv_aload_n hx hb dX8_fittingWith_18 rfl (lv_at hl 1 rfl) ?_
    refine lv_iload_n hx hb dX8_fittingWith_19 rfl (lv_at hl 4 rfl) ?_
    refine lv_aload_n hx hb dX8_fittingWith_20 rfl (lv_at hl 1 rfl) ?_
    refine q_get (v := .ref (a 45)) C inX8_fittingWith_X8 hK hP 41 rfl rfl 5 (by decide) rfl LX8_fittingWith_21 rfl dX8_fittingWith_21 ?_
    refine lv_iload hx hb dX8_fittingWith_24 (lv_at hl 0 rfl) ?_
    obtain ⟨g3, hB⟩ := guard_inv hB
    refine q_iald (x := ((s.f 45) (Int32.toNatClampNeg ((x1 * 6) + x2)))) C hK hP 45 1 rfl rfl (vpb_in g3) dX8_fittingWith_26 rfl ?_
    refine lv_isub hx hb dX8_fittingWith_27 ?_
    obtain ⟨q_, s4, hc, hB⟩ := bindI_inv hB
    refine q_goiF (va_runV (As := [.int (x3 - ((s.f 45) (Int32.toNatClampNeg ((x1 * 6) + x2))))]) (rest := []) C (ckX8_upTo hc _) (cwV 1 hts gX8_fittingWith_X8_upTo rfl rfl rfl (by decide +kernel) ⟨Nat.le_of_ble_eq_true rfl, Nat.le_of_ble_eq_true rfl⟩) (q_preV hK hP (ci := 8) (q0 := 41) rfl rfl rfl (q_preF hN hK hP hD)) rfl rfl hl.1 rfl (lv_room (Nat.le_of_ble_eq_true rfl)) dX8_fittingWith_28 ⟨Nat.le_of_ble_eq_true rfl, Nat.le_of_ble_eq_true rfl⟩) hD hS hA (fun r5 w1 H locs hw hP hD hS => ?_)
    obtain ⟨hq_, hw⟩ := hw; subst hw; subst hq_
    refine lv_goto (tgt := 35) hx hb dX8_fittingWith_31 (by decide) ?_
    exact q_iret C hr hlocks hK hP hD hS (Nat.le_of_ble_eq_true rfl) (Nat.le_of_ble_eq_true rfl) dX8_fittingWith_35 (by cases hB; exact ⟨rfl, rfl⟩)
theorem ckX8_fittingWith {l : Launch} {dC : Nat → ClassId} {dI : Nat → Nat → Nat} {cB cI cJ cZ cS : ClassId} {a : Nat → Nat} {r : Int32} {s' : KS} {s : KS} {x1 : Int32} {x2 : Int32} {x3 : Int32} (hB : kX8_fittingWith s x1 x2 x3 = some (r, s')) : CI l yX8_fittingWith wsX8_fittingWith ({ frames := 1, cells := 0, slots := 0, locals := 23 }) (dC, dI) (tysA cB cI cJ cZ cS) (wK cB cI cJ cZ cS a s) [.ref (a 41), .int x1, .int x2, .int x3] (fun x u => x = r ∧ u = (wK cB cI cJ cZ cS a s')) :=
  CI_of (cc := cX8_fittingWith) (maxL := 5) (ret := (some .int)) (by decide) rfl (Nat.le_of_ble_eq_true rfl) (bkX8_fittingWith _ _ _ _ hB)
set_option maxHeartbeats 4000000 in
set_option maxRecDepth 100000 in
theorem bkX9_isBlank {l : Launch} {dC : Nat → ClassId} {dI : Nat → Nat → Nat} {cB cI cJ cZ cS : ClassId} {as : List Value} {r : Int32} (x0 : Int32) (hB : kX9_isBlank x0 = some r) : BlkI l yX9_isBlank wsX9_isBlank ({ frames := 0, cells := 0, slots := 0, locals := 0 }) cX9_isBlank 1 (some .boolean) (dC, dI) (tysA cB cI cJ cZ cS) as 0 [] [(0, .int x0)] [] (fun x _ => x = r) := by
  intro p e s0 m below meth c A E H locs ls hP hD hS hl
  obtain ⟨C, hr, hlocks, hA, hK, hN⟩ := id E
  obtain ⟨hx, hb, hml, hown, hts⟩ := id C
  unfold kX9_isBlank at hB
  refine lv_iload_n hx hb dX9_isBlank_0 rfl (lv_at hl 0 rfl) ?_
  refine lv_bipush (v := 9) hx hb dX9_isBlank_1 (by decide) ?_
  refine lv_icmp_eq (tgt := 24) hx hb dX9_isBlank_3 (by decide) (fun c1 => ?_) (fun c1 => ?_)
  · have hB := if_p hB c1
    refine lv_iconst (v := 1) hx hb dX9_isBlank_24 (by decide) ?_
    refine lv_goto (tgt := 29) hx hb dX9_isBlank_25 (by decide) ?_
    exact q_zret C hr hlocks (Or.inr rfl) hK hP hD hS (Nat.le_of_ble_eq_true rfl) (Nat.le_of_ble_eq_true rfl) dX9_isBlank_29 (by cases hB; rfl)
  · have hB := if_n hB c1
    refine lv_iload_n hx hb dX9_isBlank_6 rfl (lv_at hl 0 rfl) ?_
    refine lv_bipush (v := 10) hx hb dX9_isBlank_7 (by decide) ?_
    refine lv_icmp_eq (tgt := 24) hx hb dX9_isBlank_9 (by decide) (fun c2 => ?_) (fun c2 => ?_)
    · have hB := if_p hB c2
      refine lv_iconst (v := 1) hx hb dX9_isBlank_24 (by decide) ?_
      refine lv_goto (tgt := 29) hx hb dX9_isBlank_25 (by decide) ?_
      exact q_zret C hr hlocks (Or.inr rfl) hK hP hD hS (Nat.le_of_ble_eq_true rfl) (Nat.le_of_ble_eq_true rfl) dX9_isBlank_29 (by cases hB; rfl)
    · have hB := if_n hB c2
      refine lv_iload_n hx hb dX9_isBlank_12 rfl (lv_at hl 0 rfl) ?_
      refine lv_bipush (v := 13) hx hb dX9_isBlank_13 (by decide) ?_
      refine lv_icmp_eq (tgt := 24) hx hb dX9_isBlank_15 (by decide) (fun c3 => ?_) (fun c3 => ?_)
      · have hB := if_p hB c3
        refine lv_iconst (v := 1) hx hb dX9_isBlank_24 (by decide) ?_
        refine lv_goto (tgt := 29) hx hb dX9_isBlank_25 (by decide) ?_
        exact q_zret C hr hlocks (Or.inr rfl) hK hP hD hS (Nat.le_of_ble_eq_true rfl) (Nat.le_of_ble_eq_true rfl) dX9_isBlank_29 (by cases hB; rfl)
      · have hB := if_n hB c3
        refine lv_iload_n hx hb dX9_isBlank_18 rfl (lv_at hl 0 rfl) ?_
        refine lv_bipush (v := 32) hx hb dX9_isBlank_19 (by decide) ?_
        refine lv_icmp_ne (tgt := 28) hx hb dX9_isBlank_21 (by decide) (fun c4 => ?_) (fun c4 => ?_)
        · have hB := if_n hB c4
          refine lv_iconst (v := 0) hx hb dX9_isBlank_28 (by decide) ?_
          exact q_zret C hr hlocks (Or.inl rfl) hK hP hD hS (Nat.le_of_ble_eq_true rfl) (Nat.le_of_ble_eq_true rfl) dX9_isBlank_29 (by cases hB; rfl)
        · have hB := if_p hB c4
          refine lv_iconst (v := 1) hx hb dX9_isBlank_24 (by decide) ?_
          refine lv_goto (tgt := 29) hx hb dX9_isBlank_25 (by decide) ?_
          exact q_zret C hr hlocks (Or.inr rfl) hK hP hD hS (Nat.le_of_ble_eq_true rfl) (Nat.le_of_ble_eq_true rfl) dX9_isBlank_29 (by cases hB; rfl)
theorem ckX9_isBlank {l : Launch} {dC : Nat → ClassId} {dI : Nat → Nat → Nat} {cB cI cJ cZ cS : ClassId} {r : Int32} {x0 : Int32} (hB : kX9_isBlank x0 = some r) : CI l yX9_isBlank wsX9_isBlank ({ frames := 0, cells := 0, slots := 0, locals := 0 }) (dC, dI) (tysA cB cI cJ cZ cS) [] [.int x0] (fun x _ => x = r) :=
  CI_of (cc := cX9_isBlank) (maxL := 1) (ret := (some .boolean)) (by decide) rfl (Nat.le_of_ble_eq_true rfl) (bkX9_isBlank _ hB)
end
section
theorem dX9_isLetter_0 : decode cX9_isLetter 0 = .ok (.iload_n 0, 1) := dc1_26 (by decide +kernel)
theorem dX9_isLetter_1 : decode cX9_isLetter 1 = .ok (.bipush 97, 2) := dcb_16 (n := 97) (by decide +kernel)
theorem dX9_isLetter_3 : decode cX9_isLetter 3 = .ok (.if_icmp .lt 13, 3) := dcs_161 (n := 13) (by decide +kernel)
theorem dX9_isLetter_6 : decode cX9_isLetter 6 = .ok (.iload_n 0, 1) := dc1_26 (by decide +kernel)
theorem dX9_isLetter_7 : decode cX9_isLetter 7 = .ok (.bipush 122, 2) := dcb_16 (n := 122) (by decide +kernel)
theorem dX9_isLetter_9 : decode cX9_isLetter 9 = .ok (.if_icmp .gt 7, 3) := dcs_163 (n := 7) (by decide +kernel)
theorem dX9_isLetter_12 : decode cX9_isLetter 12 = .ok (.iconst 1, 1) := dc1_4 (by decide +kernel)
theorem dX9_isLetter_13 : decode cX9_isLetter 13 = .ok (.goto 4, 3) := dcs_167 (n := 4) (by decide +kernel)
theorem dX9_isLetter_16 : decode cX9_isLetter 16 = .ok (.iconst 0, 1) := dc1_3 (by decide +kernel)
theorem dX9_isLetter_17 : decode cX9_isLetter 17 = .ok (.ireturn, 1) := dc1_172 (by decide +kernel)
theorem dX9_isDigit_0 : decode cX9_isDigit 0 = .ok (.iload_n 0, 1) := dc1_26 (by decide +kernel)
theorem dX9_isDigit_1 : decode cX9_isDigit 1 = .ok (.bipush 48, 2) := dcb_16 (n := 48) (by decide +kernel)
theorem dX9_isDigit_3 : decode cX9_isDigit 3 = .ok (.if_icmp .lt 13, 3) := dcs_161 (n := 13) (by decide +kernel)
theorem dX9_isDigit_6 : decode cX9_isDigit 6 = .ok (.iload_n 0, 1) := dc1_26 (by decide +kernel)
theorem dX9_isDigit_7 : decode cX9_isDigit 7 = .ok (.bipush 57, 2) := dcb_16 (n := 57) (by decide +kernel)
theorem dX9_isDigit_9 : decode cX9_isDigit 9 = .ok (.if_icmp .gt 7, 3) := dcs_163 (n := 7) (by decide +kernel)
theorem dX9_isDigit_12 : decode cX9_isDigit 12 = .ok (.iconst 1, 1) := dc1_4 (by decide +kernel)
theorem dX9_isDigit_13 : decode cX9_isDigit 13 = .ok (.goto 4, 3) := dcs_167 (n := 4) (by decide +kernel)
theorem dX9_isDigit_16 : decode cX9_isDigit 16 = .ok (.iconst 0, 1) := dc1_3 (by decide +kernel)
theorem dX9_isDigit_17 : decode cX9_isDigit 17 = .ok (.ireturn, 1) := dc1_172 (by decide +kernel)
theorem dX9_withLetter_0 : decode cX9_withLetter 0 = .ok (.lload_n 0, 1) := dc1_30 (by decide +kernel)
theorem dX9_withLetter_1 : decode cX9_withLetter 1 = .ok (.iconst 5, 1) := dc1_8 (by decide +kernel)
theorem dX9_withLetter_2 : decode cX9_withLetter 2 = .ok (.lshl, 1) := dc1_121 (by decide +kernel)
theorem dX9_withLetter_3 : decode cX9_withLetter 3 = .ok (.iload_n 2, 1) := dc1_28 (by decide +kernel)
theorem dX9_withLetter_4 : decode cX9_withLetter 4 = .ok (.bipush 97, 2) := dcb_16 (n := 97) (by decide +kernel)
theorem dX9_withLetter_6 : decode cX9_withLetter 6 = .ok (.isub, 1) := dc1_100 (by decide +kernel)
theorem dX9_withLetter_7 : decode cX9_withLetter 7 = .ok (.iconst 1, 1) := dc1_4 (by decide +kernel)
theorem dX9_withLetter_8 : decode cX9_withLetter 8 = .ok (.iadd, 1) := dc1_96 (by decide +kernel)
theorem dX9_withLetter_9 : decode cX9_withLetter 9 = .ok (.i2l, 1) := dc1_133 (by decide +kernel)
theorem dX9_withLetter_10 : decode cX9_withLetter 10 = .ok (.lor, 1) := dc1_129 (by decide +kernel)
theorem dX9_withLetter_11 : decode cX9_withLetter 11 = .ok (.lreturn, 1) := dc1_173 (by decide +kernel)
theorem ggX9_skipBlanks_X7_byteAt : GoodIn wsX9_skipBlanks wsX7_byteAt := gi_sub (fun w h => List.mem_cons_of_mem _ (List.mem_append_left _ (List.mem_append_left _ (List.mem_append_right _ (List.mem_append_left _ h))))) gd_wsX7_byteAt
set_option maxRecDepth 20000 in
theorem gX9_skipBlanks_X7_byteAt_n65 : GoodIn wsX9_skipBlanks (wsX7_byteAt) := ggX9_skipBlanks_X7_byteAt
theorem ggX9_skipBlanks_X9_isBlank : GoodIn wsX9_skipBlanks wsX9_isBlank := gi_sub (fun w h => List.mem_cons_of_mem _ (List.mem_append_left _ (List.mem_append_left _ (List.mem_append_right _ (List.mem_append_right _ h))))) gd_wsX9_isBlank
set_option maxRecDepth 20000 in
theorem gX9_skipBlanks_X9_isBlank : GoodIn wsX9_skipBlanks (va_wsS RX9 69 yX9_isBlank wsX9_isBlank) := goodIn_app (goodIn_of _ (by decide +kernel)) ggX9_skipBlanks_X9_isBlank
theorem dX9_skipBlanks_0 : decode cX9_skipBlanks 0 = .ok (.aload_n 0, 1) := dc1_42 (by decide +kernel)
theorem dX9_skipBlanks_1 : decode cX9_skipBlanks 1 = .ok (.getfield 47, 3) := dcw_180 (by decide +kernel)
theorem dX9_skipBlanks_4 : decode cX9_skipBlanks 4 = .ok (.aload_n 0, 1) := dc1_42 (by decide +kernel)
theorem dX9_skipBlanks_5 : decode cX9_skipBlanks 5 = .ok (.getfield 23, 3) := dcw_180 (by decide +kernel)
theorem dX9_skipBlanks_8 : decode cX9_skipBlanks 8 = .ok (.getfield 61, 3) := dcw_180 (by decide +kernel)
theorem dX9_skipBlanks_11 : decode cX9_skipBlanks 11 = .ok (.if_icmp .ge 33, 3) := dcs_162 (n := 33) (by decide +kernel)
theorem dX9_skipBlanks_14 : decode cX9_skipBlanks 14 = .ok (.aload_n 0, 1) := dc1_42 (by decide +kernel)
theorem dX9_skipBlanks_15 : decode cX9_skipBlanks 15 = .ok (.getfield 23, 3) := dcw_180 (by decide +kernel)
theorem dX9_skipBlanks_18 : decode cX9_skipBlanks 18 = .ok (.aload_n 0, 1) := dc1_42 (by decide +kernel)
theorem dX9_skipBlanks_19 : decode cX9_skipBlanks 19 = .ok (.getfield 47, 3) := dcw_180 (by decide +kernel)
theorem dX9_skipBlanks_22 : decode cX9_skipBlanks 22 = .ok (.invokevirtual 65, 3) := dcw_182 (by decide +kernel)
theorem dX9_skipBlanks_25 : decode cX9_skipBlanks 25 = .ok (.invokestatic 69, 3) := dcw_184 (by decide +kernel)
theorem dX9_skipBlanks_28 : decode cX9_skipBlanks 28 = .ok (.ifCond .eq 16, 3) := dcs_153 (n := 16) (by decide +kernel)
theorem dX9_skipBlanks_31 : decode cX9_skipBlanks 31 = .ok (.aload_n 0, 1) := dc1_42 (by decide +kernel)
theorem dX9_skipBlanks_32 : decode cX9_skipBlanks 32 = .ok (.dup, 1) := dc1_89 (by decide +kernel)
theorem dX9_skipBlanks_33 : decode cX9_skipBlanks 33 = .ok (.getfield 47, 3) := dcw_180 (by decide +kernel)
theorem dX9_skipBlanks_36 : decode cX9_skipBlanks 36 = .ok (.iconst 1, 1) := dc1_4 (by decide +kernel)
theorem dX9_skipBlanks_37 : decode cX9_skipBlanks 37 = .ok (.iadd, 1) := dc1_96 (by decide +kernel)
theorem dX9_skipBlanks_38 : decode cX9_skipBlanks 38 = .ok (.putfield 47, 3) := dcw_181 (by decide +kernel)
theorem dX9_skipBlanks_41 : decode cX9_skipBlanks 41 = .ok (.goto (-41), 3) := dcs_167 (n := 65495) (by decide +kernel)
theorem dX9_skipBlanks_44 : decode cX9_skipBlanks 44 = .ok (.return_, 1) := dc1_177 (by decide +kernel)
theorem ggX9_splitLetters_X7_byteAt : GoodIn wsX9_splitLetters wsX7_byteAt := gi_sub (fun w h => List.mem_cons_of_mem _ (List.mem_append_left _ (List.mem_append_left _ (List.mem_append_right _ (List.mem_append_left _ h))))) gd_wsX7_byteAt
set_option maxRecDepth 20000 in
theorem gX9_splitLetters_X7_byteAt_n65 : GoodIn wsX9_splitLetters (wsX7_byteAt) := ggX9_splitLetters_X7_byteAt
theorem ggX9_splitLetters_X9_isLetter : GoodIn wsX9_splitLetters wsX9_isLetter := gi_sub (fun w h => List.mem_cons_of_mem _ (List.mem_append_left _ (List.mem_append_left _ (List.mem_append_right _ (List.mem_append_right _ (List.mem_append_left _ h)))))) gd_wsX9_isLetter
set_option maxRecDepth 20000 in
theorem gX9_splitLetters_X9_isLetter : GoodIn wsX9_splitLetters (va_wsS RX9 39 yX9_isLetter wsX9_isLetter) := goodIn_app (goodIn_of _ (by decide +kernel)) ggX9_splitLetters_X9_isLetter
theorem ggX9_splitLetters_X9_withLetter : GoodIn wsX9_splitLetters wsX9_withLetter := gi_sub (fun w h => List.mem_cons_of_mem _ (List.mem_append_left _ (List.mem_append_left _ (List.mem_append_right _ (List.mem_append_right _ (List.mem_append_right _ h)))))) gd_wsX9_withLetter
set_option maxRecDepth 20000 in
theorem gX9_splitLetters_X9_withLetter : GoodIn wsX9_splitLetters (va_wsS RX9 43 yX9_withLetter wsX9_withLetter) := goodIn_app (goodIn_of _ (by decide +kernel)) ggX9_splitLetters_X9_withLetter
theorem dX9_splitLetters_0 : decode cX9_splitLetters 0 = .ok (.aload_n 0, 1) := dc1_42 (by decide +kernel)
theorem dX9_splitLetters_1 : decode cX9_splitLetters 1 = .ok (.getfield 47, 3) := dcw_180 (by decide +kernel)
theorem dX9_splitLetters_4 : decode cX9_splitLetters 4 = .ok (.istore_n 1, 1) := dc1_60 (by decide +kernel)
theorem dX9_splitLetters_5 : decode cX9_splitLetters 5 = .ok (.aload_n 0, 1) := dc1_42 (by decide +kernel)
theorem dX9_splitLetters_6 : decode cX9_splitLetters 6 = .ok (.getfield 47, 3) := dcw_180 (by decide +kernel)
theorem dX9_splitLetters_9 : decode cX9_splitLetters 9 = .ok (.aload_n 0, 1) := dc1_42 (by decide +kernel)
theorem dX9_splitLetters_10 : decode cX9_splitLetters 10 = .ok (.getfield 23, 3) := dcw_180 (by decide +kernel)
theorem dX9_splitLetters_13 : decode cX9_splitLetters 13 = .ok (.getfield 61, 3) := dcw_180 (by decide +kernel)
theorem dX9_splitLetters_16 : decode cX9_splitLetters 16 = .ok (.if_icmp .ge 55, 3) := dcs_162 (n := 55) (by decide +kernel)
theorem dX9_splitLetters_19 : decode cX9_splitLetters 19 = .ok (.aload_n 0, 1) := dc1_42 (by decide +kernel)
theorem dX9_splitLetters_20 : decode cX9_splitLetters 20 = .ok (.getfield 23, 3) := dcw_180 (by decide +kernel)
theorem dX9_splitLetters_23 : decode cX9_splitLetters 23 = .ok (.aload_n 0, 1) := dc1_42 (by decide +kernel)
theorem dX9_splitLetters_24 : decode cX9_splitLetters 24 = .ok (.getfield 47, 3) := dcw_180 (by decide +kernel)
theorem dX9_splitLetters_27 : decode cX9_splitLetters 27 = .ok (.invokevirtual 65, 3) := dcw_182 (by decide +kernel)
theorem dX9_splitLetters_30 : decode cX9_splitLetters 30 = .ok (.invokestatic 39, 3) := dcw_184 (by decide +kernel)
theorem dX9_splitLetters_33 : decode cX9_splitLetters 33 = .ok (.ifCond .eq 38, 3) := dcs_153 (n := 38) (by decide +kernel)
theorem dX9_splitLetters_36 : decode cX9_splitLetters 36 = .ok (.aload_n 0, 1) := dc1_42 (by decide +kernel)
theorem dX9_splitLetters_37 : decode cX9_splitLetters 37 = .ok (.aload_n 0, 1) := dc1_42 (by decide +kernel)
theorem dX9_splitLetters_38 : decode cX9_splitLetters 38 = .ok (.getfield 57, 3) := dcw_180 (by decide +kernel)
theorem dX9_splitLetters_41 : decode cX9_splitLetters 41 = .ok (.aload_n 0, 1) := dc1_42 (by decide +kernel)
theorem dX9_splitLetters_42 : decode cX9_splitLetters 42 = .ok (.getfield 23, 3) := dcw_180 (by decide +kernel)
theorem dX9_splitLetters_45 : decode cX9_splitLetters 45 = .ok (.aload_n 0, 1) := dc1_42 (by decide +kernel)
theorem dX9_splitLetters_46 : decode cX9_splitLetters 46 = .ok (.getfield 47, 3) := dcw_180 (by decide +kernel)
theorem dX9_splitLetters_49 : decode cX9_splitLetters 49 = .ok (.invokevirtual 65, 3) := dcw_182 (by decide +kernel)
theorem dX9_splitLetters_52 : decode cX9_splitLetters 52 = .ok (.invokestatic 43, 3) := dcw_184 (by decide +kernel)
theorem dX9_splitLetters_55 : decode cX9_splitLetters 55 = .ok (.putfield 57, 3) := dcw_181 (by decide +kernel)
theorem dX9_splitLetters_58 : decode cX9_splitLetters 58 = .ok (.aload_n 0, 1) := dc1_42 (by decide +kernel)
theorem dX9_splitLetters_59 : decode cX9_splitLetters 59 = .ok (.dup, 1) := dc1_89 (by decide +kernel)
theorem dX9_splitLetters_60 : decode cX9_splitLetters 60 = .ok (.getfield 47, 3) := dcw_180 (by decide +kernel)
theorem dX9_splitLetters_63 : decode cX9_splitLetters 63 = .ok (.iconst 1, 1) := dc1_4 (by decide +kernel)
theorem dX9_splitLetters_64 : decode cX9_splitLetters 64 = .ok (.iadd, 1) := dc1_96 (by decide +kernel)
theorem dX9_splitLetters_65 : decode cX9_splitLetters 65 = .ok (.putfield 47, 3) := dcw_181 (by decide +kernel)
theorem dX9_splitLetters_68 : decode cX9_splitLetters 68 = .ok (.goto (-63), 3) := dcs_167 (n := 65473) (by decide +kernel)
theorem dX9_splitLetters_71 : decode cX9_splitLetters 71 = .ok (.aload_n 0, 1) := dc1_42 (by decide +kernel)
theorem dX9_splitLetters_72 : decode cX9_splitLetters 72 = .ok (.getfield 47, 3) := dcw_180 (by decide +kernel)
theorem dX9_splitLetters_75 : decode cX9_splitLetters 75 = .ok (.iload_n 1, 1) := dc1_27 (by decide +kernel)
theorem dX9_splitLetters_76 : decode cX9_splitLetters 76 = .ok (.isub, 1) := dc1_100 (by decide +kernel)
theorem dX9_splitLetters_77 : decode cX9_splitLetters 77 = .ok (.bipush 8, 2) := dcb_16 (n := 8) (by decide +kernel)
theorem dX9_splitLetters_79 : decode cX9_splitLetters 79 = .ok (.if_icmp .le 7, 3) := dcs_164 (n := 7) (by decide +kernel)
theorem dX9_splitLetters_82 : decode cX9_splitLetters 82 = .ok (.sipush 303, 3) := dcs_17 (n := 303) (by decide +kernel)
theorem dX9_splitLetters_85 : decode cX9_splitLetters 85 = .ok (.ireturn, 1) := dc1_172 (by decide +kernel)
theorem dX9_splitLetters_86 : decode cX9_splitLetters 86 = .ok (.iconst 0, 1) := dc1_3 (by decide +kernel)
theorem dX9_splitLetters_87 : decode cX9_splitLetters 87 = .ok (.istore_n 2, 1) := dc1_61 (by decide +kernel)
theorem dX9_splitLetters_88 : decode cX9_splitLetters 88 = .ok (.iload_n 2, 1) := dc1_28 (by decide +kernel)
theorem dX9_splitLetters_89 : decode cX9_splitLetters 89 = .ok (.bipush 19, 2) := dcb_16 (n := 19) (by decide +kernel)
theorem dX9_splitLetters_91 : decode cX9_splitLetters 91 = .ok (.if_icmp .ge 29, 3) := dcs_162 (n := 29) (by decide +kernel)
theorem dX9_splitLetters_94 : decode cX9_splitLetters 94 = .ok (.aload_n 0, 1) := dc1_42 (by decide +kernel)
theorem dX9_splitLetters_95 : decode cX9_splitLetters 95 = .ok (.getfield 9, 3) := dcw_180 (by decide +kernel)
theorem dX9_splitLetters_98 : decode cX9_splitLetters 98 = .ok (.iload_n 2, 1) := dc1_28 (by decide +kernel)
theorem dX9_splitLetters_99 : decode cX9_splitLetters 99 = .ok (.laload, 1) := dc1_47 (by decide +kernel)
theorem dX9_splitLetters_100 : decode cX9_splitLetters 100 = .ok (.aload_n 0, 1) := dc1_42 (by decide +kernel)
theorem dX9_splitLetters_101 : decode cX9_splitLetters 101 = .ok (.getfield 57, 3) := dcw_180 (by decide +kernel)
theorem dX9_splitLetters_104 : decode cX9_splitLetters 104 = .ok (.lcmp, 1) := dc1_148 (by decide +kernel)
theorem dX9_splitLetters_105 : decode cX9_splitLetters 105 = .ok (.ifCond .ne 9, 3) := dcs_154 (n := 9) (by decide +kernel)
theorem dX9_splitLetters_108 : decode cX9_splitLetters 108 = .ok (.sipush 256, 3) := dcs_17 (n := 256) (by decide +kernel)
theorem dX9_splitLetters_111 : decode cX9_splitLetters 111 = .ok (.iload_n 2, 1) := dc1_28 (by decide +kernel)
theorem dX9_splitLetters_112 : decode cX9_splitLetters 112 = .ok (.iadd, 1) := dc1_96 (by decide +kernel)
theorem dX9_splitLetters_113 : decode cX9_splitLetters 113 = .ok (.ireturn, 1) := dc1_172 (by decide +kernel)
theorem dX9_splitLetters_114 : decode cX9_splitLetters 114 = .ok (.iinc 2 1, 3) := dc_iinc (m := 1) (by decide +kernel)
theorem dX9_splitLetters_117 : decode cX9_splitLetters 117 = .ok (.goto (-29), 3) := dcs_167 (n := 65507) (by decide +kernel)
theorem dX9_splitLetters_120 : decode cX9_splitLetters 120 = .ok (.sipush 300, 3) := dcs_17 (n := 300) (by decide +kernel)
theorem dX9_splitLetters_123 : decode cX9_splitLetters 123 = .ok (.ireturn, 1) := dc1_172 (by decide +kernel)
theorem ggX9_splitDigits_X7_byteAt : GoodIn wsX9_splitDigits wsX7_byteAt := gi_sub (fun w h => List.mem_cons_of_mem _ (List.mem_append_left _ (List.mem_append_left _ (List.mem_append_right _ (List.mem_append_left _ h))))) gd_wsX7_byteAt
set_option maxRecDepth 20000 in
theorem gX9_splitDigits_X7_byteAt_n65 : GoodIn wsX9_splitDigits (wsX7_byteAt) := ggX9_splitDigits_X7_byteAt
theorem ggX9_splitDigits_X9_isDigit : GoodIn wsX9_splitDigits wsX9_isDigit := gi_sub (fun w h => List.mem_cons_of_mem _ (List.mem_append_left _ (List.mem_append_left _ (List.mem_append_right _ (List.mem_append_right _ h))))) gd_wsX9_isDigit
set_option maxRecDepth 20000 in
theorem gX9_splitDigits_X9_isDigit : GoodIn wsX9_splitDigits (va_wsS RX9 75 yX9_isDigit wsX9_isDigit) := goodIn_app (goodIn_of _ (by decide +kernel)) ggX9_splitDigits_X9_isDigit
theorem dX9_splitDigits_0 : decode cX9_splitDigits 0 = .ok (.aload_n 0, 1) := dc1_42 (by decide +kernel)
theorem dX9_splitDigits_1 : decode cX9_splitDigits 1 = .ok (.getfield 47, 3) := dcw_180 (by decide +kernel)
theorem dX9_splitDigits_4 : decode cX9_splitDigits 4 = .ok (.istore_n 1, 1) := dc1_60 (by decide +kernel)
theorem dX9_splitDigits_5 : decode cX9_splitDigits 5 = .ok (.aload_n 0, 1) := dc1_42 (by decide +kernel)
theorem dX9_splitDigits_6 : decode cX9_splitDigits 6 = .ok (.getfield 47, 3) := dcw_180 (by decide +kernel)
theorem dX9_splitDigits_9 : decode cX9_splitDigits 9 = .ok (.aload_n 0, 1) := dc1_42 (by decide +kernel)
theorem dX9_splitDigits_10 : decode cX9_splitDigits 10 = .ok (.getfield 23, 3) := dcw_180 (by decide +kernel)
theorem dX9_splitDigits_13 : decode cX9_splitDigits 13 = .ok (.getfield 61, 3) := dcw_180 (by decide +kernel)
theorem dX9_splitDigits_16 : decode cX9_splitDigits 16 = .ok (.if_icmp .ge 62, 3) := dcs_162 (n := 62) (by decide +kernel)
theorem dX9_splitDigits_19 : decode cX9_splitDigits 19 = .ok (.aload_n 0, 1) := dc1_42 (by decide +kernel)
theorem dX9_splitDigits_20 : decode cX9_splitDigits 20 = .ok (.getfield 23, 3) := dcw_180 (by decide +kernel)
theorem dX9_splitDigits_23 : decode cX9_splitDigits 23 = .ok (.aload_n 0, 1) := dc1_42 (by decide +kernel)
theorem dX9_splitDigits_24 : decode cX9_splitDigits 24 = .ok (.getfield 47, 3) := dcw_180 (by decide +kernel)
theorem dX9_splitDigits_27 : decode cX9_splitDigits 27 = .ok (.invokevirtual 65, 3) := dcw_182 (by decide +kernel)
theorem dX9_splitDigits_30 : decode cX9_splitDigits 30 = .ok (.invokestatic 75, 3) := dcw_184 (by decide +kernel)
theorem dX9_splitDigits_33 : decode cX9_splitDigits 33 = .ok (.ifCond .eq 45, 3) := dcs_153 (n := 45) (by decide +kernel)
theorem dX9_splitDigits_36 : decode cX9_splitDigits 36 = .ok (.aload_n 0, 1) := dc1_42 (by decide +kernel)
theorem dX9_splitDigits_37 : decode cX9_splitDigits 37 = .ok (.aload_n 0, 1) := dc1_42 (by decide +kernel)
theorem dX9_splitDigits_38 : decode cX9_splitDigits 38 = .ok (.getfield 57, 3) := dcw_180 (by decide +kernel)
theorem dX9_splitDigits_41 : decode cX9_splitDigits 41 = .ok (.ldc2_w 86, 3) := dcw_20 (by decide +kernel)
theorem dX9_splitDigits_44 : decode cX9_splitDigits 44 = .ok (.lmul, 1) := dc1_105 (by decide +kernel)
theorem dX9_splitDigits_45 : decode cX9_splitDigits 45 = .ok (.aload_n 0, 1) := dc1_42 (by decide +kernel)
theorem dX9_splitDigits_46 : decode cX9_splitDigits 46 = .ok (.getfield 23, 3) := dcw_180 (by decide +kernel)
theorem dX9_splitDigits_49 : decode cX9_splitDigits 49 = .ok (.aload_n 0, 1) := dc1_42 (by decide +kernel)
theorem dX9_splitDigits_50 : decode cX9_splitDigits 50 = .ok (.getfield 47, 3) := dcw_180 (by decide +kernel)
theorem dX9_splitDigits_53 : decode cX9_splitDigits 53 = .ok (.invokevirtual 65, 3) := dcw_182 (by decide +kernel)
theorem dX9_splitDigits_56 : decode cX9_splitDigits 56 = .ok (.i2l, 1) := dc1_133 (by decide +kernel)
theorem dX9_splitDigits_57 : decode cX9_splitDigits 57 = .ok (.ladd, 1) := dc1_97 (by decide +kernel)
theorem dX9_splitDigits_58 : decode cX9_splitDigits 58 = .ok (.ldc2_w 88, 3) := dcw_20 (by decide +kernel)
theorem dX9_splitDigits_61 : decode cX9_splitDigits 61 = .ok (.lsub, 1) := dc1_101 (by decide +kernel)
theorem dX9_splitDigits_62 : decode cX9_splitDigits 62 = .ok (.putfield 57, 3) := dcw_181 (by decide +kernel)
theorem dX9_splitDigits_65 : decode cX9_splitDigits 65 = .ok (.aload_n 0, 1) := dc1_42 (by decide +kernel)
theorem dX9_splitDigits_66 : decode cX9_splitDigits 66 = .ok (.dup, 1) := dc1_89 (by decide +kernel)
theorem dX9_splitDigits_67 : decode cX9_splitDigits 67 = .ok (.getfield 47, 3) := dcw_180 (by decide +kernel)
theorem dX9_splitDigits_70 : decode cX9_splitDigits 70 = .ok (.iconst 1, 1) := dc1_4 (by decide +kernel)
theorem dX9_splitDigits_71 : decode cX9_splitDigits 71 = .ok (.iadd, 1) := dc1_96 (by decide +kernel)
theorem dX9_splitDigits_72 : decode cX9_splitDigits 72 = .ok (.putfield 47, 3) := dcw_181 (by decide +kernel)
theorem dX9_splitDigits_75 : decode cX9_splitDigits 75 = .ok (.goto (-70), 3) := dcs_167 (n := 65466) (by decide +kernel)
theorem dX9_splitDigits_78 : decode cX9_splitDigits 78 = .ok (.aload_n 0, 1) := dc1_42 (by decide +kernel)
theorem dX9_splitDigits_79 : decode cX9_splitDigits 79 = .ok (.getfield 47, 3) := dcw_180 (by decide +kernel)
theorem dX9_splitDigits_82 : decode cX9_splitDigits 82 = .ok (.iload_n 1, 1) := dc1_27 (by decide +kernel)
theorem dX9_splitDigits_83 : decode cX9_splitDigits 83 = .ok (.isub, 1) := dc1_100 (by decide +kernel)
theorem dX9_splitDigits_84 : decode cX9_splitDigits 84 = .ok (.iconst 4, 1) := dc1_7 (by decide +kernel)
theorem dX9_splitDigits_85 : decode cX9_splitDigits 85 = .ok (.if_icmp .le 9, 3) := dcs_164 (n := 9) (by decide +kernel)
theorem dX9_splitDigits_88 : decode cX9_splitDigits 88 = .ok (.sipush 303, 3) := dcs_17 (n := 303) (by decide +kernel)
theorem dX9_splitDigits_91 : decode cX9_splitDigits 91 = .ok (.goto 6, 3) := dcs_167 (n := 6) (by decide +kernel)
theorem dX9_splitDigits_94 : decode cX9_splitDigits 94 = .ok (.sipush 301, 3) := dcs_17 (n := 301) (by decide +kernel)
theorem dX9_splitDigits_97 : decode cX9_splitDigits 97 = .ok (.ireturn, 1) := dc1_172 (by decide +kernel)
theorem ggX10_feed_X7_hasRoomFor : GoodIn wsX10_feed wsX7_hasRoomFor := gi_sub (fun w h => List.mem_cons_of_mem _ (List.mem_append_left _ (List.mem_append_left _ (List.mem_append_right _ (List.mem_append_left _ h))))) gd_wsX7_hasRoomFor
set_option maxRecDepth 20000 in
theorem gX10_feed_X7_hasRoomFor_n77 : GoodIn wsX10_feed (wsX7_hasRoomFor) := ggX10_feed_X7_hasRoomFor
theorem ggX10_feed_X7_addFour : GoodIn wsX10_feed wsX7_addFour := gi_sub (fun w h => List.mem_cons_of_mem _ (List.mem_append_left _ (List.mem_append_left _ (List.mem_append_right _ (List.mem_append_right _ h))))) gd_wsX7_addFour
set_option maxRecDepth 20000 in
theorem gX10_feed_X7_addFour_n81 : GoodIn wsX10_feed (wsX7_addFour) := ggX10_feed_X7_addFour
theorem dX10_feed_0 : decode cX10_feed 0 = .ok (.aload_n 0, 1) := dc1_42 (by decide +kernel)
theorem dX10_feed_1 : decode cX10_feed 1 = .ok (.getfield 10, 3) := dcw_180 (by decide +kernel)
theorem dX10_feed_4 : decode cX10_feed 4 = .ok (.bipush 20, 2) := dcb_16 (n := 20) (by decide +kernel)
theorem dX10_feed_6 : decode cX10_feed 6 = .ok (.invokevirtual 77, 3) := dcw_182 (by decide +kernel)
theorem dX10_feed_9 : decode cX10_feed 9 = .ok (.ifCond .ne 5, 3) := dcs_154 (n := 5) (by decide +kernel)
theorem dX10_feed_12 : decode cX10_feed 12 = .ok (.iconst (-1), 1) := dc1_2 (by decide +kernel)
theorem dX10_feed_13 : decode cX10_feed 13 = .ok (.ireturn, 1) := dc1_172 (by decide +kernel)
theorem dX10_feed_14 : decode cX10_feed 14 = .ok (.aload_n 0, 1) := dc1_42 (by decide +kernel)
theorem dX10_feed_15 : decode cX10_feed 15 = .ok (.getfield 10, 3) := dcw_180 (by decide +kernel)
theorem dX10_feed_18 : decode cX10_feed 18 = .ok (.iload_n 1, 1) := dc1_27 (by decide +kernel)
theorem dX10_feed_19 : decode cX10_feed 19 = .ok (.invokevirtual 81, 3) := dcw_182 (by decide +kernel)
theorem dX10_feed_22 : decode cX10_feed 22 = .ok (.aload_n 0, 1) := dc1_42 (by decide +kernel)
theorem dX10_feed_23 : decode cX10_feed 23 = .ok (.getfield 10, 3) := dcw_180 (by decide +kernel)
theorem dX10_feed_26 : decode cX10_feed 26 = .ok (.iload_n 2, 1) := dc1_28 (by decide +kernel)
theorem dX10_feed_27 : decode cX10_feed 27 = .ok (.invokevirtual 81, 3) := dcw_182 (by decide +kernel)
theorem dX10_feed_30 : decode cX10_feed 30 = .ok (.aload_n 0, 1) := dc1_42 (by decide +kernel)
theorem dX10_feed_31 : decode cX10_feed 31 = .ok (.getfield 10, 3) := dcw_180 (by decide +kernel)
theorem dX10_feed_34 : decode cX10_feed 34 = .ok (.iload_n 3, 1) := dc1_29 (by decide +kernel)
theorem dX10_feed_35 : decode cX10_feed 35 = .ok (.invokevirtual 81, 3) := dcw_182 (by decide +kernel)
theorem dX10_feed_38 : decode cX10_feed 38 = .ok (.aload_n 0, 1) := dc1_42 (by decide +kernel)
theorem dX10_feed_39 : decode cX10_feed 39 = .ok (.getfield 10, 3) := dcw_180 (by decide +kernel)
theorem dX10_feed_42 : decode cX10_feed 42 = .ok (.iload 4, 2) := dcu_21 (by decide +kernel)
theorem dX10_feed_44 : decode cX10_feed 44 = .ok (.invokevirtual 81, 3) := dcw_182 (by decide +kernel)
theorem dX10_feed_47 : decode cX10_feed 47 = .ok (.aload_n 0, 1) := dc1_42 (by decide +kernel)
theorem dX10_feed_48 : decode cX10_feed 48 = .ok (.getfield 10, 3) := dcw_180 (by decide +kernel)
theorem dX10_feed_51 : decode cX10_feed 51 = .ok (.iload 5, 2) := dcu_21 (by decide +kernel)
theorem dX10_feed_53 : decode cX10_feed 53 = .ok (.invokevirtual 81, 3) := dcw_182 (by decide +kernel)
theorem dX10_feed_56 : decode cX10_feed 56 = .ok (.aload_n 0, 1) := dc1_42 (by decide +kernel)
theorem dX10_feed_57 : decode cX10_feed 57 = .ok (.getfield 10, 3) := dcw_180 (by decide +kernel)
theorem dX10_feed_60 : decode cX10_feed 60 = .ok (.getfield 85, 3) := dcw_180 (by decide +kernel)
theorem dX10_feed_63 : decode cX10_feed 63 = .ok (.ireturn, 1) := dc1_172 (by decide +kernel)
theorem dX10_back_0 : decode cX10_back 0 = .ok (.iload_n 1, 1) := dc1_27 (by decide +kernel)
theorem dX10_back_1 : decode cX10_back 1 = .ok (.ifCond .lt 14, 3) := dcs_155 (n := 14) (by decide +kernel)
theorem dX10_back_4 : decode cX10_back 4 = .ok (.iload_n 1, 1) := dc1_27 (by decide +kernel)
theorem dX10_back_5 : decode cX10_back 5 = .ok (.aload_n 0, 1) := dc1_42 (by decide +kernel)
theorem dX10_back_6 : decode cX10_back 6 = .ok (.getfield 10, 3) := dcw_180 (by decide +kernel)
theorem dX10_back_9 : decode cX10_back 9 = .ok (.getfield 85, 3) := dcw_180 (by decide +kernel)
theorem dX10_back_12 : decode cX10_back 12 = .ok (.if_icmp .le 5, 3) := dcs_164 (n := 5) (by decide +kernel)
theorem dX10_back_15 : decode cX10_back 15 = .ok (.iconst (-1), 1) := dc1_2 (by decide +kernel)
theorem dX10_back_16 : decode cX10_back 16 = .ok (.ireturn, 1) := dc1_172 (by decide +kernel)
theorem dX10_back_17 : decode cX10_back 17 = .ok (.aload_n 0, 1) := dc1_42 (by decide +kernel)
theorem dX10_back_18 : decode cX10_back 18 = .ok (.getfield 10, 3) := dcw_180 (by decide +kernel)
theorem dX10_back_21 : decode cX10_back 21 = .ok (.dup, 1) := dc1_89 (by decide +kernel)
theorem dX10_back_22 : decode cX10_back 22 = .ok (.getfield 85, 3) := dcw_180 (by decide +kernel)
theorem dX10_back_25 : decode cX10_back 25 = .ok (.iload_n 1, 1) := dc1_27 (by decide +kernel)
theorem dX10_back_26 : decode cX10_back 26 = .ok (.isub, 1) := dc1_100 (by decide +kernel)
theorem dX10_back_27 : decode cX10_back 27 = .ok (.putfield 85, 3) := dcw_181 (by decide +kernel)
theorem dX10_back_30 : decode cX10_back 30 = .ok (.aload_n 0, 1) := dc1_42 (by decide +kernel)
theorem dX10_back_31 : decode cX10_back 31 = .ok (.getfield 10, 3) := dcw_180 (by decide +kernel)
theorem dX10_back_34 : decode cX10_back 34 = .ok (.getfield 85, 3) := dcw_180 (by decide +kernel)
theorem dX10_back_37 : decode cX10_back 37 = .ok (.ireturn, 1) := dc1_172 (by decide +kernel)
theorem dX10_place_0 : decode cX10_place 0 = .ok (.aload_n 0, 1) := dc1_42 (by decide +kernel)
theorem dX10_place_1 : decode cX10_place 1 = .ok (.getfield 28, 3) := dcw_180 (by decide +kernel)
theorem dX10_place_4 : decode cX10_place 4 = .ok (.getfield 105, 3) := dcw_180 (by decide +kernel)
theorem dX10_place_7 : decode cX10_place 7 = .ok (.ireturn, 1) := dc1_172 (by decide +kernel)
set_option maxHeartbeats 4000000 in
set_option maxRecDepth 100000 in
theorem bkX9_isLetter {l : Launch} {dC : Nat → ClassId} {dI : Nat → Nat → Nat} {cB cI cJ cZ cS : ClassId} {as : List Value} {r : Int32} (x0 : Int32) (hB : kX9_isLetter x0 = some r) : BlkI l yX9_isLetter wsX9_isLetter ({ frames := 0, cells := 0, slots := 0, locals := 0 }) cX9_isLetter 1 (some .boolean) (dC, dI) (tysA cB cI cJ cZ cS) as 0 [] [(0, .int x0)] [] (fun x _ => x = r) := by
  intro p e s0 m below meth c A E H locs ls hP hD hS hl
  obtain ⟨C, hr, hlocks, hA, hK, hN⟩ := id E
  obtain ⟨hx, hb, hml, hown, hts⟩ := id C
  unfold kX9_isLetter at hB
  refine lv_iload_n hx hb dX9_isLetter_0 rfl (lv_at hl 0 rfl) ?_
  refine lv_bipush (v := 97) hx hb dX9_isLetter_1 (by decide) ?_
  refine lv_icmp_lt (tgt := 16) hx hb dX9_isLetter_3 (by decide) (fun c1 => ?_) (fun c1 => ?_)
  · have hB := if_p hB c1
    refine lv_iconst (v := 0) hx hb dX9_isLetter_16 (by decide) ?_
    exact q_zret C hr hlocks (Or.inl rfl) hK hP hD hS (Nat.le_of_ble_eq_true rfl) (Nat.le_of_ble_eq_true rfl) dX9_isLetter_17 (by cases hB; rfl)
  · have hB := if_n hB c1
    refine lv_iload_n hx hb dX9_isLetter_6 rfl (lv_at hl 0 rfl) ?_
    refine lv_bipush (v := 122) hx hb dX9_isLetter_7 (by decide) ?_
    refine lv_icmp_gt (tgt := 16) hx hb dX9_isLetter_9 (by decide) (fun c2 => ?_) (fun c2 => ?_)
    · have hB := if_p hB c2
      refine lv_iconst (v := 0) hx hb dX9_isLetter_16 (by decide) ?_
      exact q_zret C hr hlocks (Or.inl rfl) hK hP hD hS (Nat.le_of_ble_eq_true rfl) (Nat.le_of_ble_eq_true rfl) dX9_isLetter_17 (by cases hB; rfl)
    · have hB := if_n hB c2
      refine lv_iconst (v := 1) hx hb dX9_isLetter_12 (by decide) ?_
      refine lv_goto (tgt := 17) hx hb dX9_isLetter_13 (by decide) ?_
      exact q_zret C hr hlocks (Or.inr rfl) hK hP hD hS (Nat.le_of_ble_eq_true rfl) (Nat.le_of_ble_eq_true rfl) dX9_isLetter_17 (by cases hB; rfl)
theorem ckX9_isLetter {l : Launch} {dC : Nat → ClassId} {dI : Nat → Nat → Nat} {cB cI cJ cZ cS : ClassId} {r : Int32} {x0 : Int32} (hB : kX9_isLetter x0 = some r) : CI l yX9_isLetter wsX9_isLetter ({ frames := 0, cells := 0, slots := 0, locals := 0 }) (dC, dI) (tysA cB cI cJ cZ cS) [] [.int x0] (fun x _ => x = r) :=
  CI_of (cc := cX9_isLetter) (maxL := 1) (ret := (some .boolean)) (by decide) rfl (Nat.le_of_ble_eq_true rfl) (bkX9_isLetter _ hB)
set_option maxHeartbeats 4000000 in
set_option maxRecDepth 100000 in
theorem bkX9_isDigit {l : Launch} {dC : Nat → ClassId} {dI : Nat → Nat → Nat} {cB cI cJ cZ cS : ClassId} {as : List Value} {r : Int32} (x0 : Int32) (hB : kX9_isDigit x0 = some r) : BlkI l yX9_isDigit wsX9_isDigit ({ frames := 0, cells := 0, slots := 0, locals := 0 }) cX9_isDigit 1 (some .boolean) (dC, dI) (tysA cB cI cJ cZ cS) as 0 [] [(0, .int x0)] [] (fun x _ => x = r) := by
  intro p e s0 m below meth c A E H locs ls hP hD hS hl
  obtain ⟨C, hr, hlocks, hA, hK, hN⟩ := id E
  obtain ⟨hx, hb, hml, hown, hts⟩ := id C
  unfold kX9_isDigit at hB
  refine lv_iload_n hx hb dX9_isDigit_0 rfl (lv_at hl 0 rfl) ?_
  refine lv_bipush (v := 48) hx hb dX9_isDigit_1 (by decide) ?_
  refine lv_icmp_lt (tgt := 16) hx hb dX9_isDigit_3 (by decide) (fun c1 => ?_) (fun c1 => ?_)
  · have hB := if_p hB c1
    refine lv_iconst (v := 0) hx hb dX9_isDigit_16 (by decide) ?_
    exact q_zret C hr hlocks (Or.inl rfl) hK hP hD hS (Nat.le_of_ble_eq_true rfl) (Nat.le_of_ble_eq_true rfl) dX9_isDigit_17 (by cases hB; rfl)
  · have hB := if_n hB c1
    refine lv_iload_n hx hb dX9_isDigit_6 rfl (lv_at hl 0 rfl) ?_
    refine lv_bipush (v := 57) hx hb dX9_isDigit_7 (by decide) ?_
    refine lv_icmp_gt (tgt := 16) hx hb dX9_isDigit_9 (by decide) (fun c2 => ?_) (fun c2 => ?_)
    · have hB := if_p hB c2
      refine lv_iconst (v := 0) hx hb dX9_isDigit_16 (by decide) ?_
      exact q_zret C hr hlocks (Or.inl rfl) hK hP hD hS (Nat.le_of_ble_eq_true rfl) (Nat.le_of_ble_eq_true rfl) dX9_isDigit_17 (by cases hB; rfl)
    · have hB := if_n hB c2
      refine lv_iconst (v := 1) hx hb dX9_isDigit_12 (by decide) ?_
      refine lv_goto (tgt := 17) hx hb dX9_isDigit_13 (by decide) ?_
      exact q_zret C hr hlocks (Or.inr rfl) hK hP hD hS (Nat.le_of_ble_eq_true rfl) (Nat.le_of_ble_eq_true rfl) dX9_isDigit_17 (by cases hB; rfl)
theorem ckX9_isDigit {l : Launch} {dC : Nat → ClassId} {dI : Nat → Nat → Nat} {cB cI cJ cZ cS : ClassId} {r : Int32} {x0 : Int32} (hB : kX9_isDigit x0 = some r) : CI l yX9_isDigit wsX9_isDigit ({ frames := 0, cells := 0, slots := 0, locals := 0 }) (dC, dI) (tysA cB cI cJ cZ cS) [] [.int x0] (fun x _ => x = r) :=
  CI_of (cc := cX9_isDigit) (maxL := 1) (ret := (some .boolean)) (by decide) rfl (Nat.le_of_ble_eq_true rfl) (bkX9_isDigit _ hB)
set_option maxHeartbeats 4000000 in
set_option maxRecDepth 100000 in
theorem bkX9_withLetter {l : Launch} {dC : Nat → ClassId} {dI : Nat → Nat → Nat} {cB cI cJ cZ cS : ClassId} {as : List Value} {r : Int64} (x0 : Int64) (x2 : Int32) (hB : kX9_withLetter x0 x2 = some r) : BlkL l yX9_withLetter wsX9_withLetter ({ frames := 0, cells := 0, slots := 0, locals := 0 }) cX9_withLetter 3 (some .long) (dC, dI) (tysA cB cI cJ cZ cS) as 0 [] [(0, .long x0), (2, .int x2)] [] (fun x _ => x = r) := by
  intro p e s0 m below meth c A E H locs ls hP hD hS hl
  obtain ⟨C, hr, hlocks, hA, hK, hN⟩ := id E
  obtain ⟨hx, hb, hml, hown, hts⟩ := id C
  unfold kX9_withLetter at hB
  refine lv_lload_n hx hb dX9_withLetter_0 rfl (lv_at hl 0 rfl) ?_
  refine lv_iconst (v := 5) hx hb dX9_withLetter_1 (by decide) ?_
  refine lv_lshl (v := (lshlf x0 5)) hx hb dX9_withLetter_2 rfl ?_
  refine lv_iload_n hx hb dX9_withLetter_3 rfl (lv_at hl 1 rfl) ?_
  refine lv_bipush (v := 97) hx hb dX9_withLetter_4 (by decide) ?_
  refine lv_isub hx hb dX9_withLetter_6 ?_
  refine lv_iconst (v := 1) hx hb dX9_withLetter_7 (by decide) ?_
  refine lv_iadd hx hb dX9_withLetter_8 ?_
  refine lv_i2l hx hb dX9_withLetter_9 rfl ?_
  refine lv_lor hx hb dX9_withLetter_10 ?_
  exact q_lret C hr hlocks hK hP hD hS (Nat.le_of_ble_eq_true rfl) (Nat.le_of_ble_eq_true rfl) dX9_withLetter_11 (by cases hB; rfl)
theorem ckX9_withLetter {l : Launch} {dC : Nat → ClassId} {dI : Nat → Nat → Nat} {cB cI cJ cZ cS : ClassId} {r : Int64} {x0 : Int64} {x2 : Int32} (hB : kX9_withLetter x0 x2 = some r) : CL l yX9_withLetter wsX9_withLetter ({ frames := 0, cells := 0, slots := 0, locals := 0 }) (dC, dI) (tysA cB cI cJ cZ cS) [] [.long x0, .int x2] (fun x _ => x = r) :=
  CL_of (cc := cX9_withLetter) (maxL := 3) (ret := (some .long)) (by decide) rfl (Nat.le_of_ble_eq_true rfl) (bkX9_withLetter _ _ hB)
theorem LX9_skipBlanks_23 : Cond.fieldLink RX9 23 "GuessFerry$Tokens" "tape" "LGuessFerry$Tape;" ∈ wsX9_skipBlanks := (List.mem_cons_of_mem _ (List.mem_append_left _ (List.mem_append_left _ (List.mem_append_left _ (List.mem_of_getElem? (i := 1) rfl)))))
theorem LX9_skipBlanks_47 : Cond.fieldLink RX9 47 "GuessFerry$Tokens" "end" "I" ∈ wsX9_skipBlanks := (List.mem_cons_of_mem _ (List.mem_append_left _ (List.mem_append_left _ (List.mem_append_left _ (List.mem_of_getElem? (i := 0) rfl)))))
theorem LX9_skipBlanks_E_X7_byteAt : Cond.selects RX7 yX7_byteAt yX7_byteAt ∈ wsX9_skipBlanks := (List.mem_cons_of_mem _ (List.mem_append_left _ (List.mem_append_left _ (List.mem_append_left _ (List.mem_of_getElem? (i := 4) rfl)))))
theorem LX9_skipBlanks_I_X7 : Cond.initialized RX7 ∈ wsX9_skipBlanks := (List.mem_cons_of_mem _ (List.mem_append_left _ (List.mem_append_left _ (List.mem_append_left _ (List.mem_of_getElem? (i := 3) rfl)))))
theorem LX9_skipBlanks_N_X7_byteAt : Cond.instanceMethod yX7_byteAt ∈ wsX9_skipBlanks := (List.mem_cons_of_mem _ (List.mem_append_left _ (List.mem_append_left _ (List.mem_append_left _ (List.mem_of_getElem? (i := 2) rfl)))))
theorem inX9_skipBlanks_X7 : ∀ w ∈ u_ws RX7 TX7 2, w ∈ wsX9_skipBlanks := fun w h => (List.mem_cons_of_mem _ (List.mem_append_right _ h))
theorem inX9_skipBlanks_X9 : ∀ w ∈ u_ws RX9 TX9 7, w ∈ wsX9_skipBlanks := fun w h => (List.mem_cons_of_mem _ (List.mem_append_left _ (List.mem_append_right _ h)))
set_option maxHeartbeats 4000000 in
set_option maxRecDepth 100000 in
theorem bkX9_skipBlanks_0 {l : Launch} {dC : Nat → ClassId} {dI : Nat → Nat → Nat} {cB cI cJ cZ cS : ClassId} {a : Nat → Nat} {as : List Value} {s' : KS} {k0 : KS → Option KS} (hk0 : ∀ (s : KS), k0 s = some s' → BlkV l yX9_skipBlanks wsX9_skipBlanks ({ frames := 1, cells := 0, slots := 0, locals := 21 }) cX9_skipBlanks 1 none (dC, dI) (tysA cB cI cJ cZ cS) as 0 (wK cB cI cJ cZ cS a s) [(0, .ref (a 30))] [] (fun u => u = (wK cB cI cJ cZ cS a s'))) (s : KS) (hB : kX9_skipBlanks_0 k0 s = some s') : BlkV l yX9_skipBlanks wsX9_skipBlanks ({ frames := 1, cells := 0, slots := 0, locals := 21 }) cX9_skipBlanks 1 none (dC, dI) (tysA cB cI cJ cZ cS) as 0 (wK cB cI cJ cZ cS a s) [(0, .ref (a 30))] [] (fun u => u = (wK cB cI cJ cZ cS a s')) := by
  intro p e s0 m below meth c A E H locs ls hP hD hS hl
  obtain ⟨C, hr, hlocks, hA, hK, hN⟩ := id E
  obtain ⟨hx, hb, hml, hown, hts⟩ := id C
  unfold kX9_skipBlanks_0 at hB
  refine lv_aload_n hx hb dX9_skipBlanks_0 rfl (lv_at hl 0 rfl) ?_
  refine q_get (v := .int (s.v 20)) C inX9_skipBlanks_X9 hK hP 30 rfl rfl 5 (by decide) rfl LX9_skipBlanks_47 rfl dX9_skipBlanks_1 ?_
  refine lv_aload_n hx hb dX9_skipBlanks_4 rfl (lv_at hl 0 rfl) ?_
  refine q_get (v := .ref (a 0)) C inX9_skipBlanks_X9 hK hP 30 rfl rfl 0 (by decide) rfl LX9_skipBlanks_23 rfl dX9_skipBlanks_5 ?_
  refine q_getN (v := .int (s.v 0)) C hN inX9_skipBlanks_X7 hK hP 0 rfl rfl 1 (by decide) rfl nwF_X9_61 rfl dX9_skipBlanks_8 ?_
  refine lv_icmp_ge (tgt := 44) hx hb dX9_skipBlanks_11 (by decide) (fun c1 => ?_) (fun c1 => ?_)
  · have hB := if_p hB c1
    exact q_vret C hr hlocks hK hP hD hS (Nat.le_of_ble_eq_true rfl) (Nat.le_of_ble_eq_true rfl) dX9_skipBlanks_44 (by cases hB; rfl)
  · have hB := if_n hB c1
    refine lv_aload_n hx hb dX9_skipBlanks_14 rfl (lv_at hl 0 rfl) ?_
    refine q_get (v := .ref (a 0)) C inX9_skipBlanks_X9 hK hP 30 rfl rfl 0 (by decide) rfl LX9_skipBlanks_23 rfl dX9_skipBlanks_15 ?_
    refine lv_aload_n hx hb dX9_skipBlanks_18 rfl (lv_at hl 0 rfl) ?_
    refine q_get (v := .int (s.v 20)) C inX9_skipBlanks_X9 hK hP 30 rfl rfl 5 (by decide) rfl LX9_skipBlanks_47 rfl dX9_skipBlanks_19 ?_
    obtain ⟨q_, s2, hc, hB⟩ := bindI_inv hB
    refine q_goiF (va_runVN (As := [.int (s.v 20)]) (rest := []) C (ckX7_byteAt hc _) ⟨va_cnB 1 hts gX9_skipBlanks_X7_byteAt_n65 rfl rfl rfl (hN _ nwM_X9_65 rfl) (hts _ LX9_skipBlanks_I_X7) (by decide +kernel) ⟨Nat.le_of_ble_eq_true rfl, Nat.le_of_ble_eq_true rfl⟩, hts _ LX9_skipBlanks_N_X7_byteAt, hts _ LX9_skipBlanks_E_X7_byteAt⟩ (q_preV hK hP (ci := 7) (q0 := 0) rfl rfl rfl (q_preF hN hK hP hD)) rfl rfl hl.1 rfl (lv_room (Nat.le_of_ble_eq_true rfl)) dX9_skipBlanks_22 ⟨Nat.le_of_ble_eq_true rfl, Nat.le_of_ble_eq_true rfl⟩) hD hS hA (fun r3 w1 H locs hw hP hD hS => ?_)
    obtain ⟨hq_, hw⟩ := hw; subst hw; subst hq_
    obtain ⟨q_, hc, hB⟩ := bindP_inv hB
    refine q_goi0 (va_runS (As := [.int r3]) (rest := []) C (ckX9_isBlank hc _) (va_cwS 1 hts gX9_skipBlanks_X9_isBlank rfl rfl rfl (by decide +kernel) ⟨Nat.le_of_ble_eq_true rfl, Nat.le_of_ble_eq_true rfl⟩) (q_pre0 hN hK) rfl rfl hl.1 rfl (lv_room (Nat.le_of_ble_eq_true rfl)) dX9_skipBlanks_25 ⟨Nat.le_of_ble_eq_true rfl, Nat.le_of_ble_eq_true rfl⟩) hP hD hS hA (fun r4 w1 H locs hw hP hS => ?_)
    subst hw
    refine lv_if_eq (tgt := 44) hx hb dX9_skipBlanks_28 (by decide) (fun c5 => ?_) (fun c5 => ?_)
    · have hB := if_p hB c5
      exact q_vret C hr hlocks hK hP hD hS (Nat.le_of_ble_eq_true rfl) (Nat.le_of_ble_eq_true rfl) dX9_skipBlanks_44 (by cases hB; rfl)
    · have hB := if_n hB c5
      refine lv_aload_n hx hb dX9_skipBlanks_31 rfl (lv_at hl 0 rfl) ?_
      refine lv_dup hx hb dX9_skipBlanks_32 rfl ?_
      refine q_get (v := .int (s2.v 20)) C inX9_skipBlanks_X9 hK hP 30 rfl rfl 5 (by decide) rfl LX9_skipBlanks_47 rfl dX9_skipBlanks_33 ?_
      refine lv_iconst (v := 1) hx hb dX9_skipBlanks_36 (by decide) ?_
      refine lv_iadd hx hb dX9_skipBlanks_37 ?_
      obtain ⟨s6, hs7, hB⟩ := letS_inv hB
      refine q_put (ty := .int) (w2 := (wK cB cI cJ cZ cS a s6)) tyX9 tyX9_ok nmX9 C inX9_skipBlanks_X9 hK hP hD hS 30 rfl rfl 5 (by decide) rfl LX9_skipBlanks_47 rfl (by decide +kernel) (rfl) rfl (Nat.le_of_ble_eq_true rfl) dX9_skipBlanks_38 (by subst hs7; rfl) (fun H locs hP hD hS => ?_)
      refine lv_goto (tgt := 0) hx hb dX9_skipBlanks_41 (by decide) ?_
      exact hk0 _ hB p e s0 m below meth c A E H locs ls hP hD hS (lv_sub hl [0] rfl)
theorem bkX9_skipBlanks_0L {l : Launch} {dC : Nat → ClassId} {dI : Nat → Nat → Nat} {cB cI cJ cZ cS : ClassId} {a : Nat → Nat} {as : List Value} {s' : KS} : ∀ (n : Nat) (s : KS), kX9_skipBlanks_0L n s = some s' → BlkV l yX9_skipBlanks wsX9_skipBlanks ({ frames := 1, cells := 0, slots := 0, locals := 21 }) cX9_skipBlanks 1 none (dC, dI) (tysA cB cI cJ cZ cS) as 0 (wK cB cI cJ cZ cS a s) [(0, .ref (a 30))] [] (fun u => u = (wK cB cI cJ cZ cS a s')) := by
  intro n
  induction n with
  | zero => intro s hB; exact none_ne hB
  | succ n ih => intro s hB; exact bkX9_skipBlanks_0 ih _ hB
theorem ckX9_skipBlanks {l : Launch} {dC : Nat → ClassId} {dI : Nat → Nat → Nat} {cB cI cJ cZ cS : ClassId} {a : Nat → Nat} {s' : KS} {s : KS} (hB : kX9_skipBlanks s = some s') : CV l yX9_skipBlanks wsX9_skipBlanks ({ frames := 1, cells := 0, slots := 0, locals := 21 }) (dC, dI) (tysA cB cI cJ cZ cS) (wK cB cI cJ cZ cS a s) [.ref (a 30)] (fun u => u = (wK cB cI cJ cZ cS a s')) :=
  CV_of (cc := cX9_skipBlanks) (maxL := 1) (ret := none) (by decide) rfl (Nat.le_of_ble_eq_true rfl) (bkX9_skipBlanks_0L fu _ hB)
theorem LX9_splitLetters_23 : Cond.fieldLink RX9 23 "GuessFerry$Tokens" "tape" "LGuessFerry$Tape;" ∈ wsX9_splitLetters := (List.mem_cons_of_mem _ (List.mem_append_left _ (List.mem_append_left _ (List.mem_append_left _ (List.mem_of_getElem? (i := 1) rfl)))))
theorem LX9_splitLetters_47 : Cond.fieldLink RX9 47 "GuessFerry$Tokens" "end" "I" ∈ wsX9_splitLetters := (List.mem_cons_of_mem _ (List.mem_append_left _ (List.mem_append_left _ (List.mem_append_left _ (List.mem_of_getElem? (i := 0) rfl)))))
theorem LX9_splitLetters_57 : Cond.fieldLink RX9 57 "GuessFerry$Tokens" "value" "J" ∈ wsX9_splitLetters := (List.mem_cons_of_mem _ (List.mem_append_left _ (List.mem_append_left _ (List.mem_append_left _ (List.mem_of_getElem? (i := 2) rfl)))))
theorem LX9_splitLetters_9 : Cond.fieldLink RX9 9 "GuessFerry$Tokens" "words" "[J" ∈ wsX9_splitLetters := (List.mem_cons_of_mem _ (List.mem_append_left _ (List.mem_append_left _ (List.mem_append_left _ (List.mem_of_getElem? (i := 3) rfl)))))
theorem LX9_splitLetters_E_X7_byteAt : Cond.selects RX7 yX7_byteAt yX7_byteAt ∈ wsX9_splitLetters := (List.mem_cons_of_mem _ (List.mem_append_left _ (List.mem_append_left _ (List.mem_append_left _ (List.mem_of_getElem? (i := 6) rfl)))))
theorem LX9_splitLetters_I_X7 : Cond.initialized RX7 ∈ wsX9_splitLetters := (List.mem_cons_of_mem _ (List.mem_append_left _ (List.mem_append_left _ (List.mem_append_left _ (List.mem_of_getElem? (i := 5) rfl)))))
theorem LX9_splitLetters_N_X7_byteAt : Cond.instanceMethod yX7_byteAt ∈ wsX9_splitLetters := (List.mem_cons_of_mem _ (List.mem_append_left _ (List.mem_append_left _ (List.mem_append_left _ (List.mem_of_getElem? (i := 4) rfl)))))
theorem inX9_splitLetters_X7 : ∀ w ∈ u_ws RX7 TX7 2, w ∈ wsX9_splitLetters := fun w h => (List.mem_cons_of_mem _ (List.mem_append_right _ h))
theorem inX9_splitLetters_X9 : ∀ w ∈ u_ws RX9 TX9 7, w ∈ wsX9_splitLetters := fun w h => (List.mem_cons_of_mem _ (List.mem_append_left _ (List.mem_append_right _ h)))
set_option maxHeartbeats 4000000 in
set_option maxRecDepth 100000 in
theorem bkX9_splitLetters_88 {l : Launch} {dC : Nat → ClassId} {dI : Nat → Nat → Nat} {cB cI cJ cZ cS : ClassId} {a : Nat → Nat} {as : List Value} {r : Int32} {s' : KS} {k88 : KS → Int32 → Option (Int32 × KS)} (hk88 : ∀ (s : KS) (x2 : Int32), k88 s x2 = some (r, s') → BlkI l yX9_splitLetters wsX9_splitLetters ({ frames := 1, cells := 0, slots := 0, locals := 22 }) cX9_splitLetters 3 (some .int) (dC, dI) (tysA cB cI cJ cZ cS) as 88 (wK cB cI cJ cZ cS a s) [(0, .ref (a 30)), (2, .int x2)] [] (fun x u => x = r ∧ u = (wK cB cI cJ cZ cS a s'))) (s : KS) (x2 : Int32) (hB : kX9_splitLetters_88 k88 s x2 = some (r, s')) : BlkI l yX9_splitLetters wsX9_splitLetters ({ frames := 1, cells := 0, slots := 0, locals := 22 }) cX9_splitLetters 3 (some .int) (dC, dI) (tysA cB cI cJ cZ cS) as 88 (wK cB cI cJ cZ cS a s) [(0, .ref (a 30)), (2, .int x2)] [] (fun x u => x = r ∧ u = (wK cB cI cJ cZ cS a s')) := by
  intro p e s0 m below meth c A E H locs ls hP hD hS hl
  obtain ⟨C, hr, hlocks, hA, hK, hN⟩ := id E
  obtain ⟨hx, hb, hml, hown, hts⟩ := id C
  unfold kX9_splitLetters_88 at hB
  refine lv_iload_n hx hb dX9_splitLetters_88 rfl (lv_at hl 1 rfl) ?_
  refine lv_bipush (v := 19) hx hb dX9_splitLetters_89 (by decide) ?_
  refine lv_icmp_ge (tgt := 120) hx hb dX9_splitLetters_91 (by decide) (fun c1 => ?_) (fun c1 => ?_)
  · have hB := if_p hB c1
    refine lv_sipush (v := 300) hx hb dX9_splitLetters_120 (by decide) ?_
    exact q_iret C hr hlocks hK hP hD hS (Nat.le_of_ble_eq_true rfl) (Nat.le_of_ble_eq_true rfl) dX9_splitLetters_123 (by cases hB; exact ⟨rfl, rfl⟩)
  · have hB := if_n hB c1
    refine lv_aload_n hx hb dX9_splitLetters_94 rfl (lv_at hl 0 rfl) ?_
    refine q_get (v := .ref (a 31)) C inX9_splitLetters_X9 hK hP 30 rfl rfl 1 (by decide) rfl LX9_splitLetters_9 rfl dX9_splitLetters_95 ?_
    refine lv_iload_n hx hb dX9_splitLetters_98 rfl (lv_at hl 1 rfl) ?_
    obtain ⟨g2, hB⟩ := guard_inv hB
    refine q_lald (x := ((s.g 31) (Int32.toNatClampNeg x2))) C hK hP 31 2 rfl rfl (vpb_in g2) dX9_splitLetters_99 rfl ?_
    refine lv_aload_n hx hb dX9_splitLetters_100 rfl (lv_at hl 0 rfl) ?_
    refine q_get (v := .long (s.u 0)) C inX9_splitLetters_X9 hK hP 30 rfl rfl 6 (by decide) rfl LX9_splitLetters_57 rfl dX9_splitLetters_101 ?_
    refine W.lcmp hx hb dX9_splitLetters_104 ?_
    refine lv_if_ne (tgt := 114) hx hb dX9_splitLetters_105 (by decide) (fun c3 => ?_) (fun c3 => ?_)
    · have hB := if_n hB c3
      refine lv_iinc (v := (x2 + 1)) (lv' := [(2, .int (x2 + 1)), (0, .ref (a 30))]) hx hb dX9_splitLetters_114 hl (k := 1) rfl (rfl) (by decide) rfl (fun ls hl => ?_)
      refine lv_goto (tgt := 88) hx hb dX9_splitLetters_117 (by decide) ?_
      exact hk88 _ _ hB p e s0 m below meth c A E H locs ls hP hD hS (lv_sub hl [1, 0] rfl)
    · have hB := if_p hB c3
      refine lv_sipush (v := 256) hx hb dX9_splitLetters_108 (by decide) ?_
      refine lv_iload_n hx hb dX9_splitLetters_111 rfl (lv_at hl 1 rfl) ?_
      refine lv_iadd hx hb dX9_splitLetters_112 ?_
      exact q_iret C hr hlocks hK hP hD hS (Nat.le_of_ble_eq_true rfl) (Nat.le_of_ble_eq_true rfl) dX9_splitLetters_113 (by cases hB; exact ⟨rfl, rfl⟩)
theorem bkX9_splitLetters_88L {l : Launch} {dC : Nat → ClassId} {dI : Nat → Nat → Nat} {cB cI cJ cZ cS : ClassId} {a : Nat → Nat} {as : List Value} {r : Int32} {s' : KS} : ∀ (n : Nat) (s : KS) (x2 : Int32), kX9_splitLetters_88L n s x2 = some (r, s') → BlkI l yX9_splitLetters wsX9_splitLetters ({ frames := 1, cells := 0, slots := 0, locals := 22 }) cX9_splitLetters 3 (some .int) (dC, dI) (tysA cB cI cJ cZ cS) as 88 (wK cB cI cJ cZ cS a s) [(0, .ref (a 30)), (2, .int x2)] [] (fun x u => x = r ∧ u = (wK cB cI cJ cZ cS a s')) := by
  intro n
  induction n with
  | zero => intro s x2 hB; exact none_ne hB
  | succ n ih => intro s x2 hB; exact bkX9_splitLetters_88 ih _ _ hB
set_option maxHeartbeats 4000000 in
set_option maxRecDepth 100000 in
theorem bkX9_splitLetters_71 {l : Launch} {dC : Nat → ClassId} {dI : Nat → Nat → Nat} {cB cI cJ cZ cS : ClassId} {a : Nat → Nat} {as : List Value} {r : Int32} {s' : KS} (s : KS) (x1 : Int32) (hB : kX9_splitLetters_71 s x1 = some (r, s')) : BlkI l yX9_splitLetters wsX9_splitLetters ({ frames := 1, cells := 0, slots := 0, locals := 22 }) cX9_splitLetters 3 (some .int) (dC, dI) (tysA cB cI cJ cZ cS) as 71 (wK cB cI cJ cZ cS a s) [(0, .ref (a 30)), (1, .int x1)] [] (fun x u => x = r ∧ u = (wK cB cI cJ cZ cS a s')) := by
  intro p e s0 m below meth c A E H locs ls hP hD hS hl
  obtain ⟨C, hr, hlocks, hA, hK, hN⟩ := id E
  obtain ⟨hx, hb, hml, hown, hts⟩ := id C
  unfold kX9_splitLetters_71 at hB
  refine lv_aload_n hx hb dX9_splitLetters_71 rfl (lv_at hl 0 rfl) ?_
  refine q_get (v := .int (s.v 20)) C inX9_splitLetters_X9 hK hP 30 rfl rfl 5 (by decide) rfl LX9_splitLetters_47 rfl dX9_splitLetters_72 ?_
  refine lv_iload_n hx hb dX9_splitLetters_75 rfl (lv_at hl 1 rfl) ?_
  refine lv_isub hx hb dX9_splitLetters_76 ?_
  refine lv_bipush (v := 8) hx hb dX9_splitLetters_77 (by decide) ?_
  refine lv_icmp_le (tgt := 86) hx hb dX9_splitLetters_79 (by decide) (fun c1 => ?_) (fun c1 => ?_)
  · have hB := if_p hB c1
    refine lv_iconst (v := 0) hx hb dX9_splitLetters_86 (by decide) ?_
    refine lv_istore_n (lv' := [(2, .int 0), (0, .ref (a 30)), (1, .int x1)]) hx hb dX9_splitLetters_87 rfl hl (by decide) rfl (fun ls hl => ?_)
    exact bkX9_splitLetters_88L fu _ _ hB p e s0 m below meth c A E H locs ls hP hD hS (lv_sub hl [1, 0] rfl)
  · have hB := if_n hB c1
    refine lv_sipush (v := 303) hx hb dX9_splitLetters_82 (by decide) ?_
    exact q_iret C hr hlocks hK hP hD hS (Nat.le_of_ble_eq_true rfl) (Nat.le_of_ble_eq_true rfl) dX9_splitLetters_85 (by cases hB; exact ⟨rfl, rfl⟩)
set_option maxHeartbeats 4000000 in
set_option maxRecDepth 100000 in
theorem bkX9_splitLetters_5 {l : Launch} {dC : Nat → ClassId} {dI : Nat → Nat → Nat} {cB cI cJ cZ cS : ClassId} {a : Nat → Nat} {as : List Value} {r : Int32} {s' : KS} {k5 : KS → Int32 → Option (Int32 × KS)} (hk5 : ∀ (s : KS) (x1 : Int32), k5 s x1 = some (r, s') → BlkI l yX9_splitLetters wsX9_splitLetters ({ frames := 1, cells := 0, slots := 0, locals := 22 }) cX9_splitLetters 3 (some .int) (dC, dI) (tysA cB cI cJ cZ cS) as 5 (wK cB cI cJ cZ cS a s) [(0, .ref (a 30)), (1, .int x1)] [] (fun x u => x = r ∧ u = (wK cB cI cJ cZ cS a s'))) (s : KS) (x1 : Int32) (hB : kX9_splitLetters_5 k5 s x1 = some (r, s')) : BlkI l yX9_splitLetters wsX9_splitLetters ({ frames := 1, cells := 0, slots := 0, locals := 22 }) cX9_splitLetters 3 (some .int) (dC, dI) (tysA cB cI cJ cZ cS) as 5 (wK cB cI cJ cZ cS a s) [(0, .ref (a 30)), (1, .int x1)] [] (fun x u => x = r ∧ u = (wK cB cI cJ cZ cS a s')) := by
  intro p e s0 m below meth c A E H locs ls hP hD hS hl
  obtain ⟨C, hr, hlocks, hA, hK, hN⟩ := id E
  obtain ⟨hx, hb, hml, hown, hts⟩ := id C
  unfold kX9_splitLetters_5 at hB
  refine lv_aload_n hx hb dX9_splitLetters_5 rfl (lv_at hl 0 rfl) ?_
  refine q_get (v := .int (s.v 20)) C inX9_splitLetters_X9 hK hP 30 rfl rfl 5 (by decide) rfl LX9_splitLetters_47 rfl dX9_splitLetters_6 ?_
  refine lv_aload_n hx hb dX9_splitLetters_9 rfl (lv_at hl 0 rfl) ?_
  refine q_get (v := .ref (a 0)) C inX9_splitLetters_X9 hK hP 30 rfl rfl 0 (by decide) rfl LX9_splitLetters_23 rfl dX9_splitLetters_10 ?_
  refine q_getN (v := .int (s.v 0)) C hN inX9_splitLetters_X7 hK hP 0 rfl rfl 1 (by decide) rfl nwF_X9_61 rfl dX9_splitLetters_13 ?_
  refine lv_icmp_ge (tgt := 71) hx hb dX9_splitLetters_16 (by decide) (fun c1 => ?_) (fun c1 => ?_)
  · have hB := if_p hB c1
    exact bkX9_splitLetters_71 _ _ hB p e s0 m below meth c A E H locs ls hP hD hS (lv_sub hl [0, 1] rfl)
  · have hB := if_n hB c1
    refine lv_aload_n hx hb dX9_splitLetters_19 rfl (lv_at hl 0 rfl) ?_
    refine q_get (v := .ref (a 0)) C inX9_splitLetters_X9 hK hP 30 rfl rfl 0 (by decide) rfl LX9_splitLetters_23 rfl dX9_splitLetters_20 ?_
    refine lv_aload_n hx hb dX9_splitLetters_23 rfl (lv_at hl 0 rfl) ?_
    refine q_get (v := .int (s.v 20)) C inX9_splitLetters_X9 hK hP 30 rfl rfl 5 (by decide) rfl LX9_splitLetters_47 rfl dX9_splitLetters_24 ?_
    obtain ⟨q_, s2, hc, hB⟩ := bindI_inv hB
    refine q_goiF (va_runVN (As := [.int (s.v 20)]) (rest := []) C (ckX7_byteAt hc _) ⟨va_cnB 1 hts gX9_splitLetters_X7_byteAt_n65 rfl rfl rfl (hN _ nwM_X9_65 rfl) (hts _ LX9_splitLetters_I_X7) (by decide +kernel) ⟨Nat.le_of_ble_eq_true rfl, Nat.le_of_ble_eq_true rfl⟩, hts _ LX9_splitLetters_N_X7_byteAt, hts _ LX9_splitLetters_E_X7_byteAt⟩ (q_preV hK hP (ci := 7) (q0 := 0) rfl rfl rfl (q_preF hN hK hP hD)) rfl rfl hl.1 rfl (lv_room (Nat.le_of_ble_eq_true rfl)) dX9_splitLetters_27 ⟨Nat.le_of_ble_eq_true rfl, Nat.le_of_ble_eq_true rfl⟩) hD hS hA (fun r3 w1 H locs hw hP hD hS => ?_)
    obtain ⟨hq_, hw⟩ := hw; subst hw; subst hq_
    obtain ⟨q_, hc, hB⟩ := bindP_inv hB
    refine q_goi0 (va_runS (As := [.int r3]) (rest := []) C (ckX9_isLetter hc _) (va_cwS 1 hts gX9_splitLetters_X9_isLetter rfl rfl rfl (by decide +kernel) ⟨Nat.le_of_ble_eq_true rfl, Nat.le_of_ble_eq_true rfl⟩) (q_pre0 hN hK) rfl rfl hl.1 rfl (lv_room (Nat.le_of_ble_eq_true rfl)) dX9_splitLetters_30 ⟨Nat.le_of_ble_eq_true rfl, Nat.le_of_ble_eq_true rfl⟩) hP hD hS hA (fun r4 w1 H locs hw hP hS => ?_)
    subst hw
    refine lv_if_eq (tgt := 71) hx hb dX9_splitLetters_33 (by decide) (fun c5 => ?_) (fun c5 => ?_)
    · have hB := if_p hB c5
      exact bkX9_splitLetters_71 _ _ hB p e s0 m below meth c A E H locs ls hP hD hS (lv_sub hl [0, 1] rfl)
    · have hB := if_n hB c5
      refine lv_aload_n hx hb dX9_splitLetters_36 rfl (lv_at hl 0 rfl) ?_
      refine lv_aload_n hx hb dX9_splitLetters_37 rfl (lv_at hl 0 rfl) ?_
      refine q_get (v := .long (s2.u 0)) C inX9_splitLetters_X9 hK hP 30 rfl rfl 6 (by decide) rfl LX9_splitLetters_57 rfl dX9_splitLetters_38 ?_
      refine lv_aload_n hx hb dX9_splitLetters_41 rfl (lv_at hl 0 rfl) ?_
      refine q_get (v := .ref (a 0)) C inX9_splitLetters_X9 hK hP 30 rfl rfl 0 (by decide) rfl LX9_splitLetters_23 rfl dX9_splitLetters_42 ?_
      refine lv_aload_n hx hb dX9_splitLetters_45 rfl (lv_at hl 0 rfl) ?_
      refine q_get (v := .int (s2.v 20)) C inX9_splitLetters_X9 hK hP 30 rfl rfl 5 (by decide) rfl LX9_splitLetters_47 rfl dX9_splitLetters_46 ?_
      obtain ⟨q_, s6, hc, hB⟩ := bindI_inv hB
      refine q_goiF (va_runVN (As := [.int (s2.v 20)]) (rest := [.long (s2.u 0), .ref (a 30)]) C (ckX7_byteAt hc _) ⟨va_cnB 1 hts gX9_splitLetters_X7_byteAt_n65 rfl rfl rfl (hN _ nwM_X9_65 rfl) (hts _ LX9_splitLetters_I_X7) (by decide +kernel) ⟨Nat.le_of_ble_eq_true rfl, Nat.le_of_ble_eq_true rfl⟩, hts _ LX9_splitLetters_N_X7_byteAt, hts _ LX9_splitLetters_E_X7_byteAt⟩ (q_preV hK hP (ci := 7) (q0 := 0) rfl rfl rfl (q_preF hN hK hP hD)) rfl rfl hl.1 rfl (lv_room (Nat.le_of_ble_eq_true rfl)) dX9_splitLetters_49 ⟨Nat.le_of_ble_eq_true rfl, Nat.le_of_ble_eq_true rfl⟩) hD hS hA (fun r7 w1 H locs hw hP hD hS => ?_)
      obtain ⟨hq_, hw⟩ := hw; subst hw; subst hq_
      obtain ⟨q_, hc, hB⟩ := bindP_inv hB
      refine q_gol0 (va_runS (As := [.long (s2.u 0), .int r7]) (rest := [.ref (a 30)]) C (ckX9_withLetter hc _) (va_cwS 2 hts gX9_splitLetters_X9_withLetter rfl rfl rfl (by decide +kernel) ⟨Nat.le_of_ble_eq_true rfl, Nat.le_of_ble_eq_true rfl⟩) (q_pre0 hN hK) rfl rfl hl.1 rfl (lv_room (Nat.le_of_ble_eq_true rfl)) dX9_splitLetters_52 ⟨Nat.le_of_ble_eq_true rfl, Nat.le_of_ble_eq_true rfl⟩) hP hD hS hA (fun r8 w1 H locs hw hP hS => ?_)
      subst hw
      obtain ⟨s9, hs10, hB⟩ := letS_inv hB
      refine q_put (ty := .long) (w2 := (wK cB cI cJ cZ cS a s9)) tyX9 tyX9_ok nmX9 C inX9_splitLetters_X9 hK hP hD hS 30 rfl rfl 6 (by decide) rfl LX9_splitLetters_57 rfl (by decide +kernel) (rfl) rfl (Nat.le_of_ble_eq_true rfl) dX9_splitLetters_55 (by subst hs10; rfl) (fun H locs hP hD hS => ?_)
      refine lv_aload_n hx hb dX9_splitLetters_58 rfl (lv_at hl 0 rfl) ?_
      refine lv_dup hx hb dX9_splitLetters_59 rfl ?_
      refine q_get (v := .int (s9.v 20)) C inX9_splitLetters_X9 hK hP 30 rfl rfl 5 (by decide) rfl LX9_splitLetters_47 rfl dX9_splitLetters_60 ?_
      refine lv_iconst (v := 1) hx hb dX9_splitLetters_63 (by decide) ?_
      refine lv_iadd hx hb dX9_splitLetters_64 ?_
      obtain ⟨s11, hs12, hB⟩ := letS_inv hB
      refine q_put (ty := .int) (w2 := (wK cB cI cJ cZ cS a s11)) tyX9 tyX9_ok nmX9 C inX9_splitLetters_X9 hK hP hD hS 30 rfl rfl 5 (by decide) rfl LX9_splitLetters_47 rfl (by decide +kernel) (rfl) rfl (Nat.le_of_ble_eq_true rfl) dX9_splitLetters_65 (by subst hs12; rfl) (fun H locs hP hD hS => ?_)
      refine lv_goto (tgt := 5) hx hb dX9_splitLetters_68 (by decide) ?_
      exact hk5 _ _ hB p e s0 m below meth c A E H locs ls hP hD hS (lv_sub hl [0, 1] rfl)
theorem bkX9_splitLetters_5L {l : Launch} {dC : Nat → ClassId} {dI : Nat → Nat → Nat} {cB cI cJ cZ cS : ClassId} {a : Nat → Nat} {as : List Value} {r : Int32} {s' : KS} : ∀ (n : Nat) (s : KS) (x1 : Int32), kX9_splitLetters_5L n s x1 = some (r, s') → BlkI l yX9_splitLetters wsX9_splitLetters ({ frames := 1, cells := 0, slots := 0, locals := 22 }) cX9_splitLetters 3 (some .int) (dC, dI) (tysA cB cI cJ cZ cS) as 5 (wK cB cI cJ cZ cS a s) [(0, .ref (a 30)), (1, .int x1)] [] (fun x u => x = r ∧ u = (wK cB cI cJ cZ cS a s')) := by
  intro n
  induction n with
  | zero => intro s x1 hB; exact none_ne hB
  | succ n ih => intro s x1 hB; exact bkX9_splitLetters_5 ih _ _ hB
set_option maxHeartbeats 4000000 in
set_option maxRecDepth 100000 in
theorem bkX9_splitLetters {l : Launch} {dC : Nat → ClassId} {dI : Nat → Nat → Nat} {cB cI cJ cZ cS : ClassId} {a : Nat → Nat} {as : List Value} {r : Int32} {s' : KS} (s : KS) (hB : kX9_splitLetters s = some (r, s')) : BlkI l yX9_splitLetters wsX9_splitLetters ({ frames := 1, cells := 0, slots := 0, locals := 22 }) cX9_splitLetters 3 (some .int) (dC, dI) (tysA cB cI cJ cZ cS) as 0 (wK cB cI cJ cZ cS a s) [(0, .ref (a 30))] [] (fun x u => x = r ∧ u = (wK cB cI cJ cZ cS a s')) := by
  intro p e s0 m below meth c A E H locs ls hP hD hS hl
  obtain ⟨C, hr, hlocks, hA, hK, hN⟩ := id E
  obtain ⟨hx, hb, hml, hown, hts⟩ := id C
  unfold kX9_splitLetters at hB
  refine lv_aload_n hx hb dX9_splitLetters_0 rfl (lv_at hl 0 rfl) ?_
  refine q_get (v := .int (s.v 20)) C inX9_splitLetters_X9 hK hP 30 rfl rfl 5 (by decide) rfl LX9_splitLetters_47 rfl dX9_splitLetters_1 ?_
  refine lv_istore_n (lv' := [(1, .int (s.v 20)), (0, .ref (a 30))]) hx hb dX9_splitLetters_4 rfl hl (by decide) rfl (fun ls hl => ?_)
  exact bkX9_splitLetters_5L fu _ _ hB p e s0 m below meth c A E H locs ls hP hD hS (lv_sub hl [1, 0] rfl)
theorem ckX9_splitLetters {l : Launch} {dC : Nat → ClassId} {dI : Nat → Nat → Nat} {cB cI cJ cZ cS : ClassId} {a : Nat → Nat} {r : Int32} {s' : KS} {s : KS} (hB : kX9_splitLetters s = some (r, s')) : CI l yX9_splitLetters wsX9_splitLetters ({ frames := 1, cells := 0, slots := 0, locals := 22 }) (dC, dI) (tysA cB cI cJ cZ cS) (wK cB cI cJ cZ cS a s) [.ref (a 30)] (fun x u => x = r ∧ u = (wK cB cI cJ cZ cS a s')) :=
  CI_of (cc := cX9_splitLetters) (maxL := 3) (ret := (some .int)) (by decide) rfl (Nat.le_of_ble_eq_true rfl) (bkX9_splitLetters _ hB)
theorem LX9_splitDigits_23 : Cond.fieldLink RX9 23 "GuessFerry$Tokens" "tape" "LGuessFerry$Tape;" ∈ wsX9_splitDigits := (List.mem_cons_of_mem _ (List.mem_append_left _ (List.mem_append_left _ (List.mem_append_left _ (List.mem_of_getElem? (i := 1) rfl)))))
theorem LX9_splitDigits_47 : Cond.fieldLink RX9 47 "GuessFerry$Tokens" "end" "I" ∈ wsX9_splitDigits := (List.mem_cons_of_mem _ (List.mem_append_left _ (List.mem_append_left _ (List.mem_append_left _ (List.mem_of_getElem? (i := 0) rfl)))))
theorem LX9_splitDigits_57 : Cond.fieldLink RX9 57 "GuessFerry$Tokens" "value" "J" ∈ wsX9_splitDigits := (List.mem_cons_of_mem _ (List.mem_append_left _ (List.mem_append_left _ (List.mem_append_left _ (List.mem_of_getElem? (i := 2) rfl)))))
theorem LX9_splitDigits_E_X7_byteAt : Cond.selects RX7 yX7_byteAt yX7_byteAt ∈ wsX9_splitDigits := (List.mem_cons_of_mem _ (List.mem_append_left _ (List.mem_append_left _ (List.mem_append_left _ (List.mem_of_getElem? (i := 7) rfl)))))
theorem LX9_splitDigits_I_X7 : Cond.initialized RX7 ∈ wsX9_splitDigits := (List.mem_cons_of_mem _ (List.mem_append_left _ (List.mem_append_left _ (List.mem_append_left _ (List.mem_of_getElem? (i := 6) rfl)))))
theorem LX9_splitDigits_K86 : Cond.constantLong RX9 86 10 ∈ wsX9_splitDigits := (List.mem_cons_of_mem _ (List.mem_append_left _ (List.mem_append_left _ (List.mem_append_left _ (List.mem_of_getElem? (i := 3) rfl)))))
theorem LX9_splitDigits_K88 : Cond.constantLong RX9 88 48 ∈ wsX9_splitDigits := (List.mem_cons_of_mem _ (List.mem_append_left _ (List.mem_append_left _ (List.mem_append_left _ (List.mem_of_getElem? (i := 4) rfl)))))
theorem LX9_splitDigits_N_X7_byteAt : Cond.instanceMethod yX7_byteAt ∈ wsX9_splitDigits := (List.mem_cons_of_mem _ (List.mem_append_left _ (List.mem_append_left _ (List.mem_append_left _ (List.mem_of_getElem? (i := 5) rfl)))))
theorem inX9_splitDigits_X7 : ∀ w ∈ u_ws RX7 TX7 2, w ∈ wsX9_splitDigits := fun w h => (List.mem_cons_of_mem _ (List.mem_append_right _ h))
theorem inX9_splitDigits_X9 : ∀ w ∈ u_ws RX9 TX9 7, w ∈ wsX9_splitDigits := fun w h => (List.mem_cons_of_mem _ (List.mem_append_left _ (List.mem_append_right _ h)))
set_option maxHeartbeats 4000000 in
set_option maxRecDepth 100000 in
theorem bkX9_splitDigits_78 {l : Launch} {dC : Nat → ClassId} {dI : Nat → Nat → Nat} {cB cI cJ cZ cS : ClassId} {a : Nat → Nat} {as : List Value} {r : Int32} {s' : KS} (s : KS) (x1 : Int32) (hB : kX9_splitDigits_78 s x1 = some (r, s')) : BlkI l yX9_splitDigits wsX9_splitDigits ({ frames := 1, cells := 0, slots := 0, locals := 21 }) cX9_splitDigits 2 (some .int) (dC, dI) (tysA cB cI cJ cZ cS) as 78 (wK cB cI cJ cZ cS a s) [(0, .ref (a 30)), (1, .int x1)] [] (fun x u => x = r ∧ u = (wK cB cI cJ cZ cS a s')) := by
  intro p e s0 m below meth c A E H locs ls hP hD hS hl
  obtain ⟨C, hr, hlocks, hA, hK, hN⟩ := id E
  obtain ⟨hx, hb, hml, hown, hts⟩ := id C
  unfold kX9_splitDigits_78 at hB
  refine lv_aload_n hx hb dX9_splitDigits_78 rfl (lv_at hl 0 rfl) ?_
  refine q_get (v := .int (s.v 20)) C inX9_splitDigits_X9 hK hP 30 rfl rfl 5 (by decide) rfl LX9_splitDigits_47 rfl dX9_splitDigits_79 ?_
  refine lv_iload_n hx hb dX9_splitDigits_82 rfl (lv_at hl 1 rfl) ?_
  refine lv_isub hx hb dX9_splitDigits_83 ?_
  refine lv_iconst (v := 4) hx hb dX9_splitDigits_84 (by decide) ?_
  refine lv_icmp_le (tgt := 94) hx hb dX9_splitDigits_85 (by decide) (fun c1 => ?_) (fun c1 => ?_)
  · have hB := if_p hB c1
    refine lv_sipush (v := 301) hx hb dX9_splitDigits_94 (by decide) ?_
    exact q_iret C hr hlocks hK hP hD hS (Nat.le_of_ble_eq_true rfl) (Nat.le_of_ble_eq_true rfl) dX9_splitDigits_97 (by cases hB; exact ⟨rfl, rfl⟩)
  · have hB := if_n hB c1
    refine lv_sipush (v := 303) hx hb dX9_splitDigits_88 (by decide) ?_
    refine lv_goto (tgt := 97) hx hb dX9_splitDigits_91 (by decide) ?_
    exact q_iret C hr hlocks hK hP hD hS (Nat.le_of_ble_eq_true rfl) (Nat.le_of_ble_eq_true rfl) dX9_splitDigits_97 (by cases hB; exact ⟨rfl, rfl⟩)
set_option maxHeartbeats 4000000 in
set_option maxRecDepth 100000 in
theorem bkX9_splitDigits_5 {l : Launch} {dC : Nat → ClassId} {dI : Nat → Nat → Nat} {cB cI cJ cZ cS : ClassId} {a : Nat → Nat} {as : List Value} {r : Int32} {s' : KS} {k5 : KS → Int32 → Option (Int32 × KS)} (hk5 : ∀ (s : KS) (x1 : Int32), k5 s x1 = some (r, s') → BlkI l yX9_splitDigits wsX9_splitDigits ({ frames := 1, cells := 0, slots := 0, locals := 21 }) cX9_splitDigits 2 (some .int) (dC, dI) (tysA cB cI cJ cZ cS) as 5 (wK cB cI cJ cZ cS a s) [(0, .ref (a 30)), (1, .int x1)] [] (fun x u => x = r ∧ u = (wK cB cI cJ cZ cS a s'))) (s : KS) (x1 : Int32) (hB : kX9_splitDigits_5 k5 s x1 = some (r, s')) : BlkI l yX9_splitDigits wsX9_splitDigits ({ frames := 1, cells := 0, slots := 0, locals := 21 }) cX9_splitDigits 2 (some .int) (dC, dI) (tysA cB cI cJ cZ cS) as 5 (wK cB cI cJ cZ cS a s) [(0, .ref (a 30)), (1, .int x1)] [] (fun x u => x = r ∧ u = (wK cB cI cJ cZ cS a s')) := by
  intro p e s0 m below meth c A E H locs ls hP hD hS hl
  obtain ⟨C, hr, hlocks, hA, hK, hN⟩ := id E
  obtain ⟨hx, hb, hml, hown, hts⟩ := id C
  unfold kX9_splitDigits_5 at hB
  refine lv_aload_n hx hb dX9_splitDigits_5 rfl (lv_at hl 0 rfl) ?_
  refine q_get (v := .int (s.v 20)) C inX9_splitDigits_X9 hK hP 30 rfl rfl 5 (by decide) rfl LX9_splitDigits_47 rfl dX9_splitDigits_6 ?_
  refine lv_aload_n hx hb dX9_splitDigits_9 rfl (lv_at hl 0 rfl) ?_
  refine q_get (v := .ref (a 0)) C inX9_splitDigits_X9 hK hP 30 rfl rfl 0 (by decide) rfl LX9_splitDigits_23 rfl dX9_splitDigits_10 ?_
  refine q_getN (v := .int (s.v 0)) C hN inX9_splitDigits_X7 hK hP 0 rfl rfl 1 (by decide) rfl nwF_X9_61 rfl dX9_splitDigits_13 ?_
  refine lv_icmp_ge (tgt := 78) hx hb dX9_splitDigits_16 (by decide) (fun c1 => ?_) (fun c1 => ?_)
  · have hB := if_p hB c1
    exact bkX9_splitDigits_78 _ _ hB p e s0 m below meth c A E H locs ls hP hD hS (lv_sub hl [0, 1] rfl)
  · have hB := if_n hB c1
    refine lv_aload_n hx hb dX9_splitDigits_19 rfl (lv_at hl 0 rfl) ?_
    refine q_get (v := .ref (a 0)) C inX9_splitDigits_X9 hK hP 30 rfl rfl 0 (by decide) rfl LX9_splitDigits_23 rfl dX9_splitDigits_20 ?_
    refine lv_aload_n hx hb dX9_splitDigits_23 rfl (lv_at hl 0 rfl) ?_
    refine q_get (v := .int (s.v 20)) C inX9_splitDigits_X9 hK hP 30 rfl rfl 5 (by decide) rfl LX9_splitDigits_47 rfl dX9_splitDigits_24 ?_
    obtain ⟨q_, s2, hc, hB⟩ := bindI_inv hB
    refine q_goiF (va_runVN (As := [.int (s.v 20)]) (rest := []) C (ckX7_byteAt hc _) ⟨va_cnB 1 hts gX9_splitDigits_X7_byteAt_n65 rfl rfl rfl (hN _ nwM_X9_65 rfl) (hts _ LX9_splitDigits_I_X7) (by decide +kernel) ⟨Nat.le_of_ble_eq_true rfl, Nat.le_of_ble_eq_true rfl⟩, hts _ LX9_splitDigits_N_X7_byteAt, hts _ LX9_splitDigits_E_X7_byteAt⟩ (q_preV hK hP (ci := 7) (q0 := 0) rfl rfl rfl (q_preF hN hK hP hD)) rfl rfl hl.1 rfl (lv_room (Nat.le_of_ble_eq_true rfl)) dX9_splitDigits_27 ⟨Nat.le_of_ble_eq_true rfl, Nat.le_of_ble_eq_true rfl⟩) hD hS hA (fun r3 w1 H locs hw hP hD hS => ?_)
    obtain ⟨hq_, hw⟩ := hw; subst hw; subst hq_
    obtain ⟨q_, hc, hB⟩ := bindP_inv hB
    refine q_goi0 (va_runS (As := [.int r3]) (rest := []) C (ckX9_isDigit hc _) (va_cwS 1 hts gX9_splitDigits_X9_isDigit rfl rfl rfl (by decide +kernel) ⟨Nat.le_of_ble_eq_true rfl, Nat.le_of_ble_eq_true rfl⟩) (q_pre0 hN hK) rfl rfl hl.1 rfl (lv_room (Nat.le_of_ble_eq_true rfl)) dX9_splitDigits_30 ⟨Nat.le_of_ble_eq_true rfl, Nat.le_of_ble_eq_true rfl⟩) hP hD hS hA (fun r4 w1 H locs hw hP hS => ?_)
    subst hw
    refine lv_if_eq (tgt := 78) hx hb dX9_splitDigits_33 (by decide) (fun c5 => ?_) (fun c5 => ?_)
    · have hB := if_p hB c5
      exact bkX9_splitDigits_78 _ _ hB p e s0 m below meth c A E H locs ls hP hD hS (lv_sub hl [0, 1] rfl)
    · have hB := if_n hB c5
      refine lv_aload_n hx hb dX9_splitDigits_36 rfl (lv_at hl 0 rfl) ?_
      refine lv_aload_n hx hb dX9_splitDigits_37 rfl (lv_at hl 0 rfl) ?_
      refine q_get (v := .long (s2.u 0)) C inX9_splitDigits_X9 hK hP 30 rfl rfl 6 (by decide) rfl LX9_splitDigits_57 rfl dX9_splitDigits_38 ?_
      refine lv_ldc2 (v := 10) hx hb hown (hts _ LX9_splitDigits_K86) dX9_splitDigits_41 ?_
      refine lv_lmul hx hb dX9_splitDigits_44 ?_
      refine lv_aload_n hx hb dX9_splitDigits_45 rfl (lv_at hl 0 rfl) ?_
      refine q_get (v := .ref (a 0)) C inX9_splitDigits_X9 hK hP 30 rfl rfl 0 (by decide) rfl LX9_splitDigits_23 rfl dX9_splitDigits_46 ?_
      refine lv_aload_n hx hb dX9_splitDigits_49 rfl (lv_at hl 0 rfl) ?_
      refine q_get (v := .int (s2.v 20)) C inX9_splitDigits_X9 hK hP 30 rfl rfl 5 (by decide) rfl LX9_splitDigits_47 rfl dX9_splitDigits_50 ?_
      obtain ⟨q_, s6, hc, hB⟩ := bindI_inv hB
      refine q_goiF (va_runVN (As := [.int (s2.v 20)]) (rest := [.long ((s2.u 0) * 10), .ref (a 30)]) C (ckX7_byteAt hc _) ⟨va_cnB 1 hts gX9_splitDigits_X7_byteAt_n65 rfl rfl rfl (hN _ nwM_X9_65 rfl) (hts _ LX9_splitDigits_I_X7) (by decide +kernel) ⟨Nat.le_of_ble_eq_true rfl, Nat.le_of_ble_eq_true rfl⟩, hts _ LX9_splitDigits_N_X7_byteAt, hts _ LX9_splitDigits_E_X7_byteAt⟩ (q_preV hK hP (ci := 7) (q0 := 0) rfl rfl rfl (q_preF hN hK hP hD)) rfl rfl hl.1 rfl (lv_room (Nat.le_of_ble_eq_true rfl)) dX9_splitDigits_53 ⟨Nat.le_of_ble_eq_true rfl, Nat.le_of_ble_eq_true rfl⟩) hD hS hA (fun r7 w1 H locs hw hP hD hS => ?_)
      obtain ⟨hq_, hw⟩ := hw; subst hw; subst hq_
      refine lv_i2l hx hb dX9_splitDigits_56 rfl ?_
      refine lv_ladd hx hb dX9_splitDigits_57 ?_
      refine lv_ldc2 (v := 48) hx hb hown (hts _ LX9_splitDigits_K88) dX9_splitDigits_58 ?_
      refine lv_lsub hx hb dX9_splitDigits_61 ?_
      obtain ⟨s8, hs9, hB⟩ := letS_inv hB
      refine q_put (ty := .long) (w2 := (wK cB cI cJ cZ cS a s8)) tyX9 tyX9_ok nmX9 C inX9_splitDigits_X9 hK hP hD hS 30 rfl rfl 6 (by decide) rfl LX9_splitDigits_57 rfl (by decide +kernel) (rfl) rfl (Nat.le_of_ble_eq_true rfl) dX9_splitDigits_62 (by subst hs9; rfl) (fun H locs hP hD hS => ?_)
      refine lv_aload_n hx hb dX9_splitDigits_65 rfl (lv_at hl 0 rfl) ?_
      refine lv_dup hx hb dX9_splitDigits_66 rfl ?_
      refine q_get (v := .int (s8.v 20)) C inX9_splitDigits_X9 hK hP 30 rfl rfl 5 (by decide) rfl LX9_splitDigits_47 rfl dX9_splitDigits_67 ?_
      refine lv_iconst (v := 1) hx hb dX9_splitDigits_70 (by decide) ?_
      refine lv_iadd hx hb dX9_splitDigits_71 ?_
      obtain ⟨s10, hs11, hB⟩ := letS_inv hB
      refine q_put (ty := .int) (w2 := (wK cB cI cJ cZ cS a s10)) tyX9 tyX9_ok nmX9 C inX9_splitDigits_X9 hK hP hD hS 30 rfl rfl 5 (by decide) rfl LX9_splitDigits_47 rfl (by decide +kernel) (rfl) rfl (Nat.le_of_ble_eq_true rfl) dX9_splitDigits_72 (by subst hs11; rfl) (fun H locs hP hD hS => ?_)
      refine lv_goto (tgt := 5) hx hb dX9_splitDigits_75 (by decide) ?_
      exact hk5 _ _ hB p e s0 m below meth c A E H locs ls hP hD hS (lv_sub hl [0, 1] rfl)
theorem bkX9_splitDigits_5L {l : Launch} {dC : Nat → ClassId} {dI : Nat → Nat → Nat} {cB cI cJ cZ cS : ClassId} {a : Nat → Nat} {as : List Value} {r : Int32} {s' : KS} : ∀ (n : Nat) (s : KS) (x1 : Int32), kX9_splitDigits_5L n s x1 = some (r, s') → BlkI l yX9_splitDigits wsX9_splitDigits ({ frames := 1, cells := 0, slots := 0, locals := 21 }) cX9_splitDigits 2 (some .int) (dC, dI) (tysA cB cI cJ cZ cS) as 5 (wK cB cI cJ cZ cS a s) [(0, .ref (a 30)), (1, .int x1)] [] (fun x u => x = r ∧ u = (wK cB cI cJ cZ cS a s')) := by
  intro n
  induction n with
  | zero => intro s x1 hB; exact none_ne hB
  | succ n ih => intro s x1 hB; exact bkX9_splitDigits_5 ih _ _ hB
set_option maxHeartbeats 4000000 in
set_option maxRecDepth 100000 in
theorem bkX9_splitDigits {l : Launch} {dC : Nat → ClassId} {dI : Nat → Nat → Nat} {cB cI cJ cZ cS : ClassId} {a : Nat → Nat} {as : List Value} {r : Int32} {s' : KS} (s : KS) (hB : kX9_splitDigits s = some (r, s')) : BlkI l yX9_splitDigits wsX9_splitDigits ({ frames := 1, cells := 0, slots := 0, locals := 21 }) cX9_splitDigits 2 (some .int) (dC, dI) (tysA cB cI cJ cZ cS) as 0 (wK cB cI cJ cZ cS a s) [(0, .ref (a 30))] [] (fun x u => x = r ∧ u = (wK cB cI cJ cZ cS a s')) := by
  intro p e s0 m below meth c A E H locs ls hP hD hS hl
  obtain ⟨C, hr, hlocks, hA, hK, hN⟩ := id E
  obtain ⟨hx, hb, hml, hown, hts⟩ := id C
  unfold kX9_splitDigits at hB
  refine lv_aload_n hx hb dX9_splitDigits_0 rfl (lv_at hl 0 rfl) ?_
  refine q_get (v := .int (s.v 20)) C inX9_splitDigits_X9 hK hP 30 rfl rfl 5 (by decide) rfl LX9_splitDigits_47 rfl dX9_splitDigits_1 ?_
  refine lv_istore_n (lv' := [(1, .int (s.v 20)), (0, .ref (a 30))]) hx hb dX9_splitDigits_4 rfl hl (by decide) rfl (fun ls hl => ?_)
  exact bkX9_splitDigits_5L fu _ _ hB p e s0 m below meth c A E H locs ls hP hD hS (lv_sub hl [1, 0] rfl)
theorem ckX9_splitDigits {l : Launch} {dC : Nat → ClassId} {dI : Nat → Nat → Nat} {cB cI cJ cZ cS : ClassId} {a : Nat → Nat} {r : Int32} {s' : KS} {s : KS} (hB : kX9_splitDigits s = some (r, s')) : CI l yX9_splitDigits wsX9_splitDigits ({ frames := 1, cells := 0, slots := 0, locals := 21 }) (dC, dI) (tysA cB cI cJ cZ cS) (wK cB cI cJ cZ cS a s) [.ref (a 30)] (fun x u => x = r ∧ u = (wK cB cI cJ cZ cS a s')) :=
  CI_of (cc := cX9_splitDigits) (maxL := 2) (ret := (some .int)) (by decide) rfl (Nat.le_of_ble_eq_true rfl) (bkX9_splitDigits _ hB)
theorem LX10_feed_10 : Cond.fieldLink RX10 10 "GuessFerry" "tape" "LGuessFerry$Tape;" ∈ wsX10_feed := (List.mem_cons_of_mem _ (List.mem_append_left _ (List.mem_append_left _ (List.mem_append_left _ (List.mem_of_getElem? (i := 0) rfl)))))
theorem LX10_feed_E_X7_addFour : Cond.selects RX7 yX7_addFour yX7_addFour ∈ wsX10_feed := (List.mem_cons_of_mem _ (List.mem_append_left _ (List.mem_append_left _ (List.mem_append_left _ (List.mem_of_getElem? (i := 5) rfl)))))
theorem LX10_feed_E_X7_hasRoomFor : Cond.selects RX7 yX7_hasRoomFor yX7_hasRoomFor ∈ wsX10_feed := (List.mem_cons_of_mem _ (List.mem_append_left _ (List.mem_append_left _ (List.mem_append_left _ (List.mem_of_getElem? (i := 3) rfl)))))
theorem LX10_feed_I_X7 : Cond.initialized RX7 ∈ wsX10_feed := (List.mem_cons_of_mem _ (List.mem_append_left _ (List.mem_append_left _ (List.mem_append_left _ (List.mem_of_getElem? (i := 2) rfl)))))
theorem LX10_feed_N_X7_addFour : Cond.instanceMethod yX7_addFour ∈ wsX10_feed := (List.mem_cons_of_mem _ (List.mem_append_left _ (List.mem_append_left _ (List.mem_append_left _ (List.mem_of_getElem? (i := 4) rfl)))))
theorem LX10_feed_N_X7_hasRoomFor : Cond.instanceMethod yX7_hasRoomFor ∈ wsX10_feed := (List.mem_cons_of_mem _ (List.mem_append_left _ (List.mem_append_left _ (List.mem_append_left _ (List.mem_of_getElem? (i := 1) rfl)))))
theorem inX10_feed_X10 : ∀ w ∈ u_ws RX10 TX10 9, w ∈ wsX10_feed := fun w h => (List.mem_cons_of_mem _ (List.mem_append_left _ (List.mem_append_right _ h)))
theorem inX10_feed_X7 : ∀ w ∈ u_ws RX7 TX7 2, w ∈ wsX10_feed := fun w h => (List.mem_cons_of_mem _ (List.mem_append_right _ h))
set_option maxHeartbeats 4000000 in
set_option maxRecDepth 100000 in
theorem bkX10_feed {l : Launch} {dC : Nat → ClassId} {dI : Nat → Nat → Nat} {cB cI cJ cZ cS : ClassId} {a b b2 c0 : Nat → Nat} {rg sl : Nat → Option Nat} {as : List Value} {r : Int32} {s' : XS} (s : XS) (x1 : Int32) (x2 : Int32) (x3 : Int32) (x4 : Int32) (x5 : Int32) (hB : kX10_feed s x1 x2 x3 x4 x5 = some (r, s')) : BlkI l yX10_feed wsX10_feed ({ frames := 1, cells := 0, slots := 0, locals := 22 }) cX10_feed 6 (some .int) (dC, dI) (tysA cB cI cJ cZ cS) as 0 (wX cB cI cJ cZ cS a b b2 c0 rg sl s) [(0, .ref (c0 0)), (1, .int x1), (2, .int x2), (3, .int x3), (4, .int x4), (5, .int x5)] [] (fun x u => x = r ∧ u = (wX cB cI cJ cZ cS a b b2 c0 rg sl s')) := by
  intro p e s0 m below meth c A E H locs ls hP hD hS hl
  obtain ⟨C, hr, hlocks, hA, hK, hN⟩ := id E
  obtain ⟨hx, hb, hml, hown, hts⟩ := id C
  unfold kX10_feed at hB
  refine lv_aload_n hx hb dX10_feed_0 rfl (lv_at hl 0 rfl) ?_
  refine q_get (v := .ref (a 0)) C inX10_feed_X10 hK hP 0 rfl rfl 0 (by decide) rfl LX10_feed_10 rfl dX10_feed_1 ?_
  refine lv_bipush (v := 20) hx hb dX10_feed_4 (by decide) ?_
  obtain ⟨q_, s1, hc, hB⟩ := bindI_inv hB
  refine q_goi (wr := ((wG cZ cS a b b2 c0 rg sl s.g) ++ (wD cI b2 s.t) ++ (wD cI b s.n))) (va_runVN (As := [.int 20]) (rest := []) C (ckX7_hasRoomFor hc _) ⟨va_cnB 1 hts gX10_feed_X7_hasRoomFor_n77 rfl rfl rfl (hN _ nwM_X10_77 rfl) (hts _ LX10_feed_I_X7) (by decide +kernel) ⟨Nat.le_of_ble_eq_true rfl, Nat.le_of_ble_eq_true rfl⟩, hts _ LX10_feed_N_X7_hasRoomFor, hts _ LX10_feed_E_X7_hasRoomFor⟩ (q_preV hK hP (ci := 7) (q0 := 17) rfl rfl rfl (q_pre hN hK hP hD [17, 18, 19, 20, 21, 22, 23, 24, 25, 26, 27, 28, 29, 30, 31, 32, 33, 34, 35, 36, 37, 38, 39, 40, 41, 42, 43, 44, 45, 46, 47, 48, 49, 50, 51, 52, 53, 54, 55, 56, 57, 58, 59, 60, 61, 62, 63] (by first | exact zqs_0X | rfl) zqn_0)) rfl rfl hl.1 rfl (lv_room (Nat.le_of_ble_eq_true rfl)) dX10_feed_6 ⟨Nat.le_of_ble_eq_true rfl, Nat.le_of_ble_eq_true rfl⟩) hP hD hS hA [17, 18, 19, 20, 21, 22, 23, 24, 25, 26, 27, 28, 29, 30, 31, 32, 33, 34, 35, 36, 37, 38, 39, 40, 41, 42, 43, 44, 45, 46, 47, 48, 49, 50, 51, 52, 53, 54, 55, 56, 57, 58, 59, 60, 61, 62, 63] [0, 1, 2, 3, 4, 5, 6, 7, 8, 9, 10, 11, 12, 13, 14, 15, 16] (by first | exact zqs_0X | rfl) (by first | exact zqs_1X | rfl) zqn_1 zqd_0 (fun r2 w1 H locs hw hP hD hS => ?_)
  obtain ⟨hq_, hw⟩ := hw; subst hw; subst hq_
  obtain ⟨s3, hs4, hB⟩ := letS_inv hB
  have hP : va_P (dC, dI) vwCl (wX cB cI cJ cZ cS a b b2 c0 rg sl s3) H := by subst hs4; exact hP
  have hD : va_D A (wX cB cI cJ cZ cS a b b2 c0 rg sl s3) := by subst hs4; exact hD
  refine lv_if_ne (tgt := 14) hx hb dX10_feed_9 (by decide) (fun c5 => ?_) (fun c5 => ?_)
  · have hB := if_n hB c5
    refine lv_aload_n hx hb dX10_feed_14 rfl (lv_at hl 0 rfl) ?_
    refine q_get (v := .ref (a 0)) C inX10_feed_X10 hK hP 0 rfl rfl 0 (by decide) rfl LX10_feed_10 rfl dX10_feed_15 ?_
    refine lv_iload_n hx hb dX10_feed_18 rfl (lv_at hl 1 rfl) ?_
    obtain ⟨s6, hc, hB⟩ := bindP_inv hB
    refine q_gov (wr := ((wG cZ cS a b b2 c0 rg sl s3.g) ++ (wD cI b2 s3.t) ++ (wD cI b s3.n))) (va_runVN (As := [.int x1]) (rest := []) C (ckX7_addFour hc _) ⟨va_cnB 1 hts gX10_feed_X7_addFour_n81 rfl rfl rfl (hN _ nwM_X10_81 rfl) (hts _ LX10_feed_I_X7) (by decide +kernel) ⟨Nat.le_of_ble_eq_true rfl, Nat.le_of_ble_eq_true rfl⟩, hts _ LX10_feed_N_X7_addFour, hts _ LX10_feed_E_X7_addFour⟩ (q_preV hK hP (ci := 7) (q0 := 17) rfl rfl rfl (q_pre hN hK hP hD [17, 18, 19, 20, 21, 22, 23, 24, 25, 26, 27, 28, 29, 30, 31, 32, 33, 34, 35, 36, 37, 38, 39, 40, 41, 42, 43, 44, 45, 46, 47, 48, 49, 50, 51, 52, 53, 54, 55, 56, 57, 58, 59, 60, 61, 62, 63] (by first | exact zqs_0X | rfl) zqn_0)) rfl rfl hl.1 rfl (lv_room (Nat.le_of_ble_eq_true rfl)) dX10_feed_19 ⟨Nat.le_of_ble_eq_true rfl, Nat.le_of_ble_eq_true rfl⟩) hP hD hS hA [17, 18, 19, 20, 21, 22, 23, 24, 25, 26, 27, 28, 29, 30, 31, 32, 33, 34, 35, 36, 37, 38, 39, 40, 41, 42, 43, 44, 45, 46, 47, 48, 49, 50, 51, 52, 53, 54, 55, 56, 57, 58, 59, 60, 61, 62, 63] [0, 1, 2, 3, 4, 5, 6, 7, 8, 9, 10, 11, 12, 13, 14, 15, 16] (by first | exact zqs_0X | rfl) (by first | exact zqs_1X | rfl) zqn_1 zqd_0 (fun w1 H locs hw hP hD hS => ?_)
    subst hw
    obtain ⟨s7, hs8, hB⟩ := letS_inv hB
    have hP : va_P (dC, dI) vwCl (wX cB cI cJ cZ cS a b b2 c0 rg sl s7) H := by subst hs8; exact hP
    have hD : va_D A (wX cB cI cJ cZ cS a b b2 c0 rg sl s7) := by subst hs8; exact hD
    refine lv_aload_n hx hb dX10_feed_22 rfl (lv_at hl 0 rfl) ?_
    refine q_get (v := .ref (a 0)) C inX10_feed_X10 hK hP 0 rfl rfl 0 (by decide) rfl LX10_feed_10 rfl dX10_feed_23 ?_
    refine lv_iload_n hx hb dX10_feed_26 rfl (lv_at hl 2 rfl) ?_
    obtain ⟨s9, hc, hB⟩ := bindP_inv hB
    refine q_gov (wr := ((wG cZ cS a b b2 c0 rg sl s7.g) ++ (wD cI b2 s7.t) ++ (wD cI b s7.n))) (va_runVN (As := [.int x2]) (rest := []) C (ckX7_addFour hc _) ⟨va_cnB 1 hts gX10_feed_X7_addFour_n81 rfl rfl rfl (hN _ nwM_X10_81 rfl) (hts _ LX10_feed_I_X7) (by decide +kernel) ⟨Nat.le_of_ble_eq_true rfl, Nat.le_of_ble_eq_true rfl⟩, hts _ LX10_feed_N_X7_addFour, hts _ LX10_feed_E_X7_addFour⟩ (q_preV hK hP (ci := 7) (q0 := 17) rfl rfl rfl (q_pre hN hK hP hD [17, 18, 19, 20, 21, 22, 23, 24, 25, 26, 27, 28, 29, 30, 31, 32, 33, 34, 35, 36, 37, 38, 39, 40, 41, 42, 43, 44, 45, 46, 47, 48, 49, 50, 51, 52, 53, 54, 55, 56, 57, 58, 59, 60, 61, 62, 63] (by first | exact zqs_0X | rfl) zqn_0)) rfl rfl hl.1 rfl (lv_room (Nat.le_of_ble_eq_true rfl)) dX10_feed_27 ⟨Nat.le_of_ble_eq_true rfl, Nat.le_of_ble_eq_true rfl⟩) hP hD hS hA [17, 18, 19, 20, 21, 22, 23, 24, 25, 26, 27, 28, 29, 30, 31, 32, 33, 34, 35, 36, 37, 38, 39, 40, 41, 42, 43, 44, 45, 46, 47, 48, 49, 50, 51, 52, 53, 54, 55, 56, 57, 58, 59, 60, 61, 62, 63] [0, 1, 2, 3, 4, 5, 6, 7, 8, 9, 10, 11, 12, 13, 14, 15, 16] (by first | exact zqs_0X | rfl) (by first | exact zqs_1X | rfl) zqn_1 zqd_0 (fun w1 H locs hw hP hD hS => ?_)
    subst hw
    obtain ⟨s10, hs11, hB⟩ := letS_inv hB
    have hP : va_P (dC, dI) vwCl (wX cB cI cJ cZ cS a b b2 c0 rg sl s10) H := by subst hs11; exact hP
    have hD : va_D A (wX cB cI cJ cZ cS a b b2 c0 rg sl s10) := by subst hs11; exact hD
    refine lv_aload_n hx hb dX10_feed_30 rfl (lv_at hl 0 rfl) ?_
    refine q_get (v := .ref (a 0)) C inX10_feed_X10 hK hP 0 rfl rfl 0 (by decide) rfl LX10_feed_10 rfl dX10_feed_31 ?_
    refine lv_iload_n hx hb dX10_feed_34 rfl (lv_at hl 3 rfl) ?_
    obtain ⟨s12, hc, hB⟩ := bindP_inv hB
    refine q_gov (wr := ((wG cZ cS a b b2 c0 rg sl s10.g) ++ (wD cI b2 s10.t) ++ (wD cI b s10.n))) (va_runVN (As := [.int x3]) (rest := []) C (ckX7_addFour hc _) ⟨va_cnB 1 hts gX10_feed_X7_addFour_n81 rfl rfl rfl (hN _ nwM_X10_81 rfl) (hts _ LX10_feed_I_X7) (by decide +kernel) ⟨Nat.le_of_ble_eq_true rfl, Nat.le_of_ble_eq_true rfl⟩, hts _ LX10_feed_N_X7_addFour, hts _ LX10_feed_E_X7_addFour⟩ (q_preV hK hP (ci := 7) (q0 := 17) rfl rfl rfl (q_pre hN hK hP hD [17, 18, 19, 20, 21, 22, 23, 24, 25, 26, 27, 28, 29, 30, 31, 32, 33, 34, 35, 36, 37, 38, 39, 40, 41, 42, 43, 44, 45, 46, 47, 48, 49, 50, 51, 52, 53, 54, 55, 56, 57, 58, 59, 60, 61, 62, 63] (by first | exact zqs_0X | rfl) zqn_0)) rfl rfl hl.1 rfl (lv_room (Nat.le_of_ble_eq_true rfl)) dX10_feed_35 ⟨Nat.le_of_ble_eq_true rfl, Nat.le_of_ble_eq_true rfl⟩) hP hD hS hA [17, 18, 19, 20, 21, 22, 23, 24, 25, 26, 27, 28, 29, 30, 31, 32, 33, 34, 35, 36, 37, 38, 39, 40, 41, 42, 43, 44, 45, 46, 47, 48, 49, 50, 51, 52, 53, 54, 55, 56, 57, 58, 59, 60, 61, 62, 63] [0, 1, 2, 3, 4, 5, 6, 7, 8, 9, 10, 11, 12, 13, 14, 15, 16] (by first | exact zqs_0X | rfl) (by first | exact zqs_1X | rfl) zqn_1 zqd_0 (fun w1 H locs hw hP hD hS => ?_)
    subst hw
    obtain ⟨s13, hs14, hB⟩ := letS_inv hB
    have hP : va_P (dC, dI) vwCl (wX cB cI cJ cZ cS a b b2 c0 rg sl s13) H := by subst hs14; exact hP
    have hD : va_D A (wX cB cI cJ cZ cS a b b2 c0 rg sl s13) := by subst hs14; exact hD
    refine lv_aload_n hx hb dX10_feed_38 rfl (lv_at hl 0 rfl) ?_
    refine q_get (v := .ref (a 0)) C inX10_feed_X10 hK hP 0 rfl rfl 0 (by decide) rfl LX10_feed_10 rfl dX10_feed_39 ?_
    refine lv_iload hx hb dX10_feed_42 (lv_at hl 4 rfl) ?_
    obtain ⟨s15, hc, hB⟩ := bindP_inv hB
    refine q_gov (wr := ((wG cZ cS a b b2 c0 rg sl s13.g) ++ (wD cI b2 s13.t) ++ (wD cI b s13.n))) (va_runVN (As := [.int x4]) (rest := []) C (ckX7_addFour hc _) ⟨va_cnB 1 hts gX10_feed_X7_addFour_n81 rfl rfl rfl (hN _ nwM_X10_81 rfl) (hts _ LX10_feed_I_X7) (by decide +kernel) ⟨Nat.le_of_ble_eq_true rfl, Nat.le_of_ble_eq_true rfl⟩, hts _ LX10_feed_N_X7_addFour, hts _ LX10_feed_E_X7_addFour⟩ (q_preV hK hP (ci := 7) (q0 := 17) rfl rfl rfl (q_pre hN hK hP hD [17, 18, 19, 20, 21, 22, 23, 24, 25, 26, 27, 28, 29, 30, 31, 32, 33, 34, 35, 36, 37, 38, 39, 40, 41, 42, 43, 44, 45, 46, 47, 48, 49, 50, 51, 52, 53, 54, 55, 56, 57, 58, 59, 60, 61, 62, 63] (by first | exact zqs_0X | rfl) zqn_0)) rfl rfl hl.1 rfl (lv_room (Nat.le_of_ble_eq_true rfl)) dX10_feed_44 ⟨Nat.le_of_ble_eq_true rfl, Nat.le_of_ble_eq_true rfl⟩) hP hD hS hA [17, 18, 19, 20, 21, 22, 23, 24, 25, 26, 27, 28, 29, 30, 31, 32, 33, 34, 35, 36, 37, 38, 39, 40, 41, 42, 43, 44, 45, 46, 47, 48, 49, 50, 51, 52, 53, 54, 55, 56, 57, 58, 59, 60, 61, 62, 63] [0, 1, 2, 3, 4, 5, 6, 7, 8, 9, 10, 11, 12, 13, 14, 15, 16] (by first | exact zqs_0X | rfl) (by first | exact zqs_1X | rfl) zqn_1 zqd_0 (fun w1 H locs hw hP hD hS => ?_)
    subst hw
    obtain ⟨s16, hs17, hB⟩ := letS_inv hB
    have hP : va_P (dC, dI) vwCl (wX cB cI cJ cZ cS a b b2 c0 rg sl s16) H := by subst hs17; exact hP
    have hD : va_D A (wX cB cI cJ cZ cS a b b2 c0 rg sl s16) := by subst hs17; exact hD
    refine lv_aload_n hx hb dX10_feed_47 rfl (lv_at hl 0 rfl) ?_
    refine q_get (v := .ref (a 0)) C inX10_feed_X10 hK hP 0 rfl rfl 0 (by decide) rfl LX10_feed_10 rfl dX10_feed_48 ?_
    refine lv_iload hx hb dX10_feed_51 (lv_at hl 5 rfl) ?_
    obtain ⟨s18, hc, hB⟩ := bindP_inv hB
    refine q_gov (wr := ((wG cZ cS a b b2 c0 rg sl s16.g) ++ (wD cI b2 s16.t) ++ (wD cI b s16.n))) (va_runVN (As := [.int x5]) (rest := []) C (ckX7_addFour hc _) ⟨va_cnB 1 hts gX10_feed_X7_addFour_n81 rfl rfl rfl (hN _ nwM_X10_81 rfl) (hts _ LX10_feed_I_X7) (by decide +kernel) ⟨Nat.le_of_ble_eq_true rfl, Nat.le_of_ble_eq_true rfl⟩, hts _ LX10_feed_N_X7_addFour, hts _ LX10_feed_E_X7_addFour⟩ (q_preV hK hP (ci := 7) (q0 := 17) rfl rfl rfl (q_pre hN hK hP hD [17, 18, 19, 20, 21, 22, 23, 24, 25, 26, 27, 28, 29, 30, 31, 32, 33, 34, 35, 36, 37, 38, 39, 40, 41, 42, 43, 44, 45, 46, 47, 48, 49, 50, 51, 52, 53, 54, 55, 56, 57, 58, 59, 60, 61, 62, 63] (by first | exact zqs_0X | rfl) zqn_0)) rfl rfl hl.1 rfl (lv_room (Nat.le_of_ble_eq_true rfl)) dX10_feed_53 ⟨Nat.le_of_ble_eq_true rfl, Nat.le_of_ble_eq_true rfl⟩) hP hD hS hA [17, 18, 19, 20, 21, 22, 23, 24, 25, 26, 27, 28, 29, 30, 31, 32, 33, 34, 35, 36, 37, 38, 39, 40, 41, 42, 43, 44, 45, 46, 47, 48, 49, 50, 51, 52, 53, 54, 55, 56, 57, 58, 59, 60, 61, 62, 63] [0, 1, 2, 3, 4, 5, 6, 7, 8, 9, 10, 11, 12, 13, 14, 15, 16] (by first | exact zqs_0X | rfl) (by first | exact zqs_1X | rfl) zqn_1 zqd_0 (fun w1 H locs hw hP hD hS => ?_)
    subst hw
    obtain ⟨s19, hs20, hB⟩ := letS_inv hB
    have hP : va_P (dC, dI) vwCl (wX cB cI cJ cZ cS a b b2 c0 rg sl s19) H := by subst hs20; exact hP
    have hD : va_D A (wX cB cI cJ cZ cS a b b2 c0 rg sl s19) := by subst hs20; exact hD
    refine lv_aload_n hx hb dX10_feed_56 rfl (lv_at hl 0 rfl) ?_
    refine q_get (v := .ref (a 0)) C inX10_feed_X10 hK hP 0 rfl rfl 0 (by decide) rfl LX10_feed_10 rfl dX10_feed_57 ?_
    refine q_getN (v := .int (s19.k.v 0)) C hN inX10_feed_X7 hK hP 17 rfl rfl 1 (by decide) rfl nwF_X10_85 rfl dX10_feed_60 ?_
    exact q_iret C hr hlocks hK hP hD hS (Nat.le_of_ble_eq_true rfl) (Nat.le_of_ble_eq_true rfl) dX10_feed_63 (by cases hB; exact ⟨rfl, rfl⟩)
  · have hB := if_p hB c5
    refine lv_iconst (v := (-1)) hx hb dX10_feed_12 (by decide) ?_
    exact q_iret C hr hlocks hK hP hD hS (Nat.le_of_ble_eq_true rfl) (Nat.le_of_ble_eq_true rfl) dX10_feed_13 (by cases hB; exact ⟨rfl, rfl⟩)
theorem ckX10_feed {l : Launch} {dC : Nat → ClassId} {dI : Nat → Nat → Nat} {cB cI cJ cZ cS : ClassId} {a b b2 c0 : Nat → Nat} {rg sl : Nat → Option Nat} {r : Int32} {s' : XS} {s : XS} {x1 : Int32} {x2 : Int32} {x3 : Int32} {x4 : Int32} {x5 : Int32} (hB : kX10_feed s x1 x2 x3 x4 x5 = some (r, s')) : CI l yX10_feed wsX10_feed ({ frames := 1, cells := 0, slots := 0, locals := 22 }) (dC, dI) (tysA cB cI cJ cZ cS) (wX cB cI cJ cZ cS a b b2 c0 rg sl s) [.ref (c0 0), .int x1, .int x2, .int x3, .int x4, .int x5] (fun x u => x = r ∧ u = (wX cB cI cJ cZ cS a b b2 c0 rg sl s')) :=
  CI_of (cc := cX10_feed) (maxL := 6) (ret := (some .int)) (by decide) rfl (Nat.le_of_ble_eq_true rfl) (bkX10_feed _ _ _ _ _ _ hB)
theorem LX10_back_10 : Cond.fieldLink RX10 10 "GuessFerry" "tape" "LGuessFerry$Tape;" ∈ wsX10_back := (List.mem_cons_of_mem _ (List.mem_append_left _ (List.mem_append_left _ (List.mem_of_getElem? (i := 0) rfl))))
theorem inX10_back_X10 : ∀ w ∈ u_ws RX10 TX10 9, w ∈ wsX10_back := fun _ h => List.mem_cons_of_mem _ (List.mem_append_left _ (List.mem_append_right _ h))
theorem inX10_back_X7 : ∀ w ∈ u_ws RX7 TX7 2, w ∈ wsX10_back := fun _ h => List.mem_cons_of_mem _ (List.mem_append_right _ h)
set_option maxHeartbeats 4000000 in
set_option maxRecDepth 100000 in
theorem bkX10_back {l : Launch} {dC : Nat → ClassId} {dI : Nat → Nat → Nat} {cB cI cJ cZ cS : ClassId} {a b b2 c0 : Nat → Nat} {rg sl : Nat → Option Nat} {as : List Value} {r : Int32} {s' : XS} (s : XS) (x1 : Int32) (hB : kX10_back s x1 = some (r, s')) : BlkI l yX10_back wsX10_back ({ frames := 0, cells := 0, slots := 0, locals := 0 }) cX10_back 2 (some .int) (dC, dI) (tysA cB cI cJ cZ cS) as 0 (wX cB cI cJ cZ cS a b b2 c0 rg sl s) [(0, .ref (c0 0)), (1, .int x1)] [] (fun x u => x = r ∧ u = (wX cB cI cJ cZ cS a b b2 c0 rg sl s')) := by
  intro p e s0 m below meth c A E H locs ls hP hD hS hl
  obtain ⟨C, hr, hlocks, hA, hK, hN⟩ := id E
  obtain ⟨hx, hb, hml, hown, hts⟩ := id C
  unfold kX10_back at hB
  refine lv_iload_n hx hb dX10_back_0 rfl (lv_at hl 1 rfl) ?_
  refine lv_if_lt (tgt := 15) hx hb dX10_back_1 (by decide) (fun c1 => ?_) (fun c1 => ?_)
  · have hB := if_p hB c1
    refine lv_iconst (v := (-1)) hx hb dX10_back_15 (by decide) ?_
    exact q_iret C hr hlocks hK hP hD hS (Nat.le_of_ble_eq_true rfl) (Nat.le_of_ble_eq_true rfl) dX10_back_16 (by cases hB; exact ⟨rfl, rfl⟩)
  · have hB := if_n hB c1
    refine lv_iload_n hx hb dX10_back_4 rfl (lv_at hl 1 rfl) ?_
    refine lv_aload_n hx hb dX10_back_5 rfl (lv_at hl 0 rfl) ?_
    refine q_get (v := .ref (a 0)) C inX10_back_X10 hK hP 0 rfl rfl 0 (by decide) rfl LX10_back_10 rfl dX10_back_6 ?_
    refine q_getN (v := .int (s.k.v 0)) C hN inX10_back_X7 hK hP 17 rfl rfl 1 (by decide) rfl nwF_X10_85 rfl dX10_back_9 ?_
    refine lv_icmp_le (tgt := 17) hx hb dX10_back_12 (by decide) (fun c2 => ?_) (fun c2 => ?_)
    · have hB := if_p hB c2
      refine lv_aload_n hx hb dX10_back_17 rfl (lv_at hl 0 rfl) ?_
      refine q_get (v := .ref (a 0)) C inX10_back_X10 hK hP 0 rfl rfl 0 (by decide) rfl LX10_back_10 rfl dX10_back_18 ?_
      refine lv_dup hx hb dX10_back_21 rfl ?_
      refine q_getN (v := .int (s.k.v 0)) C hN inX10_back_X7 hK hP 17 rfl rfl 1 (by decide) rfl nwF_X10_85 rfl dX10_back_22 ?_
      refine lv_iload_n hx hb dX10_back_25 rfl (lv_at hl 1 rfl) ?_
      refine lv_isub hx hb dX10_back_26 ?_
      obtain ⟨s3, hs4, hB⟩ := letS_inv hB
      refine q_putN (ty := .int) (w2 := (wX cB cI cJ cZ cS a b b2 c0 rg sl s3)) tyX7 tyX7_ok nmX7 C hN inX10_back_X7 hK hP hD hS 17 rfl rfl 1 (by decide) rfl nwF_X10_85 rfl (by decide +kernel) (rfl) rfl (Nat.le_of_ble_eq_true rfl) dX10_back_27 (by subst hs4; rfl) (fun H locs hP hD hS => ?_)
      refine lv_aload_n hx hb dX10_back_30 rfl (lv_at hl 0 rfl) ?_
      refine q_get (v := .ref (a 0)) C inX10_back_X10 hK hP 0 rfl rfl 0 (by decide) rfl LX10_back_10 rfl dX10_back_31 ?_
      refine q_getN (v := .int (s3.k.v 0)) C hN inX10_back_X7 hK hP 17 rfl rfl 1 (by decide) rfl nwF_X10_85 rfl dX10_back_34 ?_
      exact q_iret C hr hlocks hK hP hD hS (Nat.le_of_ble_eq_true rfl) (Nat.le_of_ble_eq_true rfl) dX10_back_37 (by cases hB; exact ⟨rfl, rfl⟩)
    · have hB := if_n hB c2
      refine lv_iconst (v := (-1)) hx hb dX10_back_15 (by decide) ?_
      exact q_iret C hr hlocks hK hP hD hS (Nat.le_of_ble_eq_true rfl) (Nat.le_of_ble_eq_true rfl) dX10_back_16 (by cases hB; exact ⟨rfl, rfl⟩)
theorem ckX10_back {l : Launch} {dC : Nat → ClassId} {dI : Nat → Nat → Nat} {cB cI cJ cZ cS : ClassId} {a b b2 c0 : Nat → Nat} {rg sl : Nat → Option Nat} {r : Int32} {s' : XS} {s : XS} {x1 : Int32} (hB : kX10_back s x1 = some (r, s')) : CI l yX10_back wsX10_back ({ frames := 0, cells := 0, slots := 0, locals := 0 }) (dC, dI) (tysA cB cI cJ cZ cS) (wX cB cI cJ cZ cS a b b2 c0 rg sl s) [.ref (c0 0), .int x1] (fun x u => x = r ∧ u = (wX cB cI cJ cZ cS a b b2 c0 rg sl s')) :=
  CI_of (cc := cX10_back) (maxL := 2) (ret := (some .int)) (by decide) rfl (Nat.le_of_ble_eq_true rfl) (bkX10_back _ _ hB)
theorem LX10_place_28 : Cond.fieldLink RX10 28 "GuessFerry" "reader" "LGuessFerry$Reader;" ∈ wsX10_place := (List.mem_cons_of_mem _ (List.mem_append_left _ (List.mem_append_left _ (List.mem_of_getElem? (i := 0) rfl))))
theorem inX10_place_X10 : ∀ w ∈ u_ws RX10 TX10 9, w ∈ wsX10_place := fun _ h => List.mem_cons_of_mem _ (List.mem_append_left _ (List.mem_append_right _ h))
theorem inX10_place_X4 : ∀ w ∈ u_ws RX4 TX4 8, w ∈ wsX10_place := fun _ h => List.mem_cons_of_mem _ (List.mem_append_right _ h)
set_option maxHeartbeats 4000000 in
set_option maxRecDepth 100000 in
theorem bkX10_place {l : Launch} {dC : Nat → ClassId} {dI : Nat → Nat → Nat} {cB cI cJ cZ cS : ClassId} {a b b2 c0 : Nat → Nat} {rg sl : Nat → Option Nat} {as : List Value} {r : Int32} {s' : XS} (s : XS) (hB : kX10_place s = some (r, s')) : BlkI l yX10_place wsX10_place ({ frames := 0, cells := 0, slots := 0, locals := 0 }) cX10_place 1 (some .int) (dC, dI) (tysA cB cI cJ cZ cS) as 0 (wX cB cI cJ cZ cS a b b2 c0 rg sl s) [(0, .ref (c0 0))] [] (fun x u => x = r ∧ u = (wX cB cI cJ cZ cS a b b2 c0 rg sl s')) := by
  intro p e s0 m below meth c A E H locs ls hP hD hS hl
  obtain ⟨C, hr, hlocks, hA, hK, hN⟩ := id E
  obtain ⟨hx, hb, hml, hown, hts⟩ := id C
  unfold kX10_place at hB
  refine lv_aload_n hx hb dX10_place_0 rfl (lv_at hl 0 rfl) ?_
  refine q_get (v := .ref (a 28)) C inX10_place_X10 hK hP 0 rfl rfl 2 (by decide) rfl LX10_place_28 rfl dX10_place_1 ?_
  refine q_getN (v := .int (s.k.v 17)) C hN inX10_place_X4 hK hP 45 rfl rfl 5 (by decide) rfl nwF_X10_105 rfl dX10_place_4 ?_
  exact q_iret C hr hlocks hK hP hD hS (Nat.le_of_ble_eq_true rfl) (Nat.le_of_ble_eq_true rfl) dX10_place_7 (by cases hB; exact ⟨rfl, rfl⟩)
theorem ckX10_place {l : Launch} {dC : Nat → ClassId} {dI : Nat → Nat → Nat} {cB cI cJ cZ cS : ClassId} {a b b2 c0 : Nat → Nat} {rg sl : Nat → Option Nat} {r : Int32} {s' : XS} {s : XS} (hB : kX10_place s = some (r, s')) : CI l yX10_place wsX10_place ({ frames := 0, cells := 0, slots := 0, locals := 0 }) (dC, dI) (tysA cB cI cJ cZ cS) (wX cB cI cJ cZ cS a b b2 c0 rg sl s) [.ref (c0 0)] (fun x u => x = r ∧ u = (wX cB cI cJ cZ cS a b b2 c0 rg sl s')) :=
  CI_of (cc := cX10_place) (maxL := 1) (ret := (some .int)) (by decide) rfl (Nat.le_of_ble_eq_true rfl) (bkX10_place _ hB)
end
section
theorem ggX10_tell_X5_hasWave : GoodIn wsX10_tell wsX5_hasWave := gi_sub (fun w h => List.mem_cons_of_mem _ (List.mem_append_left _ (List.mem_append_left _ (List.mem_append_left _ (List.mem_append_right _ (List.mem_append_left _ h)))))) gd_wsX5_hasWave
set_option maxRecDepth 20000 in
theorem gX10_tell_X5_hasWave_n108 : GoodIn wsX10_tell (wsX5_hasWave) := ggX10_tell_X5_hasWave
theorem ggX10_tell_X8_add : GoodIn wsX10_tell wsX8_add := gi_sub (fun w h => List.mem_cons_of_mem _ (List.mem_append_left _ (List.mem_append_left _ (List.mem_append_left _ (List.mem_append_right _ (List.mem_append_right _ h)))))) gd_wsX8_add
set_option maxRecDepth 20000 in
theorem gX10_tell_X8_add_n263 : GoodIn wsX10_tell (wsX8_add) := ggX10_tell_X8_add
theorem dX10_tell_0 : decode cX10_tell 0 = .ok (.aload_n 0, 1) := dc1_42 (by decide +kernel)
theorem dX10_tell_1 : decode cX10_tell 1 = .ok (.getfield 19, 3) := dcw_180 (by decide +kernel)
theorem dX10_tell_4 : decode cX10_tell 4 = .ok (.iload_n 1, 1) := dc1_27 (by decide +kernel)
theorem dX10_tell_5 : decode cX10_tell 5 = .ok (.invokevirtual 108, 3) := dcw_182 (by decide +kernel)
theorem dX10_tell_8 : decode cX10_tell 8 = .ok (.ifCond .eq 14, 3) := dcs_153 (n := 14) (by decide +kernel)
theorem dX10_tell_11 : decode cX10_tell 11 = .ok (.iload_n 2, 1) := dc1_28 (by decide +kernel)
theorem dX10_tell_12 : decode cX10_tell 12 = .ok (.iconst 1, 1) := dc1_4 (by decide +kernel)
theorem dX10_tell_13 : decode cX10_tell 13 = .ok (.if_icmp .lt 9, 3) := dcs_161 (n := 9) (by decide +kernel)
theorem dX10_tell_16 : decode cX10_tell 16 = .ok (.iload_n 2, 1) := dc1_28 (by decide +kernel)
theorem dX10_tell_17 : decode cX10_tell 17 = .ok (.bipush 63, 2) := dcb_16 (n := 63) (by decide +kernel)
theorem dX10_tell_19 : decode cX10_tell 19 = .ok (.if_icmp .le 5, 3) := dcs_164 (n := 5) (by decide +kernel)
theorem dX10_tell_22 : decode cX10_tell 22 = .ok (.iconst (-1), 1) := dc1_2 (by decide +kernel)
theorem dX10_tell_23 : decode cX10_tell 23 = .ok (.ireturn, 1) := dc1_172 (by decide +kernel)
theorem dX10_tell_24 : decode cX10_tell 24 = .ok (.aload_n 0, 1) := dc1_42 (by decide +kernel)
theorem dX10_tell_25 : decode cX10_tell 25 = .ok (.getfield 70, 3) := dcw_180 (by decide +kernel)
theorem dX10_tell_28 : decode cX10_tell 28 = .ok (.iload_n 1, 1) := dc1_27 (by decide +kernel)
theorem dX10_tell_29 : decode cX10_tell 29 = .ok (.iload_n 3, 1) := dc1_29 (by decide +kernel)
theorem dX10_tell_30 : decode cX10_tell 30 = .ok (.ifCond .eq 7, 3) := dcs_153 (n := 7) (by decide +kernel)
theorem dX10_tell_33 : decode cX10_tell 33 = .ok (.iload_n 2, 1) := dc1_28 (by decide +kernel)
theorem dX10_tell_34 : decode cX10_tell 34 = .ok (.goto 9, 3) := dcs_167 (n := 9) (by decide +kernel)
theorem dX10_tell_37 : decode cX10_tell 37 = .ok (.bipush 63, 2) := dcb_16 (n := 63) (by decide +kernel)
theorem dX10_tell_39 : decode cX10_tell 39 = .ok (.iload_n 2, 1) := dc1_28 (by decide +kernel)
theorem dX10_tell_40 : decode cX10_tell 40 = .ok (.iconst (-1), 1) := dc1_2 (by decide +kernel)
theorem dX10_tell_41 : decode cX10_tell 41 = .ok (.ixor, 1) := dc1_130 (by decide +kernel)
theorem dX10_tell_42 : decode cX10_tell 42 = .ok (.iand, 1) := dc1_126 (by decide +kernel)
theorem dX10_tell_43 : decode cX10_tell 43 = .ok (.invokevirtual 263, 3) := dcw_182 (by decide +kernel)
theorem dX10_tell_46 : decode cX10_tell 46 = .ok (.ireturn, 1) := dc1_172 (by decide +kernel)
theorem dX10_forget_0 : decode cX10_forget 0 = .ok (.aload_n 0, 1) := dc1_42 (by decide +kernel)
theorem dX10_forget_1 : decode cX10_forget 1 = .ok (.getfield 70, 3) := dcw_180 (by decide +kernel)
theorem dX10_forget_4 : decode cX10_forget 4 = .ok (.getfield 102, 3) := dcw_180 (by decide +kernel)
theorem dX10_forget_7 : decode cX10_forget 7 = .ok (.istore_n 1, 1) := dc1_60 (by decide +kernel)
theorem dX10_forget_8 : decode cX10_forget 8 = .ok (.aload_n 0, 1) := dc1_42 (by decide +kernel)
theorem dX10_forget_9 : decode cX10_forget 9 = .ok (.getfield 70, 3) := dcw_180 (by decide +kernel)
theorem dX10_forget_12 : decode cX10_forget 12 = .ok (.iconst 0, 1) := dc1_3 (by decide +kernel)
theorem dX10_forget_13 : decode cX10_forget 13 = .ok (.putfield 102, 3) := dcw_181 (by decide +kernel)
theorem dX10_forget_16 : decode cX10_forget 16 = .ok (.iload_n 1, 1) := dc1_27 (by decide +kernel)
theorem dX10_forget_17 : decode cX10_forget 17 = .ok (.ireturn, 1) := dc1_172 (by decide +kernel)
theorem ggX10_isHere_X5_hasParty : GoodIn wsX10_isHere wsX5_hasParty := gi_sub (fun w h => List.mem_cons_of_mem _ (List.mem_append_left _ (List.mem_append_left _ (List.mem_append_left _ (List.mem_append_right _ h))))) gd_wsX5_hasParty
set_option maxRecDepth 20000 in
theorem gX10_isHere_X5_hasParty_n138 : GoodIn wsX10_isHere (wsX5_hasParty) := ggX10_isHere_X5_hasParty
theorem dX10_isHere_0 : decode cX10_isHere 0 = .ok (.aload_n 0, 1) := dc1_42 (by decide +kernel)
theorem dX10_isHere_1 : decode cX10_isHere 1 = .ok (.getfield 19, 3) := dcw_180 (by decide +kernel)
theorem dX10_isHere_4 : decode cX10_isHere 4 = .ok (.iload_n 1, 1) := dc1_27 (by decide +kernel)
theorem dX10_isHere_5 : decode cX10_isHere 5 = .ok (.invokevirtual 138, 3) := dcw_182 (by decide +kernel)
theorem dX10_isHere_8 : decode cX10_isHere 8 = .ok (.ifCond .eq 19, 3) := dcs_153 (n := 19) (by decide +kernel)
theorem dX10_isHere_11 : decode cX10_isHere 11 = .ok (.aload_n 0, 1) := dc1_42 (by decide +kernel)
theorem dX10_isHere_12 : decode cX10_isHere 12 = .ok (.getfield 35, 3) := dcw_180 (by decide +kernel)
theorem dX10_isHere_15 : decode cX10_isHere 15 = .ok (.getfield 147, 3) := dcw_180 (by decide +kernel)
theorem dX10_isHere_18 : decode cX10_isHere 18 = .ok (.iload_n 1, 1) := dc1_27 (by decide +kernel)
theorem dX10_isHere_19 : decode cX10_isHere 19 = .ok (.iaload, 1) := dc1_46 (by decide +kernel)
theorem dX10_isHere_20 : decode cX10_isHere 20 = .ok (.ifCond .ne 7, 3) := dcs_154 (n := 7) (by decide +kernel)
theorem dX10_isHere_23 : decode cX10_isHere 23 = .ok (.iconst 1, 1) := dc1_4 (by decide +kernel)
theorem dX10_isHere_24 : decode cX10_isHere 24 = .ok (.goto 4, 3) := dcs_167 (n := 4) (by decide +kernel)
theorem dX10_isHere_27 : decode cX10_isHere 27 = .ok (.iconst 0, 1) := dc1_3 (by decide +kernel)
theorem dX10_isHere_28 : decode cX10_isHere 28 = .ok (.ireturn, 1) := dc1_172 (by decide +kernel)
theorem dX10_partiesThatAre_0 : decode cX10_partiesThatAre 0 = .ok (.iconst 0, 1) := dc1_3 (by decide +kernel)
theorem dX10_partiesThatAre_1 : decode cX10_partiesThatAre 1 = .ok (.istore_n 3, 1) := dc1_62 (by decide +kernel)
theorem dX10_partiesThatAre_2 : decode cX10_partiesThatAre 2 = .ok (.iconst 0, 1) := dc1_3 (by decide +kernel)
theorem dX10_partiesThatAre_3 : decode cX10_partiesThatAre 3 = .ok (.istore 4, 2) := dcu_54 (by decide +kernel)
theorem dX10_partiesThatAre_5 : decode cX10_partiesThatAre 5 = .ok (.iload 4, 2) := dcu_21 (by decide +kernel)
theorem dX10_partiesThatAre_7 : decode cX10_partiesThatAre 7 = .ok (.aload_n 0, 1) := dc1_42 (by decide +kernel)
theorem dX10_partiesThatAre_8 : decode cX10_partiesThatAre 8 = .ok (.getfield 19, 3) := dcw_180 (by decide +kernel)
theorem dX10_partiesThatAre_11 : decode cX10_partiesThatAre 11 = .ok (.getfield 235, 3) := dcw_180 (by decide +kernel)
theorem dX10_partiesThatAre_14 : decode cX10_partiesThatAre 14 = .ok (.if_icmp .ge 27, 3) := dcs_162 (n := 27) (by decide +kernel)
theorem dX10_partiesThatAre_17 : decode cX10_partiesThatAre 17 = .ok (.aload_n 1, 1) := dc1_43 (by decide +kernel)
theorem dX10_partiesThatAre_18 : decode cX10_partiesThatAre 18 = .ok (.getfield 147, 3) := dcw_180 (by decide +kernel)
theorem dX10_partiesThatAre_21 : decode cX10_partiesThatAre 21 = .ok (.iload 4, 2) := dcu_21 (by decide +kernel)
theorem dX10_partiesThatAre_23 : decode cX10_partiesThatAre 23 = .ok (.iaload, 1) := dc1_46 (by decide +kernel)
theorem dX10_partiesThatAre_24 : decode cX10_partiesThatAre 24 = .ok (.iload_n 2, 1) := dc1_28 (by decide +kernel)
theorem dX10_partiesThatAre_25 : decode cX10_partiesThatAre 25 = .ok (.if_icmp .ne 10, 3) := dcs_160 (n := 10) (by decide +kernel)
theorem dX10_partiesThatAre_28 : decode cX10_partiesThatAre 28 = .ok (.iload_n 3, 1) := dc1_29 (by decide +kernel)
theorem dX10_partiesThatAre_29 : decode cX10_partiesThatAre 29 = .ok (.iconst 1, 1) := dc1_4 (by decide +kernel)
theorem dX10_partiesThatAre_30 : decode cX10_partiesThatAre 30 = .ok (.iload 4, 2) := dcu_21 (by decide +kernel)
theorem dX10_partiesThatAre_32 : decode cX10_partiesThatAre 32 = .ok (.ishl, 1) := dc1_120 (by decide +kernel)
theorem dX10_partiesThatAre_33 : decode cX10_partiesThatAre 33 = .ok (.ior, 1) := dc1_128 (by decide +kernel)
theorem dX10_partiesThatAre_34 : decode cX10_partiesThatAre 34 = .ok (.istore_n 3, 1) := dc1_62 (by decide +kernel)
theorem dX10_partiesThatAre_35 : decode cX10_partiesThatAre 35 = .ok (.iinc 4 1, 3) := dc_iinc (m := 1) (by decide +kernel)
theorem dX10_partiesThatAre_38 : decode cX10_partiesThatAre 38 = .ok (.goto (-33), 3) := dcs_167 (n := 65503) (by decide +kernel)
theorem dX10_partiesThatAre_41 : decode cX10_partiesThatAre 41 = .ok (.iload_n 3, 1) := dc1_29 (by decide +kernel)
theorem dX10_partiesThatAre_42 : decode cX10_partiesThatAre 42 = .ok (.ireturn, 1) := dc1_172 (by decide +kernel)
theorem dX10_wavesFound_0 : decode cX10_wavesFound 0 = .ok (.iconst 0, 1) := dc1_3 (by decide +kernel)
theorem dX10_wavesFound_1 : decode cX10_wavesFound 1 = .ok (.istore_n 1, 1) := dc1_60 (by decide +kernel)
theorem dX10_wavesFound_2 : decode cX10_wavesFound 2 = .ok (.iconst 0, 1) := dc1_3 (by decide +kernel)
theorem dX10_wavesFound_3 : decode cX10_wavesFound 3 = .ok (.istore_n 2, 1) := dc1_61 (by decide +kernel)
theorem dX10_wavesFound_4 : decode cX10_wavesFound 4 = .ok (.iload_n 2, 1) := dc1_28 (by decide +kernel)
theorem dX10_wavesFound_5 : decode cX10_wavesFound 5 = .ok (.aload_n 0, 1) := dc1_42 (by decide +kernel)
theorem dX10_wavesFound_6 : decode cX10_wavesFound 6 = .ok (.getfield 19, 3) := dcw_180 (by decide +kernel)
theorem dX10_wavesFound_9 : decode cX10_wavesFound 9 = .ok (.getfield 167, 3) := dcw_180 (by decide +kernel)
theorem dX10_wavesFound_12 : decode cX10_wavesFound 12 = .ok (.if_icmp .ge 28, 3) := dcs_162 (n := 28) (by decide +kernel)
theorem dX10_wavesFound_15 : decode cX10_wavesFound 15 = .ok (.aload_n 0, 1) := dc1_42 (by decide +kernel)
theorem dX10_wavesFound_16 : decode cX10_wavesFound 16 = .ok (.getfield 35, 3) := dcw_180 (by decide +kernel)
theorem dX10_wavesFound_19 : decode cX10_wavesFound 19 = .ok (.getfield 115, 3) := dcw_180 (by decide +kernel)
theorem dX10_wavesFound_22 : decode cX10_wavesFound 22 = .ok (.iload_n 2, 1) := dc1_28 (by decide +kernel)
theorem dX10_wavesFound_23 : decode cX10_wavesFound 23 = .ok (.iaload, 1) := dc1_46 (by decide +kernel)
theorem dX10_wavesFound_24 : decode cX10_wavesFound 24 = .ok (.iconst (-1), 1) := dc1_2 (by decide +kernel)
theorem dX10_wavesFound_25 : decode cX10_wavesFound 25 = .ok (.if_icmp .eq 9, 3) := dcs_159 (n := 9) (by decide +kernel)
theorem dX10_wavesFound_28 : decode cX10_wavesFound 28 = .ok (.iload_n 1, 1) := dc1_27 (by decide +kernel)
theorem dX10_wavesFound_29 : decode cX10_wavesFound 29 = .ok (.iconst 1, 1) := dc1_4 (by decide +kernel)
theorem dX10_wavesFound_30 : decode cX10_wavesFound 30 = .ok (.iload_n 2, 1) := dc1_28 (by decide +kernel)
theorem dX10_wavesFound_31 : decode cX10_wavesFound 31 = .ok (.ishl, 1) := dc1_120 (by decide +kernel)
theorem dX10_wavesFound_32 : decode cX10_wavesFound 32 = .ok (.ior, 1) := dc1_128 (by decide +kernel)
theorem dX10_wavesFound_33 : decode cX10_wavesFound 33 = .ok (.istore_n 1, 1) := dc1_60 (by decide +kernel)
theorem dX10_wavesFound_34 : decode cX10_wavesFound 34 = .ok (.iinc 2 1, 3) := dc_iinc (m := 1) (by decide +kernel)
theorem dX10_wavesFound_37 : decode cX10_wavesFound 37 = .ok (.goto (-33), 3) := dcs_167 (n := 65503) (by decide +kernel)
theorem dX10_wavesFound_40 : decode cX10_wavesFound 40 = .ok (.iload_n 1, 1) := dc1_27 (by decide +kernel)
theorem dX10_wavesFound_41 : decode cX10_wavesFound 41 = .ok (.ireturn, 1) := dc1_172 (by decide +kernel)
theorem ggX10_wavesWithNothing_X0_mayBe : GoodIn wsX10_wavesWithNothing wsX0_mayBe := gi_sub (fun w h => List.mem_cons_of_mem _ (List.mem_append_left _ (List.mem_append_left _ (List.mem_append_left _ (List.mem_append_left _ (List.mem_append_right _ h)))))) gd_wsX0_mayBe
set_option maxRecDepth 20000 in
theorem gX10_wavesWithNothing_X0_mayBe_n111 : GoodIn wsX10_wavesWithNothing (wsX0_mayBe) := ggX10_wavesWithNothing_X0_mayBe
theorem dX10_wavesWithNothing_0 : decode cX10_wavesWithNothing 0 = .ok (.iconst 0, 1) := dc1_3 (by decide +kernel)
theorem dX10_wavesWithNothing_1 : decode cX10_wavesWithNothing 1 = .ok (.istore_n 1, 1) := dc1_60 (by decide +kernel)
theorem dX10_wavesWithNothing_2 : decode cX10_wavesWithNothing 2 = .ok (.iconst 0, 1) := dc1_3 (by decide +kernel)
theorem dX10_wavesWithNothing_3 : decode cX10_wavesWithNothing 3 = .ok (.istore_n 2, 1) := dc1_61 (by decide +kernel)
theorem dX10_wavesWithNothing_4 : decode cX10_wavesWithNothing 4 = .ok (.iload_n 2, 1) := dc1_28 (by decide +kernel)
theorem dX10_wavesWithNothing_5 : decode cX10_wavesWithNothing 5 = .ok (.aload_n 0, 1) := dc1_42 (by decide +kernel)
theorem dX10_wavesWithNothing_6 : decode cX10_wavesWithNothing 6 = .ok (.getfield 19, 3) := dcw_180 (by decide +kernel)
theorem dX10_wavesWithNothing_9 : decode cX10_wavesWithNothing 9 = .ok (.getfield 167, 3) := dcw_180 (by decide +kernel)
theorem dX10_wavesWithNothing_12 : decode cX10_wavesWithNothing 12 = .ok (.if_icmp .ge 30, 3) := dcs_162 (n := 30) (by decide +kernel)
theorem dX10_wavesWithNothing_15 : decode cX10_wavesWithNothing 15 = .ok (.aload_n 0, 1) := dc1_42 (by decide +kernel)
theorem dX10_wavesWithNothing_16 : decode cX10_wavesWithNothing 16 = .ok (.getfield 54, 3) := dcw_180 (by decide +kernel)
theorem dX10_wavesWithNothing_19 : decode cX10_wavesWithNothing 19 = .ok (.aload_n 0, 1) := dc1_42 (by decide +kernel)
theorem dX10_wavesWithNothing_20 : decode cX10_wavesWithNothing 20 = .ok (.getfield 35, 3) := dcw_180 (by decide +kernel)
theorem dX10_wavesWithNothing_23 : decode cX10_wavesWithNothing 23 = .ok (.iload_n 2, 1) := dc1_28 (by decide +kernel)
theorem dX10_wavesWithNothing_24 : decode cX10_wavesWithNothing 24 = .ok (.invokevirtual 111, 3) := dcw_182 (by decide +kernel)
theorem dX10_wavesWithNothing_27 : decode cX10_wavesWithNothing 27 = .ok (.ifCond .ne 9, 3) := dcs_154 (n := 9) (by decide +kernel)
theorem dX10_wavesWithNothing_30 : decode cX10_wavesWithNothing 30 = .ok (.iload_n 1, 1) := dc1_27 (by decide +kernel)
theorem dX10_wavesWithNothing_31 : decode cX10_wavesWithNothing 31 = .ok (.iconst 1, 1) := dc1_4 (by decide +kernel)
theorem dX10_wavesWithNothing_32 : decode cX10_wavesWithNothing 32 = .ok (.iload_n 2, 1) := dc1_28 (by decide +kernel)
theorem dX10_wavesWithNothing_33 : decode cX10_wavesWithNothing 33 = .ok (.ishl, 1) := dc1_120 (by decide +kernel)
theorem dX10_wavesWithNothing_34 : decode cX10_wavesWithNothing 34 = .ok (.ior, 1) := dc1_128 (by decide +kernel)
theorem dX10_wavesWithNothing_35 : decode cX10_wavesWithNothing 35 = .ok (.istore_n 1, 1) := dc1_60 (by decide +kernel)
theorem dX10_wavesWithNothing_36 : decode cX10_wavesWithNothing 36 = .ok (.iinc 2 1, 3) := dc_iinc (m := 1) (by decide +kernel)
theorem dX10_wavesWithNothing_39 : decode cX10_wavesWithNothing 39 = .ok (.goto (-35), 3) := dcs_167 (n := 65501) (by decide +kernel)
theorem dX10_wavesWithNothing_42 : decode cX10_wavesWithNothing 42 = .ok (.iload_n 1, 1) := dc1_27 (by decide +kernel)
theorem dX10_wavesWithNothing_43 : decode cX10_wavesWithNothing 43 = .ok (.ireturn, 1) := dc1_172 (by decide +kernel)
theorem dX10_isThing_0 : decode cX10_isThing 0 = .ok (.iload_n 0, 1) := dc1_26 (by decide +kernel)
theorem dX10_isThing_1 : decode cX10_isThing 1 = .ok (.ifCond .lt 13, 3) := dcs_155 (n := 13) (by decide +kernel)
theorem dX10_isThing_4 : decode cX10_isThing 4 = .ok (.iload_n 0, 1) := dc1_26 (by decide +kernel)
theorem dX10_isThing_5 : decode cX10_isThing 5 = .ok (.bipush 6, 2) := dcb_16 (n := 6) (by decide +kernel)
theorem dX10_isThing_7 : decode cX10_isThing 7 = .ok (.if_icmp .ge 7, 3) := dcs_162 (n := 7) (by decide +kernel)
theorem dX10_isThing_10 : decode cX10_isThing 10 = .ok (.iconst 1, 1) := dc1_4 (by decide +kernel)
theorem dX10_isThing_11 : decode cX10_isThing 11 = .ok (.goto 4, 3) := dcs_167 (n := 4) (by decide +kernel)
theorem dX10_isThing_14 : decode cX10_isThing 14 = .ok (.iconst 0, 1) := dc1_3 (by decide +kernel)
theorem dX10_isThing_15 : decode cX10_isThing 15 = .ok (.ireturn, 1) := dc1_172 (by decide +kernel)
theorem dX10_has_0 : decode cX10_has 0 = .ok (.iload_n 0, 1) := dc1_26 (by decide +kernel)
theorem dX10_has_1 : decode cX10_has 1 = .ok (.iload_n 1, 1) := dc1_27 (by decide +kernel)
theorem dX10_has_2 : decode cX10_has 2 = .ok (.ishr, 1) := dc1_122 (by decide +kernel)
theorem dX10_has_3 : decode cX10_has 3 = .ok (.iconst 1, 1) := dc1_4 (by decide +kernel)
theorem dX10_has_4 : decode cX10_has 4 = .ok (.iand, 1) := dc1_126 (by decide +kernel)
theorem dX10_has_5 : decode cX10_has 5 = .ok (.iconst 1, 1) := dc1_4 (by decide +kernel)
theorem dX10_has_6 : decode cX10_has 6 = .ok (.if_icmp .ne 7, 3) := dcs_160 (n := 7) (by decide +kernel)
theorem dX10_has_9 : decode cX10_has 9 = .ok (.iconst 1, 1) := dc1_4 (by decide +kernel)
theorem dX10_has_10 : decode cX10_has 10 = .ok (.goto 4, 3) := dcs_167 (n := 4) (by decide +kernel)
theorem dX10_has_13 : decode cX10_has 13 = .ok (.iconst 0, 1) := dc1_3 (by decide +kernel)
theorem dX10_has_14 : decode cX10_has 14 = .ok (.ireturn, 1) := dc1_172 (by decide +kernel)
theorem dX10_sumOf_0 : decode cX10_sumOf 0 = .ok (.iconst 0, 1) := dc1_3 (by decide +kernel)
theorem dX10_sumOf_1 : decode cX10_sumOf 1 = .ok (.istore_n 1, 1) := dc1_60 (by decide +kernel)
theorem dX10_sumOf_2 : decode cX10_sumOf 2 = .ok (.iconst 0, 1) := dc1_3 (by decide +kernel)
theorem dX10_sumOf_3 : decode cX10_sumOf 3 = .ok (.istore_n 2, 1) := dc1_61 (by decide +kernel)
theorem dX10_sumOf_4 : decode cX10_sumOf 4 = .ok (.iload_n 2, 1) := dc1_28 (by decide +kernel)
theorem dX10_sumOf_5 : decode cX10_sumOf 5 = .ok (.aload_n 0, 1) := dc1_42 (by decide +kernel)
theorem dX10_sumOf_6 : decode cX10_sumOf 6 = .ok (.arraylength, 1) := dc1_190 (by decide +kernel)
theorem dX10_sumOf_7 : decode cX10_sumOf 7 = .ok (.if_icmp .ge 15, 3) := dcs_162 (n := 15) (by decide +kernel)
theorem dX10_sumOf_10 : decode cX10_sumOf 10 = .ok (.iload_n 1, 1) := dc1_27 (by decide +kernel)
theorem dX10_sumOf_11 : decode cX10_sumOf 11 = .ok (.aload_n 0, 1) := dc1_42 (by decide +kernel)
theorem dX10_sumOf_12 : decode cX10_sumOf 12 = .ok (.iload_n 2, 1) := dc1_28 (by decide +kernel)
theorem dX10_sumOf_13 : decode cX10_sumOf 13 = .ok (.iaload, 1) := dc1_46 (by decide +kernel)
theorem dX10_sumOf_14 : decode cX10_sumOf 14 = .ok (.iadd, 1) := dc1_96 (by decide +kernel)
theorem dX10_sumOf_15 : decode cX10_sumOf 15 = .ok (.istore_n 1, 1) := dc1_60 (by decide +kernel)
theorem dX10_sumOf_16 : decode cX10_sumOf 16 = .ok (.iinc 2 1, 3) := dc_iinc (m := 1) (by decide +kernel)
theorem dX10_sumOf_19 : decode cX10_sumOf 19 = .ok (.goto (-15), 3) := dcs_167 (n := 65521) (by decide +kernel)
theorem dX10_sumOf_22 : decode cX10_sumOf 22 = .ok (.iload_n 1, 1) := dc1_27 (by decide +kernel)
theorem dX10_sumOf_23 : decode cX10_sumOf 23 = .ok (.ireturn, 1) := dc1_172 (by decide +kernel)
theorem LX10_tell_19 : Cond.fieldLink RX10 19 "GuessFerry" "sound" "LGuessFerry$Sound;" ∈ wsX10_tell := (List.mem_cons_of_mem _ (List.mem_append_left _ (List.mem_append_left _ (List.mem_append_left _ (List.mem_append_left _ (List.mem_of_getElem? (i := 0) rfl))))))
theorem LX10_tell_70 : Cond.fieldLink RX10 70 "GuessFerry" "tellers" "LGuessFerry$Tellers;" ∈ wsX10_tell := (List.mem_cons_of_mem _ (List.mem_append_left _ (List.mem_append_left _ (List.mem_append_left _ (List.mem_append_left _ (List.mem_of_getElem? (i := 1) rfl))))))
theorem LX10_tell_E_X5_hasWave : Cond.selects RX5 yX5_hasWave yX5_hasWave ∈ wsX10_tell := (List.mem_cons_of_mem _ (List.mem_append_left _ (List.mem_append_left _ (List.mem_append_left _ (List.mem_append_left _ (List.mem_of_getElem? (i := 4) rfl))))))
theorem LX10_tell_E_X8_add : Cond.selects RX8 yX8_add yX8_add ∈ wsX10_tell := (List.mem_cons_of_mem _ (List.mem_append_left _ (List.mem_append_left _ (List.mem_append_left _ (List.mem_append_left _ (List.mem_of_getElem? (i := 7) rfl))))))
theorem LX10_tell_I_X5 : Cond.initialized RX5 ∈ wsX10_tell := (List.mem_cons_of_mem _ (List.mem_append_left _ (List.mem_append_left _ (List.mem_append_left _ (List.mem_append_left _ (List.mem_of_getElem? (i := 3) rfl))))))
theorem LX10_tell_I_X8 : Cond.initialized RX8 ∈ wsX10_tell := (List.mem_cons_of_mem _ (List.mem_append_left _ (List.mem_append_left _ (List.mem_append_left _ (List.mem_append_left _ (List.mem_of_getElem? (i := 6) rfl))))))
theorem LX10_tell_N_X5_hasWave : Cond.instanceMethod yX5_hasWave ∈ wsX10_tell := (List.mem_cons_of_mem _ (List.mem_append_left _ (List.mem_append_left _ (List.mem_append_left _ (List.mem_append_left _ (List.mem_of_getElem? (i := 2) rfl))))))
theorem LX10_tell_N_X8_add : Cond.instanceMethod yX8_add ∈ wsX10_tell := (List.mem_cons_of_mem _ (List.mem_append_left _ (List.mem_append_left _ (List.mem_append_left _ (List.mem_append_left _ (List.mem_of_getElem? (i := 5) rfl))))))
theorem inX10_tell_X10 : ∀ w ∈ u_ws RX10 TX10 9, w ∈ wsX10_tell := fun w h => (List.mem_cons_of_mem _ (List.mem_append_left _ (List.mem_append_left _ (List.mem_append_right _ h))))
set_option maxHeartbeats 4000000 in
set_option maxRecDepth 100000 in
theorem bkX10_tell_43 {l : Launch} {dC : Nat → ClassId} {dI : Nat → Nat → Nat} {cB cI cJ cZ cS : ClassId} {a b b2 c0 : Nat → Nat} {rg sl : Nat → Option Nat} {as : List Value} {r : Int32} {s' : XS} (s : XS) (t0 : Int32) (t1 : Int32) (hB : kX10_tell_43 s t0 t1 = some (r, s')) : BlkI l yX10_tell wsX10_tell ({ frames := 1, cells := 0, slots := 0, locals := 22 }) cX10_tell 4 (some .int) (dC, dI) (tysA cB cI cJ cZ cS) as 43 (wX cB cI cJ cZ cS a b b2 c0 rg sl s) [] [.int t0, .int t1, .ref (a 41)] (fun x u => x = r ∧ u = (wX cB cI cJ cZ cS a b b2 c0 rg sl s')) := by
  intro p e s0 m below meth c A E H locs ls hP hD hS hl
  obtain ⟨C, hr, hlocks, hA, hK, hN⟩ := id E
  obtain ⟨hx, hb, hml, hown, hts⟩ := id C
  unfold kX10_tell_43 at hB
  obtain ⟨q_, s1, hc, hB⟩ := bindI_inv hB
  refine q_goi (wr := ((wG cZ cS a b b2 c0 rg sl s.g) ++ (wD cI b2 s.t) ++ (wD cI b s.n))) (va_runVN (As := [.int t1, .int t0]) (rest := []) C (ckX8_add hc _) ⟨va_cnB 2 hts gX10_tell_X8_add_n263 rfl rfl rfl (hN _ nwM_X10_263 rfl) (hts _ LX10_tell_I_X8) (by decide +kernel) ⟨Nat.le_of_ble_eq_true rfl, Nat.le_of_ble_eq_true rfl⟩, hts _ LX10_tell_N_X8_add, hts _ LX10_tell_E_X8_add⟩ (q_preV hK hP (ci := 8) (q0 := 58) rfl rfl rfl (q_pre hN hK hP hD [17, 18, 19, 20, 21, 22, 23, 24, 25, 26, 27, 28, 29, 30, 31, 32, 33, 34, 35, 36, 37, 38, 39, 40, 41, 42, 43, 44, 45, 46, 47, 48, 49, 50, 51, 52, 53, 54, 55, 56, 57, 58, 59, 60, 61, 62, 63] (by first | exact zqs_0X | rfl) zqn_0)) rfl rfl hl.1 rfl (lv_room (Nat.le_of_ble_eq_true rfl)) dX10_tell_43 ⟨Nat.le_of_ble_eq_true rfl, Nat.le_of_ble_eq_true rfl⟩) hP hD hS hA [17, 18, 19, 20, 21, 22, 23, 24, 25, 26, 27, 28, 29, 30, 31, 32, 33, 34, 35, 36, 37, 38, 39, 40, 41, 42, 43, 44, 45, 46, 47, 48, 49, 50, 51, 52, 53, 54, 55, 56, 57, 58, 59, 60, 61, 62, 63] [0, 1, 2, 3, 4, 5, 6, 7, 8, 9, 10, 11, 12, 13, 14, 15, 16] (by first | exact zqs_0X | rfl) (by first | exact zqs_1X | rfl) zqn_1 zqd_0 (fun r2 w1 H locs hw hP hD hS => ?_)
  obtain ⟨hq_, hw⟩ := hw; subst hw; subst hq_
  obtain ⟨s3, hs4, hB⟩ := letS_inv hB
  have hP : va_P (dC, dI) vwCl (wX cB cI cJ cZ cS a b b2 c0 rg sl s3) H := by subst hs4; exact hP
  have hD : va_D A (wX cB cI cJ cZ cS a b b2 c0 rg sl s3) := by subst hs4; exact hD
  exact q_iret C hr hlocks hK hP hD hS (Nat.le_of_ble_eq_true rfl) (Nat.le_of_ble_eq_true rfl) dX10_tell_46 (by cases hB; exact ⟨rfl, rfl⟩)
set_option maxHeartbeats 4000000 in
set_option maxRecDepth 100000 in
theorem bkX10_tell {l : Launch} {dC : Nat → ClassId} {dI : Nat → Nat → Nat} {cB cI cJ cZ cS : ClassId} {a b b2 c0 : Nat → Nat} {rg sl : Nat → Option Nat} {as : List Value} {r : Int32} {s' : XS} (s : XS) (x1 : Int32) (x2 : Int32) (x3 : Int32) (hB : kX10_tell s x1 x2 x3 = some (r, s')) : BlkI l yX10_tell wsX10_tell ({ frames := 1, cells := 0, slots := 0, locals := 22 }) cX10_tell 4 (some .int) (dC, dI) (tysA cB cI cJ cZ cS) as 0 (wX cB cI cJ cZ cS a b b2 c0 rg sl s) [(0, .ref (c0 0)), (1, .int x1), (2, .int x2), (3, .int x3)] [] (fun x u => x = r ∧ u = (wX cB cI cJ cZ cS a b b2 c0 rg sl s')) := by
  intro p e s0 m below meth c A E H locs ls hP hD hS hl
  obtain ⟨C, hr, hlocks, hA, hK, hN⟩ := id E
  obtain ⟨hx, hb, hml, hown, hts⟩ := id C
  unfold kX10_tell at hB
  refine lv_aload_n hx hb dX10_tell_0 rfl (lv_at hl 0 rfl) ?_
  refine q_get (v := .ref (a 2)) C inX10_tell_X10 hK hP 0 rfl rfl 1 (by decide) rfl LX10_tell_19 rfl dX10_tell_1 ?_
  refine lv_iload_n hx hb dX10_tell_4 rfl (lv_at hl 1 rfl) ?_
  obtain ⟨q_, s1, hc, hB⟩ := bindI_inv hB
  refine q_goi (wr := ((wG cZ cS a b b2 c0 rg sl s.g) ++ (wD cI b2 s.t) ++ (wD cI b s.n))) (va_runVN (As := [.int x1]) (rest := []) C (ckX5_hasWave hc _) ⟨va_cnB 1 hts gX10_tell_X5_hasWave_n108 rfl rfl rfl (hN _ nwM_X10_108 rfl) (hts _ LX10_tell_I_X5) (by decide +kernel) ⟨Nat.le_of_ble_eq_true rfl, Nat.le_of_ble_eq_true rfl⟩, hts _ LX10_tell_N_X5_hasWave, hts _ LX10_tell_E_X5_hasWave⟩ (q_preV hK hP (ci := 5) (q0 := 19) rfl rfl rfl (q_pre hN hK hP hD [17, 18, 19, 20, 21, 22, 23, 24, 25, 26, 27, 28, 29, 30, 31, 32, 33, 34, 35, 36, 37, 38, 39, 40, 41, 42, 43, 44, 45, 46, 47, 48, 49, 50, 51, 52, 53, 54, 55, 56, 57, 58, 59, 60, 61, 62, 63] (by first | exact zqs_0X | rfl) zqn_0)) rfl rfl hl.1 rfl (lv_room (Nat.le_of_ble_eq_true rfl)) dX10_tell_5 ⟨Nat.le_of_ble_eq_true rfl, Nat.le_of_ble_eq_true rfl⟩) hP hD hS hA [17, 18, 19, 20, 21, 22, 23, 24, 25, 26, 27, 28, 29, 30, 31, 32, 33, 34, 35, 36, 37, 38, 39, 40, 41, 42, 43, 44, 45, 46, 47, 48, 49, 50, 51, 52, 53, 54, 55, 56, 57, 58, 59, 60, 61, 62, 63] [0, 1, 2, 3, 4, 5, 6, 7, 8, 9, 10, 11, 12, 13, 14, 15, 16] (by first | exact zqs_0X | rfl) (by first | exact zqs_1X | rfl) zqn_1 zqd_0 (fun r2 w1 H locs hw hP hD hS => ?_)
  obtain ⟨hq_, hw⟩ := hw; subst hw; subst hq_
  obtain ⟨s3, hs4, hB⟩ := letS_inv hB
  have hP : va_P (dC, dI) vwCl (wX cB cI cJ cZ cS a b b2 c0 rg sl s3) H := by subst hs4; exact hP
  have hD : va_D A (wX cB cI cJ cZ cS a b b2 c0 rg sl s3) := by subst hs4; exact hD
  refine lv_if_eq (tgt := 22) hx hb dX10_tell_8 (by decide) (fun c5 => ?_) (fun c5 => ?_)
  · have hB := if_p hB c5
    refine lv_iconst (v := (-1)) hx hb dX10_tell_22 (by decide) ?_
    exact q_iret C hr hlocks hK hP hD hS (Nat.le_of_ble_eq_true rfl) (Nat.le_of_ble_eq_true rfl) dX10_tell_23 (by cases hB; exact ⟨rfl, rfl⟩)
  · have hB := if_n hB c5
    refine lv_iload_n hx hb dX10_tell_11 rfl (lv_at hl 2 rfl) ?_
    refine lv_iconst (v := 1) hx hb dX10_tell_12 (by decide) ?_
    refine lv_icmp_lt (tgt := 22) hx hb dX10_tell_13 (by decide) (fun c6 => ?_) (fun c6 => ?_)
    · have hB := if_p hB c6
      refine lv_iconst (v := (-1)) hx hb dX10_tell_22 (by decide) ?_
      exact q_iret C hr hlocks hK hP hD hS (Nat.le_of_ble_eq_true rfl) (Nat.le_of_ble_eq_true rfl) dX10_tell_23 (by cases hB; exact ⟨rfl, rfl⟩)
    · have hB := if_n hB c6
      refine lv_iload_n hx hb dX10_tell_16 rfl (lv_at hl 2 rfl) ?_
      refine lv_bipush (v := 63) hx hb dX10_tell_17 (by decide) ?_
      refine lv_icmp_le (tgt := 24) hx hb dX10_tell_19 (by decide) (fun c7 => ?_) (fun c7 => ?_)
      · have hB := if_p hB c7
        refine lv_aload_n hx hb dX10_tell_24 rfl (lv_at hl 0 rfl) ?_
        refine q_get (v := .ref (a 41)) C inX10_tell_X10 hK hP 0 rfl rfl 8 (by decide) rfl LX10_tell_70 rfl dX10_tell_25 ?_
        refine lv_iload_n hx hb dX10_tell_28 rfl (lv_at hl 1 rfl) ?_
        refine lv_iload_n hx hb dX10_tell_29 rfl (lv_at hl 3 rfl) ?_
        refine lv_if_eq (tgt := 37) hx hb dX10_tell_30 (by decide) (fun c8 => ?_) (fun c8 => ?_)
        · have hB := if_p hB c8
          refine lv_bipush (v := 63) hx hb dX10_tell_37 (by decide) ?_
          refine lv_iload_n hx hb dX10_tell_39 rfl (lv_at hl 2 rfl) ?_
          refine lv_iconst (v := (-1)) hx hb dX10_tell_40 (by decide) ?_
          refine lv_ixor hx hb dX10_tell_41 ?_
          refine lv_iand hx hb dX10_tell_42 ?_
          exact bkX10_tell_43 _ _ _ hB p e s0 m below meth c A E H locs ls hP hD hS (lv_sub hl [] rfl)
        · have hB := if_n hB c8
          refine lv_iload_n hx hb dX10_tell_33 rfl (lv_at hl 2 rfl) ?_
          refine lv_goto (tgt := 43) hx hb dX10_tell_34 (by decide) ?_
          exact bkX10_tell_43 _ _ _ hB p e s0 m below meth c A E H locs ls hP hD hS (lv_sub hl [] rfl)
      · have hB := if_n hB c7
        refine lv_iconst (v := (-1)) hx hb dX10_tell_22 (by decide) ?_
        exact q_iret C hr hlocks hK hP hD hS (Nat.le_of_ble_eq_true rfl) (Nat.le_of_ble_eq_true rfl) dX10_tell_23 (by cases hB; exact ⟨rfl, rfl⟩)
theorem ckX10_tell {l : Launch} {dC : Nat → ClassId} {dI : Nat → Nat → Nat} {cB cI cJ cZ cS : ClassId} {a b b2 c0 : Nat → Nat} {rg sl : Nat → Option Nat} {r : Int32} {s' : XS} {s : XS} {x1 : Int32} {x2 : Int32} {x3 : Int32} (hB : kX10_tell s x1 x2 x3 = some (r, s')) : CI l yX10_tell wsX10_tell ({ frames := 1, cells := 0, slots := 0, locals := 22 }) (dC, dI) (tysA cB cI cJ cZ cS) (wX cB cI cJ cZ cS a b b2 c0 rg sl s) [.ref (c0 0), .int x1, .int x2, .int x3] (fun x u => x = r ∧ u = (wX cB cI cJ cZ cS a b b2 c0 rg sl s')) :=
  CI_of (cc := cX10_tell) (maxL := 4) (ret := (some .int)) (by decide) rfl (Nat.le_of_ble_eq_true rfl) (bkX10_tell _ _ _ _ hB)
theorem LX10_forget_70 : Cond.fieldLink RX10 70 "GuessFerry" "tellers" "LGuessFerry$Tellers;" ∈ wsX10_forget := (List.mem_cons_of_mem _ (List.mem_append_left _ (List.mem_append_left _ (List.mem_of_getElem? (i := 0) rfl))))
theorem inX10_forget_X10 : ∀ w ∈ u_ws RX10 TX10 9, w ∈ wsX10_forget := fun _ h => List.mem_cons_of_mem _ (List.mem_append_left _ (List.mem_append_right _ h))
theorem inX10_forget_X8 : ∀ w ∈ u_ws RX8 TX8 8, w ∈ wsX10_forget := fun _ h => List.mem_cons_of_mem _ (List.mem_append_right _ h)
set_option maxHeartbeats 4000000 in
set_option maxRecDepth 100000 in
theorem bkX10_forget {l : Launch} {dC : Nat → ClassId} {dI : Nat → Nat → Nat} {cB cI cJ cZ cS : ClassId} {a b b2 c0 : Nat → Nat} {rg sl : Nat → Option Nat} {as : List Value} {r : Int32} {s' : XS} (s : XS) (hB : kX10_forget s = some (r, s')) : BlkI l yX10_forget wsX10_forget ({ frames := 0, cells := 0, slots := 0, locals := 0 }) cX10_forget 2 (some .int) (dC, dI) (tysA cB cI cJ cZ cS) as 0 (wX cB cI cJ cZ cS a b b2 c0 rg sl s) [(0, .ref (c0 0))] [] (fun x u => x = r ∧ u = (wX cB cI cJ cZ cS a b b2 c0 rg sl s')) := by
  intro p e s0 m below meth c A E H locs ls hP hD hS hl
  obtain ⟨C, hr, hlocks, hA, hK, hN⟩ := id E
  obtain ⟨hx, hb, hml, hown, hts⟩ := id C
  unfold kX10_forget at hB
  refine lv_aload_n hx hb dX10_forget_0 rfl (lv_at hl 0 rfl) ?_
  refine q_get (v := .ref (a 41)) C inX10_forget_X10 hK hP 0 rfl rfl 8 (by decide) rfl LX10_forget_70 rfl dX10_forget_1 ?_
  refine q_getN (v := .int (s.k.v 21)) C hN inX10_forget_X8 hK hP 58 rfl rfl 7 (by decide) rfl nwF_X10_102 rfl dX10_forget_4 ?_
  refine lv_istore_n (lv' := [(1, .int (s.k.v 21)), (0, .ref (c0 0))]) hx hb dX10_forget_7 rfl hl (by decide) rfl (fun ls hl => ?_)
  refine lv_aload_n hx hb dX10_forget_8 rfl (lv_at hl 1 rfl) ?_
  refine q_get (v := .ref (a 41)) C inX10_forget_X10 hK hP 0 rfl rfl 8 (by decide) rfl LX10_forget_70 rfl dX10_forget_9 ?_
  refine lv_iconst (v := 0) hx hb dX10_forget_12 (by decide) ?_
  obtain ⟨s1, hs2, hB⟩ := letS_inv hB
  refine q_putN (ty := .int) (w2 := (wX cB cI cJ cZ cS a b b2 c0 rg sl s1)) tyX8 tyX8_ok nmX8 C hN inX10_forget_X8 hK hP hD hS 58 rfl rfl 7 (by decide) rfl nwF_X10_102 rfl (by decide +kernel) (rfl) rfl (Nat.le_of_ble_eq_true rfl) dX10_forget_13 (by subst hs2; rfl) (fun H locs hP hD hS => ?_)
  refine lv_iload_n hx hb dX10_forget_16 rfl (lv_at hl 0 rfl) ?_
  exact q_iret C hr hlocks hK hP hD hS (Nat.le_of_ble_eq_true rfl) (Nat.le_of_ble_eq_true rfl) dX10_forget_17 (by cases hB; exact ⟨rfl, rfl⟩)
theorem ckX10_forget {l : Launch} {dC : Nat → ClassId} {dI : Nat → Nat → Nat} {cB cI cJ cZ cS : ClassId} {a b b2 c0 : Nat → Nat} {rg sl : Nat → Option Nat} {r : Int32} {s' : XS} {s : XS} (hB : kX10_forget s = some (r, s')) : CI l yX10_forget wsX10_forget ({ frames := 0, cells := 0, slots := 0, locals := 0 }) (dC, dI) (tysA cB cI cJ cZ cS) (wX cB cI cJ cZ cS a b b2 c0 rg sl s) [.ref (c0 0)] (fun x u => x = r ∧ u = (wX cB cI cJ cZ cS a b b2 c0 rg sl s')) :=
  CI_of (cc := cX10_forget) (maxL := 2) (ret := (some .int)) (by decide) rfl (Nat.le_of_ble_eq_true rfl) (bkX10_forget _ hB)
theorem LX10_isHere_19 : Cond.fieldLink RX10 19 "GuessFerry" "sound" "LGuessFerry$Sound;" ∈ wsX10_isHere := (List.mem_cons_of_mem _ (List.mem_append_left _ (List.mem_append_left _ (List.mem_append_left _ (List.mem_append_left _ (List.mem_of_getElem? (i := 0) rfl))))))
theorem LX10_isHere_35 : Cond.fieldLink RX10 35 "GuessFerry" "now" "LGuessFerry$Standing;" ∈ wsX10_isHere := (List.mem_cons_of_mem _ (List.mem_append_left _ (List.mem_append_left _ (List.mem_append_left _ (List.mem_append_left _ (List.mem_of_getElem? (i := 1) rfl))))))
theorem LX10_isHere_E_X5_hasParty : Cond.selects RX5 yX5_hasParty yX5_hasParty ∈ wsX10_isHere := (List.mem_cons_of_mem _ (List.mem_append_left _ (List.mem_append_left _ (List.mem_append_left _ (List.mem_append_left _ (List.mem_of_getElem? (i := 4) rfl))))))
theorem LX10_isHere_I_X5 : Cond.initialized RX5 ∈ wsX10_isHere := (List.mem_cons_of_mem _ (List.mem_append_left _ (List.mem_append_left _ (List.mem_append_left _ (List.mem_append_left _ (List.mem_of_getElem? (i := 3) rfl))))))
theorem LX10_isHere_N_X5_hasParty : Cond.instanceMethod yX5_hasParty ∈ wsX10_isHere := (List.mem_cons_of_mem _ (List.mem_append_left _ (List.mem_append_left _ (List.mem_append_left _ (List.mem_append_left _ (List.mem_of_getElem? (i := 2) rfl))))))
theorem inX10_isHere_X10 : ∀ w ∈ u_ws RX10 TX10 9, w ∈ wsX10_isHere := fun w h => (List.mem_cons_of_mem _ (List.mem_append_left _ (List.mem_append_left _ (List.mem_append_right _ h))))
theorem inX10_isHere_X6 : ∀ w ∈ u_ws RX6 TX6 7, w ∈ wsX10_isHere := fun w h => (List.mem_cons_of_mem _ (List.mem_append_left _ (List.mem_append_right _ h)))
set_option maxHeartbeats 4000000 in
set_option maxRecDepth 100000 in
theorem bkX10_isHere {l : Launch} {dC : Nat → ClassId} {dI : Nat → Nat → Nat} {cB cI cJ cZ cS : ClassId} {a b b2 c0 : Nat → Nat} {rg sl : Nat → Option Nat} {as : List Value} {r : Int32} {s' : XS} (s : XS) (x1 : Int32) (hB : kX10_isHere s x1 = some (r, s')) : BlkI l yX10_isHere wsX10_isHere ({ frames := 1, cells := 0, slots := 0, locals := 21 }) cX10_isHere 2 (some .boolean) (dC, dI) (tysA cB cI cJ cZ cS) as 0 (wX cB cI cJ cZ cS a b b2 c0 rg sl s) [(0, .ref (c0 0)), (1, .int x1)] [] (fun x u => x = r ∧ u = (wX cB cI cJ cZ cS a b b2 c0 rg sl s')) := by
  intro p e s0 m below meth c A E H locs ls hP hD hS hl
  obtain ⟨C, hr, hlocks, hA, hK, hN⟩ := id E
  obtain ⟨hx, hb, hml, hown, hts⟩ := id C
  unfold kX10_isHere at hB
  refine lv_aload_n hx hb dX10_isHere_0 rfl (lv_at hl 0 rfl) ?_
  refine q_get (v := .ref (a 2)) C inX10_isHere_X10 hK hP 0 rfl rfl 1 (by decide) rfl LX10_isHere_19 rfl dX10_isHere_1 ?_
  refine lv_iload_n hx hb dX10_isHere_4 rfl (lv_at hl 1 rfl) ?_
  obtain ⟨q_, s1, hc, hB⟩ := bindI_inv hB
  refine q_goi (wr := ((wG cZ cS a b b2 c0 rg sl s.g) ++ (wD cI b2 s.t) ++ (wD cI b s.n))) (va_runVN (As := [.int x1]) (rest := []) C (ckX5_hasParty hc _) ⟨va_cnB 1 hts gX10_isHere_X5_hasParty_n138 rfl rfl rfl (hN _ nwM_X10_138 rfl) (hts _ LX10_isHere_I_X5) (by decide +kernel) ⟨Nat.le_of_ble_eq_true rfl, Nat.le_of_ble_eq_true rfl⟩, hts _ LX10_isHere_N_X5_hasParty, hts _ LX10_isHere_E_X5_hasParty⟩ (q_preV hK hP (ci := 5) (q0 := 19) rfl rfl rfl (q_pre hN hK hP hD [17, 18, 19, 20, 21, 22, 23, 24, 25, 26, 27, 28, 29, 30, 31, 32, 33, 34, 35, 36, 37, 38, 39, 40, 41, 42, 43, 44, 45, 46, 47, 48, 49, 50, 51, 52, 53, 54, 55, 56, 57, 58, 59, 60, 61, 62, 63] (by first | exact zqs_0X | rfl) zqn_0)) rfl rfl hl.1 rfl (lv_room (Nat.le_of_ble_eq_true rfl)) dX10_isHere_5 ⟨Nat.le_of_ble_eq_true rfl, Nat.le_of_ble_eq_true rfl⟩) hP hD hS hA [17, 18, 19, 20, 21, 22, 23, 24, 25, 26, 27, 28, 29, 30, 31, 32, 33, 34, 35, 36, 37, 38, 39, 40, 41, 42, 43, 44, 45, 46, 47, 48, 49, 50, 51, 52, 53, 54, 55, 56, 57, 58, 59, 60, 61, 62, 63] [0, 1, 2, 3, 4, 5, 6, 7, 8, 9, 10, 11, 12, 13, 14, 15, 16] (by first | exact zqs_0X | rfl) (by first | exact zqs_1X | rfl) zqn_1 zqd_0 (fun r2 w1 H locs hw hP hD hS => ?_)
  obtain ⟨hq_, hw⟩ := hw; subst hw; subst hq_
  obtain ⟨s3, hs4, hB⟩ := letS_inv hB
  have hP : va_P (dC, dI) vwCl (wX cB cI cJ cZ cS a b b2 c0 rg sl s3) H := by subst hs4; exact hP
  have hD : va_D A (wX cB cI cJ cZ cS a b b2 c0 rg sl s3) := by subst hs4; exact hD
  refine lv_if_eq (tgt := 27) hx hb dX10_isHere_8 (by decide) (fun c5 => ?_) (fun c5 => ?_)
  · have hB := if_p hB c5
    refine lv_iconst (v := 0) hx hb dX10_isHere_27 (by decide) ?_
    exact q_zret C hr hlocks (Or.inl rfl) hK hP hD hS (Nat.le_of_ble_eq_true rfl) (Nat.le_of_ble_eq_true rfl) dX10_isHere_28 (by cases hB; exact ⟨rfl, rfl⟩)
  · have hB := if_n hB c5
    refine lv_aload_n hx hb dX10_isHere_11 rfl (lv_at hl 0 rfl) ?_
    refine q_get (v := .ref (b 0)) C inX10_isHere_X10 hK hP 0 rfl rfl 3 (by decide) rfl LX10_isHere_35 rfl dX10_isHere_12 ?_
    refine q_getN (v := .ref (b 4)) C hN inX10_isHere_X6 hK hP 11 rfl rfl 3 (by decide) rfl nwF_X10_147 rfl dX10_isHere_15 ?_
    refine lv_iload_n hx hb dX10_isHere_18 rfl (lv_at hl 1 rfl) ?_
    obtain ⟨g6, hB⟩ := guard_inv hB
    refine q_iald (x := ((s3.n.f 3) (Int32.toNatClampNeg x1))) C hK hP 15 1 rfl rfl (vpb_in g6) dX10_isHere_19 rfl ?_
    refine lv_if_ne (tgt := 27) hx hb dX10_isHere_20 (by decide) (fun c7 => ?_) (fun c7 => ?_)
    · have hB := if_n hB c7
      refine lv_iconst (v := 0) hx hb dX10_isHere_27 (by decide) ?_
      exact q_zret C hr hlocks (Or.inl rfl) hK hP hD hS (Nat.le_of_ble_eq_true rfl) (Nat.le_of_ble_eq_true rfl) dX10_isHere_28 (by cases hB; exact ⟨rfl, rfl⟩)
    · have hB := if_p hB c7
      refine lv_iconst (v := 1) hx hb dX10_isHere_23 (by decide) ?_
      refine lv_goto (tgt := 28) hx hb dX10_isHere_24 (by decide) ?_
      exact q_zret C hr hlocks (Or.inr rfl) hK hP hD hS (Nat.le_of_ble_eq_true rfl) (Nat.le_of_ble_eq_true rfl) dX10_isHere_28 (by cases hB; exact ⟨rfl, rfl⟩)
theorem ckX10_isHere {l : Launch} {dC : Nat → ClassId} {dI : Nat → Nat → Nat} {cB cI cJ cZ cS : ClassId} {a b b2 c0 : Nat → Nat} {rg sl : Nat → Option Nat} {r : Int32} {s' : XS} {s : XS} {x1 : Int32} (hB : kX10_isHere s x1 = some (r, s')) : CI l yX10_isHere wsX10_isHere ({ frames := 1, cells := 0, slots := 0, locals := 21 }) (dC, dI) (tysA cB cI cJ cZ cS) (wX cB cI cJ cZ cS a b b2 c0 rg sl s) [.ref (c0 0), .int x1] (fun x u => x = r ∧ u = (wX cB cI cJ cZ cS a b b2 c0 rg sl s')) :=
  CI_of (cc := cX10_isHere) (maxL := 2) (ret := (some .boolean)) (by decide) rfl (Nat.le_of_ble_eq_true rfl) (bkX10_isHere _ _ hB)
theorem LX10_partiesThatAre_19 : Cond.fieldLink RX10 19 "GuessFerry" "sound" "LGuessFerry$Sound;" ∈ wsX10_partiesThatAre := (List.mem_cons_of_mem _ (List.mem_append_left _ (List.mem_append_left _ (List.mem_append_left _ (List.mem_of_getElem? (i := 0) rfl)))))
theorem inX10_partiesThatAre_X10 : ∀ w ∈ u_ws RX10 TX10 9, w ∈ wsX10_partiesThatAre := fun _ h => List.mem_cons_of_mem _ (List.mem_append_left _ (List.mem_append_left _ (List.mem_append_right _ h)))
theorem inX10_partiesThatAre_X5 : ∀ w ∈ u_ws RX5 TX5 10, w ∈ wsX10_partiesThatAre := fun _ h => List.mem_cons_of_mem _ (List.mem_append_left _ (List.mem_append_right _ h))
theorem inX10_partiesThatAre_X6 : ∀ w ∈ u_ws RX6 TX6 7, w ∈ wsX10_partiesThatAre := fun _ h => List.mem_cons_of_mem _ (List.mem_append_right _ h)
set_option maxHeartbeats 4000000 in
set_option maxRecDepth 100000 in
theorem bkX10_partiesThatAre_35 {l : Launch} {dC : Nat → ClassId} {dI : Nat → Nat → Nat} {cB cI cJ cZ cS : ClassId} {a b b2 c0 : Nat → Nat} {rg sl : Nat → Option Nat} {as : List Value} {r : Int32} {s' : XS} {k5 : XS → Int32 → Int32 → Int32 → Option (Int32 × XS)} (hk5 : ∀ (s : XS) (x2 : Int32) (x3 : Int32) (x4 : Int32), k5 s x2 x3 x4 = some (r, s') → BlkI l yX10_partiesThatAre wsX10_partiesThatAre ({ frames := 0, cells := 0, slots := 0, locals := 0 }) cX10_partiesThatAre 5 (some .int) (dC, dI) (tysA cB cI cJ cZ cS) as 5 (wX cB cI cJ cZ cS a b b2 c0 rg sl s) [(0, .ref (c0 0)), (1, .ref (b 0)), (2, .int x2), (3, .int x3), (4, .int x4)] [] (fun x u => x = r ∧ u = (wX cB cI cJ cZ cS a b b2 c0 rg sl s'))) (s : XS) (x2 : Int32) (x3 : Int32) (x4 : Int32) (hB : kX10_partiesThatAre_35 k5 s x2 x3 x4 = some (r, s')) : BlkI l yX10_partiesThatAre wsX10_partiesThatAre ({ frames := 0, cells := 0, slots := 0, locals := 0 }) cX10_partiesThatAre 5 (some .int) (dC, dI) (tysA cB cI cJ cZ cS) as 35 (wX cB cI cJ cZ cS a b b2 c0 rg sl s) [(0, .ref (c0 0)), (1, .ref (b 0)), (2, .int x2), (3, .int x3), (4, .int x4)] [] (fun x u => x = r ∧ u = (wX cB cI cJ cZ cS a b b2 c0 rg sl s')) := by
  intro p e s0 m below meth c A E H locs ls hP hD hS hl
  obtain ⟨C, hr, hlocks, hA, hK, hN⟩ := id E
  obtain ⟨hx, hb, hml, hown, hts⟩ := id C
  unfold kX10_partiesThatAre_35 at hB
  refine lv_iinc (v := (x4 + 1)) (lv' := [(4, .int (x4 + 1)), (0, .ref (c0 0)), (1, .ref (b 0)), (2, .int x2), (3, .int x3)]) hx hb dX10_partiesThatAre_35 hl (k := 4) rfl (rfl) (by decide) rfl (fun ls hl => ?_)
  refine lv_goto (tgt := 5) hx hb dX10_partiesThatAre_38 (by decide) ?_
  exact hk5 _ _ _ _ hB p e s0 m below meth c A E H locs ls hP hD hS (lv_sub hl [1, 2, 3, 4, 0] rfl)
set_option maxHeartbeats 4000000 in
set_option maxRecDepth 100000 in
theorem bkX10_partiesThatAre_5 {l : Launch} {dC : Nat → ClassId} {dI : Nat → Nat → Nat} {cB cI cJ cZ cS : ClassId} {a b b2 c0 : Nat → Nat} {rg sl : Nat → Option Nat} {as : List Value} {r : Int32} {s' : XS} {k5 : XS → Int32 → Int32 → Int32 → Option (Int32 × XS)} (hk5 : ∀ (s : XS) (x2 : Int32) (x3 : Int32) (x4 : Int32), k5 s x2 x3 x4 = some (r, s') → BlkI l yX10_partiesThatAre wsX10_partiesThatAre ({ frames := 0, cells := 0, slots := 0, locals := 0 }) cX10_partiesThatAre 5 (some .int) (dC, dI) (tysA cB cI cJ cZ cS) as 5 (wX cB cI cJ cZ cS a b b2 c0 rg sl s) [(0, .ref (c0 0)), (1, .ref (b 0)), (2, .int x2), (3, .int x3), (4, .int x4)] [] (fun x u => x = r ∧ u = (wX cB cI cJ cZ cS a b b2 c0 rg sl s'))) (s : XS) (x2 : Int32) (x3 : Int32) (x4 : Int32) (hB : kX10_partiesThatAre_5 k5 s x2 x3 x4 = some (r, s')) : BlkI l yX10_partiesThatAre wsX10_partiesThatAre ({ frames := 0, cells := 0, slots := 0, locals := 0 }) cX10_partiesThatAre 5 (some .int) (dC, dI) (tysA cB cI cJ cZ cS) as 5 (wX cB cI cJ cZ cS a b b2 c0 rg sl s) [(0, .ref (c0 0)), (1, .ref (b 0)), (2, .int x2), (3, .int x3), (4, .int x4)] [] (fun x u => x = r ∧ u = (wX cB cI cJ cZ cS a b b2 c0 rg sl s')) := by
  intro p e s0 m below meth c A E H locs ls hP hD hS hl
  obtain ⟨C, hr, hlocks, hA, hK, hN⟩ := id E
  obtain ⟨hx, hb, hml, hown, hts⟩ := id C
  unfold kX10_partiesThatAre_5 at hB
  refine lv_iload hx hb dX10_partiesThatAre_5 (lv_at hl 4 rfl) ?_
  refine lv_aload_n hx hb dX10_partiesThatAre_7 rfl (lv_at hl 0 rfl) ?_
  refine q_get (v := .ref (a 2)) C inX10_partiesThatAre_X10 hK hP 0 rfl rfl 1 (by decide) rfl LX10_partiesThatAre_19 rfl dX10_partiesThatAre_8 ?_
  refine q_getN (v := .int (s.k.v 2)) C hN inX10_partiesThatAre_X5 hK hP 19 rfl rfl 7 (by decide) rfl nwF_X10_235 rfl dX10_partiesThatAre_11 ?_
  refine lv_icmp_ge (tgt := 41) hx hb dX10_partiesThatAre_14 (by decide) (fun c1 => ?_) (fun c1 => ?_)
  · have hB := if_p hB c1
    refine lv_iload_n hx hb dX10_partiesThatAre_41 rfl (lv_at hl 3 rfl) ?_
    exact q_iret C hr hlocks hK hP hD hS (Nat.le_of_ble_eq_true rfl) (Nat.le_of_ble_eq_true rfl) dX10_partiesThatAre_42 (by cases hB; exact ⟨rfl, rfl⟩)
  · have hB := if_n hB c1
    refine lv_aload_n hx hb dX10_partiesThatAre_17 rfl (lv_at hl 1 rfl) ?_
    refine q_getN (v := .ref (b 4)) C hN inX10_partiesThatAre_X6 hK hP 11 rfl rfl 3 (by decide) rfl nwF_X10_147 rfl dX10_partiesThatAre_18 ?_
    refine lv_iload hx hb dX10_partiesThatAre_21 (lv_at hl 4 rfl) ?_
    obtain ⟨g2, hB⟩ := guard_inv hB
    refine q_iald (x := ((s.n.f 3) (Int32.toNatClampNeg x4))) C hK hP 15 1 rfl rfl (vpb_in g2) dX10_partiesThatAre_23 rfl ?_
    refine lv_iload_n hx hb dX10_partiesThatAre_24 rfl (lv_at hl 2 rfl) ?_
    refine lv_icmp_ne (tgt := 35) hx hb dX10_partiesThatAre_25 (by decide) (fun c3 => ?_) (fun c3 => ?_)
    · have hB := if_n hB c3
      exact bkX10_partiesThatAre_35 (hk5) _ _ _ _ hB p e s0 m below meth c A E H locs ls hP hD hS (lv_sub hl [0, 1, 2, 3, 4] rfl)
    · have hB := if_p hB c3
      refine lv_iload_n hx hb dX10_partiesThatAre_28 rfl (lv_at hl 3 rfl) ?_
      refine lv_iconst (v := 1) hx hb dX10_partiesThatAre_29 (by decide) ?_
      refine lv_iload hx hb dX10_partiesThatAre_30 (lv_at hl 4 rfl) ?_
      refine lv_ishl hx hb dX10_partiesThatAre_32 ?_
      refine lv_ior hx hb dX10_partiesThatAre_33 ?_
      refine lv_istore_n (lv' := [(3, .int (x3 ||| (1 <<< (x4 &&& 31)))), (0, .ref (c0 0)), (1, .ref (b 0)), (2, .int x2), (4, .int x4)]) hx hb dX10_partiesThatAre_34 rfl hl (by decide) rfl (fun ls hl => ?_)
      exact bkX10_partiesThatAre_35 (hk5) _ _ _ _ hB p e s0 m below meth c A E H locs ls hP hD hS (lv_sub hl [1, 2, 3, 0, 4] rfl)
theorem bkX10_partiesThatAre_5L {l : Launch} {dC : Nat → ClassId} {dI : Nat → Nat → Nat} {cB cI cJ cZ cS : ClassId} {a b b2 c0 : Nat → Nat} {rg sl : Nat → Option Nat} {as : List Value} {r : Int32} {s' : XS} : ∀ (n : Nat) (s : XS) (x2 : Int32) (x3 : Int32) (x4 : Int32), kX10_partiesThatAre_5L n s x2 x3 x4 = some (r, s') → BlkI l yX10_partiesThatAre wsX10_partiesThatAre ({ frames := 0, cells := 0, slots := 0, locals := 0 }) cX10_partiesThatAre 5 (some .int) (dC, dI) (tysA cB cI cJ cZ cS) as 5 (wX cB cI cJ cZ cS a b b2 c0 rg sl s) [(0, .ref (c0 0)), (1, .ref (b 0)), (2, .int x2), (3, .int x3), (4, .int x4)] [] (fun x u => x = r ∧ u = (wX cB cI cJ cZ cS a b b2 c0 rg sl s')) := by
  intro n
  induction n with
  | zero => intro s x2 x3 x4 hB; exact none_ne hB
  | succ n ih => intro s x2 x3 x4 hB; exact bkX10_partiesThatAre_5 ih _ _ _ _ hB
set_option maxHeartbeats 4000000 in
set_option maxRecDepth 100000 in
theorem bkX10_partiesThatAre {l : Launch} {dC : Nat → ClassId} {dI : Nat → Nat → Nat} {cB cI cJ cZ cS : ClassId} {a b b2 c0 : Nat → Nat} {rg sl : Nat → Option Nat} {as : List Value} {r : Int32} {s' : XS} (s : XS) (x2 : Int32) (hB : kX10_partiesThatAre s x2 = some (r, s')) : BlkI l yX10_partiesThatAre wsX10_partiesThatAre ({ frames := 0, cells := 0, slots := 0, locals := 0 }) cX10_partiesThatAre 5 (some .int) (dC, dI) (tysA cB cI cJ cZ cS) as 0 (wX cB cI cJ cZ cS a b b2 c0 rg sl s) [(0, .ref (c0 0)), (1, .ref (b 0)), (2, .int x2)] [] (fun x u => x = r ∧ u = (wX cB cI cJ cZ cS a b b2 c0 rg sl s')) := by
  intro p e s0 m below meth c A E H locs ls hP hD hS hl
  obtain ⟨C, hr, hlocks, hA, hK, hN⟩ := id E
  obtain ⟨hx, hb, hml, hown, hts⟩ := id C
  unfold kX10_partiesThatAre at hB
  refine lv_iconst (v := 0) hx hb dX10_partiesThatAre_0 (by decide) ?_
  refine lv_istore_n (lv' := [(3, .int 0), (0, .ref (c0 0)), (1, .ref (b 0)), (2, .int x2)]) hx hb dX10_partiesThatAre_1 rfl hl (by decide) rfl (fun ls hl => ?_)
  refine lv_iconst (v := 0) hx hb dX10_partiesThatAre_2 (by decide) ?_
  refine lv_istore (lv' := [(4, .int 0), (3, .int 0), (0, .ref (c0 0)), (1, .ref (b 0)), (2, .int x2)]) hx hb dX10_partiesThatAre_3 hl (by decide) rfl (fun ls hl => ?_)
  exact bkX10_partiesThatAre_5L fu _ _ _ _ hB p e s0 m below meth c A E H locs ls hP hD hS (lv_sub hl [2, 3, 4, 1, 0] rfl)
theorem ckX10_partiesThatAre {l : Launch} {dC : Nat → ClassId} {dI : Nat → Nat → Nat} {cB cI cJ cZ cS : ClassId} {a b b2 c0 : Nat → Nat} {rg sl : Nat → Option Nat} {r : Int32} {s' : XS} {s : XS} {x2 : Int32} (hB : kX10_partiesThatAre s x2 = some (r, s')) : CI l yX10_partiesThatAre wsX10_partiesThatAre ({ frames := 0, cells := 0, slots := 0, locals := 0 }) (dC, dI) (tysA cB cI cJ cZ cS) (wX cB cI cJ cZ cS a b b2 c0 rg sl s) [.ref (c0 0), .ref (b 0), .int x2] (fun x u => x = r ∧ u = (wX cB cI cJ cZ cS a b b2 c0 rg sl s')) :=
  CI_of (cc := cX10_partiesThatAre) (maxL := 5) (ret := (some .int)) (by decide) rfl (Nat.le_of_ble_eq_true rfl) (bkX10_partiesThatAre _ _ hB)
set_option maxHeartbeats 4000000 in
set_option maxRecDepth 100000 in
theorem bkX10_partiesThatAre_t_35 {l : Launch} {dC : Nat → ClassId} {dI : Nat → Nat → Nat} {cB cI cJ cZ cS : ClassId} {a b b2 c0 : Nat → Nat} {rg sl : Nat → Option Nat} {as : List Value} {r : Int32} {s' : XS} {k5 : XS → Int32 → Int32 → Int32 → Option (Int32 × XS)} (hk5 : ∀ (s : XS) (x2 : Int32) (x3 : Int32) (x4 : Int32), k5 s x2 x3 x4 = some (r, s') → BlkI l yX10_partiesThatAre wsX10_partiesThatAre ({ frames := 0, cells := 0, slots := 0, locals := 0 }) cX10_partiesThatAre 5 (some .int) (dC, dI) (tysA cB cI cJ cZ cS) as 5 (wX cB cI cJ cZ cS a b b2 c0 rg sl s) [(0, .ref (c0 0)), (1, .ref (b2 0)), (2, .int x2), (3, .int x3), (4, .int x4)] [] (fun x u => x = r ∧ u = (wX cB cI cJ cZ cS a b b2 c0 rg sl s'))) (s : XS) (x2 : Int32) (x3 : Int32) (x4 : Int32) (hB : kX10_partiesThatAre_t_35 k5 s x2 x3 x4 = some (r, s')) : BlkI l yX10_partiesThatAre wsX10_partiesThatAre ({ frames := 0, cells := 0, slots := 0, locals := 0 }) cX10_partiesThatAre 5 (some .int) (dC, dI) (tysA cB cI cJ cZ cS) as 35 (wX cB cI cJ cZ cS a b b2 c0 rg sl s) [(0, .ref (c0 0)), (1, .ref (b2 0)), (2, .int x2), (3, .int x3), (4, .int x4)] [] (fun x u => x = r ∧ u = (wX cB cI cJ cZ cS a b b2 c0 rg sl s')) := by
  intro p e s0 m below meth c A E H locs ls hP hD hS hl
  obtain ⟨C, hr, hlocks, hA, hK, hN⟩ := id E
  obtain ⟨hx, hb, hml, hown, hts⟩ := id C
  unfold kX10_partiesThatAre_t_35 at hB
  refine lv_iinc (v := (x4 + 1)) (lv' := [(4, .int (x4 + 1)), (0, .ref (c0 0)), (1, .ref (b2 0)), (2, .int x2), (3, .int x3)]) hx hb dX10_partiesThatAre_35 hl (k := 4) rfl (rfl) (by decide) rfl (fun ls hl => ?_)
  refine lv_goto (tgt := 5) hx hb dX10_partiesThatAre_38 (by decide) ?_
  exact hk5 _ _ _ _ hB p e s0 m below meth c A E H locs ls hP hD hS (lv_sub hl [1, 2, 3, 4, 0] rfl)
set_option maxHeartbeats 4000000 in
set_option maxRecDepth 100000 in
theorem bkX10_partiesThatAre_t_5 {l : Launch} {dC : Nat → ClassId} {dI : Nat → Nat → Nat} {cB cI cJ cZ cS : ClassId} {a b b2 c0 : Nat → Nat} {rg sl : Nat → Option Nat} {as : List Value} {r : Int32} {s' : XS} {k5 : XS → Int32 → Int32 → Int32 → Option (Int32 × XS)} (hk5 : ∀ (s : XS) (x2 : Int32) (x3 : Int32) (x4 : Int32), k5 s x2 x3 x4 = some (r, s') → BlkI l yX10_partiesThatAre wsX10_partiesThatAre ({ frames := 0, cells := 0, slots := 0, locals := 0 }) cX10_partiesThatAre 5 (some .int) (dC, dI) (tysA cB cI cJ cZ cS) as 5 (wX cB cI cJ cZ cS a b b2 c0 rg sl s) [(0, .ref (c0 0)), (1, .ref (b2 0)), (2, .int x2), (3, .int x3), (4, .int x4)] [] (fun x u => x = r ∧ u = (wX cB cI cJ cZ cS a b b2 c0 rg sl s'))) (s : XS) (x2 : Int32) (x3 : Int32) (x4 : Int32) (hB : kX10_partiesThatAre_t_5 k5 s x2 x3 x4 = some (r, s')) : BlkI l yX10_partiesThatAre wsX10_partiesThatAre ({ frames := 0, cells := 0, slots := 0, locals := 0 }) cX10_partiesThatAre 5 (some .int) (dC, dI) (tysA cB cI cJ cZ cS) as 5 (wX cB cI cJ cZ cS a b b2 c0 rg sl s) [(0, .ref (c0 0)), (1, .ref (b2 0)), (2, .int x2), (3, .int x3), (4, .int x4)] [] (fun x u => x = r ∧ u = (wX cB cI cJ cZ cS a b b2 c0 rg sl s')) := by
  intro p e s0 m below meth c A E H locs ls hP hD hS hl
  obtain ⟨C, hr, hlocks, hA, hK, hN⟩ := id E
  obtain ⟨hx, hb, hml, hown, hts⟩ := id C
  unfold kX10_partiesThatAre_t_5 at hB
  refine lv_iload hx hb dX10_partiesThatAre_5 (lv_at hl 4 rfl) ?_
  refine lv_aload_n hx hb dX10_partiesThatAre_7 rfl (lv_at hl 0 rfl) ?_
  refine q_get (v := .ref (a 2)) C inX10_partiesThatAre_X10 hK hP 0 rfl rfl 1 (by decide) rfl LX10_partiesThatAre_19 rfl dX10_partiesThatAre_8 ?_
  refine q_getN (v := .int (s.k.v 2)) C hN inX10_partiesThatAre_X5 hK hP 19 rfl rfl 7 (by decide) rfl nwF_X10_235 rfl dX10_partiesThatAre_11 ?_
  refine lv_icmp_ge (tgt := 41) hx hb dX10_partiesThatAre_14 (by decide) (fun c1 => ?_) (fun c1 => ?_)
  · have hB := if_p hB c1
    refine lv_iload_n hx hb dX10_partiesThatAre_41 rfl (lv_at hl 3 rfl) ?_
    exact q_iret C hr hlocks hK hP hD hS (Nat.le_of_ble_eq_true rfl) (Nat.le_of_ble_eq_true rfl) dX10_partiesThatAre_42 (by cases hB; exact ⟨rfl, rfl⟩)
  · have hB := if_n hB c1
    refine lv_aload_n hx hb dX10_partiesThatAre_17 rfl (lv_at hl 1 rfl) ?_
    refine q_getN (v := .ref (b2 4)) C hN inX10_partiesThatAre_X6 hK hP 5 rfl rfl 3 (by decide) rfl nwF_X10_147 rfl dX10_partiesThatAre_18 ?_
    refine lv_iload hx hb dX10_partiesThatAre_21 (lv_at hl 4 rfl) ?_
    obtain ⟨g2, hB⟩ := guard_inv hB
    refine q_iald (x := ((s.t.f 3) (Int32.toNatClampNeg x4))) C hK hP 9 1 rfl rfl (vpb_in g2) dX10_partiesThatAre_23 rfl ?_
    refine lv_iload_n hx hb dX10_partiesThatAre_24 rfl (lv_at hl 2 rfl) ?_
    refine lv_icmp_ne (tgt := 35) hx hb dX10_partiesThatAre_25 (by decide) (fun c3 => ?_) (fun c3 => ?_)
    · have hB := if_n hB c3
      exact bkX10_partiesThatAre_t_35 (hk5) _ _ _ _ hB p e s0 m below meth c A E H locs ls hP hD hS (lv_sub hl [0, 1, 2, 3, 4] rfl)
    · have hB := if_p hB c3
      refine lv_iload_n hx hb dX10_partiesThatAre_28 rfl (lv_at hl 3 rfl) ?_
      refine lv_iconst (v := 1) hx hb dX10_partiesThatAre_29 (by decide) ?_
      refine lv_iload hx hb dX10_partiesThatAre_30 (lv_at hl 4 rfl) ?_
      refine lv_ishl hx hb dX10_partiesThatAre_32 ?_
      refine lv_ior hx hb dX10_partiesThatAre_33 ?_
      refine lv_istore_n (lv' := [(3, .int (x3 ||| (1 <<< (x4 &&& 31)))), (0, .ref (c0 0)), (1, .ref (b2 0)), (2, .int x2), (4, .int x4)]) hx hb dX10_partiesThatAre_34 rfl hl (by decide) rfl (fun ls hl => ?_)
      exact bkX10_partiesThatAre_t_35 (hk5) _ _ _ _ hB p e s0 m below meth c A E H locs ls hP hD hS (lv_sub hl [1, 2, 3, 0, 4] rfl)
theorem bkX10_partiesThatAre_t_5L {l : Launch} {dC : Nat → ClassId} {dI : Nat → Nat → Nat} {cB cI cJ cZ cS : ClassId} {a b b2 c0 : Nat → Nat} {rg sl : Nat → Option Nat} {as : List Value} {r : Int32} {s' : XS} : ∀ (n : Nat) (s : XS) (x2 : Int32) (x3 : Int32) (x4 : Int32), kX10_partiesThatAre_t_5L n s x2 x3 x4 = some (r, s') → BlkI l yX10_partiesThatAre wsX10_partiesThatAre ({ frames := 0, cells := 0, slots := 0, locals := 0 }) cX10_partiesThatAre 5 (some .int) (dC, dI) (tysA cB cI cJ cZ cS) as 5 (wX cB cI cJ cZ cS a b b2 c0 rg sl s) [(0, .ref (c0 0)), (1, .ref (b2 0)), (2, .int x2), (3, .int x3), (4, .int x4)] [] (fun x u => x = r ∧ u = (wX cB cI cJ cZ cS a b b2 c0 rg sl s')) := by
  intro n
  induction n with
  | zero => intro s x2 x3 x4 hB; exact none_ne hB
  | succ n ih => intro s x2 x3 x4 hB; exact bkX10_partiesThatAre_t_5 ih _ _ _ _ hB
set_option maxHeartbeats 4000000 in
set_option maxRecDepth 100000 in
theorem bkX10_partiesThatAre_t {l : Launch} {dC : Nat → ClassId} {dI : Nat → Nat → Nat} {cB cI cJ cZ cS : ClassId} {a b b2 c0 : Nat → Nat} {rg sl : Nat → Option Nat} {as : List Value} {r : Int32} {s' : XS} (s : XS) (x2 : Int32) (hB : kX10_partiesThatAre_t s x2 = some (r, s')) : BlkI l yX10_partiesThatAre wsX10_partiesThatAre ({ frames := 0, cells := 0, slots := 0, locals := 0 }) cX10_partiesThatAre 5 (some .int) (dC, dI) (tysA cB cI cJ cZ cS) as 0 (wX cB cI cJ cZ cS a b b2 c0 rg sl s) [(0, .ref (c0 0)), (1, .ref (b2 0)), (2, .int x2)] [] (fun x u => x = r ∧ u = (wX cB cI cJ cZ cS a b b2 c0 rg sl s')) := by
  intro p e s0 m below meth c A E H locs ls hP hD hS hl
  obtain ⟨C, hr, hlocks, hA, hK, hN⟩ := id E
  obtain ⟨hx, hb, hml, hown, hts⟩ := id C
  unfold kX10_partiesThatAre_t at hB
  refine lv_iconst (v := 0) hx hb dX10_partiesThatAre_0 (by decide) ?_
  refine lv_istore_n (lv' := [(3, .int 0), (0, .ref (c0 0)), (1, .ref (b2 0)), (2, .int x2)]) hx hb dX10_partiesThatAre_1 rfl hl (by decide) rfl (fun ls hl => ?_)
  refine lv_iconst (v := 0) hx hb dX10_partiesThatAre_2 (by decide) ?_
  refine lv_istore (lv' := [(4, .int 0), (3, .int 0), (0, .ref (c0 0)), (1, .ref (b2 0)), (2, .int x2)]) hx hb dX10_partiesThatAre_3 hl (by decide) rfl (fun ls hl => ?_)
  exact bkX10_partiesThatAre_t_5L fu _ _ _ _ hB p e s0 m below meth c A E H locs ls hP hD hS (lv_sub hl [2, 3, 4, 1, 0] rfl)
theorem ckX10_partiesThatAre_t {l : Launch} {dC : Nat → ClassId} {dI : Nat → Nat → Nat} {cB cI cJ cZ cS : ClassId} {a b b2 c0 : Nat → Nat} {rg sl : Nat → Option Nat} {r : Int32} {s' : XS} {s : XS} {x2 : Int32} (hB : kX10_partiesThatAre_t s x2 = some (r, s')) : CI l yX10_partiesThatAre wsX10_partiesThatAre ({ frames := 0, cells := 0, slots := 0, locals := 0 }) (dC, dI) (tysA cB cI cJ cZ cS) (wX cB cI cJ cZ cS a b b2 c0 rg sl s) [.ref (c0 0), .ref (b2 0), .int x2] (fun x u => x = r ∧ u = (wX cB cI cJ cZ cS a b b2 c0 rg sl s')) :=
  CI_of (cc := cX10_partiesThatAre) (maxL := 5) (ret := (some .int)) (by decide) rfl (Nat.le_of_ble_eq_true rfl) (bkX10_partiesThatAre_t _ _ hB)
theorem LX10_wavesFound_19 : Cond.fieldLink RX10 19 "GuessFerry" "sound" "LGuessFerry$Sound;" ∈ wsX10_wavesFound := (List.mem_cons_of_mem _ (List.mem_append_left _ (List.mem_append_left _ (List.mem_append_left _ (List.mem_of_getElem? (i := 0) rfl)))))
theorem LX10_wavesFound_35 : Cond.fieldLink RX10 35 "GuessFerry" "now" "LGuessFerry$Standing;" ∈ wsX10_wavesFound := (List.mem_cons_of_mem _ (List.mem_append_left _ (List.mem_append_left _ (List.mem_append_left _ (List.mem_of_getElem? (i := 1) rfl)))))
theorem inX10_wavesFound_X10 : ∀ w ∈ u_ws RX10 TX10 9, w ∈ wsX10_wavesFound := fun _ h => List.mem_cons_of_mem _ (List.mem_append_left _ (List.mem_append_left _ (List.mem_append_right _ h)))
theorem inX10_wavesFound_X5 : ∀ w ∈ u_ws RX5 TX5 10, w ∈ wsX10_wavesFound := fun _ h => List.mem_cons_of_mem _ (List.mem_append_left _ (List.mem_append_right _ h))
theorem inX10_wavesFound_X6 : ∀ w ∈ u_ws RX6 TX6 7, w ∈ wsX10_wavesFound := fun _ h => List.mem_cons_of_mem _ (List.mem_append_right _ h)
set_option maxHeartbeats 4000000 in
set_option maxRecDepth 100000 in
theorem bkX10_wavesFound_34 {l : Launch} {dC : Nat → ClassId} {dI : Nat → Nat → Nat} {cB cI cJ cZ cS : ClassId} {a b b2 c0 : Nat → Nat} {rg sl : Nat → Option Nat} {as : List Value} {r : Int32} {s' : XS} {k4 : XS → Int32 → Int32 → Option (Int32 × XS)} (hk4 : ∀ (s : XS) (x1 : Int32) (x2 : Int32), k4 s x1 x2 = some (r, s') → BlkI l yX10_wavesFound wsX10_wavesFound ({ frames := 0, cells := 0, slots := 0, locals := 0 }) cX10_wavesFound 3 (some .int) (dC, dI) (tysA cB cI cJ cZ cS) as 4 (wX cB cI cJ cZ cS a b b2 c0 rg sl s) [(0, .ref (c0 0)), (1, .int x1), (2, .int x2)] [] (fun x u => x = r ∧ u = (wX cB cI cJ cZ cS a b b2 c0 rg sl s'))) (s : XS) (x1 : Int32) (x2 : Int32) (hB : kX10_wavesFound_34 k4 s x1 x2 = some (r, s')) : BlkI l yX10_wavesFound wsX10_wavesFound ({ frames := 0, cells := 0, slots := 0, locals := 0 }) cX10_wavesFound 3 (some .int) (dC, dI) (tysA cB cI cJ cZ cS) as 34 (wX cB cI cJ cZ cS a b b2 c0 rg sl s) [(0, .ref (c0 0)), (1, .int x1), (2, .int x2)] [] (fun x u => x = r ∧ u = (wX cB cI cJ cZ cS a b b2 c0 rg sl s')) := by
  intro p e s0 m below meth c A E H locs ls hP hD hS hl
  obtain ⟨C, hr, hlocks, hA, hK, hN⟩ := id E
  obtain ⟨hx, hb, hml, hown, hts⟩ := id C
  unfold kX10_wavesFound_34 at hB
  refine lv_iinc (v := (x2 + 1)) (lv' := [(2, .int (x2 + 1)), (0, .ref (c0 0)), (1, .int x1)]) hx hb dX10_wavesFound_34 hl (k := 2) rfl (rfl) (by decide) rfl (fun ls hl => ?_)
  refine lv_goto (tgt := 4) hx hb dX10_wavesFound_37 (by decide) ?_
  exact hk4 _ _ _ hB p e s0 m below meth c A E H locs ls hP hD hS (lv_sub hl [1, 2, 0] rfl)
set_option maxHeartbeats 4000000 in
set_option maxRecDepth 100000 in
theorem bkX10_wavesFound_4 {l : Launch} {dC : Nat → ClassId} {dI : Nat → Nat → Nat} {cB cI cJ cZ cS : ClassId} {a b b2 c0 : Nat → Nat} {rg sl : Nat → Option Nat} {as : List Value} {r : Int32} {s' : XS} {k4 : XS → Int32 → Int32 → Option (Int32 × XS)} (hk4 : ∀ (s : XS) (x1 : Int32) (x2 : Int32), k4 s x1 x2 = some (r, s') → BlkI l yX10_wavesFound wsX10_wavesFound ({ frames := 0, cells := 0, slots := 0, locals := 0 }) cX10_wavesFound 3 (some .int) (dC, dI) (tysA cB cI cJ cZ cS) as 4 (wX cB cI cJ cZ cS a b b2 c0 rg sl s) [(0, .ref (c0 0)), (1, .int x1), (2, .int x2)] [] (fun x u => x = r ∧ u = (wX cB cI cJ cZ cS a b b2 c0 rg sl s'))) (s : XS) (x1 : Int32) (x2 : Int32) (hB : kX10_wavesFound_4 k4 s x1 x2 = some (r, s')) : BlkI l yX10_wavesFound wsX10_wavesFound ({ frames := 0, cells := 0, slots := 0, locals := 0 }) cX10_wavesFound 3 (some .int) (dC, dI) (tysA cB cI cJ cZ cS) as 4 (wX cB cI cJ cZ cS a b b2 c0 rg sl s) [(0, .ref (c0 0)), (1, .int x1), (2, .int x2)] [] (fun x u => x = r ∧ u = (wX cB cI cJ cZ cS a b b2 c0 rg sl s')) := by
  intro p e s0 m below meth c A E H locs ls hP hD hS hl
  obtain ⟨C, hr, hlocks, hA, hK, hN⟩ := id E
  obtain ⟨hx, hb, hml, hown, hts⟩ := id C
  unfold kX10_wavesFound_4 at hB
  refine lv_iload_n hx hb dX10_wavesFound_4 rfl (lv_at hl 2 rfl) ?_
  refine lv_aload_n hx hb dX10_wavesFound_5 rfl (lv_at hl 0 rfl) ?_
  refine q_get (v := .ref (a 2)) C inX10_wavesFound_X10 hK hP 0 rfl rfl 1 (by decide) rfl LX10_wavesFound_19 rfl dX10_wavesFound_6 ?_
  refine q_getN (v := .int (s.k.v 1)) C hN inX10_wavesFound_X5 hK hP 19 rfl rfl 6 (by decide) rfl nwF_X10_167 rfl dX10_wavesFound_9 ?_
  refine lv_icmp_ge (tgt := 40) hx hb dX10_wavesFound_12 (by decide) (fun c1 => ?_) (fun c1 => ?_)
  · have hB := if_p hB c1
    refine lv_iload_n hx hb dX10_wavesFound_40 rfl (lv_at hl 1 rfl) ?_
    exact q_iret C hr hlocks hK hP hD hS (Nat.le_of_ble_eq_true rfl) (Nat.le_of_ble_eq_true rfl) dX10_wavesFound_41 (by cases hB; exact ⟨rfl, rfl⟩)
  · have hB := if_n hB c1
    refine lv_aload_n hx hb dX10_wavesFound_15 rfl (lv_at hl 0 rfl) ?_
    refine q_get (v := .ref (b 0)) C inX10_wavesFound_X10 hK hP 0 rfl rfl 3 (by decide) rfl LX10_wavesFound_35 rfl dX10_wavesFound_16 ?_
    refine q_getN (v := .ref (b 1)) C hN inX10_wavesFound_X6 hK hP 11 rfl rfl 0 (by decide) rfl nwF_X10_115 rfl dX10_wavesFound_19 ?_
    refine lv_iload_n hx hb dX10_wavesFound_22 rfl (lv_at hl 2 rfl) ?_
    obtain ⟨g2, hB⟩ := guard_inv hB
    refine q_iald (x := ((s.n.f 0) (Int32.toNatClampNeg x2))) C hK hP 12 1 rfl rfl (vpb_in g2) dX10_wavesFound_23 rfl ?_
    refine lv_iconst (v := (-1)) hx hb dX10_wavesFound_24 (by decide) ?_
    refine lv_icmp_eq (tgt := 34) hx hb dX10_wavesFound_25 (by decide) (fun c3 => ?_) (fun c3 => ?_)
    · have hB := if_p hB c3
      exact bkX10_wavesFound_34 (hk4) _ _ _ hB p e s0 m below meth c A E H locs ls hP hD hS (lv_sub hl [0, 1, 2] rfl)
    · have hB := if_n hB c3
      refine lv_iload_n hx hb dX10_wavesFound_28 rfl (lv_at hl 1 rfl) ?_
      refine lv_iconst (v := 1) hx hb dX10_wavesFound_29 (by decide) ?_
      refine lv_iload_n hx hb dX10_wavesFound_30 rfl (lv_at hl 2 rfl) ?_
      refine lv_ishl hx hb dX10_wavesFound_31 ?_
      refine lv_ior hx hb dX10_wavesFound_32 ?_
      refine lv_istore_n (lv' := [(1, .int (x1 ||| (1 <<< (x2 &&& 31)))), (0, .ref (c0 0)), (2, .int x2)]) hx hb dX10_wavesFound_33 rfl hl (by decide) rfl (fun ls hl => ?_)
      exact bkX10_wavesFound_34 (hk4) _ _ _ hB p e s0 m below meth c A E H locs ls hP hD hS (lv_sub hl [1, 0, 2] rfl)
theorem bkX10_wavesFound_4L {l : Launch} {dC : Nat → ClassId} {dI : Nat → Nat → Nat} {cB cI cJ cZ cS : ClassId} {a b b2 c0 : Nat → Nat} {rg sl : Nat → Option Nat} {as : List Value} {r : Int32} {s' : XS} : ∀ (n : Nat) (s : XS) (x1 : Int32) (x2 : Int32), kX10_wavesFound_4L n s x1 x2 = some (r, s') → BlkI l yX10_wavesFound wsX10_wavesFound ({ frames := 0, cells := 0, slots := 0, locals := 0 }) cX10_wavesFound 3 (some .int) (dC, dI) (tysA cB cI cJ cZ cS) as 4 (wX cB cI cJ cZ cS a b b2 c0 rg sl s) [(0, .ref (c0 0)), (1, .int x1), (2, .int x2)] [] (fun x u => x = r ∧ u = (wX cB cI cJ cZ cS a b b2 c0 rg sl s')) := by
  intro n
  induction n with
  | zero => intro s x1 x2 hB; exact none_ne hB
  | succ n ih => intro s x1 x2 hB; exact bkX10_wavesFound_4 ih _ _ _ hB
set_option maxHeartbeats 4000000 in
set_option maxRecDepth 100000 in
theorem bkX10_wavesFound {l : Launch} {dC : Nat → ClassId} {dI : Nat → Nat → Nat} {cB cI cJ cZ cS : ClassId} {a b b2 c0 : Nat → Nat} {rg sl : Nat → Option Nat} {as : List Value} {r : Int32} {s' : XS} (s : XS) (hB : kX10_wavesFound s = some (r, s')) : BlkI l yX10_wavesFound wsX10_wavesFound ({ frames := 0, cells := 0, slots := 0, locals := 0 }) cX10_wavesFound 3 (some .int) (dC, dI) (tysA cB cI cJ cZ cS) as 0 (wX cB cI cJ cZ cS a b b2 c0 rg sl s) [(0, .ref (c0 0))] [] (fun x u => x = r ∧ u = (wX cB cI cJ cZ cS a b b2 c0 rg sl s')) := by
  intro p e s0 m below meth c A E H locs ls hP hD hS hl
  obtain ⟨C, hr, hlocks, hA, hK, hN⟩ := id E
  obtain ⟨hx, hb, hml, hown, hts⟩ := id C
  unfold kX10_wavesFound at hB
  refine lv_iconst (v := 0) hx hb dX10_wavesFound_0 (by decide) ?_
  refine lv_istore_n (lv' := [(1, .int 0), (0, .ref (c0 0))]) hx hb dX10_wavesFound_1 rfl hl (by decide) rfl (fun ls hl => ?_)
  refine lv_iconst (v := 0) hx hb dX10_wavesFound_2 (by decide) ?_
  refine lv_istore_n (lv' := [(2, .int 0), (1, .int 0), (0, .ref (c0 0))]) hx hb dX10_wavesFound_3 rfl hl (by decide) rfl (fun ls hl => ?_)
  exact bkX10_wavesFound_4L fu _ _ _ hB p e s0 m below meth c A E H locs ls hP hD hS (lv_sub hl [2, 1, 0] rfl)
theorem ckX10_wavesFound {l : Launch} {dC : Nat → ClassId} {dI : Nat → Nat → Nat} {cB cI cJ cZ cS : ClassId} {a b b2 c0 : Nat → Nat} {rg sl : Nat → Option Nat} {r : Int32} {s' : XS} {s : XS} (hB : kX10_wavesFound s = some (r, s')) : CI l yX10_wavesFound wsX10_wavesFound ({ frames := 0, cells := 0, slots := 0, locals := 0 }) (dC, dI) (tysA cB cI cJ cZ cS) (wX cB cI cJ cZ cS a b b2 c0 rg sl s) [.ref (c0 0)] (fun x u => x = r ∧ u = (wX cB cI cJ cZ cS a b b2 c0 rg sl s')) :=
  CI_of (cc := cX10_wavesFound) (maxL := 3) (ret := (some .int)) (by decide) rfl (Nat.le_of_ble_eq_true rfl) (bkX10_wavesFound _ hB)
theorem LX10_wavesWithNothing_19 : Cond.fieldLink RX10 19 "GuessFerry" "sound" "LGuessFerry$Sound;" ∈ wsX10_wavesWithNothing := (List.mem_cons_of_mem _ (List.mem_append_left _ (List.mem_append_left _ (List.mem_append_left _ (List.mem_append_left _ (List.mem_append_left _ (List.mem_of_getElem? (i := 0) rfl)))))))
theorem LX10_wavesWithNothing_35 : Cond.fieldLink RX10 35 "GuessFerry" "now" "LGuessFerry$Standing;" ∈ wsX10_wavesWithNothing := (List.mem_cons_of_mem _ (List.mem_append_left _ (List.mem_append_left _ (List.mem_append_left _ (List.mem_append_left _ (List.mem_append_left _ (List.mem_of_getElem? (i := 2) rfl)))))))
theorem LX10_wavesWithNothing_54 : Cond.fieldLink RX10 54 "GuessFerry" "crossing" "LGuessFerry$Crossing;" ∈ wsX10_wavesWithNothing := (List.mem_cons_of_mem _ (List.mem_append_left _ (List.mem_append_left _ (List.mem_append_left _ (List.mem_append_left _ (List.mem_append_left _ (List.mem_of_getElem? (i := 1) rfl)))))))
theorem LX10_wavesWithNothing_E_X0_mayBe : Cond.selects RX0 yX0_mayBe yX0_mayBe ∈ wsX10_wavesWithNothing := (List.mem_cons_of_mem _ (List.mem_append_left _ (List.mem_append_left _ (List.mem_append_left _ (List.mem_append_left _ (List.mem_append_left _ (List.mem_of_getElem? (i := 5) rfl)))))))
theorem LX10_wavesWithNothing_I_X0 : Cond.initialized RX0 ∈ wsX10_wavesWithNothing := (List.mem_cons_of_mem _ (List.mem_append_left _ (List.mem_append_left _ (List.mem_append_left _ (List.mem_append_left _ (List.mem_append_left _ (List.mem_of_getElem? (i := 4) rfl)))))))
theorem LX10_wavesWithNothing_N_X0_mayBe : Cond.instanceMethod yX0_mayBe ∈ wsX10_wavesWithNothing := (List.mem_cons_of_mem _ (List.mem_append_left _ (List.mem_append_left _ (List.mem_append_left _ (List.mem_append_left _ (List.mem_append_left _ (List.mem_of_getElem? (i := 3) rfl)))))))
theorem inX10_wavesWithNothing_X10 : ∀ w ∈ u_ws RX10 TX10 9, w ∈ wsX10_wavesWithNothing := fun w h => (List.mem_cons_of_mem _ (List.mem_append_left _ (List.mem_append_left _ (List.mem_append_left _ (List.mem_append_right _ h)))))
theorem inX10_wavesWithNothing_X5 : ∀ w ∈ u_ws RX5 TX5 10, w ∈ wsX10_wavesWithNothing := fun w h => (List.mem_cons_of_mem _ (List.mem_append_left _ (List.mem_append_left _ (List.mem_append_right _ h))))
set_option maxHeartbeats 4000000 in
set_option maxRecDepth 100000 in
theorem bkX10_wavesWithNothing_36 {l : Launch} {dC : Nat → ClassId} {dI : Nat → Nat → Nat} {cB cI cJ cZ cS : ClassId} {a b b2 c0 : Nat → Nat} {rg sl : Nat → Option Nat} {as : List Value} {r : Int32} {s' : XS} {k4 : XS → Int32 → Int32 → Option (Int32 × XS)} (hk4 : ∀ (s : XS) (x1 : Int32) (x2 : Int32), k4 s x1 x2 = some (r, s') → BlkI l yX10_wavesWithNothing wsX10_wavesWithNothing ({ frames := 1, cells := 0, slots := 0, locals := 22 }) cX10_wavesWithNothing 3 (some .int) (dC, dI) (tysA cB cI cJ cZ cS) as 4 (wX cB cI cJ cZ cS a b b2 c0 rg sl s) [(0, .ref (c0 0)), (1, .int x1), (2, .int x2)] [] (fun x u => x = r ∧ u = (wX cB cI cJ cZ cS a b b2 c0 rg sl s'))) (s : XS) (x1 : Int32) (x2 : Int32) (hB : kX10_wavesWithNothing_36 k4 s x1 x2 = some (r, s')) : BlkI l yX10_wavesWithNothing wsX10_wavesWithNothing ({ frames := 1, cells := 0, slots := 0, locals := 22 }) cX10_wavesWithNothing 3 (some .int) (dC, dI) (tysA cB cI cJ cZ cS) as 36 (wX cB cI cJ cZ cS a b b2 c0 rg sl s) [(0, .ref (c0 0)), (1, .int x1), (2, .int x2)] [] (fun x u => x = r ∧ u = (wX cB cI cJ cZ cS a b b2 c0 rg sl s')) := by
  intro p e s0 m below meth c A E H locs ls hP hD hS hl
  obtain ⟨C, hr, hlocks, hA, hK, hN⟩ := id E
  obtain ⟨hx, hb, hml, hown, hts⟩ := id C
  unfold kX10_wavesWithNothing_36 at hB
  refine lv_iinc (v := (x2 + 1)) (lv' := [(2, .int (x2 + 1)), (0, .ref (c0 0)), (1, .int x1)]) hx hb dX10_wavesWithNothing_36 hl (k := 2) rfl (rfl) (by decide) rfl (fun ls hl => ?_)
  refine lv_goto (tgt := 4) hx hb dX10_wavesWithNothing_39 (by decide) ?_
  exact hk4 _ _ _ hB p e s0 m below meth c A E H locs ls hP hD hS (lv_sub hl [1, 2, 0] rfl)
set_option maxHeartbeats 4000000 in
set_option maxRecDepth 100000 in
theorem bkX10_wavesWithNothing_4 {l : Launch} {dC : Nat → ClassId} {dI : Nat → Nat → Nat} {cB cI cJ cZ cS : ClassId} {a b b2 c0 : Nat → Nat} {rg sl : Nat → Option Nat} {as : List Value} {r : Int32} {s' : XS} {k4 : XS → Int32 → Int32 → Option (Int32 × XS)} (hk4 : ∀ (s : XS) (x1 : Int32) (x2 : Int32), k4 s x1 x2 = some (r, s') → BlkI l yX10_wavesWithNothing wsX10_wavesWithNothing ({ frames := 1, cells := 0, slots := 0, locals := 22 }) cX10_wavesWithNothing 3 (some .int) (dC, dI) (tysA cB cI cJ cZ cS) as 4 (wX cB cI cJ cZ cS a b b2 c0 rg sl s) [(0, .ref (c0 0)), (1, .int x1), (2, .int x2)] [] (fun x u => x = r ∧ u = (wX cB cI cJ cZ cS a b b2 c0 rg sl s'))) (s : XS) (x1 : Int32) (x2 : Int32) (hB : kX10_wavesWithNothing_4 k4 s x1 x2 = some (r, s')) : BlkI l yX10_wavesWithNothing wsX10_wavesWithNothing ({ frames := 1, cells := 0, slots := 0, locals := 22 }) cX10_wavesWithNothing 3 (some .int) (dC, dI) (tysA cB cI cJ cZ cS) as 4 (wX cB cI cJ cZ cS a b b2 c0 rg sl s) [(0, .ref (c0 0)), (1, .int x1), (2, .int x2)] [] (fun x u => x = r ∧ u = (wX cB cI cJ cZ cS a b b2 c0 rg sl s')) := by
  intro p e s0 m below meth c A E H locs ls hP hD hS hl
  obtain ⟨C, hr, hlocks, hA, hK, hN⟩ := id E
  obtain ⟨hx, hb, hml, hown, hts⟩ := id C
  unfold kX10_wavesWithNothing_4 at hB
  refine lv_iload_n hx hb dX10_wavesWithNothing_4 rfl (lv_at hl 2 rfl) ?_
  refine lv_aload_n hx hb dX10_wavesWithNothing_5 rfl (lv_at hl 0 rfl) ?_
  refine q_get (v := .ref (a 2)) C inX10_wavesWithNothing_X10 hK hP 0 rfl rfl 1 (by decide) rfl LX10_wavesWithNothing_19 rfl dX10_wavesWithNothing_6 ?_
  refine q_getN (v := .int (s.k.v 1)) C hN inX10_wavesWithNothing_X5 hK hP 19 rfl rfl 6 (by decide) rfl nwF_X10_167 rfl dX10_wavesWithNothing_9 ?_
  refine lv_icmp_ge (tgt := 42) hx hb dX10_wavesWithNothing_12 (by decide) (fun c1 => ?_) (fun c1 => ?_)
  · have hB := if_p hB c1
    refine lv_iload_n hx hb dX10_wavesWithNothing_42 rfl (lv_at hl 1 rfl) ?_
    exact q_iret C hr hlocks hK hP hD hS (Nat.le_of_ble_eq_true rfl) (Nat.le_of_ble_eq_true rfl) dX10_wavesWithNothing_43 (by cases hB; exact ⟨rfl, rfl⟩)
  · have hB := if_n hB c1
    refine lv_aload_n hx hb dX10_wavesWithNothing_15 rfl (lv_at hl 0 rfl) ?_
    refine q_get (v := .ref (a 35)) C inX10_wavesWithNothing_X10 hK hP 0 rfl rfl 6 (by decide) rfl LX10_wavesWithNothing_54 rfl dX10_wavesWithNothing_16 ?_
    refine lv_aload_n hx hb dX10_wavesWithNothing_19 rfl (lv_at hl 0 rfl) ?_
    refine q_get (v := .ref (b 0)) C inX10_wavesWithNothing_X10 hK hP 0 rfl rfl 3 (by decide) rfl LX10_wavesWithNothing_35 rfl dX10_wavesWithNothing_20 ?_
    refine lv_iload_n hx hb dX10_wavesWithNothing_23 rfl (lv_at hl 2 rfl) ?_
    obtain ⟨q_, s2, hc, hB⟩ := bindI_inv hB
    refine q_goi (wr := ((wG cZ cS a b b2 c0 rg sl s.g) ++ (wD cI b2 s.t))) (va_runVN (As := [.ref (b 0), .int x2]) (rest := []) C (ckX0_mayBe hc _) ⟨va_cnB 2 hts gX10_wavesWithNothing_X0_mayBe_n111 rfl rfl rfl (hN _ nwM_X10_111 rfl) (hts _ LX10_wavesWithNothing_I_X0) (by decide +kernel) ⟨Nat.le_of_ble_eq_true rfl, Nat.le_of_ble_eq_true rfl⟩, hts _ LX10_wavesWithNothing_N_X0_mayBe, hts _ LX10_wavesWithNothing_E_X0_mayBe⟩ (q_preV hK hP (ci := 0) (q0 := 52) rfl rfl rfl (q_pre hN hK hP hD [11, 12, 13, 14, 15, 16, 17, 18, 19, 20, 21, 22, 23, 24, 25, 26, 27, 28, 29, 30, 31, 32, 33, 34, 35, 36, 37, 38, 39, 40, 41, 42, 43, 44, 45, 46, 47, 48, 49, 50, 51, 52, 53, 54, 55, 56, 57, 58, 59, 60, 61, 62, 63] (by first | exact zqs_2X | rfl) zqn_2)) rfl rfl hl.1 rfl (lv_room (Nat.le_of_ble_eq_true rfl)) dX10_wavesWithNothing_24 ⟨Nat.le_of_ble_eq_true rfl, Nat.le_of_ble_eq_true rfl⟩) hP hD hS hA [11, 12, 13, 14, 15, 16, 17, 18, 19, 20, 21, 22, 23, 24, 25, 26, 27, 28, 29, 30, 31, 32, 33, 34, 35, 36, 37, 38, 39, 40, 41, 42, 43, 44, 45, 46, 47, 48, 49, 50, 51, 52, 53, 54, 55, 56, 57, 58, 59, 60, 61, 62, 63] [0, 1, 2, 3, 4, 5, 6, 7, 8, 9, 10] (by first | exact zqs_2X | rfl) (by first | exact zqs_3X | rfl) zqn_3 zqd_1 (fun r3 w1 H locs hw hP hD hS => ?_)
    obtain ⟨hq_, hw⟩ := hw; subst hw; subst hq_
    obtain ⟨s4, hs5, hB⟩ := letS_inv hB
    have hP : va_P (dC, dI) vwCl (wX cB cI cJ cZ cS a b b2 c0 rg sl s4) H := by subst hs5; exact hP
    have hD : va_D A (wX cB cI cJ cZ cS a b b2 c0 rg sl s4) := by subst hs5; exact hD
    refine lv_if_ne (tgt := 36) hx hb dX10_wavesWithNothing_27 (by decide) (fun c6 => ?_) (fun c6 => ?_)
    · have hB := if_n hB c6
      exact bkX10_wavesWithNothing_36 (hk4) _ _ _ hB p e s0 m below meth c A E H locs ls hP hD hS (lv_sub hl [0, 1, 2] rfl)
    · have hB := if_p hB c6
      refine lv_iload_n hx hb dX10_wavesWithNothing_30 rfl (lv_at hl 1 rfl) ?_
      refine lv_iconst (v := 1) hx hb dX10_wavesWithNothing_31 (by decide) ?_
      refine lv_iload_n hx hb dX10_wavesWithNothing_32 rfl (lv_at hl 2 rfl) ?_
      refine lv_ishl hx hb dX10_wavesWithNothing_33 ?_
      refine lv_ior hx hb dX10_wavesWithNothing_34 ?_
      refine lv_istore_n (lv' := [(1, .int (x1 ||| (1 <<< (x2 &&& 31)))), (0, .ref (c0 0)), (2, .int x2)]) hx hb dX10_wavesWithNothing_35 rfl hl (by decide) rfl (fun ls hl => ?_)
      exact bkX10_wavesWithNothing_36 (hk4) _ _ _ hB p e s0 m below meth c A E H locs ls hP hD hS (lv_sub hl [1, 0, 2] rfl)
theorem bkX10_wavesWithNothing_4L {l : Launch} {dC : Nat → ClassId} {dI : Nat → Nat → Nat} {cB cI cJ cZ cS : ClassId} {a b b2 c0 : Nat → Nat} {rg sl : Nat → Option Nat} {as : List Value} {r : Int32} {s' : XS} : ∀ (n : Nat) (s : XS) (x1 : Int32) (x2 : Int32), kX10_wavesWithNothing_4L n s x1 x2 = some (r, s') → BlkI l yX10_wavesWithNothing wsX10_wavesWithNothing ({ frames := 1, cells := 0, slots := 0, locals := 22 }) cX10_wavesWithNothing 3 (some .int) (dC, dI) (tysA cB cI cJ cZ cS) as 4 (wX cB cI cJ cZ cS a b b2 c0 rg sl s) [(0, .ref (c0 0)), (1, .int x1), (2, .int x2)] [] (fun x u => x = r ∧ u = (wX cB cI cJ cZ cS a b b2 c0 rg sl s')) := by
  intro n
  induction n with
  | zero => intro s x1 x2 hB; exact none_ne hB
  | succ n ih => intro s x1 x2 hB; exact bkX10_wavesWithNothing_4 ih _ _ _ hB
set_option maxHeartbeats 4000000 in
set_option maxRecDepth 100000 in
theorem bkX10_wavesWithNothing {l : Launch} {dC : Nat → ClassId} {dI : Nat → Nat → Nat} {cB cI cJ cZ cS : ClassId} {a b b2 c0 : Nat → Nat} {rg sl : Nat → Option Nat} {as : List Value} {r : Int32} {s' : XS} (s : XS) (hB : kX10_wavesWithNothing s = some (r, s')) : BlkI l yX10_wavesWithNothing wsX10_wavesWithNothing ({ frames := 1, cells := 0, slots := 0, locals := 22 }) cX10_wavesWithNothing 3 (some .int) (dC, dI) (tysA cB cI cJ cZ cS) as 0 (wX cB cI cJ cZ cS a b b2 c0 rg sl s) [(0, .ref (c0 0))] [] (fun x u => x = r ∧ u = (wX cB cI cJ cZ cS a b b2 c0 rg sl s')) := by
  intro p e s0 m below meth c A E H locs ls hP hD hS hl
  obtain ⟨C, hr, hlocks, hA, hK, hN⟩ := id E
  obtain ⟨hx, hb, hml, hown, hts⟩ := id C
  unfold kX10_wavesWithNothing at hB
  refine lv_iconst (v := 0) hx hb dX10_wavesWithNothing_0 (by decide) ?_
  refine lv_istore_n (lv' := [(1, .int 0), (0, .ref (c0 0))]) hx hb dX10_wavesWithNothing_1 rfl hl (by decide) rfl (fun ls hl => ?_)
  refine lv_iconst (v := 0) hx hb dX10_wavesWithNothing_2 (by decide) ?_
  refine lv_istore_n (lv' := [(2, .int 0), (1, .int 0), (0, .ref (c0 0))]) hx hb dX10_wavesWithNothing_3 rfl hl (by decide) rfl (fun ls hl => ?_)
  exact bkX10_wavesWithNothing_4L fu _ _ _ hB p e s0 m below meth c A E H locs ls hP hD hS (lv_sub hl [2, 1, 0] rfl)
theorem ckX10_wavesWithNothing {l : Launch} {dC : Nat → ClassId} {dI : Nat → Nat → Nat} {cB cI cJ cZ cS : ClassId} {a b b2 c0 : Nat → Nat} {rg sl : Nat → Option Nat} {r : Int32} {s' : XS} {s : XS} (hB : kX10_wavesWithNothing s = some (r, s')) : CI l yX10_wavesWithNothing wsX10_wavesWithNothing ({ frames := 1, cells := 0, slots := 0, locals := 22 }) (dC, dI) (tysA cB cI cJ cZ cS) (wX cB cI cJ cZ cS a b b2 c0 rg sl s) [.ref (c0 0)] (fun x u => x = r ∧ u = (wX cB cI cJ cZ cS a b b2 c0 rg sl s')) :=
  CI_of (cc := cX10_wavesWithNothing) (maxL := 3) (ret := (some .int)) (by decide) rfl (Nat.le_of_ble_eq_true rfl) (bkX10_wavesWithNothing _ hB)
set_option maxHeartbeats 4000000 in
set_option maxRecDepth 100000 in
theorem bkX10_isThing {l : Launch} {dC : Nat → ClassId} {dI : Nat → Nat → Nat} {cB cI cJ cZ cS : ClassId} {as : List Value} {r : Int32} (x0 : Int32) (hB : kX10_isThing x0 = some r) : BlkI l yX10_isThing wsX10_isThing ({ frames := 0, cells := 0, slots := 0, locals := 0 }) cX10_isThing 1 (some .boolean) (dC, dI) (tysA cB cI cJ cZ cS) as 0 [] [(0, .int x0)] [] (fun x _ => x = r) := by
  intro p e s0 m below meth c A E H locs ls hP hD hS hl
  obtain ⟨C, hr, hlocks, hA, hK, hN⟩ := id E
  obtain ⟨hx, hb, hml, hown, hts⟩ := id C
  unfold kX10_isThing at hB
  refine lv_iload_n hx hb dX10_isThing_0 rfl (lv_at hl 0 rfl) ?_
  refine lv_if_lt (tgt := 14) hx hb dX10_isThing_1 (by decide) (fun c1 => ?_) (fun c1 => ?_)
  · have hB := if_p hB c1
    refine lv_iconst (v := 0) hx hb dX10_isThing_14 (by decide) ?_
    exact q_zret C hr hlocks (Or.inl rfl) hK hP hD hS (Nat.le_of_ble_eq_true rfl) (Nat.le_of_ble_eq_true rfl) dX10_isThing_15 (by cases hB; rfl)
  · have hB := if_n hB c1
    refine lv_iload_n hx hb dX10_isThing_4 rfl (lv_at hl 0 rfl) ?_
    refine lv_bipush (v := 6) hx hb dX10_isThing_5 (by decide) ?_
    refine lv_icmp_ge (tgt := 14) hx hb dX10_isThing_7 (by decide) (fun c2 => ?_) (fun c2 => ?_)
    · have hB := if_p hB c2
      refine lv_iconst (v := 0) hx hb dX10_isThing_14 (by decide) ?_
      exact q_zret C hr hlocks (Or.inl rfl) hK hP hD hS (Nat.le_of_ble_eq_true rfl) (Nat.le_of_ble_eq_true rfl) dX10_isThing_15 (by cases hB; rfl)
    · have hB := if_n hB c2
      refine lv_iconst (v := 1) hx hb dX10_isThing_10 (by decide) ?_
      refine lv_goto (tgt := 15) hx hb dX10_isThing_11 (by decide) ?_
      exact q_zret C hr hlocks (Or.inr rfl) hK hP hD hS (Nat.le_of_ble_eq_true rfl) (Nat.le_of_ble_eq_true rfl) dX10_isThing_15 (by cases hB; rfl)
theorem ckX10_isThing {l : Launch} {dC : Nat → ClassId} {dI : Nat → Nat → Nat} {cB cI cJ cZ cS : ClassId} {r : Int32} {x0 : Int32} (hB : kX10_isThing x0 = some r) : CI l yX10_isThing wsX10_isThing ({ frames := 0, cells := 0, slots := 0, locals := 0 }) (dC, dI) (tysA cB cI cJ cZ cS) [] [.int x0] (fun x _ => x = r) :=
  CI_of (cc := cX10_isThing) (maxL := 1) (ret := (some .boolean)) (by decide) rfl (Nat.le_of_ble_eq_true rfl) (bkX10_isThing _ hB)
set_option maxHeartbeats 4000000 in
set_option maxRecDepth 100000 in
theorem bkX10_has {l : Launch} {dC : Nat → ClassId} {dI : Nat → Nat → Nat} {cB cI cJ cZ cS : ClassId} {as : List Value} {r : Int32} (x0 : Int32) (x1 : Int32) (hB : kX10_has x0 x1 = some r) : BlkI l yX10_has wsX10_has ({ frames := 0, cells := 0, slots := 0, locals := 0 }) cX10_has 2 (some .boolean) (dC, dI) (tysA cB cI cJ cZ cS) as 0 [] [(0, .int x0), (1, .int x1)] [] (fun x _ => x = r) := by
  intro p e s0 m below meth c A E H locs ls hP hD hS hl
  obtain ⟨C, hr, hlocks, hA, hK, hN⟩ := id E
  obtain ⟨hx, hb, hml, hown, hts⟩ := id C
  unfold kX10_has at hB
  refine lv_iload_n hx hb dX10_has_0 rfl (lv_at hl 0 rfl) ?_
  refine lv_iload_n hx hb dX10_has_1 rfl (lv_at hl 1 rfl) ?_
  refine lv_ishr hx hb dX10_has_2 ?_
  refine lv_iconst (v := 1) hx hb dX10_has_3 (by decide) ?_
  refine lv_iand hx hb dX10_has_4 ?_
  refine lv_iconst (v := 1) hx hb dX10_has_5 (by decide) ?_
  refine lv_icmp_ne (tgt := 13) hx hb dX10_has_6 (by decide) (fun c1 => ?_) (fun c1 => ?_)
  · have hB := if_n hB c1
    refine lv_iconst (v := 0) hx hb dX10_has_13 (by decide) ?_
    exact q_zret C hr hlocks (Or.inl rfl) hK hP hD hS (Nat.le_of_ble_eq_true rfl) (Nat.le_of_ble_eq_true rfl) dX10_has_14 (by cases hB; rfl)
  · have hB := if_p hB c1
    refine lv_iconst (v := 1) hx hb dX10_has_9 (by decide) ?_
    refine lv_goto (tgt := 14) hx hb dX10_has_10 (by decide) ?_
    exact q_zret C hr hlocks (Or.inr rfl) hK hP hD hS (Nat.le_of_ble_eq_true rfl) (Nat.le_of_ble_eq_true rfl) dX10_has_14 (by cases hB; rfl)
theorem ckX10_has {l : Launch} {dC : Nat → ClassId} {dI : Nat → Nat → Nat} {cB cI cJ cZ cS : ClassId} {r : Int32} {x0 : Int32} {x1 : Int32} (hB : kX10_has x0 x1 = some r) : CI l yX10_has wsX10_has ({ frames := 0, cells := 0, slots := 0, locals := 0 }) (dC, dI) (tysA cB cI cJ cZ cS) [] [.int x0, .int x1] (fun x _ => x = r) :=
  CI_of (cc := cX10_has) (maxL := 2) (ret := (some .boolean)) (by decide) rfl (Nat.le_of_ble_eq_true rfl) (bkX10_has _ _ hB)
set_option maxHeartbeats 4000000 in
set_option maxRecDepth 100000 in
theorem bkX10_sumOf_5_4 {l : Launch} {dC : Nat → ClassId} {dI : Nat → Nat → Nat} {cB cI cJ cZ cS : ClassId} {q0 : Nat} {as : List Value} {r : Int32} {s' : (Nat → Int32)} {k4 : (Nat → Int32) → Int32 → Int32 → Option (Int32 × (Nat → Int32))} (hk4 : ∀ (s : (Nat → Int32)) (x1 : Int32) (x2 : Int32), k4 s x1 x2 = some (r, s') → BlkI l yX10_sumOf wsX10_sumOf ({ frames := 0, cells := 0, slots := 0, locals := 0 }) cX10_sumOf 3 (some .int) (dC, dI) (tysA cB cI cJ cZ cS) as 4 [(q0, .inl (cI, 5, .inl s))] [(0, .ref q0), (1, .int x1), (2, .int x2)] [] (fun x u => x = r ∧ u = [(q0, .inl (cI, 5, .inl s'))])) (s : (Nat → Int32)) (x1 : Int32) (x2 : Int32) (hB : kX10_sumOf_5_4 k4 s x1 x2 = some (r, s')) : BlkI l yX10_sumOf wsX10_sumOf ({ frames := 0, cells := 0, slots := 0, locals := 0 }) cX10_sumOf 3 (some .int) (dC, dI) (tysA cB cI cJ cZ cS) as 4 [(q0, .inl (cI, 5, .inl s))] [(0, .ref q0), (1, .int x1), (2, .int x2)] [] (fun x u => x = r ∧ u = [(q0, .inl (cI, 5, .inl s'))]) := by
  intro p e s0 m below meth c A E H locs ls hP hD hS hl
  obtain ⟨C, hr, hlocks, hA, hK, hN⟩ := id E
  obtain ⟨hx, hb, hml, hown, hts⟩ := id C
  unfold kX10_sumOf_5_4 at hB
  refine lv_iload_n hx hb dX10_sumOf_4 rfl (lv_at hl 2 rfl) ?_
  refine lv_aload_n hx hb dX10_sumOf_5 rfl (lv_at hl 0 rfl) ?_
  refine q_alen (v := 5) C hK hP 0 1 rfl rfl dX10_sumOf_6 rfl ?_
  refine lv_icmp_ge (tgt := 22) hx hb dX10_sumOf_7 (by decide) (fun c1 => ?_) (fun c1 => ?_)
  · have hB := if_p hB c1
    refine lv_iload_n hx hb dX10_sumOf_22 rfl (lv_at hl 1 rfl) ?_
    exact q_iret C hr hlocks hK hP hD hS (Nat.le_of_ble_eq_true rfl) (Nat.le_of_ble_eq_true rfl) dX10_sumOf_23 (by cases hB; exact ⟨rfl, rfl⟩)
  · have hB := if_n hB c1
    refine lv_iload_n hx hb dX10_sumOf_10 rfl (lv_at hl 1 rfl) ?_
    refine lv_aload_n hx hb dX10_sumOf_11 rfl (lv_at hl 0 rfl) ?_
    refine lv_iload_n hx hb dX10_sumOf_12 rfl (lv_at hl 2 rfl) ?_
    obtain ⟨g2, hB⟩ := guard_inv hB
    refine q_iald (x := (s (Int32.toNatClampNeg x2))) C hK hP 0 1 rfl rfl (vpb_in g2) dX10_sumOf_13 rfl ?_
    refine lv_iadd hx hb dX10_sumOf_14 ?_
    refine lv_istore_n (lv' := [(1, .int (x1 + (s (Int32.toNatClampNeg x2)))), (0, .ref q0), (2, .int x2)]) hx hb dX10_sumOf_15 rfl hl (by decide) rfl (fun ls hl => ?_)
    refine lv_iinc (v := (x2 + 1)) (lv' := [(2, .int (x2 + 1)), (1, .int (x1 + (s (Int32.toNatClampNeg x2)))), (0, .ref q0)]) hx hb dX10_sumOf_16 hl (k := 2) rfl (rfl) (by decide) rfl (fun ls hl => ?_)
    refine lv_goto (tgt := 4) hx hb dX10_sumOf_19 (by decide) ?_
    exact hk4 _ _ _ hB p e s0 m below meth c A E H locs ls hP hD hS (lv_sub hl [2, 1, 0] rfl)
theorem bkX10_sumOf_5_4L {l : Launch} {dC : Nat → ClassId} {dI : Nat → Nat → Nat} {cB cI cJ cZ cS : ClassId} {q0 : Nat} {as : List Value} {r : Int32} {s' : (Nat → Int32)} : ∀ (n : Nat) (s : (Nat → Int32)) (x1 : Int32) (x2 : Int32), kX10_sumOf_5_4L n s x1 x2 = some (r, s') → BlkI l yX10_sumOf wsX10_sumOf ({ frames := 0, cells := 0, slots := 0, locals := 0 }) cX10_sumOf 3 (some .int) (dC, dI) (tysA cB cI cJ cZ cS) as 4 [(q0, .inl (cI, 5, .inl s))] [(0, .ref q0), (1, .int x1), (2, .int x2)] [] (fun x u => x = r ∧ u = [(q0, .inl (cI, 5, .inl s'))]) := by
  intro n
  induction n with
  | zero => intro s x1 x2 hB; exact none_ne hB
  | succ n ih => intro s x1 x2 hB; exact bkX10_sumOf_5_4 ih _ _ _ hB
set_option maxHeartbeats 4000000 in
set_option maxRecDepth 100000 in
theorem bkX10_sumOf_5 {l : Launch} {dC : Nat → ClassId} {dI : Nat → Nat → Nat} {cB cI cJ cZ cS : ClassId} {q0 : Nat} {as : List Value} {r : Int32} {s' : (Nat → Int32)} (s : (Nat → Int32)) (hB : kX10_sumOf_5 s = some (r, s')) : BlkI l yX10_sumOf wsX10_sumOf ({ frames := 0, cells := 0, slots := 0, locals := 0 }) cX10_sumOf 3 (some .int) (dC, dI) (tysA cB cI cJ cZ cS) as 0 [(q0, .inl (cI, 5, .inl s))] [(0, .ref q0)] [] (fun x u => x = r ∧ u = [(q0, .inl (cI, 5, .inl s'))]) := by
  intro p e s0 m below meth c A E H locs ls hP hD hS hl
  obtain ⟨C, hr, hlocks, hA, hK, hN⟩ := id E
  obtain ⟨hx, hb, hml, hown, hts⟩ := id C
  unfold kX10_sumOf_5 at hB
  refine lv_iconst (v := 0) hx hb dX10_sumOf_0 (by decide) ?_
  refine lv_istore_n (lv' := [(1, .int 0), (0, .ref q0)]) hx hb dX10_sumOf_1 rfl hl (by decide) rfl (fun ls hl => ?_)
  refine lv_iconst (v := 0) hx hb dX10_sumOf_2 (by decide) ?_
  refine lv_istore_n (lv' := [(2, .int 0), (1, .int 0), (0, .ref q0)]) hx hb dX10_sumOf_3 rfl hl (by decide) rfl (fun ls hl => ?_)
  exact bkX10_sumOf_5_4L fu _ _ _ hB p e s0 m below meth c A E H locs ls hP hD hS (lv_sub hl [2, 1, 0] rfl)
theorem ckX10_sumOf_5 {l : Launch} {dC : Nat → ClassId} {dI : Nat → Nat → Nat} {cB cI cJ cZ cS : ClassId} {q0 : Nat} {r : Int32} {s' : (Nat → Int32)} {s : (Nat → Int32)} (hB : kX10_sumOf_5 s = some (r, s')) : CI l yX10_sumOf wsX10_sumOf ({ frames := 0, cells := 0, slots := 0, locals := 0 }) (dC, dI) (tysA cB cI cJ cZ cS) [(q0, .inl (cI, 5, .inl s))] [.ref q0] (fun x u => x = r ∧ u = [(q0, .inl (cI, 5, .inl s'))]) :=
  CI_of (cc := cX10_sumOf) (maxL := 3) (ret := (some .int)) (by decide) rfl (Nat.le_of_ble_eq_true rfl) (bkX10_sumOf_5 _ hB)
end
