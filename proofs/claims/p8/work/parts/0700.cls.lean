theorem dX0_mayBe_0 : decode cX0_mayBe 0 = .ok (.aload_n 1, 1) := dc1_43 (by decide +kernel)
theorem dX0_mayBe_1 : decode cX0_mayBe 1 = .ok (.getfield 28, 3) := dcw_180 (by decide +kernel)
theorem dX0_mayBe_4 : decode cX0_mayBe 4 = .ok (.iload_n 2, 1) := dc1_28 (by decide +kernel)
theorem dX0_mayBe_5 : decode cX0_mayBe 5 = .ok (.iaload, 1) := dc1_46 (by decide +kernel)
theorem dX0_mayBe_6 : decode cX0_mayBe 6 = .ok (.iconst (-1), 1) := dc1_2 (by decide +kernel)
theorem dX0_mayBe_7 : decode cX0_mayBe 7 = .ok (.if_icmp .eq 12, 3) := dcs_159 (n := 12) (by decide +kernel)
theorem dX0_mayBe_10 : decode cX0_mayBe 10 = .ok (.iconst 1, 1) := dc1_4 (by decide +kernel)
theorem dX0_mayBe_11 : decode cX0_mayBe 11 = .ok (.aload_n 1, 1) := dc1_43 (by decide +kernel)
theorem dX0_mayBe_12 : decode cX0_mayBe 12 = .ok (.getfield 28, 3) := dcw_180 (by decide +kernel)
theorem dX0_mayBe_15 : decode cX0_mayBe 15 = .ok (.iload_n 2, 1) := dc1_28 (by decide +kernel)
theorem dX0_mayBe_16 : decode cX0_mayBe 16 = .ok (.iaload, 1) := dc1_46 (by decide +kernel)
theorem dX0_mayBe_17 : decode cX0_mayBe 17 = .ok (.ishl, 1) := dc1_120 (by decide +kernel)
theorem dX0_mayBe_18 : decode cX0_mayBe 18 = .ok (.ireturn, 1) := dc1_172 (by decide +kernel)
theorem dX0_mayBe_19 : decode cX0_mayBe 19 = .ok (.aload_n 0, 1) := dc1_42 (by decide +kernel)
theorem dX0_mayBe_20 : decode cX0_mayBe 20 = .ok (.getfield 9, 3) := dcw_180 (by decide +kernel)
theorem dX0_mayBe_23 : decode cX0_mayBe 23 = .ok (.getfield 33, 3) := dcw_180 (by decide +kernel)
theorem dX0_mayBe_26 : decode cX0_mayBe 26 = .ok (.iload_n 2, 1) := dc1_28 (by decide +kernel)
theorem dX0_mayBe_27 : decode cX0_mayBe 27 = .ok (.iaload, 1) := dc1_46 (by decide +kernel)
theorem dX0_mayBe_28 : decode cX0_mayBe 28 = .ok (.aload_n 1, 1) := dc1_43 (by decide +kernel)
theorem dX0_mayBe_29 : decode cX0_mayBe 29 = .ok (.getfield 36, 3) := dcw_180 (by decide +kernel)
theorem dX0_mayBe_32 : decode cX0_mayBe 32 = .ok (.iload_n 2, 1) := dc1_28 (by decide +kernel)
theorem dX0_mayBe_33 : decode cX0_mayBe 33 = .ok (.iaload, 1) := dc1_46 (by decide +kernel)
theorem dX0_mayBe_34 : decode cX0_mayBe 34 = .ok (.iconst (-1), 1) := dc1_2 (by decide +kernel)
theorem dX0_mayBe_35 : decode cX0_mayBe 35 = .ok (.ixor, 1) := dc1_130 (by decide +kernel)
theorem dX0_mayBe_36 : decode cX0_mayBe 36 = .ok (.iand, 1) := dc1_126 (by decide +kernel)
theorem dX0_mayBe_37 : decode cX0_mayBe 37 = .ok (.ireturn, 1) := dc1_172 (by decide +kernel)
theorem dX0_setParty_0 : decode cX0_setParty 0 = .ok (.aload_n 0, 1) := dc1_42 (by decide +kernel)
theorem dX0_setParty_1 : decode cX0_setParty 1 = .ok (.getfield 27, 3) := dcw_180 (by decide +kernel)
theorem dX0_setParty_4 : decode cX0_setParty 4 = .ok (.iconst 2, 1) := dc1_5 (by decide +kernel)
theorem dX0_setParty_5 : decode cX0_setParty 5 = .ok (.aload_n 0, 1) := dc1_42 (by decide +kernel)
theorem dX0_setParty_6 : decode cX0_setParty 6 = .ok (.getfield 9, 3) := dcw_180 (by decide +kernel)
theorem dX0_setParty_9 : decode cX0_setParty 9 = .ok (.getfield 62, 3) := dcw_180 (by decide +kernel)
theorem dX0_setParty_12 : decode cX0_setParty 12 = .ok (.iload_n 2, 1) := dc1_28 (by decide +kernel)
theorem dX0_setParty_13 : decode cX0_setParty 13 = .ok (.iaload, 1) := dc1_46 (by decide +kernel)
theorem dX0_setParty_14 : decode cX0_setParty 14 = .ok (.iastore, 1) := dc1_79 (by decide +kernel)
theorem dX0_setParty_15 : decode cX0_setParty 15 = .ok (.aload_n 0, 1) := dc1_42 (by decide +kernel)
theorem dX0_setParty_16 : decode cX0_setParty 16 = .ok (.getfield 27, 3) := dcw_180 (by decide +kernel)
theorem dX0_setParty_19 : decode cX0_setParty 19 = .ok (.iconst 3, 1) := dc1_6 (by decide +kernel)
theorem dX0_setParty_20 : decode cX0_setParty 20 = .ok (.aload_n 0, 1) := dc1_42 (by decide +kernel)
theorem dX0_setParty_21 : decode cX0_setParty 21 = .ok (.getfield 9, 3) := dcw_180 (by decide +kernel)
theorem dX0_setParty_24 : decode cX0_setParty 24 = .ok (.getfield 65, 3) := dcw_180 (by decide +kernel)
theorem dX0_setParty_27 : decode cX0_setParty 27 = .ok (.iload_n 2, 1) := dc1_28 (by decide +kernel)
theorem dX0_setParty_28 : decode cX0_setParty 28 = .ok (.iaload, 1) := dc1_46 (by decide +kernel)
theorem dX0_setParty_29 : decode cX0_setParty 29 = .ok (.iastore, 1) := dc1_79 (by decide +kernel)
theorem dX0_setParty_30 : decode cX0_setParty 30 = .ok (.aload_n 0, 1) := dc1_42 (by decide +kernel)
theorem dX0_setParty_31 : decode cX0_setParty 31 = .ok (.getfield 27, 3) := dcw_180 (by decide +kernel)
theorem dX0_setParty_34 : decode cX0_setParty 34 = .ok (.bipush 6, 2) := dcb_16 (n := 6) (by decide +kernel)
theorem dX0_setParty_36 : decode cX0_setParty 36 = .ok (.iload_n 2, 1) := dc1_28 (by decide +kernel)
theorem dX0_setParty_37 : decode cX0_setParty 37 = .ok (.iastore, 1) := dc1_79 (by decide +kernel)
theorem dX0_setParty_38 : decode cX0_setParty 38 = .ok (.aload_n 0, 1) := dc1_42 (by decide +kernel)
theorem dX0_setParty_39 : decode cX0_setParty 39 = .ok (.getfield 27, 3) := dcw_180 (by decide +kernel)
theorem dX0_setParty_42 : decode cX0_setParty 42 = .ok (.bipush 8, 2) := dcb_16 (n := 8) (by decide +kernel)
theorem dX0_setParty_44 : decode cX0_setParty 44 = .ok (.aload_n 1, 1) := dc1_43 (by decide +kernel)
theorem dX0_setParty_45 : decode cX0_setParty 45 = .ok (.getfield 68, 3) := dcw_180 (by decide +kernel)
theorem dX0_setParty_48 : decode cX0_setParty 48 = .ok (.iload_n 2, 1) := dc1_28 (by decide +kernel)
theorem dX0_setParty_49 : decode cX0_setParty 49 = .ok (.iaload, 1) := dc1_46 (by decide +kernel)
theorem dX0_setParty_50 : decode cX0_setParty 50 = .ok (.iastore, 1) := dc1_79 (by decide +kernel)
theorem dX0_setParty_51 : decode cX0_setParty 51 = .ok (.return_, 1) := dc1_177 (by decide +kernel)
theorem dX1_copyFrom_0 : decode cX1_copyFrom 0 = .ok (.aload_n 1, 1) := dc1_43 (by decide +kernel)
theorem dX1_copyFrom_1 : decode cX1_copyFrom 1 = .ok (.getfield 15, 3) := dcw_180 (by decide +kernel)
theorem dX1_copyFrom_4 : decode cX1_copyFrom 4 = .ok (.iconst 0, 1) := dc1_3 (by decide +kernel)
theorem dX1_copyFrom_5 : decode cX1_copyFrom 5 = .ok (.aload_n 0, 1) := dc1_42 (by decide +kernel)
theorem dX1_copyFrom_6 : decode cX1_copyFrom 6 = .ok (.getfield 15, 3) := dcw_180 (by decide +kernel)
theorem dX1_copyFrom_9 : decode cX1_copyFrom 9 = .ok (.iconst 0, 1) := dc1_3 (by decide +kernel)
theorem dX1_copyFrom_10 : decode cX1_copyFrom 10 = .ok (.sipush 404, 3) := dcs_17 (n := 404) (by decide +kernel)
theorem dX1_copyFrom_13 : decode cX1_copyFrom 13 = .ok (.invokestatic 51, 3) := dcw_184 (by decide +kernel)
theorem dX1_copyFrom_16 : decode cX1_copyFrom 16 = .ok (.aload_n 1, 1) := dc1_43 (by decide +kernel)
theorem dX1_copyFrom_17 : decode cX1_copyFrom 17 = .ok (.getfield 19, 3) := dcw_180 (by decide +kernel)
theorem dX1_copyFrom_20 : decode cX1_copyFrom 20 = .ok (.iconst 0, 1) := dc1_3 (by decide +kernel)
theorem dX1_copyFrom_21 : decode cX1_copyFrom 21 = .ok (.aload_n 0, 1) := dc1_42 (by decide +kernel)
theorem dX1_copyFrom_22 : decode cX1_copyFrom 22 = .ok (.getfield 19, 3) := dcw_180 (by decide +kernel)
theorem dX1_copyFrom_25 : decode cX1_copyFrom 25 = .ok (.iconst 0, 1) := dc1_3 (by decide +kernel)
theorem dX1_copyFrom_26 : decode cX1_copyFrom 26 = .ok (.bipush 52, 2) := dcb_16 (n := 52) (by decide +kernel)
theorem dX1_copyFrom_28 : decode cX1_copyFrom 28 = .ok (.invokestatic 51, 3) := dcw_184 (by decide +kernel)
theorem dX1_copyFrom_31 : decode cX1_copyFrom 31 = .ok (.aload_n 1, 1) := dc1_43 (by decide +kernel)
theorem dX1_copyFrom_32 : decode cX1_copyFrom 32 = .ok (.getfield 22, 3) := dcw_180 (by decide +kernel)
theorem dX1_copyFrom_35 : decode cX1_copyFrom 35 = .ok (.iconst 0, 1) := dc1_3 (by decide +kernel)
theorem dX1_copyFrom_36 : decode cX1_copyFrom 36 = .ok (.aload_n 0, 1) := dc1_42 (by decide +kernel)
theorem dX1_copyFrom_37 : decode cX1_copyFrom 37 = .ok (.getfield 22, 3) := dcw_180 (by decide +kernel)
theorem dX1_copyFrom_40 : decode cX1_copyFrom 40 = .ok (.iconst 0, 1) := dc1_3 (by decide +kernel)
theorem dX1_copyFrom_41 : decode cX1_copyFrom 41 = .ok (.iconst 4, 1) := dc1_7 (by decide +kernel)
theorem dX1_copyFrom_42 : decode cX1_copyFrom 42 = .ok (.invokestatic 51, 3) := dcw_184 (by decide +kernel)
theorem dX1_copyFrom_45 : decode cX1_copyFrom 45 = .ok (.aload_n 1, 1) := dc1_43 (by decide +kernel)
theorem dX1_copyFrom_46 : decode cX1_copyFrom 46 = .ok (.getfield 25, 3) := dcw_180 (by decide +kernel)
theorem dX1_copyFrom_49 : decode cX1_copyFrom 49 = .ok (.iconst 0, 1) := dc1_3 (by decide +kernel)
theorem dX1_copyFrom_50 : decode cX1_copyFrom 50 = .ok (.aload_n 0, 1) := dc1_42 (by decide +kernel)
theorem dX1_copyFrom_51 : decode cX1_copyFrom 51 = .ok (.getfield 25, 3) := dcw_180 (by decide +kernel)
theorem dX1_copyFrom_54 : decode cX1_copyFrom 54 = .ok (.iconst 0, 1) := dc1_3 (by decide +kernel)
theorem dX1_copyFrom_55 : decode cX1_copyFrom 55 = .ok (.iconst 4, 1) := dc1_7 (by decide +kernel)
theorem dX1_copyFrom_56 : decode cX1_copyFrom 56 = .ok (.invokestatic 51, 3) := dcw_184 (by decide +kernel)
theorem dX1_copyFrom_59 : decode cX1_copyFrom 59 = .ok (.aload_n 0, 1) := dc1_42 (by decide +kernel)
theorem dX1_copyFrom_60 : decode cX1_copyFrom 60 = .ok (.aload_n 1, 1) := dc1_43 (by decide +kernel)
theorem dX1_copyFrom_61 : decode cX1_copyFrom 61 = .ok (.getfield 34, 3) := dcw_180 (by decide +kernel)
theorem dX1_copyFrom_64 : decode cX1_copyFrom 64 = .ok (.putfield 34, 3) := dcw_181 (by decide +kernel)
theorem dX1_copyFrom_67 : decode cX1_copyFrom 67 = .ok (.return_, 1) := dc1_177 (by decide +kernel)
theorem dX1_begin_0 : decode cX1_begin 0 = .ok (.aload_n 0, 1) := dc1_42 (by decide +kernel)
theorem dX1_begin_1 : decode cX1_begin 1 = .ok (.iload_n 1, 1) := dc1_27 (by decide +kernel)
theorem dX1_begin_2 : decode cX1_begin 2 = .ok (.putfield 57, 3) := dcw_181 (by decide +kernel)
theorem dX1_begin_5 : decode cX1_begin 5 = .ok (.aload_n 0, 1) := dc1_42 (by decide +kernel)
theorem dX1_begin_6 : decode cX1_begin 6 = .ok (.getfield 22, 3) := dcw_180 (by decide +kernel)
theorem dX1_begin_9 : decode cX1_begin 9 = .ok (.iload_n 1, 1) := dc1_27 (by decide +kernel)
theorem dX1_begin_10 : decode cX1_begin 10 = .ok (.aload_n 0, 1) := dc1_42 (by decide +kernel)
theorem dX1_begin_11 : decode cX1_begin 11 = .ok (.getfield 34, 3) := dcw_180 (by decide +kernel)
theorem dX1_begin_14 : decode cX1_begin 14 = .ok (.iastore, 1) := dc1_79 (by decide +kernel)
theorem dX1_begin_15 : decode cX1_begin 15 = .ok (.aload_n 0, 1) := dc1_42 (by decide +kernel)
theorem dX1_begin_16 : decode cX1_begin 16 = .ok (.getfield 25, 3) := dcw_180 (by decide +kernel)
theorem dX1_begin_19 : decode cX1_begin 19 = .ok (.iload_n 1, 1) := dc1_27 (by decide +kernel)
theorem dX1_begin_20 : decode cX1_begin 20 = .ok (.iconst 0, 1) := dc1_3 (by decide +kernel)
theorem dX1_begin_21 : decode cX1_begin 21 = .ok (.iastore, 1) := dc1_79 (by decide +kernel)
theorem dX1_begin_22 : decode cX1_begin 22 = .ok (.return_, 1) := dc1_177 (by decide +kernel)
theorem dX1_endPart_0 : decode cX1_endPart 0 = .ok (.aload_n 0, 1) := dc1_42 (by decide +kernel)
theorem dX1_endPart_1 : decode cX1_endPart 1 = .ok (.getfield 25, 3) := dcw_180 (by decide +kernel)
theorem dX1_endPart_4 : decode cX1_endPart 4 = .ok (.aload_n 0, 1) := dc1_42 (by decide +kernel)
theorem dX1_endPart_5 : decode cX1_endPart 5 = .ok (.getfield 57, 3) := dcw_180 (by decide +kernel)
theorem dX1_endPart_8 : decode cX1_endPart 8 = .ok (.iaload, 1) := dc1_46 (by decide +kernel)
theorem dX1_endPart_9 : decode cX1_endPart 9 = .ok (.istore_n 1, 1) := dc1_60 (by decide +kernel)
theorem dX1_endPart_10 : decode cX1_endPart 10 = .ok (.iload_n 1, 1) := dc1_27 (by decide +kernel)
theorem dX1_endPart_11 : decode cX1_endPart 11 = .ok (.bipush 13, 2) := dcb_16 (n := 13) (by decide +kernel)
theorem dX1_endPart_13 : decode cX1_endPart 13 = .ok (.if_icmp .ge 33, 3) := dcs_162 (n := 33) (by decide +kernel)
theorem dX1_endPart_16 : decode cX1_endPart 16 = .ok (.aload_n 0, 1) := dc1_42 (by decide +kernel)
theorem dX1_endPart_17 : decode cX1_endPart 17 = .ok (.getfield 19, 3) := dcw_180 (by decide +kernel)
theorem dX1_endPart_20 : decode cX1_endPart 20 = .ok (.aload_n 0, 1) := dc1_42 (by decide +kernel)
theorem dX1_endPart_21 : decode cX1_endPart 21 = .ok (.getfield 57, 3) := dcw_180 (by decide +kernel)
theorem dX1_endPart_24 : decode cX1_endPart 24 = .ok (.bipush 13, 2) := dcb_16 (n := 13) (by decide +kernel)
theorem dX1_endPart_26 : decode cX1_endPart 26 = .ok (.imul, 1) := dc1_104 (by decide +kernel)
theorem dX1_endPart_27 : decode cX1_endPart 27 = .ok (.iload_n 1, 1) := dc1_27 (by decide +kernel)
theorem dX1_endPart_28 : decode cX1_endPart 28 = .ok (.iadd, 1) := dc1_96 (by decide +kernel)
theorem dX1_endPart_29 : decode cX1_endPart 29 = .ok (.aload_n 0, 1) := dc1_42 (by decide +kernel)
theorem dX1_endPart_30 : decode cX1_endPart 30 = .ok (.getfield 34, 3) := dcw_180 (by decide +kernel)
theorem dX1_endPart_33 : decode cX1_endPart 33 = .ok (.iastore, 1) := dc1_79 (by decide +kernel)
theorem dX1_endPart_34 : decode cX1_endPart 34 = .ok (.aload_n 0, 1) := dc1_42 (by decide +kernel)
theorem dX1_endPart_35 : decode cX1_endPart 35 = .ok (.getfield 25, 3) := dcw_180 (by decide +kernel)
theorem dX1_endPart_38 : decode cX1_endPart 38 = .ok (.aload_n 0, 1) := dc1_42 (by decide +kernel)
theorem dX1_endPart_39 : decode cX1_endPart 39 = .ok (.getfield 57, 3) := dcw_180 (by decide +kernel)
theorem dX1_endPart_42 : decode cX1_endPart 42 = .ok (.iload_n 1, 1) := dc1_27 (by decide +kernel)
theorem dX1_endPart_43 : decode cX1_endPart 43 = .ok (.iconst 1, 1) := dc1_4 (by decide +kernel)
theorem dX1_endPart_44 : decode cX1_endPart 44 = .ok (.iadd, 1) := dc1_96 (by decide +kernel)
theorem dX1_endPart_45 : decode cX1_endPart 45 = .ok (.iastore, 1) := dc1_79 (by decide +kernel)
theorem dX1_endPart_46 : decode cX1_endPart 46 = .ok (.return_, 1) := dc1_177 (by decide +kernel)
theorem dX1_put_0 : decode cX1_put 0 = .ok (.aload_n 0, 1) := dc1_42 (by decide +kernel)
theorem dX1_put_1 : decode cX1_put 1 = .ok (.getfield 34, 3) := dcw_180 (by decide +kernel)
theorem dX1_put_4 : decode cX1_put 4 = .ok (.sipush 404, 3) := dcs_17 (n := 404) (by decide +kernel)
theorem dX1_put_7 : decode cX1_put 7 = .ok (.if_icmp .ge 23, 3) := dcs_162 (n := 23) (by decide +kernel)
theorem dX1_put_10 : decode cX1_put 10 = .ok (.aload_n 0, 1) := dc1_42 (by decide +kernel)
theorem dX1_put_11 : decode cX1_put 11 = .ok (.getfield 15, 3) := dcw_180 (by decide +kernel)
theorem dX1_put_14 : decode cX1_put 14 = .ok (.aload_n 0, 1) := dc1_42 (by decide +kernel)
theorem dX1_put_15 : decode cX1_put 15 = .ok (.getfield 34, 3) := dcw_180 (by decide +kernel)
theorem dX1_put_18 : decode cX1_put 18 = .ok (.iload_n 1, 1) := dc1_27 (by decide +kernel)
theorem dX1_put_19 : decode cX1_put 19 = .ok (.iastore, 1) := dc1_79 (by decide +kernel)
theorem dX1_put_20 : decode cX1_put 20 = .ok (.aload_n 0, 1) := dc1_42 (by decide +kernel)
theorem dX1_put_21 : decode cX1_put 21 = .ok (.dup, 1) := dc1_89 (by decide +kernel)
theorem dX1_put_22 : decode cX1_put 22 = .ok (.getfield 34, 3) := dcw_180 (by decide +kernel)
theorem dX1_put_25 : decode cX1_put 25 = .ok (.iconst 1, 1) := dc1_4 (by decide +kernel)
theorem dX1_put_26 : decode cX1_put 26 = .ok (.iadd, 1) := dc1_96 (by decide +kernel)
theorem dX1_put_27 : decode cX1_put 27 = .ok (.putfield 34, 3) := dcw_181 (by decide +kernel)
theorem dX1_put_30 : decode cX1_put 30 = .ok (.return_, 1) := dc1_177 (by decide +kernel)
theorem dX1_joined_0 : decode cX1_joined 0 = .ok (.iload_n 1, 1) := dc1_27 (by decide +kernel)
theorem dX1_joined_1 : decode cX1_joined 1 = .ok (.tableswitch 43 42 45 #[39, 31, 43, 35], 31) := by decide +kernel
theorem dX1_joined_32 : decode cX1_joined 32 = .ok (.iload_n 2, 1) := dc1_28 (by decide +kernel)
theorem dX1_joined_33 : decode cX1_joined 33 = .ok (.iload_n 3, 1) := dc1_29 (by decide +kernel)
theorem dX1_joined_34 : decode cX1_joined 34 = .ok (.iadd, 1) := dc1_96 (by decide +kernel)
theorem dX1_joined_35 : decode cX1_joined 35 = .ok (.ireturn, 1) := dc1_172 (by decide +kernel)
theorem dX1_joined_36 : decode cX1_joined 36 = .ok (.iload_n 2, 1) := dc1_28 (by decide +kernel)
theorem dX1_joined_37 : decode cX1_joined 37 = .ok (.iload_n 3, 1) := dc1_29 (by decide +kernel)
theorem dX1_joined_38 : decode cX1_joined 38 = .ok (.isub, 1) := dc1_100 (by decide +kernel)
theorem dX1_joined_39 : decode cX1_joined 39 = .ok (.ireturn, 1) := dc1_172 (by decide +kernel)
theorem dX1_joined_40 : decode cX1_joined 40 = .ok (.iload_n 2, 1) := dc1_28 (by decide +kernel)
theorem dX1_joined_41 : decode cX1_joined 41 = .ok (.iload_n 3, 1) := dc1_29 (by decide +kernel)
theorem dX1_joined_42 : decode cX1_joined 42 = .ok (.imul, 1) := dc1_104 (by decide +kernel)
theorem dX1_joined_43 : decode cX1_joined 43 = .ok (.ireturn, 1) := dc1_172 (by decide +kernel)
theorem dX1_joined_44 : decode cX1_joined 44 = .ok (.iload_n 3, 1) := dc1_29 (by decide +kernel)
theorem dX1_joined_45 : decode cX1_joined 45 = .ok (.ifCond .ne 10, 3) := dcs_154 (n := 10) (by decide +kernel)
theorem dX1_joined_48 : decode cX1_joined 48 = .ok (.aload_n 0, 1) := dc1_42 (by decide +kernel)
theorem dX1_joined_49 : decode cX1_joined 49 = .ok (.iconst 1, 1) := dc1_4 (by decide +kernel)
theorem dX1_joined_50 : decode cX1_joined 50 = .ok (.putfield 63, 3) := dcw_181 (by decide +kernel)
theorem dX1_joined_53 : decode cX1_joined 53 = .ok (.iconst 0, 1) := dc1_3 (by decide +kernel)
theorem dX1_joined_54 : decode cX1_joined 54 = .ok (.ireturn, 1) := dc1_172 (by decide +kernel)
theorem dX1_joined_55 : decode cX1_joined 55 = .ok (.iload_n 2, 1) := dc1_28 (by decide +kernel)
theorem dX1_joined_56 : decode cX1_joined 56 = .ok (.iload_n 3, 1) := dc1_29 (by decide +kernel)
theorem dX1_joined_57 : decode cX1_joined 57 = .ok (.idiv, 1) := dc1_108 (by decide +kernel)
theorem dX1_joined_58 : decode cX1_joined 58 = .ok (.ireturn, 1) := dc1_172 (by decide +kernel)
theorem dX2_putOnTop_0 : decode cX2_putOnTop 0 = .ok (.iload_n 3, 1) := dc1_29 (by decide +kernel)
theorem dX2_putOnTop_1 : decode cX2_putOnTop 1 = .ok (.istore 4, 2) := dcu_54 (by decide +kernel)
theorem dX2_putOnTop_3 : decode cX2_putOnTop 3 = .ok (.iload 4, 2) := dcu_21 (by decide +kernel)
theorem dX2_putOnTop_5 : decode cX2_putOnTop 5 = .ok (.ifCond .le 54, 3) := dcs_158 (n := 54) (by decide +kernel)
theorem dX2_putOnTop_8 : decode cX2_putOnTop 8 = .ok (.aload_n 0, 1) := dc1_42 (by decide +kernel)
theorem dX2_putOnTop_9 : decode cX2_putOnTop 9 = .ok (.getfield 21, 3) := dcw_180 (by decide +kernel)
theorem dX2_putOnTop_12 : decode cX2_putOnTop 12 = .ok (.iload 4, 2) := dcu_21 (by decide +kernel)
theorem dX2_putOnTop_14 : decode cX2_putOnTop 14 = .ok (.iconst 1, 1) := dc1_4 (by decide +kernel)
theorem dX2_putOnTop_15 : decode cX2_putOnTop 15 = .ok (.isub, 1) := dc1_100 (by decide +kernel)
theorem dX2_putOnTop_16 : decode cX2_putOnTop 16 = .ok (.iaload, 1) := dc1_46 (by decide +kernel)
theorem dX2_putOnTop_17 : decode cX2_putOnTop 17 = .ok (.iload_n 2, 1) := dc1_28 (by decide +kernel)
theorem dX2_putOnTop_18 : decode cX2_putOnTop 18 = .ok (.if_icmp .ge 41, 3) := dcs_162 (n := 41) (by decide +kernel)
theorem dX2_putOnTop_21 : decode cX2_putOnTop 21 = .ok (.aload_n 0, 1) := dc1_42 (by decide +kernel)
theorem dX2_putOnTop_22 : decode cX2_putOnTop 22 = .ok (.getfield 21, 3) := dcw_180 (by decide +kernel)
theorem dX2_putOnTop_25 : decode cX2_putOnTop 25 = .ok (.iload 4, 2) := dcu_21 (by decide +kernel)
theorem dX2_putOnTop_27 : decode cX2_putOnTop 27 = .ok (.aload_n 0, 1) := dc1_42 (by decide +kernel)
theorem dX2_putOnTop_28 : decode cX2_putOnTop 28 = .ok (.getfield 21, 3) := dcw_180 (by decide +kernel)
theorem dX2_putOnTop_31 : decode cX2_putOnTop 31 = .ok (.iload 4, 2) := dcu_21 (by decide +kernel)
theorem dX2_putOnTop_33 : decode cX2_putOnTop 33 = .ok (.iconst 1, 1) := dc1_4 (by decide +kernel)
theorem dX2_putOnTop_34 : decode cX2_putOnTop 34 = .ok (.isub, 1) := dc1_100 (by decide +kernel)
theorem dX2_putOnTop_35 : decode cX2_putOnTop 35 = .ok (.iaload, 1) := dc1_46 (by decide +kernel)
theorem dX2_putOnTop_36 : decode cX2_putOnTop 36 = .ok (.iastore, 1) := dc1_79 (by decide +kernel)
theorem dX2_putOnTop_37 : decode cX2_putOnTop 37 = .ok (.aload_n 0, 1) := dc1_42 (by decide +kernel)
theorem dX2_putOnTop_38 : decode cX2_putOnTop 38 = .ok (.getfield 18, 3) := dcw_180 (by decide +kernel)
theorem dX2_putOnTop_41 : decode cX2_putOnTop 41 = .ok (.iload 4, 2) := dcu_21 (by decide +kernel)
theorem dX2_putOnTop_43 : decode cX2_putOnTop 43 = .ok (.aload_n 0, 1) := dc1_42 (by decide +kernel)
theorem dX2_putOnTop_44 : decode cX2_putOnTop 44 = .ok (.getfield 18, 3) := dcw_180 (by decide +kernel)
theorem dX2_putOnTop_47 : decode cX2_putOnTop 47 = .ok (.iload 4, 2) := dcu_21 (by decide +kernel)
theorem dX2_putOnTop_49 : decode cX2_putOnTop 49 = .ok (.iconst 1, 1) := dc1_4 (by decide +kernel)
theorem dX2_putOnTop_50 : decode cX2_putOnTop 50 = .ok (.isub, 1) := dc1_100 (by decide +kernel)
theorem dX2_putOnTop_51 : decode cX2_putOnTop 51 = .ok (.iaload, 1) := dc1_46 (by decide +kernel)
theorem dX2_putOnTop_52 : decode cX2_putOnTop 52 = .ok (.iastore, 1) := dc1_79 (by decide +kernel)
theorem dX2_putOnTop_53 : decode cX2_putOnTop 53 = .ok (.iinc 4 (-1), 3) := dc_iinc (m := 255) (by decide +kernel)
theorem dX2_putOnTop_56 : decode cX2_putOnTop 56 = .ok (.goto (-53), 3) := dcs_167 (n := 65483) (by decide +kernel)
theorem dX2_putOnTop_59 : decode cX2_putOnTop 59 = .ok (.aload_n 0, 1) := dc1_42 (by decide +kernel)
theorem dX2_putOnTop_60 : decode cX2_putOnTop 60 = .ok (.getfield 21, 3) := dcw_180 (by decide +kernel)
theorem dX2_putOnTop_63 : decode cX2_putOnTop 63 = .ok (.iload 4, 2) := dcu_21 (by decide +kernel)
theorem dX2_putOnTop_65 : decode cX2_putOnTop 65 = .ok (.iload_n 2, 1) := dc1_28 (by decide +kernel)
theorem dX2_putOnTop_66 : decode cX2_putOnTop 66 = .ok (.iastore, 1) := dc1_79 (by decide +kernel)
theorem dX2_putOnTop_67 : decode cX2_putOnTop 67 = .ok (.aload_n 0, 1) := dc1_42 (by decide +kernel)
theorem dX2_putOnTop_68 : decode cX2_putOnTop 68 = .ok (.getfield 18, 3) := dcw_180 (by decide +kernel)
theorem dX2_putOnTop_71 : decode cX2_putOnTop 71 = .ok (.iload 4, 2) := dcu_21 (by decide +kernel)
theorem dX2_putOnTop_73 : decode cX2_putOnTop 73 = .ok (.iload_n 1, 1) := dc1_27 (by decide +kernel)
theorem dX2_putOnTop_74 : decode cX2_putOnTop 74 = .ok (.iastore, 1) := dc1_79 (by decide +kernel)
theorem dX2_putOnTop_75 : decode cX2_putOnTop 75 = .ok (.return_, 1) := dc1_177 (by decide +kernel)
theorem dX3_forgetAll_0 : decode cX3_forgetAll 0 = .ok (.aload_n 0, 1) := dc1_42 (by decide +kernel)
theorem dX3_forgetAll_1 : decode cX3_forgetAll 1 = .ok (.iconst 0, 1) := dc1_3 (by decide +kernel)
theorem dX3_forgetAll_2 : decode cX3_forgetAll 2 = .ok (.putfield 25, 3) := dcw_181 (by decide +kernel)
theorem dX3_forgetAll_5 : decode cX3_forgetAll 5 = .ok (.iconst 0, 1) := dc1_3 (by decide +kernel)
theorem dX3_forgetAll_6 : decode cX3_forgetAll 6 = .ok (.istore_n 1, 1) := dc1_60 (by decide +kernel)
theorem dX3_forgetAll_7 : decode cX3_forgetAll 7 = .ok (.iload_n 1, 1) := dc1_27 (by decide +kernel)
theorem dX3_forgetAll_8 : decode cX3_forgetAll 8 = .ok (.iconst 3, 1) := dc1_6 (by decide +kernel)
theorem dX3_forgetAll_9 : decode cX3_forgetAll 9 = .ok (.if_icmp .ge 16, 3) := dcs_162 (n := 16) (by decide +kernel)
theorem dX3_forgetAll_12 : decode cX3_forgetAll 12 = .ok (.aload_n 0, 1) := dc1_42 (by decide +kernel)
theorem dX3_forgetAll_13 : decode cX3_forgetAll 13 = .ok (.getfield 20, 3) := dcw_180 (by decide +kernel)
theorem dX3_forgetAll_16 : decode cX3_forgetAll 16 = .ok (.iload_n 1, 1) := dc1_27 (by decide +kernel)
theorem dX3_forgetAll_17 : decode cX3_forgetAll 17 = .ok (.iconst 0, 1) := dc1_3 (by decide +kernel)
theorem dX3_forgetAll_18 : decode cX3_forgetAll 18 = .ok (.bastore, 1) := dc1_84 (by decide +kernel)
theorem dX3_forgetAll_19 : decode cX3_forgetAll 19 = .ok (.iinc 1 1, 3) := dc_iinc (m := 1) (by decide +kernel)
theorem dX3_forgetAll_22 : decode cX3_forgetAll 22 = .ok (.goto (-15), 3) := dcs_167 (n := 65521) (by decide +kernel)
theorem dX3_forgetAll_25 : decode cX3_forgetAll 25 = .ok (.return_, 1) := dc1_177 (by decide +kernel)
theorem dX3_slotsHeld_0 : decode cX3_slotsHeld 0 = .ok (.iconst 0, 1) := dc1_3 (by decide +kernel)
theorem dX3_slotsHeld_1 : decode cX3_slotsHeld 1 = .ok (.istore_n 1, 1) := dc1_60 (by decide +kernel)
theorem dX3_slotsHeld_2 : decode cX3_slotsHeld 2 = .ok (.iconst 0, 1) := dc1_3 (by decide +kernel)
theorem dX3_slotsHeld_3 : decode cX3_slotsHeld 3 = .ok (.istore_n 2, 1) := dc1_61 (by decide +kernel)
theorem dX3_slotsHeld_4 : decode cX3_slotsHeld 4 = .ok (.iload_n 2, 1) := dc1_28 (by decide +kernel)
theorem dX3_slotsHeld_5 : decode cX3_slotsHeld 5 = .ok (.iconst 3, 1) := dc1_6 (by decide +kernel)
theorem dX3_slotsHeld_6 : decode cX3_slotsHeld 6 = .ok (.if_icmp .ge 26, 3) := dcs_162 (n := 26) (by decide +kernel)
theorem dX3_slotsHeld_9 : decode cX3_slotsHeld 9 = .ok (.iload_n 1, 1) := dc1_27 (by decide +kernel)
theorem dX3_slotsHeld_10 : decode cX3_slotsHeld 10 = .ok (.aload_n 0, 1) := dc1_42 (by decide +kernel)
theorem dX3_slotsHeld_11 : decode cX3_slotsHeld 11 = .ok (.getfield 20, 3) := dcw_180 (by decide +kernel)
theorem dX3_slotsHeld_14 : decode cX3_slotsHeld 14 = .ok (.iload_n 2, 1) := dc1_28 (by decide +kernel)
theorem dX3_slotsHeld_15 : decode cX3_slotsHeld 15 = .ok (.baload, 1) := dc1_51 (by decide +kernel)
theorem dX3_slotsHeld_16 : decode cX3_slotsHeld 16 = .ok (.ifCond .eq 7, 3) := dcs_153 (n := 7) (by decide +kernel)
theorem dX3_slotsHeld_19 : decode cX3_slotsHeld 19 = .ok (.iconst 1, 1) := dc1_4 (by decide +kernel)
theorem dX3_slotsHeld_20 : decode cX3_slotsHeld 20 = .ok (.goto 4, 3) := dcs_167 (n := 4) (by decide +kernel)
theorem dX3_slotsHeld_23 : decode cX3_slotsHeld 23 = .ok (.iconst 0, 1) := dc1_3 (by decide +kernel)
theorem dX3_slotsHeld_24 : decode cX3_slotsHeld 24 = .ok (.iadd, 1) := dc1_96 (by decide +kernel)
theorem dX3_slotsHeld_25 : decode cX3_slotsHeld 25 = .ok (.istore_n 1, 1) := dc1_60 (by decide +kernel)
theorem dX3_slotsHeld_26 : decode cX3_slotsHeld 26 = .ok (.iinc 2 1, 3) := dc_iinc (m := 1) (by decide +kernel)
theorem dX3_slotsHeld_29 : decode cX3_slotsHeld 29 = .ok (.goto (-25), 3) := dcs_167 (n := 65511) (by decide +kernel)
theorem dX3_slotsHeld_32 : decode cX3_slotsHeld 32 = .ok (.iload_n 1, 1) := dc1_27 (by decide +kernel)
theorem dX3_slotsHeld_33 : decode cX3_slotsHeld 33 = .ok (.ireturn, 1) := dc1_172 (by decide +kernel)
theorem dX4_isAt_0 : decode cX4_isAt 0 = .ok (.aload_n 0, 1) := dc1_42 (by decide +kernel)
theorem dX4_isAt_1 : decode cX4_isAt 1 = .ok (.getfield 41, 3) := dcw_180 (by decide +kernel)
theorem dX4_isAt_4 : decode cX4_isAt 4 = .ok (.ifCond .ne 23, 3) := dcs_154 (n := 23) (by decide +kernel)
theorem dX4_isAt_7 : decode cX4_isAt 7 = .ok (.aload_n 0, 1) := dc1_42 (by decide +kernel)
theorem dX4_isAt_8 : decode cX4_isAt 8 = .ok (.getfield 31, 3) := dcw_180 (by decide +kernel)
theorem dX4_isAt_11 : decode cX4_isAt 11 = .ok (.getfield 63, 3) := dcw_180 (by decide +kernel)
theorem dX4_isAt_14 : decode cX4_isAt 14 = .ok (.aload_n 0, 1) := dc1_42 (by decide +kernel)
theorem dX4_isAt_15 : decode cX4_isAt 15 = .ok (.getfield 38, 3) := dcw_180 (by decide +kernel)
theorem dX4_isAt_18 : decode cX4_isAt 18 = .ok (.iaload, 1) := dc1_46 (by decide +kernel)
theorem dX4_isAt_19 : decode cX4_isAt 19 = .ok (.iload_n 1, 1) := dc1_27 (by decide +kernel)
theorem dX4_isAt_20 : decode cX4_isAt 20 = .ok (.if_icmp .ne 7, 3) := dcs_160 (n := 7) (by decide +kernel)
theorem dX4_isAt_23 : decode cX4_isAt 23 = .ok (.iconst 1, 1) := dc1_4 (by decide +kernel)
theorem dX4_isAt_24 : decode cX4_isAt 24 = .ok (.goto 4, 3) := dcs_167 (n := 4) (by decide +kernel)
theorem dX4_isAt_27 : decode cX4_isAt 27 = .ok (.iconst 0, 1) := dc1_3 (by decide +kernel)
theorem dX4_isAt_28 : decode cX4_isAt 28 = .ok (.ireturn, 1) := dc1_172 (by decide +kernel)
theorem LX0_mayBe_9 : Cond.fieldLink RX0 9 "GuessFerry$Crossing" "sound" "LGuessFerry$Sound;" ∈ wsX0_mayBe := by decide +kernel
theorem inX0_mayBe_X0 : ∀ w ∈ u_ws RX0 TX0 2, w ∈ wsX0_mayBe := fun _ h => List.mem_cons_of_mem _ (List.mem_append_left _ (List.mem_append_right _ h))
theorem inX0_mayBe_X5 : ∀ w ∈ u_ws RX5 TX5 10, w ∈ wsX0_mayBe := fun _ h => List.mem_cons_of_mem _ (List.mem_append_right _ h)
theorem inX0_mayBe_X6 : ∀ w ∈ u_ws RX6 TX6 7, w ∈ wsX0_mayBe := fun _ h => List.mem_cons_of_mem _ (List.mem_append_left _ (List.mem_append_left _ (List.mem_append_right _ h)))
set_option maxHeartbeats 4000000 in
set_option maxRecDepth 100000 in
theorem bkX0_mayBe {l : Launch} {dC : Nat → ClassId} {dI : Nat → Nat → Nat} {cB cI cJ cZ cS : ClassId} {a b : Nat → Nat} {as : List Value} {r : Int32} {s' : JS} (s : JS) (x2 : Int32) (hB : kX0_mayBe s x2 = some (r, s')) : BlkI l yX0_mayBe wsX0_mayBe ({ frames := 0, cells := 0, slots := 0, locals := 0 }) cX0_mayBe 3 (some .int) (dC, dI) (tysA cB cI cJ cZ cS) as 0 (wJ cB cI cJ cZ cS a b s) [(0, .ref (a 35)), (1, .ref (b 0)), (2, .int x2)] [] (fun x u => x = r ∧ u = (wJ cB cI cJ cZ cS a b s')) := by
  intro p e s0 m below meth c A E H locs ls hP hD hS hl
  obtain ⟨C, hr, hlocks, hA, hK, hN⟩ := id E
  obtain ⟨hx, hb, hml, hown, hts⟩ := id C
  unfold kX0_mayBe at hB
  refine lv_aload_n hx hb dX0_mayBe_0 rfl (lv_at hl 1 rfl) ?_
  refine q_getN (v := .ref (b 1)) C hN inX0_mayBe_X6 hK hP 0 rfl rfl 0 (by decide) rfl nwF_X0_28 rfl dX0_mayBe_1 ?_
  refine lv_iload_n hx hb dX0_mayBe_4 rfl (lv_at hl 2 rfl) ?_
  obtain ⟨g1, hB⟩ := guard_inv hB
  refine q_iald (x := ((s.d.f 0) (Int32.toNatClampNeg x2))) C hK hP 1 1 rfl rfl (vpb_in g1) dX0_mayBe_5 rfl ?_
  refine lv_iconst (v := (-1)) hx hb dX0_mayBe_6 (by decide) ?_
  refine lv_icmp_eq (tgt := 19) hx hb dX0_mayBe_7 (by decide) (fun c2 => ?_) (fun c2 => ?_)
  · have hB := if_p hB c2
    refine lv_aload_n hx hb dX0_mayBe_19 rfl (lv_at hl 0 rfl) ?_
    refine q_get (v := .ref (a 2)) C inX0_mayBe_X0 hK hP 41 rfl rfl 0 (by decide) rfl LX0_mayBe_9 rfl dX0_mayBe_20 ?_
    refine q_getN (v := .ref (a 5)) C hN inX0_mayBe_X5 hK hP 8 rfl rfl 2 (by decide) rfl nwF_X0_33 rfl dX0_mayBe_23 ?_
    refine lv_iload_n hx hb dX0_mayBe_26 rfl (lv_at hl 2 rfl) ?_
    obtain ⟨g3, hB⟩ := guard_inv hB
    refine q_iald (x := ((s.k.f 5) (Int32.toNatClampNeg x2))) C hK hP 11 1 rfl rfl (vpb_in g3) dX0_mayBe_27 rfl ?_
    refine lv_aload_n hx hb dX0_mayBe_28 rfl (lv_at hl 1 rfl) ?_
    refine q_getN (v := .ref (b 2)) C hN inX0_mayBe_X6 hK hP 0 rfl rfl 1 (by decide) rfl nwF_X0_36 rfl dX0_mayBe_29 ?_
    refine lv_iload_n hx hb dX0_mayBe_32 rfl (lv_at hl 2 rfl) ?_
    obtain ⟨g4, hB⟩ := guard_inv hB
    refine q_iald (x := ((s.d.f 1) (Int32.toNatClampNeg x2))) C hK hP 2 1 rfl rfl (vpb_in g4) dX0_mayBe_33 rfl ?_
    refine lv_iconst (v := (-1)) hx hb dX0_mayBe_34 (by decide) ?_
    refine lv_ixor hx hb dX0_mayBe_35 ?_
    refine lv_iand hx hb dX0_mayBe_36 ?_
    exact q_iret C hr hlocks hK hP hD hS (Nat.le_of_ble_eq_true rfl) (Nat.le_of_ble_eq_true rfl) dX0_mayBe_37 (by cases hB; exact ⟨rfl, rfl⟩)
  · have hB := if_n hB c2
    refine lv_iconst (v := 1) hx hb dX0_mayBe_10 (by decide) ?_
    refine lv_aload_n hx hb dX0_mayBe_11 rfl (lv_at hl 1 rfl) ?_
    refine q_getN (v := .ref (b 1)) C hN inX0_mayBe_X6 hK hP 0 rfl rfl 0 (by decide) rfl nwF_X0_28 rfl dX0_mayBe_12 ?_
    refine lv_iload_n hx hb dX0_mayBe_15 rfl (lv_at hl 2 rfl) ?_
    obtain ⟨g5, hB⟩ := guard_inv hB
    refine q_iald (x := ((s.d.f 0) (Int32.toNatClampNeg x2))) C hK hP 1 1 rfl rfl (vpb_in g5) dX0_mayBe_16 rfl ?_
    refine lv_ishl hx hb dX0_mayBe_17 ?_
    exact q_iret C hr hlocks hK hP hD hS (Nat.le_of_ble_eq_true rfl) (Nat.le_of_ble_eq_true rfl) dX0_mayBe_18 (by cases hB; exact ⟨rfl, rfl⟩)
theorem ckX0_mayBe {l : Launch} {dC : Nat → ClassId} {dI : Nat → Nat → Nat} {cB cI cJ cZ cS : ClassId} {a b : Nat → Nat} {r : Int32} {s' : JS} {s : JS} {x2 : Int32} (hB : kX0_mayBe s x2 = some (r, s')) : CI l yX0_mayBe wsX0_mayBe ({ frames := 0, cells := 0, slots := 0, locals := 0 }) (dC, dI) (tysA cB cI cJ cZ cS) (wJ cB cI cJ cZ cS a b s) [.ref (a 35), .ref (b 0), .int x2] (fun x u => x = r ∧ u = (wJ cB cI cJ cZ cS a b s')) :=
  CI_of (cc := cX0_mayBe) (maxL := 3) (ret := (some .int)) (by decide) rfl (Nat.le_of_ble_eq_true rfl) (bkX0_mayBe _ _ hB)
theorem LX0_setParty_27 : Cond.fieldLink RX0 27 "GuessFerry$Crossing" "vars" "[I" ∈ wsX0_setParty := by decide +kernel
theorem LX0_setParty_9 : Cond.fieldLink RX0 9 "GuessFerry$Crossing" "sound" "LGuessFerry$Sound;" ∈ wsX0_setParty := by decide +kernel
theorem inX0_setParty_X0 : ∀ w ∈ u_ws RX0 TX0 2, w ∈ wsX0_setParty := fun _ h => List.mem_cons_of_mem _ (List.mem_append_left _ (List.mem_append_left _ (List.mem_append_right _ h)))
theorem inX0_setParty_X5 : ∀ w ∈ u_ws RX5 TX5 10, w ∈ wsX0_setParty := fun _ h => List.mem_cons_of_mem _ (List.mem_append_left _ (List.mem_append_right _ h))
theorem inX0_setParty_X6 : ∀ w ∈ u_ws RX6 TX6 7, w ∈ wsX0_setParty := fun _ h => List.mem_cons_of_mem _ (List.mem_append_right _ h)
set_option maxHeartbeats 4000000 in
set_option maxRecDepth 100000 in
theorem bkX0_setParty {l : Launch} {dC : Nat → ClassId} {dI : Nat → Nat → Nat} {cB cI cJ cZ cS : ClassId} {a b : Nat → Nat} {as : List Value} {s' : JS} (s : JS) (x2 : Int32) (hB : kX0_setParty s x2 = some s') : BlkV l yX0_setParty wsX0_setParty ({ frames := 0, cells := 0, slots := 0, locals := 0 }) cX0_setParty 3 none (dC, dI) (tysA cB cI cJ cZ cS) as 0 (wJ cB cI cJ cZ cS a b s) [(0, .ref (a 35)), (1, .ref (b 0)), (2, .int x2)] [] (fun u => u = (wJ cB cI cJ cZ cS a b s')) := by
  intro p e s0 m below meth c A E H locs ls hP hD hS hl
  obtain ⟨C, hr, hlocks, hA, hK, hN⟩ := id E
  obtain ⟨hx, hb, hml, hown, hts⟩ := id C
  unfold kX0_setParty at hB
  refine lv_aload_n hx hb dX0_setParty_0 rfl (lv_at hl 0 rfl) ?_
  refine q_get (v := .ref (a 13)) C inX0_setParty_X0 hK hP 41 rfl rfl 1 (by decide) rfl LX0_setParty_27 rfl dX0_setParty_1 ?_
  refine lv_iconst (v := 2) hx hb dX0_setParty_4 (by decide) ?_
  refine lv_aload_n hx hb dX0_setParty_5 rfl (lv_at hl 0 rfl) ?_
  refine q_get (v := .ref (a 2)) C inX0_setParty_X0 hK hP 41 rfl rfl 0 (by decide) rfl LX0_setParty_9 rfl dX0_setParty_6 ?_
  refine q_getN (v := .ref (a 6)) C hN inX0_setParty_X5 hK hP 8 rfl rfl 3 (by decide) rfl nwF_X0_62 rfl dX0_setParty_9 ?_
  refine lv_iload_n hx hb dX0_setParty_12 rfl (lv_at hl 2 rfl) ?_
  obtain ⟨g1, hB⟩ := guard_inv hB
  refine q_iald (x := ((s.k.f 6) (Int32.toNatClampNeg x2))) C hK hP 12 1 rfl rfl (vpb_in g1) dX0_setParty_13 rfl ?_
  obtain ⟨s2, hs3, hB⟩ := letS_inv hB
  refine q_iast (f2 := (upd (s.k.f 13) 2 ((s.k.f 6) (Int32.toNatClampNeg x2)))) (w2 := (wJ cB cI cJ cZ cS a b s2)) C hK hP hD hS 19 1 rfl rfl (vp_lit (by decide +kernel)) dX0_setParty_14 rfl (by subst hs3; rfl) (fun H locs hP hD hS => ?_)
  refine lv_aload_n hx hb dX0_setParty_15 rfl (lv_at hl 0 rfl) ?_
  refine q_get (v := .ref (a 13)) C inX0_setParty_X0 hK hP 41 rfl rfl 1 (by decide) rfl LX0_setParty_27 rfl dX0_setParty_16 ?_
  refine lv_iconst (v := 3) hx hb dX0_setParty_19 (by decide) ?_
  refine lv_aload_n hx hb dX0_setParty_20 rfl (lv_at hl 0 rfl) ?_
  refine q_get (v := .ref (a 2)) C inX0_setParty_X0 hK hP 41 rfl rfl 0 (by decide) rfl LX0_setParty_9 rfl dX0_setParty_21 ?_
  refine q_getN (v := .ref (a 7)) C hN inX0_setParty_X5 hK hP 8 rfl rfl 4 (by decide) rfl nwF_X0_65 rfl dX0_setParty_24 ?_
  refine lv_iload_n hx hb dX0_setParty_27 rfl (lv_at hl 2 rfl) ?_
  obtain ⟨g4, hB⟩ := guard_inv hB
  refine q_iald (x := ((s2.k.f 7) (Int32.toNatClampNeg x2))) C hK hP 13 1 rfl rfl (vpb_in g4) dX0_setParty_28 rfl ?_
  obtain ⟨s5, hs6, hB⟩ := letS_inv hB
  refine q_iast (f2 := (upd (s2.k.f 13) 3 ((s2.k.f 7) (Int32.toNatClampNeg x2)))) (w2 := (wJ cB cI cJ cZ cS a b s5)) C hK hP hD hS 19 1 rfl rfl (vp_lit (by decide +kernel)) dX0_setParty_29 rfl (by subst hs6; rfl) (fun H locs hP hD hS => ?_)
  refine lv_aload_n hx hb dX0_setParty_30 rfl (lv_at hl 0 rfl) ?_
  refine q_get (v := .ref (a 13)) C inX0_setParty_X0 hK hP 41 rfl rfl 1 (by decide) rfl LX0_setParty_27 rfl dX0_setParty_31 ?_
  refine lv_bipush (v := 6) hx hb dX0_setParty_34 (by decide) ?_
  refine lv_iload_n hx hb dX0_setParty_36 rfl (lv_at hl 2 rfl) ?_
  obtain ⟨s7, hs8, hB⟩ := letS_inv hB
  refine q_iast (f2 := (upd (s5.k.f 13) 6 x2)) (w2 := (wJ cB cI cJ cZ cS a b s7)) C hK hP hD hS 19 1 rfl rfl (vp_lit (by decide +kernel)) dX0_setParty_37 rfl (by subst hs8; rfl) (fun H locs hP hD hS => ?_)
  refine lv_aload_n hx hb dX0_setParty_38 rfl (lv_at hl 0 rfl) ?_
  refine q_get (v := .ref (a 13)) C inX0_setParty_X0 hK hP 41 rfl rfl 1 (by decide) rfl LX0_setParty_27 rfl dX0_setParty_39 ?_
  refine lv_bipush (v := 8) hx hb dX0_setParty_42 (by decide) ?_
  refine lv_aload_n hx hb dX0_setParty_44 rfl (lv_at hl 1 rfl) ?_
  refine q_getN (v := .ref (b 5)) C hN inX0_setParty_X6 hK hP 0 rfl rfl 4 (by decide) rfl nwF_X0_68 rfl dX0_setParty_45 ?_
  refine lv_iload_n hx hb dX0_setParty_48 rfl (lv_at hl 2 rfl) ?_
  obtain ⟨g9, hB⟩ := guard_inv hB
  refine q_iald (x := ((s7.d.f 4) (Int32.toNatClampNeg x2))) C hK hP 5 1 rfl rfl (vpb_in g9) dX0_setParty_49 rfl ?_
  obtain ⟨s10, hs11, hB⟩ := letS_inv hB
  refine q_iast (f2 := (upd (s7.k.f 13) 8 ((s7.d.f 4) (Int32.toNatClampNeg x2)))) (w2 := (wJ cB cI cJ cZ cS a b s10)) C hK hP hD hS 19 1 rfl rfl (vp_lit (by decide +kernel)) dX0_setParty_50 rfl (by subst hs11; rfl) (fun H locs hP hD hS => ?_)
  exact q_vret C hr hlocks hK hP hD hS (Nat.le_of_ble_eq_true rfl) (Nat.le_of_ble_eq_true rfl) dX0_setParty_51 (by cases hB; rfl)
theorem ckX0_setParty {l : Launch} {dC : Nat → ClassId} {dI : Nat → Nat → Nat} {cB cI cJ cZ cS : ClassId} {a b : Nat → Nat} {s' : JS} {s : JS} {x2 : Int32} (hB : kX0_setParty s x2 = some s') : CV l yX0_setParty wsX0_setParty ({ frames := 0, cells := 0, slots := 0, locals := 0 }) (dC, dI) (tysA cB cI cJ cZ cS) (wJ cB cI cJ cZ cS a b s) [.ref (a 35), .ref (b 0), .int x2] (fun u => u = (wJ cB cI cJ cZ cS a b s')) :=
  CV_of (cc := cX0_setParty) (maxL := 3) (ret := none) (by decide) rfl (Nat.le_of_ble_eq_true rfl) (bkX0_setParty _ _ hB)
theorem LX1_copyFrom_15 : Cond.fieldLink RX1 15 "GuessFerry$Laws" "steps" "[I" ∈ wsX1_copyFrom := by decide +kernel
theorem LX1_copyFrom_19 : Cond.fieldLink RX1 19 "GuessFerry$Laws" "partEnds" "[I" ∈ wsX1_copyFrom := by decide +kernel
theorem LX1_copyFrom_22 : Cond.fieldLink RX1 22 "GuessFerry$Laws" "lawStarts" "[I" ∈ wsX1_copyFrom := by decide +kernel
theorem LX1_copyFrom_25 : Cond.fieldLink RX1 25 "GuessFerry$Laws" "partCounts" "[I" ∈ wsX1_copyFrom := by decide +kernel
theorem LX1_copyFrom_34 : Cond.fieldLink RX1 34 "GuessFerry$Laws" "length" "I" ∈ wsX1_copyFrom := by decide +kernel
theorem LX1_copyFrom_A51 : Cond.methodLink RX1 51 arraycopyName ∈ wsX1_copyFrom := by decide +kernel
theorem LX1_copyFrom_AI : Cond.initialized "java/lang/System" ∈ wsX1_copyFrom := by decide +kernel
theorem LX1_copyFrom_AN : Cond.native arraycopyName ∈ wsX1_copyFrom := by decide +kernel
theorem LX1_copyFrom_AS : Cond.static arraycopyName ∈ wsX1_copyFrom := by decide +kernel
theorem inX1_copyFrom_X1 : ∀ w ∈ u_ws RX1 TX1 9, w ∈ wsX1_copyFrom := fun _ h => List.mem_cons_of_mem _ (List.mem_append_right _ h)
set_option maxHeartbeats 4000000 in
set_option maxRecDepth 100000 in
theorem bkX1_copyFrom {l : Launch} {dC : Nat → ClassId} {dI : Nat → Nat → Nat} {cB cI cJ cZ cS : ClassId} {a : Nat → Nat} {as : List Value} {s' : KS} (s : KS) (hB : kX1_copyFrom s = some s') : BlkV l yX1_copyFrom wsX1_copyFrom ({ frames := 1, cells := 0, slots := 0, locals := 64 }) cX1_copyFrom 2 none (dC, dI) (tysA cB cI cJ cZ cS) as 0 (wK cB cI cJ cZ cS a s) [(0, .ref (a 8)), (1, .ref (a 21))] [] (fun u => u = (wK cB cI cJ cZ cS a s')) := by
  intro p e s0 m below meth c A E H locs ls hP hD hS hl
  obtain ⟨C, hr, hlocks, hA, hK, hN⟩ := id E
  obtain ⟨hx, hb, hml, hown, hts⟩ := id C
  unfold kX1_copyFrom at hB
  refine lv_aload_n hx hb dX1_copyFrom_0 rfl (lv_at hl 1 rfl) ?_
  refine q_get (v := .ref (a 22)) C inX1_copyFrom_X1 hK hP 21 rfl rfl 0 (by decide) rfl LX1_copyFrom_15 rfl dX1_copyFrom_1 ?_
  refine lv_iconst (v := 0) hx hb dX1_copyFrom_4 (by decide) ?_
  refine lv_aload_n hx hb dX1_copyFrom_5 rfl (lv_at hl 0 rfl) ?_
  refine q_get (v := .ref (a 9)) C inX1_copyFrom_X1 hK hP 8 rfl rfl 0 (by decide) rfl LX1_copyFrom_15 rfl dX1_copyFrom_6 ?_
  refine lv_iconst (v := 0) hx hb dX1_copyFrom_9 (by decide) ?_
  refine lv_sipush (v := 404) hx hb dX1_copyFrom_10 (by decide) ?_
  obtain ⟨s1, hs2, hB⟩ := letS_inv hB
  refine va_copyi hx hb (hml.trans hl.1.symm) hown (hts _ LX1_copyFrom_A51) (hts _ LX1_copyFrom_AN) (hts _ LX1_copyFrom_AS) (hts _ LX1_copyFrom_AI) hK hP hD hS 22 9 1 1 rfl rfl rfl rfl rfl (by decide +kernel) (by decide +kernel) (by decide +kernel) (by decide +kernel) (by decide +kernel) (fun _ _ => rfl) (Nat.le_of_ble_eq_true rfl) (by decide +kernel) dX1_copyFrom_13 (fun H locs hP hD hS => ?_)
  have hP : va_P (dC, dI) vwCl (wK cB cI cJ cZ cS a s1) H := by subst hs2; exact hP
  have hD : va_D A (wK cB cI cJ cZ cS a s1) := by subst hs2; exact hD
  refine lv_aload_n hx hb dX1_copyFrom_16 rfl (lv_at hl 1 rfl) ?_
  refine q_get (v := .ref (a 23)) C inX1_copyFrom_X1 hK hP 21 rfl rfl 1 (by decide) rfl LX1_copyFrom_19 rfl dX1_copyFrom_17 ?_
  refine lv_iconst (v := 0) hx hb dX1_copyFrom_20 (by decide) ?_
  refine lv_aload_n hx hb dX1_copyFrom_21 rfl (lv_at hl 0 rfl) ?_
  refine q_get (v := .ref (a 10)) C inX1_copyFrom_X1 hK hP 8 rfl rfl 1 (by decide) rfl LX1_copyFrom_19 rfl dX1_copyFrom_22 ?_
  refine lv_iconst (v := 0) hx hb dX1_copyFrom_25 (by decide) ?_
  refine lv_bipush (v := 52) hx hb dX1_copyFrom_26 (by decide) ?_
  obtain ⟨s3, hs4, hB⟩ := letS_inv hB
  refine va_copyi hx hb (hml.trans hl.1.symm) hown (hts _ LX1_copyFrom_A51) (hts _ LX1_copyFrom_AN) (hts _ LX1_copyFrom_AS) (hts _ LX1_copyFrom_AI) hK hP hD hS 23 10 1 1 rfl rfl rfl rfl rfl (by decide +kernel) (by decide +kernel) (by decide +kernel) (by decide +kernel) (by decide +kernel) (fun _ _ => rfl) (Nat.le_of_ble_eq_true rfl) (by decide +kernel) dX1_copyFrom_28 (fun H locs hP hD hS => ?_)
  have hP : va_P (dC, dI) vwCl (wK cB cI cJ cZ cS a s3) H := by subst hs4; exact hP
  have hD : va_D A (wK cB cI cJ cZ cS a s3) := by subst hs4; exact hD
  refine lv_aload_n hx hb dX1_copyFrom_31 rfl (lv_at hl 1 rfl) ?_
  refine q_get (v := .ref (a 24)) C inX1_copyFrom_X1 hK hP 21 rfl rfl 2 (by decide) rfl LX1_copyFrom_22 rfl dX1_copyFrom_32 ?_
  refine lv_iconst (v := 0) hx hb dX1_copyFrom_35 (by decide) ?_
  refine lv_aload_n hx hb dX1_copyFrom_36 rfl (lv_at hl 0 rfl) ?_
  refine q_get (v := .ref (a 11)) C inX1_copyFrom_X1 hK hP 8 rfl rfl 2 (by decide) rfl LX1_copyFrom_22 rfl dX1_copyFrom_37 ?_
  refine lv_iconst (v := 0) hx hb dX1_copyFrom_40 (by decide) ?_
  refine lv_iconst (v := 4) hx hb dX1_copyFrom_41 (by decide) ?_
  obtain ⟨s5, hs6, hB⟩ := letS_inv hB
  refine va_copyi hx hb (hml.trans hl.1.symm) hown (hts _ LX1_copyFrom_A51) (hts _ LX1_copyFrom_AN) (hts _ LX1_copyFrom_AS) (hts _ LX1_copyFrom_AI) hK hP hD hS 24 11 1 1 rfl rfl rfl rfl rfl (by decide +kernel) (by decide +kernel) (by decide +kernel) (by decide +kernel) (by decide +kernel) (fun _ _ => rfl) (Nat.le_of_ble_eq_true rfl) (by decide +kernel) dX1_copyFrom_42 (fun H locs hP hD hS => ?_)
  have hP : va_P (dC, dI) vwCl (wK cB cI cJ cZ cS a s5) H := by subst hs6; exact hP
  have hD : va_D A (wK cB cI cJ cZ cS a s5) := by subst hs6; exact hD
  refine lv_aload_n hx hb dX1_copyFrom_45 rfl (lv_at hl 1 rfl) ?_
  refine q_get (v := .ref (a 25)) C inX1_copyFrom_X1 hK hP 21 rfl rfl 3 (by decide) rfl LX1_copyFrom_25 rfl dX1_copyFrom_46 ?_
  refine lv_iconst (v := 0) hx hb dX1_copyFrom_49 (by decide) ?_
  refine lv_aload_n hx hb dX1_copyFrom_50 rfl (lv_at hl 0 rfl) ?_
  refine q_get (v := .ref (a 12)) C inX1_copyFrom_X1 hK hP 8 rfl rfl 3 (by decide) rfl LX1_copyFrom_25 rfl dX1_copyFrom_51 ?_
  refine lv_iconst (v := 0) hx hb dX1_copyFrom_54 (by decide) ?_
  refine lv_iconst (v := 4) hx hb dX1_copyFrom_55 (by decide) ?_
  obtain ⟨s7, hs8, hB⟩ := letS_inv hB
  refine va_copyi hx hb (hml.trans hl.1.symm) hown (hts _ LX1_copyFrom_A51) (hts _ LX1_copyFrom_AN) (hts _ LX1_copyFrom_AS) (hts _ LX1_copyFrom_AI) hK hP hD hS 25 12 1 1 rfl rfl rfl rfl rfl (by decide +kernel) (by decide +kernel) (by decide +kernel) (by decide +kernel) (by decide +kernel) (fun _ _ => rfl) (Nat.le_of_ble_eq_true rfl) (by decide +kernel) dX1_copyFrom_56 (fun H locs hP hD hS => ?_)
  have hP : va_P (dC, dI) vwCl (wK cB cI cJ cZ cS a s7) H := by subst hs8; exact hP
  have hD : va_D A (wK cB cI cJ cZ cS a s7) := by subst hs8; exact hD
  refine lv_aload_n hx hb dX1_copyFrom_59 rfl (lv_at hl 0 rfl) ?_
  refine lv_aload_n hx hb dX1_copyFrom_60 rfl (lv_at hl 1 rfl) ?_
  refine q_get (v := .int (s7.v 12)) C inX1_copyFrom_X1 hK hP 21 rfl rfl 6 (by decide) rfl LX1_copyFrom_34 rfl dX1_copyFrom_61 ?_
  obtain ⟨s9, hs10, hB⟩ := letS_inv hB
  refine q_put (ty := .int) (w2 := (wK cB cI cJ cZ cS a s9)) tyX1 tyX1_ok nmX1 C inX1_copyFrom_X1 hK hP hD hS 8 rfl rfl 6 (by decide) rfl LX1_copyFrom_34 rfl (by decide +kernel) (rfl) rfl (Nat.le_of_ble_eq_true rfl) dX1_copyFrom_64 (by subst hs10; rfl) (fun H locs hP hD hS => ?_)
  exact q_vret C hr hlocks hK hP hD hS (Nat.le_of_ble_eq_true rfl) (Nat.le_of_ble_eq_true rfl) dX1_copyFrom_67 (by cases hB; rfl)
theorem ckX1_copyFrom {l : Launch} {dC : Nat → ClassId} {dI : Nat → Nat → Nat} {cB cI cJ cZ cS : ClassId} {a : Nat → Nat} {s' : KS} {s : KS} (hB : kX1_copyFrom s = some s') : CV l yX1_copyFrom wsX1_copyFrom ({ frames := 1, cells := 0, slots := 0, locals := 64 }) (dC, dI) (tysA cB cI cJ cZ cS) (wK cB cI cJ cZ cS a s) [.ref (a 8), .ref (a 21)] (fun u => u = (wK cB cI cJ cZ cS a s')) :=
  CV_of (cc := cX1_copyFrom) (maxL := 2) (ret := none) (by decide) rfl (Nat.le_of_ble_eq_true rfl) (bkX1_copyFrom _ hB)
theorem LX1_begin_22 : Cond.fieldLink RX1 22 "GuessFerry$Laws" "lawStarts" "[I" ∈ wsX1_begin := by decide +kernel
theorem LX1_begin_25 : Cond.fieldLink RX1 25 "GuessFerry$Laws" "partCounts" "[I" ∈ wsX1_begin := by decide +kernel
theorem LX1_begin_34 : Cond.fieldLink RX1 34 "GuessFerry$Laws" "length" "I" ∈ wsX1_begin := by decide +kernel
theorem LX1_begin_57 : Cond.fieldLink RX1 57 "GuessFerry$Laws" "current" "I" ∈ wsX1_begin := by decide +kernel
theorem inX1_begin_X1 : ∀ w ∈ u_ws RX1 TX1 9, w ∈ wsX1_begin := fun _ h => List.mem_cons_of_mem _ (List.mem_append_right _ h)
set_option maxHeartbeats 4000000 in
set_option maxRecDepth 100000 in
theorem bkX1_begin {l : Launch} {dC : Nat → ClassId} {dI : Nat → Nat → Nat} {cB cI cJ cZ cS : ClassId} {a : Nat → Nat} {as : List Value} {s' : KS} (s : KS) (x1 : Int32) (hB : kX1_begin s x1 = some s') : BlkV l yX1_begin wsX1_begin ({ frames := 0, cells := 0, slots := 0, locals := 0 }) cX1_begin 2 none (dC, dI) (tysA cB cI cJ cZ cS) as 0 (wK cB cI cJ cZ cS a s) [(0, .ref (a 21)), (1, .int x1)] [] (fun u => u = (wK cB cI cJ cZ cS a s')) := by
  intro p e s0 m below meth c A E H locs ls hP hD hS hl
  obtain ⟨C, hr, hlocks, hA, hK, hN⟩ := id E
  obtain ⟨hx, hb, hml, hown, hts⟩ := id C
  unfold kX1_begin at hB
  refine lv_aload_n hx hb dX1_begin_0 rfl (lv_at hl 0 rfl) ?_
  refine lv_iload_n hx hb dX1_begin_1 rfl (lv_at hl 1 rfl) ?_
  obtain ⟨s1, hs2, hB⟩ := letS_inv hB
  refine q_put (ty := .int) (w2 := (wK cB cI cJ cZ cS a s1)) tyX1 tyX1_ok nmX1 C inX1_begin_X1 hK hP hD hS 21 rfl rfl 7 (by decide) rfl LX1_begin_57 rfl (by decide +kernel) (rfl) rfl (Nat.le_of_ble_eq_true rfl) dX1_begin_2 (by subst hs2; rfl) (fun H locs hP hD hS => ?_)
  refine lv_aload_n hx hb dX1_begin_5 rfl (lv_at hl 0 rfl) ?_
  refine q_get (v := .ref (a 24)) C inX1_begin_X1 hK hP 21 rfl rfl 2 (by decide) rfl LX1_begin_22 rfl dX1_begin_6 ?_
  refine lv_iload_n hx hb dX1_begin_9 rfl (lv_at hl 1 rfl) ?_
  refine lv_aload_n hx hb dX1_begin_10 rfl (lv_at hl 0 rfl) ?_
  refine q_get (v := .int (s1.v 12)) C inX1_begin_X1 hK hP 21 rfl rfl 6 (by decide) rfl LX1_begin_34 rfl dX1_begin_11 ?_
  obtain ⟨g3, hB⟩ := guard_inv hB
  obtain ⟨s4, hs5, hB⟩ := letS_inv hB
  refine q_iast (f2 := (upd (s1.f 24) (Int32.toNatClampNeg x1) (s1.v 12))) (w2 := (wK cB cI cJ cZ cS a s4)) C hK hP hD hS 24 1 rfl rfl (vpb_in g3) dX1_begin_14 rfl (by subst hs5; rfl) (fun H locs hP hD hS => ?_)
  refine lv_aload_n hx hb dX1_begin_15 rfl (lv_at hl 0 rfl) ?_
  refine q_get (v := .ref (a 25)) C inX1_begin_X1 hK hP 21 rfl rfl 3 (by decide) rfl LX1_begin_25 rfl dX1_begin_16 ?_
  refine lv_iload_n hx hb dX1_begin_19 rfl (lv_at hl 1 rfl) ?_
  refine lv_iconst (v := 0) hx hb dX1_begin_20 (by decide) ?_
  obtain ⟨g6, hB⟩ := guard_inv hB
  obtain ⟨s7, hs8, hB⟩ := letS_inv hB
  refine q_iast (f2 := (upd (s4.f 25) (Int32.toNatClampNeg x1) 0)) (w2 := (wK cB cI cJ cZ cS a s7)) C hK hP hD hS 25 1 rfl rfl (vpb_in g6) dX1_begin_21 rfl (by subst hs8; rfl) (fun H locs hP hD hS => ?_)
  exact q_vret C hr hlocks hK hP hD hS (Nat.le_of_ble_eq_true rfl) (Nat.le_of_ble_eq_true rfl) dX1_begin_22 (by cases hB; rfl)
theorem ckX1_begin {l : Launch} {dC : Nat → ClassId} {dI : Nat → Nat → Nat} {cB cI cJ cZ cS : ClassId} {a : Nat → Nat} {s' : KS} {s : KS} {x1 : Int32} (hB : kX1_begin s x1 = some s') : CV l yX1_begin wsX1_begin ({ frames := 0, cells := 0, slots := 0, locals := 0 }) (dC, dI) (tysA cB cI cJ cZ cS) (wK cB cI cJ cZ cS a s) [.ref (a 21), .int x1] (fun u => u = (wK cB cI cJ cZ cS a s')) :=
  CV_of (cc := cX1_begin) (maxL := 2) (ret := none) (by decide) rfl (Nat.le_of_ble_eq_true rfl) (bkX1_begin _ _ hB)
theorem LX1_endPart_19 : Cond.fieldLink RX1 19 "GuessFerry$Laws" "partEnds" "[I" ∈ wsX1_endPart := by decide +kernel
theorem LX1_endPart_25 : Cond.fieldLink RX1 25 "GuessFerry$Laws" "partCounts" "[I" ∈ wsX1_endPart := by decide +kernel
theorem LX1_endPart_34 : Cond.fieldLink RX1 34 "GuessFerry$Laws" "length" "I" ∈ wsX1_endPart := by decide +kernel
theorem LX1_endPart_57 : Cond.fieldLink RX1 57 "GuessFerry$Laws" "current" "I" ∈ wsX1_endPart := by decide +kernel
theorem inX1_endPart_X1 : ∀ w ∈ u_ws RX1 TX1 9, w ∈ wsX1_endPart := fun _ h => List.mem_cons_of_mem _ (List.mem_append_right _ h)
set_option maxHeartbeats 4000000 in
set_option maxRecDepth 100000 in
theorem bkX1_endPart {l : Launch} {dC : Nat → ClassId} {dI : Nat → Nat → Nat} {cB cI cJ cZ cS : ClassId} {a : Nat → Nat} {as : List Value} {s' : KS} (s : KS) (hB : kX1_endPart s = some s') : BlkV l yX1_endPart wsX1_endPart ({ frames := 0, cells := 0, slots := 0, locals := 0 }) cX1_endPart 2 none (dC, dI) (tysA cB cI cJ cZ cS) as 0 (wK cB cI cJ cZ cS a s) [(0, .ref (a 21))] [] (fun u => u = (wK cB cI cJ cZ cS a s')) := by
  intro p e s0 m below meth c A E H locs ls hP hD hS hl
  obtain ⟨C, hr, hlocks, hA, hK, hN⟩ := id E
  obtain ⟨hx, hb, hml, hown, hts⟩ := id C
  unfold kX1_endPart at hB
  refine lv_aload_n hx hb dX1_endPart_0 rfl (lv_at hl 0 rfl) ?_
  refine q_get (v := .ref (a 25)) C inX1_endPart_X1 hK hP 21 rfl rfl 3 (by decide) rfl LX1_endPart_25 rfl dX1_endPart_1 ?_
  refine lv_aload_n hx hb dX1_endPart_4 rfl (lv_at hl 0 rfl) ?_
  refine q_get (v := .int (s.v 13)) C inX1_endPart_X1 hK hP 21 rfl rfl 7 (by decide) rfl LX1_endPart_57 rfl dX1_endPart_5 ?_
  obtain ⟨g1, hB⟩ := guard_inv hB
  refine q_iald (x := ((s.f 25) (Int32.toNatClampNeg (s.v 13)))) C hK hP 25 1 rfl rfl (vpb_in g1) dX1_endPart_8 rfl ?_
  refine lv_istore_n (lv' := [(1, .int ((s.f 25) (Int32.toNatClampNeg (s.v 13)))), (0, .ref (a 21))]) hx hb dX1_endPart_9 rfl hl (by decide) rfl (fun ls hl => ?_)
  refine lv_iload_n hx hb dX1_endPart_10 rfl (lv_at hl 0 rfl) ?_
  refine lv_bipush (v := 13) hx hb dX1_endPart_11 (by decide) ?_
  refine lv_icmp_ge (tgt := 46) hx hb dX1_endPart_13 (by decide) (fun c2 => ?_) (fun c2 => ?_)
  · have hB := if_p hB c2
    exact q_vret C hr hlocks hK hP hD hS (Nat.le_of_ble_eq_true rfl) (Nat.le_of_ble_eq_true rfl) dX1_endPart_46 (by cases hB; rfl)
  · have hB := if_n hB c2
    refine lv_aload_n hx hb dX1_endPart_16 rfl (lv_at hl 1 rfl) ?_
    refine q_get (v := .ref (a 23)) C inX1_endPart_X1 hK hP 21 rfl rfl 1 (by decide) rfl LX1_endPart_19 rfl dX1_endPart_17 ?_
    refine lv_aload_n hx hb dX1_endPart_20 rfl (lv_at hl 1 rfl) ?_
    refine q_get (v := .int (s.v 13)) C inX1_endPart_X1 hK hP 21 rfl rfl 7 (by decide) rfl LX1_endPart_57 rfl dX1_endPart_21 ?_
    refine lv_bipush (v := 13) hx hb dX1_endPart_24 (by decide) ?_
    refine lv_imul hx hb dX1_endPart_26 ?_
    refine lv_iload_n hx hb dX1_endPart_27 rfl (lv_at hl 0 rfl) ?_
    refine lv_iadd hx hb dX1_endPart_28 ?_
    refine lv_aload_n hx hb dX1_endPart_29 rfl (lv_at hl 1 rfl) ?_
    refine q_get (v := .int (s.v 12)) C inX1_endPart_X1 hK hP 21 rfl rfl 6 (by decide) rfl LX1_endPart_34 rfl dX1_endPart_30 ?_
    obtain ⟨g3, hB⟩ := guard_inv hB
    obtain ⟨s4, hs5, hB⟩ := letS_inv hB
    refine q_iast (f2 := (upd (s.f 23) (Int32.toNatClampNeg (((s.v 13) * 13) + ((s.f 25) (Int32.toNatClampNeg (s.v 13))))) (s.v 12))) (w2 := (wK cB cI cJ cZ cS a s4)) C hK hP hD hS 23 1 rfl rfl (vpb_in g3) dX1_endPart_33 rfl (by subst hs5; rfl) (fun H locs hP hD hS => ?_)
    refine lv_aload_n hx hb dX1_endPart_34 rfl (lv_at hl 1 rfl) ?_
    refine q_get (v := .ref (a 25)) C inX1_endPart_X1 hK hP 21 rfl rfl 3 (by decide) rfl LX1_endPart_25 rfl dX1_endPart_35 ?_
    refine lv_aload_n hx hb dX1_endPart_38 rfl (lv_at hl 1 rfl) ?_
    refine q_get (v := .int (s4.v 13)) C inX1_endPart_X1 hK hP 21 rfl rfl 7 (by decide) rfl LX1_endPart_57 rfl dX1_endPart_39 ?_
    refine lv_iload_n hx hb dX1_endPart_42 rfl (lv_at hl 0 rfl) ?_
    refine lv_iconst (v := 1) hx hb dX1_endPart_43 (by decide) ?_
    refine lv_iadd hx hb dX1_endPart_44 ?_
    obtain ⟨g6, hB⟩ := guard_inv hB
    obtain ⟨s7, hs8, hB⟩ := letS_inv hB
    refine q_iast (f2 := (upd (s4.f 25) (Int32.toNatClampNeg (s4.v 13)) (((s.f 25) (Int32.toNatClampNeg (s.v 13))) + 1))) (w2 := (wK cB cI cJ cZ cS a s7)) C hK hP hD hS 25 1 rfl rfl (vpb_in g6) dX1_endPart_45 rfl (by subst hs8; rfl) (fun H locs hP hD hS => ?_)
    exact q_vret C hr hlocks hK hP hD hS (Nat.le_of_ble_eq_true rfl) (Nat.le_of_ble_eq_true rfl) dX1_endPart_46 (by cases hB; rfl)
theorem ckX1_endPart {l : Launch} {dC : Nat → ClassId} {dI : Nat → Nat → Nat} {cB cI cJ cZ cS : ClassId} {a : Nat → Nat} {s' : KS} {s : KS} (hB : kX1_endPart s = some s') : CV l yX1_endPart wsX1_endPart ({ frames := 0, cells := 0, slots := 0, locals := 0 }) (dC, dI) (tysA cB cI cJ cZ cS) (wK cB cI cJ cZ cS a s) [.ref (a 21)] (fun u => u = (wK cB cI cJ cZ cS a s')) :=
  CV_of (cc := cX1_endPart) (maxL := 2) (ret := none) (by decide) rfl (Nat.le_of_ble_eq_true rfl) (bkX1_endPart _ hB)
theorem LX1_put_15 : Cond.fieldLink RX1 15 "GuessFerry$Laws" "steps" "[I" ∈ wsX1_put := by decide +kernel
theorem LX1_put_34 : Cond.fieldLink RX1 34 "GuessFerry$Laws" "length" "I" ∈ wsX1_put := by decide +kernel
theorem inX1_put_X1 : ∀ w ∈ u_ws RX1 TX1 9, w ∈ wsX1_put := fun _ h => List.mem_cons_of_mem _ (List.mem_append_right _ h)
set_option maxHeartbeats 4000000 in
set_option maxRecDepth 100000 in
theorem bkX1_put {l : Launch} {dC : Nat → ClassId} {dI : Nat → Nat → Nat} {cB cI cJ cZ cS : ClassId} {a : Nat → Nat} {as : List Value} {s' : KS} (s : KS) (x1 : Int32) (hB : kX1_put s x1 = some s') : BlkV l yX1_put wsX1_put ({ frames := 0, cells := 0, slots := 0, locals := 0 }) cX1_put 2 none (dC, dI) (tysA cB cI cJ cZ cS) as 0 (wK cB cI cJ cZ cS a s) [(0, .ref (a 21)), (1, .int x1)] [] (fun u => u = (wK cB cI cJ cZ cS a s')) := by
  intro p e s0 m below meth c A E H locs ls hP hD hS hl
  obtain ⟨C, hr, hlocks, hA, hK, hN⟩ := id E
  obtain ⟨hx, hb, hml, hown, hts⟩ := id C
  unfold kX1_put at hB
  refine lv_aload_n hx hb dX1_put_0 rfl (lv_at hl 0 rfl) ?_
  refine q_get (v := .int (s.v 12)) C inX1_put_X1 hK hP 21 rfl rfl 6 (by decide) rfl LX1_put_34 rfl dX1_put_1 ?_
  refine lv_sipush (v := 404) hx hb dX1_put_4 (by decide) ?_
  refine lv_icmp_ge (tgt := 30) hx hb dX1_put_7 (by decide) (fun c1 => ?_) (fun c1 => ?_)
  · have hB := if_p hB c1
    exact q_vret C hr hlocks hK hP hD hS (Nat.le_of_ble_eq_true rfl) (Nat.le_of_ble_eq_true rfl) dX1_put_30 (by cases hB; rfl)
  · have hB := if_n hB c1
    refine lv_aload_n hx hb dX1_put_10 rfl (lv_at hl 0 rfl) ?_
    refine q_get (v := .ref (a 22)) C inX1_put_X1 hK hP 21 rfl rfl 0 (by decide) rfl LX1_put_15 rfl dX1_put_11 ?_
    refine lv_aload_n hx hb dX1_put_14 rfl (lv_at hl 0 rfl) ?_
    refine q_get (v := .int (s.v 12)) C inX1_put_X1 hK hP 21 rfl rfl 6 (by decide) rfl LX1_put_34 rfl dX1_put_15 ?_
    refine lv_iload_n hx hb dX1_put_18 rfl (lv_at hl 1 rfl) ?_
    obtain ⟨g2, hB⟩ := guard_inv hB
    obtain ⟨s3, hs4, hB⟩ := letS_inv hB
    refine q_iast (f2 := (upd (s.f 22) (Int32.toNatClampNeg (s.v 12)) x1)) (w2 := (wK cB cI cJ cZ cS a s3)) C hK hP hD hS 22 1 rfl rfl (vpb_in g2) dX1_put_19 rfl (by subst hs4; rfl) (fun H locs hP hD hS => ?_)
    refine lv_aload_n hx hb dX1_put_20 rfl (lv_at hl 0 rfl) ?_
    refine lv_dup hx hb dX1_put_21 rfl ?_
    refine q_get (v := .int (s3.v 12)) C inX1_put_X1 hK hP 21 rfl rfl 6 (by decide) rfl LX1_put_34 rfl dX1_put_22 ?_
    refine lv_iconst (v := 1) hx hb dX1_put_25 (by decide) ?_
    refine lv_iadd hx hb dX1_put_26 ?_
    obtain ⟨s5, hs6, hB⟩ := letS_inv hB
    refine q_put (ty := .int) (w2 := (wK cB cI cJ cZ cS a s5)) tyX1 tyX1_ok nmX1 C inX1_put_X1 hK hP hD hS 21 rfl rfl 6 (by decide) rfl LX1_put_34 rfl (by decide +kernel) (rfl) rfl (Nat.le_of_ble_eq_true rfl) dX1_put_27 (by subst hs6; rfl) (fun H locs hP hD hS => ?_)
    exact q_vret C hr hlocks hK hP hD hS (Nat.le_of_ble_eq_true rfl) (Nat.le_of_ble_eq_true rfl) dX1_put_30 (by cases hB; rfl)
theorem ckX1_put {l : Launch} {dC : Nat → ClassId} {dI : Nat → Nat → Nat} {cB cI cJ cZ cS : ClassId} {a : Nat → Nat} {s' : KS} {s : KS} {x1 : Int32} (hB : kX1_put s x1 = some s') : CV l yX1_put wsX1_put ({ frames := 0, cells := 0, slots := 0, locals := 0 }) (dC, dI) (tysA cB cI cJ cZ cS) (wK cB cI cJ cZ cS a s) [.ref (a 21), .int x1] (fun u => u = (wK cB cI cJ cZ cS a s')) :=
  CV_of (cc := cX1_put) (maxL := 2) (ret := none) (by decide) rfl (Nat.le_of_ble_eq_true rfl) (bkX1_put _ _ hB)
theorem LX1_joined_63 : Cond.fieldLink RX1 63 "GuessFerry$Laws" "isByZero" "Z" ∈ wsX1_joined := by decide +kernel
theorem inX1_joined_X1 : ∀ w ∈ u_ws RX1 TX1 9, w ∈ wsX1_joined := fun _ h => List.mem_cons_of_mem _ (List.mem_append_right _ h)
set_option maxHeartbeats 4000000 in
set_option maxRecDepth 100000 in
theorem bkX1_joined {l : Launch} {dC : Nat → ClassId} {dI : Nat → Nat → Nat} {cB cI cJ cZ cS : ClassId} {a : Nat → Nat} {as : List Value} {r : Int32} {s' : KS} (s : KS) (x1 : Int32) (x2 : Int32) (x3 : Int32) (hB : kX1_joined s x1 x2 x3 = some (r, s')) : BlkI l yX1_joined wsX1_joined ({ frames := 0, cells := 0, slots := 0, locals := 0 }) cX1_joined 4 (some .int) (dC, dI) (tysA cB cI cJ cZ cS) as 0 (wK cB cI cJ cZ cS a s) [(0, .ref (a 8)), (1, .int x1), (2, .int x2), (3, .int x3)] [] (fun x u => x = r ∧ u = (wK cB cI cJ cZ cS a s')) := by
  intro p e s0 m below meth c A E H locs ls hP hD hS hl
  obtain ⟨C, hr, hlocks, hA, hK, hN⟩ := id E
  obtain ⟨hx, hb, hml, hown, hts⟩ := id C
  unfold kX1_joined at hB
  refine lv_iload_n hx hb dX1_joined_0 rfl (lv_at hl 1 rfl) ?_
  by_cases e1 : x1 = 42
  · have hB := if_p hB e1
    refine q_top (y := 42) e1 ?_
    refine lv_tableIn (off := 39) (tgt := 40) hx hb dX1_joined_1 (by decide +kernel) (by decide +kernel) (by decide +kernel) (by decide) ?_
    refine lv_iload_n hx hb dX1_joined_40 rfl (lv_at hl 2 rfl) ?_
    refine lv_iload_n hx hb dX1_joined_41 rfl (lv_at hl 3 rfl) ?_
    refine lv_imul hx hb dX1_joined_42 ?_
    exact q_iret C hr hlocks hK hP hD hS (Nat.le_of_ble_eq_true rfl) (Nat.le_of_ble_eq_true rfl) dX1_joined_43 (by cases hB; exact ⟨rfl, rfl⟩)
  · have hB := if_n hB e1
    by_cases e2 : x1 = 43
    · have hB := if_p hB e2
      refine q_top (y := 43) e2 ?_
      refine lv_tableIn (off := 31) (tgt := 32) hx hb dX1_joined_1 (by decide +kernel) (by decide +kernel) (by decide +kernel) (by decide) ?_
      refine lv_iload_n hx hb dX1_joined_32 rfl (lv_at hl 2 rfl) ?_
      refine lv_iload_n hx hb dX1_joined_33 rfl (lv_at hl 3 rfl) ?_
      refine lv_iadd hx hb dX1_joined_34 ?_
      exact q_iret C hr hlocks hK hP hD hS (Nat.le_of_ble_eq_true rfl) (Nat.le_of_ble_eq_true rfl) dX1_joined_35 (by cases hB; exact ⟨rfl, rfl⟩)
    · have hB := if_n hB e2
      by_cases e3 : x1 = 44
      · have hB := if_p hB e3
        refine q_top (y := 44) e3 ?_
        refine lv_tableIn (off := 43) (tgt := 44) hx hb dX1_joined_1 (by decide +kernel) (by decide +kernel) (by decide +kernel) (by decide) ?_
        refine lv_iload_n hx hb dX1_joined_44 rfl (lv_at hl 3 rfl) ?_
        refine lv_if_ne (tgt := 55) hx hb dX1_joined_45 (by decide) (fun c4 => ?_) (fun c4 => ?_)
        · have hB := if_n hB c4
          refine lv_iload_n hx hb dX1_joined_55 rfl (lv_at hl 2 rfl) ?_
          refine lv_iload_n hx hb dX1_joined_56 rfl (lv_at hl 3 rfl) ?_
          obtain ⟨z5, hB⟩ := guard_inv hB
          refine lv_idiv hx hb dX1_joined_57 z5 ?_
          exact q_iret C hr hlocks hK hP hD hS (Nat.le_of_ble_eq_true rfl) (Nat.le_of_ble_eq_true rfl) dX1_joined_58 (by cases hB; exact ⟨rfl, rfl⟩)
        · have hB := if_p hB c4
          refine lv_aload_n hx hb dX1_joined_48 rfl (lv_at hl 0 rfl) ?_
          refine lv_iconst (v := 1) hx hb dX1_joined_49 (by decide) ?_
          obtain ⟨s6, hs7, hB⟩ := letS_inv hB
          refine q_put (ty := .boolean) (w2 := (wK cB cI cJ cZ cS a s6)) tyX1 tyX1_ok nmX1 C inX1_joined_X1 hK hP hD hS 8 rfl rfl 8 (by decide) rfl LX1_joined_63 rfl (by decide +kernel) (by decide +kernel) rfl (Nat.le_of_ble_eq_true rfl) dX1_joined_50 (by subst hs7; rfl) (fun H locs hP hD hS => ?_)
          refine lv_iconst (v := 0) hx hb dX1_joined_53 (by decide) ?_
          exact q_iret C hr hlocks hK hP hD hS (Nat.le_of_ble_eq_true rfl) (Nat.le_of_ble_eq_true rfl) dX1_joined_54 (by cases hB; exact ⟨rfl, rfl⟩)
      · have hB := if_n hB e3
        by_cases e8 : x1 = 45
        · have hB := if_p hB e8
          refine q_top (y := 45) e8 ?_
          refine lv_tableIn (off := 35) (tgt := 36) hx hb dX1_joined_1 (by decide +kernel) (by decide +kernel) (by decide +kernel) (by decide) ?_
          refine lv_iload_n hx hb dX1_joined_36 rfl (lv_at hl 2 rfl) ?_
          refine lv_iload_n hx hb dX1_joined_37 rfl (lv_at hl 3 rfl) ?_
          refine lv_isub hx hb dX1_joined_38 ?_
          exact q_iret C hr hlocks hK hP hD hS (Nat.le_of_ble_eq_true rfl) (Nat.le_of_ble_eq_true rfl) dX1_joined_39 (by cases hB; exact ⟨rfl, rfl⟩)
        · have hB := if_n hB e8
          refine lv_tableOut (tgt := 44) hx hb dX1_joined_1 (by have := ne_toInt (k := 42) rfl e1; have := ne_toInt (k := 43) rfl e2; have := ne_toInt (k := 44) rfl e3; have := ne_toInt (k := 45) rfl e8; omega) (by decide) ?_
          refine lv_iload_n hx hb dX1_joined_44 rfl (lv_at hl 3 rfl) ?_
          refine lv_if_ne (tgt := 55) hx hb dX1_joined_45 (by decide) (fun c9 => ?_) (fun c9 => ?_)
          · have hB := if_n hB c9
            refine lv_iload_n hx hb dX1_joined_55 rfl (lv_at hl 2 rfl) ?_
            refine lv_iload_n hx hb dX1_joined_56 rfl (lv_at hl 3 rfl) ?_
            obtain ⟨z10, hB⟩ := guard_inv hB
            refine lv_idiv hx hb dX1_joined_57 z10 ?_
            exact q_iret C hr hlocks hK hP hD hS (Nat.le_of_ble_eq_true rfl) (Nat.le_of_ble_eq_true rfl) dX1_joined_58 (by cases hB; exact ⟨rfl, rfl⟩)
          · have hB := if_p hB c9
            refine lv_aload_n hx hb dX1_joined_48 rfl (lv_at hl 0 rfl) ?_
            refine lv_iconst (v := 1) hx hb dX1_joined_49 (by decide) ?_
            obtain ⟨s11, hs12, hB⟩ := letS_inv hB
            refine q_put (ty := .boolean) (w2 := (wK cB cI cJ cZ cS a s11)) tyX1 tyX1_ok nmX1 C inX1_joined_X1 hK hP hD hS 8 rfl rfl 8 (by decide) rfl LX1_joined_63 rfl (by decide +kernel) (by decide +kernel) rfl (Nat.le_of_ble_eq_true rfl) dX1_joined_50 (by subst hs12; rfl) (fun H locs hP hD hS => ?_)
            refine lv_iconst (v := 0) hx hb dX1_joined_53 (by decide) ?_
            exact q_iret C hr hlocks hK hP hD hS (Nat.le_of_ble_eq_true rfl) (Nat.le_of_ble_eq_true rfl) dX1_joined_54 (by cases hB; exact ⟨rfl, rfl⟩)
theorem ckX1_joined {l : Launch} {dC : Nat → ClassId} {dI : Nat → Nat → Nat} {cB cI cJ cZ cS : ClassId} {a : Nat → Nat} {r : Int32} {s' : KS} {s : KS} {x1 : Int32} {x2 : Int32} {x3 : Int32} (hB : kX1_joined s x1 x2 x3 = some (r, s')) : CI l yX1_joined wsX1_joined ({ frames := 0, cells := 0, slots := 0, locals := 0 }) (dC, dI) (tysA cB cI cJ cZ cS) (wK cB cI cJ cZ cS a s) [.ref (a 8), .int x1, .int x2, .int x3] (fun x u => x = r ∧ u = (wK cB cI cJ cZ cS a s')) :=
  CI_of (cc := cX1_joined) (maxL := 4) (ret := (some .int)) (by decide) rfl (Nat.le_of_ble_eq_true rfl) (bkX1_joined _ _ _ _ hB)
theorem LX2_putOnTop_18 : Cond.fieldLink RX2 18 "GuessFerry$Outlook" "topGuesses" "[I" ∈ wsX2_putOnTop := by decide +kernel
theorem LX2_putOnTop_21 : Cond.fieldLink RX2 21 "GuessFerry$Outlook" "topOdds" "[I" ∈ wsX2_putOnTop := by decide +kernel
theorem inX2_putOnTop_X2 : ∀ w ∈ u_ws RX2 TX2 6, w ∈ wsX2_putOnTop := fun _ h => List.mem_cons_of_mem _ (List.mem_append_right _ h)
set_option maxHeartbeats 4000000 in
set_option maxRecDepth 100000 in
theorem bkX2_putOnTop_59 {l : Launch} {dC : Nat → ClassId} {dI : Nat → Nat → Nat} {cB cI cJ cZ cS : ClassId} {a : Nat → Nat} {as : List Value} {s' : KS} (s : KS) (x1 : Int32) (x2 : Int32) (x4 : Int32) (hB : kX2_putOnTop_59 s x1 x2 x4 = some s') : BlkV l yX2_putOnTop wsX2_putOnTop ({ frames := 0, cells := 0, slots := 0, locals := 0 }) cX2_putOnTop 5 none (dC, dI) (tysA cB cI cJ cZ cS) as 59 (wK cB cI cJ cZ cS a s) [(0, .ref (a 36)), (1, .int x1), (2, .int x2), (4, .int x4)] [] (fun u => u = (wK cB cI cJ cZ cS a s')) := by
  intro p e s0 m below meth c A E H locs ls hP hD hS hl
  obtain ⟨C, hr, hlocks, hA, hK, hN⟩ := id E
  obtain ⟨hx, hb, hml, hown, hts⟩ := id C
  unfold kX2_putOnTop_59 at hB
  refine lv_aload_n hx hb dX2_putOnTop_59 rfl (lv_at hl 0 rfl) ?_
  refine q_get (v := .ref (a 40)) C inX2_putOnTop_X2 hK hP 36 rfl rfl 5 (by decide) rfl LX2_putOnTop_21 rfl dX2_putOnTop_60 ?_
  refine lv_iload hx hb dX2_putOnTop_63 (lv_at hl 3 rfl) ?_
  refine lv_iload_n hx hb dX2_putOnTop_65 rfl (lv_at hl 2 rfl) ?_
  obtain ⟨g1, hB⟩ := guard_inv hB
  obtain ⟨s2, hs3, hB⟩ := letS_inv hB
  refine q_iast (f2 := (upd (s.f 40) (Int32.toNatClampNeg x4) x2)) (w2 := (wK cB cI cJ cZ cS a s2)) C hK hP hD hS 40 1 rfl rfl (vpb_in g1) dX2_putOnTop_66 rfl (by subst hs3; rfl) (fun H locs hP hD hS => ?_)
  refine lv_aload_n hx hb dX2_putOnTop_67 rfl (lv_at hl 0 rfl) ?_
  refine q_get (v := .ref (a 39)) C inX2_putOnTop_X2 hK hP 36 rfl rfl 4 (by decide) rfl LX2_putOnTop_18 rfl dX2_putOnTop_68 ?_
  refine lv_iload hx hb dX2_putOnTop_71 (lv_at hl 3 rfl) ?_
  refine lv_iload_n hx hb dX2_putOnTop_73 rfl (lv_at hl 1 rfl) ?_
  obtain ⟨g4, hB⟩ := guard_inv hB
  obtain ⟨s5, hs6, hB⟩ := letS_inv hB
  refine q_iast (f2 := (upd (s2.f 39) (Int32.toNatClampNeg x4) x1)) (w2 := (wK cB cI cJ cZ cS a s5)) C hK hP hD hS 39 1 rfl rfl (vpb_in g4) dX2_putOnTop_74 rfl (by subst hs6; rfl) (fun H locs hP hD hS => ?_)
  exact q_vret C hr hlocks hK hP hD hS (Nat.le_of_ble_eq_true rfl) (Nat.le_of_ble_eq_true rfl) dX2_putOnTop_75 (by cases hB; rfl)
set_option maxHeartbeats 4000000 in
set_option maxRecDepth 100000 in
theorem bkX2_putOnTop_3 {l : Launch} {dC : Nat → ClassId} {dI : Nat → Nat → Nat} {cB cI cJ cZ cS : ClassId} {a : Nat → Nat} {as : List Value} {s' : KS} {k3 : KS → Int32 → Int32 → Int32 → Option KS} (hk3 : ∀ (s : KS) (x1 : Int32) (x2 : Int32) (x4 : Int32), k3 s x1 x2 x4 = some s' → BlkV l yX2_putOnTop wsX2_putOnTop ({ frames := 0, cells := 0, slots := 0, locals := 0 }) cX2_putOnTop 5 none (dC, dI) (tysA cB cI cJ cZ cS) as 3 (wK cB cI cJ cZ cS a s) [(0, .ref (a 36)), (1, .int x1), (2, .int x2), (4, .int x4)] [] (fun u => u = (wK cB cI cJ cZ cS a s'))) (s : KS) (x1 : Int32) (x2 : Int32) (x4 : Int32) (hB : kX2_putOnTop_3 k3 s x1 x2 x4 = some s') : BlkV l yX2_putOnTop wsX2_putOnTop ({ frames := 0, cells := 0, slots := 0, locals := 0 }) cX2_putOnTop 5 none (dC, dI) (tysA cB cI cJ cZ cS) as 3 (wK cB cI cJ cZ cS a s) [(0, .ref (a 36)), (1, .int x1), (2, .int x2), (4, .int x4)] [] (fun u => u = (wK cB cI cJ cZ cS a s')) := by
  intro p e s0 m below meth c A E H locs ls hP hD hS hl
  obtain ⟨C, hr, hlocks, hA, hK, hN⟩ := id E
  obtain ⟨hx, hb, hml, hown, hts⟩ := id C
  unfold kX2_putOnTop_3 at hB
  refine lv_iload hx hb dX2_putOnTop_3 (lv_at hl 3 rfl) ?_
  refine lv_if_le (tgt := 59) hx hb dX2_putOnTop_5 (by decide) (fun c1 => ?_) (fun c1 => ?_)
  · have hB := if_p hB c1
    exact bkX2_putOnTop_59 _ _ _ _ hB p e s0 m below meth c A E H locs ls hP hD hS (lv_sub hl [0, 1, 2, 3] rfl)
  · have hB := if_n hB c1
    refine lv_aload_n hx hb dX2_putOnTop_8 rfl (lv_at hl 0 rfl) ?_
    refine q_get (v := .ref (a 40)) C inX2_putOnTop_X2 hK hP 36 rfl rfl 5 (by decide) rfl LX2_putOnTop_21 rfl dX2_putOnTop_9 ?_
    refine lv_iload hx hb dX2_putOnTop_12 (lv_at hl 3 rfl) ?_
    refine lv_iconst (v := 1) hx hb dX2_putOnTop_14 (by decide) ?_
    refine lv_isub hx hb dX2_putOnTop_15 ?_
    obtain ⟨g2, hB⟩ := guard_inv hB
    refine q_iald (x := ((s.f 40) (Int32.toNatClampNeg (x4 - 1)))) C hK hP 40 1 rfl rfl (vpb_in g2) dX2_putOnTop_16 rfl ?_
    refine lv_iload_n hx hb dX2_putOnTop_17 rfl (lv_at hl 2 rfl) ?_
    refine lv_icmp_ge (tgt := 59) hx hb dX2_putOnTop_18 (by decide) (fun c3 => ?_) (fun c3 => ?_)
    · have hB := if_p hB c3
      exact bkX2_putOnTop_59 _ _ _ _ hB p e s0 m below meth c A E H locs ls hP hD hS (lv_sub hl [0, 1, 2, 3] rfl)
    · have hB := if_n hB c3
      refine lv_aload_n hx hb dX2_putOnTop_21 rfl (lv_at hl 0 rfl) ?_
      refine q_get (v := .ref (a 40)) C inX2_putOnTop_X2 hK hP 36 rfl rfl 5 (by decide) rfl LX2_putOnTop_21 rfl dX2_putOnTop_22 ?_
      refine lv_iload hx hb dX2_putOnTop_25 (lv_at hl 3 rfl) ?_
      refine lv_aload_n hx hb dX2_putOnTop_27 rfl (lv_at hl 0 rfl) ?_
      refine q_get (v := .ref (a 40)) C inX2_putOnTop_X2 hK hP 36 rfl rfl 5 (by decide) rfl LX2_putOnTop_21 rfl dX2_putOnTop_28 ?_
      refine lv_iload hx hb dX2_putOnTop_31 (lv_at hl 3 rfl) ?_
      refine lv_iconst (v := 1) hx hb dX2_putOnTop_33 (by decide) ?_
      refine lv_isub hx hb dX2_putOnTop_34 ?_
      obtain ⟨g4, hB⟩ := guard_inv hB
      refine q_iald (x := ((s.f 40) (Int32.toNatClampNeg (x4 - 1)))) C hK hP 40 1 rfl rfl (vpb_in g4) dX2_putOnTop_35 rfl ?_
      obtain ⟨g5, hB⟩ := guard_inv hB
      obtain ⟨s6, hs7, hB⟩ := letS_inv hB
      refine q_iast (f2 := (upd (s.f 40) (Int32.toNatClampNeg x4) ((s.f 40) (Int32.toNatClampNeg (x4 - 1))))) (w2 := (wK cB cI cJ cZ cS a s6)) C hK hP hD hS 40 1 rfl rfl (vpb_in g5) dX2_putOnTop_36 rfl (by subst hs7; rfl) (fun H locs hP hD hS => ?_)
      refine lv_aload_n hx hb dX2_putOnTop_37 rfl (lv_at hl 0 rfl) ?_
      refine q_get (v := .ref (a 39)) C inX2_putOnTop_X2 hK hP 36 rfl rfl 4 (by decide) rfl LX2_putOnTop_18 rfl dX2_putOnTop_38 ?_
      refine lv_iload hx hb dX2_putOnTop_41 (lv_at hl 3 rfl) ?_
      refine lv_aload_n hx hb dX2_putOnTop_43 rfl (lv_at hl 0 rfl) ?_
      refine q_get (v := .ref (a 39)) C inX2_putOnTop_X2 hK hP 36 rfl rfl 4 (by decide) rfl LX2_putOnTop_18 rfl dX2_putOnTop_44 ?_
      refine lv_iload hx hb dX2_putOnTop_47 (lv_at hl 3 rfl) ?_
      refine lv_iconst (v := 1) hx hb dX2_putOnTop_49 (by decide) ?_
      refine lv_isub hx hb dX2_putOnTop_50 ?_
      obtain ⟨g8, hB⟩ := guard_inv hB
      refine q_iald (x := ((s6.f 39) (Int32.toNatClampNeg (x4 - 1)))) C hK hP 39 1 rfl rfl (vpb_in g8) dX2_putOnTop_51 rfl ?_
      obtain ⟨g9, hB⟩ := guard_inv hB
      obtain ⟨s10, hs11, hB⟩ := letS_inv hB
      refine q_iast (f2 := (upd (s6.f 39) (Int32.toNatClampNeg x4) ((s6.f 39) (Int32.toNatClampNeg (x4 - 1))))) (w2 := (wK cB cI cJ cZ cS a s10)) C hK hP hD hS 39 1 rfl rfl (vpb_in g9) dX2_putOnTop_52 rfl (by subst hs11; rfl) (fun H locs hP hD hS => ?_)
      refine lv_iinc (v := (x4 + (-1))) (lv' := [(4, .int (x4 + (-1))), (0, .ref (a 36)), (1, .int x1), (2, .int x2)]) hx hb dX2_putOnTop_53 hl (k := 3) rfl (rfl) (by decide) rfl (fun ls hl => ?_)
      refine lv_goto (tgt := 3) hx hb dX2_putOnTop_56 (by decide) ?_
      exact hk3 _ _ _ _ hB p e s0 m below meth c A E H locs ls hP hD hS (lv_sub hl [1, 2, 3, 0] rfl)
theorem bkX2_putOnTop_3L {l : Launch} {dC : Nat → ClassId} {dI : Nat → Nat → Nat} {cB cI cJ cZ cS : ClassId} {a : Nat → Nat} {as : List Value} {s' : KS} : ∀ (n : Nat) (s : KS) (x1 : Int32) (x2 : Int32) (x4 : Int32), kX2_putOnTop_3L n s x1 x2 x4 = some s' → BlkV l yX2_putOnTop wsX2_putOnTop ({ frames := 0, cells := 0, slots := 0, locals := 0 }) cX2_putOnTop 5 none (dC, dI) (tysA cB cI cJ cZ cS) as 3 (wK cB cI cJ cZ cS a s) [(0, .ref (a 36)), (1, .int x1), (2, .int x2), (4, .int x4)] [] (fun u => u = (wK cB cI cJ cZ cS a s')) := by
  intro n
  induction n with
  | zero => intro s x1 x2 x4 hB; exact none_ne hB
  | succ n ih => intro s x1 x2 x4 hB; exact bkX2_putOnTop_3 ih _ _ _ _ hB
set_option maxHeartbeats 4000000 in
set_option maxRecDepth 100000 in
theorem bkX2_putOnTop {l : Launch} {dC : Nat → ClassId} {dI : Nat → Nat → Nat} {cB cI cJ cZ cS : ClassId} {a : Nat → Nat} {as : List Value} {s' : KS} (s : KS) (x1 : Int32) (x2 : Int32) (x3 : Int32) (hB : kX2_putOnTop s x1 x2 x3 = some s') : BlkV l yX2_putOnTop wsX2_putOnTop ({ frames := 0, cells := 0, slots := 0, locals := 0 }) cX2_putOnTop 5 none (dC, dI) (tysA cB cI cJ cZ cS) as 0 (wK cB cI cJ cZ cS a s) [(0, .ref (a 36)), (1, .int x1), (2, .int x2), (3, .int x3)] [] (fun u => u = (wK cB cI cJ cZ cS a s')) := by
  intro p e s0 m below meth c A E H locs ls hP hD hS hl
  obtain ⟨C, hr, hlocks, hA, hK, hN⟩ := id E
  obtain ⟨hx, hb, hml, hown, hts⟩ := id C
  unfold kX2_putOnTop at hB
  refine lv_iload_n hx hb dX2_putOnTop_0 rfl (lv_at hl 3 rfl) ?_
  refine lv_istore (lv' := [(4, .int x3), (0, .ref (a 36)), (1, .int x1), (2, .int x2), (3, .int x3)]) hx hb dX2_putOnTop_1 hl (by decide) rfl (fun ls hl => ?_)
  exact bkX2_putOnTop_3L fu _ _ _ _ hB p e s0 m below meth c A E H locs ls hP hD hS (lv_sub hl [1, 2, 3, 0] rfl)
theorem ckX2_putOnTop {l : Launch} {dC : Nat → ClassId} {dI : Nat → Nat → Nat} {cB cI cJ cZ cS : ClassId} {a : Nat → Nat} {s' : KS} {s : KS} {x1 : Int32} {x2 : Int32} {x3 : Int32} (hB : kX2_putOnTop s x1 x2 x3 = some s') : CV l yX2_putOnTop wsX2_putOnTop ({ frames := 0, cells := 0, slots := 0, locals := 0 }) (dC, dI) (tysA cB cI cJ cZ cS) (wK cB cI cJ cZ cS a s) [.ref (a 36), .int x1, .int x2, .int x3] (fun u => u = (wK cB cI cJ cZ cS a s')) :=
  CV_of (cc := cX2_putOnTop) (maxL := 5) (ret := none) (by decide) rfl (Nat.le_of_ble_eq_true rfl) (bkX2_putOnTop _ _ _ _ hB)
theorem LX3_forgetAll_20 : Cond.fieldLink RX3 20 "GuessFerry$Past" "isHeld" "[Z" ∈ wsX3_forgetAll := by decide +kernel
theorem LX3_forgetAll_25 : Cond.fieldLink RX3 25 "GuessFerry$Past" "size" "I" ∈ wsX3_forgetAll := by decide +kernel
theorem inX3_forgetAll_X3 : ∀ w ∈ u_ws RX3 TX3 5, w ∈ wsX3_forgetAll := fun _ h => List.mem_cons_of_mem _ (List.mem_append_right _ h)
set_option maxHeartbeats 4000000 in
set_option maxRecDepth 100000 in
theorem bkX3_forgetAll_7 {l : Launch} {dC : Nat → ClassId} {dI : Nat → Nat → Nat} {cB cI cJ cZ cS : ClassId} {a b b2 c0 : Nat → Nat} {rg sl : Nat → Option Nat} {as : List Value} {s' : GS} {k7 : GS → Int32 → Option GS} (hk7 : ∀ (s : GS) (x1 : Int32), k7 s x1 = some s' → BlkV l yX3_forgetAll wsX3_forgetAll ({ frames := 0, cells := 0, slots := 0, locals := 0 }) cX3_forgetAll 2 none (dC, dI) (tysA cB cI cJ cZ cS) as 7 (wG cZ cS a b b2 c0 rg sl s) [(0, .ref (c0 1)), (1, .int x1)] [] (fun u => u = (wG cZ cS a b b2 c0 rg sl s'))) (s : GS) (x1 : Int32) (hB : kX3_forgetAll_7 k7 s x1 = some s') : BlkV l yX3_forgetAll wsX3_forgetAll ({ frames := 0, cells := 0, slots := 0, locals := 0 }) cX3_forgetAll 2 none (dC, dI) (tysA cB cI cJ cZ cS) as 7 (wG cZ cS a b b2 c0 rg sl s) [(0, .ref (c0 1)), (1, .int x1)] [] (fun u => u = (wG cZ cS a b b2 c0 rg sl s')) := by
  intro p e s0 m below meth c A E H locs ls hP hD hS hl
  obtain ⟨C, hr, hlocks, hA, hK, hN⟩ := id E
  obtain ⟨hx, hb, hml, hown, hts⟩ := id C
  unfold kX3_forgetAll_7 at hB
  refine lv_iload_n hx hb dX3_forgetAll_7 rfl (lv_at hl 1 rfl) ?_
  refine lv_iconst (v := 3) hx hb dX3_forgetAll_8 (by decide) ?_
  refine lv_icmp_ge (tgt := 25) hx hb dX3_forgetAll_9 (by decide) (fun c1 => ?_) (fun c1 => ?_)
  · have hB := if_p hB c1
    exact q_vret C hr hlocks hK hP hD hS (Nat.le_of_ble_eq_true rfl) (Nat.le_of_ble_eq_true rfl) dX3_forgetAll_25 (by cases hB; rfl)
  · have hB := if_n hB c1
    refine lv_aload_n hx hb dX3_forgetAll_12 rfl (lv_at hl 0 rfl) ?_
    refine q_get (v := .ref (c0 4)) C inX3_forgetAll_X3 hK hP 1 rfl rfl 2 (by decide) rfl LX3_forgetAll_20 rfl dX3_forgetAll_13 ?_
    refine lv_iload_n hx hb dX3_forgetAll_16 rfl (lv_at hl 1 rfl) ?_
    refine lv_iconst (v := 0) hx hb dX3_forgetAll_17 (by decide) ?_
    obtain ⟨g2, hB⟩ := guard_inv hB
    obtain ⟨s3, hs4, hB⟩ := letS_inv hB
    refine q_zast (f2 := (upd (s.f 4) (Int32.toNatClampNeg x1) (vp_nar .boolean 0))) (w2 := (wG cZ cS a b b2 c0 rg sl s3)) C hK hP hD hS 4 3 rfl rfl (vpb_in g2) dX3_forgetAll_18 rfl (by subst hs4; rfl) (fun H locs hP hD hS => ?_)
    refine lv_iinc (v := (x1 + 1)) (lv' := [(1, .int (x1 + 1)), (0, .ref (c0 1))]) hx hb dX3_forgetAll_19 hl (k := 1) rfl (rfl) (by decide) rfl (fun ls hl => ?_)
    refine lv_goto (tgt := 7) hx hb dX3_forgetAll_22 (by decide) ?_
    exact hk7 _ _ hB p e s0 m below meth c A E H locs ls hP hD hS (lv_sub hl [1, 0] rfl)
theorem bkX3_forgetAll_7L {l : Launch} {dC : Nat → ClassId} {dI : Nat → Nat → Nat} {cB cI cJ cZ cS : ClassId} {a b b2 c0 : Nat → Nat} {rg sl : Nat → Option Nat} {as : List Value} {s' : GS} : ∀ (n : Nat) (s : GS) (x1 : Int32), kX3_forgetAll_7L n s x1 = some s' → BlkV l yX3_forgetAll wsX3_forgetAll ({ frames := 0, cells := 0, slots := 0, locals := 0 }) cX3_forgetAll 2 none (dC, dI) (tysA cB cI cJ cZ cS) as 7 (wG cZ cS a b b2 c0 rg sl s) [(0, .ref (c0 1)), (1, .int x1)] [] (fun u => u = (wG cZ cS a b b2 c0 rg sl s')) := by
  intro n
  induction n with
  | zero => intro s x1 hB; exact none_ne hB
  | succ n ih => intro s x1 hB; exact bkX3_forgetAll_7 ih _ _ hB
set_option maxHeartbeats 4000000 in
set_option maxRecDepth 100000 in
theorem bkX3_forgetAll {l : Launch} {dC : Nat → ClassId} {dI : Nat → Nat → Nat} {cB cI cJ cZ cS : ClassId} {a b b2 c0 : Nat → Nat} {rg sl : Nat → Option Nat} {as : List Value} {s' : GS} (s : GS) (hB : kX3_forgetAll s = some s') : BlkV l yX3_forgetAll wsX3_forgetAll ({ frames := 0, cells := 0, slots := 0, locals := 0 }) cX3_forgetAll 2 none (dC, dI) (tysA cB cI cJ cZ cS) as 0 (wG cZ cS a b b2 c0 rg sl s) [(0, .ref (c0 1))] [] (fun u => u = (wG cZ cS a b b2 c0 rg sl s')) := by
  intro p e s0 m below meth c A E H locs ls hP hD hS hl
  obtain ⟨C, hr, hlocks, hA, hK, hN⟩ := id E
  obtain ⟨hx, hb, hml, hown, hts⟩ := id C
  unfold kX3_forgetAll at hB
  refine lv_aload_n hx hb dX3_forgetAll_0 rfl (lv_at hl 0 rfl) ?_
  refine lv_iconst (v := 0) hx hb dX3_forgetAll_1 (by decide) ?_
  obtain ⟨s1, hs2, hB⟩ := letS_inv hB
  refine q_put (ty := .int) (w2 := (wG cZ cS a b b2 c0 rg sl s1)) tyX3 tyX3_ok nmX3 C inX3_forgetAll_X3 hK hP hD hS 1 rfl rfl 4 (by decide) rfl LX3_forgetAll_25 rfl (by decide +kernel) (rfl) rfl (Nat.le_of_ble_eq_true rfl) dX3_forgetAll_2 (by subst hs2; rfl) (fun H locs hP hD hS => ?_)
  refine lv_iconst (v := 0) hx hb dX3_forgetAll_5 (by decide) ?_
  refine lv_istore_n (lv' := [(1, .int 0), (0, .ref (c0 1))]) hx hb dX3_forgetAll_6 rfl hl (by decide) rfl (fun ls hl => ?_)
  exact bkX3_forgetAll_7L fu _ _ hB p e s0 m below meth c A E H locs ls hP hD hS (lv_sub hl [1, 0] rfl)
theorem ckX3_forgetAll {l : Launch} {dC : Nat → ClassId} {dI : Nat → Nat → Nat} {cB cI cJ cZ cS : ClassId} {a b b2 c0 : Nat → Nat} {rg sl : Nat → Option Nat} {s' : GS} {s : GS} (hB : kX3_forgetAll s = some s') : CV l yX3_forgetAll wsX3_forgetAll ({ frames := 0, cells := 0, slots := 0, locals := 0 }) (dC, dI) (tysA cB cI cJ cZ cS) (wG cZ cS a b b2 c0 rg sl s) [.ref (c0 1)] (fun u => u = (wG cZ cS a b b2 c0 rg sl s')) :=
  CV_of (cc := cX3_forgetAll) (maxL := 2) (ret := none) (by decide) rfl (Nat.le_of_ble_eq_true rfl) (bkX3_forgetAll _ hB)
theorem LX3_slotsHeld_20 : Cond.fieldLink RX3 20 "GuessFerry$Past" "isHeld" "[Z" ∈ wsX3_slotsHeld := by decide +kernel
theorem inX3_slotsHeld_X3 : ∀ w ∈ u_ws RX3 TX3 5, w ∈ wsX3_slotsHeld := fun _ h => List.mem_cons_of_mem _ (List.mem_append_right _ h)
set_option maxHeartbeats 4000000 in
set_option maxRecDepth 100000 in
theorem bkX3_slotsHeld_24 {l : Launch} {dC : Nat → ClassId} {dI : Nat → Nat → Nat} {cB cI cJ cZ cS : ClassId} {a b b2 c0 : Nat → Nat} {rg sl : Nat → Option Nat} {as : List Value} {r : Int32} {s' : GS} {k4 : GS → Int32 → Int32 → Option (Int32 × GS)} (hk4 : ∀ (s : GS) (x1 : Int32) (x2 : Int32), k4 s x1 x2 = some (r, s') → BlkI l yX3_slotsHeld wsX3_slotsHeld ({ frames := 0, cells := 0, slots := 0, locals := 0 }) cX3_slotsHeld 3 (some .int) (dC, dI) (tysA cB cI cJ cZ cS) as 4 (wG cZ cS a b b2 c0 rg sl s) [(0, .ref (c0 1)), (1, .int x1), (2, .int x2)] [] (fun x u => x = r ∧ u = (wG cZ cS a b b2 c0 rg sl s'))) (s : GS) (x2 : Int32) (t0 : Int32) (t1 : Int32) (hB : kX3_slotsHeld_24 k4 s x2 t0 t1 = some (r, s')) : BlkI l yX3_slotsHeld wsX3_slotsHeld ({ frames := 0, cells := 0, slots := 0, locals := 0 }) cX3_slotsHeld 3 (some .int) (dC, dI) (tysA cB cI cJ cZ cS) as 24 (wG cZ cS a b b2 c0 rg sl s) [(0, .ref (c0 1)), (2, .int x2)] [.int t0, .int t1] (fun x u => x = r ∧ u = (wG cZ cS a b b2 c0 rg sl s')) := by
  intro p e s0 m below meth c A E H locs ls hP hD hS hl
  obtain ⟨C, hr, hlocks, hA, hK, hN⟩ := id E
  obtain ⟨hx, hb, hml, hown, hts⟩ := id C
  unfold kX3_slotsHeld_24 at hB
  refine lv_iadd hx hb dX3_slotsHeld_24 ?_
  refine lv_istore_n (lv' := [(1, .int (t1 + t0)), (0, .ref (c0 1)), (2, .int x2)]) hx hb dX3_slotsHeld_25 rfl hl (by decide) rfl (fun ls hl => ?_)
  refine lv_iinc (v := (x2 + 1)) (lv' := [(2, .int (x2 + 1)), (1, .int (t1 + t0)), (0, .ref (c0 1))]) hx hb dX3_slotsHeld_26 hl (k := 2) rfl (rfl) (by decide) rfl (fun ls hl => ?_)
  refine lv_goto (tgt := 4) hx hb dX3_slotsHeld_29 (by decide) ?_
  exact hk4 _ _ _ hB p e s0 m below meth c A E H locs ls hP hD hS (lv_sub hl [2, 1, 0] rfl)
set_option maxHeartbeats 4000000 in
set_option maxRecDepth 100000 in
theorem bkX3_slotsHeld_4 {l : Launch} {dC : Nat → ClassId} {dI : Nat → Nat → Nat} {cB cI cJ cZ cS : ClassId} {a b b2 c0 : Nat → Nat} {rg sl : Nat → Option Nat} {as : List Value} {r : Int32} {s' : GS} {k4 : GS → Int32 → Int32 → Option (Int32 × GS)} (hk4 : ∀ (s : GS) (x1 : Int32) (x2 : Int32), k4 s x1 x2 = some (r, s') → BlkI l yX3_slotsHeld wsX3_slotsHeld ({ frames := 0, cells := 0, slots := 0, locals := 0 }) cX3_slotsHeld 3 (some .int) (dC, dI) (tysA cB cI cJ cZ cS) as 4 (wG cZ cS a b b2 c0 rg sl s) [(0, .ref (c0 1)), (1, .int x1), (2, .int x2)] [] (fun x u => x = r ∧ u = (wG cZ cS a b b2 c0 rg sl s'))) (s : GS) (x1 : Int32) (x2 : Int32) (hB : kX3_slotsHeld_4 k4 s x1 x2 = some (r, s')) : BlkI l yX3_slotsHeld wsX3_slotsHeld ({ frames := 0, cells := 0, slots := 0, locals := 0 }) cX3_slotsHeld 3 (some .int) (dC, dI) (tysA cB cI cJ cZ cS) as 4 (wG cZ cS a b b2 c0 rg sl s) [(0, .ref (c0 1)), (1, .int x1), (2, .int x2)] [] (fun x u => x = r ∧ u = (wG cZ cS a b b2 c0 rg sl s')) := by
  intro p e s0 m below meth c A E H locs ls hP hD hS hl
  obtain ⟨C, hr, hlocks, hA, hK, hN⟩ := id E
  obtain ⟨hx, hb, hml, hown, hts⟩ := id C
  unfold kX3_slotsHeld_4 at hB
  refine lv_iload_n hx hb dX3_slotsHeld_4 rfl (lv_at hl 2 rfl) ?_
  refine lv_iconst (v := 3) hx hb dX3_slotsHeld_5 (by decide) ?_
  refine lv_icmp_ge (tgt := 32) hx hb dX3_slotsHeld_6 (by decide) (fun c1 => ?_) (fun c1 => ?_)
  · have hB := if_p hB c1
    refine lv_iload_n hx hb dX3_slotsHeld_32 rfl (lv_at hl 1 rfl) ?_
    exact q_iret C hr hlocks hK hP hD hS (Nat.le_of_ble_eq_true rfl) (Nat.le_of_ble_eq_true rfl) dX3_slotsHeld_33 (by cases hB; exact ⟨rfl, rfl⟩)
  · have hB := if_n hB c1
    refine lv_iload_n hx hb dX3_slotsHeld_9 rfl (lv_at hl 1 rfl) ?_
    refine lv_aload_n hx hb dX3_slotsHeld_10 rfl (lv_at hl 0 rfl) ?_
    refine q_get (v := .ref (c0 4)) C inX3_slotsHeld_X3 hK hP 1 rfl rfl 2 (by decide) rfl LX3_slotsHeld_20 rfl dX3_slotsHeld_11 ?_
    refine lv_iload_n hx hb dX3_slotsHeld_14 rfl (lv_at hl 2 rfl) ?_
    obtain ⟨g2, hB⟩ := guard_inv hB
    refine q_zald (x := ((s.f 4) (Int32.toNatClampNeg x2))) C hK hP 4 3 rfl rfl (vpb_in g2) dX3_slotsHeld_15 rfl ?_
    refine lv_if_eq (tgt := 23) hx hb dX3_slotsHeld_16 (by decide) (fun c3 => ?_) (fun c3 => ?_)
    · have hB := if_p hB c3
      refine lv_iconst (v := 0) hx hb dX3_slotsHeld_23 (by decide) ?_
      exact bkX3_slotsHeld_24 (hk4) _ _ _ _ hB p e s0 m below meth c A E H locs ls hP hD hS (lv_sub hl [0, 2] rfl)
    · have hB := if_n hB c3
      refine lv_iconst (v := 1) hx hb dX3_slotsHeld_19 (by decide) ?_
      refine lv_goto (tgt := 24) hx hb dX3_slotsHeld_20 (by decide) ?_
      exact bkX3_slotsHeld_24 (hk4) _ _ _ _ hB p e s0 m below meth c A E H locs ls hP hD hS (lv_sub hl [0, 2] rfl)
theorem bkX3_slotsHeld_4L {l : Launch} {dC : Nat → ClassId} {dI : Nat → Nat → Nat} {cB cI cJ cZ cS : ClassId} {a b b2 c0 : Nat → Nat} {rg sl : Nat → Option Nat} {as : List Value} {r : Int32} {s' : GS} : ∀ (n : Nat) (s : GS) (x1 : Int32) (x2 : Int32), kX3_slotsHeld_4L n s x1 x2 = some (r, s') → BlkI l yX3_slotsHeld wsX3_slotsHeld ({ frames := 0, cells := 0, slots := 0, locals := 0 }) cX3_slotsHeld 3 (some .int) (dC, dI) (tysA cB cI cJ cZ cS) as 4 (wG cZ cS a b b2 c0 rg sl s) [(0, .ref (c0 1)), (1, .int x1), (2, .int x2)] [] (fun x u => x = r ∧ u = (wG cZ cS a b b2 c0 rg sl s')) := by
  intro n
  induction n with
  | zero => intro s x1 x2 hB; exact none_ne hB
  | succ n ih => intro s x1 x2 hB; exact bkX3_slotsHeld_4 ih _ _ _ hB
set_option maxHeartbeats 4000000 in
set_option maxRecDepth 100000 in
theorem bkX3_slotsHeld {l : Launch} {dC : Nat → ClassId} {dI : Nat → Nat → Nat} {cB cI cJ cZ cS : ClassId} {a b b2 c0 : Nat → Nat} {rg sl : Nat → Option Nat} {as : List Value} {r : Int32} {s' : GS} (s : GS) (hB : kX3_slotsHeld s = some (r, s')) : BlkI l yX3_slotsHeld wsX3_slotsHeld ({ frames := 0, cells := 0, slots := 0, locals := 0 }) cX3_slotsHeld 3 (some .int) (dC, dI) (tysA cB cI cJ cZ cS) as 0 (wG cZ cS a b b2 c0 rg sl s) [(0, .ref (c0 1))] [] (fun x u => x = r ∧ u = (wG cZ cS a b b2 c0 rg sl s')) := by
  intro p e s0 m below meth c A E H locs ls hP hD hS hl
  obtain ⟨C, hr, hlocks, hA, hK, hN⟩ := id E
  obtain ⟨hx, hb, hml, hown, hts⟩ := id C
  unfold kX3_slotsHeld at hB
  refine lv_iconst (v := 0) hx hb dX3_slotsHeld_0 (by decide) ?_
  refine lv_istore_n (lv' := [(1, .int 0), (0, .ref (c0 1))]) hx hb dX3_slotsHeld_1 rfl hl (by decide) rfl (fun ls hl => ?_)
  refine lv_iconst (v := 0) hx hb dX3_slotsHeld_2 (by decide) ?_
  refine lv_istore_n (lv' := [(2, .int 0), (1, .int 0), (0, .ref (c0 1))]) hx hb dX3_slotsHeld_3 rfl hl (by decide) rfl (fun ls hl => ?_)
  exact bkX3_slotsHeld_4L fu _ _ _ hB p e s0 m below meth c A E H locs ls hP hD hS (lv_sub hl [2, 1, 0] rfl)
theorem ckX3_slotsHeld {l : Launch} {dC : Nat → ClassId} {dI : Nat → Nat → Nat} {cB cI cJ cZ cS : ClassId} {a b b2 c0 : Nat → Nat} {rg sl : Nat → Option Nat} {r : Int32} {s' : GS} {s : GS} (hB : kX3_slotsHeld s = some (r, s')) : CI l yX3_slotsHeld wsX3_slotsHeld ({ frames := 0, cells := 0, slots := 0, locals := 0 }) (dC, dI) (tysA cB cI cJ cZ cS) (wG cZ cS a b b2 c0 rg sl s) [.ref (c0 1)] (fun x u => x = r ∧ u = (wG cZ cS a b b2 c0 rg sl s')) :=
  CI_of (cc := cX3_slotsHeld) (maxL := 3) (ret := (some .int)) (by decide) rfl (Nat.le_of_ble_eq_true rfl) (bkX3_slotsHeld _ hB)
theorem LX4_isAt_31 : Cond.fieldLink RX4 31 "GuessFerry$Reader" "tokens" "LGuessFerry$Tokens;" ∈ wsX4_isAt := by decide +kernel
theorem LX4_isAt_38 : Cond.fieldLink RX4 38 "GuessFerry$Reader" "at" "I" ∈ wsX4_isAt := by decide +kernel
theorem LX4_isAt_41 : Cond.fieldLink RX4 41 "GuessFerry$Reader" "fault" "I" ∈ wsX4_isAt := by decide +kernel
theorem inX4_isAt_X4 : ∀ w ∈ u_ws RX4 TX4 8, w ∈ wsX4_isAt := fun _ h => List.mem_cons_of_mem _ (List.mem_append_left _ (List.mem_append_right _ h))
theorem inX4_isAt_X9 : ∀ w ∈ u_ws RX9 TX9 7, w ∈ wsX4_isAt := fun _ h => List.mem_cons_of_mem _ (List.mem_append_right _ h)
set_option maxHeartbeats 4000000 in
set_option maxRecDepth 100000 in
theorem bkX4_isAt {l : Launch} {dC : Nat → ClassId} {dI : Nat → Nat → Nat} {cB cI cJ cZ cS : ClassId} {a : Nat → Nat} {as : List Value} {r : Int32} {s' : KS} (s : KS) (x1 : Int32) (hB : kX4_isAt s x1 = some (r, s')) : BlkI l yX4_isAt wsX4_isAt ({ frames := 0, cells := 0, slots := 0, locals := 0 }) cX4_isAt 2 (some .boolean) (dC, dI) (tysA cB cI cJ cZ cS) as 0 (wK cB cI cJ cZ cS a s) [(0, .ref (a 28)), (1, .int x1)] [] (fun x u => x = r ∧ u = (wK cB cI cJ cZ cS a s')) := by
  intro p e s0 m below meth c A E H locs ls hP hD hS hl
  obtain ⟨C, hr, hlocks, hA, hK, hN⟩ := id E
  obtain ⟨hx, hb, hml, hown, hts⟩ := id C
  unfold kX4_isAt at hB
  refine lv_aload_n hx hb dX4_isAt_0 rfl (lv_at hl 0 rfl) ?_
  refine q_get (v := .int (s.v 16)) C inX4_isAt_X4 hK hP 28 rfl rfl 4 (by decide) rfl LX4_isAt_41 rfl dX4_isAt_1 ?_
  refine lv_if_ne (tgt := 27) hx hb dX4_isAt_4 (by decide) (fun c1 => ?_) (fun c1 => ?_)
  · have hB := if_n hB c1
    refine lv_iconst (v := 0) hx hb dX4_isAt_27 (by decide) ?_
    exact q_zret C hr hlocks (Or.inl rfl) hK hP hD hS (Nat.le_of_ble_eq_true rfl) (Nat.le_of_ble_eq_true rfl) dX4_isAt_28 (by cases hB; exact ⟨rfl, rfl⟩)
  · have hB := if_p hB c1
    refine lv_aload_n hx hb dX4_isAt_7 rfl (lv_at hl 0 rfl) ?_
    refine q_get (v := .ref (a 30)) C inX4_isAt_X4 hK hP 28 rfl rfl 0 (by decide) rfl LX4_isAt_31 rfl dX4_isAt_8 ?_
    refine q_getN (v := .ref (a 32)) C hN inX4_isAt_X9 hK hP 30 rfl rfl 2 (by decide) rfl nwF_X4_63 rfl dX4_isAt_11 ?_
    refine lv_aload_n hx hb dX4_isAt_14 rfl (lv_at hl 0 rfl) ?_
    refine q_get (v := .int (s.v 15)) C inX4_isAt_X4 hK hP 28 rfl rfl 3 (by decide) rfl LX4_isAt_38 rfl dX4_isAt_15 ?_
    obtain ⟨g2, hB⟩ := guard_inv hB
    refine q_iald (x := ((s.f 32) (Int32.toNatClampNeg (s.v 15)))) C hK hP 32 1 rfl rfl (vpb_in g2) dX4_isAt_18 rfl ?_
    refine lv_iload_n hx hb dX4_isAt_19 rfl (lv_at hl 1 rfl) ?_
    refine lv_icmp_ne (tgt := 27) hx hb dX4_isAt_20 (by decide) (fun c3 => ?_) (fun c3 => ?_)
    · have hB := if_n hB c3
      refine lv_iconst (v := 0) hx hb dX4_isAt_27 (by decide) ?_
      exact q_zret C hr hlocks (Or.inl rfl) hK hP hD hS (Nat.le_of_ble_eq_true rfl) (Nat.le_of_ble_eq_true rfl) dX4_isAt_28 (by cases hB; exact ⟨rfl, rfl⟩)
    · have hB := if_p hB c3
      refine lv_iconst (v := 1) hx hb dX4_isAt_23 (by decide) ?_
      refine lv_goto (tgt := 28) hx hb dX4_isAt_24 (by decide) ?_
      exact q_zret C hr hlocks (Or.inr rfl) hK hP hD hS (Nat.le_of_ble_eq_true rfl) (Nat.le_of_ble_eq_true rfl) dX4_isAt_28 (by cases hB; exact ⟨rfl, rfl⟩)
theorem ckX4_isAt {l : Launch} {dC : Nat → ClassId} {dI : Nat → Nat → Nat} {cB cI cJ cZ cS : ClassId} {a : Nat → Nat} {r : Int32} {s' : KS} {s : KS} {x1 : Int32} (hB : kX4_isAt s x1 = some (r, s')) : CI l yX4_isAt wsX4_isAt ({ frames := 0, cells := 0, slots := 0, locals := 0 }) (dC, dI) (tysA cB cI cJ cZ cS) (wK cB cI cJ cZ cS a s) [.ref (a 28), .int x1] (fun x u => x = r ∧ u = (wK cB cI cJ cZ cS a s')) :=
  CI_of (cc := cX4_isAt) (maxL := 2) (ret := (some .boolean)) (by decide) rfl (Nat.le_of_ble_eq_true rfl) (bkX4_isAt _ _ hB)
