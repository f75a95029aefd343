theorem dX0_guessThere_0 : decode cX0_guessThere 0 = .ok (.iconst 0, 1) := by decide +kernel
theorem dX0_guessThere_1 : decode cX0_guessThere 1 = .ok (.istore_n 3, 1) := by decide +kernel
theorem dX0_guessThere_2 : decode cX0_guessThere 2 = .ok (.aload_n 0, 1) := by decide +kernel
theorem dX0_guessThere_3 : decode cX0_guessThere 3 = .ok (.getfield 9, 3) := by decide +kernel
theorem dX0_guessThere_6 : decode cX0_guessThere 6 = .ok (.getfield 50, 3) := by decide +kernel
theorem dX0_guessThere_9 : decode cX0_guessThere 9 = .ok (.iconst 1, 1) := by decide +kernel
theorem dX0_guessThere_10 : decode cX0_guessThere 10 = .ok (.isub, 1) := by decide +kernel
theorem dX0_guessThere_11 : decode cX0_guessThere 11 = .ok (.istore 4, 2) := by decide +kernel
theorem dX0_guessThere_13 : decode cX0_guessThere 13 = .ok (.iload 4, 2) := by decide +kernel
theorem dX0_guessThere_15 : decode cX0_guessThere 15 = .ok (.ifCond .lt 32, 3) := by decide +kernel
theorem dX0_guessThere_47 : decode cX0_guessThere 47 = .ok (.iload_n 3, 1) := by decide +kernel
theorem dX0_guessThere_48 : decode cX0_guessThere 48 = .ok (.ireturn, 1) := by decide +kernel
theorem dX6_copyFrom_0 : decode cX6_copyFrom 0 = .ok (.aload_n 1, 1) := by decide +kernel
theorem dX6_copyFrom_1 : decode cX6_copyFrom 1 = .ok (.getfield 9, 3) := by decide +kernel
theorem dX6_copyFrom_4 : decode cX6_copyFrom 4 = .ok (.iconst 0, 1) := by decide +kernel
theorem dX6_copyFrom_5 : decode cX6_copyFrom 5 = .ok (.aload_n 0, 1) := by decide +kernel
theorem dX6_copyFrom_6 : decode cX6_copyFrom 6 = .ok (.getfield 9, 3) := by decide +kernel
theorem dX6_copyFrom_9 : decode cX6_copyFrom 9 = .ok (.iconst 0, 1) := by decide +kernel
theorem dX6_copyFrom_10 : decode cX6_copyFrom 10 = .ok (.iconst 5, 1) := by decide +kernel
theorem dX6_copyFrom_11 : decode cX6_copyFrom 11 = .ok (.invokestatic 40, 3) := by decide +kernel
theorem dX6_copyFrom_14 : decode cX6_copyFrom 14 = .ok (.aload_n 1, 1) := by decide +kernel
theorem dX6_copyFrom_15 : decode cX6_copyFrom 15 = .ok (.getfield 15, 3) := by decide +kernel
theorem dX6_copyFrom_18 : decode cX6_copyFrom 18 = .ok (.iconst 0, 1) := by decide +kernel
theorem dX6_copyFrom_19 : decode cX6_copyFrom 19 = .ok (.aload_n 0, 1) := by decide +kernel
theorem dX6_copyFrom_20 : decode cX6_copyFrom 20 = .ok (.getfield 15, 3) := by decide +kernel
theorem dX6_copyFrom_23 : decode cX6_copyFrom 23 = .ok (.iconst 0, 1) := by decide +kernel
theorem dX6_copyFrom_24 : decode cX6_copyFrom 24 = .ok (.iconst 5, 1) := by decide +kernel
theorem dX6_copyFrom_25 : decode cX6_copyFrom 25 = .ok (.invokestatic 40, 3) := by decide +kernel
theorem dX6_copyFrom_28 : decode cX6_copyFrom 28 = .ok (.aload_n 1, 1) := by decide +kernel
theorem dX6_copyFrom_29 : decode cX6_copyFrom 29 = .ok (.getfield 18, 3) := by decide +kernel
theorem dX6_copyFrom_32 : decode cX6_copyFrom 32 = .ok (.iconst 0, 1) := by decide +kernel
theorem dX6_copyFrom_33 : decode cX6_copyFrom 33 = .ok (.aload_n 0, 1) := by decide +kernel
theorem dX6_copyFrom_34 : decode cX6_copyFrom 34 = .ok (.getfield 18, 3) := by decide +kernel
theorem dX6_copyFrom_37 : decode cX6_copyFrom 37 = .ok (.iconst 0, 1) := by decide +kernel
theorem dX6_copyFrom_38 : decode cX6_copyFrom 38 = .ok (.iconst 5, 1) := by decide +kernel
theorem dX6_copyFrom_39 : decode cX6_copyFrom 39 = .ok (.invokestatic 40, 3) := by decide +kernel
theorem dX6_copyFrom_42 : decode cX6_copyFrom 42 = .ok (.aload_n 1, 1) := by decide +kernel
theorem dX6_copyFrom_43 : decode cX6_copyFrom 43 = .ok (.getfield 21, 3) := by decide +kernel
theorem dX6_copyFrom_46 : decode cX6_copyFrom 46 = .ok (.iconst 0, 1) := by decide +kernel
theorem dX6_copyFrom_47 : decode cX6_copyFrom 47 = .ok (.aload_n 0, 1) := by decide +kernel
theorem dX6_copyFrom_48 : decode cX6_copyFrom 48 = .ok (.getfield 21, 3) := by decide +kernel
theorem dX6_copyFrom_51 : decode cX6_copyFrom 51 = .ok (.iconst 0, 1) := by decide +kernel
theorem dX6_copyFrom_52 : decode cX6_copyFrom 52 = .ok (.bipush 6, 2) := by decide +kernel
theorem dX6_copyFrom_54 : decode cX6_copyFrom 54 = .ok (.invokestatic 40, 3) := by decide +kernel
theorem dX6_copyFrom_57 : decode cX6_copyFrom 57 = .ok (.aload_n 1, 1) := by decide +kernel
theorem dX6_copyFrom_58 : decode cX6_copyFrom 58 = .ok (.getfield 24, 3) := by decide +kernel
theorem dX6_copyFrom_61 : decode cX6_copyFrom 61 = .ok (.iconst 0, 1) := by decide +kernel
theorem dX6_copyFrom_62 : decode cX6_copyFrom 62 = .ok (.aload_n 0, 1) := by decide +kernel
theorem dX6_copyFrom_63 : decode cX6_copyFrom 63 = .ok (.getfield 24, 3) := by decide +kernel
theorem dX6_copyFrom_66 : decode cX6_copyFrom 66 = .ok (.iconst 0, 1) := by decide +kernel
theorem dX6_copyFrom_67 : decode cX6_copyFrom 67 = .ok (.bipush 6, 2) := by decide +kernel
theorem dX6_copyFrom_69 : decode cX6_copyFrom 69 = .ok (.invokestatic 40, 3) := by decide +kernel
theorem dX6_copyFrom_72 : decode cX6_copyFrom 72 = .ok (.aload_n 0, 1) := by decide +kernel
theorem dX6_copyFrom_73 : decode cX6_copyFrom 73 = .ok (.aload_n 1, 1) := by decide +kernel
theorem dX6_copyFrom_74 : decode cX6_copyFrom 74 = .ok (.getfield 33, 3) := by decide +kernel
theorem dX6_copyFrom_77 : decode cX6_copyFrom 77 = .ok (.putfield 33, 3) := by decide +kernel
theorem dX6_copyFrom_80 : decode cX6_copyFrom 80 = .ok (.aload_n 0, 1) := by decide +kernel
theorem dX6_copyFrom_81 : decode cX6_copyFrom 81 = .ok (.aload_n 1, 1) := by decide +kernel
theorem dX6_copyFrom_82 : decode cX6_copyFrom 82 = .ok (.getfield 37, 3) := by decide +kernel
theorem dX6_copyFrom_85 : decode cX6_copyFrom 85 = .ok (.putfield 37, 3) := by decide +kernel
theorem dX6_copyFrom_88 : decode cX6_copyFrom 88 = .ok (.return_, 1) := by decide +kernel
theorem dX8_areSuch_0 : decode cX8_areSuch 0 = .ok (.iload_n 1, 1) := by decide +kernel
theorem dX8_areSuch_1 : decode cX8_areSuch 1 = .ok (.ifCond .lt 24, 3) := by decide +kernel
theorem dX8_areSuch_4 : decode cX8_areSuch 4 = .ok (.iload_n 1, 1) := by decide +kernel
theorem dX8_areSuch_5 : decode cX8_areSuch 5 = .ok (.aload_n 0, 1) := by decide +kernel
theorem dX8_areSuch_6 : decode cX8_areSuch 6 = .ok (.getfield 35, 3) := by decide +kernel
theorem dX8_areSuch_9 : decode cX8_areSuch 9 = .ok (.if_icmp .gt 16, 3) := by decide +kernel
theorem dX8_areSuch_12 : decode cX8_areSuch 12 = .ok (.iload_n 2, 1) := by decide +kernel
theorem dX8_areSuch_13 : decode cX8_areSuch 13 = .ok (.ifCond .lt 12, 3) := by decide +kernel
theorem dX8_areSuch_16 : decode cX8_areSuch 16 = .ok (.iload_n 2, 1) := by decide +kernel
theorem dX8_areSuch_17 : decode cX8_areSuch 17 = .ok (.iconst 3, 1) := by decide +kernel
theorem dX8_areSuch_18 : decode cX8_areSuch 18 = .ok (.if_icmp .gt 7, 3) := by decide +kernel
theorem dX8_areSuch_21 : decode cX8_areSuch 21 = .ok (.iconst 1, 1) := by decide +kernel
theorem dX8_areSuch_22 : decode cX8_areSuch 22 = .ok (.goto 4, 3) := by decide +kernel
theorem dX8_areSuch_25 : decode cX8_areSuch 25 = .ok (.iconst 0, 1) := by decide +kernel
theorem dX8_areSuch_26 : decode cX8_areSuch 26 = .ok (.ireturn, 1) := by decide +kernel
set_option maxRecDepth 20000 in
theorem ggX10_allGo_X6_copyFrom : GoodIn wsX10_allGo wsX6_copyFrom := goodIn_r _ [9, 10, 11, 12, 13, 14, 15, 16, 17, 18, 19, 20, 160, 161, 162, 163, 164, 165, 166] (by decide +kernel) (by decide +kernel)
set_option maxRecDepth 20000 in
theorem gX10_allGo_X6_copyFrom_n227 : GoodIn wsX10_allGo (wsX6_copyFrom) := ggX10_allGo_X6_copyFrom
set_option maxRecDepth 20000 in
theorem ggX10_allGo_X10_partiesThatAre : GoodIn wsX10_allGo wsX10_partiesThatAre := goodIn_r _ [139, 3, 141, 142, 143, 144, 145, 146, 147, 148, 149, 150, 151, 152, 153, 154, 155, 156, 157, 158, 159, 160, 161, 162, 163, 164, 165, 166] (by decide +kernel) (by decide +kernel)
set_option maxRecDepth 20000 in
theorem gX10_allGo_X10_partiesThatAre : GoodIn wsX10_allGo (wsV RX10 244 RX10 yX10_partiesThatAre wsX10_partiesThatAre) := goodIn_app (goodIn_of _ (by decide +kernel)) ggX10_allGo_X10_partiesThatAre
set_option maxRecDepth 20000 in
theorem ggX10_allGo_J6_bitCount_0f7a4 : GoodIn wsX10_allGo wsJ6_bitCount_0f7a4 := goodIn_r _ [94, 95, 96, 97] (by decide +kernel) (by decide +kernel)
set_option maxRecDepth 20000 in
theorem gX10_allGo_J6_bitCount_0f7a4 : GoodIn wsX10_allGo (va_wsS RX10 247 yJ6_bitCount_0f7a4 wsJ6_bitCount_0f7a4) := goodIn_app (goodIn_of _ (by decide +kernel)) ggX10_allGo_J6_bitCount_0f7a4
theorem dX10_allGo_0 : decode cX10_allGo 0 = .ok (.iload_n 1, 1) := by decide +kernel
theorem dX10_allGo_1 : decode cX10_allGo 1 = .ok (.ifCond .lt 8, 3) := by decide +kernel
theorem dX10_allGo_4 : decode cX10_allGo 4 = .ok (.iload_n 1, 1) := by decide +kernel
theorem dX10_allGo_5 : decode cX10_allGo 5 = .ok (.iconst 2, 1) := by decide +kernel
theorem dX10_allGo_6 : decode cX10_allGo 6 = .ok (.if_icmp .le 5, 3) := by decide +kernel
theorem dX10_allGo_9 : decode cX10_allGo 9 = .ok (.iconst (-1), 1) := by decide +kernel
theorem dX10_allGo_10 : decode cX10_allGo 10 = .ok (.ireturn, 1) := by decide +kernel
theorem dX10_allGo_11 : decode cX10_allGo 11 = .ok (.aload_n 0, 1) := by decide +kernel
theorem dX10_allGo_12 : decode cX10_allGo 12 = .ok (.getfield 39, 3) := by decide +kernel
theorem dX10_allGo_15 : decode cX10_allGo 15 = .ok (.aload_n 0, 1) := by decide +kernel
theorem dX10_allGo_16 : decode cX10_allGo 16 = .ok (.getfield 35, 3) := by decide +kernel
theorem dX10_allGo_19 : decode cX10_allGo 19 = .ok (.invokevirtual 227, 3) := by decide +kernel
theorem dX10_allGo_22 : decode cX10_allGo 22 = .ok (.iconst 0, 1) := by decide +kernel
theorem dX10_allGo_23 : decode cX10_allGo 23 = .ok (.istore_n 2, 1) := by decide +kernel
theorem dX10_allGo_24 : decode cX10_allGo 24 = .ok (.iload_n 2, 1) := by decide +kernel
theorem dX10_allGo_25 : decode cX10_allGo 25 = .ok (.aload_n 0, 1) := by decide +kernel
theorem dX10_allGo_26 : decode cX10_allGo 26 = .ok (.getfield 19, 3) := by decide +kernel
theorem dX10_allGo_29 : decode cX10_allGo 29 = .ok (.getfield 235, 3) := by decide +kernel
theorem dX10_allGo_32 : decode cX10_allGo 32 = .ok (.if_icmp .ge 69, 3) := by decide +kernel
theorem dX10_allGo_101 : decode cX10_allGo 101 = .ok (.iload_n 1, 1) := by decide +kernel
theorem dX10_allGo_102 : decode cX10_allGo 102 = .ok (.iconst 2, 1) := by decide +kernel
theorem dX10_allGo_103 : decode cX10_allGo 103 = .ok (.if_icmp .ne 19, 3) := by decide +kernel
theorem dX10_allGo_106 : decode cX10_allGo 106 = .ok (.aload_n 0, 1) := by decide +kernel
theorem dX10_allGo_107 : decode cX10_allGo 107 = .ok (.getfield 39, 3) := by decide +kernel
theorem dX10_allGo_110 : decode cX10_allGo 110 = .ok (.getfield 241, 3) := by decide +kernel
theorem dX10_allGo_113 : decode cX10_allGo 113 = .ok (.aload_n 0, 1) := by decide +kernel
theorem dX10_allGo_114 : decode cX10_allGo 114 = .ok (.getfield 35, 3) := by decide +kernel
theorem dX10_allGo_117 : decode cX10_allGo 117 = .ok (.getfield 241, 3) := by decide +kernel
theorem dX10_allGo_120 : decode cX10_allGo 120 = .ok (.isub, 1) := by decide +kernel
theorem dX10_allGo_121 : decode cX10_allGo 121 = .ok (.ireturn, 1) := by decide +kernel
theorem dX10_allGo_122 : decode cX10_allGo 122 = .ok (.aload_n 0, 1) := by decide +kernel
theorem dX10_allGo_123 : decode cX10_allGo 123 = .ok (.aload_n 0, 1) := by decide +kernel
theorem dX10_allGo_124 : decode cX10_allGo 124 = .ok (.getfield 39, 3) := by decide +kernel
theorem dX10_allGo_127 : decode cX10_allGo 127 = .ok (.iload_n 1, 1) := by decide +kernel
theorem dX10_allGo_128 : decode cX10_allGo 128 = .ok (.ifCond .ne 7, 3) := by decide +kernel
theorem dX10_allGo_131 : decode cX10_allGo 131 = .ok (.iconst 2, 1) := by decide +kernel
theorem dX10_allGo_132 : decode cX10_allGo 132 = .ok (.goto 4, 3) := by decide +kernel
theorem dX10_allGo_135 : decode cX10_allGo 135 = .ok (.iconst 1, 1) := by decide +kernel
theorem dX10_allGo_136 : decode cX10_allGo 136 = .ok (.invokevirtual 244, 3) := by decide +kernel
theorem dX10_allGo_139 : decode cX10_allGo 139 = .ok (.invokestatic 247, 3) := by decide +kernel
theorem dX10_allGo_142 : decode cX10_allGo 142 = .ok (.ireturn, 1) := by decide +kernel
set_option maxHeartbeats 4000000 in
set_option maxRecDepth 100000 in
theorem k_X6_copyFrom (l : Launch) (dC : Nat → ClassId) (dI : Nat → Nat → Nat) (cB cI cJ cZ cS : ClassId) (q_now : Nat) (q_now_found : Nat) (q_now_buoys : Nat) (q_now_shifted : Nat) (q_now_status : Nat) (q_now_goes : Nat) (q_trial : Nat) (q_trial_found : Nat) (q_trial_buoys : Nat) (q_trial_shifted : Nat) (q_trial_status : Nat) (q_trial_goes : Nat) (f_now_found : Nat → Int32) (f_trial_found : Nat → Int32) (f_now_buoys : Nat → Int32) (f_trial_buoys : Nat → Int32) (f_now_shifted : Nat → Int32) (f_trial_shifted : Nat → Int32) (f_now_status : Nat → Int32) (f_trial_status : Nat → Int32) (f_now_goes : Nat → Int32) (f_trial_goes : Nat → Int32) : CV l yX6_copyFrom wsX6_copyFrom ({ frames := 1, cells := 0, slots := 0, locals := 64 }) (dC, dI) (tysA cB cI cJ cZ cS) [(q_now, .inr (6, [.ref q_now_found, .ref q_now_buoys, .ref q_now_shifted, .ref q_now_status, .ref q_now_goes, .int 0, .int 0])), (q_trial, .inr (6, [.ref q_trial_found, .ref q_trial_buoys, .ref q_trial_shifted, .ref q_trial_status, .ref q_trial_goes, .int 0, .int 0])), (q_now_found, .inl (cI, 5, .inl f_now_found)), (q_trial_found, .inl (cI, 5, .inl f_trial_found)), (q_now_buoys, .inl (cI, 5, .inl f_now_buoys)), (q_trial_buoys, .inl (cI, 5, .inl f_trial_buoys)), (q_now_shifted, .inl (cI, 5, .inl f_now_shifted)), (q_trial_shifted, .inl (cI, 5, .inl f_trial_shifted)), (q_now_status, .inl (cI, 6, .inl f_now_status)), (q_trial_status, .inl (cI, 6, .inl f_trial_status)), (q_now_goes, .inl (cI, 6, .inl f_now_goes)), (q_trial_goes, .inl (cI, 6, .inl f_trial_goes))] [.ref q_trial, .ref q_now] (fun w => w = [(q_now, .inr (6, [.ref q_now_found, .ref q_now_buoys, .ref q_now_shifted, .ref q_now_status, .ref q_now_goes, .int 0, .int 0])), (q_trial, .inr (6, [.ref q_trial_found, .ref q_trial_buoys, .ref q_trial_shifted, .ref q_trial_status, .ref q_trial_goes, .int 0, .int 0])), (q_now_found, .inl (cI, 5, .inl f_now_found)), (q_trial_found, .inl (cI, 5, .inl (va_cpy f_now_found f_trial_found 0 0 5))), (q_now_buoys, .inl (cI, 5, .inl f_now_buoys)), (q_trial_buoys, .inl (cI, 5, .inl (va_cpy f_now_buoys f_trial_buoys 0 0 5))), (q_now_shifted, .inl (cI, 5, .inl f_now_shifted)), (q_trial_shifted, .inl (cI, 5, .inl (va_cpy f_now_shifted f_trial_shifted 0 0 5))), (q_now_status, .inl (cI, 6, .inl f_now_status)), (q_trial_status, .inl (cI, 6, .inl (va_cpy f_now_status f_trial_status 0 0 6))), (q_now_goes, .inl (cI, 6, .inl f_now_goes)), (q_trial_goes, .inl (cI, 6, .inl (va_cpy f_now_goes f_trial_goes 0 0 6)))]) := by
  refine open_V (cc := cX6_copyFrom) (maxL := 2) (ret := none) (by decide) rfl (Nat.le_of_ble_eq_true rfl) ?_
  intro p e s m below meth c A ls E
  obtain ⟨C, hr, hlocks, hnm, hA, hP, hK, hD, hN, hl⟩ := E
  obtain ⟨hx, hb, hml, hown, hts⟩ := id C
  have hS : va_S A s.heap s.heap [] := va_S.rf
  have hl : lv_has ls 2 [(0, .ref q_trial), (1, .ref q_now)] := hl
  have inX6 : ∀ w ∈ u_ws RX6 TX6 7, w ∈ wsX6_copyFrom := fun _ h => List.mem_cons_of_mem _ (List.mem_append_right _ h)
  have A40 : Cond.methodLink RX6 40 arraycopyName ∈ wsX6_copyFrom := by decide +kernel
  have AI : Cond.initialized "java/lang/System" ∈ wsX6_copyFrom := by decide +kernel
  have AN : Cond.native arraycopyName ∈ wsX6_copyFrom := by decide +kernel
  have AS : Cond.static arraycopyName ∈ wsX6_copyFrom := by decide +kernel
  have L15 : Cond.fieldLink RX6 15 "GuessFerry$Standing" "buoys" "[I" ∈ wsX6_copyFrom := by decide +kernel
  have L18 : Cond.fieldLink RX6 18 "GuessFerry$Standing" "shifted" "[I" ∈ wsX6_copyFrom := by decide +kernel
  have L21 : Cond.fieldLink RX6 21 "GuessFerry$Standing" "status" "[I" ∈ wsX6_copyFrom := by decide +kernel
  have L24 : Cond.fieldLink RX6 24 "GuessFerry$Standing" "goes" "[I" ∈ wsX6_copyFrom := by decide +kernel
  have L33 : Cond.fieldLink RX6 33 "GuessFerry$Standing" "year" "I" ∈ wsX6_copyFrom := by decide +kernel
  have L37 : Cond.fieldLink RX6 37 "GuessFerry$Standing" "paid" "I" ∈ wsX6_copyFrom := by decide +kernel
  have L9 : Cond.fieldLink RX6 9 "GuessFerry$Standing" "found" "[I" ∈ wsX6_copyFrom := by decide +kernel
  refine lv_aload_n hx hb dX6_copyFrom_0 rfl (lv_at hl 1 rfl) ?_
  refine q_get (v := .ref q_now_found) C inX6 hK hP 0 rfl rfl 0 (by decide) rfl L9 rfl dX6_copyFrom_1 ?_
  refine lv_iconst (v := 0) hx hb dX6_copyFrom_4 (by decide) ?_
  refine lv_aload_n hx hb dX6_copyFrom_5 rfl (lv_at hl 0 rfl) ?_
  refine q_get (v := .ref q_trial_found) C inX6 hK hP 1 rfl rfl 0 (by decide) rfl L9 rfl dX6_copyFrom_6 ?_
  refine lv_iconst (v := 0) hx hb dX6_copyFrom_9 (by decide) ?_
  refine lv_iconst (v := 5) hx hb dX6_copyFrom_10 (by decide) ?_
  refine va_copyi hx hb (hml.trans hl.1.symm) hown (hts _ A40) (hts _ AN) (hts _ AS) (hts _ AI) hK hP hD hS 2 3 1 1 rfl rfl rfl rfl rfl (by decide +kernel) (by decide +kernel) (by decide +kernel) (by decide +kernel) (by decide +kernel) (fun _ _ => rfl) (Nat.le_of_ble_eq_true rfl) (by decide +kernel) dX6_copyFrom_11 (fun H locs hP hD hS => ?_)
  have hP : va_P (dC, dI) vwCl [(q_now, .inr (6, [.ref q_now_found, .ref q_now_buoys, .ref q_now_shifted, .ref q_now_status, .ref q_now_goes, .int 0, .int 0])), (q_trial, .inr (6, [.ref q_trial_found, .ref q_trial_buoys, .ref q_trial_shifted, .ref q_trial_status, .ref q_trial_goes, .int 0, .int 0])), (q_now_found, .inl (cI, 5, .inl f_now_found)), (q_trial_found, .inl (cI, 5, .inl (va_cpy f_now_found f_trial_found 0 0 5))), (q_now_buoys, .inl (cI, 5, .inl f_now_buoys)), (q_trial_buoys, .inl (cI, 5, .inl f_trial_buoys)), (q_now_shifted, .inl (cI, 5, .inl f_now_shifted)), (q_trial_shifted, .inl (cI, 5, .inl f_trial_shifted)), (q_now_status, .inl (cI, 6, .inl f_now_status)), (q_trial_status, .inl (cI, 6, .inl f_trial_status)), (q_now_goes, .inl (cI, 6, .inl f_now_goes)), (q_trial_goes, .inl (cI, 6, .inl f_trial_goes))] H := hP
  have hD : va_D A [(q_now, .inr (6, [.ref q_now_found, .ref q_now_buoys, .ref q_now_shifted, .ref q_now_status, .ref q_now_goes, .int 0, .int 0])), (q_trial, .inr (6, [.ref q_trial_found, .ref q_trial_buoys, .ref q_trial_shifted, .ref q_trial_status, .ref q_trial_goes, .int 0, .int 0])), (q_now_found, .inl (cI, 5, .inl f_now_found)), (q_trial_found, .inl (cI, 5, .inl (va_cpy f_now_found f_trial_found 0 0 5))), (q_now_buoys, .inl (cI, 5, .inl f_now_buoys)), (q_trial_buoys, .inl (cI, 5, .inl f_trial_buoys)), (q_now_shifted, .inl (cI, 5, .inl f_now_shifted)), (q_trial_shifted, .inl (cI, 5, .inl f_trial_shifted)), (q_now_status, .inl (cI, 6, .inl f_now_status)), (q_trial_status, .inl (cI, 6, .inl f_trial_status)), (q_now_goes, .inl (cI, 6, .inl f_now_goes)), (q_trial_goes, .inl (cI, 6, .inl f_trial_goes))] := hD
  refine lv_aload_n hx hb dX6_copyFrom_14 rfl (lv_at hl 1 rfl) ?_
  refine q_get (v := .ref q_now_buoys) C inX6 hK hP 0 rfl rfl 1 (by decide) rfl L15 rfl dX6_copyFrom_15 ?_
  refine lv_iconst (v := 0) hx hb dX6_copyFrom_18 (by decide) ?_
  refine lv_aload_n hx hb dX6_copyFrom_19 rfl (lv_at hl 0 rfl) ?_
  refine q_get (v := .ref q_trial_buoys) C inX6 hK hP 1 rfl rfl 1 (by decide) rfl L15 rfl dX6_copyFrom_20 ?_
  refine lv_iconst (v := 0) hx hb dX6_copyFrom_23 (by decide) ?_
  refine lv_iconst (v := 5) hx hb dX6_copyFrom_24 (by decide) ?_
  refine va_copyi hx hb (hml.trans hl.1.symm) hown (hts _ A40) (hts _ AN) (hts _ AS) (hts _ AI) hK hP hD hS 4 5 1 1 rfl rfl rfl rfl rfl (by decide +kernel) (by decide +kernel) (by decide +kernel) (by decide +kernel) (by decide +kernel) (fun _ _ => rfl) (Nat.le_of_ble_eq_true rfl) (by decide +kernel) dX6_copyFrom_25 (fun H locs hP hD hS => ?_)
  have hP : va_P (dC, dI) vwCl [(q_now, .inr (6, [.ref q_now_found, .ref q_now_buoys, .ref q_now_shifted, .ref q_now_status, .ref q_now_goes, .int 0, .int 0])), (q_trial, .inr (6, [.ref q_trial_found, .ref q_trial_buoys, .ref q_trial_shifted, .ref q_trial_status, .ref q_trial_goes, .int 0, .int 0])), (q_now_found, .inl (cI, 5, .inl f_now_found)), (q_trial_found, .inl (cI, 5, .inl (va_cpy f_now_found f_trial_found 0 0 5))), (q_now_buoys, .inl (cI, 5, .inl f_now_buoys)), (q_trial_buoys, .inl (cI, 5, .inl (va_cpy f_now_buoys f_trial_buoys 0 0 5))), (q_now_shifted, .inl (cI, 5, .inl f_now_shifted)), (q_trial_shifted, .inl (cI, 5, .inl f_trial_shifted)), (q_now_status, .inl (cI, 6, .inl f_now_status)), (q_trial_status, .inl (cI, 6, .inl f_trial_status)), (q_now_goes, .inl (cI, 6, .inl f_now_goes)), (q_trial_goes, .inl (cI, 6, .inl f_trial_goes))] H := hP
  have hD : va_D A [(q_now, .inr (6, [.ref q_now_found, .ref q_now_buoys, .ref q_now_shifted, .ref q_now_status, .ref q_now_goes, .int 0, .int 0])), (q_trial, .inr (6, [.ref q_trial_found, .ref q_trial_buoys, .ref q_trial_shifted, .ref q_trial_status, .ref q_trial_goes, .int 0, .int 0])), (q_now_found, .inl (cI, 5, .inl f_now_found)), (q_trial_found, .inl (cI, 5, .inl (va_cpy f_now_found f_trial_found 0 0 5))), (q_now_buoys, .inl (cI, 5, .inl f_now_buoys)), (q_trial_buoys, .inl (cI, 5, .inl (va_cpy f_now_buoys f_trial_buoys 0 0 5))), (q_now_shifted, .inl (cI, 5, .inl f_now_shifted)), (q_trial_shifted, .inl (cI, 5, .inl f_trial_shifted)), (q_now_status, .inl (cI, 6, .inl f_now_status)), (q_trial_status, .inl (cI, 6, .inl f_trial_status)), (q_now_goes, .inl (cI, 6, .inl f_now_goes)), (q_trial_goes, .inl (cI, 6, .inl f_trial_goes))] := hD
  refine lv_aload_n hx hb dX6_copyFrom_28 rfl (lv_at hl 1 rfl) ?_
  refine q_get (v := .ref q_now_shifted) C inX6 hK hP 0 rfl rfl 2 (by decide) rfl L18 rfl dX6_copyFrom_29 ?_
  refine lv_iconst (v := 0) hx hb dX6_copyFrom_32 (by decide) ?_
  refine lv_aload_n hx hb dX6_copyFrom_33 rfl (lv_at hl 0 rfl) ?_
  refine q_get (v := .ref q_trial_shifted) C inX6 hK hP 1 rfl rfl 2 (by decide) rfl L18 rfl dX6_copyFrom_34 ?_
  refine lv_iconst (v := 0) hx hb dX6_copyFrom_37 (by decide) ?_
  refine lv_iconst (v := 5) hx hb dX6_copyFrom_38 (by decide) ?_
  refine va_copyi hx hb (hml.trans hl.1.symm) hown (hts _ A40) (hts _ AN) (hts _ AS) (hts _ AI) hK hP hD hS 6 7 1 1 rfl rfl rfl rfl rfl (by decide +kernel) (by decide +kernel) (by decide +kernel) (by decide +kernel) (by decide +kernel) (fun _ _ => rfl) (Nat.le_of_ble_eq_true rfl) (by decide +kernel) dX6_copyFrom_39 (fun H locs hP hD hS => ?_)
  have hP : va_P (dC, dI) vwCl [(q_now, .inr (6, [.ref q_now_found, .ref q_now_buoys, .ref q_now_shifted, .ref q_now_status, .ref q_now_goes, .int 0, .int 0])), (q_trial, .inr (6, [.ref q_trial_found, .ref q_trial_buoys, .ref q_trial_shifted, .ref q_trial_status, .ref q_trial_goes, .int 0, .int 0])), (q_now_found, .inl (cI, 5, .inl f_now_found)), (q_trial_found, .inl (cI, 5, .inl (va_cpy f_now_found f_trial_found 0 0 5))), (q_now_buoys, .inl (cI, 5, .inl f_now_buoys)), (q_trial_buoys, .inl (cI, 5, .inl (va_cpy f_now_buoys f_trial_buoys 0 0 5))), (q_now_shifted, .inl (cI, 5, .inl f_now_shifted)), (q_trial_shifted, .inl (cI, 5, .inl (va_cpy f_now_shifted f_trial_shifted 0 0 5))), (q_now_status, .inl (cI, 6, .inl f_now_status)), (q_trial_status, .inl (cI, 6, .inl f_trial_status)), (q_now_goes, .inl (cI, 6, .inl f_now_goes)), (q_trial_goes, .inl (cI, 6, .inl f_trial_goes))] H := hP
  have hD : va_D A [(q_now, .inr (6, [.ref q_now_found, .ref q_now_buoys, .ref q_now_shifted, .ref q_now_status, .ref q_now_goes, .int 0, .int 0])), (q_trial, .inr (6, [.ref q_trial_found, .ref q_trial_buoys, .ref q_trial_shifted, .ref q_trial_status, .ref q_trial_goes, .int 0, .int 0])), (q_now_found, .inl (cI, 5, .inl f_now_found)), (q_trial_found, .inl (cI, 5, .inl (va_cpy f_now_found f_trial_found 0 0 5))), (q_now_buoys, .inl (cI, 5, .inl f_now_buoys)), (q_trial_buoys, .inl (cI, 5, .inl (va_cpy f_now_buoys f_trial_buoys 0 0 5))), (q_now_shifted, .inl (cI, 5, .inl f_now_shifted)), (q_trial_shifted, .inl (cI, 5, .inl (va_cpy f_now_shifted f_trial_shifted 0 0 5))), (q_now_status, .inl (cI, 6, .inl f_now_status)), (q_trial_status, .inl (cI, 6, .inl f_trial_status)), (q_now_goes, .inl (cI, 6, .inl f_now_goes)), (q_trial_goes, .inl (cI, 6, .inl f_trial_goes))] := hD
  refine lv_aload_n hx hb dX6_copyFrom_42 rfl (lv_at hl 1 rfl) ?_
  refine q_get (v := .ref q_now_status) C inX6 hK hP 0 rfl rfl 3 (by decide) rfl L21 rfl dX6_copyFrom_43 ?_
  refine lv_iconst (v := 0) hx hb dX6_copyFrom_46 (by decide) ?_
  refine lv_aload_n hx hb dX6_copyFrom_47 rfl (lv_at hl 0 rfl) ?_
  refine q_get (v := .ref q_trial_status) C inX6 hK hP 1 rfl rfl 3 (by decide) rfl L21 rfl dX6_copyFrom_48 ?_
  refine lv_iconst (v := 0) hx hb dX6_copyFrom_51 (by decide) ?_
  refine lv_bipush (v := 6) hx hb dX6_copyFrom_52 (by decide) ?_
  refine va_copyi hx hb (hml.trans hl.1.symm) hown (hts _ A40) (hts _ AN) (hts _ AS) (hts _ AI) hK hP hD hS 8 9 1 1 rfl rfl rfl rfl rfl (by decide +kernel) (by decide +kernel) (by decide +kernel) (by decide +kernel) (by decide +kernel) (fun _ _ => rfl) (Nat.le_of_ble_eq_true rfl) (by decide +kernel) dX6_copyFrom_54 (fun H locs hP hD hS => ?_)
  have hP : va_P (dC, dI) vwCl [(q_now, .inr (6, [.ref q_now_found, .ref q_now_buoys, .ref q_now_shifted, .ref q_now_status, .ref q_now_goes, .int 0, .int 0])), (q_trial, .inr (6, [.ref q_trial_found, .ref q_trial_buoys, .ref q_trial_shifted, .ref q_trial_status, .ref q_trial_goes, .int 0, .int 0])), (q_now_found, .inl (cI, 5, .inl f_now_found)), (q_trial_found, .inl (cI, 5, .inl (va_cpy f_now_found f_trial_found 0 0 5))), (q_now_buoys, .inl (cI, 5, .inl f_now_buoys)), (q_trial_buoys, .inl (cI, 5, .inl (va_cpy f_now_buoys f_trial_buoys 0 0 5))), (q_now_shifted, .inl (cI, 5, .inl f_now_shifted)), (q_trial_shifted, .inl (cI, 5, .inl (va_cpy f_now_shifted f_trial_shifted 0 0 5))), (q_now_status, .inl (cI, 6, .inl f_now_status)), (q_trial_status, .inl (cI, 6, .inl (va_cpy f_now_status f_trial_status 0 0 6))), (q_now_goes, .inl (cI, 6, .inl f_now_goes)), (q_trial_goes, .inl (cI, 6, .inl f_trial_goes))] H := hP
  have hD : va_D A [(q_now, .inr (6, [.ref q_now_found, .ref q_now_buoys, .ref q_now_shifted, .ref q_now_status, .ref q_now_goes, .int 0, .int 0])), (q_trial, .inr (6, [.ref q_trial_found, .ref q_trial_buoys, .ref q_trial_shifted, .ref q_trial_status, .ref q_trial_goes, .int 0, .int 0])), (q_now_found, .inl (cI, 5, .inl f_now_found)), (q_trial_found, .inl (cI, 5, .inl (va_cpy f_now_found f_trial_found 0 0 5))), (q_now_buoys, .inl (cI, 5, .inl f_now_buoys)), (q_trial_buoys, .inl (cI, 5, .inl (va_cpy f_now_buoys f_trial_buoys 0 0 5))), (q_now_shifted, .inl (cI, 5, .inl f_now_shifted)), (q_trial_shifted, .inl (cI, 5, .inl (va_cpy f_now_shifted f_trial_shifted 0 0 5))), (q_now_status, .inl (cI, 6, .inl f_now_status)), (q_trial_status, .inl (cI, 6, .inl (va_cpy f_now_status f_trial_status 0 0 6))), (q_now_goes, .inl (cI, 6, .inl f_now_goes)), (q_trial_goes, .inl (cI, 6, .inl f_trial_goes))] := hD
  refine lv_aload_n hx hb dX6_copyFrom_57 rfl (lv_at hl 1 rfl) ?_
  refine q_get (v := .ref q_now_goes) C inX6 hK hP 0 rfl rfl 4 (by decide) rfl L24 rfl dX6_copyFrom_58 ?_
  refine lv_iconst (v := 0) hx hb dX6_copyFrom_61 (by decide) ?_
  refine lv_aload_n hx hb dX6_copyFrom_62 rfl (lv_at hl 0 rfl) ?_
  refine q_get (v := .ref q_trial_goes) C inX6 hK hP 1 rfl rfl 4 (by decide) rfl L24 rfl dX6_copyFrom_63 ?_
  refine lv_iconst (v := 0) hx hb dX6_copyFrom_66 (by decide) ?_
  refine lv_bipush (v := 6) hx hb dX6_copyFrom_67 (by decide) ?_
  refine va_copyi hx hb (hml.trans hl.1.symm) hown (hts _ A40) (hts _ AN) (hts _ AS) (hts _ AI) hK hP hD hS 10 11 1 1 rfl rfl rfl rfl rfl (by decide +kernel) (by decide +kernel) (by decide +kernel) (by decide +kernel) (by decide +kernel) (fun _ _ => rfl) (Nat.le_of_ble_eq_true rfl) (by decide +kernel) dX6_copyFrom_69 (fun H locs hP hD hS => ?_)
  have hP : va_P (dC, dI) vwCl [(q_now, .inr (6, [.ref q_now_found, .ref q_now_buoys, .ref q_now_shifted, .ref q_now_status, .ref q_now_goes, .int 0, .int 0])), (q_trial, .inr (6, [.ref q_trial_found, .ref q_trial_buoys, .ref q_trial_shifted, .ref q_trial_status, .ref q_trial_goes, .int 0, .int 0])), (q_now_found, .inl (cI, 5, .inl f_now_found)), (q_trial_found, .inl (cI, 5, .inl (va_cpy f_now_found f_trial_found 0 0 5))), (q_now_buoys, .inl (cI, 5, .inl f_now_buoys)), (q_trial_buoys, .inl (cI, 5, .inl (va_cpy f_now_buoys f_trial_buoys 0 0 5))), (q_now_shifted, .inl (cI, 5, .inl f_now_shifted)), (q_trial_shifted, .inl (cI, 5, .inl (va_cpy f_now_shifted f_trial_shifted 0 0 5))), (q_now_status, .inl (cI, 6, .inl f_now_status)), (q_trial_status, .inl (cI, 6, .inl (va_cpy f_now_status f_trial_status 0 0 6))), (q_now_goes, .inl (cI, 6, .inl f_now_goes)), (q_trial_goes, .inl (cI, 6, .inl (va_cpy f_now_goes f_trial_goes 0 0 6)))] H := hP
  have hD : va_D A [(q_now, .inr (6, [.ref q_now_found, .ref q_now_buoys, .ref q_now_shifted, .ref q_now_status, .ref q_now_goes, .int 0, .int 0])), (q_trial, .inr (6, [.ref q_trial_found, .ref q_trial_buoys, .ref q_trial_shifted, .ref q_trial_status, .ref q_trial_goes, .int 0, .int 0])), (q_now_found, .inl (cI, 5, .inl f_now_found)), (q_trial_found, .inl (cI, 5, .inl (va_cpy f_now_found f_trial_found 0 0 5))), (q_now_buoys, .inl (cI, 5, .inl f_now_buoys)), (q_trial_buoys, .inl (cI, 5, .inl (va_cpy f_now_buoys f_trial_buoys 0 0 5))), (q_now_shifted, .inl (cI, 5, .inl f_now_shifted)), (q_trial_shifted, .inl (cI, 5, .inl (va_cpy f_now_shifted f_trial_shifted 0 0 5))), (q_now_status, .inl (cI, 6, .inl f_now_status)), (q_trial_status, .inl (cI, 6, .inl (va_cpy f_now_status f_trial_status 0 0 6))), (q_now_goes, .inl (cI, 6, .inl f_now_goes)), (q_trial_goes, .inl (cI, 6, .inl (va_cpy f_now_goes f_trial_goes 0 0 6)))] := hD
  refine lv_aload_n hx hb dX6_copyFrom_72 rfl (lv_at hl 0 rfl) ?_
  refine lv_aload_n hx hb dX6_copyFrom_73 rfl (lv_at hl 1 rfl) ?_
  refine q_get (v := .int 0) C inX6 hK hP 0 rfl rfl 5 (by decide) rfl L33 rfl dX6_copyFrom_74 ?_
  refine q_put (ty := .int) (w2 := [(q_now, .inr (6, [.ref q_now_found, .ref q_now_buoys, .ref q_now_shifted, .ref q_now_status, .ref q_now_goes, .int 0, .int 0])), (q_trial, .inr (6, [.ref q_trial_found, .ref q_trial_buoys, .ref q_trial_shifted, .ref q_trial_status, .ref q_trial_goes, .int 0, .int 0])), (q_now_found, .inl (cI, 5, .inl f_now_found)), (q_trial_found, .inl (cI, 5, .inl (va_cpy f_now_found f_trial_found 0 0 5))), (q_now_buoys, .inl (cI, 5, .inl f_now_buoys)), (q_trial_buoys, .inl (cI, 5, .inl (va_cpy f_now_buoys f_trial_buoys 0 0 5))), (q_now_shifted, .inl (cI, 5, .inl f_now_shifted)), (q_trial_shifted, .inl (cI, 5, .inl (va_cpy f_now_shifted f_trial_shifted 0 0 5))), (q_now_status, .inl (cI, 6, .inl f_now_status)), (q_trial_status, .inl (cI, 6, .inl (va_cpy f_now_status f_trial_status 0 0 6))), (q_now_goes, .inl (cI, 6, .inl f_now_goes)), (q_trial_goes, .inl (cI, 6, .inl (va_cpy f_now_goes f_trial_goes 0 0 6)))]) tyX6 tyX6_ok nmX6 C inX6 hK hP hD hS 1 rfl rfl 5 (by decide) rfl L33 rfl (by decide +kernel) (rfl) rfl (Nat.le_of_ble_eq_true rfl) dX6_copyFrom_77 rfl (fun H locs hP hD hS => ?_)
  refine lv_aload_n hx hb dX6_copyFrom_80 rfl (lv_at hl 0 rfl) ?_
  refine lv_aload_n hx hb dX6_copyFrom_81 rfl (lv_at hl 1 rfl) ?_
  refine q_get (v := .int 0) C inX6 hK hP 0 rfl rfl 6 (by decide) rfl L37 rfl dX6_copyFrom_82 ?_
  refine q_put (ty := .int) (w2 := [(q_now, .inr (6, [.ref q_now_found, .ref q_now_buoys, .ref q_now_shifted, .ref q_now_status, .ref q_now_goes, .int 0, .int 0])), (q_trial, .inr (6, [.ref q_trial_found, .ref q_trial_buoys, .ref q_trial_shifted, .ref q_trial_status, .ref q_trial_goes, .int 0, .int 0])), (q_now_found, .inl (cI, 5, .inl f_now_found)), (q_trial_found, .inl (cI, 5, .inl (va_cpy f_now_found f_trial_found 0 0 5))), (q_now_buoys, .inl (cI, 5, .inl f_now_buoys)), (q_trial_buoys, .inl (cI, 5, .inl (va_cpy f_now_buoys f_trial_buoys 0 0 5))), (q_now_shifted, .inl (cI, 5, .inl f_now_shifted)), (q_trial_shifted, .inl (cI, 5, .inl (va_cpy f_now_shifted f_trial_shifted 0 0 5))), (q_now_status, .inl (cI, 6, .inl f_now_status)), (q_trial_status, .inl (cI, 6, .inl (va_cpy f_now_status f_trial_status 0 0 6))), (q_now_goes, .inl (cI, 6, .inl f_now_goes)), (q_trial_goes, .inl (cI, 6, .inl (va_cpy f_now_goes f_trial_goes 0 0 6)))]) tyX6 tyX6_ok nmX6 C inX6 hK hP hD hS 1 rfl rfl 6 (by decide) rfl L37 rfl (by decide +kernel) (rfl) rfl (Nat.le_of_ble_eq_true rfl) dX6_copyFrom_85 rfl (fun H locs hP hD hS => ?_)
  exact q_vret C hr hlocks hK hP hD hS (Nat.le_of_ble_eq_true rfl) (Nat.le_of_ble_eq_true rfl) dX6_copyFrom_88 (rfl)

set_option maxHeartbeats 4000000 in
set_option maxRecDepth 100000 in
theorem k_X10_allGo (l : Launch) (dC : Nat → ClassId) (dI : Nat → Nat → Nat) (cB cI cJ cZ cS : ClassId) (q_G : Nat) (q_sound : Nat) (q_now : Nat) (q_now_found : Nat) (q_now_buoys : Nat) (q_now_shifted : Nat) (q_now_status : Nat) (q_now_goes : Nat) (q_trial : Nat) (q_trial_found : Nat) (q_trial_buoys : Nat) (q_trial_shifted : Nat) (q_trial_status : Nat) (q_trial_goes : Nat) (u_G_0 : Value) (u_G_2 : Value) (u_G_5 : Value) (u_G_6 : Value) (u_G_7 : Value) (u_G_8 : Value) (f_now_found : Nat → Int32) (f_trial_found : Nat → Int32) (f_now_buoys : Nat → Int32) (f_trial_buoys : Nat → Int32) (f_now_shifted : Nat → Int32) (f_trial_shifted : Nat → Int32) (f_now_status : Nat → Int32) (f_trial_status : Nat → Int32) (f_now_goes : Nat → Int32) (f_trial_goes : Nat → Int32) (u_sound_0 : Value) (u_sound_1 : Value) (u_sound_2 : Value) (u_sound_3 : Value) (u_sound_4 : Value) (u_sound_5 : Value) (u_sound_6 : Value) (u_sound_8 : Value) (u_sound_9 : Value) (x1 : Int32) : CI l yX10_allGo wsX10_allGo ({ frames := 2, cells := 0, slots := 0, locals := 85 }) (dC, dI) (tysA cB cI cJ cZ cS) [(q_G, .inr (10, [u_G_0, .ref q_sound, u_G_2, .ref q_now, .ref q_trial, u_G_5, u_G_6, u_G_7, u_G_8])), (q_now, .inr (6, [.ref q_now_found, .ref q_now_buoys, .ref q_now_shifted, .ref q_now_status, .ref q_now_goes, .int 0, .int 0])), (q_trial, .inr (6, [.ref q_trial_found, .ref q_trial_buoys, .ref q_trial_shifted, .ref q_trial_status, .ref q_trial_goes, .int 0, .int 0])), (q_now_found, .inl (cI, 5, .inl f_now_found)), (q_trial_found, .inl (cI, 5, .inl f_trial_found)), (q_now_buoys, .inl (cI, 5, .inl f_now_buoys)), (q_trial_buoys, .inl (cI, 5, .inl f_trial_buoys)), (q_now_shifted, .inl (cI, 5, .inl f_now_shifted)), (q_trial_shifted, .inl (cI, 5, .inl f_trial_shifted)), (q_now_status, .inl (cI, 6, .inl f_now_status)), (q_trial_status, .inl (cI, 6, .inl f_trial_status)), (q_now_goes, .inl (cI, 6, .inl f_now_goes)), (q_trial_goes, .inl (cI, 6, .inl f_trial_goes)), (q_sound, .inr (5, [u_sound_0, u_sound_1, u_sound_2, u_sound_3, u_sound_4, u_sound_5, u_sound_6, .int 0, u_sound_8, u_sound_9]))] [.ref q_G, .int x1] (fun r _ => r = (fr_all x1)) := by
  refine open_I (cc := cX10_allGo) (maxL := 4) (ret := (some .int)) (by decide) rfl (Nat.le_of_ble_eq_true rfl) ?_
  intro p e s m below meth c A ls E
  obtain ⟨C, hr, hlocks, hnm, hA, hP, hK, hD, hN, hl⟩ := E
  obtain ⟨hx, hb, hml, hown, hts⟩ := id C
  have hS : va_S A s.heap s.heap [] := va_S.rf
  have hl : lv_has ls 4 [(0, .ref q_G), (1, .int x1)] := hl
  have inX10 : ∀ w ∈ u_ws RX10 TX10 9, w ∈ wsX10_allGo := by decide +kernel
  have inX5 : ∀ w ∈ u_ws RX5 TX5 10, w ∈ wsX10_allGo := by decide +kernel
  have inX6 : ∀ w ∈ u_ws RX6 TX6 7, w ∈ wsX10_allGo := by decide +kernel
  have E_X6_copyFrom : Cond.selects RX6 yX6_copyFrom yX6_copyFrom ∈ wsX10_allGo := by decide +kernel
  have I_X6 : Cond.initialized RX6 ∈ wsX10_allGo := by decide +kernel
  have L19 : Cond.fieldLink RX10 19 "GuessFerry" "sound" "LGuessFerry$Sound;" ∈ wsX10_allGo := by decide +kernel
  have L35 : Cond.fieldLink RX10 35 "GuessFerry" "now" "LGuessFerry$Standing;" ∈ wsX10_allGo := by decide +kernel
  have L39 : Cond.fieldLink RX10 39 "GuessFerry" "trial" "LGuessFerry$Standing;" ∈ wsX10_allGo := by decide +kernel
  have N_X6_copyFrom : Cond.instanceMethod yX6_copyFrom ∈ wsX10_allGo := by decide +kernel
  refine lv_iload_n hx hb dX10_allGo_0 rfl (lv_at hl 1 rfl) ?_
  refine lv_if_lt (tgt := 9) hx hb dX10_allGo_1 (by decide) (fun c1 => ?_) (fun c1 => ?_)
  · skip
    refine lv_iconst (v := (-1)) hx hb dX10_allGo_9 (by decide) ?_
    exact q_iret C hr hlocks hK hP hD hS (Nat.le_of_ble_eq_true rfl) (Nat.le_of_ble_eq_true rfl) dX10_allGo_10 (fr_all_a c1)
  · skip
    refine lv_iload_n hx hb dX10_allGo_4 rfl (lv_at hl 1 rfl) ?_
    refine lv_iconst (v := 2) hx hb dX10_allGo_5 (by decide) ?_
    refine lv_icmp_le (tgt := 11) hx hb dX10_allGo_6 (by decide) (fun c2 => ?_) (fun c2 => ?_)
    · skip
      refine lv_aload_n hx hb dX10_allGo_11 rfl (lv_at hl 0 rfl) ?_
      refine q_get (v := .ref q_trial) C inX10 hK hP 0 rfl rfl 4 (by decide) rfl L39 rfl dX10_allGo_12 ?_
      refine lv_aload_n hx hb dX10_allGo_15 rfl (lv_at hl 0 rfl) ?_
      refine q_get (v := .ref q_now) C inX10 hK hP 0 rfl rfl 3 (by decide) rfl L35 rfl dX10_allGo_16 ?_
      refine q_gov (wr := [(q_G, .inr (10, [u_G_0, .ref q_sound, u_G_2, .ref q_now, .ref q_trial, u_G_5, u_G_6, u_G_7, u_G_8])), (q_sound, .inr (5, [u_sound_0, u_sound_1, u_sound_2, u_sound_3, u_sound_4, u_sound_5, u_sound_6, .int 0, u_sound_8, u_sound_9]))]) (va_runVN (As := [.ref q_now]) (rest := []) C (k_X6_copyFrom l dC dI cB cI cJ cZ cS (q_now) (q_now_found) (q_now_buoys) (q_now_shifted) (q_now_status) (q_now_goes) (q_trial) (q_trial_found) (q_trial_buoys) (q_trial_shifted) (q_trial_status) (q_trial_goes) (f_now_found) (f_trial_found) (f_now_buoys) (f_trial_buoys) (f_now_shifted) (f_trial_shifted) (f_now_status) (f_trial_status) (f_now_goes) (f_trial_goes) _) ⟨va_cnB 1 hts gX10_allGo_X6_copyFrom_n227 rfl rfl rfl (hN _ nwM_X10_227 rfl) (hts _ I_X6) (by decide +kernel) ⟨Nat.le_of_ble_eq_true rfl, Nat.le_of_ble_eq_true rfl⟩, hts _ N_X6_copyFrom, hts _ E_X6_copyFrom⟩ (q_preV hK hP (ci := 6) (q0 := 2) rfl rfl rfl (q_pre hN hK hP hD [1, 2, 3, 4, 5, 6, 7, 8, 9, 10, 11, 12] rfl (by decide))) rfl rfl hl.1 rfl (lv_room (Nat.le_of_ble_eq_true rfl)) dX10_allGo_19 ⟨Nat.le_of_ble_eq_true rfl, Nat.le_of_ble_eq_true rfl⟩) hP hD hS hA [1, 2, 3, 4, 5, 6, 7, 8, 9, 10, 11, 12] [0, 13] rfl rfl (by decide) (by decide) (fun w1 H locs hw hP hD hS => ?_)
      obtain rfl := hw
      have hP : va_P (dC, dI) vwCl [(q_G, .inr (10, [u_G_0, .ref q_sound, u_G_2, .ref q_now, .ref q_trial, u_G_5, u_G_6, u_G_7, u_G_8])), (q_now, .inr (6, [.ref q_now_found, .ref q_now_buoys, .ref q_now_shifted, .ref q_now_status, .ref q_now_goes, .int 0, .int 0])), (q_trial, .inr (6, [.ref q_trial_found, .ref q_trial_buoys, .ref q_trial_shifted, .ref q_trial_status, .ref q_trial_goes, .int 0, .int 0])), (q_now_found, .inl (cI, 5, .inl f_now_found)), (q_trial_found, .inl (cI, 5, .inl (va_cpy f_now_found f_trial_found 0 0 5))), (q_now_buoys, .inl (cI, 5, .inl f_now_buoys)), (q_trial_buoys, .inl (cI, 5, .inl (va_cpy f_now_buoys f_trial_buoys 0 0 5))), (q_now_shifted, .inl (cI, 5, .inl f_now_shifted)), (q_trial_shifted, .inl (cI, 5, .inl (va_cpy f_now_shifted f_trial_shifted 0 0 5))), (q_now_status, .inl (cI, 6, .inl f_now_status)), (q_trial_status, .inl (cI, 6, .inl (va_cpy f_now_status f_trial_status 0 0 6))), (q_now_goes, .inl (cI, 6, .inl f_now_goes)), (q_trial_goes, .inl (cI, 6, .inl (va_cpy f_now_goes f_trial_goes 0 0 6))), (q_sound, .inr (5, [u_sound_0, u_sound_1, u_sound_2, u_sound_3, u_sound_4, u_sound_5, u_sound_6, .int 0, u_sound_8, u_sound_9]))] H := hP.sub [0, 2, 3, 4, 5, 6, 7, 8, 9, 10, 11, 12, 13, 1] rfl
      have hD : va_D A [(q_G, .inr (10, [u_G_0, .ref q_sound, u_G_2, .ref q_now, .ref q_trial, u_G_5, u_G_6, u_G_7, u_G_8])), (q_now, .inr (6, [.ref q_now_found, .ref q_now_buoys, .ref q_now_shifted, .ref q_now_status, .ref q_now_goes, .int 0, .int 0])), (q_trial, .inr (6, [.ref q_trial_found, .ref q_trial_buoys, .ref q_trial_shifted, .ref q_trial_status, .ref q_trial_goes, .int 0, .int 0])), (q_now_found, .inl (cI, 5, .inl f_now_found)), (q_trial_found, .inl (cI, 5, .inl (va_cpy f_now_found f_trial_found 0 0 5))), (q_now_buoys, .inl (cI, 5, .inl f_now_buoys)), (q_trial_buoys, .inl (cI, 5, .inl (va_cpy f_now_buoys f_trial_buoys 0 0 5))), (q_now_shifted, .inl (cI, 5, .inl f_now_shifted)), (q_trial_shifted, .inl (cI, 5, .inl (va_cpy f_now_shifted f_trial_shifted 0 0 5))), (q_now_status, .inl (cI, 6, .inl f_now_status)), (q_trial_status, .inl (cI, 6, .inl (va_cpy f_now_status f_trial_status 0 0 6))), (q_now_goes, .inl (cI, 6, .inl f_now_goes)), (q_trial_goes, .inl (cI, 6, .inl (va_cpy f_now_goes f_trial_goes 0 0 6))), (q_sound, .inr (5, [u_sound_0, u_sound_1, u_sound_2, u_sound_3, u_sound_4, u_sound_5, u_sound_6, .int 0, u_sound_8, u_sound_9]))] := hD.sub [0, 2, 3, 4, 5, 6, 7, 8, 9, 10, 11, 12, 13, 1] (by decide) rfl
      refine lv_iconst (v := 0) hx hb dX10_allGo_22 (by decide) ?_
      refine lv_istore_n (lv' := [(2, .int 0), (0, .ref q_G), (1, .int x1)]) hx hb dX10_allGo_23 rfl hl (by decide) rfl (fun ls hl => ?_)
      refine lv_iload_n hx hb dX10_allGo_24 rfl (lv_at hl 0 rfl) ?_
      refine lv_aload_n hx hb dX10_allGo_25 rfl (lv_at hl 1 rfl) ?_
      refine q_get (v := .ref q_sound) C inX10 hK hP 0 rfl rfl 1 (by decide) rfl L19 rfl dX10_allGo_26 ?_
      refine q_getN (v := .int 0) C hN inX5 hK hP 13 rfl rfl 7 (by decide) rfl nwF_X10_235 rfl dX10_allGo_29 ?_
      refine lv_icmp_ge (tgt := 101) hx hb dX10_allGo_32 (by decide) (fun _ => ?_) (fun h => absurd (by decide +kernel) h)
      refine lv_iload_n hx hb dX10_allGo_101 rfl (lv_at hl 2 rfl) ?_
      refine lv_iconst (v := 2) hx hb dX10_allGo_102 (by decide) ?_
      refine lv_icmp_ne (tgt := 122) hx hb dX10_allGo_103 (by decide) (fun c3 => ?_) (fun c3 => ?_)
      · skip
        refine lv_aload_n hx hb dX10_allGo_122 rfl (lv_at hl 1 rfl) ?_
        refine lv_aload_n hx hb dX10_allGo_123 rfl (lv_at hl 1 rfl) ?_
        refine q_get (v := .ref q_trial) C inX10 hK hP 0 rfl rfl 4 (by decide) rfl L39 rfl dX10_allGo_124 ?_
        refine lv_iload_n hx hb dX10_allGo_127 rfl (lv_at hl 2 rfl) ?_
        refine lv_if_ne (tgt := 135) hx hb dX10_allGo_128 (by decide) (fun c4 => ?_) (fun c4 => ?_)
        · skip
          refine lv_iconst (v := 1) hx hb dX10_allGo_135 (by decide) ?_
          refine q_goi (wr := [(q_now, .inr (6, [.ref q_now_found, .ref q_now_buoys, .ref q_now_shifted, .ref q_now_status, .ref q_now_goes, .int 0, .int 0])), (q_trial, .inr (6, [.ref q_trial_found, .ref q_trial_buoys, .ref q_trial_shifted, .ref q_trial_status, .ref q_trial_goes, .int 0, .int 0])), (q_now_found, .inl (cI, 5, .inl f_now_found)), (q_trial_found, .inl (cI, 5, .inl (va_cpy f_now_found f_trial_found 0 0 5))), (q_now_buoys, .inl (cI, 5, .inl f_now_buoys)), (q_trial_buoys, .inl (cI, 5, .inl (va_cpy f_now_buoys f_trial_buoys 0 0 5))), (q_now_shifted, .inl (cI, 5, .inl f_now_shifted)), (q_trial_shifted, .inl (cI, 5, .inl (va_cpy f_now_shifted f_trial_shifted 0 0 5))), (q_now_status, .inl (cI, 6, .inl f_now_status)), (q_trial_status, .inl (cI, 6, .inl (va_cpy f_now_status f_trial_status 0 0 6))), (q_now_goes, .inl (cI, 6, .inl f_now_goes)), (q_trial_goes, .inl (cI, 6, .inl (va_cpy f_now_goes f_trial_goes 0 0 6)))]) (va_runV (As := [.ref q_trial, .int 1]) (rest := []) C (k_X10_partiesThatAre l dC dI cB cI cJ cZ cS (q_G) (q_sound) (q_trial) (u_G_0) (u_G_2) (.ref q_now) (.ref q_trial) (u_G_5) (u_G_6) (u_G_7) (u_G_8) (u_sound_0) (u_sound_1) (u_sound_2) (u_sound_3) (u_sound_4) (u_sound_5) (u_sound_6) (u_sound_8) (u_sound_9) 1 _) (cwV 2 hts gX10_allGo_X10_partiesThatAre rfl rfl rfl (by decide +kernel) ⟨Nat.le_of_ble_eq_true rfl, Nat.le_of_ble_eq_true rfl⟩) (q_preV hK hP (ci := 10) (q0 := 0) rfl rfl rfl (q_pre hN hK hP hD [0, 13] rfl (by decide))) rfl rfl hl.1 rfl (lv_room (Nat.le_of_ble_eq_true rfl)) dX10_allGo_136 ⟨Nat.le_of_ble_eq_true rfl, Nat.le_of_ble_eq_true rfl⟩) hP hD hS hA [0, 13] [1, 2, 3, 4, 5, 6, 7, 8, 9, 10, 11, 12] rfl rfl (by decide) (by decide) (fun r w1 H locs hw hP hD hS => ?_)
          obtain ⟨rfl, rfl⟩ := hw
          have hP : va_P (dC, dI) vwCl [(q_G, .inr (10, [u_G_0, .ref q_sound, u_G_2, .ref q_now, .ref q_trial, u_G_5, u_G_6, u_G_7, u_G_8])), (q_now, .inr (6, [.ref q_now_found, .ref q_now_buoys, .ref q_now_shifted, .ref q_now_status, .ref q_now_goes, .int 0, .int 0])), (q_trial, .inr (6, [.ref q_trial_found, .ref q_trial_buoys, .ref q_trial_shifted, .ref q_trial_status, .ref q_trial_goes, .int 0, .int 0])), (q_now_found, .inl (cI, 5, .inl f_now_found)), (q_trial_found, .inl (cI, 5, .inl (va_cpy f_now_found f_trial_found 0 0 5))), (q_now_buoys, .inl (cI, 5, .inl f_now_buoys)), (q_trial_buoys, .inl (cI, 5, .inl (va_cpy f_now_buoys f_trial_buoys 0 0 5))), (q_now_shifted, .inl (cI, 5, .inl f_now_shifted)), (q_trial_shifted, .inl (cI, 5, .inl (va_cpy f_now_shifted f_trial_shifted 0 0 5))), (q_now_status, .inl (cI, 6, .inl f_now_status)), (q_trial_status, .inl (cI, 6, .inl (va_cpy f_now_status f_trial_status 0 0 6))), (q_now_goes, .inl (cI, 6, .inl f_now_goes)), (q_trial_goes, .inl (cI, 6, .inl (va_cpy f_now_goes f_trial_goes 0 0 6))), (q_sound, .inr (5, [u_sound_0, u_sound_1, u_sound_2, u_sound_3, u_sound_4, u_sound_5, u_sound_6, .int 0, u_sound_8, u_sound_9]))] H := hP.sub [12, 0, 1, 2, 3, 4, 5, 6, 7, 8, 9, 10, 11, 13] rfl
          have hD : va_D A [(q_G, .inr (10, [u_G_0, .ref q_sound, u_G_2, .ref q_now, .ref q_trial, u_G_5, u_G_6, u_G_7, u_G_8])), (q_now, .inr (6, [.ref q_now_found, .ref q_now_buoys, .ref q_now_shifted, .ref q_now_status, .ref q_now_goes, .int 0, .int 0])), (q_trial, .inr (6, [.ref q_trial_found, .ref q_trial_buoys, .ref q_trial_shifted, .ref q_trial_status, .ref q_trial_goes, .int 0, .int 0])), (q_now_found, .inl (cI, 5, .inl f_now_found)), (q_trial_found, .inl (cI, 5, .inl (va_cpy f_now_found f_trial_found 0 0 5))), (q_now_buoys, .inl (cI, 5, .inl f_now_buoys)), (q_trial_buoys, .inl (cI, 5, .inl (va_cpy f_now_buoys f_trial_buoys 0 0 5))), (q_now_shifted, .inl (cI, 5, .inl f_now_shifted)), (q_trial_shifted, .inl (cI, 5, .inl (va_cpy f_now_shifted f_trial_shifted 0 0 5))), (q_now_status, .inl (cI, 6, .inl f_now_status)), (q_trial_status, .inl (cI, 6, .inl (va_cpy f_now_status f_trial_status 0 0 6))), (q_now_goes, .inl (cI, 6, .inl f_now_goes)), (q_trial_goes, .inl (cI, 6, .inl (va_cpy f_now_goes f_trial_goes 0 0 6))), (q_sound, .inr (5, [u_sound_0, u_sound_1, u_sound_2, u_sound_3, u_sound_4, u_sound_5, u_sound_6, .int 0, u_sound_8, u_sound_9]))] := hD.sub [12, 0, 1, 2, 3, 4, 5, 6, 7, 8, 9, 10, 11, 13] (by decide) rfl
          refine q_goi0 (va_runS (As := [.int 0]) (rest := []) C (k_bitCount0 l dC dI cB cI cJ cZ cS _) (va_cwS 1 hts gX10_allGo_J6_bitCount_0f7a4 rfl rfl rfl (by decide +kernel) ⟨Nat.le_of_ble_eq_true rfl, Nat.le_of_ble_eq_true rfl⟩) (q_pre0 hN hK) rfl rfl hl.1 rfl (lv_room (Nat.le_of_ble_eq_true rfl)) dX10_allGo_139 ⟨Nat.le_of_ble_eq_true rfl, Nat.le_of_ble_eq_true rfl⟩) hP hD hS hA (fun r w1 H locs hw hP hS => ?_)
          obtain rfl := hw
          exact q_iret C hr hlocks hK hP hD hS (Nat.le_of_ble_eq_true rfl) (Nat.le_of_ble_eq_true rfl) dX10_allGo_142 (fr_all_0 c1 c2)
        · skip
          refine lv_iconst (v := 2) hx hb dX10_allGo_131 (by decide) ?_
          refine lv_goto (tgt := 136) hx hb dX10_allGo_132 (by decide) ?_
          refine q_goi (wr := [(q_now, .inr (6, [.ref q_now_found, .ref q_now_buoys, .ref q_now_shifted, .ref q_now_status, .ref q_now_goes, .int 0, .int 0])), (q_trial, .inr (6, [.ref q_trial_found, .ref q_trial_buoys, .ref q_trial_shifted, .ref q_trial_status, .ref q_trial_goes, .int 0, .int 0])), (q_now_found, .inl (cI, 5, .inl f_now_found)), (q_trial_found, .inl (cI, 5, .inl (va_cpy f_now_found f_trial_found 0 0 5))), (q_now_buoys, .inl (cI, 5, .inl f_now_buoys)), (q_trial_buoys, .inl (cI, 5, .inl (va_cpy f_now_buoys f_trial_buoys 0 0 5))), (q_now_shifted, .inl (cI, 5, .inl f_now_shifted)), (q_trial_shifted, .inl (cI, 5, .inl (va_cpy f_now_shifted f_trial_shifted 0 0 5))), (q_now_status, .inl (cI, 6, .inl f_now_status)), (q_trial_status, .inl (cI, 6, .inl (va_cpy f_now_status f_trial_status 0 0 6))), (q_now_goes, .inl (cI, 6, .inl f_now_goes)), (q_trial_goes, .inl (cI, 6, .inl (va_cpy f_now_goes f_trial_goes 0 0 6)))]) (va_runV (As := [.ref q_trial, .int 2]) (rest := []) C (k_X10_partiesThatAre l dC dI cB cI cJ cZ cS (q_G) (q_sound) (q_trial) (u_G_0) (u_G_2) (.ref q_now) (.ref q_trial) (u_G_5) (u_G_6) (u_G_7) (u_G_8) (u_sound_0) (u_sound_1) (u_sound_2) (u_sound_3) (u_sound_4) (u_sound_5) (u_sound_6) (u_sound_8) (u_sound_9) 2 _) (cwV 2 hts gX10_allGo_X10_partiesThatAre rfl rfl rfl (by decide +kernel) ⟨Nat.le_of_ble_eq_true rfl, Nat.le_of_ble_eq_true rfl⟩) (q_preV hK hP (ci := 10) (q0 := 0) rfl rfl rfl (q_pre hN hK hP hD [0, 13] rfl (by decide))) rfl rfl hl.1 rfl (lv_room (Nat.le_of_ble_eq_true rfl)) dX10_allGo_136 ⟨Nat.le_of_ble_eq_true rfl, Nat.le_of_ble_eq_true rfl⟩) hP hD hS hA [0, 13] [1, 2, 3, 4, 5, 6, 7, 8, 9, 10, 11, 12] rfl rfl (by decide) (by decide) (fun r w1 H locs hw hP hD hS => ?_)
          obtain ⟨rfl, rfl⟩ := hw
          have hP : va_P (dC, dI) vwCl [(q_G, .inr (10, [u_G_0, .ref q_sound, u_G_2, .ref q_now, .ref q_trial, u_G_5, u_G_6, u_G_7, u_G_8])), (q_now, .inr (6, [.ref q_now_found, .ref q_now_buoys, .ref q_now_shifted, .ref q_now_status, .ref q_now_goes, .int 0, .int 0])), (q_trial, .inr (6, [.ref q_trial_found, .ref q_trial_buoys, .ref q_trial_shifted, .ref q_trial_status, .ref q_trial_goes, .int 0, .int 0])), (q_now_found, .inl (cI, 5, .inl f_now_found)), (q_trial_found, .inl (cI, 5, .inl (va_cpy f_now_found f_trial_found 0 0 5))), (q_now_buoys, .inl (cI, 5, .inl f_now_buoys)), (q_trial_buoys, .inl (cI, 5, .inl (va_cpy f_now_buoys f_trial_buoys 0 0 5))), (q_now_shifted, .inl (cI, 5, .inl f_now_shifted)), (q_trial_shifted, .inl (cI, 5, .inl (va_cpy f_now_shifted f_trial_shifted 0 0 5))), (q_now_status, .inl (cI, 6, .inl f_now_status)), (q_trial_status, .inl (cI, 6, .inl (va_cpy f_now_status f_trial_status 0 0 6))), (q_now_goes, .inl (cI, 6, .inl f_now_goes)), (q_trial_goes, .inl (cI, 6, .inl (va_cpy f_now_goes f_trial_goes 0 0 6))), (q_sound, .inr (5, [u_sound_0, u_sound_1, u_sound_2, u_sound_3, u_sound_4, u_sound_5, u_sound_6, .int 0, u_sound_8, u_sound_9]))] H := hP.sub [12, 0, 1, 2, 3, 4, 5, 6, 7, 8, 9, 10, 11, 13] rfl
          have hD : va_D A [(q_G, .inr (10, [u_G_0, .ref q_sound, u_G_2, .ref q_now, .ref q_trial, u_G_5, u_G_6, u_G_7, u_G_8])), (q_now, .inr (6, [.ref q_now_found, .ref q_now_buoys, .ref q_now_shifted, .ref q_now_status, .ref q_now_goes, .int 0, .int 0])), (q_trial, .inr (6, [.ref q_trial_found, .ref q_trial_buoys, .ref q_trial_shifted, .ref q_trial_status, .ref q_trial_goes, .int 0, .int 0])), (q_now_found, .inl (cI, 5, .inl f_now_found)), (q_trial_found, .inl (cI, 5, .inl (va_cpy f_now_found f_trial_found 0 0 5))), (q_now_buoys, .inl (cI, 5, .inl f_now_buoys)), (q_trial_buoys, .inl (cI, 5, .inl (va_cpy f_now_buoys f_trial_buoys 0 0 5))), (q_now_shifted, .inl (cI, 5, .inl f_now_shifted)), (q_trial_shifted, .inl (cI, 5, .inl (va_cpy f_now_shifted f_trial_shifted 0 0 5))), (q_now_status, .inl (cI, 6, .inl f_now_status)), (q_trial_status, .inl (cI, 6, .inl (va_cpy f_now_status f_trial_status 0 0 6))), (q_now_goes, .inl (cI, 6, .inl f_now_goes)), (q_trial_goes, .inl (cI, 6, .inl (va_cpy f_now_goes f_trial_goes 0 0 6))), (q_sound, .inr (5, [u_sound_0, u_sound_1, u_sound_2, u_sound_3, u_sound_4, u_sound_5, u_sound_6, .int 0, u_sound_8, u_sound_9]))] := hD.sub [12, 0, 1, 2, 3, 4, 5, 6, 7, 8, 9, 10, 11, 13] (by decide) rfl
          refine q_goi0 (va_runS (As := [.int 0]) (rest := []) C (k_bitCount0 l dC dI cB cI cJ cZ cS _) (va_cwS 1 hts gX10_allGo_J6_bitCount_0f7a4 rfl rfl rfl (by decide +kernel) ⟨Nat.le_of_ble_eq_true rfl, Nat.le_of_ble_eq_true rfl⟩) (q_pre0 hN hK) rfl rfl hl.1 rfl (lv_room (Nat.le_of_ble_eq_true rfl)) dX10_allGo_139 ⟨Nat.le_of_ble_eq_true rfl, Nat.le_of_ble_eq_true rfl⟩) hP hD hS hA (fun r w1 H locs hw hP hS => ?_)
          obtain rfl := hw
          exact q_iret C hr hlocks hK hP hD hS (Nat.le_of_ble_eq_true rfl) (Nat.le_of_ble_eq_true rfl) dX10_allGo_142 (fr_all_0 c1 c2)
      · skip
        refine lv_aload_n hx hb dX10_allGo_106 rfl (lv_at hl 1 rfl) ?_
        refine q_get (v := .ref q_trial) C inX10 hK hP 0 rfl rfl 4 (by decide) rfl L39 rfl dX10_allGo_107 ?_
        refine q_getN (v := .int 0) C hN inX6 hK hP 2 rfl rfl 6 (by decide) rfl nwF_X10_241 rfl dX10_allGo_110 ?_
        refine lv_aload_n hx hb dX10_allGo_113 rfl (lv_at hl 1 rfl) ?_
        refine q_get (v := .ref q_now) C inX10 hK hP 0 rfl rfl 3 (by decide) rfl L35 rfl dX10_allGo_114 ?_
        refine q_getN (v := .int 0) C hN inX6 hK hP 1 rfl rfl 6 (by decide) rfl nwF_X10_241 rfl dX10_allGo_117 ?_
        refine lv_isub hx hb dX10_allGo_120 ?_
        refine q_top (y := 0) (by decide +kernel) ?_
        exact q_iret C hr hlocks hK hP hD hS (Nat.le_of_ble_eq_true rfl) (Nat.le_of_ble_eq_true rfl) dX10_allGo_121 (fr_all_0 c1 c2)
    · skip
      refine lv_iconst (v := (-1)) hx hb dX10_allGo_9 (by decide) ?_
      exact q_iret C hr hlocks hK hP hD hS (Nat.le_of_ble_eq_true rfl) (Nat.le_of_ble_eq_true rfl) dX10_allGo_10 (fr_all_b c2)

set_option maxHeartbeats 4000000 in
set_option maxRecDepth 100000 in
theorem k_X0_guessThere (l : Launch) (dC : Nat → ClassId) (dI : Nat → Nat → Nat) (cB cI cJ cZ cS : ClassId) (q_sound : Nat) (q_now : Nat) (q_crossing : Nat) (u_crossing_1 : Value) (u_sound_0 : Value) (u_sound_1 : Value) (u_sound_2 : Value) (u_sound_3 : Value) (u_sound_4 : Value) (u_sound_5 : Value) (u_sound_7 : Value) (u_sound_8 : Value) (u_sound_9 : Value) (x1 : Int32) : CI l yX0_guessThere wsX0_guessThere ({ frames := 0, cells := 0, slots := 0, locals := 0 }) (dC, dI) (tysA cB cI cJ cZ cS) [(q_crossing, .inr (0, [.ref q_sound, u_crossing_1])), (q_sound, .inr (5, [u_sound_0, u_sound_1, u_sound_2, u_sound_3, u_sound_4, u_sound_5, .int 0, u_sound_7, u_sound_8, u_sound_9]))] [.ref q_crossing, .ref q_now, .int x1] (fun r w => w = [(q_crossing, .inr (0, [.ref q_sound, u_crossing_1])), (q_sound, .inr (5, [u_sound_0, u_sound_1, u_sound_2, u_sound_3, u_sound_4, u_sound_5, .int 0, u_sound_7, u_sound_8, u_sound_9]))] ∧ r = 0) := by
  refine open_I (cc := cX0_guessThere) (maxL := 5) (ret := (some .int)) (by decide) rfl (Nat.le_of_ble_eq_true rfl) ?_
  intro p e s m below meth c A ls E
  obtain ⟨C, hr, hlocks, hnm, hA, hP, hK, hD, hN, hl⟩ := E
  obtain ⟨hx, hb, hml, hown, hts⟩ := id C
  have hS : va_S A s.heap s.heap [] := va_S.rf
  have hl : lv_has ls 5 [(0, .ref q_crossing), (1, .ref q_now), (2, .int x1)] := hl
  have inX0 : ∀ w ∈ u_ws RX0 TX0 2, w ∈ wsX0_guessThere := fun _ h => List.mem_cons_of_mem _ (List.mem_append_left _ (List.mem_append_left _ (List.mem_append_right _ h)))
  have inX5 : ∀ w ∈ u_ws RX5 TX5 10, w ∈ wsX0_guessThere := fun _ h => List.mem_cons_of_mem _ (List.mem_append_left _ (List.mem_append_right _ h))
  have L9 : Cond.fieldLink RX0 9 "GuessFerry$Crossing" "sound" "LGuessFerry$Sound;" ∈ wsX0_guessThere := by decide +kernel
  refine lv_iconst (v := 0) hx hb dX0_guessThere_0 (by decide) ?_
  refine lv_istore_n (lv' := [(3, .int 0), (0, .ref q_crossing), (1, .ref q_now), (2, .int x1)]) hx hb dX0_guessThere_1 rfl hl (by decide) rfl (fun ls hl => ?_)
  refine lv_aload_n hx hb dX0_guessThere_2 rfl (lv_at hl 1 rfl) ?_
  refine q_get (v := .ref q_sound) C inX0 hK hP 0 rfl rfl 0 (by decide) rfl L9 rfl dX0_guessThere_3 ?_
  refine q_getN (v := .int 0) C hN inX5 hK hP 1 rfl rfl 6 (by decide) rfl nwF_X0_50 rfl dX0_guessThere_6 ?_
  refine lv_iconst (v := 1) hx hb dX0_guessThere_9 (by decide) ?_
  refine lv_isub hx hb dX0_guessThere_10 ?_
  refine q_top (y := (-1)) (by decide +kernel) ?_
  refine lv_istore (lv' := [(4, .int (-1)), (3, .int 0), (0, .ref q_crossing), (1, .ref q_now), (2, .int x1)]) hx hb dX0_guessThere_11 hl (by decide) rfl (fun ls hl => ?_)
  refine lv_iload hx hb dX0_guessThere_13 (lv_at hl 0 rfl) ?_
  refine lv_if_lt (tgt := 47) hx hb dX0_guessThere_15 (by decide) (fun _ => ?_) (fun h => absurd (by decide +kernel) h)
  refine lv_iload_n hx hb dX0_guessThere_47 rfl (lv_at hl 1 rfl) ?_
  exact q_iret C hr hlocks hK hP hD hS (Nat.le_of_ble_eq_true rfl) (Nat.le_of_ble_eq_true rfl) dX0_guessThere_48 (⟨rfl, rfl⟩)

set_option maxHeartbeats 4000000 in
set_option maxRecDepth 100000 in
theorem k_X8_areSuch (l : Launch) (dC : Nat → ClassId) (dI : Nat → Nat → Nat) (cB cI cJ cZ cS : ClassId) (q_tellers : Nat) (u_tellers_0 : Value) (u_tellers_1 : Value) (u_tellers_2 : Value) (u_tellers_3 : Value) (u_tellers_4 : Value) (u_tellers_5 : Value) (u_tellers_6 : Value) (x1 : Int32) (x2 : Int32) : CI l yX8_areSuch wsX8_areSuch ({ frames := 0, cells := 0, slots := 0, locals := 0 }) (dC, dI) (tysA cB cI cJ cZ cS) [(q_tellers, .inr (8, [u_tellers_0, u_tellers_1, u_tellers_2, u_tellers_3, u_tellers_4, u_tellers_5, u_tellers_6, .int 0]))] [.ref q_tellers, .int x1, .int x2] (fun r w => w = [(q_tellers, .inr (8, [u_tellers_0, u_tellers_1, u_tellers_2, u_tellers_3, u_tellers_4, u_tellers_5, u_tellers_6, .int 0]))] ∧ r = (sp_ask x1 x2)) := by
  refine open_I (cc := cX8_areSuch) (maxL := 3) (ret := (some .boolean)) (by decide) rfl (Nat.le_of_ble_eq_true rfl) ?_
  intro p e s m below meth c A ls E
  obtain ⟨C, hr, hlocks, hnm, hA, hP, hK, hD, hN, hl⟩ := E
  obtain ⟨hx, hb, hml, hown, hts⟩ := id C
  have hS : va_S A s.heap s.heap [] := va_S.rf
  have hl : lv_has ls 3 [(0, .ref q_tellers), (1, .int x1), (2, .int x2)] := hl
  have inX8 : ∀ w ∈ u_ws RX8 TX8 8, w ∈ wsX8_areSuch := fun _ h => List.mem_cons_of_mem _ (List.mem_append_right _ h)
  have L35 : Cond.fieldLink RX8 35 "GuessFerry$Tellers" "told" "I" ∈ wsX8_areSuch := by decide +kernel
  refine lv_iload_n hx hb dX8_areSuch_0 rfl (lv_at hl 1 rfl) ?_
  refine lv_if_lt (tgt := 25) hx hb dX8_areSuch_1 (by decide) (fun c1 => ?_) (fun c1 => ?_)
  · skip
    refine lv_iconst (v := 0) hx hb dX8_areSuch_25 (by decide) ?_
    exact q_zret C hr hlocks (Or.inl rfl) hK hP hD hS (Nat.le_of_ble_eq_true rfl) (Nat.le_of_ble_eq_true rfl) dX8_areSuch_26 (⟨rfl, sp_ask_a c1⟩)
  · skip
    refine lv_iload_n hx hb dX8_areSuch_4 rfl (lv_at hl 1 rfl) ?_
    refine lv_aload_n hx hb dX8_areSuch_5 rfl (lv_at hl 0 rfl) ?_
    refine q_get (v := .int 0) C inX8 hK hP 0 rfl rfl 7 (by decide) rfl L35 rfl dX8_areSuch_6 ?_
    refine lv_icmp_gt (tgt := 25) hx hb dX8_areSuch_9 (by decide) (fun c2 => ?_) (fun c2 => ?_)
    · skip
      refine lv_iconst (v := 0) hx hb dX8_areSuch_25 (by decide) ?_
      exact q_zret C hr hlocks (Or.inl rfl) hK hP hD hS (Nat.le_of_ble_eq_true rfl) (Nat.le_of_ble_eq_true rfl) dX8_areSuch_26 (⟨rfl, sp_ask_b c2⟩)
    · skip
      refine lv_iload_n hx hb dX8_areSuch_12 rfl (lv_at hl 2 rfl) ?_
      refine lv_if_lt (tgt := 25) hx hb dX8_areSuch_13 (by decide) (fun c3 => ?_) (fun c3 => ?_)
      · skip
        refine lv_iconst (v := 0) hx hb dX8_areSuch_25 (by decide) ?_
        exact q_zret C hr hlocks (Or.inl rfl) hK hP hD hS (Nat.le_of_ble_eq_true rfl) (Nat.le_of_ble_eq_true rfl) dX8_areSuch_26 (⟨rfl, sp_ask_c c3⟩)
      · skip
        refine lv_iload_n hx hb dX8_areSuch_16 rfl (lv_at hl 2 rfl) ?_
        refine lv_iconst (v := 3) hx hb dX8_areSuch_17 (by decide) ?_
        refine lv_icmp_gt (tgt := 25) hx hb dX8_areSuch_18 (by decide) (fun c4 => ?_) (fun c4 => ?_)
        · skip
          refine lv_iconst (v := 0) hx hb dX8_areSuch_25 (by decide) ?_
          exact q_zret C hr hlocks (Or.inl rfl) hK hP hD hS (Nat.le_of_ble_eq_true rfl) (Nat.le_of_ble_eq_true rfl) dX8_areSuch_26 (⟨rfl, sp_ask_d c4⟩)
        · skip
          refine lv_iconst (v := 1) hx hb dX8_areSuch_21 (by decide) ?_
          refine lv_goto (tgt := 26) hx hb dX8_areSuch_22 (by decide) ?_
          exact q_zret C hr hlocks (Or.inr rfl) hK hP hD hS (Nat.le_of_ble_eq_true rfl) (Nat.le_of_ble_eq_true rfl) dX8_areSuch_26 (⟨rfl, sp_ask_e c1 c2 c3 c4⟩)
