theorem dX2_caseCount_0 : decode cX2_caseCount 0 = .ok (.iconst 1, 1) := by decide +kernel
theorem dX2_caseCount_1 : decode cX2_caseCount 1 = .ok (.istore_n 2, 1) := by decide +kernel
theorem dX2_caseCount_2 : decode cX2_caseCount 2 = .ok (.iconst 0, 1) := by decide +kernel
theorem dX2_caseCount_3 : decode cX2_caseCount 3 = .ok (.istore_n 3, 1) := by decide +kernel
theorem dX2_caseCount_4 : decode cX2_caseCount 4 = .ok (.iload_n 3, 1) := by decide +kernel
theorem dX2_caseCount_5 : decode cX2_caseCount 5 = .ok (.aload_n 0, 1) := by decide +kernel
theorem dX2_caseCount_6 : decode cX2_caseCount 6 = .ok (.getfield 24, 3) := by decide +kernel
theorem dX2_caseCount_9 : decode cX2_caseCount 9 = .ok (.getfield 44, 3) := by decide +kernel
theorem dX2_caseCount_12 : decode cX2_caseCount 12 = .ok (.if_icmp .ge 18, 3) := by decide +kernel
theorem dX2_caseCount_30 : decode cX2_caseCount 30 = .ok (.iload_n 2, 1) := by decide +kernel
theorem dX2_caseCount_31 : decode cX2_caseCount 31 = .ok (.ireturn, 1) := by decide +kernel
theorem dX2_oddsOfAll_0 : decode cX2_oddsOfAll 0 = .ok (.iconst 1, 1) := by decide +kernel
theorem dX2_oddsOfAll_1 : decode cX2_oddsOfAll 1 = .ok (.istore_n 3, 1) := by decide +kernel
theorem dX2_oddsOfAll_2 : decode cX2_oddsOfAll 2 = .ok (.iconst 0, 1) := by decide +kernel
theorem dX2_oddsOfAll_3 : decode cX2_oddsOfAll 3 = .ok (.istore 4, 2) := by decide +kernel
theorem dX2_oddsOfAll_5 : decode cX2_oddsOfAll 5 = .ok (.iload 4, 2) := by decide +kernel
theorem dX2_oddsOfAll_7 : decode cX2_oddsOfAll 7 = .ok (.aload_n 0, 1) := by decide +kernel
theorem dX2_oddsOfAll_8 : decode cX2_oddsOfAll 8 = .ok (.getfield 24, 3) := by decide +kernel
theorem dX2_oddsOfAll_11 : decode cX2_oddsOfAll 11 = .ok (.getfield 44, 3) := by decide +kernel
theorem dX2_oddsOfAll_14 : decode cX2_oddsOfAll 14 = .ok (.if_icmp .ge 53, 3) := by decide +kernel
theorem dX2_oddsOfAll_67 : decode cX2_oddsOfAll 67 = .ok (.iload_n 3, 1) := by decide +kernel
theorem dX2_oddsOfAll_68 : decode cX2_oddsOfAll 68 = .ok (.ireturn, 1) := by decide +kernel
theorem dX2_oddsOf_0 : decode cX2_oddsOf 0 = .ok (.iconst 1, 1) := by decide +kernel
theorem dX2_oddsOf_1 : decode cX2_oddsOf 1 = .ok (.istore_n 3, 1) := by decide +kernel
theorem dX2_oddsOf_2 : decode cX2_oddsOf 2 = .ok (.iconst 0, 1) := by decide +kernel
theorem dX2_oddsOf_3 : decode cX2_oddsOf 3 = .ok (.istore 4, 2) := by decide +kernel
theorem dX2_oddsOf_5 : decode cX2_oddsOf 5 = .ok (.iload 4, 2) := by decide +kernel
theorem dX2_oddsOf_7 : decode cX2_oddsOf 7 = .ok (.aload_n 0, 1) := by decide +kernel
theorem dX2_oddsOf_8 : decode cX2_oddsOf 8 = .ok (.getfield 24, 3) := by decide +kernel
theorem dX2_oddsOf_11 : decode cX2_oddsOf 11 = .ok (.getfield 44, 3) := by decide +kernel
theorem dX2_oddsOf_14 : decode cX2_oddsOf 14 = .ok (.if_icmp .ge 25, 3) := by decide +kernel
theorem dX2_oddsOf_39 : decode cX2_oddsOf 39 = .ok (.iload_n 3, 1) := by decide +kernel
theorem dX2_oddsOf_40 : decode cX2_oddsOf 40 = .ok (.ireturn, 1) := by decide +kernel
theorem dX2_bestGuess_0 : decode cX2_bestGuess 0 = .ok (.iconst 0, 1) := by decide +kernel
theorem dX2_bestGuess_1 : decode cX2_bestGuess 1 = .ok (.istore_n 3, 1) := by decide +kernel
theorem dX2_bestGuess_2 : decode cX2_bestGuess 2 = .ok (.aload_n 0, 1) := by decide +kernel
theorem dX2_bestGuess_3 : decode cX2_bestGuess 3 = .ok (.getfield 24, 3) := by decide +kernel
theorem dX2_bestGuess_6 : decode cX2_bestGuess 6 = .ok (.getfield 44, 3) := by decide +kernel
theorem dX2_bestGuess_9 : decode cX2_bestGuess 9 = .ok (.iconst 1, 1) := by decide +kernel
theorem dX2_bestGuess_10 : decode cX2_bestGuess 10 = .ok (.isub, 1) := by decide +kernel
theorem dX2_bestGuess_11 : decode cX2_bestGuess 11 = .ok (.istore 4, 2) := by decide +kernel
theorem dX2_bestGuess_13 : decode cX2_bestGuess 13 = .ok (.iload 4, 2) := by decide +kernel
theorem dX2_bestGuess_15 : decode cX2_bestGuess 15 = .ok (.ifCond .lt 36, 3) := by decide +kernel
theorem dX2_bestGuess_51 : decode cX2_bestGuess 51 = .ok (.iload_n 3, 1) := by decide +kernel
theorem dX2_bestGuess_52 : decode cX2_bestGuess 52 = .ok (.ireturn, 1) := by decide +kernel
theorem dX2_goesAtMost_0 : decode cX2_goesAtMost 0 = .ok (.iconst 1, 1) := by decide +kernel
theorem dX2_goesAtMost_1 : decode cX2_goesAtMost 1 = .ok (.istore_n 2, 1) := by decide +kernel
theorem dX2_goesAtMost_2 : decode cX2_goesAtMost 2 = .ok (.iconst 0, 1) := by decide +kernel
theorem dX2_goesAtMost_3 : decode cX2_goesAtMost 3 = .ok (.istore_n 3, 1) := by decide +kernel
theorem dX2_goesAtMost_4 : decode cX2_goesAtMost 4 = .ok (.iload_n 3, 1) := by decide +kernel
theorem dX2_goesAtMost_5 : decode cX2_goesAtMost 5 = .ok (.aload_n 0, 1) := by decide +kernel
theorem dX2_goesAtMost_6 : decode cX2_goesAtMost 6 = .ok (.getfield 24, 3) := by decide +kernel
theorem dX2_goesAtMost_9 : decode cX2_goesAtMost 9 = .ok (.getfield 44, 3) := by decide +kernel
theorem dX2_goesAtMost_12 : decode cX2_goesAtMost 12 = .ok (.if_icmp .ge 20, 3) := by decide +kernel
theorem dX2_goesAtMost_32 : decode cX2_goesAtMost 32 = .ok (.iload_n 2, 1) := by decide +kernel
theorem dX2_goesAtMost_33 : decode cX2_goesAtMost 33 = .ok (.ireturn, 1) := by decide +kernel
theorem dX2_leftBehind_0 : decode cX2_leftBehind 0 = .ok (.iconst 1, 1) := by decide +kernel
theorem dX2_leftBehind_1 : decode cX2_leftBehind 1 = .ok (.istore_n 3, 1) := by decide +kernel
theorem dX2_leftBehind_2 : decode cX2_leftBehind 2 = .ok (.iconst 1, 1) := by decide +kernel
theorem dX2_leftBehind_3 : decode cX2_leftBehind 3 = .ok (.istore 4, 2) := by decide +kernel
theorem dX2_leftBehind_5 : decode cX2_leftBehind 5 = .ok (.aload_n 0, 1) := by decide +kernel
theorem dX2_leftBehind_6 : decode cX2_leftBehind 6 = .ok (.getfield 24, 3) := by decide +kernel
theorem dX2_leftBehind_9 : decode cX2_leftBehind 9 = .ok (.getfield 44, 3) := by decide +kernel
theorem dX2_leftBehind_12 : decode cX2_leftBehind 12 = .ok (.iconst 1, 1) := by decide +kernel
theorem dX2_leftBehind_13 : decode cX2_leftBehind 13 = .ok (.isub, 1) := by decide +kernel
theorem dX2_leftBehind_14 : decode cX2_leftBehind 14 = .ok (.istore 5, 2) := by decide +kernel
theorem dX2_leftBehind_16 : decode cX2_leftBehind 16 = .ok (.iload 5, 2) := by decide +kernel
theorem dX2_leftBehind_18 : decode cX2_leftBehind 18 = .ok (.ifCond .lt 68, 3) := by decide +kernel
theorem dX2_leftBehind_86 : decode cX2_leftBehind 86 = .ok (.iload_n 3, 1) := by decide +kernel
theorem dX2_leftBehind_87 : decode cX2_leftBehind 87 = .ok (.ireturn, 1) := by decide +kernel
theorem dX2_wisestGuess_0 : decode cX2_wisestGuess 0 = .ok (.iconst 0, 1) := by decide +kernel
theorem dX2_wisestGuess_1 : decode cX2_wisestGuess 1 = .ok (.istore_n 2, 1) := by decide +kernel
theorem dX2_wisestGuess_2 : decode cX2_wisestGuess 2 = .ok (.iconst 1, 1) := by decide +kernel
theorem dX2_wisestGuess_3 : decode cX2_wisestGuess 3 = .ok (.istore_n 3, 1) := by decide +kernel
theorem dX2_wisestGuess_4 : decode cX2_wisestGuess 4 = .ok (.iconst 0, 1) := by decide +kernel
theorem dX2_wisestGuess_5 : decode cX2_wisestGuess 5 = .ok (.istore 4, 2) := by decide +kernel
theorem dX2_wisestGuess_7 : decode cX2_wisestGuess 7 = .ok (.iload 4, 2) := by decide +kernel
theorem dX2_wisestGuess_9 : decode cX2_wisestGuess 9 = .ok (.aload_n 0, 1) := by decide +kernel
theorem dX2_wisestGuess_10 : decode cX2_wisestGuess 10 = .ok (.getfield 24, 3) := by decide +kernel
theorem dX2_wisestGuess_13 : decode cX2_wisestGuess 13 = .ok (.getfield 44, 3) := by decide +kernel
theorem dX2_wisestGuess_16 : decode cX2_wisestGuess 16 = .ok (.if_icmp .ge 45, 3) := by decide +kernel
theorem dX2_wisestGuess_61 : decode cX2_wisestGuess 61 = .ok (.iconst 0, 1) := by decide +kernel
theorem dX2_wisestGuess_62 : decode cX2_wisestGuess 62 = .ok (.ireturn, 1) := by decide +kernel
theorem dX3_takeBack_0 : decode cX3_takeBack 0 = .ok (.aload_n 0, 1) := by decide +kernel
theorem dX3_takeBack_1 : decode cX3_takeBack 1 = .ok (.getfield 25, 3) := by decide +kernel
theorem dX3_takeBack_4 : decode cX3_takeBack 4 = .ok (.ifCond .ne 5, 3) := by decide +kernel
theorem dX3_takeBack_7 : decode cX3_takeBack 7 = .ok (.iconst 0, 1) := by decide +kernel
theorem dX3_takeBack_8 : decode cX3_takeBack 8 = .ok (.ireturn, 1) := by decide +kernel
theorem dX10_place_0 : decode cX10_place 0 = .ok (.aload_n 0, 1) := by decide +kernel
theorem dX10_place_1 : decode cX10_place 1 = .ok (.getfield 28, 3) := by decide +kernel
theorem dX10_place_4 : decode cX10_place 4 = .ok (.getfield 105, 3) := by decide +kernel
theorem dX10_place_7 : decode cX10_place 7 = .ok (.ireturn, 1) := by decide +kernel
set_option maxRecDepth 20000 in
theorem ggX10_party_X5_hasParty : GoodIn wsX10_party wsX5_hasParty := goodIn_r _ [7, 8, 68, 69, 70, 71, 72, 73, 74, 75, 76, 77] (by decide +kernel) (by decide +kernel)
set_option maxRecDepth 20000 in
theorem gX10_party_X5_hasParty_n138 : GoodIn wsX10_party (wsX5_hasParty) := ggX10_party_X5_hasParty
theorem dX10_party_0 : decode cX10_party 0 = .ok (.aload_n 0, 1) := by decide +kernel
theorem dX10_party_1 : decode cX10_party 1 = .ok (.getfield 19, 3) := by decide +kernel
theorem dX10_party_4 : decode cX10_party 4 = .ok (.iload_n 1, 1) := by decide +kernel
theorem dX10_party_5 : decode cX10_party 5 = .ok (.invokevirtual 138, 3) := by decide +kernel
theorem dX10_party_8 : decode cX10_party 8 = .ok (.ifCond .ne 5, 3) := by decide +kernel
theorem dX10_party_11 : decode cX10_party 11 = .ok (.iconst (-1), 1) := by decide +kernel
theorem dX10_party_12 : decode cX10_party 12 = .ok (.ireturn, 1) := by decide +kernel
set_option maxRecDepth 20000 in
theorem ggX10_needs_X5_hasParty : GoodIn wsX10_needs wsX5_hasParty := goodIn_r _ [7, 8, 91, 92, 93, 94, 95, 96, 97, 98, 99, 100] (by decide +kernel) (by decide +kernel)
set_option maxRecDepth 20000 in
theorem gX10_needs_X5_hasParty_n138 : GoodIn wsX10_needs (wsX5_hasParty) := ggX10_needs_X5_hasParty
theorem dX10_needs_0 : decode cX10_needs 0 = .ok (.aload_n 0, 1) := by decide +kernel
theorem dX10_needs_1 : decode cX10_needs 1 = .ok (.getfield 19, 3) := by decide +kernel
theorem dX10_needs_4 : decode cX10_needs 4 = .ok (.iload_n 1, 1) := by decide +kernel
theorem dX10_needs_5 : decode cX10_needs 5 = .ok (.invokevirtual 138, 3) := by decide +kernel
theorem dX10_needs_8 : decode cX10_needs 8 = .ok (.ifCond .eq 21, 3) := by decide +kernel
theorem dX10_needs_29 : decode cX10_needs 29 = .ok (.iconst (-1), 1) := by decide +kernel
theorem dX10_needs_30 : decode cX10_needs 30 = .ok (.ireturn, 1) := by decide +kernel
set_option maxRecDepth 20000 in
theorem ggX10_go_X10_isHere : GoodIn wsX10_go wsX10_isHere := goodIn_r _ [9, 1, 3, 10, 11, 12, 13, 14, 135, 136, 137, 138, 139, 140, 141, 142, 143, 154, 155, 156, 157, 158, 159, 160, 144, 145, 146, 147, 148, 149, 150, 151, 152, 153] (by decide +kernel) (by decide +kernel)
set_option maxRecDepth 20000 in
theorem gX10_go_X10_isHere : GoodIn wsX10_go (wsV RX10 164 RX10 yX10_isHere wsX10_isHere) := goodIn_app (goodIn_of _ (by decide +kernel)) ggX10_go_X10_isHere
theorem dX10_go_0 : decode cX10_go 0 = .ok (.aload_n 0, 1) := by decide +kernel
theorem dX10_go_1 : decode cX10_go 1 = .ok (.iload_n 1, 1) := by decide +kernel
theorem dX10_go_2 : decode cX10_go 2 = .ok (.invokevirtual 164, 3) := by decide +kernel
theorem dX10_go_5 : decode cX10_go 5 = .ok (.ifCond .eq 24, 3) := by decide +kernel
theorem dX10_go_29 : decode cX10_go 29 = .ok (.iconst (-1), 1) := by decide +kernel
theorem dX10_go_30 : decode cX10_go 30 = .ok (.ireturn, 1) := by decide +kernel
set_option maxRecDepth 20000 in
theorem ggX10_buoy_X5_hasWave : GoodIn wsX10_buoy wsX5_hasWave := goodIn_r _ [7, 8, 54, 55, 56, 57, 58, 59, 60, 61, 62, 63] (by decide +kernel) (by decide +kernel)
set_option maxRecDepth 20000 in
theorem gX10_buoy_X5_hasWave_n108 : GoodIn wsX10_buoy (wsX5_hasWave) := ggX10_buoy_X5_hasWave
theorem dX10_buoy_0 : decode cX10_buoy 0 = .ok (.aload_n 0, 1) := by decide +kernel
theorem dX10_buoy_1 : decode cX10_buoy 1 = .ok (.getfield 19, 3) := by decide +kernel
theorem dX10_buoy_4 : decode cX10_buoy 4 = .ok (.iload_n 1, 1) := by decide +kernel
theorem dX10_buoy_5 : decode cX10_buoy 5 = .ok (.invokevirtual 108, 3) := by decide +kernel
theorem dX10_buoy_8 : decode cX10_buoy 8 = .ok (.ifCond .eq 10, 3) := by decide +kernel
theorem dX10_buoy_18 : decode cX10_buoy 18 = .ok (.iconst 0, 1) := by decide +kernel
theorem dX10_buoy_19 : decode cX10_buoy 19 = .ok (.ireturn, 1) := by decide +kernel
set_option maxRecDepth 20000 in
theorem ggX10_fetch_X5_hasParty : GoodIn wsX10_fetch wsX5_hasParty := goodIn_r _ [7, 8, 47, 48, 49, 50, 51, 52, 53, 54, 55, 56] (by decide +kernel) (by decide +kernel)
set_option maxRecDepth 20000 in
theorem gX10_fetch_X5_hasParty_n138 : GoodIn wsX10_fetch (wsX5_hasParty) := ggX10_fetch_X5_hasParty
theorem dX10_fetch_0 : decode cX10_fetch 0 = .ok (.aload_n 0, 1) := by decide +kernel
theorem dX10_fetch_1 : decode cX10_fetch 1 = .ok (.getfield 19, 3) := by decide +kernel
theorem dX10_fetch_4 : decode cX10_fetch 4 = .ok (.iload_n 1, 1) := by decide +kernel
theorem dX10_fetch_5 : decode cX10_fetch 5 = .ok (.invokevirtual 138, 3) := by decide +kernel
theorem dX10_fetch_8 : decode cX10_fetch 8 = .ok (.ifCond .eq 15, 3) := by decide +kernel
theorem dX10_fetch_23 : decode cX10_fetch 23 = .ok (.iconst 0, 1) := by decide +kernel
theorem dX10_fetch_24 : decode cX10_fetch 24 = .ok (.ireturn, 1) := by decide +kernel
set_option maxRecDepth 20000 in
theorem ggX10_undo_X3_takeBack : GoodIn wsX10_undo wsX3_takeBack := goodIn_r _ [6, 7, 8, 9, 10, 11, 12, 13, 14, 15, 16, 17, 18, 19, 20, 21, 22, 23, 24, 34, 35, 36, 37, 38, 39, 40, 41, 42, 43, 44, 45] (by decide +kernel) (by decide +kernel)
set_option maxRecDepth 20000 in
theorem gX10_undo_X3_takeBack_n192 : GoodIn wsX10_undo (wsX3_takeBack) := ggX10_undo_X3_takeBack
theorem dX10_undo_0 : decode cX10_undo 0 = .ok (.aload_n 0, 1) := by decide +kernel
theorem dX10_undo_1 : decode cX10_undo 1 = .ok (.getfield 45, 3) := by decide +kernel
theorem dX10_undo_4 : decode cX10_undo 4 = .ok (.aload_n 0, 1) := by decide +kernel
theorem dX10_undo_5 : decode cX10_undo 5 = .ok (.getfield 35, 3) := by decide +kernel
theorem dX10_undo_8 : decode cX10_undo 8 = .ok (.invokevirtual 192, 3) := by decide +kernel
theorem dX10_undo_11 : decode cX10_undo 11 = .ok (.ireturn, 1) := by decide +kernel
set_option maxHeartbeats 4000000 in
set_option maxRecDepth 100000 in
theorem k_X10_party (l : Launch) (dC : Nat → ClassId) (dI : Nat → Nat → Nat) (cB cI cJ cZ cS : ClassId) (q_G : Nat) (q_sound : Nat) (u_G_0 : Value) (u_G_2 : Value) (u_G_3 : Value) (u_G_4 : Value) (u_G_5 : Value) (u_G_6 : Value) (u_G_7 : Value) (u_G_8 : Value) (u_sound_0 : Value) (u_sound_1 : Value) (u_sound_2 : Value) (u_sound_3 : Value) (u_sound_4 : Value) (u_sound_5 : Value) (u_sound_6 : Value) (u_sound_8 : Value) (u_sound_9 : Value) (x1 : Int32) (x2 : Int32) : CI l yX10_party wsX10_party ({ frames := 1, cells := 0, slots := 0, locals := 21 }) (dC, dI) (tysA cB cI cJ cZ cS) [(q_G, .inr (10, [u_G_0, .ref q_sound, u_G_2, u_G_3, u_G_4, u_G_5, u_G_6, u_G_7, u_G_8])), (q_sound, .inr (5, [u_sound_0, u_sound_1, u_sound_2, u_sound_3, u_sound_4, u_sound_5, u_sound_6, .int 0, u_sound_8, u_sound_9]))] [.ref q_G, .int x1, .int x2] (fun r _ => r = (-1)) := by
  refine open_I (cc := cX10_party) (maxL := 3) (ret := (some .int)) (by decide) rfl (Nat.le_of_ble_eq_true rfl) ?_
  intro p e s m below meth c A ls E
  obtain ⟨C, hr, hlocks, hnm, hA, hP, hK, hD, hN, hl⟩ := E
  obtain ⟨hx, hb, hml, hown, hts⟩ := id C
  have hS : va_S A s.heap s.heap [] := va_S.rf
  have hl : lv_has ls 3 [(0, .ref q_G), (1, .int x1), (2, .int x2)] := hl
  have inX10 : ∀ w ∈ u_ws RX10 TX10 9, w ∈ wsX10_party := by decide +kernel
  have E_X5_hasParty : Cond.selects RX5 yX5_hasParty yX5_hasParty ∈ wsX10_party := by decide +kernel
  have I_X5 : Cond.initialized RX5 ∈ wsX10_party := by decide +kernel
  have L19 : Cond.fieldLink RX10 19 "GuessFerry" "sound" "LGuessFerry$Sound;" ∈ wsX10_party := by decide +kernel
  have N_X5_hasParty : Cond.instanceMethod yX5_hasParty ∈ wsX10_party := by decide +kernel
  refine lv_aload_n hx hb dX10_party_0 rfl (lv_at hl 0 rfl) ?_
  refine q_get (v := .ref q_sound) C inX10 hK hP 0 rfl rfl 1 (by decide) rfl L19 rfl dX10_party_1 ?_
  refine lv_iload_n hx hb dX10_party_4 rfl (lv_at hl 1 rfl) ?_
  refine q_goi (wr := [(q_G, .inr (10, [u_G_0, .ref q_sound, u_G_2, u_G_3, u_G_4, u_G_5, u_G_6, u_G_7, u_G_8]))]) (va_runVN (As := [.int x1]) (rest := []) C (k_X5_hasParty l dC dI cB cI cJ cZ cS (q_sound) (u_sound_0) (u_sound_1) (u_sound_2) (u_sound_3) (u_sound_4) (u_sound_5) (u_sound_6) (u_sound_8) (u_sound_9) x1 _) ⟨va_cnB 1 hts gX10_party_X5_hasParty_n138 rfl rfl rfl (hN _ nwM_X10_138 rfl) (hts _ I_X5) (by decide +kernel) ⟨Nat.le_of_ble_eq_true rfl, Nat.le_of_ble_eq_true rfl⟩, hts _ N_X5_hasParty, hts _ E_X5_hasParty⟩ (q_preV hK hP (ci := 5) (q0 := 1) rfl rfl rfl (q_pre hN hK hP hD [1] rfl (by decide))) rfl rfl hl.1 rfl (lv_room (Nat.le_of_ble_eq_true rfl)) dX10_party_5 ⟨Nat.le_of_ble_eq_true rfl, Nat.le_of_ble_eq_true rfl⟩) hP hD hS hA [1] [0] rfl rfl (by decide) (by decide) (fun r w1 H locs hw hP hD hS => ?_)
  obtain ⟨rfl, rfl⟩ := hw
  have hP : va_P (dC, dI) vwCl [(q_G, .inr (10, [u_G_0, .ref q_sound, u_G_2, u_G_3, u_G_4, u_G_5, u_G_6, u_G_7, u_G_8])), (q_sound, .inr (5, [u_sound_0, u_sound_1, u_sound_2, u_sound_3, u_sound_4, u_sound_5, u_sound_6, .int 0, u_sound_8, u_sound_9]))] H := hP.sub [0, 1] rfl
  have hD : va_D A [(q_G, .inr (10, [u_G_0, .ref q_sound, u_G_2, u_G_3, u_G_4, u_G_5, u_G_6, u_G_7, u_G_8])), (q_sound, .inr (5, [u_sound_0, u_sound_1, u_sound_2, u_sound_3, u_sound_4, u_sound_5, u_sound_6, .int 0, u_sound_8, u_sound_9]))] := hD.sub [0, 1] (by decide) rfl
  refine lv_if_ne (tgt := 13) hx hb dX10_party_8 (by decide) (fun h => absurd (by decide +kernel) h) (fun _ => ?_)
  refine lv_iconst (v := (-1)) hx hb dX10_party_11 (by decide) ?_
  exact q_iret C hr hlocks hK hP hD hS (Nat.le_of_ble_eq_true rfl) (Nat.le_of_ble_eq_true rfl) dX10_party_12 (rfl)

set_option maxHeartbeats 4000000 in
set_option maxRecDepth 100000 in
theorem k_X10_needs (l : Launch) (dC : Nat → ClassId) (dI : Nat → Nat → Nat) (cB cI cJ cZ cS : ClassId) (q_G : Nat) (q_sound : Nat) (u_G_0 : Value) (u_G_2 : Value) (u_G_3 : Value) (u_G_4 : Value) (u_G_5 : Value) (u_G_6 : Value) (u_G_7 : Value) (u_G_8 : Value) (u_sound_0 : Value) (u_sound_1 : Value) (u_sound_2 : Value) (u_sound_3 : Value) (u_sound_4 : Value) (u_sound_5 : Value) (u_sound_6 : Value) (u_sound_8 : Value) (u_sound_9 : Value) (x1 : Int32) (x2 : Int32) (x3 : Int32) : CI l yX10_needs wsX10_needs ({ frames := 1, cells := 0, slots := 0, locals := 21 }) (dC, dI) (tysA cB cI cJ cZ cS) [(q_G, .inr (10, [u_G_0, .ref q_sound, u_G_2, u_G_3, u_G_4, u_G_5, u_G_6, u_G_7, u_G_8])), (q_sound, .inr (5, [u_sound_0, u_sound_1, u_sound_2, u_sound_3, u_sound_4, u_sound_5, u_sound_6, .int 0, u_sound_8, u_sound_9]))] [.ref q_G, .int x1, .int x2, .int x3] (fun r _ => r = (-1)) := by
  refine open_I (cc := cX10_needs) (maxL := 4) (ret := (some .int)) (by decide) rfl (Nat.le_of_ble_eq_true rfl) ?_
  intro p e s m below meth c A ls E
  obtain ⟨C, hr, hlocks, hnm, hA, hP, hK, hD, hN, hl⟩ := E
  obtain ⟨hx, hb, hml, hown, hts⟩ := id C
  have hS : va_S A s.heap s.heap [] := va_S.rf
  have hl : lv_has ls 4 [(0, .ref q_G), (1, .int x1), (2, .int x2), (3, .int x3)] := hl
  have inX10 : ∀ w ∈ u_ws RX10 TX10 9, w ∈ wsX10_needs := by decide +kernel
  have E_X5_hasParty : Cond.selects RX5 yX5_hasParty yX5_hasParty ∈ wsX10_needs := by decide +kernel
  have I_X5 : Cond.initialized RX5 ∈ wsX10_needs := by decide +kernel
  have L19 : Cond.fieldLink RX10 19 "GuessFerry" "sound" "LGuessFerry$Sound;" ∈ wsX10_needs := by decide +kernel
  have N_X5_hasParty : Cond.instanceMethod yX5_hasParty ∈ wsX10_needs := by decide +kernel
  refine lv_aload_n hx hb dX10_needs_0 rfl (lv_at hl 0 rfl) ?_
  refine q_get (v := .ref q_sound) C inX10 hK hP 0 rfl rfl 1 (by decide) rfl L19 rfl dX10_needs_1 ?_
  refine lv_iload_n hx hb dX10_needs_4 rfl (lv_at hl 1 rfl) ?_
  refine q_goi (wr := [(q_G, .inr (10, [u_G_0, .ref q_sound, u_G_2, u_G_3, u_G_4, u_G_5, u_G_6, u_G_7, u_G_8]))]) (va_runVN (As := [.int x1]) (rest := []) C (k_X5_hasParty l dC dI cB cI cJ cZ cS (q_sound) (u_sound_0) (u_sound_1) (u_sound_2) (u_sound_3) (u_sound_4) (u_sound_5) (u_sound_6) (u_sound_8) (u_sound_9) x1 _) ⟨va_cnB 1 hts gX10_needs_X5_hasParty_n138 rfl rfl rfl (hN _ nwM_X10_138 rfl) (hts _ I_X5) (by decide +kernel) ⟨Nat.le_of_ble_eq_true rfl, Nat.le_of_ble_eq_true rfl⟩, hts _ N_X5_hasParty, hts _ E_X5_hasParty⟩ (q_preV hK hP (ci := 5) (q0 := 1) rfl rfl rfl (q_pre hN hK hP hD [1] rfl (by decide))) rfl rfl hl.1 rfl (lv_room (Nat.le_of_ble_eq_true rfl)) dX10_needs_5 ⟨Nat.le_of_ble_eq_true rfl, Nat.le_of_ble_eq_true rfl⟩) hP hD hS hA [1] [0] rfl rfl (by decide) (by decide) (fun r w1 H locs hw hP hD hS => ?_)
  obtain ⟨rfl, rfl⟩ := hw
  have hP : va_P (dC, dI) vwCl [(q_G, .inr (10, [u_G_0, .ref q_sound, u_G_2, u_G_3, u_G_4, u_G_5, u_G_6, u_G_7, u_G_8])), (q_sound, .inr (5, [u_sound_0, u_sound_1, u_sound_2, u_sound_3, u_sound_4, u_sound_5, u_sound_6, .int 0, u_sound_8, u_sound_9]))] H := hP.sub [0, 1] rfl
  have hD : va_D A [(q_G, .inr (10, [u_G_0, .ref q_sound, u_G_2, u_G_3, u_G_4, u_G_5, u_G_6, u_G_7, u_G_8])), (q_sound, .inr (5, [u_sound_0, u_sound_1, u_sound_2, u_sound_3, u_sound_4, u_sound_5, u_sound_6, .int 0, u_sound_8, u_sound_9]))] := hD.sub [0, 1] (by decide) rfl
  refine lv_if_eq (tgt := 29) hx hb dX10_needs_8 (by decide) (fun _ => ?_) (fun h => absurd (by decide +kernel) h)
  refine lv_iconst (v := (-1)) hx hb dX10_needs_29 (by decide) ?_
  exact q_iret C hr hlocks hK hP hD hS (Nat.le_of_ble_eq_true rfl) (Nat.le_of_ble_eq_true rfl) dX10_needs_30 (rfl)

set_option maxHeartbeats 4000000 in
set_option maxRecDepth 100000 in
theorem k_X10_go (l : Launch) (dC : Nat → ClassId) (dI : Nat → Nat → Nat) (cB cI cJ cZ cS : ClassId) (q_G : Nat) (q_sound : Nat) (u_G_0 : Value) (u_G_2 : Value) (u_G_3 : Value) (u_G_4 : Value) (u_G_5 : Value) (u_G_6 : Value) (u_G_7 : Value) (u_G_8 : Value) (u_sound_0 : Value) (u_sound_1 : Value) (u_sound_2 : Value) (u_sound_3 : Value) (u_sound_4 : Value) (u_sound_5 : Value) (u_sound_6 : Value) (u_sound_8 : Value) (u_sound_9 : Value) (x1 : Int32) (x2 : Int32) : CI l yX10_go wsX10_go ({ frames := 2, cells := 0, slots := 0, locals := 42 }) (dC, dI) (tysA cB cI cJ cZ cS) [(q_G, .inr (10, [u_G_0, .ref q_sound, u_G_2, u_G_3, u_G_4, u_G_5, u_G_6, u_G_7, u_G_8])), (q_sound, .inr (5, [u_sound_0, u_sound_1, u_sound_2, u_sound_3, u_sound_4, u_sound_5, u_sound_6, .int 0, u_sound_8, u_sound_9]))] [.ref q_G, .int x1, .int x2] (fun r _ => r = (-1)) := by
  refine open_I (cc := cX10_go) (maxL := 3) (ret := (some .int)) (by decide) rfl (Nat.le_of_ble_eq_true rfl) ?_
  intro p e s m below meth c A ls E
  obtain ⟨C, hr, hlocks, hnm, hA, hP, hK, hD, hN, hl⟩ := E
  obtain ⟨hx, hb, hml, hown, hts⟩ := id C
  have hS : va_S A s.heap s.heap [] := va_S.rf
  have hl : lv_has ls 3 [(0, .ref q_G), (1, .int x1), (2, .int x2)] := hl
  refine lv_aload_n hx hb dX10_go_0 rfl (lv_at hl 0 rfl) ?_
  refine lv_iload_n hx hb dX10_go_1 rfl (lv_at hl 1 rfl) ?_
  refine q_goi (wr := []) (va_runV (As := [.int x1]) (rest := []) C (k_X10_isHere l dC dI cB cI cJ cZ cS (q_G) (q_sound) (u_G_0) (u_G_2) (u_G_3) (u_G_4) (u_G_5) (u_G_6) (u_G_7) (u_G_8) (u_sound_0) (u_sound_1) (u_sound_2) (u_sound_3) (u_sound_4) (u_sound_5) (u_sound_6) (u_sound_8) (u_sound_9) x1 _) (cwV 1 hts gX10_go_X10_isHere rfl rfl rfl (by decide +kernel) ⟨Nat.le_of_ble_eq_true rfl, Nat.le_of_ble_eq_true rfl⟩) (q_preV hK hP (ci := 10) (q0 := 0) rfl rfl rfl (q_pre hN hK hP hD [0, 1] rfl (by decide))) rfl rfl hl.1 rfl (lv_room (Nat.le_of_ble_eq_true rfl)) dX10_go_2 ⟨Nat.le_of_ble_eq_true rfl, Nat.le_of_ble_eq_true rfl⟩) hP hD hS hA [0, 1] [] rfl rfl (by decide) (by decide) (fun r w1 H locs hw hP hD hS => ?_)
  obtain ⟨rfl, rfl⟩ := hw
  have hP : va_P (dC, dI) vwCl [(q_G, .inr (10, [u_G_0, .ref q_sound, u_G_2, u_G_3, u_G_4, u_G_5, u_G_6, u_G_7, u_G_8])), (q_sound, .inr (5, [u_sound_0, u_sound_1, u_sound_2, u_sound_3, u_sound_4, u_sound_5, u_sound_6, .int 0, u_sound_8, u_sound_9]))] H := hP.sub [0, 1] rfl
  have hD : va_D A [(q_G, .inr (10, [u_G_0, .ref q_sound, u_G_2, u_G_3, u_G_4, u_G_5, u_G_6, u_G_7, u_G_8])), (q_sound, .inr (5, [u_sound_0, u_sound_1, u_sound_2, u_sound_3, u_sound_4, u_sound_5, u_sound_6, .int 0, u_sound_8, u_sound_9]))] := hD.sub [0, 1] (by decide) rfl
  refine lv_if_eq (tgt := 29) hx hb dX10_go_5 (by decide) (fun _ => ?_) (fun h => absurd (by decide +kernel) h)
  refine lv_iconst (v := (-1)) hx hb dX10_go_29 (by decide) ?_
  exact q_iret C hr hlocks hK hP hD hS (Nat.le_of_ble_eq_true rfl) (Nat.le_of_ble_eq_true rfl) dX10_go_30 (rfl)

set_option maxHeartbeats 4000000 in
set_option maxRecDepth 100000 in
theorem k_X10_buoy (l : Launch) (dC : Nat → ClassId) (dI : Nat → Nat → Nat) (cB cI cJ cZ cS : ClassId) (q_G : Nat) (q_sound : Nat) (u_G_0 : Value) (u_G_2 : Value) (u_G_3 : Value) (u_G_4 : Value) (u_G_5 : Value) (u_G_6 : Value) (u_G_7 : Value) (u_G_8 : Value) (u_sound_0 : Value) (u_sound_1 : Value) (u_sound_2 : Value) (u_sound_3 : Value) (u_sound_4 : Value) (u_sound_5 : Value) (u_sound_7 : Value) (u_sound_8 : Value) (u_sound_9 : Value) (x1 : Int32) (x2 : Int32) (x3 : Int32) : CI l yX10_buoy wsX10_buoy ({ frames := 1, cells := 0, slots := 0, locals := 21 }) (dC, dI) (tysA cB cI cJ cZ cS) [(q_G, .inr (10, [u_G_0, .ref q_sound, u_G_2, u_G_3, u_G_4, u_G_5, u_G_6, u_G_7, u_G_8])), (q_sound, .inr (5, [u_sound_0, u_sound_1, u_sound_2, u_sound_3, u_sound_4, u_sound_5, .int 0, u_sound_7, u_sound_8, u_sound_9]))] [.ref q_G, .int x1, .int x2, .int x3] (fun r _ => r = 0) := by
  refine open_I (cc := cX10_buoy) (maxL := 4) (ret := (some .boolean)) (by decide) rfl (Nat.le_of_ble_eq_true rfl) ?_
  intro p e s m below meth c A ls E
  obtain ⟨C, hr, hlocks, hnm, hA, hP, hK, hD, hN, hl⟩ := E
  obtain ⟨hx, hb, hml, hown, hts⟩ := id C
  have hS : va_S A s.heap s.heap [] := va_S.rf
  have hl : lv_has ls 4 [(0, .ref q_G), (1, .int x1), (2, .int x2), (3, .int x3)] := hl
  have inX10 : ∀ w ∈ u_ws RX10 TX10 9, w ∈ wsX10_buoy := by decide +kernel
  have E_X5_hasWave : Cond.selects RX5 yX5_hasWave yX5_hasWave ∈ wsX10_buoy := by decide +kernel
  have I_X5 : Cond.initialized RX5 ∈ wsX10_buoy := by decide +kernel
  have L19 : Cond.fieldLink RX10 19 "GuessFerry" "sound" "LGuessFerry$Sound;" ∈ wsX10_buoy := by decide +kernel
  have N_X5_hasWave : Cond.instanceMethod yX5_hasWave ∈ wsX10_buoy := by decide +kernel
  refine lv_aload_n hx hb dX10_buoy_0 rfl (lv_at hl 0 rfl) ?_
  refine q_get (v := .ref q_sound) C inX10 hK hP 0 rfl rfl 1 (by decide) rfl L19 rfl dX10_buoy_1 ?_
  refine lv_iload_n hx hb dX10_buoy_4 rfl (lv_at hl 1 rfl) ?_
  refine q_goi (wr := [(q_G, .inr (10, [u_G_0, .ref q_sound, u_G_2, u_G_3, u_G_4, u_G_5, u_G_6, u_G_7, u_G_8]))]) (va_runVN (As := [.int x1]) (rest := []) C (k_X5_hasWave l dC dI cB cI cJ cZ cS (q_sound) (u_sound_0) (u_sound_1) (u_sound_2) (u_sound_3) (u_sound_4) (u_sound_5) (u_sound_7) (u_sound_8) (u_sound_9) x1 _) ⟨va_cnB 1 hts gX10_buoy_X5_hasWave_n108 rfl rfl rfl (hN _ nwM_X10_108 rfl) (hts _ I_X5) (by decide +kernel) ⟨Nat.le_of_ble_eq_true rfl, Nat.le_of_ble_eq_true rfl⟩, hts _ N_X5_hasWave, hts _ E_X5_hasWave⟩ (q_preV hK hP (ci := 5) (q0 := 1) rfl rfl rfl (q_pre hN hK hP hD [1] rfl (by decide))) rfl rfl hl.1 rfl (lv_room (Nat.le_of_ble_eq_true rfl)) dX10_buoy_5 ⟨Nat.le_of_ble_eq_true rfl, Nat.le_of_ble_eq_true rfl⟩) hP hD hS hA [1] [0] rfl rfl (by decide) (by decide) (fun r w1 H locs hw hP hD hS => ?_)
  obtain ⟨rfl, rfl⟩ := hw
  have hP : va_P (dC, dI) vwCl [(q_G, .inr (10, [u_G_0, .ref q_sound, u_G_2, u_G_3, u_G_4, u_G_5, u_G_6, u_G_7, u_G_8])), (q_sound, .inr (5, [u_sound_0, u_sound_1, u_sound_2, u_sound_3, u_sound_4, u_sound_5, .int 0, u_sound_7, u_sound_8, u_sound_9]))] H := hP.sub [0, 1] rfl
  have hD : va_D A [(q_G, .inr (10, [u_G_0, .ref q_sound, u_G_2, u_G_3, u_G_4, u_G_5, u_G_6, u_G_7, u_G_8])), (q_sound, .inr (5, [u_sound_0, u_sound_1, u_sound_2, u_sound_3, u_sound_4, u_sound_5, .int 0, u_sound_7, u_sound_8, u_sound_9]))] := hD.sub [0, 1] (by decide) rfl
  refine lv_if_eq (tgt := 18) hx hb dX10_buoy_8 (by decide) (fun _ => ?_) (fun h => absurd (by decide +kernel) h)
  refine lv_iconst (v := 0) hx hb dX10_buoy_18 (by decide) ?_
  exact q_zret C hr hlocks (Or.inl rfl) hK hP hD hS (Nat.le_of_ble_eq_true rfl) (Nat.le_of_ble_eq_true rfl) dX10_buoy_19 (rfl)

set_option maxHeartbeats 4000000 in
set_option maxRecDepth 100000 in
theorem k_X10_fetch (l : Launch) (dC : Nat → ClassId) (dI : Nat → Nat → Nat) (cB cI cJ cZ cS : ClassId) (q_G : Nat) (q_sound : Nat) (u_G_0 : Value) (u_G_2 : Value) (u_G_3 : Value) (u_G_4 : Value) (u_G_5 : Value) (u_G_6 : Value) (u_G_7 : Value) (u_G_8 : Value) (u_sound_0 : Value) (u_sound_1 : Value) (u_sound_2 : Value) (u_sound_3 : Value) (u_sound_4 : Value) (u_sound_5 : Value) (u_sound_6 : Value) (u_sound_8 : Value) (u_sound_9 : Value) (x1 : Int32) : CI l yX10_fetch wsX10_fetch ({ frames := 1, cells := 0, slots := 0, locals := 21 }) (dC, dI) (tysA cB cI cJ cZ cS) [(q_G, .inr (10, [u_G_0, .ref q_sound, u_G_2, u_G_3, u_G_4, u_G_5, u_G_6, u_G_7, u_G_8])), (q_sound, .inr (5, [u_sound_0, u_sound_1, u_sound_2, u_sound_3, u_sound_4, u_sound_5, u_sound_6, .int 0, u_sound_8, u_sound_9]))] [.ref q_G, .int x1] (fun r _ => r = 0) := by
  refine open_I (cc := cX10_fetch) (maxL := 2) (ret := (some .boolean)) (by decide) rfl (Nat.le_of_ble_eq_true rfl) ?_
  intro p e s m below meth c A ls E
  obtain ⟨C, hr, hlocks, hnm, hA, hP, hK, hD, hN, hl⟩ := E
  obtain ⟨hx, hb, hml, hown, hts⟩ := id C
  have hS : va_S A s.heap s.heap [] := va_S.rf
  have hl : lv_has ls 2 [(0, .ref q_G), (1, .int x1)] := hl
  have inX10 : ∀ w ∈ u_ws RX10 TX10 9, w ∈ wsX10_fetch := by decide +kernel
  have E_X5_hasParty : Cond.selects RX5 yX5_hasParty yX5_hasParty ∈ wsX10_fetch := by decide +kernel
  have I_X5 : Cond.initialized RX5 ∈ wsX10_fetch := by decide +kernel
  have L19 : Cond.fieldLink RX10 19 "GuessFerry" "sound" "LGuessFerry$Sound;" ∈ wsX10_fetch := by decide +kernel
  have N_X5_hasParty : Cond.instanceMethod yX5_hasParty ∈ wsX10_fetch := by decide +kernel
  refine lv_aload_n hx hb dX10_fetch_0 rfl (lv_at hl 0 rfl) ?_
  refine q_get (v := .ref q_sound) C inX10 hK hP 0 rfl rfl 1 (by decide) rfl L19 rfl dX10_fetch_1 ?_
  refine lv_iload_n hx hb dX10_fetch_4 rfl (lv_at hl 1 rfl) ?_
  refine q_goi (wr := [(q_G, .inr (10, [u_G_0, .ref q_sound, u_G_2, u_G_3, u_G_4, u_G_5, u_G_6, u_G_7, u_G_8]))]) (va_runVN (As := [.int x1]) (rest := []) C (k_X5_hasParty l dC dI cB cI cJ cZ cS (q_sound) (u_sound_0) (u_sound_1) (u_sound_2) (u_sound_3) (u_sound_4) (u_sound_5) (u_sound_6) (u_sound_8) (u_sound_9) x1 _) ⟨va_cnB 1 hts gX10_fetch_X5_hasParty_n138 rfl rfl rfl (hN _ nwM_X10_138 rfl) (hts _ I_X5) (by decide +kernel) ⟨Nat.le_of_ble_eq_true rfl, Nat.le_of_ble_eq_true rfl⟩, hts _ N_X5_hasParty, hts _ E_X5_hasParty⟩ (q_preV hK hP (ci := 5) (q0 := 1) rfl rfl rfl (q_pre hN hK hP hD [1] rfl (by decide))) rfl rfl hl.1 rfl (lv_room (Nat.le_of_ble_eq_true rfl)) dX10_fetch_5 ⟨Nat.le_of_ble_eq_true rfl, Nat.le_of_ble_eq_true rfl⟩) hP hD hS hA [1] [0] rfl rfl (by decide) (by decide) (fun r w1 H locs hw hP hD hS => ?_)
  obtain ⟨rfl, rfl⟩ := hw
  have hP : va_P (dC, dI) vwCl [(q_G, .inr (10, [u_G_0, .ref q_sound, u_G_2, u_G_3, u_G_4, u_G_5, u_G_6, u_G_7, u_G_8])), (q_sound, .inr (5, [u_sound_0, u_sound_1, u_sound_2, u_sound_3, u_sound_4, u_sound_5, u_sound_6, .int 0, u_sound_8, u_sound_9]))] H := hP.sub [0, 1] rfl
  have hD : va_D A [(q_G, .inr (10, [u_G_0, .ref q_sound, u_G_2, u_G_3, u_G_4, u_G_5, u_G_6, u_G_7, u_G_8])), (q_sound, .inr (5, [u_sound_0, u_sound_1, u_sound_2, u_sound_3, u_sound_4, u_sound_5, u_sound_6, .int 0, u_sound_8, u_sound_9]))] := hD.sub [0, 1] (by decide) rfl
  refine lv_if_eq (tgt := 23) hx hb dX10_fetch_8 (by decide) (fun _ => ?_) (fun h => absurd (by decide +kernel) h)
  refine lv_iconst (v := 0) hx hb dX10_fetch_23 (by decide) ?_
  exact q_zret C hr hlocks (Or.inl rfl) hK hP hD hS (Nat.le_of_ble_eq_true rfl) (Nat.le_of_ble_eq_true rfl) dX10_fetch_24 (rfl)

set_option maxHeartbeats 4000000 in
set_option maxRecDepth 100000 in
theorem k_X10_place (l : Launch) (dC : Nat → ClassId) (dI : Nat → Nat → Nat) (cB cI cJ cZ cS : ClassId) (q_G : Nat) (q_reader : Nat) (u_G_0 : Value) (u_G_1 : Value) (u_G_3 : Value) (u_G_4 : Value) (u_G_5 : Value) (u_G_6 : Value) (u_G_7 : Value) (u_G_8 : Value) (u_reader_0 : Value) (u_reader_1 : Value) (u_reader_2 : Value) (u_reader_3 : Value) (u_reader_4 : Value) (u_reader_6 : Value) (u_reader_7 : Value) : CI l yX10_place wsX10_place ({ frames := 0, cells := 0, slots := 0, locals := 0 }) (dC, dI) (tysA cB cI cJ cZ cS) [(q_G, .inr (10, [u_G_0, u_G_1, .ref q_reader, u_G_3, u_G_4, u_G_5, u_G_6, u_G_7, u_G_8])), (q_reader, .inr (4, [u_reader_0, u_reader_1, u_reader_2, u_reader_3, u_reader_4, .int (-1), u_reader_6, u_reader_7]))] [.ref q_G] (fun r _ => r = (-1)) := by
  refine open_I (cc := cX10_place) (maxL := 1) (ret := (some .int)) (by decide) rfl (Nat.le_of_ble_eq_true rfl) ?_
  intro p e s m below meth c A ls E
  obtain ⟨C, hr, hlocks, hnm, hA, hP, hK, hD, hN, hl⟩ := E
  obtain ⟨hx, hb, hml, hown, hts⟩ := id C
  have hS : va_S A s.heap s.heap [] := va_S.rf
  have hl : lv_has ls 1 [(0, .ref q_G)] := hl
  have inX10 : ∀ w ∈ u_ws RX10 TX10 9, w ∈ wsX10_place := fun _ h => List.mem_cons_of_mem _ (List.mem_append_left _ (List.mem_append_right _ h))
  have inX4 : ∀ w ∈ u_ws RX4 TX4 8, w ∈ wsX10_place := fun _ h => List.mem_cons_of_mem _ (List.mem_append_right _ h)
  have L28 : Cond.fieldLink RX10 28 "GuessFerry" "reader" "LGuessFerry$Reader;" ∈ wsX10_place := by decide +kernel
  refine lv_aload_n hx hb dX10_place_0 rfl (lv_at hl 0 rfl) ?_
  refine q_get (v := .ref q_reader) C inX10 hK hP 0 rfl rfl 2 (by decide) rfl L28 rfl dX10_place_1 ?_
  refine q_getN (v := .int (-1)) C hN inX4 hK hP 1 rfl rfl 5 (by decide) rfl nwF_X10_105 rfl dX10_place_4 ?_
  exact q_iret C hr hlocks hK hP hD hS (Nat.le_of_ble_eq_true rfl) (Nat.le_of_ble_eq_true rfl) dX10_place_7 (rfl)

set_option maxHeartbeats 4000000 in
set_option maxRecDepth 100000 in
theorem k_X3_takeBack (l : Launch) (dC : Nat → ClassId) (dI : Nat → Nat → Nat) (cB cI cJ cZ cS : ClassId) (q_now : Nat) (q_past : Nat) (u_past_0 : Value) (u_past_1 : Value) (u_past_2 : Value) (u_past_3 : Value) : CI l yX3_takeBack wsX3_takeBack ({ frames := 0, cells := 0, slots := 0, locals := 0 }) (dC, dI) (tysA cB cI cJ cZ cS) [(q_past, .inr (3, [u_past_0, u_past_1, u_past_2, u_past_3, .int 0]))] [.ref q_past, .ref q_now] (fun r w => w = [(q_past, .inr (3, [u_past_0, u_past_1, u_past_2, u_past_3, .int 0]))] ∧ r = 0) := by
  refine open_I (cc := cX3_takeBack) (maxL := 2) (ret := (some .boolean)) (by decide) rfl (Nat.le_of_ble_eq_true rfl) ?_
  intro p e s m below meth c A ls E
  obtain ⟨C, hr, hlocks, hnm, hA, hP, hK, hD, hN, hl⟩ := E
  obtain ⟨hx, hb, hml, hown, hts⟩ := id C
  have hS : va_S A s.heap s.heap [] := va_S.rf
  have hl : lv_has ls 2 [(0, .ref q_past), (1, .ref q_now)] := hl
  have inX3 : ∀ w ∈ u_ws RX3 TX3 5, w ∈ wsX3_takeBack := fun _ h => List.mem_cons_of_mem _ (List.mem_append_left _ (List.mem_append_right _ h))
  have L25 : Cond.fieldLink RX3 25 "GuessFerry$Past" "size" "I" ∈ wsX3_takeBack := by decide +kernel
  refine lv_aload_n hx hb dX3_takeBack_0 rfl (lv_at hl 0 rfl) ?_
  refine q_get (v := .int 0) C inX3 hK hP 0 rfl rfl 4 (by decide) rfl L25 rfl dX3_takeBack_1 ?_
  refine lv_if_ne (tgt := 9) hx hb dX3_takeBack_4 (by decide) (fun h => absurd (by decide +kernel) h) (fun _ => ?_)
  refine lv_iconst (v := 0) hx hb dX3_takeBack_7 (by decide) ?_
  exact q_zret C hr hlocks (Or.inl rfl) hK hP hD hS (Nat.le_of_ble_eq_true rfl) (Nat.le_of_ble_eq_true rfl) dX3_takeBack_8 (⟨rfl, rfl⟩)

set_option maxHeartbeats 4000000 in
set_option maxRecDepth 100000 in
theorem k_X10_undo (l : Launch) (dC : Nat → ClassId) (dI : Nat → Nat → Nat) (cB cI cJ cZ cS : ClassId) (q_G : Nat) (q_now : Nat) (q_past : Nat) (u_G_0 : Value) (u_G_1 : Value) (u_G_2 : Value) (u_G_4 : Value) (u_G_6 : Value) (u_G_7 : Value) (u_G_8 : Value) (u_past_0 : Value) (u_past_1 : Value) (u_past_2 : Value) (u_past_3 : Value) : CI l yX10_undo wsX10_undo ({ frames := 1, cells := 0, slots := 0, locals := 21 }) (dC, dI) (tysA cB cI cJ cZ cS) [(q_G, .inr (10, [u_G_0, u_G_1, u_G_2, .ref q_now, u_G_4, .ref q_past, u_G_6, u_G_7, u_G_8])), (q_past, .inr (3, [u_past_0, u_past_1, u_past_2, u_past_3, .int 0]))] [.ref q_G] (fun r _ => r = 0) := by
  refine open_I (cc := cX10_undo) (maxL := 1) (ret := (some .boolean)) (by decide) rfl (Nat.le_of_ble_eq_true rfl) ?_
  intro p e s m below meth c A ls E
  obtain ⟨C, hr, hlocks, hnm, hA, hP, hK, hD, hN, hl⟩ := E
  obtain ⟨hx, hb, hml, hown, hts⟩ := id C
  have hS : va_S A s.heap s.heap [] := va_S.rf
  have hl : lv_has ls 1 [(0, .ref q_G)] := hl
  have inX10 : ∀ w ∈ u_ws RX10 TX10 9, w ∈ wsX10_undo := fun _ h => List.mem_cons_of_mem _ (List.mem_append_left _ (List.mem_append_left _ (List.mem_append_right _ h)))
  have E_X3_takeBack : Cond.selects RX3 yX3_takeBack yX3_takeBack ∈ wsX10_undo := by decide +kernel
  have I_X3 : Cond.initialized RX3 ∈ wsX10_undo := by decide +kernel
  have L35 : Cond.fieldLink RX10 35 "GuessFerry" "now" "LGuessFerry$Standing;" ∈ wsX10_undo := by decide +kernel
  have L45 : Cond.fieldLink RX10 45 "GuessFerry" "past" "LGuessFerry$Past;" ∈ wsX10_undo := by decide +kernel
  have N_X3_takeBack : Cond.instanceMethod yX3_takeBack ∈ wsX10_undo := by decide +kernel
  refine lv_aload_n hx hb dX10_undo_0 rfl (lv_at hl 0 rfl) ?_
  refine q_get (v := .ref q_past) C inX10 hK hP 0 rfl rfl 5 (by decide) rfl L45 rfl dX10_undo_1 ?_
  refine lv_aload_n hx hb dX10_undo_4 rfl (lv_at hl 0 rfl) ?_
  refine q_get (v := .ref q_now) C inX10 hK hP 0 rfl rfl 3 (by decide) rfl L35 rfl dX10_undo_5 ?_
  refine q_goi (wr := [(q_G, .inr (10, [u_G_0, u_G_1, u_G_2, .ref q_now, u_G_4, .ref q_past, u_G_6, u_G_7, u_G_8]))]) (va_runVN (As := [.ref q_now]) (rest := []) C (k_X3_takeBack l dC dI cB cI cJ cZ cS (q_now) (q_past) (u_past_0) (u_past_1) (u_past_2) (u_past_3) _) ⟨va_cnB 1 hts gX10_undo_X3_takeBack_n192 rfl rfl rfl (hN _ nwM_X10_192 rfl) (hts _ I_X3) (by decide +kernel) ⟨Nat.le_of_ble_eq_true rfl, Nat.le_of_ble_eq_true rfl⟩, hts _ N_X3_takeBack, hts _ E_X3_takeBack⟩ (q_preV hK hP (ci := 3) (q0 := 1) rfl rfl rfl (q_pre hN hK hP hD [1] rfl (by decide))) rfl rfl hl.1 rfl (lv_room (Nat.le_of_ble_eq_true rfl)) dX10_undo_8 ⟨Nat.le_of_ble_eq_true rfl, Nat.le_of_ble_eq_true rfl⟩) hP hD hS hA [1] [0] rfl rfl (by decide) (by decide) (fun r w1 H locs hw hP hD hS => ?_)
  obtain ⟨rfl, rfl⟩ := hw
  have hP : va_P (dC, dI) vwCl [(q_G, .inr (10, [u_G_0, u_G_1, u_G_2, .ref q_now, u_G_4, .ref q_past, u_G_6, u_G_7, u_G_8])), (q_past, .inr (3, [u_past_0, u_past_1, u_past_2, u_past_3, .int 0]))] H := hP.sub [0, 1] rfl
  have hD : va_D A [(q_G, .inr (10, [u_G_0, u_G_1, u_G_2, .ref q_now, u_G_4, .ref q_past, u_G_6, u_G_7, u_G_8])), (q_past, .inr (3, [u_past_0, u_past_1, u_past_2, u_past_3, .int 0]))] := hD.sub [0, 1] (by decide) rfl
  exact q_zret C hr hlocks (Or.inl rfl) hK hP hD hS (Nat.le_of_ble_eq_true rfl) (Nat.le_of_ble_eq_true rfl) dX10_undo_11 (rfl)

set_option maxHeartbeats 4000000 in
set_option maxRecDepth 100000 in
theorem k_X2_caseCount (l : Launch) (dC : Nat → ClassId) (dI : Nat → Nat → Nat) (cB cI cJ cZ cS : ClassId) (q_sound : Nat) (q_now : Nat) (q_outlook : Nat) (u_outlook_1 : Value) (u_outlook_2 : Value) (u_outlook_3 : Value) (u_outlook_4 : Value) (u_outlook_5 : Value) (u_sound_0 : Value) (u_sound_1 : Value) (u_sound_2 : Value) (u_sound_3 : Value) (u_sound_4 : Value) (u_sound_5 : Value) (u_sound_7 : Value) (u_sound_8 : Value) (u_sound_9 : Value) : CI l yX2_caseCount wsX2_caseCount ({ frames := 0, cells := 0, slots := 0, locals := 0 }) (dC, dI) (tysA cB cI cJ cZ cS) [(q_outlook, .inr (2, [.ref q_sound, u_outlook_1, u_outlook_2, u_outlook_3, u_outlook_4, u_outlook_5])), (q_sound, .inr (5, [u_sound_0, u_sound_1, u_sound_2, u_sound_3, u_sound_4, u_sound_5, .int 0, u_sound_7, u_sound_8, u_sound_9]))] [.ref q_outlook, .ref q_now] (fun r w => w = [(q_outlook, .inr (2, [.ref q_sound, u_outlook_1, u_outlook_2, u_outlook_3, u_outlook_4, u_outlook_5])), (q_sound, .inr (5, [u_sound_0, u_sound_1, u_sound_2, u_sound_3, u_sound_4, u_sound_5, .int 0, u_sound_7, u_sound_8, u_sound_9]))] ∧ r = 1) := by
  refine open_I (cc := cX2_caseCount) (maxL := 4) (ret := (some .int)) (by decide) rfl (Nat.le_of_ble_eq_true rfl) ?_
  intro p e s m below meth c A ls E
  obtain ⟨C, hr, hlocks, hnm, hA, hP, hK, hD, hN, hl⟩ := E
  obtain ⟨hx, hb, hml, hown, hts⟩ := id C
  have hS : va_S A s.heap s.heap [] := va_S.rf
  have hl : lv_has ls 4 [(0, .ref q_outlook), (1, .ref q_now)] := hl
  have inX2 : ∀ w ∈ u_ws RX2 TX2 6, w ∈ wsX2_caseCount := fun _ h => List.mem_cons_of_mem _ (List.mem_append_left _ (List.mem_append_left _ (List.mem_append_left _ (List.mem_append_right _ h))))
  have inX5 : ∀ w ∈ u_ws RX5 TX5 10, w ∈ wsX2_caseCount := fun _ h => List.mem_cons_of_mem _ (List.mem_append_left _ (List.mem_append_left _ (List.mem_append_right _ h)))
  have L24 : Cond.fieldLink RX2 24 "GuessFerry$Outlook" "sound" "LGuessFerry$Sound;" ∈ wsX2_caseCount := by decide +kernel
  refine lv_iconst (v := 1) hx hb dX2_caseCount_0 (by decide) ?_
  refine lv_istore_n (lv' := [(2, .int 1), (0, .ref q_outlook), (1, .ref q_now)]) hx hb dX2_caseCount_1 rfl hl (by decide) rfl (fun ls hl => ?_)
  refine lv_iconst (v := 0) hx hb dX2_caseCount_2 (by decide) ?_
  refine lv_istore_n (lv' := [(3, .int 0), (2, .int 1), (0, .ref q_outlook), (1, .ref q_now)]) hx hb dX2_caseCount_3 rfl hl (by decide) rfl (fun ls hl => ?_)
  refine lv_iload_n hx hb dX2_caseCount_4 rfl (lv_at hl 0 rfl) ?_
  refine lv_aload_n hx hb dX2_caseCount_5 rfl (lv_at hl 2 rfl) ?_
  refine q_get (v := .ref q_sound) C inX2 hK hP 0 rfl rfl 0 (by decide) rfl L24 rfl dX2_caseCount_6 ?_
  refine q_getN (v := .int 0) C hN inX5 hK hP 1 rfl rfl 6 (by decide) rfl nwF_X2_44 rfl dX2_caseCount_9 ?_
  refine lv_icmp_ge (tgt := 30) hx hb dX2_caseCount_12 (by decide) (fun _ => ?_) (fun h => absurd (by decide +kernel) h)
  refine lv_iload_n hx hb dX2_caseCount_30 rfl (lv_at hl 1 rfl) ?_
  exact q_iret C hr hlocks hK hP hD hS (Nat.le_of_ble_eq_true rfl) (Nat.le_of_ble_eq_true rfl) dX2_caseCount_31 (⟨rfl, rfl⟩)

set_option maxHeartbeats 4000000 in
set_option maxRecDepth 100000 in
theorem k_X2_oddsOf (l : Launch) (dC : Nat → ClassId) (dI : Nat → Nat → Nat) (cB cI cJ cZ cS : ClassId) (q_sound : Nat) (q_now : Nat) (q_outlook : Nat) (u_outlook_1 : Value) (u_outlook_2 : Value) (u_outlook_3 : Value) (u_outlook_4 : Value) (u_outlook_5 : Value) (u_sound_0 : Value) (u_sound_1 : Value) (u_sound_2 : Value) (u_sound_3 : Value) (u_sound_4 : Value) (u_sound_5 : Value) (u_sound_7 : Value) (u_sound_8 : Value) (u_sound_9 : Value) (x1 : Int32) : CI l yX2_oddsOf wsX2_oddsOf ({ frames := 0, cells := 0, slots := 0, locals := 0 }) (dC, dI) (tysA cB cI cJ cZ cS) [(q_outlook, .inr (2, [.ref q_sound, u_outlook_1, u_outlook_2, u_outlook_3, u_outlook_4, u_outlook_5])), (q_sound, .inr (5, [u_sound_0, u_sound_1, u_sound_2, u_sound_3, u_sound_4, u_sound_5, .int 0, u_sound_7, u_sound_8, u_sound_9]))] [.ref q_outlook, .ref q_now, .int x1] (fun r w => w = [(q_outlook, .inr (2, [.ref q_sound, u_outlook_1, u_outlook_2, u_outlook_3, u_outlook_4, u_outlook_5])), (q_sound, .inr (5, [u_sound_0, u_sound_1, u_sound_2, u_sound_3, u_sound_4, u_sound_5, .int 0, u_sound_7, u_sound_8, u_sound_9]))] ∧ r = 1) := by
  refine open_I (cc := cX2_oddsOf) (maxL := 5) (ret := (some .int)) (by decide) rfl (Nat.le_of_ble_eq_true rfl) ?_
  intro p e s m below meth c A ls E
  obtain ⟨C, hr, hlocks, hnm, hA, hP, hK, hD, hN, hl⟩ := E
  obtain ⟨hx, hb, hml, hown, hts⟩ := id C
  have hS : va_S A s.heap s.heap [] := va_S.rf
  have hl : lv_has ls 5 [(0, .ref q_outlook), (1, .ref q_now), (2, .int x1)] := hl
  have inX2 : ∀ w ∈ u_ws RX2 TX2 6, w ∈ wsX2_oddsOf := fun _ h => List.mem_cons_of_mem _ (List.mem_append_left _ (List.mem_append_left _ (List.mem_append_left _ (List.mem_append_right _ h))))
  have inX5 : ∀ w ∈ u_ws RX5 TX5 10, w ∈ wsX2_oddsOf := fun _ h => List.mem_cons_of_mem _ (List.mem_append_left _ (List.mem_append_left _ (List.mem_append_right _ h)))
  have L24 : Cond.fieldLink RX2 24 "GuessFerry$Outlook" "sound" "LGuessFerry$Sound;" ∈ wsX2_oddsOf := by decide +kernel
  refine lv_iconst (v := 1) hx hb dX2_oddsOf_0 (by decide) ?_
  refine lv_istore_n (lv' := [(3, .int 1), (0, .ref q_outlook), (1, .ref q_now), (2, .int x1)]) hx hb dX2_oddsOf_1 rfl hl (by decide) rfl (fun ls hl => ?_)
  refine lv_iconst (v := 0) hx hb dX2_oddsOf_2 (by decide) ?_
  refine lv_istore (lv' := [(4, .int 0), (3, .int 1), (0, .ref q_outlook), (1, .ref q_now), (2, .int x1)]) hx hb dX2_oddsOf_3 hl (by decide) rfl (fun ls hl => ?_)
  refine lv_iload hx hb dX2_oddsOf_5 (lv_at hl 0 rfl) ?_
  refine lv_aload_n hx hb dX2_oddsOf_7 rfl (lv_at hl 2 rfl) ?_
  refine q_get (v := .ref q_sound) C inX2 hK hP 0 rfl rfl 0 (by decide) rfl L24 rfl dX2_oddsOf_8 ?_
  refine q_getN (v := .int 0) C hN inX5 hK hP 1 rfl rfl 6 (by decide) rfl nwF_X2_44 rfl dX2_oddsOf_11 ?_
  refine lv_icmp_ge (tgt := 39) hx hb dX2_oddsOf_14 (by decide) (fun _ => ?_) (fun h => absurd (by decide +kernel) h)
  refine lv_iload_n hx hb dX2_oddsOf_39 rfl (lv_at hl 1 rfl) ?_
  exact q_iret C hr hlocks hK hP hD hS (Nat.le_of_ble_eq_true rfl) (Nat.le_of_ble_eq_true rfl) dX2_oddsOf_40 (⟨rfl, rfl⟩)

set_option maxHeartbeats 4000000 in
set_option maxRecDepth 100000 in
theorem k_X2_oddsOfAll (l : Launch) (dC : Nat → ClassId) (dI : Nat → Nat → Nat) (cB cI cJ cZ cS : ClassId) (q_sound : Nat) (q_now : Nat) (q_outlook : Nat) (u_outlook_1 : Value) (u_outlook_2 : Value) (u_outlook_3 : Value) (u_outlook_4 : Value) (u_outlook_5 : Value) (u_sound_0 : Value) (u_sound_1 : Value) (u_sound_2 : Value) (u_sound_3 : Value) (u_sound_4 : Value) (u_sound_5 : Value) (u_sound_7 : Value) (u_sound_8 : Value) (u_sound_9 : Value) : CI l yX2_oddsOfAll wsX2_oddsOfAll ({ frames := 0, cells := 0, slots := 0, locals := 0 }) (dC, dI) (tysA cB cI cJ cZ cS) [(q_outlook, .inr (2, [.ref q_sound, u_outlook_1, u_outlook_2, u_outlook_3, u_outlook_4, u_outlook_5])), (q_sound, .inr (5, [u_sound_0, u_sound_1, u_sound_2, u_sound_3, u_sound_4, u_sound_5, .int 0, u_sound_7, u_sound_8, u_sound_9]))] [.ref q_outlook, .ref q_now, .int (-1)] (fun r w => w = [(q_outlook, .inr (2, [.ref q_sound, u_outlook_1, u_outlook_2, u_outlook_3, u_outlook_4, u_outlook_5])), (q_sound, .inr (5, [u_sound_0, u_sound_1, u_sound_2, u_sound_3, u_sound_4, u_sound_5, .int 0, u_sound_7, u_sound_8, u_sound_9]))] ∧ r = 1) := by
  refine open_I (cc := cX2_oddsOfAll) (maxL := 7) (ret := (some .int)) (by decide) rfl (Nat.le_of_ble_eq_true rfl) ?_
  intro p e s m below meth c A ls E
  obtain ⟨C, hr, hlocks, hnm, hA, hP, hK, hD, hN, hl⟩ := E
  obtain ⟨hx, hb, hml, hown, hts⟩ := id C
  have hS : va_S A s.heap s.heap [] := va_S.rf
  have hl : lv_has ls 7 [(0, .ref q_outlook), (1, .ref q_now), (2, .int (-1))] := hl
  have inX2 : ∀ w ∈ u_ws RX2 TX2 6, w ∈ wsX2_oddsOfAll := fun _ h => List.mem_cons_of_mem _ (List.mem_append_left _ (List.mem_append_left _ (List.mem_append_left _ (List.mem_append_right _ h))))
  have inX5 : ∀ w ∈ u_ws RX5 TX5 10, w ∈ wsX2_oddsOfAll := fun _ h => List.mem_cons_of_mem _ (List.mem_append_left _ (List.mem_append_left _ (List.mem_append_right _ h)))
  have L24 : Cond.fieldLink RX2 24 "GuessFerry$Outlook" "sound" "LGuessFerry$Sound;" ∈ wsX2_oddsOfAll := by decide +kernel
  refine lv_iconst (v := 1) hx hb dX2_oddsOfAll_0 (by decide) ?_
  refine lv_istore_n (lv' := [(3, .int 1), (0, .ref q_outlook), (1, .ref q_now), (2, .int (-1))]) hx hb dX2_oddsOfAll_1 rfl hl (by decide) rfl (fun ls hl => ?_)
  refine lv_iconst (v := 0) hx hb dX2_oddsOfAll_2 (by decide) ?_
  refine lv_istore (lv' := [(4, .int 0), (3, .int 1), (0, .ref q_outlook), (1, .ref q_now), (2, .int (-1))]) hx hb dX2_oddsOfAll_3 hl (by decide) rfl (fun ls hl => ?_)
  refine lv_iload hx hb dX2_oddsOfAll_5 (lv_at hl 0 rfl) ?_
  refine lv_aload_n hx hb dX2_oddsOfAll_7 rfl (lv_at hl 2 rfl) ?_
  refine q_get (v := .ref q_sound) C inX2 hK hP 0 rfl rfl 0 (by decide) rfl L24 rfl dX2_oddsOfAll_8 ?_
  refine q_getN (v := .int 0) C hN inX5 hK hP 1 rfl rfl 6 (by decide) rfl nwF_X2_44 rfl dX2_oddsOfAll_11 ?_
  refine lv_icmp_ge (tgt := 67) hx hb dX2_oddsOfAll_14 (by decide) (fun _ => ?_) (fun h => absurd (by decide +kernel) h)
  refine lv_iload_n hx hb dX2_oddsOfAll_67 rfl (lv_at hl 1 rfl) ?_
  exact q_iret C hr hlocks hK hP hD hS (Nat.le_of_ble_eq_true rfl) (Nat.le_of_ble_eq_true rfl) dX2_oddsOfAll_68 (⟨rfl, rfl⟩)

set_option maxHeartbeats 4000000 in
set_option maxRecDepth 100000 in
theorem k_X2_bestGuess (l : Launch) (dC : Nat → ClassId) (dI : Nat → Nat → Nat) (cB cI cJ cZ cS : ClassId) (q_sound : Nat) (q_now : Nat) (q_outlook : Nat) (u_outlook_1 : Value) (u_outlook_2 : Value) (u_outlook_3 : Value) (u_outlook_4 : Value) (u_outlook_5 : Value) (u_sound_0 : Value) (u_sound_1 : Value) (u_sound_2 : Value) (u_sound_3 : Value) (u_sound_4 : Value) (u_sound_5 : Value) (u_sound_7 : Value) (u_sound_8 : Value) (u_sound_9 : Value) : CI l yX2_bestGuess wsX2_bestGuess ({ frames := 0, cells := 0, slots := 0, locals := 0 }) (dC, dI) (tysA cB cI cJ cZ cS) [(q_outlook, .inr (2, [.ref q_sound, u_outlook_1, u_outlook_2, u_outlook_3, u_outlook_4, u_outlook_5])), (q_sound, .inr (5, [u_sound_0, u_sound_1, u_sound_2, u_sound_3, u_sound_4, u_sound_5, .int 0, u_sound_7, u_sound_8, u_sound_9]))] [.ref q_outlook, .ref q_now, .int (-1)] (fun r w => w = [(q_outlook, .inr (2, [.ref q_sound, u_outlook_1, u_outlook_2, u_outlook_3, u_outlook_4, u_outlook_5])), (q_sound, .inr (5, [u_sound_0, u_sound_1, u_sound_2, u_sound_3, u_sound_4, u_sound_5, .int 0, u_sound_7, u_sound_8, u_sound_9]))] ∧ r = 0) := by
  refine open_I (cc := cX2_bestGuess) (maxL := 6) (ret := (some .int)) (by decide) rfl (Nat.le_of_ble_eq_true rfl) ?_
  intro p e s m below meth c A ls E
  obtain ⟨C, hr, hlocks, hnm, hA, hP, hK, hD, hN, hl⟩ := E
  obtain ⟨hx, hb, hml, hown, hts⟩ := id C
  have hS : va_S A s.heap s.heap [] := va_S.rf
  have hl : lv_has ls 6 [(0, .ref q_outlook), (1, .ref q_now), (2, .int (-1))] := hl
  have inX2 : ∀ w ∈ u_ws RX2 TX2 6, w ∈ wsX2_bestGuess := by decide +kernel
  have inX5 : ∀ w ∈ u_ws RX5 TX5 10, w ∈ wsX2_bestGuess := by decide +kernel
  have L24 : Cond.fieldLink RX2 24 "GuessFerry$Outlook" "sound" "LGuessFerry$Sound;" ∈ wsX2_bestGuess := by decide +kernel
  refine lv_iconst (v := 0) hx hb dX2_bestGuess_0 (by decide) ?_
  refine lv_istore_n (lv' := [(3, .int 0), (0, .ref q_outlook), (1, .ref q_now), (2, .int (-1))]) hx hb dX2_bestGuess_1 rfl hl (by decide) rfl (fun ls hl => ?_)
  refine lv_aload_n hx hb dX2_bestGuess_2 rfl (lv_at hl 1 rfl) ?_
  refine q_get (v := .ref q_sound) C inX2 hK hP 0 rfl rfl 0 (by decide) rfl L24 rfl dX2_bestGuess_3 ?_
  refine q_getN (v := .int 0) C hN inX5 hK hP 1 rfl rfl 6 (by decide) rfl nwF_X2_44 rfl dX2_bestGuess_6 ?_
  refine lv_iconst (v := 1) hx hb dX2_bestGuess_9 (by decide) ?_
  refine lv_isub hx hb dX2_bestGuess_10 ?_
  refine q_top (y := (-1)) (by decide +kernel) ?_
  refine lv_istore (lv' := [(4, .int (-1)), (3, .int 0), (0, .ref q_outlook), (1, .ref q_now), (2, .int (-1))]) hx hb dX2_bestGuess_11 hl (by decide) rfl (fun ls hl => ?_)
  refine lv_iload hx hb dX2_bestGuess_13 (lv_at hl 0 rfl) ?_
  refine lv_if_lt (tgt := 51) hx hb dX2_bestGuess_15 (by decide) (fun _ => ?_) (fun h => absurd (by decide +kernel) h)
  refine lv_iload_n hx hb dX2_bestGuess_51 rfl (lv_at hl 1 rfl) ?_
  exact q_iret C hr hlocks hK hP hD hS (Nat.le_of_ble_eq_true rfl) (Nat.le_of_ble_eq_true rfl) dX2_bestGuess_52 (⟨rfl, rfl⟩)

set_option maxHeartbeats 4000000 in
set_option maxRecDepth 100000 in
theorem k_X2_goesAtMost (l : Launch) (dC : Nat → ClassId) (dI : Nat → Nat → Nat) (cB cI cJ cZ cS : ClassId) (q_sound : Nat) (q_now : Nat) (q_outlook : Nat) (u_outlook_1 : Value) (u_outlook_2 : Value) (u_outlook_3 : Value) (u_outlook_4 : Value) (u_outlook_5 : Value) (u_sound_0 : Value) (u_sound_1 : Value) (u_sound_2 : Value) (u_sound_3 : Value) (u_sound_4 : Value) (u_sound_5 : Value) (u_sound_7 : Value) (u_sound_8 : Value) (u_sound_9 : Value) : CI l yX2_goesAtMost wsX2_goesAtMost ({ frames := 0, cells := 0, slots := 0, locals := 0 }) (dC, dI) (tysA cB cI cJ cZ cS) [(q_outlook, .inr (2, [.ref q_sound, u_outlook_1, u_outlook_2, u_outlook_3, u_outlook_4, u_outlook_5])), (q_sound, .inr (5, [u_sound_0, u_sound_1, u_sound_2, u_sound_3, u_sound_4, u_sound_5, .int 0, u_sound_7, u_sound_8, u_sound_9]))] [.ref q_outlook, .ref q_now] (fun r w => w = [(q_outlook, .inr (2, [.ref q_sound, u_outlook_1, u_outlook_2, u_outlook_3, u_outlook_4, u_outlook_5])), (q_sound, .inr (5, [u_sound_0, u_sound_1, u_sound_2, u_sound_3, u_sound_4, u_sound_5, .int 0, u_sound_7, u_sound_8, u_sound_9]))] ∧ r = 1) := by
  refine open_I (cc := cX2_goesAtMost) (maxL := 4) (ret := (some .int)) (by decide) rfl (Nat.le_of_ble_eq_true rfl) ?_
  intro p e s m below meth c A ls E
  obtain ⟨C, hr, hlocks, hnm, hA, hP, hK, hD, hN, hl⟩ := E
  obtain ⟨hx, hb, hml, hown, hts⟩ := id C
  have hS : va_S A s.heap s.heap [] := va_S.rf
  have hl : lv_has ls 4 [(0, .ref q_outlook), (1, .ref q_now)] := hl
  have inX2 : ∀ w ∈ u_ws RX2 TX2 6, w ∈ wsX2_goesAtMost := fun _ h => List.mem_cons_of_mem _ (List.mem_append_left _ (List.mem_append_left _ (List.mem_append_left _ (List.mem_append_right _ h))))
  have inX5 : ∀ w ∈ u_ws RX5 TX5 10, w ∈ wsX2_goesAtMost := fun _ h => List.mem_cons_of_mem _ (List.mem_append_left _ (List.mem_append_left _ (List.mem_append_right _ h)))
  have L24 : Cond.fieldLink RX2 24 "GuessFerry$Outlook" "sound" "LGuessFerry$Sound;" ∈ wsX2_goesAtMost := by decide +kernel
  refine lv_iconst (v := 1) hx hb dX2_goesAtMost_0 (by decide) ?_
  refine lv_istore_n (lv' := [(2, .int 1), (0, .ref q_outlook), (1, .ref q_now)]) hx hb dX2_goesAtMost_1 rfl hl (by decide) rfl (fun ls hl => ?_)
  refine lv_iconst (v := 0) hx hb dX2_goesAtMost_2 (by decide) ?_
  refine lv_istore_n (lv' := [(3, .int 0), (2, .int 1), (0, .ref q_outlook), (1, .ref q_now)]) hx hb dX2_goesAtMost_3 rfl hl (by decide) rfl (fun ls hl => ?_)
  refine lv_iload_n hx hb dX2_goesAtMost_4 rfl (lv_at hl 0 rfl) ?_
  refine lv_aload_n hx hb dX2_goesAtMost_5 rfl (lv_at hl 2 rfl) ?_
  refine q_get (v := .ref q_sound) C inX2 hK hP 0 rfl rfl 0 (by decide) rfl L24 rfl dX2_goesAtMost_6 ?_
  refine q_getN (v := .int 0) C hN inX5 hK hP 1 rfl rfl 6 (by decide) rfl nwF_X2_44 rfl dX2_goesAtMost_9 ?_
  refine lv_icmp_ge (tgt := 32) hx hb dX2_goesAtMost_12 (by decide) (fun _ => ?_) (fun h => absurd (by decide +kernel) h)
  refine lv_iload_n hx hb dX2_goesAtMost_32 rfl (lv_at hl 1 rfl) ?_
  exact q_iret C hr hlocks hK hP hD hS (Nat.le_of_ble_eq_true rfl) (Nat.le_of_ble_eq_true rfl) dX2_goesAtMost_33 (⟨rfl, rfl⟩)

set_option maxHeartbeats 4000000 in
set_option maxRecDepth 100000 in
theorem k_X2_leftBehind (l : Launch) (dC : Nat → ClassId) (dI : Nat → Nat → Nat) (cB cI cJ cZ cS : ClassId) (q_sound : Nat) (q_now : Nat) (q_outlook : Nat) (u_outlook_1 : Value) (u_outlook_2 : Value) (u_outlook_3 : Value) (u_outlook_4 : Value) (u_outlook_5 : Value) (u_sound_0 : Value) (u_sound_1 : Value) (u_sound_2 : Value) (u_sound_3 : Value) (u_sound_4 : Value) (u_sound_5 : Value) (u_sound_7 : Value) (u_sound_8 : Value) (u_sound_9 : Value) (x1 : Int32) : CI l yX2_leftBehind wsX2_leftBehind ({ frames := 0, cells := 0, slots := 0, locals := 0 }) (dC, dI) (tysA cB cI cJ cZ cS) [(q_outlook, .inr (2, [.ref q_sound, u_outlook_1, u_outlook_2, u_outlook_3, u_outlook_4, u_outlook_5])), (q_sound, .inr (5, [u_sound_0, u_sound_1, u_sound_2, u_sound_3, u_sound_4, u_sound_5, .int 0, u_sound_7, u_sound_8, u_sound_9]))] [.ref q_outlook, .ref q_now, .int x1] (fun r w => w = [(q_outlook, .inr (2, [.ref q_sound, u_outlook_1, u_outlook_2, u_outlook_3, u_outlook_4, u_outlook_5])), (q_sound, .inr (5, [u_sound_0, u_sound_1, u_sound_2, u_sound_3, u_sound_4, u_sound_5, .int 0, u_sound_7, u_sound_8, u_sound_9]))] ∧ r = 1) := by
  refine open_I (cc := cX2_leftBehind) (maxL := 7) (ret := (some .int)) (by decide) rfl (Nat.le_of_ble_eq_true rfl) ?_
  intro p e s m below meth c A ls E
  obtain ⟨C, hr, hlocks, hnm, hA, hP, hK, hD, hN, hl⟩ := E
  obtain ⟨hx, hb, hml, hown, hts⟩ := id C
  have hS : va_S A s.heap s.heap [] := va_S.rf
  have hl : lv_has ls 7 [(0, .ref q_outlook), (1, .ref q_now), (2, .int x1)] := hl
  have inX2 : ∀ w ∈ u_ws RX2 TX2 6, w ∈ wsX2_leftBehind := by decide +kernel
  have inX5 : ∀ w ∈ u_ws RX5 TX5 10, w ∈ wsX2_leftBehind := by decide +kernel
  have L24 : Cond.fieldLink RX2 24 "GuessFerry$Outlook" "sound" "LGuessFerry$Sound;" ∈ wsX2_leftBehind := by decide +kernel
  refine lv_iconst (v := 1) hx hb dX2_leftBehind_0 (by decide) ?_
  refine lv_istore_n (lv' := [(3, .int 1), (0, .ref q_outlook), (1, .ref q_now), (2, .int x1)]) hx hb dX2_leftBehind_1 rfl hl (by decide) rfl (fun ls hl => ?_)
  refine lv_iconst (v := 1) hx hb dX2_leftBehind_2 (by decide) ?_
  refine lv_istore (lv' := [(4, .int 1), (3, .int 1), (0, .ref q_outlook), (1, .ref q_now), (2, .int x1)]) hx hb dX2_leftBehind_3 hl (by decide) rfl (fun ls hl => ?_)
  refine lv_aload_n hx hb dX2_leftBehind_5 rfl (lv_at hl 2 rfl) ?_
  refine q_get (v := .ref q_sound) C inX2 hK hP 0 rfl rfl 0 (by decide) rfl L24 rfl dX2_leftBehind_6 ?_
  refine q_getN (v := .int 0) C hN inX5 hK hP 1 rfl rfl 6 (by decide) rfl nwF_X2_44 rfl dX2_leftBehind_9 ?_
  refine lv_iconst (v := 1) hx hb dX2_leftBehind_12 (by decide) ?_
  refine lv_isub hx hb dX2_leftBehind_13 ?_
  refine q_top (y := (-1)) (by decide +kernel) ?_
  refine lv_istore (lv' := [(5, .int (-1)), (4, .int 1), (3, .int 1), (0, .ref q_outlook), (1, .ref q_now), (2, .int x1)]) hx hb dX2_leftBehind_14 hl (by decide) rfl (fun ls hl => ?_)
  refine lv_iload hx hb dX2_leftBehind_16 (lv_at hl 0 rfl) ?_
  refine lv_if_lt (tgt := 86) hx hb dX2_leftBehind_18 (by decide) (fun _ => ?_) (fun h => absurd (by decide +kernel) h)
  refine lv_iload_n hx hb dX2_leftBehind_86 rfl (lv_at hl 2 rfl) ?_
  exact q_iret C hr hlocks hK hP hD hS (Nat.le_of_ble_eq_true rfl) (Nat.le_of_ble_eq_true rfl) dX2_leftBehind_87 (⟨rfl, rfl⟩)

set_option maxHeartbeats 4000000 in
set_option maxRecDepth 100000 in
theorem k_X2_wisestGuess (l : Launch) (dC : Nat → ClassId) (dI : Nat → Nat → Nat) (cB cI cJ cZ cS : ClassId) (q_sound : Nat) (q_now : Nat) (q_outlook : Nat) (u_outlook_1 : Value) (u_outlook_2 : Value) (u_outlook_3 : Value) (u_outlook_4 : Value) (u_outlook_5 : Value) (u_sound_0 : Value) (u_sound_1 : Value) (u_sound_2 : Value) (u_sound_3 : Value) (u_sound_4 : Value) (u_sound_5 : Value) (u_sound_7 : Value) (u_sound_8 : Value) (u_sound_9 : Value) : CI l yX2_wisestGuess wsX2_wisestGuess ({ frames := 0, cells := 0, slots := 0, locals := 0 }) (dC, dI) (tysA cB cI cJ cZ cS) [(q_outlook, .inr (2, [.ref q_sound, u_outlook_1, u_outlook_2, u_outlook_3, u_outlook_4, u_outlook_5])), (q_sound, .inr (5, [u_sound_0, u_sound_1, u_sound_2, u_sound_3, u_sound_4, u_sound_5, .int 0, u_sound_7, u_sound_8, u_sound_9]))] [.ref q_outlook, .ref q_now] (fun r w => w = [(q_outlook, .inr (2, [.ref q_sound, u_outlook_1, u_outlook_2, u_outlook_3, u_outlook_4, u_outlook_5])), (q_sound, .inr (5, [u_sound_0, u_sound_1, u_sound_2, u_sound_3, u_sound_4, u_sound_5, .int 0, u_sound_7, u_sound_8, u_sound_9]))] ∧ r = 0) := by
  refine open_I (cc := cX2_wisestGuess) (maxL := 5) (ret := (some .int)) (by decide) rfl (Nat.le_of_ble_eq_true rfl) ?_
  intro p e s m below meth c A ls E
  obtain ⟨C, hr, hlocks, hnm, hA, hP, hK, hD, hN, hl⟩ := E
  obtain ⟨hx, hb, hml, hown, hts⟩ := id C
  have hS : va_S A s.heap s.heap [] := va_S.rf
  have hl : lv_has ls 5 [(0, .ref q_outlook), (1, .ref q_now)] := hl
  have inX2 : ∀ w ∈ u_ws RX2 TX2 6, w ∈ wsX2_wisestGuess := fun _ h => List.mem_cons_of_mem _ (List.mem_append_left _ (List.mem_append_left _ (List.mem_append_left _ (List.mem_append_right _ h))))
  have inX5 : ∀ w ∈ u_ws RX5 TX5 10, w ∈ wsX2_wisestGuess := fun _ h => List.mem_cons_of_mem _ (List.mem_append_left _ (List.mem_append_left _ (List.mem_append_right _ h)))
  have L24 : Cond.fieldLink RX2 24 "GuessFerry$Outlook" "sound" "LGuessFerry$Sound;" ∈ wsX2_wisestGuess := by decide +kernel
  refine lv_iconst (v := 0) hx hb dX2_wisestGuess_0 (by decide) ?_
  refine lv_istore_n (lv' := [(2, .int 0), (0, .ref q_outlook), (1, .ref q_now)]) hx hb dX2_wisestGuess_1 rfl hl (by decide) rfl (fun ls hl => ?_)
  refine lv_iconst (v := 1) hx hb dX2_wisestGuess_2 (by decide) ?_
  refine lv_istore_n (lv' := [(3, .int 1), (2, .int 0), (0, .ref q_outlook), (1, .ref q_now)]) hx hb dX2_wisestGuess_3 rfl hl (by decide) rfl (fun ls hl => ?_)
  refine lv_iconst (v := 0) hx hb dX2_wisestGuess_4 (by decide) ?_
  refine lv_istore (lv' := [(4, .int 0), (3, .int 1), (2, .int 0), (0, .ref q_outlook), (1, .ref q_now)]) hx hb dX2_wisestGuess_5 hl (by decide) rfl (fun ls hl => ?_)
  refine lv_iload hx hb dX2_wisestGuess_7 (lv_at hl 0 rfl) ?_
  refine lv_aload_n hx hb dX2_wisestGuess_9 rfl (lv_at hl 3 rfl) ?_
  refine q_get (v := .ref q_sound) C inX2 hK hP 0 rfl rfl 0 (by decide) rfl L24 rfl dX2_wisestGuess_10 ?_
  refine q_getN (v := .int 0) C hN inX5 hK hP 1 rfl rfl 6 (by decide) rfl nwF_X2_44 rfl dX2_wisestGuess_13 ?_
  refine lv_icmp_ge (tgt := 61) hx hb dX2_wisestGuess_16 (by decide) (fun _ => ?_) (fun h => absurd (by decide +kernel) h)
  refine lv_iconst (v := 0) hx hb dX2_wisestGuess_61 (by decide) ?_
  exact q_iret C hr hlocks hK hP hD hS (Nat.le_of_ble_eq_true rfl) (Nat.le_of_ble_eq_true rfl) dX2_wisestGuess_62 (⟨rfl, rfl⟩)
