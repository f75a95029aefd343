set_option maxRecDepth 20000 in
theorem ggX10_cases_X2_caseCount : GoodIn wsX10_cases wsX2_caseCount := goodIn_r _ [6, 7, 8, 9, 10, 4, 11, 12, 13, 14, 15, 16, 17, 18, 19, 20, 21, 22, 23, 24, 34, 35, 36, 37, 38, 39, 40, 41, 42, 43, 44, 45, 46, 47, 48, 49, 50, 51, 52, 53, 54, 55, 56, 57, 58] (by decide +kernel) (by decide +kernel)
set_option maxRecDepth 20000 in
theorem gX10_cases_X2_caseCount_n196 : GoodIn wsX10_cases (wsX2_caseCount) := ggX10_cases_X2_caseCount
theorem dX10_cases_0 : decode cX10_cases 0 = .ok (.aload_n 0, 1) := by decide +kernel
theorem dX10_cases_1 : decode cX10_cases 1 = .ok (.getfield 63, 3) := by decide +kernel
theorem dX10_cases_4 : decode cX10_cases 4 = .ok (.aload_n 0, 1) := by decide +kernel
theorem dX10_cases_5 : decode cX10_cases 5 = .ok (.getfield 35, 3) := by decide +kernel
theorem dX10_cases_8 : decode cX10_cases 8 = .ok (.invokevirtual 196, 3) := by decide +kernel
theorem dX10_cases_11 : decode cX10_cases 11 = .ok (.ireturn, 1) := by decide +kernel
set_option maxRecDepth 20000 in
theorem ggX10_chance_X5_hasGuess : GoodIn wsX10_chance wsX5_hasGuess := goodIn_r _ [7, 8, 42, 43, 44, 45, 46, 47, 48, 49, 50, 51] (by decide +kernel) (by decide +kernel)
set_option maxRecDepth 20000 in
theorem gX10_chance_X5_hasGuess_n170 : GoodIn wsX10_chance (wsX5_hasGuess) := ggX10_chance_X5_hasGuess
set_option maxRecDepth 20000 in
theorem ggX10_chance_X2_oddsOf : GoodIn wsX10_chance wsX2_oddsOf := goodIn_r _ [12, 13, 14, 15, 16, 17, 18, 19, 10, 20, 21, 22, 23, 24, 25, 26, 27, 28, 29, 5, 30, 31, 32, 52, 53, 54, 55, 56, 57, 42, 43, 44, 45, 46, 47, 48, 49, 50, 51, 58, 59, 60, 61, 62, 63, 64, 65, 66] (by decide +kernel) (by decide +kernel)
set_option maxRecDepth 20000 in
theorem gX10_chance_X2_oddsOf_n200 : GoodIn wsX10_chance (wsX2_oddsOf) := ggX10_chance_X2_oddsOf
theorem dX10_chance_0 : decode cX10_chance 0 = .ok (.aload_n 0, 1) := by decide +kernel
theorem dX10_chance_1 : decode cX10_chance 1 = .ok (.getfield 19, 3) := by decide +kernel
theorem dX10_chance_4 : decode cX10_chance 4 = .ok (.iload_n 1, 1) := by decide +kernel
theorem dX10_chance_5 : decode cX10_chance 5 = .ok (.invokevirtual 170, 3) := by decide +kernel
theorem dX10_chance_8 : decode cX10_chance 8 = .ok (.ifCond .eq 18, 3) := by decide +kernel
theorem dX10_chance_11 : decode cX10_chance 11 = .ok (.aload_n 0, 1) := by decide +kernel
theorem dX10_chance_12 : decode cX10_chance 12 = .ok (.getfield 63, 3) := by decide +kernel
theorem dX10_chance_15 : decode cX10_chance 15 = .ok (.aload_n 0, 1) := by decide +kernel
theorem dX10_chance_16 : decode cX10_chance 16 = .ok (.getfield 35, 3) := by decide +kernel
theorem dX10_chance_19 : decode cX10_chance 19 = .ok (.iload_n 1, 1) := by decide +kernel
theorem dX10_chance_20 : decode cX10_chance 20 = .ok (.invokevirtual 200, 3) := by decide +kernel
theorem dX10_chance_23 : decode cX10_chance 23 = .ok (.goto 4, 3) := by decide +kernel
theorem dX10_chance_26 : decode cX10_chance 26 = .ok (.iconst (-1), 1) := by decide +kernel
theorem dX10_chance_27 : decode cX10_chance 27 = .ok (.ireturn, 1) := by decide +kernel
set_option maxRecDepth 20000 in
theorem ggX10_all_X2_oddsOfAll : GoodIn wsX10_all wsX2_oddsOfAll := goodIn_r _ [6, 7, 8, 9, 10, 4, 11, 12, 13, 14, 15, 16, 17, 18, 19, 20, 21, 22, 23, 24, 25, 35, 36, 37, 38, 39, 40, 41, 42, 43, 44, 45, 46, 47, 48, 49, 50, 51, 52, 53, 54, 55, 56, 57, 58, 59] (by decide +kernel) (by decide +kernel)
set_option maxRecDepth 20000 in
theorem gX10_all_X2_oddsOfAll_n203 : GoodIn wsX10_all (wsX2_oddsOfAll) := ggX10_all_X2_oddsOfAll
theorem dX10_all_0 : decode cX10_all 0 = .ok (.aload_n 0, 1) := by decide +kernel
theorem dX10_all_1 : decode cX10_all 1 = .ok (.getfield 63, 3) := by decide +kernel
theorem dX10_all_4 : decode cX10_all 4 = .ok (.aload_n 0, 1) := by decide +kernel
theorem dX10_all_5 : decode cX10_all 5 = .ok (.getfield 35, 3) := by decide +kernel
theorem dX10_all_8 : decode cX10_all 8 = .ok (.iconst (-1), 1) := by decide +kernel
theorem dX10_all_9 : decode cX10_all 9 = .ok (.invokevirtual 203, 3) := by decide +kernel
theorem dX10_all_12 : decode cX10_all 12 = .ok (.ireturn, 1) := by decide +kernel
set_option maxRecDepth 20000 in
theorem ggX10_likeliest_X2_bestGuess : GoodIn wsX10_likeliest wsX2_bestGuess := goodIn_r _ [6, 7, 8, 9, 10, 4, 11, 12, 13, 14, 15, 16, 17, 18, 19, 20, 21, 22, 23, 24, 25, 26, 27, 28, 29, 30, 31, 32, 33, 34, 35, 36, 37, 38, 39, 40, 41, 42, 43, 44, 45, 46, 47, 48, 49, 50, 51, 52, 53, 54, 55, 56, 57, 58, 59, 60, 61, 62, 63, 64, 65, 66, 67, 68, 69, 70, 71, 72, 73, 74, 75, 76, 77, 78, 79, 80, 81, 82, 83, 84, 85, 95, 96, 97, 98, 99, 100, 101, 102, 103, 104, 105, 106, 107, 108, 109, 110, 111, 112, 113, 114, 115, 116, 117, 118, 119, 120, 121, 122, 123, 124, 125, 126, 127, 128] (by decide +kernel) (by decide +kernel)
set_option maxRecDepth 20000 in
theorem gX10_likeliest_X2_bestGuess_n206 : GoodIn wsX10_likeliest (wsX2_bestGuess) := ggX10_likeliest_X2_bestGuess
theorem dX10_likeliest_0 : decode cX10_likeliest 0 = .ok (.aload_n 0, 1) := by decide +kernel
theorem dX10_likeliest_1 : decode cX10_likeliest 1 = .ok (.getfield 63, 3) := by decide +kernel
theorem dX10_likeliest_4 : decode cX10_likeliest 4 = .ok (.aload_n 0, 1) := by decide +kernel
theorem dX10_likeliest_5 : decode cX10_likeliest 5 = .ok (.getfield 35, 3) := by decide +kernel
theorem dX10_likeliest_8 : decode cX10_likeliest 8 = .ok (.iconst (-1), 1) := by decide +kernel
theorem dX10_likeliest_9 : decode cX10_likeliest 9 = .ok (.invokevirtual 206, 3) := by decide +kernel
theorem dX10_likeliest_12 : decode cX10_likeliest 12 = .ok (.ireturn, 1) := by decide +kernel
set_option maxRecDepth 20000 in
theorem ggX10_bears_X5_hasParty : GoodIn wsX10_bears wsX5_hasParty := goodIn_r _ [7, 8, 100, 101, 102, 103, 104, 105, 106, 107, 108, 109] (by decide +kernel) (by decide +kernel)
set_option maxRecDepth 20000 in
theorem gX10_bears_X5_hasParty_n138 : GoodIn wsX10_bears (wsX5_hasParty) := ggX10_bears_X5_hasParty
theorem dX10_bears_0 : decode cX10_bears 0 = .ok (.aload_n 0, 1) := by decide +kernel
theorem dX10_bears_1 : decode cX10_bears 1 = .ok (.getfield 19, 3) := by decide +kernel
theorem dX10_bears_4 : decode cX10_bears 4 = .ok (.iload_n 1, 1) := by decide +kernel
theorem dX10_bears_5 : decode cX10_bears 5 = .ok (.invokevirtual 138, 3) := by decide +kernel
theorem dX10_bears_8 : decode cX10_bears 8 = .ok (.ifCond .eq 14, 3) := by decide +kernel
theorem dX10_bears_22 : decode cX10_bears 22 = .ok (.iconst (-1), 1) := by decide +kernel
theorem dX10_bears_23 : decode cX10_bears 23 = .ok (.ireturn, 1) := by decide +kernel
set_option maxRecDepth 20000 in
theorem ggX10_safest_X5_hasParty : GoodIn wsX10_safest wsX5_hasParty := goodIn_r _ [7, 8, 100, 101, 102, 103, 104, 105, 106, 107, 108, 109] (by decide +kernel) (by decide +kernel)
set_option maxRecDepth 20000 in
theorem gX10_safest_X5_hasParty_n138 : GoodIn wsX10_safest (wsX5_hasParty) := ggX10_safest_X5_hasParty
theorem dX10_safest_0 : decode cX10_safest 0 = .ok (.aload_n 0, 1) := by decide +kernel
theorem dX10_safest_1 : decode cX10_safest 1 = .ok (.getfield 19, 3) := by decide +kernel
theorem dX10_safest_4 : decode cX10_safest 4 = .ok (.iload_n 1, 1) := by decide +kernel
theorem dX10_safest_5 : decode cX10_safest 5 = .ok (.invokevirtual 138, 3) := by decide +kernel
theorem dX10_safest_8 : decode cX10_safest 8 = .ok (.ifCond .eq 18, 3) := by decide +kernel
theorem dX10_safest_26 : decode cX10_safest 26 = .ok (.iconst (-1), 1) := by decide +kernel
theorem dX10_safest_27 : decode cX10_safest 27 = .ok (.ireturn, 1) := by decide +kernel
set_option maxRecDepth 20000 in
theorem ggX10_enough_X2_caseCount : GoodIn wsX10_enough wsX2_caseCount := goodIn_r _ [6, 7, 8, 9, 10, 4, 11, 12, 13, 14, 15, 16, 17, 18, 19, 20, 21, 22, 23, 24, 37, 38, 39, 40, 41, 42, 43, 44, 45, 46, 47, 48, 49, 50, 51, 52, 53, 54, 55, 56, 57, 58, 59, 60, 61] (by decide +kernel) (by decide +kernel)
set_option maxRecDepth 20000 in
theorem gX10_enough_X2_caseCount_n196 : GoodIn wsX10_enough (wsX2_caseCount) := ggX10_enough_X2_caseCount
set_option maxRecDepth 20000 in
theorem ggX10_enough_X2_goesAtMost : GoodIn wsX10_enough wsX2_goesAtMost := goodIn_r _ [27, 7, 8, 9, 10, 4, 11, 12, 13, 14, 15, 16, 17, 18, 19, 20, 21, 22, 23, 24, 37, 38, 39, 40, 41, 42, 43, 44, 45, 46, 47, 48, 49, 50, 51, 52, 53, 54, 55, 56, 57, 58, 59, 60, 61] (by decide +kernel) (by decide +kernel)
set_option maxRecDepth 20000 in
theorem gX10_enough_X2_goesAtMost_n212 : GoodIn wsX10_enough (wsX2_goesAtMost) := ggX10_enough_X2_goesAtMost
theorem dX10_enough_0 : decode cX10_enough 0 = .ok (.aload_n 0, 1) := by decide +kernel
theorem dX10_enough_1 : decode cX10_enough 1 = .ok (.getfield 63, 3) := by decide +kernel
theorem dX10_enough_4 : decode cX10_enough 4 = .ok (.aload_n 0, 1) := by decide +kernel
theorem dX10_enough_5 : decode cX10_enough 5 = .ok (.getfield 35, 3) := by decide +kernel
theorem dX10_enough_8 : decode cX10_enough 8 = .ok (.invokevirtual 196, 3) := by decide +kernel
theorem dX10_enough_11 : decode cX10_enough 11 = .ok (.ifCond .ne 8, 3) := by decide +kernel
theorem dX10_enough_19 : decode cX10_enough 19 = .ok (.aload_n 0, 1) := by decide +kernel
theorem dX10_enough_20 : decode cX10_enough 20 = .ok (.getfield 63, 3) := by decide +kernel
theorem dX10_enough_23 : decode cX10_enough 23 = .ok (.aload_n 0, 1) := by decide +kernel
theorem dX10_enough_24 : decode cX10_enough 24 = .ok (.getfield 35, 3) := by decide +kernel
theorem dX10_enough_27 : decode cX10_enough 27 = .ok (.invokevirtual 212, 3) := by decide +kernel
theorem dX10_enough_30 : decode cX10_enough 30 = .ok (.ireturn, 1) := by decide +kernel
set_option maxRecDepth 20000 in
theorem ggX10_left_X5_hasGuess : GoodIn wsX10_left wsX5_hasGuess := goodIn_r _ [7, 8, 52, 53, 54, 55, 56, 57, 58, 59, 60, 61] (by decide +kernel) (by decide +kernel)
set_option maxRecDepth 20000 in
theorem gX10_left_X5_hasGuess_n170 : GoodIn wsX10_left (wsX5_hasGuess) := ggX10_left_X5_hasGuess
set_option maxRecDepth 20000 in
theorem ggX10_left_X2_caseCount : GoodIn wsX10_left wsX2_caseCount := goodIn_r _ [12, 13, 14, 15, 16, 10, 17, 18, 19, 20, 21, 22, 23, 24, 25, 26, 27, 28, 29, 30, 62, 63, 64, 65, 66, 67, 52, 53, 54, 55, 56, 57, 58, 59, 60, 61, 68, 69, 70, 71, 72, 73, 74, 75, 76] (by decide +kernel) (by decide +kernel)
set_option maxRecDepth 20000 in
theorem gX10_left_X2_caseCount_n196 : GoodIn wsX10_left (wsX2_caseCount) := ggX10_left_X2_caseCount
set_option maxRecDepth 20000 in
theorem ggX10_left_X2_leftBehind : GoodIn wsX10_left wsX2_leftBehind := goodIn_r _ [33, 13, 18, 34, 35, 36, 37, 14, 15, 16, 10, 17, 19, 20, 21, 22, 23, 24, 25, 26, 27, 28, 29, 30, 38, 39, 40, 41, 42, 62, 63, 64, 65, 66, 67, 52, 53, 54, 55, 56, 57, 58, 59, 60, 61, 68, 69, 70, 71, 72, 73, 74, 75, 76] (by decide +kernel) (by decide +kernel)
set_option maxRecDepth 20000 in
theorem gX10_left_X2_leftBehind_n215 : GoodIn wsX10_left (wsX2_leftBehind) := ggX10_left_X2_leftBehind
theorem dX10_left_0 : decode cX10_left 0 = .ok (.aload_n 0, 1) := by decide +kernel
theorem dX10_left_1 : decode cX10_left 1 = .ok (.getfield 19, 3) := by decide +kernel
theorem dX10_left_4 : decode cX10_left 4 = .ok (.iload_n 1, 1) := by decide +kernel
theorem dX10_left_5 : decode cX10_left 5 = .ok (.invokevirtual 170, 3) := by decide +kernel
theorem dX10_left_8 : decode cX10_left 8 = .ok (.ifCond .ne 5, 3) := by decide +kernel
theorem dX10_left_11 : decode cX10_left 11 = .ok (.iconst (-1), 1) := by decide +kernel
theorem dX10_left_12 : decode cX10_left 12 = .ok (.ireturn, 1) := by decide +kernel
theorem dX10_left_13 : decode cX10_left 13 = .ok (.aload_n 0, 1) := by decide +kernel
theorem dX10_left_14 : decode cX10_left 14 = .ok (.getfield 63, 3) := by decide +kernel
theorem dX10_left_17 : decode cX10_left 17 = .ok (.aload_n 0, 1) := by decide +kernel
theorem dX10_left_18 : decode cX10_left 18 = .ok (.getfield 35, 3) := by decide +kernel
theorem dX10_left_21 : decode cX10_left 21 = .ok (.invokevirtual 196, 3) := by decide +kernel
theorem dX10_left_24 : decode cX10_left 24 = .ok (.ifCond .ne 8, 3) := by decide +kernel
theorem dX10_left_32 : decode cX10_left 32 = .ok (.aload_n 0, 1) := by decide +kernel
theorem dX10_left_33 : decode cX10_left 33 = .ok (.getfield 63, 3) := by decide +kernel
theorem dX10_left_36 : decode cX10_left 36 = .ok (.aload_n 0, 1) := by decide +kernel
theorem dX10_left_37 : decode cX10_left 37 = .ok (.getfield 35, 3) := by decide +kernel
theorem dX10_left_40 : decode cX10_left 40 = .ok (.iload_n 1, 1) := by decide +kernel
theorem dX10_left_41 : decode cX10_left 41 = .ok (.invokevirtual 215, 3) := by decide +kernel
theorem dX10_left_44 : decode cX10_left 44 = .ok (.ireturn, 1) := by decide +kernel
set_option maxRecDepth 20000 in
theorem ggX10_sunk_X5_hasGuess : GoodIn wsX10_sunk wsX5_hasGuess := goodIn_r _ [7, 8, 96, 97, 98, 99, 100, 101, 102, 103, 104, 105] (by decide +kernel) (by decide +kernel)
set_option maxRecDepth 20000 in
theorem gX10_sunk_X5_hasGuess_n170 : GoodIn wsX10_sunk (wsX5_hasGuess) := ggX10_sunk_X5_hasGuess
theorem dX10_sunk_0 : decode cX10_sunk 0 = .ok (.aload_n 0, 1) := by decide +kernel
theorem dX10_sunk_1 : decode cX10_sunk 1 = .ok (.getfield 19, 3) := by decide +kernel
theorem dX10_sunk_4 : decode cX10_sunk 4 = .ok (.iload_n 1, 1) := by decide +kernel
theorem dX10_sunk_5 : decode cX10_sunk 5 = .ok (.invokevirtual 170, 3) := by decide +kernel
theorem dX10_sunk_8 : decode cX10_sunk 8 = .ok (.ifCond .ne 5, 3) := by decide +kernel
theorem dX10_sunk_11 : decode cX10_sunk 11 = .ok (.iconst (-1), 1) := by decide +kernel
theorem dX10_sunk_12 : decode cX10_sunk 12 = .ok (.ireturn, 1) := by decide +kernel
theorem dX10_sunk_13 : decode cX10_sunk 13 = .ok (.iconst 0, 1) := by decide +kernel
theorem dX10_sunk_14 : decode cX10_sunk 14 = .ok (.istore_n 2, 1) := by decide +kernel
theorem dX10_sunk_15 : decode cX10_sunk 15 = .ok (.iconst 0, 1) := by decide +kernel
theorem dX10_sunk_16 : decode cX10_sunk 16 = .ok (.istore_n 3, 1) := by decide +kernel
theorem dX10_sunk_17 : decode cX10_sunk 17 = .ok (.iload_n 3, 1) := by decide +kernel
theorem dX10_sunk_18 : decode cX10_sunk 18 = .ok (.aload_n 0, 1) := by decide +kernel
theorem dX10_sunk_19 : decode cX10_sunk 19 = .ok (.getfield 19, 3) := by decide +kernel
theorem dX10_sunk_22 : decode cX10_sunk 22 = .ok (.getfield 235, 3) := by decide +kernel
theorem dX10_sunk_25 : decode cX10_sunk 25 = .ok (.if_icmp .ge 50, 3) := by decide +kernel
theorem dX10_sunk_75 : decode cX10_sunk 75 = .ok (.iload_n 2, 1) := by decide +kernel
theorem dX10_sunk_76 : decode cX10_sunk 76 = .ok (.ireturn, 1) := by decide +kernel
set_option maxHeartbeats 4000000 in
set_option maxRecDepth 100000 in
theorem k_X10_cases (l : Launch) (dC : Nat → ClassId) (dI : Nat → Nat → Nat) (cB cI cJ cZ cS : ClassId) (q_G : Nat) (q_sound : Nat) (q_now : Nat) (q_outlook : Nat) (u_G_0 : Value) (u_G_1 : Value) (u_G_2 : Value) (u_G_4 : Value) (u_G_5 : Value) (u_G_6 : Value) (u_G_8 : Value) (u_outlook_1 : Value) (u_outlook_2 : Value) (u_outlook_3 : Value) (u_outlook_4 : Value) (u_outlook_5 : Value) (u_sound_0 : Value) (u_sound_1 : Value) (u_sound_2 : Value) (u_sound_3 : Value) (u_sound_4 : Value) (u_sound_5 : Value) (u_sound_7 : Value) (u_sound_8 : Value) (u_sound_9 : Value) : CI l yX10_cases wsX10_cases ({ frames := 1, cells := 0, slots := 0, locals := 23 }) (dC, dI) (tysA cB cI cJ cZ cS) [(q_G, .inr (10, [u_G_0, u_G_1, u_G_2, .ref q_now, u_G_4, u_G_5, u_G_6, .ref q_outlook, u_G_8])), (q_outlook, .inr (2, [.ref q_sound, u_outlook_1, u_outlook_2, u_outlook_3, u_outlook_4, u_outlook_5])), (q_sound, .inr (5, [u_sound_0, u_sound_1, u_sound_2, u_sound_3, u_sound_4, u_sound_5, .int 0, u_sound_7, u_sound_8, u_sound_9]))] [.ref q_G] (fun r _ => r = 1) := by
  refine open_I (cc := cX10_cases) (maxL := 1) (ret := (some .int)) (by decide) rfl (Nat.le_of_ble_eq_true rfl) ?_
  intro p e s m below meth c A ls E
  obtain ⟨C, hr, hlocks, hnm, hA, hP, hK, hD, hN, hl⟩ := E
  obtain ⟨hx, hb, hml, hown, hts⟩ := id C
  have hS : va_S A s.heap s.heap [] := va_S.rf
  have hl : lv_has ls 1 [(0, .ref q_G)] := hl
  have inX10 : ∀ w ∈ u_ws RX10 TX10 9, w ∈ wsX10_cases := fun _ h => List.mem_cons_of_mem _ (List.mem_append_left _ (List.mem_append_left _ (List.mem_append_left _ (List.mem_append_left _ (List.mem_append_right _ h)))))
  have E_X2_caseCount : Cond.selects RX2 yX2_caseCount yX2_caseCount ∈ wsX10_cases := by decide +kernel
  have I_X2 : Cond.initialized RX2 ∈ wsX10_cases := by decide +kernel
  have L35 : Cond.fieldLink RX10 35 "GuessFerry" "now" "LGuessFerry$Standing;" ∈ wsX10_cases := by decide +kernel
  have L63 : Cond.fieldLink RX10 63 "GuessFerry" "outlook" "LGuessFerry$Outlook;" ∈ wsX10_cases := by decide +kernel
  have N_X2_caseCount : Cond.instanceMethod yX2_caseCount ∈ wsX10_cases := by decide +kernel
  refine lv_aload_n hx hb dX10_cases_0 rfl (lv_at hl 0 rfl) ?_
  refine q_get (v := .ref q_outlook) C inX10 hK hP 0 rfl rfl 7 (by decide) rfl L63 rfl dX10_cases_1 ?_
  refine lv_aload_n hx hb dX10_cases_4 rfl (lv_at hl 0 rfl) ?_
  refine q_get (v := .ref q_now) C inX10 hK hP 0 rfl rfl 3 (by decide) rfl L35 rfl dX10_cases_5 ?_
  refine q_goi (wr := [(q_G, .inr (10, [u_G_0, u_G_1, u_G_2, .ref q_now, u_G_4, u_G_5, u_G_6, .ref q_outlook, u_G_8]))]) (va_runVN (As := [.ref q_now]) (rest := []) C (k_X2_caseCount l dC dI cB cI cJ cZ cS (q_sound) (q_now) (q_outlook) (u_outlook_1) (u_outlook_2) (u_outlook_3) (u_outlook_4) (u_outlook_5) (u_sound_0) (u_sound_1) (u_sound_2) (u_sound_3) (u_sound_4) (u_sound_5) (u_sound_7) (u_sound_8) (u_sound_9) _) ⟨va_cnB 1 hts gX10_cases_X2_caseCount_n196 rfl rfl rfl (hN _ nwM_X10_196 rfl) (hts _ I_X2) (by decide +kernel) ⟨Nat.le_of_ble_eq_true rfl, Nat.le_of_ble_eq_true rfl⟩, hts _ N_X2_caseCount, hts _ E_X2_caseCount⟩ (q_preV hK hP (ci := 2) (q0 := 1) rfl rfl rfl (q_pre hN hK hP hD [1, 2] rfl (by decide))) rfl rfl hl.1 rfl (lv_room (Nat.le_of_ble_eq_true rfl)) dX10_cases_8 ⟨Nat.le_of_ble_eq_true rfl, Nat.le_of_ble_eq_true rfl⟩) hP hD hS hA [1, 2] [0] rfl rfl (by decide) (by decide) (fun r w1 H locs hw hP hD hS => ?_)
  obtain ⟨rfl, rfl⟩ := hw
  have hP : va_P (dC, dI) vwCl [(q_G, .inr (10, [u_G_0, u_G_1, u_G_2, .ref q_now, u_G_4, u_G_5, u_G_6, .ref q_outlook, u_G_8])), (q_outlook, .inr (2, [.ref q_sound, u_outlook_1, u_outlook_2, u_outlook_3, u_outlook_4, u_outlook_5])), (q_sound, .inr (5, [u_sound_0, u_sound_1, u_sound_2, u_sound_3, u_sound_4, u_sound_5, .int 0, u_sound_7, u_sound_8, u_sound_9]))] H := hP.sub [0, 1, 2] rfl
  have hD : va_D A [(q_G, .inr (10, [u_G_0, u_G_1, u_G_2, .ref q_now, u_G_4, u_G_5, u_G_6, .ref q_outlook, u_G_8])), (q_outlook, .inr (2, [.ref q_sound, u_outlook_1, u_outlook_2, u_outlook_3, u_outlook_4, u_outlook_5])), (q_sound, .inr (5, [u_sound_0, u_sound_1, u_sound_2, u_sound_3, u_sound_4, u_sound_5, .int 0, u_sound_7, u_sound_8, u_sound_9]))] := hD.sub [0, 1, 2] (by decide) rfl
  exact q_iret C hr hlocks hK hP hD hS (Nat.le_of_ble_eq_true rfl) (Nat.le_of_ble_eq_true rfl) dX10_cases_11 (rfl)

set_option maxHeartbeats 4000000 in
set_option maxRecDepth 100000 in
theorem k_X10_all (l : Launch) (dC : Nat → ClassId) (dI : Nat → Nat → Nat) (cB cI cJ cZ cS : ClassId) (q_G : Nat) (q_sound : Nat) (q_now : Nat) (q_outlook : Nat) (u_G_0 : Value) (u_G_1 : Value) (u_G_2 : Value) (u_G_4 : Value) (u_G_5 : Value) (u_G_6 : Value) (u_G_8 : Value) (u_outlook_1 : Value) (u_outlook_2 : Value) (u_outlook_3 : Value) (u_outlook_4 : Value) (u_outlook_5 : Value) (u_sound_0 : Value) (u_sound_1 : Value) (u_sound_2 : Value) (u_sound_3 : Value) (u_sound_4 : Value) (u_sound_5 : Value) (u_sound_7 : Value) (u_sound_8 : Value) (u_sound_9 : Value) : CI l yX10_all wsX10_all ({ frames := 1, cells := 0, slots := 0, locals := 26 }) (dC, dI) (tysA cB cI cJ cZ cS) [(q_G, .inr (10, [u_G_0, u_G_1, u_G_2, .ref q_now, u_G_4, u_G_5, u_G_6, .ref q_outlook, u_G_8])), (q_outlook, .inr (2, [.ref q_sound, u_outlook_1, u_outlook_2, u_outlook_3, u_outlook_4, u_outlook_5])), (q_sound, .inr (5, [u_sound_0, u_sound_1, u_sound_2, u_sound_3, u_sound_4, u_sound_5, .int 0, u_sound_7, u_sound_8, u_sound_9]))] [.ref q_G] (fun r _ => r = 1) := by
  refine open_I (cc := cX10_all) (maxL := 1) (ret := (some .int)) (by decide) rfl (Nat.le_of_ble_eq_true rfl) ?_
  intro p e s m below meth c A ls E
  obtain ⟨C, hr, hlocks, hnm, hA, hP, hK, hD, hN, hl⟩ := E
  obtain ⟨hx, hb, hml, hown, hts⟩ := id C
  have hS : va_S A s.heap s.heap [] := va_S.rf
  have hl : lv_has ls 1 [(0, .ref q_G)] := hl
  have inX10 : ∀ w ∈ u_ws RX10 TX10 9, w ∈ wsX10_all := by decide +kernel
  have E_X2_oddsOfAll : Cond.selects RX2 yX2_oddsOfAll yX2_oddsOfAll ∈ wsX10_all := by decide +kernel
  have I_X2 : Cond.initialized RX2 ∈ wsX10_all := by decide +kernel
  have L35 : Cond.fieldLink RX10 35 "GuessFerry" "now" "LGuessFerry$Standing;" ∈ wsX10_all := by decide +kernel
  have L63 : Cond.fieldLink RX10 63 "GuessFerry" "outlook" "LGuessFerry$Outlook;" ∈ wsX10_all := by decide +kernel
  have N_X2_oddsOfAll : Cond.instanceMethod yX2_oddsOfAll ∈ wsX10_all := by decide +kernel
  refine lv_aload_n hx hb dX10_all_0 rfl (lv_at hl 0 rfl) ?_
  refine q_get (v := .ref q_outlook) C inX10 hK hP 0 rfl rfl 7 (by decide) rfl L63 rfl dX10_all_1 ?_
  refine lv_aload_n hx hb dX10_all_4 rfl (lv_at hl 0 rfl) ?_
  refine q_get (v := .ref q_now) C inX10 hK hP 0 rfl rfl 3 (by decide) rfl L35 rfl dX10_all_5 ?_
  refine lv_iconst (v := (-1)) hx hb dX10_all_8 (by decide) ?_
  refine q_goi (wr := [(q_G, .inr (10, [u_G_0, u_G_1, u_G_2, .ref q_now, u_G_4, u_G_5, u_G_6, .ref q_outlook, u_G_8]))]) (va_runVN (As := [.ref q_now, .int (-1)]) (rest := []) C (k_X2_oddsOfAll l dC dI cB cI cJ cZ cS (q_sound) (q_now) (q_outlook) (u_outlook_1) (u_outlook_2) (u_outlook_3) (u_outlook_4) (u_outlook_5) (u_sound_0) (u_sound_1) (u_sound_2) (u_sound_3) (u_sound_4) (u_sound_5) (u_sound_7) (u_sound_8) (u_sound_9) _) ⟨va_cnB 2 hts gX10_all_X2_oddsOfAll_n203 rfl rfl rfl (hN _ nwM_X10_203 rfl) (hts _ I_X2) (by decide +kernel) ⟨Nat.le_of_ble_eq_true rfl, Nat.le_of_ble_eq_true rfl⟩, hts _ N_X2_oddsOfAll, hts _ E_X2_oddsOfAll⟩ (q_preV hK hP (ci := 2) (q0 := 1) rfl rfl rfl (q_pre hN hK hP hD [1, 2] rfl (by decide))) rfl rfl hl.1 rfl (lv_room (Nat.le_of_ble_eq_true rfl)) dX10_all_9 ⟨Nat.le_of_ble_eq_true rfl, Nat.le_of_ble_eq_true rfl⟩) hP hD hS hA [1, 2] [0] rfl rfl (by decide) (by decide) (fun r w1 H locs hw hP hD hS => ?_)
  obtain ⟨rfl, rfl⟩ := hw
  have hP : va_P (dC, dI) vwCl [(q_G, .inr (10, [u_G_0, u_G_1, u_G_2, .ref q_now, u_G_4, u_G_5, u_G_6, .ref q_outlook, u_G_8])), (q_outlook, .inr (2, [.ref q_sound, u_outlook_1, u_outlook_2, u_outlook_3, u_outlook_4, u_outlook_5])), (q_sound, .inr (5, [u_sound_0, u_sound_1, u_sound_2, u_sound_3, u_sound_4, u_sound_5, .int 0, u_sound_7, u_sound_8, u_sound_9]))] H := hP.sub [0, 1, 2] rfl
  have hD : va_D A [(q_G, .inr (10, [u_G_0, u_G_1, u_G_2, .ref q_now, u_G_4, u_G_5, u_G_6, .ref q_outlook, u_G_8])), (q_outlook, .inr (2, [.ref q_sound, u_outlook_1, u_outlook_2, u_outlook_3, u_outlook_4, u_outlook_5])), (q_sound, .inr (5, [u_sound_0, u_sound_1, u_sound_2, u_sound_3, u_sound_4, u_sound_5, .int 0, u_sound_7, u_sound_8, u_sound_9]))] := hD.sub [0, 1, 2] (by decide) rfl
  exact q_iret C hr hlocks hK hP hD hS (Nat.le_of_ble_eq_true rfl) (Nat.le_of_ble_eq_true rfl) dX10_all_12 (rfl)

set_option maxHeartbeats 4000000 in
set_option maxRecDepth 100000 in
theorem k_X10_likeliest (l : Launch) (dC : Nat → ClassId) (dI : Nat → Nat → Nat) (cB cI cJ cZ cS : ClassId) (q_G : Nat) (q_sound : Nat) (q_now : Nat) (q_outlook : Nat) (u_G_0 : Value) (u_G_1 : Value) (u_G_2 : Value) (u_G_4 : Value) (u_G_5 : Value) (u_G_6 : Value) (u_G_8 : Value) (u_outlook_1 : Value) (u_outlook_2 : Value) (u_outlook_3 : Value) (u_outlook_4 : Value) (u_outlook_5 : Value) (u_sound_0 : Value) (u_sound_1 : Value) (u_sound_2 : Value) (u_sound_3 : Value) (u_sound_4 : Value) (u_sound_5 : Value) (u_sound_7 : Value) (u_sound_8 : Value) (u_sound_9 : Value) : CI l yX10_likeliest wsX10_likeliest ({ frames := 1, cells := 0, slots := 0, locals := 25 }) (dC, dI) (tysA cB cI cJ cZ cS) [(q_G, .inr (10, [u_G_0, u_G_1, u_G_2, .ref q_now, u_G_4, u_G_5, u_G_6, .ref q_outlook, u_G_8])), (q_outlook, .inr (2, [.ref q_sound, u_outlook_1, u_outlook_2, u_outlook_3, u_outlook_4, u_outlook_5])), (q_sound, .inr (5, [u_sound_0, u_sound_1, u_sound_2, u_sound_3, u_sound_4, u_sound_5, .int 0, u_sound_7, u_sound_8, u_sound_9]))] [.ref q_G] (fun r _ => r = 0) := by
  refine open_I (cc := cX10_likeliest) (maxL := 1) (ret := (some .int)) (by decide) rfl (Nat.le_of_ble_eq_true rfl) ?_
  intro p e s m below meth c A ls E
  obtain ⟨C, hr, hlocks, hnm, hA, hP, hK, hD, hN, hl⟩ := E
  obtain ⟨hx, hb, hml, hown, hts⟩ := id C
  have hS : va_S A s.heap s.heap [] := va_S.rf
  have hl : lv_has ls 1 [(0, .ref q_G)] := hl
  have inX10 : ∀ w ∈ u_ws RX10 TX10 9, w ∈ wsX10_likeliest := by decide +kernel
  have E_X2_bestGuess : Cond.selects RX2 yX2_bestGuess yX2_bestGuess ∈ wsX10_likeliest := by decide +kernel
  have I_X2 : Cond.initialized RX2 ∈ wsX10_likeliest := by decide +kernel
  have L35 : Cond.fieldLink RX10 35 "GuessFerry" "now" "LGuessFerry$Standing;" ∈ wsX10_likeliest := by decide +kernel
  have L63 : Cond.fieldLink RX10 63 "GuessFerry" "outlook" "LGuessFerry$Outlook;" ∈ wsX10_likeliest := by decide +kernel
  have N_X2_bestGuess : Cond.instanceMethod yX2_bestGuess ∈ wsX10_likeliest := by decide +kernel
  refine lv_aload_n hx hb dX10_likeliest_0 rfl (lv_at hl 0 rfl) ?_
  refine q_get (v := .ref q_outlook) C inX10 hK hP 0 rfl rfl 7 (by decide) rfl L63 rfl dX10_likeliest_1 ?_
  refine lv_aload_n hx hb dX10_likeliest_4 rfl (lv_at hl 0 rfl) ?_
  refine q_get (v := .ref q_now) C inX10 hK hP 0 rfl rfl 3 (by decide) rfl L35 rfl dX10_likeliest_5 ?_
  refine lv_iconst (v := (-1)) hx hb dX10_likeliest_8 (by decide) ?_
  refine q_goi (wr := [(q_G, .inr (10, [u_G_0, u_G_1, u_G_2, .ref q_now, u_G_4, u_G_5, u_G_6, .ref q_outlook, u_G_8]))]) (va_runVN (As := [.ref q_now, .int (-1)]) (rest := []) C (k_X2_bestGuess l dC dI cB cI cJ cZ cS (q_sound) (q_now) (q_outlook) (u_outlook_1) (u_outlook_2) (u_outlook_3) (u_outlook_4) (u_outlook_5) (u_sound_0) (u_sound_1) (u_sound_2) (u_sound_3) (u_sound_4) (u_sound_5) (u_sound_7) (u_sound_8) (u_sound_9) _) ⟨va_cnB 2 hts gX10_likeliest_X2_bestGuess_n206 rfl rfl rfl (hN _ nwM_X10_206 rfl) (hts _ I_X2) (by decide +kernel) ⟨Nat.le_of_ble_eq_true rfl, Nat.le_of_ble_eq_true rfl⟩, hts _ N_X2_bestGuess, hts _ E_X2_bestGuess⟩ (q_preV hK hP (ci := 2) (q0 := 1) rfl rfl rfl (q_pre hN hK hP hD [1, 2] rfl (by decide))) rfl rfl hl.1 rfl (lv_room (Nat.le_of_ble_eq_true rfl)) dX10_likeliest_9 ⟨Nat.le_of_ble_eq_true rfl, Nat.le_of_ble_eq_true rfl⟩) hP hD hS hA [1, 2] [0] rfl rfl (by decide) (by decide) (fun r w1 H locs hw hP hD hS => ?_)
  obtain ⟨rfl, rfl⟩ := hw
  have hP : va_P (dC, dI) vwCl [(q_G, .inr (10, [u_G_0, u_G_1, u_G_2, .ref q_now, u_G_4, u_G_5, u_G_6, .ref q_outlook, u_G_8])), (q_outlook, .inr (2, [.ref q_sound, u_outlook_1, u_outlook_2, u_outlook_3, u_outlook_4, u_outlook_5])), (q_sound, .inr (5, [u_sound_0, u_sound_1, u_sound_2, u_sound_3, u_sound_4, u_sound_5, .int 0, u_sound_7, u_sound_8, u_sound_9]))] H := hP.sub [0, 1, 2] rfl
  have hD : va_D A [(q_G, .inr (10, [u_G_0, u_G_1, u_G_2, .ref q_now, u_G_4, u_G_5, u_G_6, .ref q_outlook, u_G_8])), (q_outlook, .inr (2, [.ref q_sound, u_outlook_1, u_outlook_2, u_outlook_3, u_outlook_4, u_outlook_5])), (q_sound, .inr (5, [u_sound_0, u_sound_1, u_sound_2, u_sound_3, u_sound_4, u_sound_5, .int 0, u_sound_7, u_sound_8, u_sound_9]))] := hD.sub [0, 1, 2] (by decide) rfl
  exact q_iret C hr hlocks hK hP hD hS (Nat.le_of_ble_eq_true rfl) (Nat.le_of_ble_eq_true rfl) dX10_likeliest_12 (rfl)

set_option maxHeartbeats 4000000 in
set_option maxRecDepth 100000 in
theorem k_X10_enough (l : Launch) (dC : Nat → ClassId) (dI : Nat → Nat → Nat) (cB cI cJ cZ cS : ClassId) (q_G : Nat) (q_sound : Nat) (q_now : Nat) (q_outlook : Nat) (u_G_0 : Value) (u_G_1 : Value) (u_G_2 : Value) (u_G_4 : Value) (u_G_5 : Value) (u_G_6 : Value) (u_G_8 : Value) (u_outlook_1 : Value) (u_outlook_2 : Value) (u_outlook_3 : Value) (u_outlook_4 : Value) (u_outlook_5 : Value) (u_sound_0 : Value) (u_sound_1 : Value) (u_sound_2 : Value) (u_sound_3 : Value) (u_sound_4 : Value) (u_sound_5 : Value) (u_sound_7 : Value) (u_sound_8 : Value) (u_sound_9 : Value) : CI l yX10_enough wsX10_enough ({ frames := 1, cells := 0, slots := 0, locals := 23 }) (dC, dI) (tysA cB cI cJ cZ cS) [(q_G, .inr (10, [u_G_0, u_G_1, u_G_2, .ref q_now, u_G_4, u_G_5, u_G_6, .ref q_outlook, u_G_8])), (q_outlook, .inr (2, [.ref q_sound, u_outlook_1, u_outlook_2, u_outlook_3, u_outlook_4, u_outlook_5])), (q_sound, .inr (5, [u_sound_0, u_sound_1, u_sound_2, u_sound_3, u_sound_4, u_sound_5, .int 0, u_sound_7, u_sound_8, u_sound_9]))] [.ref q_G] (fun r _ => r = 1) := by
  refine open_I (cc := cX10_enough) (maxL := 1) (ret := (some .int)) (by decide) rfl (Nat.le_of_ble_eq_true rfl) ?_
  intro p e s m below meth c A ls E
  obtain ⟨C, hr, hlocks, hnm, hA, hP, hK, hD, hN, hl⟩ := E
  obtain ⟨hx, hb, hml, hown, hts⟩ := id C
  have hS : va_S A s.heap s.heap [] := va_S.rf
  have hl : lv_has ls 1 [(0, .ref q_G)] := hl
  have inX10 : ∀ w ∈ u_ws RX10 TX10 9, w ∈ wsX10_enough := by decide +kernel
  have E_X2_caseCount : Cond.selects RX2 yX2_caseCount yX2_caseCount ∈ wsX10_enough := by decide +kernel
  have E_X2_goesAtMost : Cond.selects RX2 yX2_goesAtMost yX2_goesAtMost ∈ wsX10_enough := by decide +kernel
  have I_X2 : Cond.initialized RX2 ∈ wsX10_enough := by decide +kernel
  have L35 : Cond.fieldLink RX10 35 "GuessFerry" "now" "LGuessFerry$Standing;" ∈ wsX10_enough := by decide +kernel
  have L63 : Cond.fieldLink RX10 63 "GuessFerry" "outlook" "LGuessFerry$Outlook;" ∈ wsX10_enough := by decide +kernel
  have N_X2_caseCount : Cond.instanceMethod yX2_caseCount ∈ wsX10_enough := by decide +kernel
  have N_X2_goesAtMost : Cond.instanceMethod yX2_goesAtMost ∈ wsX10_enough := by decide +kernel
  refine lv_aload_n hx hb dX10_enough_0 rfl (lv_at hl 0 rfl) ?_
  refine q_get (v := .ref q_outlook) C inX10 hK hP 0 rfl rfl 7 (by decide) rfl L63 rfl dX10_enough_1 ?_
  refine lv_aload_n hx hb dX10_enough_4 rfl (lv_at hl 0 rfl) ?_
  refine q_get (v := .ref q_now) C inX10 hK hP 0 rfl rfl 3 (by decide) rfl L35 rfl dX10_enough_5 ?_
  refine q_goi (wr := [(q_G, .inr (10, [u_G_0, u_G_1, u_G_2, .ref q_now, u_G_4, u_G_5, u_G_6, .ref q_outlook, u_G_8]))]) (va_runVN (As := [.ref q_now]) (rest := []) C (k_X2_caseCount l dC dI cB cI cJ cZ cS (q_sound) (q_now) (q_outlook) (u_outlook_1) (u_outlook_2) (u_outlook_3) (u_outlook_4) (u_outlook_5) (u_sound_0) (u_sound_1) (u_sound_2) (u_sound_3) (u_sound_4) (u_sound_5) (u_sound_7) (u_sound_8) (u_sound_9) _) ⟨va_cnB 1 hts gX10_enough_X2_caseCount_n196 rfl rfl rfl (hN _ nwM_X10_196 rfl) (hts _ I_X2) (by decide +kernel) ⟨Nat.le_of_ble_eq_true rfl, Nat.le_of_ble_eq_true rfl⟩, hts _ N_X2_caseCount, hts _ E_X2_caseCount⟩ (q_preV hK hP (ci := 2) (q0 := 1) rfl rfl rfl (q_pre hN hK hP hD [1, 2] rfl (by decide))) rfl rfl hl.1 rfl (lv_room (Nat.le_of_ble_eq_true rfl)) dX10_enough_8 ⟨Nat.le_of_ble_eq_true rfl, Nat.le_of_ble_eq_true rfl⟩) hP hD hS hA [1, 2] [0] rfl rfl (by decide) (by decide) (fun r w1 H locs hw hP hD hS => ?_)
  obtain ⟨rfl, rfl⟩ := hw
  have hP : va_P (dC, dI) vwCl [(q_G, .inr (10, [u_G_0, u_G_1, u_G_2, .ref q_now, u_G_4, u_G_5, u_G_6, .ref q_outlook, u_G_8])), (q_outlook, .inr (2, [.ref q_sound, u_outlook_1, u_outlook_2, u_outlook_3, u_outlook_4, u_outlook_5])), (q_sound, .inr (5, [u_sound_0, u_sound_1, u_sound_2, u_sound_3, u_sound_4, u_sound_5, .int 0, u_sound_7, u_sound_8, u_sound_9]))] H := hP.sub [0, 1, 2] rfl
  have hD : va_D A [(q_G, .inr (10, [u_G_0, u_G_1, u_G_2, .ref q_now, u_G_4, u_G_5, u_G_6, .ref q_outlook, u_G_8])), (q_outlook, .inr (2, [.ref q_sound, u_outlook_1, u_outlook_2, u_outlook_3, u_outlook_4, u_outlook_5])), (q_sound, .inr (5, [u_sound_0, u_sound_1, u_sound_2, u_sound_3, u_sound_4, u_sound_5, .int 0, u_sound_7, u_sound_8, u_sound_9]))] := hD.sub [0, 1, 2] (by decide) rfl
  refine lv_if_ne (tgt := 19) hx hb dX10_enough_11 (by decide) (fun _ => ?_) (fun h => absurd h (by decide +kernel))
  refine lv_aload_n hx hb dX10_enough_19 rfl (lv_at hl 0 rfl) ?_
  refine q_get (v := .ref q_outlook) C inX10 hK hP 0 rfl rfl 7 (by decide) rfl L63 rfl dX10_enough_20 ?_
  refine lv_aload_n hx hb dX10_enough_23 rfl (lv_at hl 0 rfl) ?_
  refine q_get (v := .ref q_now) C inX10 hK hP 0 rfl rfl 3 (by decide) rfl L35 rfl dX10_enough_24 ?_
  refine q_goi (wr := [(q_G, .inr (10, [u_G_0, u_G_1, u_G_2, .ref q_now, u_G_4, u_G_5, u_G_6, .ref q_outlook, u_G_8]))]) (va_runVN (As := [.ref q_now]) (rest := []) C (k_X2_goesAtMost l dC dI cB cI cJ cZ cS (q_sound) (q_now) (q_outlook) (u_outlook_1) (u_outlook_2) (u_outlook_3) (u_outlook_4) (u_outlook_5) (u_sound_0) (u_sound_1) (u_sound_2) (u_sound_3) (u_sound_4) (u_sound_5) (u_sound_7) (u_sound_8) (u_sound_9) _) ⟨va_cnB 1 hts gX10_enough_X2_goesAtMost_n212 rfl rfl rfl (hN _ nwM_X10_212 rfl) (hts _ I_X2) (by decide +kernel) ⟨Nat.le_of_ble_eq_true rfl, Nat.le_of_ble_eq_true rfl⟩, hts _ N_X2_goesAtMost, hts _ E_X2_goesAtMost⟩ (q_preV hK hP (ci := 2) (q0 := 1) rfl rfl rfl (q_pre hN hK hP hD [1, 2] rfl (by decide))) rfl rfl hl.1 rfl (lv_room (Nat.le_of_ble_eq_true rfl)) dX10_enough_27 ⟨Nat.le_of_ble_eq_true rfl, Nat.le_of_ble_eq_true rfl⟩) hP hD hS hA [1, 2] [0] rfl rfl (by decide) (by decide) (fun r w1 H locs hw hP hD hS => ?_)
  obtain ⟨rfl, rfl⟩ := hw
  have hP : va_P (dC, dI) vwCl [(q_G, .inr (10, [u_G_0, u_G_1, u_G_2, .ref q_now, u_G_4, u_G_5, u_G_6, .ref q_outlook, u_G_8])), (q_outlook, .inr (2, [.ref q_sound, u_outlook_1, u_outlook_2, u_outlook_3, u_outlook_4, u_outlook_5])), (q_sound, .inr (5, [u_sound_0, u_sound_1, u_sound_2, u_sound_3, u_sound_4, u_sound_5, .int 0, u_sound_7, u_sound_8, u_sound_9]))] H := hP.sub [0, 1, 2] rfl
  have hD : va_D A [(q_G, .inr (10, [u_G_0, u_G_1, u_G_2, .ref q_now, u_G_4, u_G_5, u_G_6, .ref q_outlook, u_G_8])), (q_outlook, .inr (2, [.ref q_sound, u_outlook_1, u_outlook_2, u_outlook_3, u_outlook_4, u_outlook_5])), (q_sound, .inr (5, [u_sound_0, u_sound_1, u_sound_2, u_sound_3, u_sound_4, u_sound_5, .int 0, u_sound_7, u_sound_8, u_sound_9]))] := hD.sub [0, 1, 2] (by decide) rfl
  exact q_iret C hr hlocks hK hP hD hS (Nat.le_of_ble_eq_true rfl) (Nat.le_of_ble_eq_true rfl) dX10_enough_30 (rfl)

set_option maxHeartbeats 4000000 in
set_option maxRecDepth 100000 in
theorem k_X10_bears (l : Launch) (dC : Nat → ClassId) (dI : Nat → Nat → Nat) (cB cI cJ cZ cS : ClassId) (q_G : Nat) (q_sound : Nat) (u_G_0 : Value) (u_G_2 : Value) (u_G_3 : Value) (u_G_4 : Value) (u_G_5 : Value) (u_G_6 : Value) (u_G_7 : Value) (u_G_8 : Value) (u_sound_0 : Value) (u_sound_1 : Value) (u_sound_2 : Value) (u_sound_3 : Value) (u_sound_4 : Value) (u_sound_5 : Value) (u_sound_6 : Value) (u_sound_8 : Value) (u_sound_9 : Value) (x1 : Int32) (x2 : Int32) : CI l yX10_bears wsX10_bears ({ frames := 1, cells := 0, slots := 0, locals := 21 }) (dC, dI) (tysA cB cI cJ cZ cS) [(q_G, .inr (10, [u_G_0, .ref q_sound, u_G_2, u_G_3, u_G_4, u_G_5, u_G_6, u_G_7, u_G_8])), (q_sound, .inr (5, [u_sound_0, u_sound_1, u_sound_2, u_sound_3, u_sound_4, u_sound_5, u_sound_6, .int 0, u_sound_8, u_sound_9]))] [.ref q_G, .int x1, .int x2] (fun r _ => r = (-1)) := by
  refine open_I (cc := cX10_bears) (maxL := 3) (ret := (some .int)) (by decide) rfl (Nat.le_of_ble_eq_true rfl) ?_
  intro p e s m below meth c A ls E
  obtain ⟨C, hr, hlocks, hnm, hA, hP, hK, hD, hN, hl⟩ := E
  obtain ⟨hx, hb, hml, hown, hts⟩ := id C
  have hS : va_S A s.heap s.heap [] := va_S.rf
  have hl : lv_has ls 3 [(0, .ref q_G), (1, .int x1), (2, .int x2)] := hl
  have inX10 : ∀ w ∈ u_ws RX10 TX10 9, w ∈ wsX10_bears := by decide +kernel
  have E_X5_hasParty : Cond.selects RX5 yX5_hasParty yX5_hasParty ∈ wsX10_bears := by decide +kernel
  have I_X5 : Cond.initialized RX5 ∈ wsX10_bears := by decide +kernel
  have L19 : Cond.fieldLink RX10 19 "GuessFerry" "sound" "LGuessFerry$Sound;" ∈ wsX10_bears := by decide +kernel
  have N_X5_hasParty : Cond.instanceMethod yX5_hasParty ∈ wsX10_bears := by decide +kernel
  refine lv_aload_n hx hb dX10_bears_0 rfl (lv_at hl 0 rfl) ?_
  refine q_get (v := .ref q_sound) C inX10 hK hP 0 rfl rfl 1 (by decide) rfl L19 rfl dX10_bears_1 ?_
  refine lv_iload_n hx hb dX10_bears_4 rfl (lv_at hl 1 rfl) ?_
  refine q_goi (wr := [(q_G, .inr (10, [u_G_0, .ref q_sound, u_G_2, u_G_3, u_G_4, u_G_5, u_G_6, u_G_7, u_G_8]))]) (va_runVN (As := [.int x1]) (rest := []) C (k_X5_hasParty l dC dI cB cI cJ cZ cS (q_sound) (u_sound_0) (u_sound_1) (u_sound_2) (u_sound_3) (u_sound_4) (u_sound_5) (u_sound_6) (u_sound_8) (u_sound_9) x1 _) ⟨va_cnB 1 hts gX10_bears_X5_hasParty_n138 rfl rfl rfl (hN _ nwM_X10_138 rfl) (hts _ I_X5) (by decide +kernel) ⟨Nat.le_of_ble_eq_true rfl, Nat.le_of_ble_eq_true rfl⟩, hts _ N_X5_hasParty, hts _ E_X5_hasParty⟩ (q_preV hK hP (ci := 5) (q0 := 1) rfl rfl rfl (q_pre hN hK hP hD [1] rfl (by decide))) rfl rfl hl.1 rfl (lv_room (Nat.le_of_ble_eq_true rfl)) dX10_bears_5 ⟨Nat.le_of_ble_eq_true rfl, Nat.le_of_ble_eq_true rfl⟩) hP hD hS hA [1] [0] rfl rfl (by decide) (by decide) (fun r w1 H locs hw hP hD hS => ?_)
  obtain ⟨rfl, rfl⟩ := hw
  have hP : va_P (dC, dI) vwCl [(q_G, .inr (10, [u_G_0, .ref q_sound, u_G_2, u_G_3, u_G_4, u_G_5, u_G_6, u_G_7, u_G_8])), (q_sound, .inr (5, [u_sound_0, u_sound_1, u_sound_2, u_sound_3, u_sound_4, u_sound_5, u_sound_6, .int 0, u_sound_8, u_sound_9]))] H := hP.sub [0, 1] rfl
  have hD : va_D A [(q_G, .inr (10, [u_G_0, .ref q_sound, u_G_2, u_G_3, u_G_4, u_G_5, u_G_6, u_G_7, u_G_8])), (q_sound, .inr (5, [u_sound_0, u_sound_1, u_sound_2, u_sound_3, u_sound_4, u_sound_5, u_sound_6, .int 0, u_sound_8, u_sound_9]))] := hD.sub [0, 1] (by decide) rfl
  refine lv_if_eq (tgt := 22) hx hb dX10_bears_8 (by decide) (fun _ => ?_) (fun h => absurd (by decide +kernel) h)
  refine lv_iconst (v := (-1)) hx hb dX10_bears_22 (by decide) ?_
  exact q_iret C hr hlocks hK hP hD hS (Nat.le_of_ble_eq_true rfl) (Nat.le_of_ble_eq_true rfl) dX10_bears_23 (rfl)

set_option maxHeartbeats 4000000 in
set_option maxRecDepth 100000 in
theorem k_X10_safest (l : Launch) (dC : Nat → ClassId) (dI : Nat → Nat → Nat) (cB cI cJ cZ cS : ClassId) (q_G : Nat) (q_sound : Nat) (u_G_0 : Value) (u_G_2 : Value) (u_G_3 : Value) (u_G_4 : Value) (u_G_5 : Value) (u_G_6 : Value) (u_G_7 : Value) (u_G_8 : Value) (u_sound_0 : Value) (u_sound_1 : Value) (u_sound_2 : Value) (u_sound_3 : Value) (u_sound_4 : Value) (u_sound_5 : Value) (u_sound_6 : Value) (u_sound_8 : Value) (u_sound_9 : Value) (x1 : Int32) : CI l yX10_safest wsX10_safest ({ frames := 1, cells := 0, slots := 0, locals := 21 }) (dC, dI) (tysA cB cI cJ cZ cS) [(q_G, .inr (10, [u_G_0, .ref q_sound, u_G_2, u_G_3, u_G_4, u_G_5, u_G_6, u_G_7, u_G_8])), (q_sound, .inr (5, [u_sound_0, u_sound_1, u_sound_2, u_sound_3, u_sound_4, u_sound_5, u_sound_6, .int 0, u_sound_8, u_sound_9]))] [.ref q_G, .int x1] (fun r _ => r = (-1)) := by
  refine open_I (cc := cX10_safest) (maxL := 2) (ret := (some .int)) (by decide) rfl (Nat.le_of_ble_eq_true rfl) ?_
  intro p e s m below meth c A ls E
  obtain ⟨C, hr, hlocks, hnm, hA, hP, hK, hD, hN, hl⟩ := E
  obtain ⟨hx, hb, hml, hown, hts⟩ := id C
  have hS : va_S A s.heap s.heap [] := va_S.rf
  have hl : lv_has ls 2 [(0, .ref q_G), (1, .int x1)] := hl
  have inX10 : ∀ w ∈ u_ws RX10 TX10 9, w ∈ wsX10_safest := by decide +kernel
  have E_X5_hasParty : Cond.selects RX5 yX5_hasParty yX5_hasParty ∈ wsX10_safest := by decide +kernel
  have I_X5 : Cond.initialized RX5 ∈ wsX10_safest := by decide +kernel
  have L19 : Cond.fieldLink RX10 19 "GuessFerry" "sound" "LGuessFerry$Sound;" ∈ wsX10_safest := by decide +kernel
  have N_X5_hasParty : Cond.instanceMethod yX5_hasParty ∈ wsX10_safest := by decide +kernel
  refine lv_aload_n hx hb dX10_safest_0 rfl (lv_at hl 0 rfl) ?_
  refine q_get (v := .ref q_sound) C inX10 hK hP 0 rfl rfl 1 (by decide) rfl L19 rfl dX10_safest_1 ?_
  refine lv_iload_n hx hb dX10_safest_4 rfl (lv_at hl 1 rfl) ?_
  refine q_goi (wr := [(q_G, .inr (10, [u_G_0, .ref q_sound, u_G_2, u_G_3, u_G_4, u_G_5, u_G_6, u_G_7, u_G_8]))]) (va_runVN (As := [.int x1]) (rest := []) C (k_X5_hasParty l dC dI cB cI cJ cZ cS (q_sound) (u_sound_0) (u_sound_1) (u_sound_2) (u_sound_3) (u_sound_4) (u_sound_5) (u_sound_6) (u_sound_8) (u_sound_9) x1 _) ⟨va_cnB 1 hts gX10_safest_X5_hasParty_n138 rfl rfl rfl (hN _ nwM_X10_138 rfl) (hts _ I_X5) (by decide +kernel) ⟨Nat.le_of_ble_eq_true rfl, Nat.le_of_ble_eq_true rfl⟩, hts _ N_X5_hasParty, hts _ E_X5_hasParty⟩ (q_preV hK hP (ci := 5) (q0 := 1) rfl rfl rfl (q_pre hN hK hP hD [1] rfl (by decide))) rfl rfl hl.1 rfl (lv_room (Nat.le_of_ble_eq_true rfl)) dX10_safest_5 ⟨Nat.le_of_ble_eq_true rfl, Nat.le_of_ble_eq_true rfl⟩) hP hD hS hA [1] [0] rfl rfl (by decide) (by decide) (fun r w1 H locs hw hP hD hS => ?_)
  obtain ⟨rfl, rfl⟩ := hw
  have hP : va_P (dC, dI) vwCl [(q_G, .inr (10, [u_G_0, .ref q_sound, u_G_2, u_G_3, u_G_4, u_G_5, u_G_6, u_G_7, u_G_8])), (q_sound, .inr (5, [u_sound_0, u_sound_1, u_sound_2, u_sound_3, u_sound_4, u_sound_5, u_sound_6, .int 0, u_sound_8, u_sound_9]))] H := hP.sub [0, 1] rfl
  have hD : va_D A [(q_G, .inr (10, [u_G_0, .ref q_sound, u_G_2, u_G_3, u_G_4, u_G_5, u_G_6, u_G_7, u_G_8])), (q_sound, .inr (5, [u_sound_0, u_sound_1, u_sound_2, u_sound_3, u_sound_4, u_sound_5, u_sound_6, .int 0, u_sound_8, u_sound_9]))] := hD.sub [0, 1] (by decide) rfl
  refine lv_if_eq (tgt := 26) hx hb dX10_safest_8 (by decide) (fun _ => ?_) (fun h => absurd (by decide +kernel) h)
  refine lv_iconst (v := (-1)) hx hb dX10_safest_26 (by decide) ?_
  exact q_iret C hr hlocks hK hP hD hS (Nat.le_of_ble_eq_true rfl) (Nat.le_of_ble_eq_true rfl) dX10_safest_27 (rfl)

set_option maxHeartbeats 4000000 in
set_option maxRecDepth 100000 in
theorem k_X10_chance (l : Launch) (dC : Nat → ClassId) (dI : Nat → Nat → Nat) (cB cI cJ cZ cS : ClassId) (q_G : Nat) (q_sound : Nat) (q_now : Nat) (q_outlook : Nat) (u_G_0 : Value) (u_G_2 : Value) (u_G_4 : Value) (u_G_5 : Value) (u_G_6 : Value) (u_G_8 : Value) (u_sound_0 : Value) (u_sound_1 : Value) (u_sound_2 : Value) (u_sound_3 : Value) (u_sound_4 : Value) (u_sound_5 : Value) (u_sound_7 : Value) (u_sound_9 : Value) (u_outlook_1 : Value) (u_outlook_2 : Value) (u_outlook_3 : Value) (u_outlook_4 : Value) (u_outlook_5 : Value) (x1 : Int32) : CI l yX10_chance wsX10_chance ({ frames := 1, cells := 0, slots := 0, locals := 24 }) (dC, dI) (tysA cB cI cJ cZ cS) [(q_G, .inr (10, [u_G_0, .ref q_sound, u_G_2, .ref q_now, u_G_4, u_G_5, u_G_6, .ref q_outlook, u_G_8])), (q_sound, .inr (5, [u_sound_0, u_sound_1, u_sound_2, u_sound_3, u_sound_4, u_sound_5, .int 0, u_sound_7, .int 1, u_sound_9])), (q_outlook, .inr (2, [.ref q_sound, u_outlook_1, u_outlook_2, u_outlook_3, u_outlook_4, u_outlook_5]))] [.ref q_G, .int x1] (fun r _ => r = (fr_one 1 x1)) := by
  refine open_I (cc := cX10_chance) (maxL := 2) (ret := (some .int)) (by decide) rfl (Nat.le_of_ble_eq_true rfl) ?_
  intro p e s m below meth c A ls E
  obtain ⟨C, hr, hlocks, hnm, hA, hP, hK, hD, hN, hl⟩ := E
  obtain ⟨hx, hb, hml, hown, hts⟩ := id C
  have hS : va_S A s.heap s.heap [] := va_S.rf
  have hl : lv_has ls 2 [(0, .ref q_G), (1, .int x1)] := hl
  have inX10 : ∀ w ∈ u_ws RX10 TX10 9, w ∈ wsX10_chance := by decide +kernel
  have E_X2_oddsOf : Cond.selects RX2 yX2_oddsOf yX2_oddsOf ∈ wsX10_chance := by decide +kernel
  have E_X5_hasGuess : Cond.selects RX5 yX5_hasGuess yX5_hasGuess ∈ wsX10_chance := by decide +kernel
  have I_X2 : Cond.initialized RX2 ∈ wsX10_chance := by decide +kernel
  have I_X5 : Cond.initialized RX5 ∈ wsX10_chance := by decide +kernel
  have L19 : Cond.fieldLink RX10 19 "GuessFerry" "sound" "LGuessFerry$Sound;" ∈ wsX10_chance := by decide +kernel
  have L35 : Cond.fieldLink RX10 35 "GuessFerry" "now" "LGuessFerry$Standing;" ∈ wsX10_chance := by decide +kernel
  have L63 : Cond.fieldLink RX10 63 "GuessFerry" "outlook" "LGuessFerry$Outlook;" ∈ wsX10_chance := by decide +kernel
  have N_X2_oddsOf : Cond.instanceMethod yX2_oddsOf ∈ wsX10_chance := by decide +kernel
  have N_X5_hasGuess : Cond.instanceMethod yX5_hasGuess ∈ wsX10_chance := by decide +kernel
  refine lv_aload_n hx hb dX10_chance_0 rfl (lv_at hl 0 rfl) ?_
  refine q_get (v := .ref q_sound) C inX10 hK hP 0 rfl rfl 1 (by decide) rfl L19 rfl dX10_chance_1 ?_
  refine lv_iload_n hx hb dX10_chance_4 rfl (lv_at hl 1 rfl) ?_
  refine q_goi (wr := [(q_G, .inr (10, [u_G_0, .ref q_sound, u_G_2, .ref q_now, u_G_4, u_G_5, u_G_6, .ref q_outlook, u_G_8])), (q_outlook, .inr (2, [.ref q_sound, u_outlook_1, u_outlook_2, u_outlook_3, u_outlook_4, u_outlook_5]))]) (va_runVN (As := [.int x1]) (rest := []) C (k_X5_hasGuess l dC dI cB cI cJ cZ cS (q_sound) (u_sound_0) (u_sound_1) (u_sound_2) (u_sound_3) (u_sound_4) (u_sound_5) (.int 0) (u_sound_7) (u_sound_9) x1 _) ⟨va_cnB 1 hts gX10_chance_X5_hasGuess_n170 rfl rfl rfl (hN _ nwM_X10_170 rfl) (hts _ I_X5) (by decide +kernel) ⟨Nat.le_of_ble_eq_true rfl, Nat.le_of_ble_eq_true rfl⟩, hts _ N_X5_hasGuess, hts _ E_X5_hasGuess⟩ (q_preV hK hP (ci := 5) (q0 := 1) rfl rfl rfl (q_pre hN hK hP hD [1] rfl (by decide))) rfl rfl hl.1 rfl (lv_room (Nat.le_of_ble_eq_true rfl)) dX10_chance_5 ⟨Nat.le_of_ble_eq_true rfl, Nat.le_of_ble_eq_true rfl⟩) hP hD hS hA [1] [0, 2] rfl rfl (by decide) (by decide) (fun r w1 H locs hw hP hD hS => ?_)
  obtain ⟨rfl, rfl⟩ := hw
  have hP : va_P (dC, dI) vwCl [(q_G, .inr (10, [u_G_0, .ref q_sound, u_G_2, .ref q_now, u_G_4, u_G_5, u_G_6, .ref q_outlook, u_G_8])), (q_sound, .inr (5, [u_sound_0, u_sound_1, u_sound_2, u_sound_3, u_sound_4, u_sound_5, .int 0, u_sound_7, .int 1, u_sound_9])), (q_outlook, .inr (2, [.ref q_sound, u_outlook_1, u_outlook_2, u_outlook_3, u_outlook_4, u_outlook_5]))] H := hP.sub [0, 2, 1] rfl
  have hD : va_D A [(q_G, .inr (10, [u_G_0, .ref q_sound, u_G_2, .ref q_now, u_G_4, u_G_5, u_G_6, .ref q_outlook, u_G_8])), (q_sound, .inr (5, [u_sound_0, u_sound_1, u_sound_2, u_sound_3, u_sound_4, u_sound_5, .int 0, u_sound_7, .int 1, u_sound_9])), (q_outlook, .inr (2, [.ref q_sound, u_outlook_1, u_outlook_2, u_outlook_3, u_outlook_4, u_outlook_5]))] := hD.sub [0, 2, 1] (by decide) rfl
  refine lv_if_eq (tgt := 26) hx hb dX10_chance_8 (by decide) (fun c1 => ?_) (fun c1 => ?_)
  · skip
    refine lv_iconst (v := (-1)) hx hb dX10_chance_26 (by decide) ?_
    exact q_iret C hr hlocks hK hP hD hS (Nat.le_of_ble_eq_true rfl) (Nat.le_of_ble_eq_true rfl) dX10_chance_27 (by unfold fr_one; rw [if_pos c1])
  · skip
    obtain rfl : x1 = 0 := sp_in_00 c1
    refine lv_aload_n hx hb dX10_chance_11 rfl (lv_at hl 0 rfl) ?_
    refine q_get (v := .ref q_outlook) C inX10 hK hP 0 rfl rfl 7 (by decide) rfl L63 rfl dX10_chance_12 ?_
    refine lv_aload_n hx hb dX10_chance_15 rfl (lv_at hl 0 rfl) ?_
    refine q_get (v := .ref q_now) C inX10 hK hP 0 rfl rfl 3 (by decide) rfl L35 rfl dX10_chance_16 ?_
    refine lv_iload_n hx hb dX10_chance_19 rfl (lv_at hl 1 rfl) ?_
    refine q_goi (wr := [(q_G, .inr (10, [u_G_0, .ref q_sound, u_G_2, .ref q_now, u_G_4, u_G_5, u_G_6, .ref q_outlook, u_G_8]))]) (va_runVN (As := [.ref q_now, .int 0]) (rest := []) C (k_X2_oddsOf l dC dI cB cI cJ cZ cS (q_sound) (q_now) (q_outlook) (u_outlook_1) (u_outlook_2) (u_outlook_3) (u_outlook_4) (u_outlook_5) (u_sound_0) (u_sound_1) (u_sound_2) (u_sound_3) (u_sound_4) (u_sound_5) (u_sound_7) (.int 1) (u_sound_9) 0 _) ⟨va_cnB 2 hts gX10_chance_X2_oddsOf_n200 rfl rfl rfl (hN _ nwM_X10_200 rfl) (hts _ I_X2) (by decide +kernel) ⟨Nat.le_of_ble_eq_true rfl, Nat.le_of_ble_eq_true rfl⟩, hts _ N_X2_oddsOf, hts _ E_X2_oddsOf⟩ (q_preV hK hP (ci := 2) (q0 := 2) rfl rfl rfl (q_pre hN hK hP hD [2, 1] rfl (by decide))) rfl rfl hl.1 rfl (lv_room (Nat.le_of_ble_eq_true rfl)) dX10_chance_20 ⟨Nat.le_of_ble_eq_true rfl, Nat.le_of_ble_eq_true rfl⟩) hP hD hS hA [2, 1] [0] rfl rfl (by decide) (by decide) (fun r w1 H locs hw hP hD hS => ?_)
    obtain ⟨rfl, rfl⟩ := hw
    have hP : va_P (dC, dI) vwCl [(q_G, .inr (10, [u_G_0, .ref q_sound, u_G_2, .ref q_now, u_G_4, u_G_5, u_G_6, .ref q_outlook, u_G_8])), (q_sound, .inr (5, [u_sound_0, u_sound_1, u_sound_2, u_sound_3, u_sound_4, u_sound_5, .int 0, u_sound_7, .int 1, u_sound_9])), (q_outlook, .inr (2, [.ref q_sound, u_outlook_1, u_outlook_2, u_outlook_3, u_outlook_4, u_outlook_5]))] H := hP.sub [0, 2, 1] rfl
    have hD : va_D A [(q_G, .inr (10, [u_G_0, .ref q_sound, u_G_2, .ref q_now, u_G_4, u_G_5, u_G_6, .ref q_outlook, u_G_8])), (q_sound, .inr (5, [u_sound_0, u_sound_1, u_sound_2, u_sound_3, u_sound_4, u_sound_5, .int 0, u_sound_7, .int 1, u_sound_9])), (q_outlook, .inr (2, [.ref q_sound, u_outlook_1, u_outlook_2, u_outlook_3, u_outlook_4, u_outlook_5]))] := hD.sub [0, 2, 1] (by decide) rfl
    refine lv_goto (tgt := 27) hx hb dX10_chance_23 (by decide) ?_
    exact q_iret C hr hlocks hK hP hD hS (Nat.le_of_ble_eq_true rfl) (Nat.le_of_ble_eq_true rfl) dX10_chance_27 (by decide +kernel)

set_option maxHeartbeats 4000000 in
set_option maxRecDepth 100000 in
theorem k_X10_left (l : Launch) (dC : Nat → ClassId) (dI : Nat → Nat → Nat) (cB cI cJ cZ cS : ClassId) (q_G : Nat) (q_sound : Nat) (q_now : Nat) (q_outlook : Nat) (u_G_0 : Value) (u_G_2 : Value) (u_G_4 : Value) (u_G_5 : Value) (u_G_6 : Value) (u_G_8 : Value) (u_sound_0 : Value) (u_sound_1 : Value) (u_sound_2 : Value) (u_sound_3 : Value) (u_sound_4 : Value) (u_sound_5 : Value) (u_sound_7 : Value) (u_sound_9 : Value) (u_outlook_1 : Value) (u_outlook_2 : Value) (u_outlook_3 : Value) (u_outlook_4 : Value) (u_outlook_5 : Value) (x1 : Int32) : CI l yX10_left wsX10_left ({ frames := 1, cells := 0, slots := 0, locals := 26 }) (dC, dI) (tysA cB cI cJ cZ cS) [(q_G, .inr (10, [u_G_0, .ref q_sound, u_G_2, .ref q_now, u_G_4, u_G_5, u_G_6, .ref q_outlook, u_G_8])), (q_sound, .inr (5, [u_sound_0, u_sound_1, u_sound_2, u_sound_3, u_sound_4, u_sound_5, .int 0, u_sound_7, .int 1, u_sound_9])), (q_outlook, .inr (2, [.ref q_sound, u_outlook_1, u_outlook_2, u_outlook_3, u_outlook_4, u_outlook_5]))] [.ref q_G, .int x1] (fun r _ => r = (fr_one 1 x1)) := by
  refine open_I (cc := cX10_left) (maxL := 2) (ret := (some .int)) (by decide) rfl (Nat.le_of_ble_eq_true rfl) ?_
  intro p e s m below meth c A ls E
  obtain ⟨C, hr, hlocks, hnm, hA, hP, hK, hD, hN, hl⟩ := E
  obtain ⟨hx, hb, hml, hown, hts⟩ := id C
  have hS : va_S A s.heap s.heap [] := va_S.rf
  have hl : lv_has ls 2 [(0, .ref q_G), (1, .int x1)] := hl
  have inX10 : ∀ w ∈ u_ws RX10 TX10 9, w ∈ wsX10_left := by decide +kernel
  have E_X2_caseCount : Cond.selects RX2 yX2_caseCount yX2_caseCount ∈ wsX10_left := by decide +kernel
  have E_X2_leftBehind : Cond.selects RX2 yX2_leftBehind yX2_leftBehind ∈ wsX10_left := by decide +kernel
  have E_X5_hasGuess : Cond.selects RX5 yX5_hasGuess yX5_hasGuess ∈ wsX10_left := by decide +kernel
  have I_X2 : Cond.initialized RX2 ∈ wsX10_left := by decide +kernel
  have I_X5 : Cond.initialized RX5 ∈ wsX10_left := by decide +kernel
  have L19 : Cond.fieldLink RX10 19 "GuessFerry" "sound" "LGuessFerry$Sound;" ∈ wsX10_left := by decide +kernel
  have L35 : Cond.fieldLink RX10 35 "GuessFerry" "now" "LGuessFerry$Standing;" ∈ wsX10_left := by decide +kernel
  have L63 : Cond.fieldLink RX10 63 "GuessFerry" "outlook" "LGuessFerry$Outlook;" ∈ wsX10_left := by decide +kernel
  have N_X2_caseCount : Cond.instanceMethod yX2_caseCount ∈ wsX10_left := by decide +kernel
  have N_X2_leftBehind : Cond.instanceMethod yX2_leftBehind ∈ wsX10_left := by decide +kernel
  have N_X5_hasGuess : Cond.instanceMethod yX5_hasGuess ∈ wsX10_left := by decide +kernel
  refine lv_aload_n hx hb dX10_left_0 rfl (lv_at hl 0 rfl) ?_
  refine q_get (v := .ref q_sound) C inX10 hK hP 0 rfl rfl 1 (by decide) rfl L19 rfl dX10_left_1 ?_
  refine lv_iload_n hx hb dX10_left_4 rfl (lv_at hl 1 rfl) ?_
  refine q_goi (wr := [(q_G, .inr (10, [u_G_0, .ref q_sound, u_G_2, .ref q_now, u_G_4, u_G_5, u_G_6, .ref q_outlook, u_G_8])), (q_outlook, .inr (2, [.ref q_sound, u_outlook_1, u_outlook_2, u_outlook_3, u_outlook_4, u_outlook_5]))]) (va_runVN (As := [.int x1]) (rest := []) C (k_X5_hasGuess l dC dI cB cI cJ cZ cS (q_sound) (u_sound_0) (u_sound_1) (u_sound_2) (u_sound_3) (u_sound_4) (u_sound_5) (.int 0) (u_sound_7) (u_sound_9) x1 _) ⟨va_cnB 1 hts gX10_left_X5_hasGuess_n170 rfl rfl rfl (hN _ nwM_X10_170 rfl) (hts _ I_X5) (by decide +kernel) ⟨Nat.le_of_ble_eq_true rfl, Nat.le_of_ble_eq_true rfl⟩, hts _ N_X5_hasGuess, hts _ E_X5_hasGuess⟩ (q_preV hK hP (ci := 5) (q0 := 1) rfl rfl rfl (q_pre hN hK hP hD [1] rfl (by decide))) rfl rfl hl.1 rfl (lv_room (Nat.le_of_ble_eq_true rfl)) dX10_left_5 ⟨Nat.le_of_ble_eq_true rfl, Nat.le_of_ble_eq_true rfl⟩) hP hD hS hA [1] [0, 2] rfl rfl (by decide) (by decide) (fun r w1 H locs hw hP hD hS => ?_)
  obtain ⟨rfl, rfl⟩ := hw
  have hP : va_P (dC, dI) vwCl [(q_G, .inr (10, [u_G_0, .ref q_sound, u_G_2, .ref q_now, u_G_4, u_G_5, u_G_6, .ref q_outlook, u_G_8])), (q_sound, .inr (5, [u_sound_0, u_sound_1, u_sound_2, u_sound_3, u_sound_4, u_sound_5, .int 0, u_sound_7, .int 1, u_sound_9])), (q_outlook, .inr (2, [.ref q_sound, u_outlook_1, u_outlook_2, u_outlook_3, u_outlook_4, u_outlook_5]))] H := hP.sub [0, 2, 1] rfl
  have hD : va_D A [(q_G, .inr (10, [u_G_0, .ref q_sound, u_G_2, .ref q_now, u_G_4, u_G_5, u_G_6, .ref q_outlook, u_G_8])), (q_sound, .inr (5, [u_sound_0, u_sound_1, u_sound_2, u_sound_3, u_sound_4, u_sound_5, .int 0, u_sound_7, .int 1, u_sound_9])), (q_outlook, .inr (2, [.ref q_sound, u_outlook_1, u_outlook_2, u_outlook_3, u_outlook_4, u_outlook_5]))] := hD.sub [0, 2, 1] (by decide) rfl
  refine lv_if_ne (tgt := 13) hx hb dX10_left_8 (by decide) (fun c1 => ?_) (fun c1 => ?_)
  · skip
    obtain rfl : x1 = 0 := sp_in_00 c1
    refine lv_aload_n hx hb dX10_left_13 rfl (lv_at hl 0 rfl) ?_
    refine q_get (v := .ref q_outlook) C inX10 hK hP 0 rfl rfl 7 (by decide) rfl L63 rfl dX10_left_14 ?_
    refine lv_aload_n hx hb dX10_left_17 rfl (lv_at hl 0 rfl) ?_
    refine q_get (v := .ref q_now) C inX10 hK hP 0 rfl rfl 3 (by decide) rfl L35 rfl dX10_left_18 ?_
    refine q_goi (wr := [(q_G, .inr (10, [u_G_0, .ref q_sound, u_G_2, .ref q_now, u_G_4, u_G_5, u_G_6, .ref q_outlook, u_G_8]))]) (va_runVN (As := [.ref q_now]) (rest := []) C (k_X2_caseCount l dC dI cB cI cJ cZ cS (q_sound) (q_now) (q_outlook) (u_outlook_1) (u_outlook_2) (u_outlook_3) (u_outlook_4) (u_outlook_5) (u_sound_0) (u_sound_1) (u_sound_2) (u_sound_3) (u_sound_4) (u_sound_5) (u_sound_7) (.int 1) (u_sound_9) _) ⟨va_cnB 1 hts gX10_left_X2_caseCount_n196 rfl rfl rfl (hN _ nwM_X10_196 rfl) (hts _ I_X2) (by decide +kernel) ⟨Nat.le_of_ble_eq_true rfl, Nat.le_of_ble_eq_true rfl⟩, hts _ N_X2_caseCount, hts _ E_X2_caseCount⟩ (q_preV hK hP (ci := 2) (q0 := 2) rfl rfl rfl (q_pre hN hK hP hD [2, 1] rfl (by decide))) rfl rfl hl.1 rfl (lv_room (Nat.le_of_ble_eq_true rfl)) dX10_left_21 ⟨Nat.le_of_ble_eq_true rfl, Nat.le_of_ble_eq_true rfl⟩) hP hD hS hA [2, 1] [0] rfl rfl (by decide) (by decide) (fun r w1 H locs hw hP hD hS => ?_)
    obtain ⟨rfl, rfl⟩ := hw
    have hP : va_P (dC, dI) vwCl [(q_G, .inr (10, [u_G_0, .ref q_sound, u_G_2, .ref q_now, u_G_4, u_G_5, u_G_6, .ref q_outlook, u_G_8])), (q_sound, .inr (5, [u_sound_0, u_sound_1, u_sound_2, u_sound_3, u_sound_4, u_sound_5, .int 0, u_sound_7, .int 1, u_sound_9])), (q_outlook, .inr (2, [.ref q_sound, u_outlook_1, u_outlook_2, u_outlook_3, u_outlook_4, u_outlook_5]))] H := hP.sub [0, 2, 1] rfl
    have hD : va_D A [(q_G, .inr (10, [u_G_0, .ref q_sound, u_G_2, .ref q_now, u_G_4, u_G_5, u_G_6, .ref q_outlook, u_G_8])), (q_sound, .inr (5, [u_sound_0, u_sound_1, u_sound_2, u_sound_3, u_sound_4, u_sound_5, .int 0, u_sound_7, .int 1, u_sound_9])), (q_outlook, .inr (2, [.ref q_sound, u_outlook_1, u_outlook_2, u_outlook_3, u_outlook_4, u_outlook_5]))] := hD.sub [0, 2, 1] (by decide) rfl
    refine lv_if_ne (tgt := 32) hx hb dX10_left_24 (by decide) (fun _ => ?_) (fun h => absurd h (by decide +kernel))
    refine lv_aload_n hx hb dX10_left_32 rfl (lv_at hl 0 rfl) ?_
    refine q_get (v := .ref q_outlook) C inX10 hK hP 0 rfl rfl 7 (by decide) rfl L63 rfl dX10_left_33 ?_
    refine lv_aload_n hx hb dX10_left_36 rfl (lv_at hl 0 rfl) ?_
    refine q_get (v := .ref q_now) C inX10 hK hP 0 rfl rfl 3 (by decide) rfl L35 rfl dX10_left_37 ?_
    refine lv_iload_n hx hb dX10_left_40 rfl (lv_at hl 1 rfl) ?_
    refine q_goi (wr := [(q_G, .inr (10, [u_G_0, .ref q_sound, u_G_2, .ref q_now, u_G_4, u_G_5, u_G_6, .ref q_outlook, u_G_8]))]) (va_runVN (As := [.ref q_now, .int 0]) (rest := []) C (k_X2_leftBehind l dC dI cB cI cJ cZ cS (q_sound) (q_now) (q_outlook) (u_outlook_1) (u_outlook_2) (u_outlook_3) (u_outlook_4) (u_outlook_5) (u_sound_0) (u_sound_1) (u_sound_2) (u_sound_3) (u_sound_4) (u_sound_5) (u_sound_7) (.int 1) (u_sound_9) 0 _) ⟨va_cnB 2 hts gX10_left_X2_leftBehind_n215 rfl rfl rfl (hN _ nwM_X10_215 rfl) (hts _ I_X2) (by decide +kernel) ⟨Nat.le_of_ble_eq_true rfl, Nat.le_of_ble_eq_true rfl⟩, hts _ N_X2_leftBehind, hts _ E_X2_leftBehind⟩ (q_preV hK hP (ci := 2) (q0 := 2) rfl rfl rfl (q_pre hN hK hP hD [2, 1] rfl (by decide))) rfl rfl hl.1 rfl (lv_room (Nat.le_of_ble_eq_true rfl)) dX10_left_41 ⟨Nat.le_of_ble_eq_true rfl, Nat.le_of_ble_eq_true rfl⟩) hP hD hS hA [2, 1] [0] rfl rfl (by decide) (by decide) (fun r w1 H locs hw hP hD hS => ?_)
    obtain ⟨rfl, rfl⟩ := hw
    have hP : va_P (dC, dI) vwCl [(q_G, .inr (10, [u_G_0, .ref q_sound, u_G_2, .ref q_now, u_G_4, u_G_5, u_G_6, .ref q_outlook, u_G_8])), (q_sound, .inr (5, [u_sound_0, u_sound_1, u_sound_2, u_sound_3, u_sound_4, u_sound_5, .int 0, u_sound_7, .int 1, u_sound_9])), (q_outlook, .inr (2, [.ref q_sound, u_outlook_1, u_outlook_2, u_outlook_3, u_outlook_4, u_outlook_5]))] H := hP.sub [0, 2, 1] rfl
    have hD : va_D A [(q_G, .inr (10, [u_G_0, .ref q_sound, u_G_2, .ref q_now, u_G_4, u_G_5, u_G_6, .ref q_outlook, u_G_8])), (q_sound, .inr (5, [u_sound_0, u_sound_1, u_sound_2, u_sound_3, u_sound_4, u_sound_5, .int 0, u_sound_7, .int 1, u_sound_9])), (q_outlook, .inr (2, [.ref q_sound, u_outlook_1, u_outlook_2, u_outlook_3, u_outlook_4, u_outlook_5]))] := hD.sub [0, 2, 1] (by decide) rfl
    exact q_iret C hr hlocks hK hP hD hS (Nat.le_of_ble_eq_true rfl) (Nat.le_of_ble_eq_true rfl) dX10_left_44 (by decide +kernel)
  · skip
    refine lv_iconst (v := (-1)) hx hb dX10_left_11 (by decide) ?_
    exact q_iret C hr hlocks hK hP hD hS (Nat.le_of_ble_eq_true rfl) (Nat.le_of_ble_eq_true rfl) dX10_left_12 (by unfold fr_one; rw [if_pos c1])

set_option maxHeartbeats 4000000 in
set_option maxRecDepth 100000 in
theorem k_X10_sunk (l : Launch) (dC : Nat → ClassId) (dI : Nat → Nat → Nat) (cB cI cJ cZ cS : ClassId) (q_G : Nat) (q_sound : Nat) (u_G_0 : Value) (u_G_2 : Value) (u_G_3 : Value) (u_G_4 : Value) (u_G_5 : Value) (u_G_6 : Value) (u_G_7 : Value) (u_G_8 : Value) (u_sound_0 : Value) (u_sound_1 : Value) (u_sound_2 : Value) (u_sound_3 : Value) (u_sound_4 : Value) (u_sound_5 : Value) (u_sound_6 : Value) (u_sound_9 : Value) (x1 : Int32) : CI l yX10_sunk wsX10_sunk ({ frames := 1, cells := 0, slots := 0, locals := 21 }) (dC, dI) (tysA cB cI cJ cZ cS) [(q_G, .inr (10, [u_G_0, .ref q_sound, u_G_2, u_G_3, u_G_4, u_G_5, u_G_6, u_G_7, u_G_8])), (q_sound, .inr (5, [u_sound_0, u_sound_1, u_sound_2, u_sound_3, u_sound_4, u_sound_5, u_sound_6, .int 0, .int 1, u_sound_9]))] [.ref q_G, .int x1] (fun r _ => r = (fr_one 0 x1)) := by
  refine open_I (cc := cX10_sunk) (maxL := 4) (ret := (some .int)) (by decide) rfl (Nat.le_of_ble_eq_true rfl) ?_
  intro p e s m below meth c A ls E
  obtain ⟨C, hr, hlocks, hnm, hA, hP, hK, hD, hN, hl⟩ := E
  obtain ⟨hx, hb, hml, hown, hts⟩ := id C
  have hS : va_S A s.heap s.heap [] := va_S.rf
  have hl : lv_has ls 4 [(0, .ref q_G), (1, .int x1)] := hl
  have inX10 : ∀ w ∈ u_ws RX10 TX10 9, w ∈ wsX10_sunk := by decide +kernel
  have inX5 : ∀ w ∈ u_ws RX5 TX5 10, w ∈ wsX10_sunk := by decide +kernel
  have E_X5_hasGuess : Cond.selects RX5 yX5_hasGuess yX5_hasGuess ∈ wsX10_sunk := by decide +kernel
  have I_X5 : Cond.initialized RX5 ∈ wsX10_sunk := by decide +kernel
  have L19 : Cond.fieldLink RX10 19 "GuessFerry" "sound" "LGuessFerry$Sound;" ∈ wsX10_sunk := by decide +kernel
  have N_X5_hasGuess : Cond.instanceMethod yX5_hasGuess ∈ wsX10_sunk := by decide +kernel
  refine lv_aload_n hx hb dX10_sunk_0 rfl (lv_at hl 0 rfl) ?_
  refine q_get (v := .ref q_sound) C inX10 hK hP 0 rfl rfl 1 (by decide) rfl L19 rfl dX10_sunk_1 ?_
  refine lv_iload_n hx hb dX10_sunk_4 rfl (lv_at hl 1 rfl) ?_
  refine q_goi (wr := [(q_G, .inr (10, [u_G_0, .ref q_sound, u_G_2, u_G_3, u_G_4, u_G_5, u_G_6, u_G_7, u_G_8]))]) (va_runVN (As := [.int x1]) (rest := []) C (k_X5_hasGuess l dC dI cB cI cJ cZ cS (q_sound) (u_sound_0) (u_sound_1) (u_sound_2) (u_sound_3) (u_sound_4) (u_sound_5) (u_sound_6) (.int 0) (u_sound_9) x1 _) ⟨va_cnB 1 hts gX10_sunk_X5_hasGuess_n170 rfl rfl rfl (hN _ nwM_X10_170 rfl) (hts _ I_X5) (by decide +kernel) ⟨Nat.le_of_ble_eq_true rfl, Nat.le_of_ble_eq_true rfl⟩, hts _ N_X5_hasGuess, hts _ E_X5_hasGuess⟩ (q_preV hK hP (ci := 5) (q0 := 1) rfl rfl rfl (q_pre hN hK hP hD [1] rfl (by decide))) rfl rfl hl.1 rfl (lv_room (Nat.le_of_ble_eq_true rfl)) dX10_sunk_5 ⟨Nat.le_of_ble_eq_true rfl, Nat.le_of_ble_eq_true rfl⟩) hP hD hS hA [1] [0] rfl rfl (by decide) (by decide) (fun r w1 H locs hw hP hD hS => ?_)
  obtain ⟨rfl, rfl⟩ := hw
  have hP : va_P (dC, dI) vwCl [(q_G, .inr (10, [u_G_0, .ref q_sound, u_G_2, u_G_3, u_G_4, u_G_5, u_G_6, u_G_7, u_G_8])), (q_sound, .inr (5, [u_sound_0, u_sound_1, u_sound_2, u_sound_3, u_sound_4, u_sound_5, u_sound_6, .int 0, .int 1, u_sound_9]))] H := hP.sub [0, 1] rfl
  have hD : va_D A [(q_G, .inr (10, [u_G_0, .ref q_sound, u_G_2, u_G_3, u_G_4, u_G_5, u_G_6, u_G_7, u_G_8])), (q_sound, .inr (5, [u_sound_0, u_sound_1, u_sound_2, u_sound_3, u_sound_4, u_sound_5, u_sound_6, .int 0, .int 1, u_sound_9]))] := hD.sub [0, 1] (by decide) rfl
  refine lv_if_ne (tgt := 13) hx hb dX10_sunk_8 (by decide) (fun c1 => ?_) (fun c1 => ?_)
  · skip
    obtain rfl : x1 = 0 := sp_in_00 c1
    refine lv_iconst (v := 0) hx hb dX10_sunk_13 (by decide) ?_
    refine lv_istore_n (lv' := [(2, .int 0), (0, .ref q_G), (1, .int 0)]) hx hb dX10_sunk_14 rfl hl (by decide) rfl (fun ls hl => ?_)
    refine lv_iconst (v := 0) hx hb dX10_sunk_15 (by decide) ?_
    refine lv_istore_n (lv' := [(3, .int 0), (2, .int 0), (0, .ref q_G), (1, .int 0)]) hx hb dX10_sunk_16 rfl hl (by decide) rfl (fun ls hl => ?_)
    refine lv_iload_n hx hb dX10_sunk_17 rfl (lv_at hl 0 rfl) ?_
    refine lv_aload_n hx hb dX10_sunk_18 rfl (lv_at hl 2 rfl) ?_
    refine q_get (v := .ref q_sound) C inX10 hK hP 0 rfl rfl 1 (by decide) rfl L19 rfl dX10_sunk_19 ?_
    refine q_getN (v := .int 0) C hN inX5 hK hP 1 rfl rfl 7 (by decide) rfl nwF_X10_235 rfl dX10_sunk_22 ?_
    refine lv_icmp_ge (tgt := 75) hx hb dX10_sunk_25 (by decide) (fun _ => ?_) (fun h => absurd (by decide +kernel) h)
    refine lv_iload_n hx hb dX10_sunk_75 rfl (lv_at hl 1 rfl) ?_
    exact q_iret C hr hlocks hK hP hD hS (Nat.le_of_ble_eq_true rfl) (Nat.le_of_ble_eq_true rfl) dX10_sunk_76 (by decide +kernel)
  · skip
    refine lv_iconst (v := (-1)) hx hb dX10_sunk_11 (by decide) ?_
    exact q_iret C hr hlocks hK hP hD hS (Nat.le_of_ble_eq_true rfl) (Nat.le_of_ble_eq_true rfl) dX10_sunk_12 (by unfold fr_one; rw [if_pos c1])
