set_option maxRecDepth 20000 in
theorem ggX10_share_X5_hasWave : GoodIn wsX10_share wsX5_hasWave := goodIn_r _ [8, 9, 45, 46, 47, 48, 49, 50, 51, 52, 53, 54] (by decide +kernel) (by decide +kernel)
set_option maxRecDepth 20000 in
theorem gX10_share_X5_hasWave_n108 : GoodIn wsX10_share (wsX5_hasWave) := ggX10_share_X5_hasWave
theorem dX10_share_0 : decode cX10_share 0 = .ok (.aload_n 0, 1) := by decide +kernel
theorem dX10_share_1 : decode cX10_share 1 = .ok (.getfield 19, 3) := by decide +kernel
theorem dX10_share_4 : decode cX10_share 4 = .ok (.iload_n 1, 1) := by decide +kernel
theorem dX10_share_5 : decode cX10_share 5 = .ok (.invokevirtual 108, 3) := by decide +kernel
theorem dX10_share_8 : decode cX10_share 8 = .ok (.ifCond .eq 10, 3) := by decide +kernel
theorem dX10_share_18 : decode cX10_share 18 = .ok (.iconst (-1), 1) := by decide +kernel
theorem dX10_share_19 : decode cX10_share 19 = .ok (.ireturn, 1) := by decide +kernel
set_option maxRecDepth 20000 in
theorem ggX10_sure_X10_isHere : GoodIn wsX10_sure wsX10_isHere := goodIn_r _ [9, 1, 3, 10, 11, 12, 13, 14, 131, 132, 133, 134, 135, 136, 137, 138, 139, 150, 151, 152, 153, 154, 155, 156, 140, 141, 142, 143, 144, 145, 146, 147, 148, 149] (by decide +kernel) (by decide +kernel)
set_option maxRecDepth 20000 in
theorem gX10_sure_X10_isHere : GoodIn wsX10_sure (wsV RX10 164 RX10 yX10_isHere wsX10_isHere) := goodIn_app (goodIn_of _ (by decide +kernel)) ggX10_sure_X10_isHere
theorem dX10_sure_0 : decode cX10_sure 0 = .ok (.aload_n 0, 1) := by decide +kernel
theorem dX10_sure_1 : decode cX10_sure 1 = .ok (.iload_n 1, 1) := by decide +kernel
theorem dX10_sure_2 : decode cX10_sure 2 = .ok (.invokevirtual 164, 3) := by decide +kernel
theorem dX10_sure_5 : decode cX10_sure 5 = .ok (.ifCond .eq 24, 3) := by decide +kernel
theorem dX10_sure_29 : decode cX10_sure 29 = .ok (.iconst (-1), 1) := by decide +kernel
theorem dX10_sure_30 : decode cX10_sure 30 = .ok (.ireturn, 1) := by decide +kernel
set_option maxRecDepth 20000 in
theorem ggX10_alike_X5_hasGuess : GoodIn wsX10_alike wsX5_hasGuess := goodIn_r _ [5, 6, 20, 21, 22, 23, 24, 25, 26, 27, 28, 29] (by decide +kernel) (by decide +kernel)
set_option maxRecDepth 20000 in
theorem gX10_alike_X5_hasGuess_n170 : GoodIn wsX10_alike (wsX5_hasGuess) := ggX10_alike_X5_hasGuess
theorem dX10_alike_0 : decode cX10_alike 0 = .ok (.aload_n 0, 1) := by decide +kernel
theorem dX10_alike_1 : decode cX10_alike 1 = .ok (.getfield 19, 3) := by decide +kernel
theorem dX10_alike_4 : decode cX10_alike 4 = .ok (.iload_n 1, 1) := by decide +kernel
theorem dX10_alike_5 : decode cX10_alike 5 = .ok (.invokevirtual 170, 3) := by decide +kernel
theorem dX10_alike_8 : decode cX10_alike 8 = .ok (.ifCond .eq 14, 3) := by decide +kernel
theorem dX10_alike_11 : decode cX10_alike 11 = .ok (.aload_n 0, 1) := by decide +kernel
theorem dX10_alike_12 : decode cX10_alike 12 = .ok (.getfield 19, 3) := by decide +kernel
theorem dX10_alike_15 : decode cX10_alike 15 = .ok (.iload_n 2, 1) := by decide +kernel
theorem dX10_alike_16 : decode cX10_alike 16 = .ok (.invokevirtual 170, 3) := by decide +kernel
theorem dX10_alike_19 : decode cX10_alike 19 = .ok (.ifCond .ne 5, 3) := by decide +kernel
theorem dX10_alike_22 : decode cX10_alike 22 = .ok (.iconst (-1), 1) := by decide +kernel
theorem dX10_alike_23 : decode cX10_alike 23 = .ok (.ireturn, 1) := by decide +kernel
theorem dX10_alike_24 : decode cX10_alike 24 = .ok (.iconst 0, 1) := by decide +kernel
theorem dX10_alike_25 : decode cX10_alike 25 = .ok (.istore_n 3, 1) := by decide +kernel
theorem dX10_alike_26 : decode cX10_alike 26 = .ok (.iload_n 3, 1) := by decide +kernel
theorem dX10_alike_27 : decode cX10_alike 27 = .ok (.aload_n 0, 1) := by decide +kernel
theorem dX10_alike_28 : decode cX10_alike 28 = .ok (.getfield 19, 3) := by decide +kernel
theorem dX10_alike_31 : decode cX10_alike 31 = .ok (.getfield 167, 3) := by decide +kernel
theorem dX10_alike_34 : decode cX10_alike 34 = .ok (.if_icmp .ge 22, 3) := by decide +kernel
theorem dX10_alike_56 : decode cX10_alike 56 = .ok (.iload_n 3, 1) := by decide +kernel
theorem dX10_alike_57 : decode cX10_alike 57 = .ok (.ireturn, 1) := by decide +kernel
theorem dX10_stuck_0 : decode cX10_stuck 0 = .ok (.iconst 0, 1) := by decide +kernel
theorem dX10_stuck_1 : decode cX10_stuck 1 = .ok (.istore_n 1, 1) := by decide +kernel
theorem dX10_stuck_2 : decode cX10_stuck 2 = .ok (.iconst 0, 1) := by decide +kernel
theorem dX10_stuck_3 : decode cX10_stuck 3 = .ok (.istore_n 2, 1) := by decide +kernel
theorem dX10_stuck_4 : decode cX10_stuck 4 = .ok (.iload_n 2, 1) := by decide +kernel
theorem dX10_stuck_5 : decode cX10_stuck 5 = .ok (.aload_n 0, 1) := by decide +kernel
theorem dX10_stuck_6 : decode cX10_stuck 6 = .ok (.getfield 19, 3) := by decide +kernel
theorem dX10_stuck_9 : decode cX10_stuck 9 = .ok (.getfield 235, 3) := by decide +kernel
theorem dX10_stuck_12 : decode cX10_stuck 12 = .ok (.if_icmp .ge 44, 3) := by decide +kernel
theorem dX10_stuck_56 : decode cX10_stuck 56 = .ok (.iload_n 1, 1) := by decide +kernel
theorem dX10_stuck_57 : decode cX10_stuck 57 = .ok (.ireturn, 1) := by decide +kernel
set_option maxRecDepth 20000 in
theorem ggX10_spread_X5_hasWave : GoodIn wsX10_spread wsX5_hasWave := goodIn_r _ [7, 8, 47, 48, 49, 50, 51, 52, 53, 54, 55, 56] (by decide +kernel) (by decide +kernel)
set_option maxRecDepth 20000 in
theorem gX10_spread_X5_hasWave_n108 : GoodIn wsX10_spread (wsX5_hasWave) := ggX10_spread_X5_hasWave
theorem dX10_spread_0 : decode cX10_spread 0 = .ok (.aload_n 0, 1) := by decide +kernel
theorem dX10_spread_1 : decode cX10_spread 1 = .ok (.getfield 19, 3) := by decide +kernel
theorem dX10_spread_4 : decode cX10_spread 4 = .ok (.iload_n 1, 1) := by decide +kernel
theorem dX10_spread_5 : decode cX10_spread 5 = .ok (.invokevirtual 108, 3) := by decide +kernel
theorem dX10_spread_8 : decode cX10_spread 8 = .ok (.ifCond .eq 18, 3) := by decide +kernel
theorem dX10_spread_26 : decode cX10_spread 26 = .ok (.iconst (-1), 1) := by decide +kernel
theorem dX10_spread_27 : decode cX10_spread 27 = .ok (.ireturn, 1) := by decide +kernel
theorem dX10_dearest_0 : decode cX10_dearest 0 = .ok (.iload_n 1, 1) := by decide +kernel
theorem dX10_dearest_1 : decode cX10_dearest 1 = .ok (.ifCond .eq 10, 3) := by decide +kernel
theorem dX10_dearest_4 : decode cX10_dearest 4 = .ok (.iload_n 1, 1) := by decide +kernel
theorem dX10_dearest_5 : decode cX10_dearest 5 = .ok (.iconst 1, 1) := by decide +kernel
theorem dX10_dearest_6 : decode cX10_dearest 6 = .ok (.if_icmp .eq 5, 3) := by decide +kernel
theorem dX10_dearest_9 : decode cX10_dearest 9 = .ok (.iconst (-1), 1) := by decide +kernel
theorem dX10_dearest_10 : decode cX10_dearest 10 = .ok (.ireturn, 1) := by decide +kernel
theorem dX10_dearest_11 : decode cX10_dearest 11 = .ok (.bipush (-2), 2) := by decide +kernel
theorem dX10_dearest_13 : decode cX10_dearest 13 = .ok (.istore_n 2, 1) := by decide +kernel
theorem dX10_dearest_14 : decode cX10_dearest 14 = .ok (.bipush (-2), 2) := by decide +kernel
theorem dX10_dearest_16 : decode cX10_dearest 16 = .ok (.istore_n 3, 1) := by decide +kernel
theorem dX10_dearest_17 : decode cX10_dearest 17 = .ok (.iconst 0, 1) := by decide +kernel
theorem dX10_dearest_18 : decode cX10_dearest 18 = .ok (.istore 4, 2) := by decide +kernel
theorem dX10_dearest_20 : decode cX10_dearest 20 = .ok (.iload 4, 2) := by decide +kernel
theorem dX10_dearest_22 : decode cX10_dearest 22 = .ok (.aload_n 0, 1) := by decide +kernel
theorem dX10_dearest_23 : decode cX10_dearest 23 = .ok (.getfield 19, 3) := by decide +kernel
theorem dX10_dearest_26 : decode cX10_dearest 26 = .ok (.getfield 235, 3) := by decide +kernel
theorem dX10_dearest_29 : decode cX10_dearest 29 = .ok (.if_icmp .ge 36, 3) := by decide +kernel
theorem dX10_dearest_65 : decode cX10_dearest 65 = .ok (.iload_n 1, 1) := by decide +kernel
theorem dX10_dearest_66 : decode cX10_dearest 66 = .ok (.ifCond .ne 7, 3) := by decide +kernel
theorem dX10_dearest_69 : decode cX10_dearest 69 = .ok (.iload_n 2, 1) := by decide +kernel
theorem dX10_dearest_70 : decode cX10_dearest 70 = .ok (.goto 4, 3) := by decide +kernel
theorem dX10_dearest_73 : decode cX10_dearest 73 = .ok (.iload_n 3, 1) := by decide +kernel
theorem dX10_dearest_74 : decode cX10_dearest 74 = .ok (.ireturn, 1) := by decide +kernel
theorem dX10_chosen_0 : decode cX10_chosen 0 = .ok (.bipush (-2), 2) := by decide +kernel
theorem dX10_chosen_2 : decode cX10_chosen 2 = .ok (.istore_n 1, 1) := by decide +kernel
theorem dX10_chosen_3 : decode cX10_chosen 3 = .ok (.iconst 0, 1) := by decide +kernel
theorem dX10_chosen_4 : decode cX10_chosen 4 = .ok (.istore_n 2, 1) := by decide +kernel
theorem dX10_chosen_5 : decode cX10_chosen 5 = .ok (.iconst 0, 1) := by decide +kernel
theorem dX10_chosen_6 : decode cX10_chosen 6 = .ok (.istore_n 3, 1) := by decide +kernel
theorem dX10_chosen_7 : decode cX10_chosen 7 = .ok (.iload_n 3, 1) := by decide +kernel
theorem dX10_chosen_8 : decode cX10_chosen 8 = .ok (.aload_n 0, 1) := by decide +kernel
theorem dX10_chosen_9 : decode cX10_chosen 9 = .ok (.getfield 19, 3) := by decide +kernel
theorem dX10_chosen_12 : decode cX10_chosen 12 = .ok (.getfield 235, 3) := by decide +kernel
theorem dX10_chosen_15 : decode cX10_chosen 15 = .ok (.if_icmp .ge 77, 3) := by decide +kernel
theorem dX10_chosen_92 : decode cX10_chosen 92 = .ok (.iload_n 1, 1) := by decide +kernel
theorem dX10_chosen_93 : decode cX10_chosen 93 = .ok (.ireturn, 1) := by decide +kernel
theorem dX10_darers_0 : decode cX10_darers 0 = .ok (.iconst 0, 1) := by decide +kernel
theorem dX10_darers_1 : decode cX10_darers 1 = .ok (.istore_n 1, 1) := by decide +kernel
theorem dX10_darers_2 : decode cX10_darers 2 = .ok (.iconst 0, 1) := by decide +kernel
theorem dX10_darers_3 : decode cX10_darers 3 = .ok (.istore_n 2, 1) := by decide +kernel
theorem dX10_darers_4 : decode cX10_darers 4 = .ok (.iload_n 2, 1) := by decide +kernel
theorem dX10_darers_5 : decode cX10_darers 5 = .ok (.aload_n 0, 1) := by decide +kernel
theorem dX10_darers_6 : decode cX10_darers 6 = .ok (.getfield 19, 3) := by decide +kernel
theorem dX10_darers_9 : decode cX10_darers 9 = .ok (.getfield 235, 3) := by decide +kernel
theorem dX10_darers_12 : decode cX10_darers 12 = .ok (.if_icmp .ge 42, 3) := by decide +kernel
theorem dX10_darers_54 : decode cX10_darers 54 = .ok (.iload_n 1, 1) := by decide +kernel
theorem dX10_darers_55 : decode cX10_darers 55 = .ok (.ireturn, 1) := by decide +kernel
theorem dX10_open_0 : decode cX10_open 0 = .ok (.iconst 0, 1) := by decide +kernel
theorem dX10_open_1 : decode cX10_open 1 = .ok (.istore_n 1, 1) := by decide +kernel
theorem dX10_open_2 : decode cX10_open 2 = .ok (.iconst 0, 1) := by decide +kernel
theorem dX10_open_3 : decode cX10_open 3 = .ok (.istore_n 2, 1) := by decide +kernel
theorem dX10_open_4 : decode cX10_open 4 = .ok (.iload_n 2, 1) := by decide +kernel
theorem dX10_open_5 : decode cX10_open 5 = .ok (.aload_n 0, 1) := by decide +kernel
theorem dX10_open_6 : decode cX10_open 6 = .ok (.getfield 19, 3) := by decide +kernel
theorem dX10_open_9 : decode cX10_open 9 = .ok (.getfield 167, 3) := by decide +kernel
theorem dX10_open_12 : decode cX10_open 12 = .ok (.if_icmp .ge 34, 3) := by decide +kernel
theorem dX10_open_46 : decode cX10_open 46 = .ok (.iload_n 1, 1) := by decide +kernel
theorem dX10_open_47 : decode cX10_open 47 = .ok (.ireturn, 1) := by decide +kernel
set_option maxRecDepth 20000 in
theorem ggX10_then_X5_hasWave : GoodIn wsX10_then wsX5_hasWave := goodIn_r _ [8, 9, 126, 127, 128, 129, 130, 131, 132, 133, 134, 135] (by decide +kernel) (by decide +kernel)
set_option maxRecDepth 20000 in
theorem gX10_then_X5_hasWave_n108 : GoodIn wsX10_then (wsX5_hasWave) := ggX10_then_X5_hasWave
theorem dX10_then_0 : decode cX10_then 0 = .ok (.aload_n 0, 1) := by decide +kernel
theorem dX10_then_1 : decode cX10_then 1 = .ok (.getfield 19, 3) := by decide +kernel
theorem dX10_then_4 : decode cX10_then 4 = .ok (.iload_n 1, 1) := by decide +kernel
theorem dX10_then_5 : decode cX10_then 5 = .ok (.invokevirtual 108, 3) := by decide +kernel
theorem dX10_then_8 : decode cX10_then 8 = .ok (.ifCond .eq 13, 3) := by decide +kernel
theorem dX10_then_21 : decode cX10_then 21 = .ok (.iconst (-1), 1) := by decide +kernel
theorem dX10_then_22 : decode cX10_then 22 = .ok (.ireturn, 1) := by decide +kernel
set_option maxRecDepth 20000 in
theorem ggX10_next_X5_hasWave : GoodIn wsX10_next wsX5_hasWave := goodIn_r _ [8, 9, 114, 115, 116, 117, 118, 119, 120, 121, 122, 123] (by decide +kernel) (by decide +kernel)
set_option maxRecDepth 20000 in
theorem gX10_next_X5_hasWave_n108 : GoodIn wsX10_next (wsX5_hasWave) := ggX10_next_X5_hasWave
theorem dX10_next_0 : decode cX10_next 0 = .ok (.aload_n 0, 1) := by decide +kernel
theorem dX10_next_1 : decode cX10_next 1 = .ok (.getfield 19, 3) := by decide +kernel
theorem dX10_next_4 : decode cX10_next 4 = .ok (.iload_n 1, 1) := by decide +kernel
theorem dX10_next_5 : decode cX10_next 5 = .ok (.invokevirtual 108, 3) := by decide +kernel
theorem dX10_next_8 : decode cX10_next 8 = .ok (.ifCond .ne 5, 3) := by decide +kernel
theorem dX10_next_11 : decode cX10_next 11 = .ok (.iconst (-1), 1) := by decide +kernel
theorem dX10_next_12 : decode cX10_next 12 = .ok (.ireturn, 1) := by decide +kernel
set_option maxRecDepth 20000 in
theorem ggX10_drawn_X5_hasWave : GoodIn wsX10_drawn wsX5_hasWave := goodIn_r _ [6, 7, 47, 48, 49, 50, 51, 52, 53, 54, 55, 56] (by decide +kernel) (by decide +kernel)
set_option maxRecDepth 20000 in
theorem gX10_drawn_X5_hasWave_n108 : GoodIn wsX10_drawn (wsX5_hasWave) := ggX10_drawn_X5_hasWave
theorem dX10_drawn_0 : decode cX10_drawn 0 = .ok (.aload_n 0, 1) := by decide +kernel
theorem dX10_drawn_1 : decode cX10_drawn 1 = .ok (.getfield 19, 3) := by decide +kernel
theorem dX10_drawn_4 : decode cX10_drawn 4 = .ok (.iload_n 1, 1) := by decide +kernel
theorem dX10_drawn_5 : decode cX10_drawn 5 = .ok (.invokevirtual 108, 3) := by decide +kernel
theorem dX10_drawn_8 : decode cX10_drawn 8 = .ok (.ifCond .eq 14, 3) := by decide +kernel
theorem dX10_drawn_22 : decode cX10_drawn 22 = .ok (.iconst (-1), 1) := by decide +kernel
theorem dX10_drawn_23 : decode cX10_drawn 23 = .ok (.ireturn, 1) := by decide +kernel
set_option maxRecDepth 20000 in
theorem ggX10_tell_X5_hasWave : GoodIn wsX10_tell wsX5_hasWave := goodIn_r _ [6, 7, 24, 25, 26, 27, 28, 29, 30, 31, 32, 33] (by decide +kernel) (by decide +kernel)
set_option maxRecDepth 20000 in
theorem gX10_tell_X5_hasWave_n108 : GoodIn wsX10_tell (wsX5_hasWave) := ggX10_tell_X5_hasWave
theorem dX10_tell_0 : decode cX10_tell 0 = .ok (.aload_n 0, 1) := by decide +kernel
theorem dX10_tell_1 : decode cX10_tell 1 = .ok (.getfield 19, 3) := by decide +kernel
theorem dX10_tell_4 : decode cX10_tell 4 = .ok (.iload_n 1, 1) := by decide +kernel
theorem dX10_tell_5 : decode cX10_tell 5 = .ok (.invokevirtual 108, 3) := by decide +kernel
theorem dX10_tell_8 : decode cX10_tell 8 = .ok (.ifCond .eq 14, 3) := by decide +kernel
theorem dX10_tell_22 : decode cX10_tell 22 = .ok (.iconst (-1), 1) := by decide +kernel
theorem dX10_tell_23 : decode cX10_tell 23 = .ok (.ireturn, 1) := by decide +kernel
theorem dX10_forget_0 : decode cX10_forget 0 = .ok (.aload_n 0, 1) := by decide +kernel
theorem dX10_forget_1 : decode cX10_forget 1 = .ok (.getfield 70, 3) := by decide +kernel
theorem dX10_forget_4 : decode cX10_forget 4 = .ok (.getfield 102, 3) := by decide +kernel
theorem dX10_forget_7 : decode cX10_forget 7 = .ok (.istore_n 1, 1) := by decide +kernel
theorem dX10_forget_8 : decode cX10_forget 8 = .ok (.aload_n 0, 1) := by decide +kernel
theorem dX10_forget_9 : decode cX10_forget 9 = .ok (.getfield 70, 3) := by decide +kernel
theorem dX10_forget_12 : decode cX10_forget 12 = .ok (.iconst 0, 1) := by decide +kernel
theorem dX10_forget_13 : decode cX10_forget 13 = .ok (.putfield 102, 3) := by decide +kernel
theorem dX10_forget_16 : decode cX10_forget 16 = .ok (.iload_n 1, 1) := by decide +kernel
theorem dX10_forget_17 : decode cX10_forget 17 = .ok (.ireturn, 1) := by decide +kernel
set_option maxHeartbeats 4000000 in
set_option maxRecDepth 100000 in
theorem k_X10_dearest (l : Launch) (dC : Nat → ClassId) (dI : Nat → Nat → Nat) (cB cI cJ cZ cS : ClassId) (q_G : Nat) (q_sound : Nat) (u_G_0 : Value) (u_G_2 : Value) (u_G_3 : Value) (u_G_4 : Value) (u_G_5 : Value) (u_G_6 : Value) (u_G_7 : Value) (u_G_8 : Value) (u_sound_0 : Value) (u_sound_1 : Value) (u_sound_2 : Value) (u_sound_3 : Value) (u_sound_4 : Value) (u_sound_5 : Value) (u_sound_6 : Value) (u_sound_8 : Value) (u_sound_9 : Value) (x1 : Int32) : CI l yX10_dearest wsX10_dearest ({ frames := 0, cells := 0, slots := 0, locals := 0 }) (dC, dI) (tysA cB cI cJ cZ cS) [(q_G, .inr (10, [u_G_0, .ref q_sound, u_G_2, u_G_3, u_G_4, u_G_5, u_G_6, u_G_7, u_G_8])), (q_sound, .inr (5, [u_sound_0, u_sound_1, u_sound_2, u_sound_3, u_sound_4, u_sound_5, u_sound_6, .int 0, u_sound_8, u_sound_9]))] [.ref q_G, .int x1] (fun r _ => r = (fr_dear x1)) := by
  refine open_I (cc := cX10_dearest) (maxL := 6) (ret := (some .int)) (by decide) rfl (Nat.le_of_ble_eq_true rfl) ?_
  intro p e s m below meth c A ls E
  obtain ⟨C, hr, hlocks, hnm, hA, hP, hK, hD, hN, hl⟩ := E
  obtain ⟨hx, hb, hml, hown, hts⟩ := id C
  have hS : va_S A s.heap s.heap [] := va_S.rf
  have hl : lv_has ls 6 [(0, .ref q_G), (1, .int x1)] := hl
  have inX10 : ∀ w ∈ u_ws RX10 TX10 9, w ∈ wsX10_dearest := by decide +kernel
  have inX5 : ∀ w ∈ u_ws RX5 TX5 10, w ∈ wsX10_dearest := by decide +kernel
  have L19 : Cond.fieldLink RX10 19 "GuessFerry" "sound" "LGuessFerry$Sound;" ∈ wsX10_dearest := by decide +kernel
  refine lv_iload_n hx hb dX10_dearest_0 rfl (lv_at hl 1 rfl) ?_
  refine lv_if_eq (tgt := 11) hx hb dX10_dearest_1 (by decide) (fun c1 => ?_) (fun c1 => ?_)
  · skip
    refine lv_bipush (v := (-2)) hx hb dX10_dearest_11 (by decide) ?_
    refine lv_istore_n (lv' := [(2, .int (-2)), (0, .ref q_G), (1, .int x1)]) hx hb dX10_dearest_13 rfl hl (by decide) rfl (fun ls hl => ?_)
    refine lv_bipush (v := (-2)) hx hb dX10_dearest_14 (by decide) ?_
    refine lv_istore_n (lv' := [(3, .int (-2)), (2, .int (-2)), (0, .ref q_G), (1, .int x1)]) hx hb dX10_dearest_16 rfl hl (by decide) rfl (fun ls hl => ?_)
    refine lv_iconst (v := 0) hx hb dX10_dearest_17 (by decide) ?_
    refine lv_istore (lv' := [(4, .int 0), (3, .int (-2)), (2, .int (-2)), (0, .ref q_G), (1, .int x1)]) hx hb dX10_dearest_18 hl (by decide) rfl (fun ls hl => ?_)
    refine lv_iload hx hb dX10_dearest_20 (lv_at hl 0 rfl) ?_
    refine lv_aload_n hx hb dX10_dearest_22 rfl (lv_at hl 3 rfl) ?_
    refine q_get (v := .ref q_sound) C inX10 hK hP 0 rfl rfl 1 (by decide) rfl L19 rfl dX10_dearest_23 ?_
    refine q_getN (v := .int 0) C hN inX5 hK hP 1 rfl rfl 7 (by decide) rfl nwF_X10_235 rfl dX10_dearest_26 ?_
    refine lv_icmp_ge (tgt := 65) hx hb dX10_dearest_29 (by decide) (fun _ => ?_) (fun h => absurd (by decide +kernel) h)
    refine lv_iload_n hx hb dX10_dearest_65 rfl (lv_at hl 4 rfl) ?_
    refine q_top (y := 0) (c1) ?_
    refine lv_if_ne (tgt := 73) hx hb dX10_dearest_66 (by decide) (fun h => absurd (by decide +kernel) h) (fun _ => ?_)
    refine lv_iload_n hx hb dX10_dearest_69 rfl (lv_at hl 2 rfl) ?_
    refine lv_goto (tgt := 74) hx hb dX10_dearest_70 (by decide) ?_
    exact q_iret C hr hlocks hK hP hD hS (Nat.le_of_ble_eq_true rfl) (Nat.le_of_ble_eq_true rfl) dX10_dearest_74 (by rw [c1]; decide +kernel)
  · skip
    refine lv_iload_n hx hb dX10_dearest_4 rfl (lv_at hl 1 rfl) ?_
    refine lv_iconst (v := 1) hx hb dX10_dearest_5 (by decide) ?_
    refine lv_icmp_eq (tgt := 11) hx hb dX10_dearest_6 (by decide) (fun c2 => ?_) (fun c2 => ?_)
    · skip
      refine lv_bipush (v := (-2)) hx hb dX10_dearest_11 (by decide) ?_
      refine lv_istore_n (lv' := [(2, .int (-2)), (0, .ref q_G), (1, .int x1)]) hx hb dX10_dearest_13 rfl hl (by decide) rfl (fun ls hl => ?_)
      refine lv_bipush (v := (-2)) hx hb dX10_dearest_14 (by decide) ?_
      refine lv_istore_n (lv' := [(3, .int (-2)), (2, .int (-2)), (0, .ref q_G), (1, .int x1)]) hx hb dX10_dearest_16 rfl hl (by decide) rfl (fun ls hl => ?_)
      refine lv_iconst (v := 0) hx hb dX10_dearest_17 (by decide) ?_
      refine lv_istore (lv' := [(4, .int 0), (3, .int (-2)), (2, .int (-2)), (0, .ref q_G), (1, .int x1)]) hx hb dX10_dearest_18 hl (by decide) rfl (fun ls hl => ?_)
      refine lv_iload hx hb dX10_dearest_20 (lv_at hl 0 rfl) ?_
      refine lv_aload_n hx hb dX10_dearest_22 rfl (lv_at hl 3 rfl) ?_
      refine q_get (v := .ref q_sound) C inX10 hK hP 0 rfl rfl 1 (by decide) rfl L19 rfl dX10_dearest_23 ?_
      refine q_getN (v := .int 0) C hN inX5 hK hP 1 rfl rfl 7 (by decide) rfl nwF_X10_235 rfl dX10_dearest_26 ?_
      refine lv_icmp_ge (tgt := 65) hx hb dX10_dearest_29 (by decide) (fun _ => ?_) (fun h => absurd (by decide +kernel) h)
      refine lv_iload_n hx hb dX10_dearest_65 rfl (lv_at hl 4 rfl) ?_
      refine q_top (y := 1) (c2) ?_
      refine lv_if_ne (tgt := 73) hx hb dX10_dearest_66 (by decide) (fun _ => ?_) (fun h => absurd h (by decide +kernel))
      refine lv_iload_n hx hb dX10_dearest_73 rfl (lv_at hl 1 rfl) ?_
      exact q_iret C hr hlocks hK hP hD hS (Nat.le_of_ble_eq_true rfl) (Nat.le_of_ble_eq_true rfl) dX10_dearest_74 (by rw [c2]; decide +kernel)
    · skip
      refine lv_iconst (v := (-1)) hx hb dX10_dearest_9 (by decide) ?_
      exact q_iret C hr hlocks hK hP hD hS (Nat.le_of_ble_eq_true rfl) (Nat.le_of_ble_eq_true rfl) dX10_dearest_10 (fr_dear_n c1 c2)

set_option maxHeartbeats 4000000 in
set_option maxRecDepth 100000 in
theorem k_X10_chosen (l : Launch) (dC : Nat → ClassId) (dI : Nat → Nat → Nat) (cB cI cJ cZ cS : ClassId) (q_G : Nat) (q_sound : Nat) (u_G_0 : Value) (u_G_2 : Value) (u_G_3 : Value) (u_G_4 : Value) (u_G_5 : Value) (u_G_6 : Value) (u_G_7 : Value) (u_G_8 : Value) (u_sound_0 : Value) (u_sound_1 : Value) (u_sound_2 : Value) (u_sound_3 : Value) (u_sound_4 : Value) (u_sound_5 : Value) (u_sound_6 : Value) (u_sound_8 : Value) (u_sound_9 : Value) : CI l yX10_chosen wsX10_chosen ({ frames := 0, cells := 0, slots := 0, locals := 0 }) (dC, dI) (tysA cB cI cJ cZ cS) [(q_G, .inr (10, [u_G_0, .ref q_sound, u_G_2, u_G_3, u_G_4, u_G_5, u_G_6, u_G_7, u_G_8])), (q_sound, .inr (5, [u_sound_0, u_sound_1, u_sound_2, u_sound_3, u_sound_4, u_sound_5, u_sound_6, .int 0, u_sound_8, u_sound_9]))] [.ref q_G] (fun r _ => r = (-2)) := by
  refine open_I (cc := cX10_chosen) (maxL := 6) (ret := (some .int)) (by decide) rfl (Nat.le_of_ble_eq_true rfl) ?_
  intro p e s m below meth c A ls E
  obtain ⟨C, hr, hlocks, hnm, hA, hP, hK, hD, hN, hl⟩ := E
  obtain ⟨hx, hb, hml, hown, hts⟩ := id C
  have hS : va_S A s.heap s.heap [] := va_S.rf
  have hl : lv_has ls 6 [(0, .ref q_G)] := hl
  have inX10 : ∀ w ∈ u_ws RX10 TX10 9, w ∈ wsX10_chosen := by decide +kernel
  have inX5 : ∀ w ∈ u_ws RX5 TX5 10, w ∈ wsX10_chosen := by decide +kernel
  have L19 : Cond.fieldLink RX10 19 "GuessFerry" "sound" "LGuessFerry$Sound;" ∈ wsX10_chosen := by decide +kernel
  refine lv_bipush (v := (-2)) hx hb dX10_chosen_0 (by decide) ?_
  refine lv_istore_n (lv' := [(1, .int (-2)), (0, .ref q_G)]) hx hb dX10_chosen_2 rfl hl (by decide) rfl (fun ls hl => ?_)
  refine lv_iconst (v := 0) hx hb dX10_chosen_3 (by decide) ?_
  refine lv_istore_n (lv' := [(2, .int 0), (1, .int (-2)), (0, .ref q_G)]) hx hb dX10_chosen_4 rfl hl (by decide) rfl (fun ls hl => ?_)
  refine lv_iconst (v := 0) hx hb dX10_chosen_5 (by decide) ?_
  refine lv_istore_n (lv' := [(3, .int 0), (2, .int 0), (1, .int (-2)), (0, .ref q_G)]) hx hb dX10_chosen_6 rfl hl (by decide) rfl (fun ls hl => ?_)
  refine lv_iload_n hx hb dX10_chosen_7 rfl (lv_at hl 0 rfl) ?_
  refine lv_aload_n hx hb dX10_chosen_8 rfl (lv_at hl 3 rfl) ?_
  refine q_get (v := .ref q_sound) C inX10 hK hP 0 rfl rfl 1 (by decide) rfl L19 rfl dX10_chosen_9 ?_
  refine q_getN (v := .int 0) C hN inX5 hK hP 1 rfl rfl 7 (by decide) rfl nwF_X10_235 rfl dX10_chosen_12 ?_
  refine lv_icmp_ge (tgt := 92) hx hb dX10_chosen_15 (by decide) (fun _ => ?_) (fun h => absurd (by decide +kernel) h)
  refine lv_iload_n hx hb dX10_chosen_92 rfl (lv_at hl 2 rfl) ?_
  exact q_iret C hr hlocks hK hP hD hS (Nat.le_of_ble_eq_true rfl) (Nat.le_of_ble_eq_true rfl) dX10_chosen_93 (rfl)

set_option maxHeartbeats 4000000 in
set_option maxRecDepth 100000 in
theorem k_X10_stuck (l : Launch) (dC : Nat → ClassId) (dI : Nat → Nat → Nat) (cB cI cJ cZ cS : ClassId) (q_G : Nat) (q_sound : Nat) (u_G_0 : Value) (u_G_2 : Value) (u_G_3 : Value) (u_G_4 : Value) (u_G_5 : Value) (u_G_6 : Value) (u_G_7 : Value) (u_G_8 : Value) (u_sound_0 : Value) (u_sound_1 : Value) (u_sound_2 : Value) (u_sound_3 : Value) (u_sound_4 : Value) (u_sound_5 : Value) (u_sound_6 : Value) (u_sound_8 : Value) (u_sound_9 : Value) : CI l yX10_stuck wsX10_stuck ({ frames := 0, cells := 0, slots := 0, locals := 0 }) (dC, dI) (tysA cB cI cJ cZ cS) [(q_G, .inr (10, [u_G_0, .ref q_sound, u_G_2, u_G_3, u_G_4, u_G_5, u_G_6, u_G_7, u_G_8])), (q_sound, .inr (5, [u_sound_0, u_sound_1, u_sound_2, u_sound_3, u_sound_4, u_sound_5, u_sound_6, .int 0, u_sound_8, u_sound_9]))] [.ref q_G] (fun r _ => r = 0) := by
  refine open_I (cc := cX10_stuck) (maxL := 3) (ret := (some .int)) (by decide) rfl (Nat.le_of_ble_eq_true rfl) ?_
  intro p e s m below meth c A ls E
  obtain ⟨C, hr, hlocks, hnm, hA, hP, hK, hD, hN, hl⟩ := E
  obtain ⟨hx, hb, hml, hown, hts⟩ := id C
  have hS : va_S A s.heap s.heap [] := va_S.rf
  have hl : lv_has ls 3 [(0, .ref q_G)] := hl
  have inX10 : ∀ w ∈ u_ws RX10 TX10 9, w ∈ wsX10_stuck := by decide +kernel
  have inX5 : ∀ w ∈ u_ws RX5 TX5 10, w ∈ wsX10_stuck := by decide +kernel
  have L19 : Cond.fieldLink RX10 19 "GuessFerry" "sound" "LGuessFerry$Sound;" ∈ wsX10_stuck := by decide +kernel
  refine lv_iconst (v := 0) hx hb dX10_stuck_0 (by decide) ?_
  refine lv_istore_n (lv' := [(1, .int 0), (0, .ref q_G)]) hx hb dX10_stuck_1 rfl hl (by decide) rfl (fun ls hl => ?_)
  refine lv_iconst (v := 0) hx hb dX10_stuck_2 (by decide) ?_
  refine lv_istore_n (lv' := [(2, .int 0), (1, .int 0), (0, .ref q_G)]) hx hb dX10_stuck_3 rfl hl (by decide) rfl (fun ls hl => ?_)
  refine lv_iload_n hx hb dX10_stuck_4 rfl (lv_at hl 0 rfl) ?_
  refine lv_aload_n hx hb dX10_stuck_5 rfl (lv_at hl 2 rfl) ?_
  refine q_get (v := .ref q_sound) C inX10 hK hP 0 rfl rfl 1 (by decide) rfl L19 rfl dX10_stuck_6 ?_
  refine q_getN (v := .int 0) C hN inX5 hK hP 1 rfl rfl 7 (by decide) rfl nwF_X10_235 rfl dX10_stuck_9 ?_
  refine lv_icmp_ge (tgt := 56) hx hb dX10_stuck_12 (by decide) (fun _ => ?_) (fun h => absurd (by decide +kernel) h)
  refine lv_iload_n hx hb dX10_stuck_56 rfl (lv_at hl 1 rfl) ?_
  exact q_iret C hr hlocks hK hP hD hS (Nat.le_of_ble_eq_true rfl) (Nat.le_of_ble_eq_true rfl) dX10_stuck_57 (rfl)

set_option maxHeartbeats 4000000 in
set_option maxRecDepth 100000 in
theorem k_X10_darers (l : Launch) (dC : Nat → ClassId) (dI : Nat → Nat → Nat) (cB cI cJ cZ cS : ClassId) (q_G : Nat) (q_sound : Nat) (u_G_0 : Value) (u_G_2 : Value) (u_G_3 : Value) (u_G_4 : Value) (u_G_5 : Value) (u_G_6 : Value) (u_G_7 : Value) (u_G_8 : Value) (u_sound_0 : Value) (u_sound_1 : Value) (u_sound_2 : Value) (u_sound_3 : Value) (u_sound_4 : Value) (u_sound_5 : Value) (u_sound_6 : Value) (u_sound_8 : Value) (u_sound_9 : Value) : CI l yX10_darers wsX10_darers ({ frames := 0, cells := 0, slots := 0, locals := 0 }) (dC, dI) (tysA cB cI cJ cZ cS) [(q_G, .inr (10, [u_G_0, .ref q_sound, u_G_2, u_G_3, u_G_4, u_G_5, u_G_6, u_G_7, u_G_8])), (q_sound, .inr (5, [u_sound_0, u_sound_1, u_sound_2, u_sound_3, u_sound_4, u_sound_5, u_sound_6, .int 0, u_sound_8, u_sound_9]))] [.ref q_G] (fun r _ => r = 0) := by
  refine open_I (cc := cX10_darers) (maxL := 3) (ret := (some .int)) (by decide) rfl (Nat.le_of_ble_eq_true rfl) ?_
  intro p e s m below meth c A ls E
  obtain ⟨C, hr, hlocks, hnm, hA, hP, hK, hD, hN, hl⟩ := E
  obtain ⟨hx, hb, hml, hown, hts⟩ := id C
  have hS : va_S A s.heap s.heap [] := va_S.rf
  have hl : lv_has ls 3 [(0, .ref q_G)] := hl
  have inX10 : ∀ w ∈ u_ws RX10 TX10 9, w ∈ wsX10_darers := by decide +kernel
  have inX5 : ∀ w ∈ u_ws RX5 TX5 10, w ∈ wsX10_darers := by decide +kernel
  have L19 : Cond.fieldLink RX10 19 "GuessFerry" "sound" "LGuessFerry$Sound;" ∈ wsX10_darers := by decide +kernel
  refine lv_iconst (v := 0) hx hb dX10_darers_0 (by decide) ?_
  refine lv_istore_n (lv' := [(1, .int 0), (0, .ref q_G)]) hx hb dX10_darers_1 rfl hl (by decide) rfl (fun ls hl => ?_)
  refine lv_iconst (v := 0) hx hb dX10_darers_2 (by decide) ?_
  refine lv_istore_n (lv' := [(2, .int 0), (1, .int 0), (0, .ref q_G)]) hx hb dX10_darers_3 rfl hl (by decide) rfl (fun ls hl => ?_)
  refine lv_iload_n hx hb dX10_darers_4 rfl (lv_at hl 0 rfl) ?_
  refine lv_aload_n hx hb dX10_darers_5 rfl (lv_at hl 2 rfl) ?_
  refine q_get (v := .ref q_sound) C inX10 hK hP 0 rfl rfl 1 (by decide) rfl L19 rfl dX10_darers_6 ?_
  refine q_getN (v := .int 0) C hN inX5 hK hP 1 rfl rfl 7 (by decide) rfl nwF_X10_235 rfl dX10_darers_9 ?_
  refine lv_icmp_ge (tgt := 54) hx hb dX10_darers_12 (by decide) (fun _ => ?_) (fun h => absurd (by decide +kernel) h)
  refine lv_iload_n hx hb dX10_darers_54 rfl (lv_at hl 1 rfl) ?_
  exact q_iret C hr hlocks hK hP hD hS (Nat.le_of_ble_eq_true rfl) (Nat.le_of_ble_eq_true rfl) dX10_darers_55 (rfl)

set_option maxHeartbeats 4000000 in
set_option maxRecDepth 100000 in
theorem k_X10_open (l : Launch) (dC : Nat → ClassId) (dI : Nat → Nat → Nat) (cB cI cJ cZ cS : ClassId) (q_G : Nat) (q_sound : Nat) (u_G_0 : Value) (u_G_2 : Value) (u_G_3 : Value) (u_G_4 : Value) (u_G_5 : Value) (u_G_6 : Value) (u_G_7 : Value) (u_G_8 : Value) (u_sound_0 : Value) (u_sound_1 : Value) (u_sound_2 : Value) (u_sound_3 : Value) (u_sound_4 : Value) (u_sound_5 : Value) (u_sound_7 : Value) (u_sound_8 : Value) (u_sound_9 : Value) : CI l yX10_open wsX10_open ({ frames := 0, cells := 0, slots := 0, locals := 0 }) (dC, dI) (tysA cB cI cJ cZ cS) [(q_G, .inr (10, [u_G_0, .ref q_sound, u_G_2, u_G_3, u_G_4, u_G_5, u_G_6, u_G_7, u_G_8])), (q_sound, .inr (5, [u_sound_0, u_sound_1, u_sound_2, u_sound_3, u_sound_4, u_sound_5, .int 0, u_sound_7, u_sound_8, u_sound_9]))] [.ref q_G] (fun r _ => r = 0) := by
  refine open_I (cc := cX10_open) (maxL := 3) (ret := (some .int)) (by decide) rfl (Nat.le_of_ble_eq_true rfl) ?_
  intro p e s m below meth c A ls E
  obtain ⟨C, hr, hlocks, hnm, hA, hP, hK, hD, hN, hl⟩ := E
  obtain ⟨hx, hb, hml, hown, hts⟩ := id C
  have hS : va_S A s.heap s.heap [] := va_S.rf
  have hl : lv_has ls 3 [(0, .ref q_G)] := hl
  have inX10 : ∀ w ∈ u_ws RX10 TX10 9, w ∈ wsX10_open := fun _ h => List.mem_cons_of_mem _ (List.mem_append_left _ (List.mem_append_left _ (List.mem_append_left _ (List.mem_append_right _ h))))
  have inX5 : ∀ w ∈ u_ws RX5 TX5 10, w ∈ wsX10_open := fun _ h => List.mem_cons_of_mem _ (List.mem_append_left _ (List.mem_append_left _ (List.mem_append_right _ h)))
  have L19 : Cond.fieldLink RX10 19 "GuessFerry" "sound" "LGuessFerry$Sound;" ∈ wsX10_open := by decide +kernel
  refine lv_iconst (v := 0) hx hb dX10_open_0 (by decide) ?_
  refine lv_istore_n (lv' := [(1, .int 0), (0, .ref q_G)]) hx hb dX10_open_1 rfl hl (by decide) rfl (fun ls hl => ?_)
  refine lv_iconst (v := 0) hx hb dX10_open_2 (by decide) ?_
  refine lv_istore_n (lv' := [(2, .int 0), (1, .int 0), (0, .ref q_G)]) hx hb dX10_open_3 rfl hl (by decide) rfl (fun ls hl => ?_)
  refine lv_iload_n hx hb dX10_open_4 rfl (lv_at hl 0 rfl) ?_
  refine lv_aload_n hx hb dX10_open_5 rfl (lv_at hl 2 rfl) ?_
  refine q_get (v := .ref q_sound) C inX10 hK hP 0 rfl rfl 1 (by decide) rfl L19 rfl dX10_open_6 ?_
  refine q_getN (v := .int 0) C hN inX5 hK hP 1 rfl rfl 6 (by decide) rfl nwF_X10_167 rfl dX10_open_9 ?_
  refine lv_icmp_ge (tgt := 46) hx hb dX10_open_12 (by decide) (fun _ => ?_) (fun h => absurd (by decide +kernel) h)
  refine lv_iload_n hx hb dX10_open_46 rfl (lv_at hl 1 rfl) ?_
  exact q_iret C hr hlocks hK hP hD hS (Nat.le_of_ble_eq_true rfl) (Nat.le_of_ble_eq_true rfl) dX10_open_47 (rfl)

set_option maxHeartbeats 4000000 in
set_option maxRecDepth 100000 in
theorem k_X10_share (l : Launch) (dC : Nat → ClassId) (dI : Nat → Nat → Nat) (cB cI cJ cZ cS : ClassId) (q_G : Nat) (q_sound : Nat) (u_G_0 : Value) (u_G_2 : Value) (u_G_3 : Value) (u_G_4 : Value) (u_G_5 : Value) (u_G_6 : Value) (u_G_7 : Value) (u_G_8 : Value) (u_sound_0 : Value) (u_sound_1 : Value) (u_sound_2 : Value) (u_sound_3 : Value) (u_sound_4 : Value) (u_sound_5 : Value) (u_sound_7 : Value) (u_sound_8 : Value) (u_sound_9 : Value) (x1 : Int32) (x2 : Int32) : CI l yX10_share wsX10_share ({ frames := 1, cells := 0, slots := 0, locals := 21 }) (dC, dI) (tysA cB cI cJ cZ cS) [(q_G, .inr (10, [u_G_0, .ref q_sound, u_G_2, u_G_3, u_G_4, u_G_5, u_G_6, u_G_7, u_G_8])), (q_sound, .inr (5, [u_sound_0, u_sound_1, u_sound_2, u_sound_3, u_sound_4, u_sound_5, .int 0, u_sound_7, u_sound_8, u_sound_9]))] [.ref q_G, .int x1, .int x2] (fun r _ => r = (-1)) := by
  refine open_I (cc := cX10_share) (maxL := 3) (ret := (some .int)) (by decide) rfl (Nat.le_of_ble_eq_true rfl) ?_
  intro p e s m below meth c A ls E
  obtain ⟨C, hr, hlocks, hnm, hA, hP, hK, hD, hN, hl⟩ := E
  obtain ⟨hx, hb, hml, hown, hts⟩ := id C
  have hS : va_S A s.heap s.heap [] := va_S.rf
  have hl : lv_has ls 3 [(0, .ref q_G), (1, .int x1), (2, .int x2)] := hl
  have inX10 : ∀ w ∈ u_ws RX10 TX10 9, w ∈ wsX10_share := by decide +kernel
  have E_X5_hasWave : Cond.selects RX5 yX5_hasWave yX5_hasWave ∈ wsX10_share := by decide +kernel
  have I_X5 : Cond.initialized RX5 ∈ wsX10_share := by decide +kernel
  have L19 : Cond.fieldLink RX10 19 "GuessFerry" "sound" "LGuessFerry$Sound;" ∈ wsX10_share := by decide +kernel
  have N_X5_hasWave : Cond.instanceMethod yX5_hasWave ∈ wsX10_share := by decide +kernel
  refine lv_aload_n hx hb dX10_share_0 rfl (lv_at hl 0 rfl) ?_
  refine q_get (v := .ref q_sound) C inX10 hK hP 0 rfl rfl 1 (by decide) rfl L19 rfl dX10_share_1 ?_
  refine lv_iload_n hx hb dX10_share_4 rfl (lv_at hl 1 rfl) ?_
  refine q_goi (wr := [(q_G, .inr (10, [u_G_0, .ref q_sound, u_G_2, u_G_3, u_G_4, u_G_5, u_G_6, u_G_7, u_G_8]))]) (va_runVN (As := [.int x1]) (rest := []) C (k_X5_hasWave l dC dI cB cI cJ cZ cS (q_sound) (u_sound_0) (u_sound_1) (u_sound_2) (u_sound_3) (u_sound_4) (u_sound_5) (u_sound_7) (u_sound_8) (u_sound_9) x1 _) ⟨va_cnB 1 hts gX10_share_X5_hasWave_n108 rfl rfl rfl (hN _ nwM_X10_108 rfl) (hts _ I_X5) (by decide +kernel) ⟨Nat.le_of_ble_eq_true rfl, Nat.le_of_ble_eq_true rfl⟩, hts _ N_X5_hasWave, hts _ E_X5_hasWave⟩ (q_preV hK hP (ci := 5) (q0 := 1) rfl rfl rfl (q_pre hN hK hP hD [1] rfl (by decide))) rfl rfl hl.1 rfl (lv_room (Nat.le_of_ble_eq_true rfl)) dX10_share_5 ⟨Nat.le_of_ble_eq_true rfl, Nat.le_of_ble_eq_true rfl⟩) hP hD hS hA [1] [0] rfl rfl (by decide) (by decide) (fun r w1 H locs hw hP hD hS => ?_)
  obtain ⟨rfl, rfl⟩ := hw
  have hP : va_P (dC, dI) vwCl [(q_G, .inr (10, [u_G_0, .ref q_sound, u_G_2, u_G_3, u_G_4, u_G_5, u_G_6, u_G_7, u_G_8])), (q_sound, .inr (5, [u_sound_0, u_sound_1, u_sound_2, u_sound_3, u_sound_4, u_sound_5, .int 0, u_sound_7, u_sound_8, u_sound_9]))] H := hP.sub [0, 1] rfl
  have hD : va_D A [(q_G, .inr (10, [u_G_0, .ref q_sound, u_G_2, u_G_3, u_G_4, u_G_5, u_G_6, u_G_7, u_G_8])), (q_sound, .inr (5, [u_sound_0, u_sound_1, u_sound_2, u_sound_3, u_sound_4, u_sound_5, .int 0, u_sound_7, u_sound_8, u_sound_9]))] := hD.sub [0, 1] (by decide) rfl
  refine lv_if_eq (tgt := 18) hx hb dX10_share_8 (by decide) (fun _ => ?_) (fun h => absurd (by decide +kernel) h)
  refine lv_iconst (v := (-1)) hx hb dX10_share_18 (by decide) ?_
  exact q_iret C hr hlocks hK hP hD hS (Nat.le_of_ble_eq_true rfl) (Nat.le_of_ble_eq_true rfl) dX10_share_19 (rfl)

set_option maxHeartbeats 4000000 in
set_option maxRecDepth 100000 in
theorem k_X10_sure (l : Launch) (dC : Nat → ClassId) (dI : Nat → Nat → Nat) (cB cI cJ cZ cS : ClassId) (q_G : Nat) (q_sound : Nat) (u_G_0 : Value) (u_G_2 : Value) (u_G_3 : Value) (u_G_4 : Value) (u_G_5 : Value) (u_G_6 : Value) (u_G_7 : Value) (u_G_8 : Value) (u_sound_0 : Value) (u_sound_1 : Value) (u_sound_2 : Value) (u_sound_3 : Value) (u_sound_4 : Value) (u_sound_5 : Value) (u_sound_6 : Value) (u_sound_8 : Value) (u_sound_9 : Value) (x1 : Int32) (x2 : Int32) : CI l yX10_sure wsX10_sure ({ frames := 2, cells := 0, slots := 0, locals := 42 }) (dC, dI) (tysA cB cI cJ cZ cS) [(q_G, .inr (10, [u_G_0, .ref q_sound, u_G_2, u_G_3, u_G_4, u_G_5, u_G_6, u_G_7, u_G_8])), (q_sound, .inr (5, [u_sound_0, u_sound_1, u_sound_2, u_sound_3, u_sound_4, u_sound_5, u_sound_6, .int 0, u_sound_8, u_sound_9]))] [.ref q_G, .int x1, .int x2] (fun r _ => r = (-1)) := by
  refine open_I (cc := cX10_sure) (maxL := 3) (ret := (some .int)) (by decide) rfl (Nat.le_of_ble_eq_true rfl) ?_
  intro p e s m below meth c A ls E
  obtain ⟨C, hr, hlocks, hnm, hA, hP, hK, hD, hN, hl⟩ := E
  obtain ⟨hx, hb, hml, hown, hts⟩ := id C
  have hS : va_S A s.heap s.heap [] := va_S.rf
  have hl : lv_has ls 3 [(0, .ref q_G), (1, .int x1), (2, .int x2)] := hl
  refine lv_aload_n hx hb dX10_sure_0 rfl (lv_at hl 0 rfl) ?_
  refine lv_iload_n hx hb dX10_sure_1 rfl (lv_at hl 1 rfl) ?_
  refine q_goi (wr := []) (va_runV (As := [.int x1]) (rest := []) C (k_X10_isHere l dC dI cB cI cJ cZ cS (q_G) (q_sound) (u_G_0) (u_G_2) (u_G_3) (u_G_4) (u_G_5) (u_G_6) (u_G_7) (u_G_8) (u_sound_0) (u_sound_1) (u_sound_2) (u_sound_3) (u_sound_4) (u_sound_5) (u_sound_6) (u_sound_8) (u_sound_9) x1 _) (cwV 1 hts gX10_sure_X10_isHere rfl rfl rfl (by decide +kernel) ⟨Nat.le_of_ble_eq_true rfl, Nat.le_of_ble_eq_true rfl⟩) (q_preV hK hP (ci := 10) (q0 := 0) rfl rfl rfl (q_pre hN hK hP hD [0, 1] rfl (by decide))) rfl rfl hl.1 rfl (lv_room (Nat.le_of_ble_eq_true rfl)) dX10_sure_2 ⟨Nat.le_of_ble_eq_true rfl, Nat.le_of_ble_eq_true rfl⟩) hP hD hS hA [0, 1] [] rfl rfl (by decide) (by decide) (fun r w1 H locs hw hP hD hS => ?_)
  obtain ⟨rfl, rfl⟩ := hw
  have hP : va_P (dC, dI) vwCl [(q_G, .inr (10, [u_G_0, .ref q_sound, u_G_2, u_G_3, u_G_4, u_G_5, u_G_6, u_G_7, u_G_8])), (q_sound, .inr (5, [u_sound_0, u_sound_1, u_sound_2, u_sound_3, u_sound_4, u_sound_5, u_sound_6, .int 0, u_sound_8, u_sound_9]))] H := hP.sub [0, 1] rfl
  have hD : va_D A [(q_G, .inr (10, [u_G_0, .ref q_sound, u_G_2, u_G_3, u_G_4, u_G_5, u_G_6, u_G_7, u_G_8])), (q_sound, .inr (5, [u_sound_0, u_sound_1, u_sound_2, u_sound_3, u_sound_4, u_sound_5, u_sound_6, .int 0, u_sound_8, u_sound_9]))] := hD.sub [0, 1] (by decide) rfl
  refine lv_if_eq (tgt := 29) hx hb dX10_sure_5 (by decide) (fun _ => ?_) (fun h => absurd (by decide +kernel) h)
  refine lv_iconst (v := (-1)) hx hb dX10_sure_29 (by decide) ?_
  exact q_iret C hr hlocks hK hP hD hS (Nat.le_of_ble_eq_true rfl) (Nat.le_of_ble_eq_true rfl) dX10_sure_30 (rfl)

set_option maxHeartbeats 4000000 in
set_option maxRecDepth 100000 in
theorem k_X10_spread (l : Launch) (dC : Nat → ClassId) (dI : Nat → Nat → Nat) (cB cI cJ cZ cS : ClassId) (q_G : Nat) (q_sound : Nat) (u_G_0 : Value) (u_G_2 : Value) (u_G_3 : Value) (u_G_4 : Value) (u_G_5 : Value) (u_G_6 : Value) (u_G_7 : Value) (u_G_8 : Value) (u_sound_0 : Value) (u_sound_1 : Value) (u_sound_2 : Value) (u_sound_3 : Value) (u_sound_4 : Value) (u_sound_5 : Value) (u_sound_7 : Value) (u_sound_8 : Value) (u_sound_9 : Value) (x1 : Int32) : CI l yX10_spread wsX10_spread ({ frames := 1, cells := 0, slots := 0, locals := 21 }) (dC, dI) (tysA cB cI cJ cZ cS) [(q_G, .inr (10, [u_G_0, .ref q_sound, u_G_2, u_G_3, u_G_4, u_G_5, u_G_6, u_G_7, u_G_8])), (q_sound, .inr (5, [u_sound_0, u_sound_1, u_sound_2, u_sound_3, u_sound_4, u_sound_5, .int 0, u_sound_7, u_sound_8, u_sound_9]))] [.ref q_G, .int x1] (fun r _ => r = (-1)) := by
  refine open_I (cc := cX10_spread) (maxL := 2) (ret := (some .int)) (by decide) rfl (Nat.le_of_ble_eq_true rfl) ?_
  intro p e s m below meth c A ls E
  obtain ⟨C, hr, hlocks, hnm, hA, hP, hK, hD, hN, hl⟩ := E
  obtain ⟨hx, hb, hml, hown, hts⟩ := id C
  have hS : va_S A s.heap s.heap [] := va_S.rf
  have hl : lv_has ls 2 [(0, .ref q_G), (1, .int x1)] := hl
  have inX10 : ∀ w ∈ u_ws RX10 TX10 9, w ∈ wsX10_spread := by decide +kernel
  have E_X5_hasWave : Cond.selects RX5 yX5_hasWave yX5_hasWave ∈ wsX10_spread := by decide +kernel
  have I_X5 : Cond.initialized RX5 ∈ wsX10_spread := by decide +kernel
  have L19 : Cond.fieldLink RX10 19 "GuessFerry" "sound" "LGuessFerry$Sound;" ∈ wsX10_spread := by decide +kernel
  have N_X5_hasWave : Cond.instanceMethod yX5_hasWave ∈ wsX10_spread := by decide +kernel
  refine lv_aload_n hx hb dX10_spread_0 rfl (lv_at hl 0 rfl) ?_
  refine q_get (v := .ref q_sound) C inX10 hK hP 0 rfl rfl 1 (by decide) rfl L19 rfl dX10_spread_1 ?_
  refine lv_iload_n hx hb dX10_spread_4 rfl (lv_at hl 1 rfl) ?_
  refine q_goi (wr := [(q_G, .inr (10, [u_G_0, .ref q_sound, u_G_2, u_G_3, u_G_4, u_G_5, u_G_6, u_G_7, u_G_8]))]) (va_runVN (As := [.int x1]) (rest := []) C (k_X5_hasWave l dC dI cB cI cJ cZ cS (q_sound) (u_sound_0) (u_sound_1) (u_sound_2) (u_sound_3) (u_sound_4) (u_sound_5) (u_sound_7) (u_sound_8) (u_sound_9) x1 _) ⟨va_cnB 1 hts gX10_spread_X5_hasWave_n108 rfl rfl rfl (hN _ nwM_X10_108 rfl) (hts _ I_X5) (by decide +kernel) ⟨Nat.le_of_ble_eq_true rfl, Nat.le_of_ble_eq_true rfl⟩, hts _ N_X5_hasWave, hts _ E_X5_hasWave⟩ (q_preV hK hP (ci := 5) (q0 := 1) rfl rfl rfl (q_pre hN hK hP hD [1] rfl (by decide))) rfl rfl hl.1 rfl (lv_room (Nat.le_of_ble_eq_true rfl)) dX10_spread_5 ⟨Nat.le_of_ble_eq_true rfl, Nat.le_of_ble_eq_true rfl⟩) hP hD hS hA [1] [0] rfl rfl (by decide) (by decide) (fun r w1 H locs hw hP hD hS => ?_)
  obtain ⟨rfl, rfl⟩ := hw
  have hP : va_P (dC, dI) vwCl [(q_G, .inr (10, [u_G_0, .ref q_sound, u_G_2, u_G_3, u_G_4, u_G_5, u_G_6, u_G_7, u_G_8])), (q_sound, .inr (5, [u_sound_0, u_sound_1, u_sound_2, u_sound_3, u_sound_4, u_sound_5, .int 0, u_sound_7, u_sound_8, u_sound_9]))] H := hP.sub [0, 1] rfl
  have hD : va_D A [(q_G, .inr (10, [u_G_0, .ref q_sound, u_G_2, u_G_3, u_G_4, u_G_5, u_G_6, u_G_7, u_G_8])), (q_sound, .inr (5, [u_sound_0, u_sound_1, u_sound_2, u_sound_3, u_sound_4, u_sound_5, .int 0, u_sound_7, u_sound_8, u_sound_9]))] := hD.sub [0, 1] (by decide) rfl
  refine lv_if_eq (tgt := 26) hx hb dX10_spread_8 (by decide) (fun _ => ?_) (fun h => absurd (by decide +kernel) h)
  refine lv_iconst (v := (-1)) hx hb dX10_spread_26 (by decide) ?_
  exact q_iret C hr hlocks hK hP hD hS (Nat.le_of_ble_eq_true rfl) (Nat.le_of_ble_eq_true rfl) dX10_spread_27 (rfl)

set_option maxHeartbeats 4000000 in
set_option maxRecDepth 100000 in
theorem k_X10_then (l : Launch) (dC : Nat → ClassId) (dI : Nat → Nat → Nat) (cB cI cJ cZ cS : ClassId) (q_G : Nat) (q_sound : Nat) (u_G_0 : Value) (u_G_2 : Value) (u_G_3 : Value) (u_G_4 : Value) (u_G_5 : Value) (u_G_6 : Value) (u_G_7 : Value) (u_G_8 : Value) (u_sound_0 : Value) (u_sound_1 : Value) (u_sound_2 : Value) (u_sound_3 : Value) (u_sound_4 : Value) (u_sound_5 : Value) (u_sound_7 : Value) (u_sound_8 : Value) (u_sound_9 : Value) (x1 : Int32) (x2 : Int32) (x3 : Int32) : CI l yX10_then wsX10_then ({ frames := 1, cells := 0, slots := 0, locals := 21 }) (dC, dI) (tysA cB cI cJ cZ cS) [(q_G, .inr (10, [u_G_0, .ref q_sound, u_G_2, u_G_3, u_G_4, u_G_5, u_G_6, u_G_7, u_G_8])), (q_sound, .inr (5, [u_sound_0, u_sound_1, u_sound_2, u_sound_3, u_sound_4, u_sound_5, .int 0, u_sound_7, u_sound_8, u_sound_9]))] [.ref q_G, .int x1, .int x2, .int x3] (fun r _ => r = (-1)) := by
  refine open_I (cc := cX10_then) (maxL := 4) (ret := (some .int)) (by decide) rfl (Nat.le_of_ble_eq_true rfl) ?_
  intro p e s m below meth c A ls E
  obtain ⟨C, hr, hlocks, hnm, hA, hP, hK, hD, hN, hl⟩ := E
  obtain ⟨hx, hb, hml, hown, hts⟩ := id C
  have hS : va_S A s.heap s.heap [] := va_S.rf
  have hl : lv_has ls 4 [(0, .ref q_G), (1, .int x1), (2, .int x2), (3, .int x3)] := hl
  have inX10 : ∀ w ∈ u_ws RX10 TX10 9, w ∈ wsX10_then := by decide +kernel
  have E_X5_hasWave : Cond.selects RX5 yX5_hasWave yX5_hasWave ∈ wsX10_then := by decide +kernel
  have I_X5 : Cond.initialized RX5 ∈ wsX10_then := by decide +kernel
  have L19 : Cond.fieldLink RX10 19 "GuessFerry" "sound" "LGuessFerry$Sound;" ∈ wsX10_then := by decide +kernel
  have N_X5_hasWave : Cond.instanceMethod yX5_hasWave ∈ wsX10_then := by decide +kernel
  refine lv_aload_n hx hb dX10_then_0 rfl (lv_at hl 0 rfl) ?_
  refine q_get (v := .ref q_sound) C inX10 hK hP 0 rfl rfl 1 (by decide) rfl L19 rfl dX10_then_1 ?_
  refine lv_iload_n hx hb dX10_then_4 rfl (lv_at hl 1 rfl) ?_
  refine q_goi (wr := [(q_G, .inr (10, [u_G_0, .ref q_sound, u_G_2, u_G_3, u_G_4, u_G_5, u_G_6, u_G_7, u_G_8]))]) (va_runVN (As := [.int x1]) (rest := []) C (k_X5_hasWave l dC dI cB cI cJ cZ cS (q_sound) (u_sound_0) (u_sound_1) (u_sound_2) (u_sound_3) (u_sound_4) (u_sound_5) (u_sound_7) (u_sound_8) (u_sound_9) x1 _) ⟨va_cnB 1 hts gX10_then_X5_hasWave_n108 rfl rfl rfl (hN _ nwM_X10_108 rfl) (hts _ I_X5) (by decide +kernel) ⟨Nat.le_of_ble_eq_true rfl, Nat.le_of_ble_eq_true rfl⟩, hts _ N_X5_hasWave, hts _ E_X5_hasWave⟩ (q_preV hK hP (ci := 5) (q0 := 1) rfl rfl rfl (q_pre hN hK hP hD [1] rfl (by decide))) rfl rfl hl.1 rfl (lv_room (Nat.le_of_ble_eq_true rfl)) dX10_then_5 ⟨Nat.le_of_ble_eq_true rfl, Nat.le_of_ble_eq_true rfl⟩) hP hD hS hA [1] [0] rfl rfl (by decide) (by decide) (fun r w1 H locs hw hP hD hS => ?_)
  obtain ⟨rfl, rfl⟩ := hw
  have hP : va_P (dC, dI) vwCl [(q_G, .inr (10, [u_G_0, .ref q_sound, u_G_2, u_G_3, u_G_4, u_G_5, u_G_6, u_G_7, u_G_8])), (q_sound, .inr (5, [u_sound_0, u_sound_1, u_sound_2, u_sound_3, u_sound_4, u_sound_5, .int 0, u_sound_7, u_sound_8, u_sound_9]))] H := hP.sub [0, 1] rfl
  have hD : va_D A [(q_G, .inr (10, [u_G_0, .ref q_sound, u_G_2, u_G_3, u_G_4, u_G_5, u_G_6, u_G_7, u_G_8])), (q_sound, .inr (5, [u_sound_0, u_sound_1, u_sound_2, u_sound_3, u_sound_4, u_sound_5, .int 0, u_sound_7, u_sound_8, u_sound_9]))] := hD.sub [0, 1] (by decide) rfl
  refine lv_if_eq (tgt := 21) hx hb dX10_then_8 (by decide) (fun _ => ?_) (fun h => absurd (by decide +kernel) h)
  refine lv_iconst (v := (-1)) hx hb dX10_then_21 (by decide) ?_
  exact q_iret C hr hlocks hK hP hD hS (Nat.le_of_ble_eq_true rfl) (Nat.le_of_ble_eq_true rfl) dX10_then_22 (rfl)

set_option maxHeartbeats 4000000 in
set_option maxRecDepth 100000 in
theorem k_X10_next (l : Launch) (dC : Nat → ClassId) (dI : Nat → Nat → Nat) (cB cI cJ cZ cS : ClassId) (q_G : Nat) (q_sound : Nat) (u_G_0 : Value) (u_G_2 : Value) (u_G_3 : Value) (u_G_4 : Value) (u_G_5 : Value) (u_G_6 : Value) (u_G_7 : Value) (u_G_8 : Value) (u_sound_0 : Value) (u_sound_1 : Value) (u_sound_2 : Value) (u_sound_3 : Value) (u_sound_4 : Value) (u_sound_5 : Value) (u_sound_7 : Value) (u_sound_8 : Value) (u_sound_9 : Value) (x1 : Int32) : CI l yX10_next wsX10_next ({ frames := 1, cells := 0, slots := 0, locals := 21 }) (dC, dI) (tysA cB cI cJ cZ cS) [(q_G, .inr (10, [u_G_0, .ref q_sound, u_G_2, u_G_3, u_G_4, u_G_5, u_G_6, u_G_7, u_G_8])), (q_sound, .inr (5, [u_sound_0, u_sound_1, u_sound_2, u_sound_3, u_sound_4, u_sound_5, .int 0, u_sound_7, u_sound_8, u_sound_9]))] [.ref q_G, .int x1] (fun r _ => r = (-1)) := by
  refine open_I (cc := cX10_next) (maxL := 3) (ret := (some .int)) (by decide) rfl (Nat.le_of_ble_eq_true rfl) ?_
  intro p e s m below meth c A ls E
  obtain ⟨C, hr, hlocks, hnm, hA, hP, hK, hD, hN, hl⟩ := E
  obtain ⟨hx, hb, hml, hown, hts⟩ := id C
  have hS : va_S A s.heap s.heap [] := va_S.rf
  have hl : lv_has ls 3 [(0, .ref q_G), (1, .int x1)] := hl
  have inX10 : ∀ w ∈ u_ws RX10 TX10 9, w ∈ wsX10_next := by decide +kernel
  have E_X5_hasWave : Cond.selects RX5 yX5_hasWave yX5_hasWave ∈ wsX10_next := by decide +kernel
  have I_X5 : Cond.initialized RX5 ∈ wsX10_next := by decide +kernel
  have L19 : Cond.fieldLink RX10 19 "GuessFerry" "sound" "LGuessFerry$Sound;" ∈ wsX10_next := by decide +kernel
  have N_X5_hasWave : Cond.instanceMethod yX5_hasWave ∈ wsX10_next := by decide +kernel
  refine lv_aload_n hx hb dX10_next_0 rfl (lv_at hl 0 rfl) ?_
  refine q_get (v := .ref q_sound) C inX10 hK hP 0 rfl rfl 1 (by decide) rfl L19 rfl dX10_next_1 ?_
  refine lv_iload_n hx hb dX10_next_4 rfl (lv_at hl 1 rfl) ?_
  refine q_goi (wr := [(q_G, .inr (10, [u_G_0, .ref q_sound, u_G_2, u_G_3, u_G_4, u_G_5, u_G_6, u_G_7, u_G_8]))]) (va_runVN (As := [.int x1]) (rest := []) C (k_X5_hasWave l dC dI cB cI cJ cZ cS (q_sound) (u_sound_0) (u_sound_1) (u_sound_2) (u_sound_3) (u_sound_4) (u_sound_5) (u_sound_7) (u_sound_8) (u_sound_9) x1 _) ⟨va_cnB 1 hts gX10_next_X5_hasWave_n108 rfl rfl rfl (hN _ nwM_X10_108 rfl) (hts _ I_X5) (by decide +kernel) ⟨Nat.le_of_ble_eq_true rfl, Nat.le_of_ble_eq_true rfl⟩, hts _ N_X5_hasWave, hts _ E_X5_hasWave⟩ (q_preV hK hP (ci := 5) (q0 := 1) rfl rfl rfl (q_pre hN hK hP hD [1] rfl (by decide))) rfl rfl hl.1 rfl (lv_room (Nat.le_of_ble_eq_true rfl)) dX10_next_5 ⟨Nat.le_of_ble_eq_true rfl, Nat.le_of_ble_eq_true rfl⟩) hP hD hS hA [1] [0] rfl rfl (by decide) (by decide) (fun r w1 H locs hw hP hD hS => ?_)
  obtain ⟨rfl, rfl⟩ := hw
  have hP : va_P (dC, dI) vwCl [(q_G, .inr (10, [u_G_0, .ref q_sound, u_G_2, u_G_3, u_G_4, u_G_5, u_G_6, u_G_7, u_G_8])), (q_sound, .inr (5, [u_sound_0, u_sound_1, u_sound_2, u_sound_3, u_sound_4, u_sound_5, .int 0, u_sound_7, u_sound_8, u_sound_9]))] H := hP.sub [0, 1] rfl
  have hD : va_D A [(q_G, .inr (10, [u_G_0, .ref q_sound, u_G_2, u_G_3, u_G_4, u_G_5, u_G_6, u_G_7, u_G_8])), (q_sound, .inr (5, [u_sound_0, u_sound_1, u_sound_2, u_sound_3, u_sound_4, u_sound_5, .int 0, u_sound_7, u_sound_8, u_sound_9]))] := hD.sub [0, 1] (by decide) rfl
  refine lv_if_ne (tgt := 13) hx hb dX10_next_8 (by decide) (fun h => absurd (by decide +kernel) h) (fun _ => ?_)
  refine lv_iconst (v := (-1)) hx hb dX10_next_11 (by decide) ?_
  exact q_iret C hr hlocks hK hP hD hS (Nat.le_of_ble_eq_true rfl) (Nat.le_of_ble_eq_true rfl) dX10_next_12 (rfl)

set_option maxHeartbeats 4000000 in
set_option maxRecDepth 100000 in
theorem k_X10_drawn (l : Launch) (dC : Nat → ClassId) (dI : Nat → Nat → Nat) (cB cI cJ cZ cS : ClassId) (q_G : Nat) (q_sound : Nat) (u_G_0 : Value) (u_G_2 : Value) (u_G_3 : Value) (u_G_4 : Value) (u_G_5 : Value) (u_G_6 : Value) (u_G_7 : Value) (u_G_8 : Value) (u_sound_0 : Value) (u_sound_1 : Value) (u_sound_2 : Value) (u_sound_3 : Value) (u_sound_4 : Value) (u_sound_5 : Value) (u_sound_7 : Value) (u_sound_8 : Value) (u_sound_9 : Value) (x1 : Int32) (x2 : Int32) : CI l yX10_drawn wsX10_drawn ({ frames := 1, cells := 0, slots := 0, locals := 21 }) (dC, dI) (tysA cB cI cJ cZ cS) [(q_G, .inr (10, [u_G_0, .ref q_sound, u_G_2, u_G_3, u_G_4, u_G_5, u_G_6, u_G_7, u_G_8])), (q_sound, .inr (5, [u_sound_0, u_sound_1, u_sound_2, u_sound_3, u_sound_4, u_sound_5, .int 0, u_sound_7, u_sound_8, u_sound_9]))] [.ref q_G, .int x1, .int x2] (fun r _ => r = (-1)) := by
  refine open_I (cc := cX10_drawn) (maxL := 5) (ret := (some .int)) (by decide) rfl (Nat.le_of_ble_eq_true rfl) ?_
  intro p e s m below meth c A ls E
  obtain ⟨C, hr, hlocks, hnm, hA, hP, hK, hD, hN, hl⟩ := E
  obtain ⟨hx, hb, hml, hown, hts⟩ := id C
  have hS : va_S A s.heap s.heap [] := va_S.rf
  have hl : lv_has ls 5 [(0, .ref q_G), (1, .int x1), (2, .int x2)] := hl
  have inX10 : ∀ w ∈ u_ws RX10 TX10 9, w ∈ wsX10_drawn := by decide +kernel
  have E_X5_hasWave : Cond.selects RX5 yX5_hasWave yX5_hasWave ∈ wsX10_drawn := by decide +kernel
  have I_X5 : Cond.initialized RX5 ∈ wsX10_drawn := by decide +kernel
  have L19 : Cond.fieldLink RX10 19 "GuessFerry" "sound" "LGuessFerry$Sound;" ∈ wsX10_drawn := by decide +kernel
  have N_X5_hasWave : Cond.instanceMethod yX5_hasWave ∈ wsX10_drawn := by decide +kernel
  refine lv_aload_n hx hb dX10_drawn_0 rfl (lv_at hl 0 rfl) ?_
  refine q_get (v := .ref q_sound) C inX10 hK hP 0 rfl rfl 1 (by decide) rfl L19 rfl dX10_drawn_1 ?_
  refine lv_iload_n hx hb dX10_drawn_4 rfl (lv_at hl 1 rfl) ?_
  refine q_goi (wr := [(q_G, .inr (10, [u_G_0, .ref q_sound, u_G_2, u_G_3, u_G_4, u_G_5, u_G_6, u_G_7, u_G_8]))]) (va_runVN (As := [.int x1]) (rest := []) C (k_X5_hasWave l dC dI cB cI cJ cZ cS (q_sound) (u_sound_0) (u_sound_1) (u_sound_2) (u_sound_3) (u_sound_4) (u_sound_5) (u_sound_7) (u_sound_8) (u_sound_9) x1 _) ⟨va_cnB 1 hts gX10_drawn_X5_hasWave_n108 rfl rfl rfl (hN _ nwM_X10_108 rfl) (hts _ I_X5) (by decide +kernel) ⟨Nat.le_of_ble_eq_true rfl, Nat.le_of_ble_eq_true rfl⟩, hts _ N_X5_hasWave, hts _ E_X5_hasWave⟩ (q_preV hK hP (ci := 5) (q0 := 1) rfl rfl rfl (q_pre hN hK hP hD [1] rfl (by decide))) rfl rfl hl.1 rfl (lv_room (Nat.le_of_ble_eq_true rfl)) dX10_drawn_5 ⟨Nat.le_of_ble_eq_true rfl, Nat.le_of_ble_eq_true rfl⟩) hP hD hS hA [1] [0] rfl rfl (by decide) (by decide) (fun r w1 H locs hw hP hD hS => ?_)
  obtain ⟨rfl, rfl⟩ := hw
  have hP : va_P (dC, dI) vwCl [(q_G, .inr (10, [u_G_0, .ref q_sound, u_G_2, u_G_3, u_G_4, u_G_5, u_G_6, u_G_7, u_G_8])), (q_sound, .inr (5, [u_sound_0, u_sound_1, u_sound_2, u_sound_3, u_sound_4, u_sound_5, .int 0, u_sound_7, u_sound_8, u_sound_9]))] H := hP.sub [0, 1] rfl
  have hD : va_D A [(q_G, .inr (10, [u_G_0, .ref q_sound, u_G_2, u_G_3, u_G_4, u_G_5, u_G_6, u_G_7, u_G_8])), (q_sound, .inr (5, [u_sound_0, u_sound_1, u_sound_2, u_sound_3, u_sound_4, u_sound_5, .int 0, u_sound_7, u_sound_8, u_sound_9]))] := hD.sub [0, 1] (by decide) rfl
  refine lv_if_eq (tgt := 22) hx hb dX10_drawn_8 (by decide) (fun _ => ?_) (fun h => absurd (by decide +kernel) h)
  refine lv_iconst (v := (-1)) hx hb dX10_drawn_22 (by decide) ?_
  exact q_iret C hr hlocks hK hP hD hS (Nat.le_of_ble_eq_true rfl) (Nat.le_of_ble_eq_true rfl) dX10_drawn_23 (rfl)

set_option maxHeartbeats 4000000 in
set_option maxRecDepth 100000 in
theorem k_X10_tell (l : Launch) (dC : Nat → ClassId) (dI : Nat → Nat → Nat) (cB cI cJ cZ cS : ClassId) (q_G : Nat) (q_sound : Nat) (u_G_0 : Value) (u_G_2 : Value) (u_G_3 : Value) (u_G_4 : Value) (u_G_5 : Value) (u_G_6 : Value) (u_G_7 : Value) (u_G_8 : Value) (u_sound_0 : Value) (u_sound_1 : Value) (u_sound_2 : Value) (u_sound_3 : Value) (u_sound_4 : Value) (u_sound_5 : Value) (u_sound_7 : Value) (u_sound_8 : Value) (u_sound_9 : Value) (x1 : Int32) (x2 : Int32) (x3 : Int32) : CI l yX10_tell wsX10_tell ({ frames := 1, cells := 0, slots := 0, locals := 21 }) (dC, dI) (tysA cB cI cJ cZ cS) [(q_G, .inr (10, [u_G_0, .ref q_sound, u_G_2, u_G_3, u_G_4, u_G_5, u_G_6, u_G_7, u_G_8])), (q_sound, .inr (5, [u_sound_0, u_sound_1, u_sound_2, u_sound_3, u_sound_4, u_sound_5, .int 0, u_sound_7, u_sound_8, u_sound_9]))] [.ref q_G, .int x1, .int x2, .int x3] (fun r _ => r = (-1)) := by
  refine open_I (cc := cX10_tell) (maxL := 4) (ret := (some .int)) (by decide) rfl (Nat.le_of_ble_eq_true rfl) ?_
  intro p e s m below meth c A ls E
  obtain ⟨C, hr, hlocks, hnm, hA, hP, hK, hD, hN, hl⟩ := E
  obtain ⟨hx, hb, hml, hown, hts⟩ := id C
  have hS : va_S A s.heap s.heap [] := va_S.rf
  have hl : lv_has ls 4 [(0, .ref q_G), (1, .int x1), (2, .int x2), (3, .int x3)] := hl
  have inX10 : ∀ w ∈ u_ws RX10 TX10 9, w ∈ wsX10_tell := fun _ h => List.mem_cons_of_mem _ (List.mem_append_left _ (List.mem_append_left _ (List.mem_append_right _ h)))
  have E_X5_hasWave : Cond.selects RX5 yX5_hasWave yX5_hasWave ∈ wsX10_tell := by decide +kernel
  have I_X5 : Cond.initialized RX5 ∈ wsX10_tell := by decide +kernel
  have L19 : Cond.fieldLink RX10 19 "GuessFerry" "sound" "LGuessFerry$Sound;" ∈ wsX10_tell := by decide +kernel
  have N_X5_hasWave : Cond.instanceMethod yX5_hasWave ∈ wsX10_tell := by decide +kernel
  refine lv_aload_n hx hb dX10_tell_0 rfl (lv_at hl 0 rfl) ?_
  refine q_get (v := .ref q_sound) C inX10 hK hP 0 rfl rfl 1 (by decide) rfl L19 rfl dX10_tell_1 ?_
  refine lv_iload_n hx hb dX10_tell_4 rfl (lv_at hl 1 rfl) ?_
  refine q_goi (wr := [(q_G, .inr (10, [u_G_0, .ref q_sound, u_G_2, u_G_3, u_G_4, u_G_5, u_G_6, u_G_7, u_G_8]))]) (va_runVN (As := [.int x1]) (rest := []) C (k_X5_hasWave l dC dI cB cI cJ cZ cS (q_sound) (u_sound_0) (u_sound_1) (u_sound_2) (u_sound_3) (u_sound_4) (u_sound_5) (u_sound_7) (u_sound_8) (u_sound_9) x1 _) ⟨va_cnB 1 hts gX10_tell_X5_hasWave_n108 rfl rfl rfl (hN _ nwM_X10_108 rfl) (hts _ I_X5) (by decide +kernel) ⟨Nat.le_of_ble_eq_true rfl, Nat.le_of_ble_eq_true rfl⟩, hts _ N_X5_hasWave, hts _ E_X5_hasWave⟩ (q_preV hK hP (ci := 5) (q0 := 1) rfl rfl rfl (q_pre hN hK hP hD [1] rfl (by decide))) rfl rfl hl.1 rfl (lv_room (Nat.le_of_ble_eq_true rfl)) dX10_tell_5 ⟨Nat.le_of_ble_eq_true rfl, Nat.le_of_ble_eq_true rfl⟩) hP hD hS hA [1] [0] rfl rfl (by decide) (by decide) (fun r w1 H locs hw hP hD hS => ?_)
  obtain ⟨rfl, rfl⟩ := hw
  have hP : va_P (dC, dI) vwCl [(q_G, .inr (10, [u_G_0, .ref q_sound, u_G_2, u_G_3, u_G_4, u_G_5, u_G_6, u_G_7, u_G_8])), (q_sound, .inr (5, [u_sound_0, u_sound_1, u_sound_2, u_sound_3, u_sound_4, u_sound_5, .int 0, u_sound_7, u_sound_8, u_sound_9]))] H := hP.sub [0, 1] rfl
  have hD : va_D A [(q_G, .inr (10, [u_G_0, .ref q_sound, u_G_2, u_G_3, u_G_4, u_G_5, u_G_6, u_G_7, u_G_8])), (q_sound, .inr (5, [u_sound_0, u_sound_1, u_sound_2, u_sound_3, u_sound_4, u_sound_5, .int 0, u_sound_7, u_sound_8, u_sound_9]))] := hD.sub [0, 1] (by decide) rfl
  refine lv_if_eq (tgt := 22) hx hb dX10_tell_8 (by decide) (fun _ => ?_) (fun h => absurd (by decide +kernel) h)
  refine lv_iconst (v := (-1)) hx hb dX10_tell_22 (by decide) ?_
  exact q_iret C hr hlocks hK hP hD hS (Nat.le_of_ble_eq_true rfl) (Nat.le_of_ble_eq_true rfl) dX10_tell_23 (rfl)

set_option maxHeartbeats 4000000 in
set_option maxRecDepth 100000 in
theorem k_X10_forget (l : Launch) (dC : Nat → ClassId) (dI : Nat → Nat → Nat) (cB cI cJ cZ cS : ClassId) (q_G : Nat) (q_tellers : Nat) (u_G_0 : Value) (u_G_1 : Value) (u_G_2 : Value) (u_G_3 : Value) (u_G_4 : Value) (u_G_5 : Value) (u_G_6 : Value) (u_G_7 : Value) (u_tellers_0 : Value) (u_tellers_1 : Value) (u_tellers_2 : Value) (u_tellers_3 : Value) (u_tellers_4 : Value) (u_tellers_5 : Value) (u_tellers_6 : Value) : CI l yX10_forget wsX10_forget ({ frames := 0, cells := 0, slots := 0, locals := 0 }) (dC, dI) (tysA cB cI cJ cZ cS) [(q_G, .inr (10, [u_G_0, u_G_1, u_G_2, u_G_3, u_G_4, u_G_5, u_G_6, u_G_7, .ref q_tellers])), (q_tellers, .inr (8, [u_tellers_0, u_tellers_1, u_tellers_2, u_tellers_3, u_tellers_4, u_tellers_5, u_tellers_6, .int 0]))] [.ref q_G] (fun r _ => r = 0) := by
  refine open_I (cc := cX10_forget) (maxL := 2) (ret := (some .int)) (by decide) rfl (Nat.le_of_ble_eq_true rfl) ?_
  intro p e s m below meth c A ls E
  obtain ⟨C, hr, hlocks, hnm, hA, hP, hK, hD, hN, hl⟩ := E
  obtain ⟨hx, hb, hml, hown, hts⟩ := id C
  have hS : va_S A s.heap s.heap [] := va_S.rf
  have hl : lv_has ls 2 [(0, .ref q_G)] := hl
  have inX10 : ∀ w ∈ u_ws RX10 TX10 9, w ∈ wsX10_forget := fun _ h => List.mem_cons_of_mem _ (List.mem_append_left _ (List.mem_append_right _ h))
  have inX8 : ∀ w ∈ u_ws RX8 TX8 8, w ∈ wsX10_forget := fun _ h => List.mem_cons_of_mem _ (List.mem_append_right _ h)
  have L70 : Cond.fieldLink RX10 70 "GuessFerry" "tellers" "LGuessFerry$Tellers;" ∈ wsX10_forget := by decide +kernel
  refine lv_aload_n hx hb dX10_forget_0 rfl (lv_at hl 0 rfl) ?_
  refine q_get (v := .ref q_tellers) C inX10 hK hP 0 rfl rfl 8 (by decide) rfl L70 rfl dX10_forget_1 ?_
  refine q_getN (v := .int 0) C hN inX8 hK hP 1 rfl rfl 7 (by decide) rfl nwF_X10_102 rfl dX10_forget_4 ?_
  refine lv_istore_n (lv' := [(1, .int 0), (0, .ref q_G)]) hx hb dX10_forget_7 rfl hl (by decide) rfl (fun ls hl => ?_)
  refine lv_aload_n hx hb dX10_forget_8 rfl (lv_at hl 1 rfl) ?_
  refine q_get (v := .ref q_tellers) C inX10 hK hP 0 rfl rfl 8 (by decide) rfl L70 rfl dX10_forget_9 ?_
  refine lv_iconst (v := 0) hx hb dX10_forget_12 (by decide) ?_
  refine q_putN (ty := .int) (w2 := [(q_G, .inr (10, [u_G_0, u_G_1, u_G_2, u_G_3, u_G_4, u_G_5, u_G_6, u_G_7, .ref q_tellers])), (q_tellers, .inr (8, [u_tellers_0, u_tellers_1, u_tellers_2, u_tellers_3, u_tellers_4, u_tellers_5, u_tellers_6, .int 0]))]) tyX8 tyX8_ok nmX8 C hN inX8 hK hP hD hS 1 rfl rfl 7 (by decide) rfl nwF_X10_102 rfl (by decide +kernel) (rfl) rfl (Nat.le_of_ble_eq_true rfl) dX10_forget_13 rfl (fun H locs hP hD hS => ?_)
  refine lv_iload_n hx hb dX10_forget_16 rfl (lv_at hl 0 rfl) ?_
  exact q_iret C hr hlocks hK hP hD hS (Nat.le_of_ble_eq_true rfl) (Nat.le_of_ble_eq_true rfl) dX10_forget_17 (rfl)

set_option maxHeartbeats 4000000 in
set_option maxRecDepth 100000 in
theorem k_X10_alike (l : Launch) (dC : Nat → ClassId) (dI : Nat → Nat → Nat) (cB cI cJ cZ cS : ClassId) (q_G : Nat) (q_sound : Nat) (u_G_0 : Value) (u_G_2 : Value) (u_G_3 : Value) (u_G_4 : Value) (u_G_5 : Value) (u_G_6 : Value) (u_G_7 : Value) (u_G_8 : Value) (u_sound_0 : Value) (u_sound_1 : Value) (u_sound_2 : Value) (u_sound_3 : Value) (u_sound_4 : Value) (u_sound_5 : Value) (u_sound_7 : Value) (u_sound_9 : Value) (x1 : Int32) (x2 : Int32) : CI l yX10_alike wsX10_alike ({ frames := 1, cells := 0, slots := 0, locals := 21 }) (dC, dI) (tysA cB cI cJ cZ cS) [(q_G, .inr (10, [u_G_0, .ref q_sound, u_G_2, u_G_3, u_G_4, u_G_5, u_G_6, u_G_7, u_G_8])), (q_sound, .inr (5, [u_sound_0, u_sound_1, u_sound_2, u_sound_3, u_sound_4, u_sound_5, .int 0, u_sound_7, .int 1, u_sound_9]))] [.ref q_G, .int x1, .int x2] (fun r _ => r = (fr_alike x1 x2)) := by
  refine open_I (cc := cX10_alike) (maxL := 4) (ret := (some .int)) (by decide) rfl (Nat.le_of_ble_eq_true rfl) ?_
  intro p e s m below meth c A ls E
  obtain ⟨C, hr, hlocks, hnm, hA, hP, hK, hD, hN, hl⟩ := E
  obtain ⟨hx, hb, hml, hown, hts⟩ := id C
  have hS : va_S A s.heap s.heap [] := va_S.rf
  have hl : lv_has ls 4 [(0, .ref q_G), (1, .int x1), (2, .int x2)] := hl
  have inX10 : ∀ w ∈ u_ws RX10 TX10 9, w ∈ wsX10_alike := fun _ h => List.mem_cons_of_mem _ (List.mem_append_left _ (List.mem_append_right _ h))
  have inX5 : ∀ w ∈ u_ws RX5 TX5 10, w ∈ wsX10_alike := fun _ h => List.mem_cons_of_mem _ (List.mem_append_right _ h)
  have E_X5_hasGuess : Cond.selects RX5 yX5_hasGuess yX5_hasGuess ∈ wsX10_alike := by decide +kernel
  have I_X5 : Cond.initialized RX5 ∈ wsX10_alike := by decide +kernel
  have L19 : Cond.fieldLink RX10 19 "GuessFerry" "sound" "LGuessFerry$Sound;" ∈ wsX10_alike := by decide +kernel
  have N_X5_hasGuess : Cond.instanceMethod yX5_hasGuess ∈ wsX10_alike := by decide +kernel
  refine lv_aload_n hx hb dX10_alike_0 rfl (lv_at hl 0 rfl) ?_
  refine q_get (v := .ref q_sound) C inX10 hK hP 0 rfl rfl 1 (by decide) rfl L19 rfl dX10_alike_1 ?_
  refine lv_iload_n hx hb dX10_alike_4 rfl (lv_at hl 1 rfl) ?_
  refine q_goi (wr := [(q_G, .inr (10, [u_G_0, .ref q_sound, u_G_2, u_G_3, u_G_4, u_G_5, u_G_6, u_G_7, u_G_8]))]) (va_runVN (As := [.int x1]) (rest := []) C (k_X5_hasGuess l dC dI cB cI cJ cZ cS (q_sound) (u_sound_0) (u_sound_1) (u_sound_2) (u_sound_3) (u_sound_4) (u_sound_5) (.int 0) (u_sound_7) (u_sound_9) x1 _) ⟨va_cnB 1 hts gX10_alike_X5_hasGuess_n170 rfl rfl rfl (hN _ nwM_X10_170 rfl) (hts _ I_X5) (by decide +kernel) ⟨Nat.le_of_ble_eq_true rfl, Nat.le_of_ble_eq_true rfl⟩, hts _ N_X5_hasGuess, hts _ E_X5_hasGuess⟩ (q_preV hK hP (ci := 5) (q0 := 1) rfl rfl rfl (q_pre hN hK hP hD [1] rfl (by decide))) rfl rfl hl.1 rfl (lv_room (Nat.le_of_ble_eq_true rfl)) dX10_alike_5 ⟨Nat.le_of_ble_eq_true rfl, Nat.le_of_ble_eq_true rfl⟩) hP hD hS hA [1] [0] rfl rfl (by decide) (by decide) (fun r w1 H locs hw hP hD hS => ?_)
  obtain ⟨rfl, rfl⟩ := hw
  have hP : va_P (dC, dI) vwCl [(q_G, .inr (10, [u_G_0, .ref q_sound, u_G_2, u_G_3, u_G_4, u_G_5, u_G_6, u_G_7, u_G_8])), (q_sound, .inr (5, [u_sound_0, u_sound_1, u_sound_2, u_sound_3, u_sound_4, u_sound_5, .int 0, u_sound_7, .int 1, u_sound_9]))] H := hP.sub [0, 1] rfl
  have hD : va_D A [(q_G, .inr (10, [u_G_0, .ref q_sound, u_G_2, u_G_3, u_G_4, u_G_5, u_G_6, u_G_7, u_G_8])), (q_sound, .inr (5, [u_sound_0, u_sound_1, u_sound_2, u_sound_3, u_sound_4, u_sound_5, .int 0, u_sound_7, .int 1, u_sound_9]))] := hD.sub [0, 1] (by decide) rfl
  refine lv_if_eq (tgt := 22) hx hb dX10_alike_8 (by decide) (fun c1 => ?_) (fun c1 => ?_)
  · skip
    refine lv_iconst (v := (-1)) hx hb dX10_alike_22 (by decide) ?_
    exact q_iret C hr hlocks hK hP hD hS (Nat.le_of_ble_eq_true rfl) (Nat.le_of_ble_eq_true rfl) dX10_alike_23 (by unfold fr_alike; rw [if_pos c1])
  · skip
    obtain rfl : x1 = 0 := sp_in_00 c1
    refine lv_aload_n hx hb dX10_alike_11 rfl (lv_at hl 0 rfl) ?_
    refine q_get (v := .ref q_sound) C inX10 hK hP 0 rfl rfl 1 (by decide) rfl L19 rfl dX10_alike_12 ?_
    refine lv_iload_n hx hb dX10_alike_15 rfl (lv_at hl 2 rfl) ?_
    refine q_goi (wr := [(q_G, .inr (10, [u_G_0, .ref q_sound, u_G_2, u_G_3, u_G_4, u_G_5, u_G_6, u_G_7, u_G_8]))]) (va_runVN (As := [.int x2]) (rest := []) C (k_X5_hasGuess l dC dI cB cI cJ cZ cS (q_sound) (u_sound_0) (u_sound_1) (u_sound_2) (u_sound_3) (u_sound_4) (u_sound_5) (.int 0) (u_sound_7) (u_sound_9) x2 _) ⟨va_cnB 1 hts gX10_alike_X5_hasGuess_n170 rfl rfl rfl (hN _ nwM_X10_170 rfl) (hts _ I_X5) (by decide +kernel) ⟨Nat.le_of_ble_eq_true rfl, Nat.le_of_ble_eq_true rfl⟩, hts _ N_X5_hasGuess, hts _ E_X5_hasGuess⟩ (q_preV hK hP (ci := 5) (q0 := 1) rfl rfl rfl (q_pre hN hK hP hD [1] rfl (by decide))) rfl rfl hl.1 rfl (lv_room (Nat.le_of_ble_eq_true rfl)) dX10_alike_16 ⟨Nat.le_of_ble_eq_true rfl, Nat.le_of_ble_eq_true rfl⟩) hP hD hS hA [1] [0] rfl rfl (by decide) (by decide) (fun r w1 H locs hw hP hD hS => ?_)
    obtain ⟨rfl, rfl⟩ := hw
    have hP : va_P (dC, dI) vwCl [(q_G, .inr (10, [u_G_0, .ref q_sound, u_G_2, u_G_3, u_G_4, u_G_5, u_G_6, u_G_7, u_G_8])), (q_sound, .inr (5, [u_sound_0, u_sound_1, u_sound_2, u_sound_3, u_sound_4, u_sound_5, .int 0, u_sound_7, .int 1, u_sound_9]))] H := hP.sub [0, 1] rfl
    have hD : va_D A [(q_G, .inr (10, [u_G_0, .ref q_sound, u_G_2, u_G_3, u_G_4, u_G_5, u_G_6, u_G_7, u_G_8])), (q_sound, .inr (5, [u_sound_0, u_sound_1, u_sound_2, u_sound_3, u_sound_4, u_sound_5, .int 0, u_sound_7, .int 1, u_sound_9]))] := hD.sub [0, 1] (by decide) rfl
    refine lv_if_ne (tgt := 24) hx hb dX10_alike_19 (by decide) (fun c2 => ?_) (fun c2 => ?_)
    · skip
      obtain rfl : x2 = 0 := sp_in_00 c2
      refine lv_iconst (v := 0) hx hb dX10_alike_24 (by decide) ?_
      refine lv_istore_n (lv' := [(3, .int 0), (0, .ref q_G), (1, .int 0), (2, .int 0)]) hx hb dX10_alike_25 rfl hl (by decide) rfl (fun ls hl => ?_)
      refine lv_iload_n hx hb dX10_alike_26 rfl (lv_at hl 0 rfl) ?_
      refine lv_aload_n hx hb dX10_alike_27 rfl (lv_at hl 1 rfl) ?_
      refine q_get (v := .ref q_sound) C inX10 hK hP 0 rfl rfl 1 (by decide) rfl L19 rfl dX10_alike_28 ?_
      refine q_getN (v := .int 0) C hN inX5 hK hP 1 rfl rfl 6 (by decide) rfl nwF_X10_167 rfl dX10_alike_31 ?_
      refine lv_icmp_ge (tgt := 56) hx hb dX10_alike_34 (by decide) (fun _ => ?_) (fun h => absurd (by decide +kernel) h)
      refine lv_iload_n hx hb dX10_alike_56 rfl (lv_at hl 0 rfl) ?_
      exact q_iret C hr hlocks hK hP hD hS (Nat.le_of_ble_eq_true rfl) (Nat.le_of_ble_eq_true rfl) dX10_alike_57 (by decide +kernel)
    · skip
      refine lv_iconst (v := (-1)) hx hb dX10_alike_22 (by decide) ?_
      exact q_iret C hr hlocks hK hP hD hS (Nat.le_of_ble_eq_true rfl) (Nat.le_of_ble_eq_true rfl) dX10_alike_23 (by unfold fr_alike; rw [if_neg (by decide +kernel), if_pos c2])
