theorem dX0_passYears_0 : decode cX0_passYears 0 = .ok (.iconst 0, 1) := by decide +kernel
theorem dX0_passYears_1 : decode cX0_passYears 1 = .ok (.istore_n 3, 1) := by decide +kernel
theorem dX0_passYears_2 : decode cX0_passYears 2 = .ok (.iload_n 3, 1) := by decide +kernel
theorem dX0_passYears_3 : decode cX0_passYears 3 = .ok (.iload_n 2, 1) := by decide +kernel
theorem dX0_passYears_4 : decode cX0_passYears 4 = .ok (.if_icmp .ge 47, 3) := by decide +kernel
theorem dX0_passYears_7 : decode cX0_passYears 7 = .ok (.iconst 0, 1) := by decide +kernel
theorem dX0_passYears_8 : decode cX0_passYears 8 = .ok (.istore 4, 2) := by decide +kernel
theorem dX0_passYears_10 : decode cX0_passYears 10 = .ok (.iload 4, 2) := by decide +kernel
theorem dX0_passYears_12 : decode cX0_passYears 12 = .ok (.aload_n 0, 1) := by decide +kernel
theorem dX0_passYears_13 : decode cX0_passYears 13 = .ok (.getfield 9, 3) := by decide +kernel
theorem dX0_passYears_16 : decode cX0_passYears 16 = .ok (.getfield 50, 3) := by decide +kernel
theorem dX0_passYears_19 : decode cX0_passYears 19 = .ok (.if_icmp .ge 16, 3) := by decide +kernel
theorem dX0_passYears_35 : decode cX0_passYears 35 = .ok (.aload_n 1, 1) := by decide +kernel
theorem dX0_passYears_36 : decode cX0_passYears 36 = .ok (.dup, 1) := by decide +kernel
theorem dX0_passYears_37 : decode cX0_passYears 37 = .ok (.getfield 59, 3) := by decide +kernel
theorem dX0_passYears_40 : decode cX0_passYears 40 = .ok (.iconst 1, 1) := by decide +kernel
theorem dX0_passYears_41 : decode cX0_passYears 41 = .ok (.iadd, 1) := by decide +kernel
theorem dX0_passYears_42 : decode cX0_passYears 42 = .ok (.putfield 59, 3) := by decide +kernel
theorem dX0_passYears_45 : decode cX0_passYears 45 = .ok (.iinc 3 1, 3) := by decide +kernel
theorem dX0_passYears_48 : decode cX0_passYears 48 = .ok (.goto (-46), 3) := by decide +kernel
theorem dX0_passYears_51 : decode cX0_passYears 51 = .ok (.return_, 1) := by decide +kernel
set_option maxRecDepth 20000 in
theorem ggX3_remember_X6_copyFrom : GoodIn wsX3_remember wsX6_copyFrom := goodIn_r _ [7, 8, 9, 10, 11, 12, 13, 14, 15, 16, 17, 18, 24, 25, 26, 27, 28, 29, 30] (by decide +kernel) (by decide +kernel)
set_option maxRecDepth 20000 in
theorem gX3_remember_X6_copyFrom_n32 : GoodIn wsX3_remember (wsX6_copyFrom) := ggX3_remember_X6_copyFrom
theorem dX3_remember_0 : decode cX3_remember 0 = .ok (.aload_n 0, 1) := by decide +kernel
theorem dX3_remember_1 : decode cX3_remember 1 = .ok (.getfield 11, 3) := by decide +kernel
theorem dX3_remember_4 : decode cX3_remember 4 = .ok (.aload_n 0, 1) := by decide +kernel
theorem dX3_remember_5 : decode cX3_remember 5 = .ok (.getfield 29, 3) := by decide +kernel
theorem dX3_remember_8 : decode cX3_remember 8 = .ok (.aload_n 0, 1) := by decide +kernel
theorem dX3_remember_9 : decode cX3_remember 9 = .ok (.getfield 25, 3) := by decide +kernel
theorem dX3_remember_12 : decode cX3_remember 12 = .ok (.iadd, 1) := by decide +kernel
theorem dX3_remember_13 : decode cX3_remember 13 = .ok (.bipush 40, 2) := by decide +kernel
theorem dX3_remember_15 : decode cX3_remember 15 = .ok (.irem, 1) := by decide +kernel
theorem dX3_remember_16 : decode cX3_remember 16 = .ok (.aaload, 1) := by decide +kernel
theorem dX3_remember_17 : decode cX3_remember 17 = .ok (.aload_n 1, 1) := by decide +kernel
theorem dX3_remember_18 : decode cX3_remember 18 = .ok (.invokevirtual 32, 3) := by decide +kernel
theorem dX3_remember_21 : decode cX3_remember 21 = .ok (.aload_n 0, 1) := by decide +kernel
theorem dX3_remember_22 : decode cX3_remember 22 = .ok (.getfield 25, 3) := by decide +kernel
theorem dX3_remember_25 : decode cX3_remember 25 = .ok (.bipush 40, 2) := by decide +kernel
theorem dX3_remember_27 : decode cX3_remember 27 = .ok (.if_icmp .ge 16, 3) := by decide +kernel
theorem dX3_remember_30 : decode cX3_remember 30 = .ok (.aload_n 0, 1) := by decide +kernel
theorem dX3_remember_31 : decode cX3_remember 31 = .ok (.dup, 1) := by decide +kernel
theorem dX3_remember_32 : decode cX3_remember 32 = .ok (.getfield 25, 3) := by decide +kernel
theorem dX3_remember_35 : decode cX3_remember 35 = .ok (.iconst 1, 1) := by decide +kernel
theorem dX3_remember_36 : decode cX3_remember 36 = .ok (.iadd, 1) := by decide +kernel
theorem dX3_remember_37 : decode cX3_remember 37 = .ok (.putfield 25, 3) := by decide +kernel
theorem dX3_remember_40 : decode cX3_remember 40 = .ok (.goto 16, 3) := by decide +kernel
theorem dX3_remember_56 : decode cX3_remember 56 = .ok (.return_, 1) := by decide +kernel
theorem dX10_back_0 : decode cX10_back 0 = .ok (.iload_n 1, 1) := by decide +kernel
theorem dX10_back_1 : decode cX10_back 1 = .ok (.ifCond .lt 14, 3) := by decide +kernel
theorem dX10_back_4 : decode cX10_back 4 = .ok (.iload_n 1, 1) := by decide +kernel
theorem dX10_back_5 : decode cX10_back 5 = .ok (.aload_n 0, 1) := by decide +kernel
theorem dX10_back_6 : decode cX10_back 6 = .ok (.getfield 10, 3) := by decide +kernel
theorem dX10_back_9 : decode cX10_back 9 = .ok (.getfield 85, 3) := by decide +kernel
theorem dX10_back_12 : decode cX10_back 12 = .ok (.if_icmp .le 5, 3) := by decide +kernel
theorem dX10_back_15 : decode cX10_back 15 = .ok (.iconst (-1), 1) := by decide +kernel
theorem dX10_back_16 : decode cX10_back 16 = .ok (.ireturn, 1) := by decide +kernel
theorem dX10_back_17 : decode cX10_back 17 = .ok (.aload_n 0, 1) := by decide +kernel
theorem dX10_back_18 : decode cX10_back 18 = .ok (.getfield 10, 3) := by decide +kernel
theorem dX10_back_21 : decode cX10_back 21 = .ok (.dup, 1) := by decide +kernel
theorem dX10_back_22 : decode cX10_back 22 = .ok (.getfield 85, 3) := by decide +kernel
theorem dX10_back_25 : decode cX10_back 25 = .ok (.iload_n 1, 1) := by decide +kernel
theorem dX10_back_26 : decode cX10_back 26 = .ok (.isub, 1) := by decide +kernel
theorem dX10_back_27 : decode cX10_back 27 = .ok (.putfield 85, 3) := by decide +kernel
theorem dX10_back_30 : decode cX10_back 30 = .ok (.aload_n 0, 1) := by decide +kernel
theorem dX10_back_31 : decode cX10_back 31 = .ok (.getfield 10, 3) := by decide +kernel
theorem dX10_back_34 : decode cX10_back 34 = .ok (.getfield 85, 3) := by decide +kernel
theorem dX10_back_37 : decode cX10_back 37 = .ok (.ireturn, 1) := by decide +kernel
set_option maxRecDepth 20000 in
theorem ggX10_years_X3_remember : GoodIn wsX10_years wsX3_remember := goodIn_r _ [7, 8, 9, 10, 11, 12, 13, 14, 15, 16, 17, 18, 19, 20, 21, 22, 23, 24, 25, 115, 116, 117, 118, 119, 108, 109, 110, 111, 112, 113, 114] (by decide +kernel) (by decide +kernel)
set_option maxRecDepth 20000 in
theorem gX10_years_X3_remember_n173 : GoodIn wsX10_years (wsX3_remember) := ggX10_years_X3_remember
set_option maxRecDepth 20000 in
theorem ggX10_years_X0_passYears : GoodIn wsX10_years wsX0_passYears := goodIn_r _ [29, 30, 31, 32, 33, 27, 34, 35, 36, 37, 38, 39, 40, 41, 42, 43, 44, 45, 46, 47, 48, 49, 50, 51, 52, 53, 54, 55, 56, 57, 58, 59, 60, 61, 62, 63, 64, 65, 66, 67, 68, 69, 70, 71, 72, 73, 74, 75, 76, 77, 78, 79, 80, 81, 82, 83, 84, 85, 86, 87, 88, 89, 90, 91, 92, 93, 94, 95, 96, 97, 98, 120, 121, 122, 123, 124, 125, 126, 127, 128, 129, 130, 131, 108, 109, 110, 111, 112, 113, 114, 132, 133, 134, 135, 136, 137, 138, 139, 140] (by decide +kernel) (by decide +kernel)
set_option maxRecDepth 20000 in
theorem gX10_years_X0_passYears_n185 : GoodIn wsX10_years (wsX0_passYears) := ggX10_years_X0_passYears
theorem dX10_years_0 : decode cX10_years 0 = .ok (.iload_n 1, 1) := by decide +kernel
theorem dX10_years_1 : decode cX10_years 1 = .ok (.ifCond .lt 9, 3) := by decide +kernel
theorem dX10_years_4 : decode cX10_years 4 = .ok (.iload_n 1, 1) := by decide +kernel
theorem dX10_years_5 : decode cX10_years 5 = .ok (.bipush 40, 2) := by decide +kernel
theorem dX10_years_7 : decode cX10_years 7 = .ok (.if_icmp .le 5, 3) := by decide +kernel
theorem dX10_years_10 : decode cX10_years 10 = .ok (.iconst (-1), 1) := by decide +kernel
theorem dX10_years_11 : decode cX10_years 11 = .ok (.ireturn, 1) := by decide +kernel
theorem dX10_years_12 : decode cX10_years 12 = .ok (.iload_n 1, 1) := by decide +kernel
theorem dX10_years_13 : decode cX10_years 13 = .ok (.ifCond .le 26, 3) := by decide +kernel
theorem dX10_years_16 : decode cX10_years 16 = .ok (.aload_n 0, 1) := by decide +kernel
theorem dX10_years_17 : decode cX10_years 17 = .ok (.getfield 45, 3) := by decide +kernel
theorem dX10_years_20 : decode cX10_years 20 = .ok (.aload_n 0, 1) := by decide +kernel
theorem dX10_years_21 : decode cX10_years 21 = .ok (.getfield 35, 3) := by decide +kernel
theorem dX10_years_24 : decode cX10_years 24 = .ok (.invokevirtual 173, 3) := by decide +kernel
theorem dX10_years_27 : decode cX10_years 27 = .ok (.aload_n 0, 1) := by decide +kernel
theorem dX10_years_28 : decode cX10_years 28 = .ok (.getfield 54, 3) := by decide +kernel
theorem dX10_years_31 : decode cX10_years 31 = .ok (.aload_n 0, 1) := by decide +kernel
theorem dX10_years_32 : decode cX10_years 32 = .ok (.getfield 35, 3) := by decide +kernel
theorem dX10_years_35 : decode cX10_years 35 = .ok (.iload_n 1, 1) := by decide +kernel
theorem dX10_years_36 : decode cX10_years 36 = .ok (.invokevirtual 185, 3) := by decide +kernel
theorem dX10_years_39 : decode cX10_years 39 = .ok (.aload_n 0, 1) := by decide +kernel
theorem dX10_years_40 : decode cX10_years 40 = .ok (.getfield 35, 3) := by decide +kernel
theorem dX10_years_43 : decode cX10_years 43 = .ok (.getfield 189, 3) := by decide +kernel
theorem dX10_years_46 : decode cX10_years 46 = .ok (.ireturn, 1) := by decide +kernel
set_option maxRecDepth 20000 in
theorem ggX10_year_X5_hasGuess : GoodIn wsX10_year wsX5_hasGuess := goodIn_r _ [7, 8, 39, 40, 41, 42, 43, 44, 45, 46, 47, 48] (by decide +kernel) (by decide +kernel)
set_option maxRecDepth 20000 in
theorem gX10_year_X5_hasGuess_n170 : GoodIn wsX10_year (wsX5_hasGuess) := ggX10_year_X5_hasGuess
set_option maxRecDepth 20000 in
theorem ggX10_year_X0_guessThere : GoodIn wsX10_year wsX0_guessThere := goodIn_r _ [12, 13, 14, 5, 15, 16, 17, 18, 19, 20, 21, 22, 23, 24, 25, 26, 27, 28, 29, 49, 50, 39, 40, 41, 42, 43, 44, 45, 46, 47, 48, 51, 52, 53, 54, 55, 56, 57] (by decide +kernel) (by decide +kernel)
set_option maxRecDepth 20000 in
theorem gX10_year_X0_guessThere_n256 : GoodIn wsX10_year (wsX0_guessThere) := ggX10_year_X0_guessThere
theorem dX10_year_0 : decode cX10_year 0 = .ok (.aload_n 0, 1) := by decide +kernel
theorem dX10_year_1 : decode cX10_year 1 = .ok (.getfield 19, 3) := by decide +kernel
theorem dX10_year_4 : decode cX10_year 4 = .ok (.iload_n 1, 1) := by decide +kernel
theorem dX10_year_5 : decode cX10_year 5 = .ok (.invokevirtual 170, 3) := by decide +kernel
theorem dX10_year_8 : decode cX10_year 8 = .ok (.ifCond .eq 14, 3) := by decide +kernel
theorem dX10_year_11 : decode cX10_year 11 = .ok (.iload_n 2, 1) := by decide +kernel
theorem dX10_year_12 : decode cX10_year 12 = .ok (.iconst 1, 1) := by decide +kernel
theorem dX10_year_13 : decode cX10_year 13 = .ok (.if_icmp .lt 9, 3) := by decide +kernel
theorem dX10_year_16 : decode cX10_year 16 = .ok (.iload_n 2, 1) := by decide +kernel
theorem dX10_year_17 : decode cX10_year 17 = .ok (.bipush 20, 2) := by decide +kernel
theorem dX10_year_19 : decode cX10_year 19 = .ok (.if_icmp .le 5, 3) := by decide +kernel
theorem dX10_year_22 : decode cX10_year 22 = .ok (.iconst (-1), 1) := by decide +kernel
theorem dX10_year_23 : decode cX10_year 23 = .ok (.ireturn, 1) := by decide +kernel
theorem dX10_year_24 : decode cX10_year 24 = .ok (.iconst 0, 1) := by decide +kernel
theorem dX10_year_25 : decode cX10_year 25 = .ok (.istore_n 3, 1) := by decide +kernel
theorem dX10_year_26 : decode cX10_year 26 = .ok (.iconst 0, 1) := by decide +kernel
theorem dX10_year_27 : decode cX10_year 27 = .ok (.istore 4, 2) := by decide +kernel
theorem dX10_year_29 : decode cX10_year 29 = .ok (.iload 4, 2) := by decide +kernel
theorem dX10_year_31 : decode cX10_year 31 = .ok (.iload_n 2, 1) := by decide +kernel
theorem dX10_year_32 : decode cX10_year 32 = .ok (.if_icmp .ge 37, 3) := by decide +kernel
theorem dX10_year_35 : decode cX10_year 35 = .ok (.aload_n 0, 1) := by decide +kernel
theorem dX10_year_36 : decode cX10_year 36 = .ok (.getfield 54, 3) := by decide +kernel
theorem dX10_year_39 : decode cX10_year 39 = .ok (.aload_n 0, 1) := by decide +kernel
theorem dX10_year_40 : decode cX10_year 40 = .ok (.getfield 35, 3) := by decide +kernel
theorem dX10_year_43 : decode cX10_year 43 = .ok (.aload_n 0, 1) := by decide +kernel
theorem dX10_year_44 : decode cX10_year 44 = .ok (.getfield 19, 3) := by decide +kernel
theorem dX10_year_47 : decode cX10_year 47 = .ok (.getfield 253, 3) := by decide +kernel
theorem dX10_year_50 : decode cX10_year 50 = .ok (.iload 4, 2) := by decide +kernel
theorem dX10_year_52 : decode cX10_year 52 = .ok (.iadd, 1) := by decide +kernel
theorem dX10_year_53 : decode cX10_year 53 = .ok (.invokevirtual 256, 3) := by decide +kernel
theorem dX10_year_56 : decode cX10_year 56 = .ok (.iload_n 1, 1) := by decide +kernel
theorem dX10_year_57 : decode cX10_year 57 = .ok (.if_icmp .ne 6, 3) := by decide +kernel
theorem dX10_year_60 : decode cX10_year 60 = .ok (.iinc 3 1, 3) := by decide +kernel
theorem dX10_year_63 : decode cX10_year 63 = .ok (.iinc 4 1, 3) := by decide +kernel
theorem dX10_year_66 : decode cX10_year 66 = .ok (.goto (-37), 3) := by decide +kernel
theorem dX10_year_69 : decode cX10_year 69 = .ok (.iload_n 3, 1) := by decide +kernel
theorem dX10_year_70 : decode cX10_year 70 = .ok (.ireturn, 1) := by decide +kernel
set_option maxHeartbeats 4000000 in
set_option maxRecDepth 100000 in
theorem k_X10_back (l : Launch) (dC : Nat → ClassId) (dI : Nat → Nat → Nat) (cB cI cJ cZ cS : ClassId) (q_G : Nat) (q_tape : Nat) (u_G_1 : Value) (u_G_2 : Value) (u_G_3 : Value) (u_G_4 : Value) (u_G_5 : Value) (u_G_6 : Value) (u_G_7 : Value) (u_G_8 : Value) (u_tape_0 : Value) (x1 : Int32) : CI l yX10_back wsX10_back ({ frames := 0, cells := 0, slots := 0, locals := 0 }) (dC, dI) (tysA cB cI cJ cZ cS) [(q_G, .inr (10, [.ref q_tape, u_G_1, u_G_2, u_G_3, u_G_4, u_G_5, u_G_6, u_G_7, u_G_8])), (q_tape, .inr (7, [u_tape_0, .int 0]))] [.ref q_G, .int x1] (fun r _ => r = (fr_one 0 x1)) := by
  refine open_I (cc := cX10_back) (maxL := 2) (ret := (some .int)) (by decide) rfl (Nat.le_of_ble_eq_true rfl) ?_
  intro p e s m below meth c A ls E
  obtain ⟨C, hr, hlocks, hnm, hA, hP, hK, hD, hN, hl⟩ := E
  obtain ⟨hx, hb, hml, hown, hts⟩ := id C
  have hS : va_S A s.heap s.heap [] := va_S.rf
  have hl : lv_has ls 2 [(0, .ref q_G), (1, .int x1)] := hl
  have inX10 : ∀ w ∈ u_ws RX10 TX10 9, w ∈ wsX10_back := fun _ h => List.mem_cons_of_mem _ (List.mem_append_left _ (List.mem_append_right _ h))
  have inX7 : ∀ w ∈ u_ws RX7 TX7 2, w ∈ wsX10_back := fun _ h => List.mem_cons_of_mem _ (List.mem_append_right _ h)
  have L10 : Cond.fieldLink RX10 10 "GuessFerry" "tape" "LGuessFerry$Tape;" ∈ wsX10_back := by decide +kernel
  refine lv_iload_n hx hb dX10_back_0 rfl (lv_at hl 1 rfl) ?_
  refine lv_if_lt (tgt := 15) hx hb dX10_back_1 (by decide) (fun c1 => ?_) (fun c1 => ?_)
  · skip
    refine lv_iconst (v := (-1)) hx hb dX10_back_15 (by decide) ?_
    exact q_iret C hr hlocks hK hP hD hS (Nat.le_of_ble_eq_true rfl) (Nat.le_of_ble_eq_true rfl) dX10_back_16 (fr_one_lt c1)
  · skip
    refine lv_iload_n hx hb dX10_back_4 rfl (lv_at hl 1 rfl) ?_
    refine lv_aload_n hx hb dX10_back_5 rfl (lv_at hl 0 rfl) ?_
    refine q_get (v := .ref q_tape) C inX10 hK hP 0 rfl rfl 0 (by decide) rfl L10 rfl dX10_back_6 ?_
    refine q_getN (v := .int 0) C hN inX7 hK hP 1 rfl rfl 1 (by decide) rfl nwF_X10_85 rfl dX10_back_9 ?_
    refine lv_icmp_le (tgt := 17) hx hb dX10_back_12 (by decide) (fun c2 => ?_) (fun c2 => ?_)
    · skip
      obtain rfl : x1 = 0 := Int32.le_antisymm c2 (Int32.not_lt.mp c1)
      refine lv_aload_n hx hb dX10_back_17 rfl (lv_at hl 0 rfl) ?_
      refine q_get (v := .ref q_tape) C inX10 hK hP 0 rfl rfl 0 (by decide) rfl L10 rfl dX10_back_18 ?_
      refine lv_dup hx hb dX10_back_21 rfl ?_
      refine q_getN (v := .int 0) C hN inX7 hK hP 1 rfl rfl 1 (by decide) rfl nwF_X10_85 rfl dX10_back_22 ?_
      refine lv_iload_n hx hb dX10_back_25 rfl (lv_at hl 1 rfl) ?_
      refine lv_isub hx hb dX10_back_26 ?_
      refine q_top (y := 0) (by decide +kernel) ?_
      refine q_putN (ty := .int) (w2 := [(q_G, .inr (10, [.ref q_tape, u_G_1, u_G_2, u_G_3, u_G_4, u_G_5, u_G_6, u_G_7, u_G_8])), (q_tape, .inr (7, [u_tape_0, .int 0]))]) tyX7 tyX7_ok nmX7 C hN inX7 hK hP hD hS 1 rfl rfl 1 (by decide) rfl nwF_X10_85 rfl (by decide +kernel) (rfl) rfl (Nat.le_of_ble_eq_true rfl) dX10_back_27 rfl (fun H locs hP hD hS => ?_)
      refine lv_aload_n hx hb dX10_back_30 rfl (lv_at hl 0 rfl) ?_
      refine q_get (v := .ref q_tape) C inX10 hK hP 0 rfl rfl 0 (by decide) rfl L10 rfl dX10_back_31 ?_
      refine q_getN (v := .int 0) C hN inX7 hK hP 1 rfl rfl 1 (by decide) rfl nwF_X10_85 rfl dX10_back_34 ?_
      exact q_iret C hr hlocks hK hP hD hS (Nat.le_of_ble_eq_true rfl) (Nat.le_of_ble_eq_true rfl) dX10_back_37 (by decide +kernel)
    · skip
      refine lv_iconst (v := (-1)) hx hb dX10_back_15 (by decide) ?_
      exact q_iret C hr hlocks hK hP hD hS (Nat.le_of_ble_eq_true rfl) (Nat.le_of_ble_eq_true rfl) dX10_back_16 (fr_one_gt c2)

set_option maxHeartbeats 4000000 in
set_option maxRecDepth 100000 in
theorem k_X3_remember (l : Launch) (dC : Nat → ClassId) (dI : Nat → Nat → Nat) (cB cI cJ cZ cS : ClassId) (q_now : Nat) (q_now_found : Nat) (q_now_buoys : Nat) (q_now_shifted : Nat) (q_now_status : Nat) (q_now_goes : Nat) (q_ring0 : Nat) (q_ring0_found : Nat) (q_ring0_buoys : Nat) (q_ring0_shifted : Nat) (q_ring0_status : Nat) (q_ring0_goes : Nat) (q_past : Nat) (q_ring : Nat) (u_past_1 : Value) (u_past_2 : Value) (f_ring : Nat → Option Nat) (f_now_found : Nat → Int32) (f_ring0_found : Nat → Int32) (f_now_buoys : Nat → Int32) (f_ring0_buoys : Nat → Int32) (f_now_shifted : Nat → Int32) (f_ring0_shifted : Nat → Int32) (f_now_status : Nat → Int32) (f_ring0_status : Nat → Int32) (f_now_goes : Nat → Int32) (f_ring0_goes : Nat → Int32) (h_ring_0 : f_ring 0 = some q_ring0) : CV l yX3_remember wsX3_remember ({ frames := 2, cells := 0, slots := 0, locals := 85 }) (dC, dI) (tysA cB cI cJ cZ cS) [(q_past, .inr (3, [.ref q_ring, u_past_1, u_past_2, .int 0, .int 0])), (q_ring, .inl (cS, 40, .inr (.inr (.inr (.inr f_ring))))), (q_now, .inr (6, [.ref q_now_found, .ref q_now_buoys, .ref q_now_shifted, .ref q_now_status, .ref q_now_goes, .int 0, .int 0])), (q_ring0, .inr (6, [.ref q_ring0_found, .ref q_ring0_buoys, .ref q_ring0_shifted, .ref q_ring0_status, .ref q_ring0_goes, .int 0, .int 0])), (q_now_found, .inl (cI, 5, .inl f_now_found)), (q_ring0_found, .inl (cI, 5, .inl f_ring0_found)), (q_now_buoys, .inl (cI, 5, .inl f_now_buoys)), (q_ring0_buoys, .inl (cI, 5, .inl f_ring0_buoys)), (q_now_shifted, .inl (cI, 5, .inl f_now_shifted)), (q_ring0_shifted, .inl (cI, 5, .inl f_ring0_shifted)), (q_now_status, .inl (cI, 6, .inl f_now_status)), (q_ring0_status, .inl (cI, 6, .inl f_ring0_status)), (q_now_goes, .inl (cI, 6, .inl f_now_goes)), (q_ring0_goes, .inl (cI, 6, .inl f_ring0_goes))] [.ref q_past, .ref q_now] (fun w => w = [(q_past, .inr (3, [.ref q_ring, u_past_1, u_past_2, .int 0, .int 1])), (q_ring, .inl (cS, 40, .inr (.inr (.inr (.inr f_ring))))), (q_now, .inr (6, [.ref q_now_found, .ref q_now_buoys, .ref q_now_shifted, .ref q_now_status, .ref q_now_goes, .int 0, .int 0])), (q_ring0, .inr (6, [.ref q_ring0_found, .ref q_ring0_buoys, .ref q_ring0_shifted, .ref q_ring0_status, .ref q_ring0_goes, .int 0, .int 0])), (q_now_found, .inl (cI, 5, .inl f_now_found)), (q_ring0_found, .inl (cI, 5, .inl (va_cpy f_now_found f_ring0_found 0 0 5))), (q_now_buoys, .inl (cI, 5, .inl f_now_buoys)), (q_ring0_buoys, .inl (cI, 5, .inl (va_cpy f_now_buoys f_ring0_buoys 0 0 5))), (q_now_shifted, .inl (cI, 5, .inl f_now_shifted)), (q_ring0_shifted, .inl (cI, 5, .inl (va_cpy f_now_shifted f_ring0_shifted 0 0 5))), (q_now_status, .inl (cI, 6, .inl f_now_status)), (q_ring0_status, .inl (cI, 6, .inl (va_cpy f_now_status f_ring0_status 0 0 6))), (q_now_goes, .inl (cI, 6, .inl f_now_goes)), (q_ring0_goes, .inl (cI, 6, .inl (va_cpy f_now_goes f_ring0_goes 0 0 6)))]) := by
  refine open_V (cc := cX3_remember) (maxL := 2) (ret := none) (by decide) rfl (Nat.le_of_ble_eq_true rfl) ?_
  intro p e s m below meth c A ls E
  obtain ⟨C, hr, hlocks, hnm, hA, hP, hK, hD, hN, hl⟩ := E
  obtain ⟨hx, hb, hml, hown, hts⟩ := id C
  have hS : va_S A s.heap s.heap [] := va_S.rf
  have hl : lv_has ls 2 [(0, .ref q_past), (1, .ref q_now)] := hl
  have inX3 : ∀ w ∈ u_ws RX3 TX3 5, w ∈ wsX3_remember := fun _ h => List.mem_cons_of_mem _ (List.mem_append_left _ (List.mem_append_right _ h))
  have E_X6_copyFrom : Cond.selects RX6 yX6_copyFrom yX6_copyFrom ∈ wsX3_remember := by decide +kernel
  have I_X6 : Cond.initialized RX6 ∈ wsX3_remember := by decide +kernel
  have L11 : Cond.fieldLink RX3 11 "GuessFerry$Past" "ring" "[LGuessFerry$Standing;" ∈ wsX3_remember := by decide +kernel
  have L25 : Cond.fieldLink RX3 25 "GuessFerry$Past" "size" "I" ∈ wsX3_remember := by decide +kernel
  have L29 : Cond.fieldLink RX3 29 "GuessFerry$Past" "first" "I" ∈ wsX3_remember := by decide +kernel
  have N_X6_copyFrom : Cond.instanceMethod yX6_copyFrom ∈ wsX3_remember := by decide +kernel
  refine lv_aload_n hx hb dX3_remember_0 rfl (lv_at hl 0 rfl) ?_
  refine q_get (v := .ref q_ring) C inX3 hK hP 0 rfl rfl 0 (by decide) rfl L11 rfl dX3_remember_1 ?_
  refine lv_aload_n hx hb dX3_remember_4 rfl (lv_at hl 0 rfl) ?_
  refine q_get (v := .int 0) C inX3 hK hP 0 rfl rfl 3 (by decide) rfl L29 rfl dX3_remember_5 ?_
  refine lv_aload_n hx hb dX3_remember_8 rfl (lv_at hl 0 rfl) ?_
  refine q_get (v := .int 0) C inX3 hK hP 0 rfl rfl 4 (by decide) rfl L25 rfl dX3_remember_9 ?_
  refine lv_iadd hx hb dX3_remember_12 ?_
  refine q_top (y := 0) (by decide +kernel) ?_
  refine lv_bipush (v := 40) hx hb dX3_remember_13 (by decide) ?_
  refine lv_irem hx hb dX3_remember_15 (by decide) ?_
  refine q_top (y := 0) (by decide +kernel) ?_
  refine q_aldq (x := q_ring0) C hK hP 1 4 rfl rfl (vp_lit (by decide +kernel)) dX3_remember_16 (h_ring_0) ?_
  refine lv_aload_n hx hb dX3_remember_17 rfl (lv_at hl 1 rfl) ?_
  refine q_gov (wr := [(q_past, .inr (3, [.ref q_ring, u_past_1, u_past_2, .int 0, .int 0])), (q_ring, .inl (cS, 40, .inr (.inr (.inr (.inr f_ring)))))]) (va_runVN (As := [.ref q_now]) (rest := []) C (k_X6_copyFrom l dC dI cB cI cJ cZ cS (q_now) (q_now_found) (q_now_buoys) (q_now_shifted) (q_now_status) (q_now_goes) (q_ring0) (q_ring0_found) (q_ring0_buoys) (q_ring0_shifted) (q_ring0_status) (q_ring0_goes) (f_now_found) (f_ring0_found) (f_now_buoys) (f_ring0_buoys) (f_now_shifted) (f_ring0_shifted) (f_now_status) (f_ring0_status) (f_now_goes) (f_ring0_goes) _) ⟨va_cnB 1 hts gX3_remember_X6_copyFrom_n32 rfl rfl rfl (hN _ nwM_X3_32 rfl) (hts _ I_X6) (by decide +kernel) ⟨Nat.le_of_ble_eq_true rfl, Nat.le_of_ble_eq_true rfl⟩, hts _ N_X6_copyFrom, hts _ E_X6_copyFrom⟩ (q_preV hK hP (ci := 6) (q0 := 3) rfl rfl rfl (q_pre hN hK hP hD [2, 3, 4, 5, 6, 7, 8, 9, 10, 11, 12, 13] rfl (by decide))) rfl rfl hl.1 rfl (lv_room (Nat.le_of_ble_eq_true rfl)) dX3_remember_18 ⟨Nat.le_of_ble_eq_true rfl, Nat.le_of_ble_eq_true rfl⟩) hP hD hS hA [2, 3, 4, 5, 6, 7, 8, 9, 10, 11, 12, 13] [0, 1] rfl rfl (by decide) (by decide) (fun w1 H locs hw hP hD hS => ?_)
  obtain rfl := hw
  have hP : va_P (dC, dI) vwCl [(q_past, .inr (3, [.ref q_ring, u_past_1, u_past_2, .int 0, .int 0])), (q_ring, .inl (cS, 40, .inr (.inr (.inr (.inr f_ring))))), (q_now, .inr (6, [.ref q_now_found, .ref q_now_buoys, .ref q_now_shifted, .ref q_now_status, .ref q_now_goes, .int 0, .int 0])), (q_ring0, .inr (6, [.ref q_ring0_found, .ref q_ring0_buoys, .ref q_ring0_shifted, .ref q_ring0_status, .ref q_ring0_goes, .int 0, .int 0])), (q_now_found, .inl (cI, 5, .inl f_now_found)), (q_ring0_found, .inl (cI, 5, .inl (va_cpy f_now_found f_ring0_found 0 0 5))), (q_now_buoys, .inl (cI, 5, .inl f_now_buoys)), (q_ring0_buoys, .inl (cI, 5, .inl (va_cpy f_now_buoys f_ring0_buoys 0 0 5))), (q_now_shifted, .inl (cI, 5, .inl f_now_shifted)), (q_ring0_shifted, .inl (cI, 5, .inl (va_cpy f_now_shifted f_ring0_shifted 0 0 5))), (q_now_status, .inl (cI, 6, .inl f_now_status)), (q_ring0_status, .inl (cI, 6, .inl (va_cpy f_now_status f_ring0_status 0 0 6))), (q_now_goes, .inl (cI, 6, .inl f_now_goes)), (q_ring0_goes, .inl (cI, 6, .inl (va_cpy f_now_goes f_ring0_goes 0 0 6)))] H := hP.sub [0, 1, 2, 3, 4, 5, 6, 7, 8, 9, 10, 11, 12, 13] rfl
  have hD : va_D A [(q_past, .inr (3, [.ref q_ring, u_past_1, u_past_2, .int 0, .int 0])), (q_ring, .inl (cS, 40, .inr (.inr (.inr (.inr f_ring))))), (q_now, .inr (6, [.ref q_now_found, .ref q_now_buoys, .ref q_now_shifted, .ref q_now_status, .ref q_now_goes, .int 0, .int 0])), (q_ring0, .inr (6, [.ref q_ring0_found, .ref q_ring0_buoys, .ref q_ring0_shifted, .ref q_ring0_status, .ref q_ring0_goes, .int 0, .int 0])), (q_now_found, .inl (cI, 5, .inl f_now_found)), (q_ring0_found, .inl (cI, 5, .inl (va_cpy f_now_found f_ring0_found 0 0 5))), (q_now_buoys, .inl (cI, 5, .inl f_now_buoys)), (q_ring0_buoys, .inl (cI, 5, .inl (va_cpy f_now_buoys f_ring0_buoys 0 0 5))), (q_now_shifted, .inl (cI, 5, .inl f_now_shifted)), (q_ring0_shifted, .inl (cI, 5, .inl (va_cpy f_now_shifted f_ring0_shifted 0 0 5))), (q_now_status, .inl (cI, 6, .inl f_now_status)), (q_ring0_status, .inl (cI, 6, .inl (va_cpy f_now_status f_ring0_status 0 0 6))), (q_now_goes, .inl (cI, 6, .inl f_now_goes)), (q_ring0_goes, .inl (cI, 6, .inl (va_cpy f_now_goes f_ring0_goes 0 0 6)))] := hD.sub [0, 1, 2, 3, 4, 5, 6, 7, 8, 9, 10, 11, 12, 13] (by decide) rfl
  refine lv_aload_n hx hb dX3_remember_21 rfl (lv_at hl 0 rfl) ?_
  refine q_get (v := .int 0) C inX3 hK hP 0 rfl rfl 4 (by decide) rfl L25 rfl dX3_remember_22 ?_
  refine lv_bipush (v := 40) hx hb dX3_remember_25 (by decide) ?_
  refine lv_icmp_ge (tgt := 43) hx hb dX3_remember_27 (by decide) (fun h => absurd h (by decide +kernel)) (fun _ => ?_)
  refine lv_aload_n hx hb dX3_remember_30 rfl (lv_at hl 0 rfl) ?_
  refine lv_dup hx hb dX3_remember_31 rfl ?_
  refine q_get (v := .int 0) C inX3 hK hP 0 rfl rfl 4 (by decide) rfl L25 rfl dX3_remember_32 ?_
  refine lv_iconst (v := 1) hx hb dX3_remember_35 (by decide) ?_
  refine lv_iadd hx hb dX3_remember_36 ?_
  refine q_top (y := 1) (by decide +kernel) ?_
  refine q_put (ty := .int) (w2 := [(q_past, .inr (3, [.ref q_ring, u_past_1, u_past_2, .int 0, .int 1])), (q_ring, .inl (cS, 40, .inr (.inr (.inr (.inr f_ring))))), (q_now, .inr (6, [.ref q_now_found, .ref q_now_buoys, .ref q_now_shifted, .ref q_now_status, .ref q_now_goes, .int 0, .int 0])), (q_ring0, .inr (6, [.ref q_ring0_found, .ref q_ring0_buoys, .ref q_ring0_shifted, .ref q_ring0_status, .ref q_ring0_goes, .int 0, .int 0])), (q_now_found, .inl (cI, 5, .inl f_now_found)), (q_ring0_found, .inl (cI, 5, .inl (va_cpy f_now_found f_ring0_found 0 0 5))), (q_now_buoys, .inl (cI, 5, .inl f_now_buoys)), (q_ring0_buoys, .inl (cI, 5, .inl (va_cpy f_now_buoys f_ring0_buoys 0 0 5))), (q_now_shifted, .inl (cI, 5, .inl f_now_shifted)), (q_ring0_shifted, .inl (cI, 5, .inl (va_cpy f_now_shifted f_ring0_shifted 0 0 5))), (q_now_status, .inl (cI, 6, .inl f_now_status)), (q_ring0_status, .inl (cI, 6, .inl (va_cpy f_now_status f_ring0_status 0 0 6))), (q_now_goes, .inl (cI, 6, .inl f_now_goes)), (q_ring0_goes, .inl (cI, 6, .inl (va_cpy f_now_goes f_ring0_goes 0 0 6)))]) tyX3 tyX3_ok nmX3 C inX3 hK hP hD hS 0 rfl rfl 4 (by decide) rfl L25 rfl (by decide +kernel) (rfl) rfl (Nat.le_of_ble_eq_true rfl) dX3_remember_37 rfl (fun H locs hP hD hS => ?_)
  refine lv_goto (tgt := 56) hx hb dX3_remember_40 (by decide) ?_
  exact q_vret C hr hlocks hK hP hD hS (Nat.le_of_ble_eq_true rfl) (Nat.le_of_ble_eq_true rfl) dX3_remember_56 (rfl)

set_option maxHeartbeats 4000000 in
set_option maxRecDepth 100000 in
theorem k_X0_passYears (l : Launch) (dC : Nat → ClassId) (dI : Nat → Nat → Nat) (cB cI cJ cZ cS : ClassId) (q_sound : Nat) (q_now : Nat) (q_crossing : Nat) (u_now_0 : Value) (u_now_1 : Value) (u_now_2 : Value) (u_now_3 : Value) (u_now_4 : Value) (u_now_6 : Value) (u_crossing_1 : Value) (u_sound_0 : Value) (u_sound_1 : Value) (u_sound_2 : Value) (u_sound_3 : Value) (u_sound_4 : Value) (u_sound_5 : Value) (u_sound_7 : Value) (u_sound_8 : Value) (u_sound_9 : Value) (n0 : Nat) (hn0 : n0 ≤ 40) : CV l yX0_passYears wsX0_passYears ({ frames := 0, cells := 0, slots := 0, locals := 0 }) (dC, dI) (tysA cB cI cJ cZ cS) [(q_now, .inr (6, [u_now_0, u_now_1, u_now_2, u_now_3, u_now_4, .int 0, u_now_6])), (q_crossing, .inr (0, [.ref q_sound, u_crossing_1])), (q_sound, .inr (5, [u_sound_0, u_sound_1, u_sound_2, u_sound_3, u_sound_4, u_sound_5, .int 0, u_sound_7, u_sound_8, u_sound_9]))] [.ref q_crossing, .ref q_now, .int (nI n0)] (fun w => w = [(q_now, .inr (6, [u_now_0, u_now_1, u_now_2, u_now_3, u_now_4, .int (nI n0), u_now_6])), (q_crossing, .inr (0, [.ref q_sound, u_crossing_1])), (q_sound, .inr (5, [u_sound_0, u_sound_1, u_sound_2, u_sound_3, u_sound_4, u_sound_5, .int 0, u_sound_7, u_sound_8, u_sound_9]))]) := by
  refine open_V (cc := cX0_passYears) (maxL := 5) (ret := none) (by decide) rfl (Nat.le_of_ble_eq_true rfl) ?_
  intro p e s m below meth c A ls E
  obtain ⟨C, hr, hlocks, hnm, hA, hP, hK, hD, hN, hl⟩ := E
  obtain ⟨hx, hb, hml, hown, hts⟩ := id C
  have hS : va_S A s.heap s.heap [] := va_S.rf
  have hl : lv_has ls 5 [(0, .ref q_crossing), (1, .ref q_now), (2, .int (nI n0))] := hl
  have inX0 : ∀ w ∈ u_ws RX0 TX0 2, w ∈ wsX0_passYears := by decide +kernel
  have inX5 : ∀ w ∈ u_ws RX5 TX5 10, w ∈ wsX0_passYears := by decide +kernel
  have inX6 : ∀ w ∈ u_ws RX6 TX6 7, w ∈ wsX0_passYears := by decide +kernel
  have L9 : Cond.fieldLink RX0 9 "GuessFerry$Crossing" "sound" "LGuessFerry$Sound;" ∈ wsX0_passYears := by decide +kernel
  refine lv_iconst (v := 0) hx hb dX0_passYears_0 (by decide) ?_
  refine lv_istore_n (lv' := [(3, .int 0), (0, .ref q_crossing), (1, .ref q_now), (2, .int (nI n0))]) hx hb dX0_passYears_1 rfl hl (by decide) rfl (fun ls hl => ?_)
  have loop1 : ∀ (n i : Nat), i + n = n0 → ∀ (H : Heap) (locs : List Loc) (ls : Array Slot), va_P (dC, dI) vwCl [(q_now, .inr (6, [u_now_0, u_now_1, u_now_2, u_now_3, u_now_4, .int (nI i), u_now_6])), (q_crossing, .inr (0, [.ref q_sound, u_crossing_1])), (q_sound, .inr (5, [u_sound_0, u_sound_1, u_sound_2, u_sound_3, u_sound_4, u_sound_5, .int 0, u_sound_7, u_sound_8, u_sound_9]))] H → va_D A [(q_now, .inr (6, [u_now_0, u_now_1, u_now_2, u_now_3, u_now_4, .int (nI i), u_now_6])), (q_crossing, .inr (0, [.ref q_sound, u_crossing_1])), (q_sound, .inr (5, [u_sound_0, u_sound_1, u_sound_2, u_sound_3, u_sound_4, u_sound_5, .int 0, u_sound_7, u_sound_8, u_sound_9]))] → va_S A s.heap H locs → lv_has ls 5 [(3, .int (nI i)), (0, .ref q_crossing), (1, .ref q_now), (2, .int (nI n0))] → W p l e ({ frames := 0, cells := 0, slots := 0, locals := 0 }) s m [Value.ref q_crossing, Value.ref q_now, Value.int (nI n0)].toArray below meth c H locs 0 0 (MQ below (va_Qv (fun w => w = [(q_now, .inr (6, [u_now_0, u_now_1, u_now_2, u_now_3, u_now_4, .int (nI n0), u_now_6])), (q_crossing, .inr (0, [.ref q_sound, u_crossing_1])), (q_sound, .inr (5, [u_sound_0, u_sound_1, u_sound_2, u_sound_3, u_sound_4, u_sound_5, .int 0, u_sound_7, u_sound_8, u_sound_9]))]) (at_W (dC, dI) (tysA cB cI cJ cZ cS) A) A) [Value.ref q_crossing, Value.ref q_now, Value.int (nI n0)].toArray s 0 0 A) (F0 m 2 ls []) := by
    intro n
    induction n with
    | zero =>
      intro i hi H locs ls hP hD hS hl
      obtain rfl : i = n0 := by omega
      refine lv_iload_n hx hb dX0_passYears_2 rfl (lv_at hl 0 rfl) ?_
      refine lv_iload_n hx hb dX0_passYears_3 rfl (lv_at hl 3 rfl) ?_
      refine lv_icmp_ge (tgt := 51) hx hb dX0_passYears_4 (by decide) (fun _ => ?_) (fun h => absurd (Int32.le_refl _) h)
      exact q_vret C hr hlocks hK hP hD hS (Nat.le_of_ble_eq_true rfl) (Nat.le_of_ble_eq_true rfl) dX0_passYears_51 (rfl)
    | succ n ih =>
      intro i hi H locs ls hP hD hS hl
      refine lv_iload_n hx hb dX0_passYears_2 rfl (lv_at hl 0 rfl) ?_
      refine lv_iload_n hx hb dX0_passYears_3 rfl (lv_at hl 3 rfl) ?_
      refine lv_icmp_ge (tgt := 51) hx hb dX0_passYears_4 (by decide) (fun h => absurd h (nI_ge (by omega) (by omega))) (fun _ => ?_)
      refine lv_iconst (v := 0) hx hb dX0_passYears_7 (by decide) ?_
      refine lv_istore (lv' := [(4, .int 0), (3, .int (nI i)), (0, .ref q_crossing), (1, .ref q_now), (2, .int (nI n0))]) hx hb dX0_passYears_8 hl (by decide) rfl (fun ls hl => ?_)
      refine lv_iload hx hb dX0_passYears_10 (lv_at hl 0 rfl) ?_
      refine lv_aload_n hx hb dX0_passYears_12 rfl (lv_at hl 2 rfl) ?_
      refine q_get (v := .ref q_sound) C inX0 hK hP 1 rfl rfl 0 (by decide) rfl L9 rfl dX0_passYears_13 ?_
      refine q_getN (v := .int 0) C hN inX5 hK hP 2 rfl rfl 6 (by decide) rfl nwF_X0_50 rfl dX0_passYears_16 ?_
      refine lv_icmp_ge (tgt := 35) hx hb dX0_passYears_19 (by decide) (fun _ => ?_) (fun h => absurd (by decide +kernel) h)
      refine lv_aload_n hx hb dX0_passYears_35 rfl (lv_at hl 3 rfl) ?_
      refine lv_dup hx hb dX0_passYears_36 rfl ?_
      refine q_getN (v := .int (nI i)) C hN inX6 hK hP 0 rfl rfl 5 (by decide) rfl nwF_X0_59 rfl dX0_passYears_37 ?_
      refine lv_iconst (v := 1) hx hb dX0_passYears_40 (by decide) ?_
      refine lv_iadd hx hb dX0_passYears_41 ?_
      refine q_top (y := (nI (i + 1))) (nI_add i 1) ?_
      refine q_putN (ty := .int) (w2 := [(q_now, .inr (6, [u_now_0, u_now_1, u_now_2, u_now_3, u_now_4, .int (nI (i + 1)), u_now_6])), (q_crossing, .inr (0, [.ref q_sound, u_crossing_1])), (q_sound, .inr (5, [u_sound_0, u_sound_1, u_sound_2, u_sound_3, u_sound_4, u_sound_5, .int 0, u_sound_7, u_sound_8, u_sound_9]))]) tyX6 tyX6_ok nmX6 C hN inX6 hK hP hD hS 0 rfl rfl 5 (by decide) rfl nwF_X0_59 rfl (by decide +kernel) (rfl) rfl (Nat.le_of_ble_eq_true rfl) dX0_passYears_42 rfl (fun H locs hP hD hS => ?_)
      refine lv_iinc (v := (nI (i + 1))) (lv' := [(3, .int (nI (i + 1))), (4, .int 0), (0, .ref q_crossing), (1, .ref q_now), (2, .int (nI n0))]) hx hb dX0_passYears_45 hl (k := 1) rfl (nI_1 i) (by decide) rfl (fun ls hl => ?_)
      refine lv_goto (tgt := 2) hx hb dX0_passYears_48 (by decide) ?_
      exact ih (i + 1) (by omega) H locs ls hP hD hS (lv_sub hl [0, 2, 3, 4] rfl)
  exact loop1 n0 0 (by omega) _ _ ls hP hD hS (lv_sub hl [0, 1, 2, 3] rfl)

set_option maxHeartbeats 4000000 in
set_option maxRecDepth 100000 in
theorem k_X10_years (l : Launch) (dC : Nat → ClassId) (dI : Nat → Nat → Nat) (cB cI cJ cZ cS : ClassId) (q_G : Nat) (q_sound : Nat) (q_now : Nat) (q_now_found : Nat) (q_now_buoys : Nat) (q_now_shifted : Nat) (q_now_status : Nat) (q_now_goes : Nat) (q_ring0 : Nat) (q_ring0_found : Nat) (q_ring0_buoys : Nat) (q_ring0_shifted : Nat) (q_ring0_status : Nat) (q_ring0_goes : Nat) (q_past : Nat) (q_ring : Nat) (q_crossing : Nat) (u_G_0 : Value) (u_G_1 : Value) (u_G_2 : Value) (u_G_4 : Value) (u_G_7 : Value) (u_G_8 : Value) (u_past_1 : Value) (u_past_2 : Value) (f_ring : Nat → Option Nat) (f_now_found : Nat → Int32) (f_ring0_found : Nat → Int32) (f_now_buoys : Nat → Int32) (f_ring0_buoys : Nat → Int32) (f_now_shifted : Nat → Int32) (f_ring0_shifted : Nat → Int32) (f_now_status : Nat → Int32) (f_ring0_status : Nat → Int32) (f_now_goes : Nat → Int32) (f_ring0_goes : Nat → Int32) (u_crossing_1 : Value) (u_sound_0 : Value) (u_sound_1 : Value) (u_sound_2 : Value) (u_sound_3 : Value) (u_sound_4 : Value) (u_sound_5 : Value) (u_sound_7 : Value) (u_sound_8 : Value) (u_sound_9 : Value) (h_ring_0 : f_ring 0 = some q_ring0) (x1 : Int32) : CI l yX10_years wsX10_years ({ frames := 3, cells := 0, slots := 0, locals := 106 }) (dC, dI) (tysA cB cI cJ cZ cS) [(q_G, .inr (10, [u_G_0, u_G_1, u_G_2, .ref q_now, u_G_4, .ref q_past, .ref q_crossing, u_G_7, u_G_8])), (q_now, .inr (6, [.ref q_now_found, .ref q_now_buoys, .ref q_now_shifted, .ref q_now_status, .ref q_now_goes, .int 0, .int 0])), (q_past, .inr (3, [.ref q_ring, u_past_1, u_past_2, .int 0, .int 0])), (q_ring, .inl (cS, 40, .inr (.inr (.inr (.inr f_ring))))), (q_ring0, .inr (6, [.ref q_ring0_found, .ref q_ring0_buoys, .ref q_ring0_shifted, .ref q_ring0_status, .ref q_ring0_goes, .int 0, .int 0])), (q_now_found, .inl (cI, 5, .inl f_now_found)), (q_ring0_found, .inl (cI, 5, .inl f_ring0_found)), (q_now_buoys, .inl (cI, 5, .inl f_now_buoys)), (q_ring0_buoys, .inl (cI, 5, .inl f_ring0_buoys)), (q_now_shifted, .inl (cI, 5, .inl f_now_shifted)), (q_ring0_shifted, .inl (cI, 5, .inl f_ring0_shifted)), (q_now_status, .inl (cI, 6, .inl f_now_status)), (q_ring0_status, .inl (cI, 6, .inl f_ring0_status)), (q_now_goes, .inl (cI, 6, .inl f_now_goes)), (q_ring0_goes, .inl (cI, 6, .inl f_ring0_goes)), (q_crossing, .inr (0, [.ref q_sound, u_crossing_1])), (q_sound, .inr (5, [u_sound_0, u_sound_1, u_sound_2, u_sound_3, u_sound_4, u_sound_5, .int 0, u_sound_7, u_sound_8, u_sound_9]))] [.ref q_G, .int x1] (fun r _ => r = (fr_years x1)) := by
  refine open_I (cc := cX10_years) (maxL := 2) (ret := (some .int)) (by decide) rfl (Nat.le_of_ble_eq_true rfl) ?_
  intro p e s m below meth c A ls E
  obtain ⟨C, hr, hlocks, hnm, hA, hP, hK, hD, hN, hl⟩ := E
  obtain ⟨hx, hb, hml, hown, hts⟩ := id C
  have hS : va_S A s.heap s.heap [] := va_S.rf
  have hl : lv_has ls 2 [(0, .ref q_G), (1, .int x1)] := hl
  have inX10 : ∀ w ∈ u_ws RX10 TX10 9, w ∈ wsX10_years := by decide +kernel
  have inX6 : ∀ w ∈ u_ws RX6 TX6 7, w ∈ wsX10_years := by decide +kernel
  have E_X0_passYears : Cond.selects RX0 yX0_passYears yX0_passYears ∈ wsX10_years := by decide +kernel
  have E_X3_remember : Cond.selects RX3 yX3_remember yX3_remember ∈ wsX10_years := by decide +kernel
  have I_X0 : Cond.initialized RX0 ∈ wsX10_years := by decide +kernel
  have I_X3 : Cond.initialized RX3 ∈ wsX10_years := by decide +kernel
  have L35 : Cond.fieldLink RX10 35 "GuessFerry" "now" "LGuessFerry$Standing;" ∈ wsX10_years := by decide +kernel
  have L45 : Cond.fieldLink RX10 45 "GuessFerry" "past" "LGuessFerry$Past;" ∈ wsX10_years := by decide +kernel
  have L54 : Cond.fieldLink RX10 54 "GuessFerry" "crossing" "LGuessFerry$Crossing;" ∈ wsX10_years := by decide +kernel
  have N_X0_passYears : Cond.instanceMethod yX0_passYears ∈ wsX10_years := by decide +kernel
  have N_X3_remember : Cond.instanceMethod yX3_remember ∈ wsX10_years := by decide +kernel
  refine lv_iload_n hx hb dX10_years_0 rfl (lv_at hl 1 rfl) ?_
  refine lv_if_lt (tgt := 10) hx hb dX10_years_1 (by decide) (fun c1 => ?_) (fun c1 => ?_)
  · skip
    refine lv_iconst (v := (-1)) hx hb dX10_years_10 (by decide) ?_
    exact q_iret C hr hlocks hK hP hD hS (Nat.le_of_ble_eq_true rfl) (Nat.le_of_ble_eq_true rfl) dX10_years_11 (fr_years_a c1)
  · skip
    refine lv_iload_n hx hb dX10_years_4 rfl (lv_at hl 1 rfl) ?_
    refine lv_bipush (v := 40) hx hb dX10_years_5 (by decide) ?_
    refine lv_icmp_le (tgt := 12) hx hb dX10_years_7 (by decide) (fun c2 => ?_) (fun c2 => ?_)
    · skip
      obtain ⟨n0, hn0, rfl⟩ := i32_0_40 c1 c2
      refine lv_iload_n hx hb dX10_years_12 rfl (lv_at hl 1 rfl) ?_
      refine lv_if_le (tgt := 39) hx hb dX10_years_13 (by decide) (fun c3 => ?_) (fun c3 => ?_)
      · skip
        refine lv_aload_n hx hb dX10_years_39 rfl (lv_at hl 0 rfl) ?_
        refine q_get (v := .ref q_now) C inX10 hK hP 0 rfl rfl 3 (by decide) rfl L35 rfl dX10_years_40 ?_
        refine q_getN (v := .int 0) C hN inX6 hK hP 1 rfl rfl 5 (by decide) rfl nwF_X10_189 rfl dX10_years_43 ?_
        exact q_iret C hr hlocks hK hP hD hS (Nat.le_of_ble_eq_true rfl) (Nat.le_of_ble_eq_true rfl) dX10_years_46 (fr_years_0 hn0 c3)
      · skip
        refine lv_aload_n hx hb dX10_years_16 rfl (lv_at hl 0 rfl) ?_
        refine q_get (v := .ref q_past) C inX10 hK hP 0 rfl rfl 5 (by decide) rfl L45 rfl dX10_years_17 ?_
        refine lv_aload_n hx hb dX10_years_20 rfl (lv_at hl 0 rfl) ?_
        refine q_get (v := .ref q_now) C inX10 hK hP 0 rfl rfl 3 (by decide) rfl L35 rfl dX10_years_21 ?_
        refine q_gov (wr := [(q_G, .inr (10, [u_G_0, u_G_1, u_G_2, .ref q_now, u_G_4, .ref q_past, .ref q_crossing, u_G_7, u_G_8])), (q_crossing, .inr (0, [.ref q_sound, u_crossing_1])), (q_sound, .inr (5, [u_sound_0, u_sound_1, u_sound_2, u_sound_3, u_sound_4, u_sound_5, .int 0, u_sound_7, u_sound_8, u_sound_9]))]) (va_runVN (As := [.ref q_now]) (rest := []) C (k_X3_remember l dC dI cB cI cJ cZ cS (q_now) (q_now_found) (q_now_buoys) (q_now_shifted) (q_now_status) (q_now_goes) (q_ring0) (q_ring0_found) (q_ring0_buoys) (q_ring0_shifted) (q_ring0_status) (q_ring0_goes) (q_past) (q_ring) (u_past_1) (u_past_2) (f_ring) (f_now_found) (f_ring0_found) (f_now_buoys) (f_ring0_buoys) (f_now_shifted) (f_ring0_shifted) (f_now_status) (f_ring0_status) (f_now_goes) (f_ring0_goes) h_ring_0 _) ⟨va_cnB 1 hts gX10_years_X3_remember_n173 rfl rfl rfl (hN _ nwM_X10_173 rfl) (hts _ I_X3) (by decide +kernel) ⟨Nat.le_of_ble_eq_true rfl, Nat.le_of_ble_eq_true rfl⟩, hts _ N_X3_remember, hts _ E_X3_remember⟩ (q_preV hK hP (ci := 3) (q0 := 2) rfl rfl rfl (q_pre hN hK hP hD [2, 3, 1, 4, 5, 6, 7, 8, 9, 10, 11, 12, 13, 14] rfl (by decide))) rfl rfl hl.1 rfl (lv_room (Nat.le_of_ble_eq_true rfl)) dX10_years_24 ⟨Nat.le_of_ble_eq_true rfl, Nat.le_of_ble_eq_true rfl⟩) hP hD hS hA [2, 3, 1, 4, 5, 6, 7, 8, 9, 10, 11, 12, 13, 14] [0, 15, 16] rfl rfl (by decide) (by decide) (fun w1 H locs hw hP hD hS => ?_)
        obtain rfl := hw
        have hP : va_P (dC, dI) vwCl [(q_G, .inr (10, [u_G_0, u_G_1, u_G_2, .ref q_now, u_G_4, .ref q_past, .ref q_crossing, u_G_7, u_G_8])), (q_now, .inr (6, [.ref q_now_found, .ref q_now_buoys, .ref q_now_shifted, .ref q_now_status, .ref q_now_goes, .int 0, .int 0])), (q_past, .inr (3, [.ref q_ring, u_past_1, u_past_2, .int 0, .int 1])), (q_ring, .inl (cS, 40, .inr (.inr (.inr (.inr f_ring))))), (q_ring0, .inr (6, [.ref q_ring0_found, .ref q_ring0_buoys, .ref q_ring0_shifted, .ref q_ring0_status, .ref q_ring0_goes, .int 0, .int 0])), (q_now_found, .inl (cI, 5, .inl f_now_found)), (q_ring0_found, .inl (cI, 5, .inl (va_cpy f_now_found f_ring0_found 0 0 5))), (q_now_buoys, .inl (cI, 5, .inl f_now_buoys)), (q_ring0_buoys, .inl (cI, 5, .inl (va_cpy f_now_buoys f_ring0_buoys 0 0 5))), (q_now_shifted, .inl (cI, 5, .inl f_now_shifted)), (q_ring0_shifted, .inl (cI, 5, .inl (va_cpy f_now_shifted f_ring0_shifted 0 0 5))), (q_now_status, .inl (cI, 6, .inl f_now_status)), (q_ring0_status, .inl (cI, 6, .inl (va_cpy f_now_status f_ring0_status 0 0 6))), (q_now_goes, .inl (cI, 6, .inl f_now_goes)), (q_ring0_goes, .inl (cI, 6, .inl (va_cpy f_now_goes f_ring0_goes 0 0 6))), (q_crossing, .inr (0, [.ref q_sound, u_crossing_1])), (q_sound, .inr (5, [u_sound_0, u_sound_1, u_sound_2, u_sound_3, u_sound_4, u_sound_5, .int 0, u_sound_7, u_sound_8, u_sound_9]))] H := hP.sub [0, 5, 3, 4, 6, 7, 8, 9, 10, 11, 12, 13, 14, 15, 16, 1, 2] rfl
        have hD : va_D A [(q_G, .inr (10, [u_G_0, u_G_1, u_G_2, .ref q_now, u_G_4, .ref q_past, .ref q_crossing, u_G_7, u_G_8])), (q_now, .inr (6, [.ref q_now_found, .ref q_now_buoys, .ref q_now_shifted, .ref q_now_status, .ref q_now_goes, .int 0, .int 0])), (q_past, .inr (3, [.ref q_ring, u_past_1, u_past_2, .int 0, .int 1])), (q_ring, .inl (cS, 40, .inr (.inr (.inr (.inr f_ring))))), (q_ring0, .inr (6, [.ref q_ring0_found, .ref q_ring0_buoys, .ref q_ring0_shifted, .ref q_ring0_status, .ref q_ring0_goes, .int 0, .int 0])), (q_now_found, .inl (cI, 5, .inl f_now_found)), (q_ring0_found, .inl (cI, 5, .inl (va_cpy f_now_found f_ring0_found 0 0 5))), (q_now_buoys, .inl (cI, 5, .inl f_now_buoys)), (q_ring0_buoys, .inl (cI, 5, .inl (va_cpy f_now_buoys f_ring0_buoys 0 0 5))), (q_now_shifted, .inl (cI, 5, .inl f_now_shifted)), (q_ring0_shifted, .inl (cI, 5, .inl (va_cpy f_now_shifted f_ring0_shifted 0 0 5))), (q_now_status, .inl (cI, 6, .inl f_now_status)), (q_ring0_status, .inl (cI, 6, .inl (va_cpy f_now_status f_ring0_status 0 0 6))), (q_now_goes, .inl (cI, 6, .inl f_now_goes)), (q_ring0_goes, .inl (cI, 6, .inl (va_cpy f_now_goes f_ring0_goes 0 0 6))), (q_crossing, .inr (0, [.ref q_sound, u_crossing_1])), (q_sound, .inr (5, [u_sound_0, u_sound_1, u_sound_2, u_sound_3, u_sound_4, u_sound_5, .int 0, u_sound_7, u_sound_8, u_sound_9]))] := hD.sub [0, 5, 3, 4, 6, 7, 8, 9, 10, 11, 12, 13, 14, 15, 16, 1, 2] (by decide) rfl
        refine lv_aload_n hx hb dX10_years_27 rfl (lv_at hl 0 rfl) ?_
        refine q_get (v := .ref q_crossing) C inX10 hK hP 0 rfl rfl 6 (by decide) rfl L54 rfl dX10_years_28 ?_
        refine lv_aload_n hx hb dX10_years_31 rfl (lv_at hl 0 rfl) ?_
        refine q_get (v := .ref q_now) C inX10 hK hP 0 rfl rfl 3 (by decide) rfl L35 rfl dX10_years_32 ?_
        refine lv_iload_n hx hb dX10_years_35 rfl (lv_at hl 1 rfl) ?_
        refine q_gov (wr := [(q_G, .inr (10, [u_G_0, u_G_1, u_G_2, .ref q_now, u_G_4, .ref q_past, .ref q_crossing, u_G_7, u_G_8])), (q_past, .inr (3, [.ref q_ring, u_past_1, u_past_2, .int 0, .int 1])), (q_ring, .inl (cS, 40, .inr (.inr (.inr (.inr f_ring))))), (q_ring0, .inr (6, [.ref q_ring0_found, .ref q_ring0_buoys, .ref q_ring0_shifted, .ref q_ring0_status, .ref q_ring0_goes, .int 0, .int 0])), (q_now_found, .inl (cI, 5, .inl f_now_found)), (q_ring0_found, .inl (cI, 5, .inl (va_cpy f_now_found f_ring0_found 0 0 5))), (q_now_buoys, .inl (cI, 5, .inl f_now_buoys)), (q_ring0_buoys, .inl (cI, 5, .inl (va_cpy f_now_buoys f_ring0_buoys 0 0 5))), (q_now_shifted, .inl (cI, 5, .inl f_now_shifted)), (q_ring0_shifted, .inl (cI, 5, .inl (va_cpy f_now_shifted f_ring0_shifted 0 0 5))), (q_now_status, .inl (cI, 6, .inl f_now_status)), (q_ring0_status, .inl (cI, 6, .inl (va_cpy f_now_status f_ring0_status 0 0 6))), (q_now_goes, .inl (cI, 6, .inl f_now_goes)), (q_ring0_goes, .inl (cI, 6, .inl (va_cpy f_now_goes f_ring0_goes 0 0 6)))]) (va_runVN (As := [.ref q_now, .int (nI n0)]) (rest := []) C (k_X0_passYears l dC dI cB cI cJ cZ cS (q_sound) (q_now) (q_crossing) (.ref q_now_found) (.ref q_now_buoys) (.ref q_now_shifted) (.ref q_now_status) (.ref q_now_goes) (.int 0) (u_crossing_1) (u_sound_0) (u_sound_1) (u_sound_2) (u_sound_3) (u_sound_4) (u_sound_5) (u_sound_7) (u_sound_8) (u_sound_9) n0 (hn0) _) ⟨va_cnB 2 hts gX10_years_X0_passYears_n185 rfl rfl rfl (hN _ nwM_X10_185 rfl) (hts _ I_X0) (by decide +kernel) ⟨Nat.le_of_ble_eq_true rfl, Nat.le_of_ble_eq_true rfl⟩, hts _ N_X0_passYears, hts _ E_X0_passYears⟩ (q_preV hK hP (ci := 0) (q0 := 15) rfl rfl rfl (q_pre hN hK hP hD [1, 15, 16] rfl (by decide))) rfl rfl hl.1 rfl (lv_room (Nat.le_of_ble_eq_true rfl)) dX10_years_36 ⟨Nat.le_of_ble_eq_true rfl, Nat.le_of_ble_eq_true rfl⟩) hP hD hS hA [1, 15, 16] [0, 2, 3, 4, 5, 6, 7, 8, 9, 10, 11, 12, 13, 14] rfl rfl (by decide) (by decide) (fun w1 H locs hw hP hD hS => ?_)
        obtain rfl := hw
        have hP : va_P (dC, dI) vwCl [(q_G, .inr (10, [u_G_0, u_G_1, u_G_2, .ref q_now, u_G_4, .ref q_past, .ref q_crossing, u_G_7, u_G_8])), (q_now, .inr (6, [.ref q_now_found, .ref q_now_buoys, .ref q_now_shifted, .ref q_now_status, .ref q_now_goes, .int (nI n0), .int 0])), (q_past, .inr (3, [.ref q_ring, u_past_1, u_past_2, .int 0, .int 1])), (q_ring, .inl (cS, 40, .inr (.inr (.inr (.inr f_ring))))), (q_ring0, .inr (6, [.ref q_ring0_found, .ref q_ring0_buoys, .ref q_ring0_shifted, .ref q_ring0_status, .ref q_ring0_goes, .int 0, .int 0])), (q_now_found, .inl (cI, 5, .inl f_now_found)), (q_ring0_found, .inl (cI, 5, .inl (va_cpy f_now_found f_ring0_found 0 0 5))), (q_now_buoys, .inl (cI, 5, .inl f_now_buoys)), (q_ring0_buoys, .inl (cI, 5, .inl (va_cpy f_now_buoys f_ring0_buoys 0 0 5))), (q_now_shifted, .inl (cI, 5, .inl f_now_shifted)), (q_ring0_shifted, .inl (cI, 5, .inl (va_cpy f_now_shifted f_ring0_shifted 0 0 5))), (q_now_status, .inl (cI, 6, .inl f_now_status)), (q_ring0_status, .inl (cI, 6, .inl (va_cpy f_now_status f_ring0_status 0 0 6))), (q_now_goes, .inl (cI, 6, .inl f_now_goes)), (q_ring0_goes, .inl (cI, 6, .inl (va_cpy f_now_goes f_ring0_goes 0 0 6))), (q_crossing, .inr (0, [.ref q_sound, u_crossing_1])), (q_sound, .inr (5, [u_sound_0, u_sound_1, u_sound_2, u_sound_3, u_sound_4, u_sound_5, .int 0, u_sound_7, u_sound_8, u_sound_9]))] H := hP.sub [0, 14, 1, 2, 3, 4, 5, 6, 7, 8, 9, 10, 11, 12, 13, 15, 16] rfl
        have hD : va_D A [(q_G, .inr (10, [u_G_0, u_G_1, u_G_2, .ref q_now, u_G_4, .ref q_past, .ref q_crossing, u_G_7, u_G_8])), (q_now, .inr (6, [.ref q_now_found, .ref q_now_buoys, .ref q_now_shifted, .ref q_now_status, .ref q_now_goes, .int (nI n0), .int 0])), (q_past, .inr (3, [.ref q_ring, u_past_1, u_past_2, .int 0, .int 1])), (q_ring, .inl (cS, 40, .inr (.inr (.inr (.inr f_ring))))), (q_ring0, .inr (6, [.ref q_ring0_found, .ref q_ring0_buoys, .ref q_ring0_shifted, .ref q_ring0_status, .ref q_ring0_goes, .int 0, .int 0])), (q_now_found, .inl (cI, 5, .inl f_now_found)), (q_ring0_found, .inl (cI, 5, .inl (va_cpy f_now_found f_ring0_found 0 0 5))), (q_now_buoys, .inl (cI, 5, .inl f_now_buoys)), (q_ring0_buoys, .inl (cI, 5, .inl (va_cpy f_now_buoys f_ring0_buoys 0 0 5))), (q_now_shifted, .inl (cI, 5, .inl f_now_shifted)), (q_ring0_shifted, .inl (cI, 5, .inl (va_cpy f_now_shifted f_ring0_shifted 0 0 5))), (q_now_status, .inl (cI, 6, .inl f_now_status)), (q_ring0_status, .inl (cI, 6, .inl (va_cpy f_now_status f_ring0_status 0 0 6))), (q_now_goes, .inl (cI, 6, .inl f_now_goes)), (q_ring0_goes, .inl (cI, 6, .inl (va_cpy f_now_goes f_ring0_goes 0 0 6))), (q_crossing, .inr (0, [.ref q_sound, u_crossing_1])), (q_sound, .inr (5, [u_sound_0, u_sound_1, u_sound_2, u_sound_3, u_sound_4, u_sound_5, .int 0, u_sound_7, u_sound_8, u_sound_9]))] := hD.sub [0, 14, 1, 2, 3, 4, 5, 6, 7, 8, 9, 10, 11, 12, 13, 15, 16] (by decide) rfl
        refine lv_aload_n hx hb dX10_years_39 rfl (lv_at hl 0 rfl) ?_
        refine q_get (v := .ref q_now) C inX10 hK hP 0 rfl rfl 3 (by decide) rfl L35 rfl dX10_years_40 ?_
        refine q_getN (v := .int (nI n0)) C hN inX6 hK hP 1 rfl rfl 5 (by decide) rfl nwF_X10_189 rfl dX10_years_43 ?_
        exact q_iret C hr hlocks hK hP hD hS (Nat.le_of_ble_eq_true rfl) (Nat.le_of_ble_eq_true rfl) dX10_years_46 (fr_years_v hn0)
    · skip
      refine lv_iconst (v := (-1)) hx hb dX10_years_10 (by decide) ?_
      exact q_iret C hr hlocks hK hP hD hS (Nat.le_of_ble_eq_true rfl) (Nat.le_of_ble_eq_true rfl) dX10_years_11 (fr_years_b c2)

set_option maxHeartbeats 4000000 in
set_option maxRecDepth 100000 in
theorem k_X10_year (l : Launch) (dC : Nat → ClassId) (dI : Nat → Nat → Nat) (cB cI cJ cZ cS : ClassId) (q_G : Nat) (q_sound : Nat) (q_now : Nat) (q_crossing : Nat) (u_G_0 : Value) (u_G_2 : Value) (u_G_4 : Value) (u_G_5 : Value) (u_G_7 : Value) (u_G_8 : Value) (u_sound_0 : Value) (u_sound_1 : Value) (u_sound_2 : Value) (u_sound_3 : Value) (u_sound_4 : Value) (u_sound_5 : Value) (u_sound_7 : Value) (u_crossing_1 : Value) (x1 : Int32) (x2 : Int32) : CI l yX10_year wsX10_year ({ frames := 1, cells := 0, slots := 0, locals := 24 }) (dC, dI) (tysA cB cI cJ cZ cS) [(q_G, .inr (10, [u_G_0, .ref q_sound, u_G_2, .ref q_now, u_G_4, u_G_5, .ref q_crossing, u_G_7, u_G_8])), (q_sound, .inr (5, [u_sound_0, u_sound_1, u_sound_2, u_sound_3, u_sound_4, u_sound_5, .int 0, u_sound_7, .int 1, .int 0])), (q_crossing, .inr (0, [.ref q_sound, u_crossing_1]))] [.ref q_G, .int x1, .int x2] (fun r _ => r = (fr_year x1 x2)) := by
  refine open_I (cc := cX10_year) (maxL := 5) (ret := (some .int)) (by decide) rfl (Nat.le_of_ble_eq_true rfl) ?_
  intro p e s m below meth c A ls E
  obtain ⟨C, hr, hlocks, hnm, hA, hP, hK, hD, hN, hl⟩ := E
  obtain ⟨hx, hb, hml, hown, hts⟩ := id C
  have hS : va_S A s.heap s.heap [] := va_S.rf
  have hl : lv_has ls 5 [(0, .ref q_G), (1, .int x1), (2, .int x2)] := hl
  have inX10 : ∀ w ∈ u_ws RX10 TX10 9, w ∈ wsX10_year := by decide +kernel
  have inX5 : ∀ w ∈ u_ws RX5 TX5 10, w ∈ wsX10_year := by decide +kernel
  have E_X0_guessThere : Cond.selects RX0 yX0_guessThere yX0_guessThere ∈ wsX10_year := by decide +kernel
  have E_X5_hasGuess : Cond.selects RX5 yX5_hasGuess yX5_hasGuess ∈ wsX10_year := by decide +kernel
  have I_X0 : Cond.initialized RX0 ∈ wsX10_year := by decide +kernel
  have I_X5 : Cond.initialized RX5 ∈ wsX10_year := by decide +kernel
  have L19 : Cond.fieldLink RX10 19 "GuessFerry" "sound" "LGuessFerry$Sound;" ∈ wsX10_year := by decide +kernel
  have L35 : Cond.fieldLink RX10 35 "GuessFerry" "now" "LGuessFerry$Standing;" ∈ wsX10_year := by decide +kernel
  have L54 : Cond.fieldLink RX10 54 "GuessFerry" "crossing" "LGuessFerry$Crossing;" ∈ wsX10_year := by decide +kernel
  have N_X0_guessThere : Cond.instanceMethod yX0_guessThere ∈ wsX10_year := by decide +kernel
  have N_X5_hasGuess : Cond.instanceMethod yX5_hasGuess ∈ wsX10_year := by decide +kernel
  refine lv_aload_n hx hb dX10_year_0 rfl (lv_at hl 0 rfl) ?_
  refine q_get (v := .ref q_sound) C inX10 hK hP 0 rfl rfl 1 (by decide) rfl L19 rfl dX10_year_1 ?_
  refine lv_iload_n hx hb dX10_year_4 rfl (lv_at hl 1 rfl) ?_
  refine q_goi (wr := [(q_G, .inr (10, [u_G_0, .ref q_sound, u_G_2, .ref q_now, u_G_4, u_G_5, .ref q_crossing, u_G_7, u_G_8])), (q_crossing, .inr (0, [.ref q_sound, u_crossing_1]))]) (va_runVN (As := [.int x1]) (rest := []) C (k_X5_hasGuess l dC dI cB cI cJ cZ cS (q_sound) (u_sound_0) (u_sound_1) (u_sound_2) (u_sound_3) (u_sound_4) (u_sound_5) (.int 0) (u_sound_7) (.int 0) x1 _) ⟨va_cnB 1 hts gX10_year_X5_hasGuess_n170 rfl rfl rfl (hN _ nwM_X10_170 rfl) (hts _ I_X5) (by decide +kernel) ⟨Nat.le_of_ble_eq_true rfl, Nat.le_of_ble_eq_true rfl⟩, hts _ N_X5_hasGuess, hts _ E_X5_hasGuess⟩ (q_preV hK hP (ci := 5) (q0 := 1) rfl rfl rfl (q_pre hN hK hP hD [1] rfl (by decide))) rfl rfl hl.1 rfl (lv_room (Nat.le_of_ble_eq_true rfl)) dX10_year_5 ⟨Nat.le_of_ble_eq_true rfl, Nat.le_of_ble_eq_true rfl⟩) hP hD hS hA [1] [0, 2] rfl rfl (by decide) (by decide) (fun r w1 H locs hw hP hD hS => ?_)
  obtain ⟨rfl, rfl⟩ := hw
  have hP : va_P (dC, dI) vwCl [(q_G, .inr (10, [u_G_0, .ref q_sound, u_G_2, .ref q_now, u_G_4, u_G_5, .ref q_crossing, u_G_7, u_G_8])), (q_sound, .inr (5, [u_sound_0, u_sound_1, u_sound_2, u_sound_3, u_sound_4, u_sound_5, .int 0, u_sound_7, .int 1, .int 0])), (q_crossing, .inr (0, [.ref q_sound, u_crossing_1]))] H := hP.sub [0, 2, 1] rfl
  have hD : va_D A [(q_G, .inr (10, [u_G_0, .ref q_sound, u_G_2, .ref q_now, u_G_4, u_G_5, .ref q_crossing, u_G_7, u_G_8])), (q_sound, .inr (5, [u_sound_0, u_sound_1, u_sound_2, u_sound_3, u_sound_4, u_sound_5, .int 0, u_sound_7, .int 1, .int 0])), (q_crossing, .inr (0, [.ref q_sound, u_crossing_1]))] := hD.sub [0, 2, 1] (by decide) rfl
  refine lv_if_eq (tgt := 22) hx hb dX10_year_8 (by decide) (fun c1 => ?_) (fun c1 => ?_)
  · skip
    refine lv_iconst (v := (-1)) hx hb dX10_year_22 (by decide) ?_
    exact q_iret C hr hlocks hK hP hD hS (Nat.le_of_ble_eq_true rfl) (Nat.le_of_ble_eq_true rfl) dX10_year_23 (by unfold fr_year; rw [if_pos c1])
  · skip
    obtain rfl : x1 = 0 := sp_in_00 c1
    refine lv_iload_n hx hb dX10_year_11 rfl (lv_at hl 2 rfl) ?_
    refine lv_iconst (v := 1) hx hb dX10_year_12 (by decide) ?_
    refine lv_icmp_lt (tgt := 22) hx hb dX10_year_13 (by decide) (fun c2 => ?_) (fun c2 => ?_)
    · skip
      refine lv_iconst (v := (-1)) hx hb dX10_year_22 (by decide) ?_
      exact q_iret C hr hlocks hK hP hD hS (Nat.le_of_ble_eq_true rfl) (Nat.le_of_ble_eq_true rfl) dX10_year_23 (fr_year_a c2)
    · skip
      refine lv_iload_n hx hb dX10_year_16 rfl (lv_at hl 2 rfl) ?_
      refine lv_bipush (v := 20) hx hb dX10_year_17 (by decide) ?_
      refine lv_icmp_le (tgt := 24) hx hb dX10_year_19 (by decide) (fun c3 => ?_) (fun c3 => ?_)
      · skip
        obtain ⟨n0, hn1, hn0, rfl⟩ := i32_1_20 c2 c3
        refine lv_iconst (v := 0) hx hb dX10_year_24 (by decide) ?_
        refine lv_istore_n (lv' := [(3, .int 0), (0, .ref q_G), (1, .int 0), (2, .int (nI n0))]) hx hb dX10_year_25 rfl hl (by decide) rfl (fun ls hl => ?_)
        refine lv_iconst (v := 0) hx hb dX10_year_26 (by decide) ?_
        refine lv_istore (lv' := [(4, .int 0), (3, .int 0), (0, .ref q_G), (1, .int 0), (2, .int (nI n0))]) hx hb dX10_year_27 hl (by decide) rfl (fun ls hl => ?_)
        have loop4 : ∀ (n i : Nat), i + n = n0 → ∀ (H : Heap) (locs : List Loc) (ls : Array Slot), va_P (dC, dI) vwCl [(q_G, .inr (10, [u_G_0, .ref q_sound, u_G_2, .ref q_now, u_G_4, u_G_5, .ref q_crossing, u_G_7, u_G_8])), (q_sound, .inr (5, [u_sound_0, u_sound_1, u_sound_2, u_sound_3, u_sound_4, u_sound_5, .int 0, u_sound_7, .int 1, .int 0])), (q_crossing, .inr (0, [.ref q_sound, u_crossing_1]))] H → va_D A [(q_G, .inr (10, [u_G_0, .ref q_sound, u_G_2, .ref q_now, u_G_4, u_G_5, .ref q_crossing, u_G_7, u_G_8])), (q_sound, .inr (5, [u_sound_0, u_sound_1, u_sound_2, u_sound_3, u_sound_4, u_sound_5, .int 0, u_sound_7, .int 1, .int 0])), (q_crossing, .inr (0, [.ref q_sound, u_crossing_1]))] → va_S A s.heap H locs → lv_has ls 5 [(4, .int (nI i)), (3, .int (nI i)), (0, .ref q_G), (1, .int 0), (2, .int (nI n0))] → W p l e ({ frames := 1, cells := 0, slots := 0, locals := 24 }) s m [Value.ref q_G, Value.int 0, Value.int (nI n0)].toArray below meth c H locs 0 0 (MQ below (va_Qi (fun r _ => r = (fr_year 0 (nI n0))) (at_W (dC, dI) (tysA cB cI cJ cZ cS) A) A) [Value.ref q_G, Value.int 0, Value.int (nI n0)].toArray s 0 0 A) (F0 m 29 ls []) := by
          intro n
          induction n with
          | zero =>
            intro i hi H locs ls hP hD hS hl
            obtain rfl : i = n0 := by omega
            refine lv_iload hx hb dX10_year_29 (lv_at hl 0 rfl) ?_
            refine lv_iload_n hx hb dX10_year_31 rfl (lv_at hl 4 rfl) ?_
            refine lv_icmp_ge (tgt := 69) hx hb dX10_year_32 (by decide) (fun _ => ?_) (fun h => absurd (Int32.le_refl _) h)
            refine lv_iload_n hx hb dX10_year_69 rfl (lv_at hl 1 rfl) ?_
            exact q_iret C hr hlocks hK hP hD hS (Nat.le_of_ble_eq_true rfl) (Nat.le_of_ble_eq_true rfl) dX10_year_70 (fr_year_v hn1 hn0)
          | succ n ih =>
            intro i hi H locs ls hP hD hS hl
            refine lv_iload hx hb dX10_year_29 (lv_at hl 0 rfl) ?_
            refine lv_iload_n hx hb dX10_year_31 rfl (lv_at hl 4 rfl) ?_
            refine lv_icmp_ge (tgt := 69) hx hb dX10_year_32 (by decide) (fun h => absurd h (nI_ge (by omega) (by omega))) (fun _ => ?_)
            refine lv_aload_n hx hb dX10_year_35 rfl (lv_at hl 2 rfl) ?_
            refine q_get (v := .ref q_crossing) C inX10 hK hP 0 rfl rfl 6 (by decide) rfl L54 rfl dX10_year_36 ?_
            refine lv_aload_n hx hb dX10_year_39 rfl (lv_at hl 2 rfl) ?_
            refine q_get (v := .ref q_now) C inX10 hK hP 0 rfl rfl 3 (by decide) rfl L35 rfl dX10_year_40 ?_
            refine lv_aload_n hx hb dX10_year_43 rfl (lv_at hl 2 rfl) ?_
            refine q_get (v := .ref q_sound) C inX10 hK hP 0 rfl rfl 1 (by decide) rfl L19 rfl dX10_year_44 ?_
            refine q_getN (v := .int 0) C hN inX5 hK hP 1 rfl rfl 9 (by decide) rfl nwF_X10_253 rfl dX10_year_47 ?_
            refine lv_iload hx hb dX10_year_50 (lv_at hl 0 rfl) ?_
            refine lv_iadd hx hb dX10_year_52 ?_
            refine q_top (y := (nI (0 + i))) (nI_add 0 i) ?_
            refine q_goi (wr := [(q_G, .inr (10, [u_G_0, .ref q_sound, u_G_2, .ref q_now, u_G_4, u_G_5, .ref q_crossing, u_G_7, u_G_8]))]) (va_runVN (As := [.ref q_now, .int (nI (0 + i))]) (rest := []) C (k_X0_guessThere l dC dI cB cI cJ cZ cS (q_sound) (q_now) (q_crossing) (u_crossing_1) (u_sound_0) (u_sound_1) (u_sound_2) (u_sound_3) (u_sound_4) (u_sound_5) (u_sound_7) (.int 1) (.int 0) (nI (0 + i)) _) ⟨va_cnB 2 hts gX10_year_X0_guessThere_n256 rfl rfl rfl (hN _ nwM_X10_256 rfl) (hts _ I_X0) (by decide +kernel) ⟨Nat.le_of_ble_eq_true rfl, Nat.le_of_ble_eq_true rfl⟩, hts _ N_X0_guessThere, hts _ E_X0_guessThere⟩ (q_preV hK hP (ci := 0) (q0 := 2) rfl rfl rfl (q_pre hN hK hP hD [2, 1] rfl (by decide))) rfl rfl hl.1 rfl (lv_room (Nat.le_of_ble_eq_true rfl)) dX10_year_53 ⟨Nat.le_of_ble_eq_true rfl, Nat.le_of_ble_eq_true rfl⟩) hP hD hS hA [2, 1] [0] rfl rfl (by decide) (by decide) (fun r w1 H locs hw hP hD hS => ?_)
            obtain ⟨rfl, rfl⟩ := hw
            have hP : va_P (dC, dI) vwCl [(q_G, .inr (10, [u_G_0, .ref q_sound, u_G_2, .ref q_now, u_G_4, u_G_5, .ref q_crossing, u_G_7, u_G_8])), (q_sound, .inr (5, [u_sound_0, u_sound_1, u_sound_2, u_sound_3, u_sound_4, u_sound_5, .int 0, u_sound_7, .int 1, .int 0])), (q_crossing, .inr (0, [.ref q_sound, u_crossing_1]))] H := hP.sub [0, 2, 1] rfl
            have hD : va_D A [(q_G, .inr (10, [u_G_0, .ref q_sound, u_G_2, .ref q_now, u_G_4, u_G_5, .ref q_crossing, u_G_7, u_G_8])), (q_sound, .inr (5, [u_sound_0, u_sound_1, u_sound_2, u_sound_3, u_sound_4, u_sound_5, .int 0, u_sound_7, .int 1, .int 0])), (q_crossing, .inr (0, [.ref q_sound, u_crossing_1]))] := hD.sub [0, 2, 1] (by decide) rfl
            refine lv_iload_n hx hb dX10_year_56 rfl (lv_at hl 3 rfl) ?_
            refine lv_icmp_ne (tgt := 63) hx hb dX10_year_57 (by decide) (fun h => absurd (by decide +kernel) h) (fun _ => ?_)
            refine lv_iinc (v := (nI (i + 1))) (lv' := [(3, .int (nI (i + 1))), (4, .int (nI i)), (0, .ref q_G), (1, .int 0), (2, .int (nI n0))]) hx hb dX10_year_60 hl (k := 1) rfl (nI_1 i) (by decide) rfl (fun ls hl => ?_)
            refine lv_iinc (v := (nI (i + 1))) (lv' := [(4, .int (nI (i + 1))), (3, .int (nI (i + 1))), (0, .ref q_G), (1, .int 0), (2, .int (nI n0))]) hx hb dX10_year_63 hl (k := 1) rfl (nI_1 i) (by decide) rfl (fun ls hl => ?_)
            refine lv_goto (tgt := 29) hx hb dX10_year_66 (by decide) ?_
            exact ih (i + 1) (by omega) H locs ls hP hD hS (lv_sub hl [0, 1, 2, 3, 4] rfl)
        exact loop4 n0 0 (by omega) _ _ ls hP hD hS (lv_sub hl [0, 1, 2, 3, 4] rfl)
      · skip
        refine lv_iconst (v := (-1)) hx hb dX10_year_22 (by decide) ?_
        exact q_iret C hr hlocks hK hP hD hS (Nat.le_of_ble_eq_true rfl) (Nat.le_of_ble_eq_true rfl) dX10_year_23 (fr_year_b c3)
