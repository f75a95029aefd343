set_option maxRecDepth 20000 in
theorem ggX11_ranked_X11_in : GoodIn wsX11_ranked wsX11_in := goodIn_r _ [5] (by decide +kernel) (by decide +kernel)
set_option maxRecDepth 20000 in
theorem gX11_ranked_X11_in : GoodIn wsX11_ranked (va_wsS RX11 281 yX11_in wsX11_in) := goodIn_app (goodIn_of _ (by decide +kernel)) ggX11_ranked_X11_in
set_option maxRecDepth 20000 in
theorem ggX11_ranked_X11_fillsChances : GoodIn wsX11_ranked wsX11_fillsChances := goodIn_r _ [9, 1, 10, 11, 12, 4, 13, 14, 15, 16, 17, 18, 19, 20, 21, 22, 23, 24, 25, 26, 27, 28, 29, 30, 31, 32, 33, 34, 35, 36, 37, 38, 39, 40, 41, 42, 43, 44, 45, 50, 51, 52, 53, 54, 55, 56, 57, 58, 59, 60, 61, 62, 63, 64, 65, 66, 67, 68, 69, 70, 71, 72, 73, 74, 75, 76, 77, 78, 79, 80, 81, 82, 83, 84, 85, 86, 87, 88, 89, 90, 91, 92, 93, 94, 95, 96, 97, 98, 99, 100, 101, 102, 103, 104, 105, 106, 107] (by decide +kernel) (by decide +kernel)
set_option maxRecDepth 20000 in
theorem gX11_ranked_X11_fillsChances : GoodIn wsX11_ranked (wsV RX11 404 RX11 yX11_fillsChances wsX11_fillsChances) := goodIn_app (goodIn_of _ (by decide +kernel)) ggX11_ranked_X11_fillsChances
set_option maxRecDepth 20000 in
theorem ggX11_ranked_X11_guesses : GoodIn wsX11_ranked wsX11_guesses := goodIn_r _ [22, 23, 24, 17, 50, 51, 52, 53, 54, 55, 56, 57, 58, 59, 60, 61, 62, 63, 64, 65, 66, 67, 68, 69, 70, 71, 72, 73, 74, 75, 76, 77, 78, 79, 80, 81, 82, 83, 84, 85, 86, 87, 88, 89, 90, 91, 92, 93, 94, 95, 96, 97, 98, 99, 100, 101, 102, 103, 104, 105, 106, 107] (by decide +kernel) (by decide +kernel)
set_option maxRecDepth 20000 in
theorem gX11_ranked_X11_guesses : GoodIn wsX11_ranked (wsV RX11 285 RX11 yX11_guesses wsX11_guesses) := goodIn_app (goodIn_of _ (by decide +kernel)) ggX11_ranked_X11_guesses
set_option maxRecDepth 20000 in
theorem ggX11_ranked_X11_isAhead : GoodIn wsX11_ranked wsX11_isAhead := goodIn_r _ [49, 1, 50, 51, 52, 53, 54, 55, 56, 57, 58, 59, 60, 61, 62, 63, 64, 65, 66, 67, 68, 69, 70, 71, 72, 73, 74, 75, 76, 77, 78, 79, 80, 81, 82, 83, 84, 85, 86, 87, 88, 89, 90, 91, 92, 93, 94, 95, 96, 97, 98, 99, 100, 101, 102, 103, 104, 105, 106, 107] (by decide +kernel) (by decide +kernel)
set_option maxRecDepth 20000 in
theorem gX11_ranked_X11_isAhead : GoodIn wsX11_ranked (wsV RX11 410 RX11 yX11_isAhead wsX11_isAhead) := goodIn_app (goodIn_of _ (by decide +kernel)) ggX11_ranked_X11_isAhead
theorem dX11_ranked_0 : decode cX11_ranked 0 = .ok (.iload_n 1, 1) := by decide +kernel
theorem dX11_ranked_1 : decode cX11_ranked 1 = .ok (.iconst 0, 1) := by decide +kernel
theorem dX11_ranked_2 : decode cX11_ranked 2 = .ok (.bipush 19, 2) := by decide +kernel
theorem dX11_ranked_4 : decode cX11_ranked 4 = .ok (.invokestatic 281, 3) := by decide +kernel
theorem dX11_ranked_7 : decode cX11_ranked 7 = .ok (.ifCond .ne 5, 3) := by decide +kernel
theorem dX11_ranked_10 : decode cX11_ranked 10 = .ok (.iconst (-1), 1) := by decide +kernel
theorem dX11_ranked_11 : decode cX11_ranked 11 = .ok (.ireturn, 1) := by decide +kernel
theorem dX11_ranked_12 : decode cX11_ranked 12 = .ok (.aload_n 0, 1) := by decide +kernel
theorem dX11_ranked_13 : decode cX11_ranked 13 = .ok (.invokevirtual 404, 3) := by decide +kernel
theorem dX11_ranked_16 : decode cX11_ranked 16 = .ok (.iconst (-1), 1) := by decide +kernel
theorem dX11_ranked_17 : decode cX11_ranked 17 = .ok (.istore_n 2, 1) := by decide +kernel
theorem dX11_ranked_18 : decode cX11_ranked 18 = .ok (.iconst 0, 1) := by decide +kernel
theorem dX11_ranked_19 : decode cX11_ranked 19 = .ok (.istore_n 3, 1) := by decide +kernel
theorem dX11_ranked_20 : decode cX11_ranked 20 = .ok (.iload_n 3, 1) := by decide +kernel
theorem dX11_ranked_21 : decode cX11_ranked 21 = .ok (.iload_n 1, 1) := by decide +kernel
theorem dX11_ranked_22 : decode cX11_ranked 22 = .ok (.if_icmp .gt 84, 3) := by decide +kernel
theorem dX11_ranked_25 : decode cX11_ranked 25 = .ok (.iconst (-1), 1) := by decide +kernel
theorem dX11_ranked_26 : decode cX11_ranked 26 = .ok (.istore 4, 2) := by decide +kernel
theorem dX11_ranked_28 : decode cX11_ranked 28 = .ok (.iconst 0, 1) := by decide +kernel
theorem dX11_ranked_29 : decode cX11_ranked 29 = .ok (.istore 5, 2) := by decide +kernel
theorem dX11_ranked_31 : decode cX11_ranked 31 = .ok (.iload 5, 2) := by decide +kernel
theorem dX11_ranked_33 : decode cX11_ranked 33 = .ok (.aload_n 0, 1) := by decide +kernel
theorem dX11_ranked_34 : decode cX11_ranked 34 = .ok (.invokevirtual 285, 3) := by decide +kernel
theorem dX11_ranked_37 : decode cX11_ranked 37 = .ok (.if_icmp .ge 53, 3) := by decide +kernel
theorem dX11_ranked_40 : decode cX11_ranked 40 = .ok (.aload_n 0, 1) := by decide +kernel
theorem dX11_ranked_41 : decode cX11_ranked 41 = .ok (.getfield 113, 3) := by decide +kernel
theorem dX11_ranked_44 : decode cX11_ranked 44 = .ok (.iload 5, 2) := by decide +kernel
theorem dX11_ranked_46 : decode cX11_ranked 46 = .ok (.iaload, 1) := by decide +kernel
theorem dX11_ranked_47 : decode cX11_ranked 47 = .ok (.ifCond .le 37, 3) := by decide +kernel
theorem dX11_ranked_50 : decode cX11_ranked 50 = .ok (.iload_n 2, 1) := by decide +kernel
theorem dX11_ranked_51 : decode cX11_ranked 51 = .ok (.ifCond .lt 13, 3) := by decide +kernel
theorem dX11_ranked_54 : decode cX11_ranked 54 = .ok (.aload_n 0, 1) := by decide +kernel
theorem dX11_ranked_55 : decode cX11_ranked 55 = .ok (.iload_n 2, 1) := by decide +kernel
theorem dX11_ranked_56 : decode cX11_ranked 56 = .ok (.iload 5, 2) := by decide +kernel
theorem dX11_ranked_58 : decode cX11_ranked 58 = .ok (.invokevirtual 410, 3) := by decide +kernel
theorem dX11_ranked_61 : decode cX11_ranked 61 = .ok (.ifCond .eq 23, 3) := by decide +kernel
theorem dX11_ranked_64 : decode cX11_ranked 64 = .ok (.iload 4, 2) := by decide +kernel
theorem dX11_ranked_66 : decode cX11_ranked 66 = .ok (.ifCond .lt 14, 3) := by decide +kernel
theorem dX11_ranked_80 : decode cX11_ranked 80 = .ok (.iload 5, 2) := by decide +kernel
theorem dX11_ranked_82 : decode cX11_ranked 82 = .ok (.istore 4, 2) := by decide +kernel
theorem dX11_ranked_84 : decode cX11_ranked 84 = .ok (.iinc 5 1, 3) := by decide +kernel
theorem dX11_ranked_87 : decode cX11_ranked 87 = .ok (.goto (-56), 3) := by decide +kernel
theorem dX11_ranked_90 : decode cX11_ranked 90 = .ok (.iload 4, 2) := by decide +kernel
theorem dX11_ranked_92 : decode cX11_ranked 92 = .ok (.ifCond .ge 5, 3) := by decide +kernel
theorem dX11_ranked_95 : decode cX11_ranked 95 = .ok (.iconst (-1), 1) := by decide +kernel
theorem dX11_ranked_96 : decode cX11_ranked 96 = .ok (.ireturn, 1) := by decide +kernel
theorem dX11_ranked_97 : decode cX11_ranked 97 = .ok (.iload 4, 2) := by decide +kernel
theorem dX11_ranked_99 : decode cX11_ranked 99 = .ok (.istore_n 2, 1) := by decide +kernel
theorem dX11_ranked_100 : decode cX11_ranked 100 = .ok (.iinc 3 1, 3) := by decide +kernel
theorem dX11_ranked_103 : decode cX11_ranked 103 = .ok (.goto (-83), 3) := by decide +kernel
theorem dX11_ranked_106 : decode cX11_ranked 106 = .ok (.iload_n 2, 1) := by decide +kernel
theorem dX11_ranked_107 : decode cX11_ranked 107 = .ok (.ireturn, 1) := by decide +kernel
set_option maxRecDepth 20000 in
theorem ggX11_year_X11_isGuess : GoodIn wsX11_year wsX11_isGuess := goodIn_r _ [6, 7, 8, 9, 5, 10, 11, 12, 13, 14, 15, 16, 45, 46, 47, 48, 49, 50, 51, 52, 53, 54, 55, 56, 57, 58, 59, 60, 61, 62, 63, 64, 65, 66, 67, 68, 69, 70, 71, 72, 73, 74, 75, 76, 77, 78, 79, 80, 81, 82, 83, 84, 85, 86, 87, 88, 89, 90, 91, 92, 93, 94, 95, 96, 97, 98, 99, 100, 101, 102] (by decide +kernel) (by decide +kernel)
set_option maxRecDepth 20000 in
theorem gX11_year_X11_isGuess : GoodIn wsX11_year (wsV RX11 367 RX11 yX11_isGuess wsX11_isGuess) := goodIn_app (goodIn_of _ (by decide +kernel)) ggX11_year_X11_isGuess
set_option maxRecDepth 20000 in
theorem ggX11_year_X11_in : GoodIn wsX11_year wsX11_in := goodIn_r _ [16] (by decide +kernel) (by decide +kernel)
set_option maxRecDepth 20000 in
theorem gX11_year_X11_in : GoodIn wsX11_year (va_wsS RX11 281 yX11_in wsX11_in) := goodIn_app (goodIn_of _ (by decide +kernel)) ggX11_year_X11_in
set_option maxRecDepth 20000 in
theorem ggX11_year_X11_copies : GoodIn wsX11_year wsX11_copies := goodIn_r _ [20, 21, 22, 23, 13, 1, 45, 46, 47, 48, 49, 50, 51, 52, 53, 54, 55, 56, 57, 58, 59, 60, 61, 62, 63, 64, 65, 66, 67, 68, 69, 70, 71, 72, 73, 74, 75, 76, 77, 78, 79, 80, 81, 82, 83, 84, 85, 86, 87, 88, 89, 90, 91, 92, 93, 94, 95, 96, 97, 98, 99, 100, 101, 102] (by decide +kernel) (by decide +kernel)
set_option maxRecDepth 20000 in
theorem gX11_year_X11_copies : GoodIn wsX11_year (wsV RX11 352 RX11 yX11_copies wsX11_copies) := goodIn_app (goodIn_of _ (by decide +kernel)) ggX11_year_X11_copies
set_option maxRecDepth 20000 in
theorem ggX11_year_X11_thereNumber : GoodIn wsX11_year wsX11_thereNumber := goodIn_r _ [27, 12, 13, 11, 28, 29, 30, 5, 31, 21, 32, 33, 34, 35, 36, 37, 38, 39, 40, 1, 41, 42, 43, 44, 45, 46, 47, 48, 49, 50, 51, 52, 53, 54, 55, 56, 57, 58, 59, 60, 61, 62, 63, 64, 65, 66, 67, 68, 69, 70, 71, 72, 73, 74, 75, 76, 77, 78, 79, 80, 81, 82, 83, 84, 85, 86, 87, 88, 89, 90, 91, 92, 93, 94, 95, 96, 97, 98, 99, 100, 101, 102] (by decide +kernel) (by decide +kernel)
set_option maxRecDepth 20000 in
theorem gX11_year_X11_thereNumber : GoodIn wsX11_year (wsV RX11 370 RX11 yX11_thereNumber wsX11_thereNumber) := goodIn_app (goodIn_of _ (by decide +kernel)) ggX11_year_X11_thereNumber
theorem dX11_year_0 : decode cX11_year 0 = .ok (.aload_n 0, 1) := by decide +kernel
theorem dX11_year_1 : decode cX11_year 1 = .ok (.iload_n 1, 1) := by decide +kernel
theorem dX11_year_2 : decode cX11_year 2 = .ok (.invokevirtual 367, 3) := by decide +kernel
theorem dX11_year_5 : decode cX11_year 5 = .ok (.ifCond .eq 13, 3) := by decide +kernel
theorem dX11_year_8 : decode cX11_year 8 = .ok (.iload_n 2, 1) := by decide +kernel
theorem dX11_year_9 : decode cX11_year 9 = .ok (.iconst 1, 1) := by decide +kernel
theorem dX11_year_10 : decode cX11_year 10 = .ok (.bipush 20, 2) := by decide +kernel
theorem dX11_year_12 : decode cX11_year 12 = .ok (.invokestatic 281, 3) := by decide +kernel
theorem dX11_year_15 : decode cX11_year 15 = .ok (.ifCond .ne 5, 3) := by decide +kernel
theorem dX11_year_18 : decode cX11_year 18 = .ok (.iconst (-1), 1) := by decide +kernel
theorem dX11_year_19 : decode cX11_year 19 = .ok (.ireturn, 1) := by decide +kernel
theorem dX11_year_20 : decode cX11_year 20 = .ok (.aload_n 0, 1) := by decide +kernel
theorem dX11_year_21 : decode cX11_year 21 = .ok (.invokevirtual 352, 3) := by decide +kernel
theorem dX11_year_24 : decode cX11_year 24 = .ok (.iconst 0, 1) := by decide +kernel
theorem dX11_year_25 : decode cX11_year 25 = .ok (.istore_n 3, 1) := by decide +kernel
theorem dX11_year_26 : decode cX11_year 26 = .ok (.iconst 0, 1) := by decide +kernel
theorem dX11_year_27 : decode cX11_year 27 = .ok (.istore 4, 2) := by decide +kernel
theorem dX11_year_29 : decode cX11_year 29 = .ok (.iload 4, 2) := by decide +kernel
theorem dX11_year_31 : decode cX11_year 31 = .ok (.iload_n 2, 1) := by decide +kernel
theorem dX11_year_32 : decode cX11_year 32 = .ok (.if_icmp .ge 30, 3) := by decide +kernel
theorem dX11_year_35 : decode cX11_year 35 = .ok (.aload_n 0, 1) := by decide +kernel
theorem dX11_year_36 : decode cX11_year 36 = .ok (.invokevirtual 370, 3) := by decide +kernel
theorem dX11_year_39 : decode cX11_year 39 = .ok (.iload_n 1, 1) := by decide +kernel
theorem dX11_year_40 : decode cX11_year 40 = .ok (.if_icmp .ne 6, 3) := by decide +kernel
theorem dX11_year_43 : decode cX11_year 43 = .ok (.iinc 3 1, 3) := by decide +kernel
theorem dX11_year_46 : decode cX11_year 46 = .ok (.aload_n 0, 1) := by decide +kernel
theorem dX11_year_47 : decode cX11_year 47 = .ok (.dup, 1) := by decide +kernel
theorem dX11_year_48 : decode cX11_year 48 = .ok (.getfield 289, 3) := by decide +kernel
theorem dX11_year_51 : decode cX11_year 51 = .ok (.iconst 1, 1) := by decide +kernel
theorem dX11_year_52 : decode cX11_year 52 = .ok (.iadd, 1) := by decide +kernel
theorem dX11_year_53 : decode cX11_year 53 = .ok (.putfield 289, 3) := by decide +kernel
theorem dX11_year_56 : decode cX11_year 56 = .ok (.iinc 4 1, 3) := by decide +kernel
theorem dX11_year_59 : decode cX11_year 59 = .ok (.goto (-30), 3) := by decide +kernel
theorem dX11_year_62 : decode cX11_year 62 = .ok (.iload_n 3, 1) := by decide +kernel
theorem dX11_year_63 : decode cX11_year 63 = .ok (.ireturn, 1) := by decide +kernel
set_option maxHeartbeats 4000000 in
set_option maxRecDepth 100000 in
theorem c_ranked (l : Launch) (dC : Nat → ClassId) (dI : Nat → Nat → Nat) (cB cI cJ cZ cS : ClassId) (h : Nat) (a : Nat → Nat) (v : Nat → Int32) (f : Nat → Nat → Int32) (g : Nat → Nat → Int64) (hv18 : v 18 = 0) (hf26_0 : f 26 0 = 0) (hv45 : v 45 = 0) (hf20_0 : f 20 0 = 0) (hf46_0 : f 46 0 = 1) (x1 : Int32) (hrow : ∀ j, j < 29 → f 44 j = f 43 j) : CI l yX11_ranked wsX11_ranked ({ frames := 2, cells := 0, slots := 0, locals := 45 }) (dC, dI) (tysA cB cI cJ cZ cS) (mw cB cI cJ cZ h a v f g) [.ref h, .int x1] (fun r _ => r = (fr_ranked x1)) := by
  refine open_I (cc := cX11_ranked) (maxL := 6) (ret := (some .int)) (by decide) rfl (Nat.le_of_ble_eq_true rfl) ?_
  intro p e s m below meth c A ls E
  obtain ⟨C, hr, hlocks, hnm, hA, hP, hK, hD, hN, hl⟩ := E
  obtain ⟨hx, hb, hml, hown, hts⟩ := id C
  have hS : va_S A s.heap s.heap [] := va_S.rf
  have hl : lv_has ls 6 [(0, .ref h), (1, .int x1)] := hl
  have inX11 : ∀ w ∈ u_ws RX11 TX11 58, w ∈ wsX11_ranked := by decide +kernel
  have L113 : Cond.fieldLink RX11 113 "GuessFerryModel" "chanceBy" "[I" ∈ wsX11_ranked := by decide +kernel
  refine lv_iload_n hx hb dX11_ranked_0 rfl (lv_at hl 1 rfl) ?_
  refine lv_iconst (v := 0) hx hb dX11_ranked_1 (by decide) ?_
  refine lv_bipush (v := 19) hx hb dX11_ranked_2 (by decide) ?_
  refine q_goi0 (va_runS (As := [.int x1, .int 0, .int 19]) (rest := []) C (c_in l dC dI cB cI cJ cZ cS x1 0 19 _) (va_cwS 3 hts gX11_ranked_X11_in rfl rfl rfl (by decide +kernel) ⟨Nat.le_of_ble_eq_true rfl, Nat.le_of_ble_eq_true rfl⟩) (q_pre0 hN hK) rfl rfl hl.1 rfl (lv_room (Nat.le_of_ble_eq_true rfl)) dX11_ranked_4 ⟨Nat.le_of_ble_eq_true rfl, Nat.le_of_ble_eq_true rfl⟩) hP hD hS hA (fun r w1 H locs hw hP hS => ?_)
  obtain rfl := hw
  refine lv_if_ne (tgt := 12) hx hb dX11_ranked_7 (by decide) (fun c1 => ?_) (fun c1 => ?_)
  · skip
    have hx0 := sp_in_ge c1
    refine lv_aload_n hx hb dX11_ranked_12 rfl (lv_at hl 0 rfl) ?_
    refine q_govF (va_runV (As := []) (rest := []) C (c_fillsChances l dC dI cB cI cJ cZ cS h a v f g hv18 hf26_0 hv45 hf20_0 hf46_0 (hrow) _) (cwV 0 hts gX11_ranked_X11_fillsChances rfl rfl rfl (by decide +kernel) ⟨Nat.le_of_ble_eq_true rfl, Nat.le_of_ble_eq_true rfl⟩) (q_preV hK hP (ci := 11) (q0 := 0) rfl rfl rfl (q_preF hN hK hP hD)) rfl rfl hl.1 rfl (lv_room (Nat.le_of_ble_eq_true rfl)) dX11_ranked_13 ⟨Nat.le_of_ble_eq_true rfl, Nat.le_of_ble_eq_true rfl⟩) hD hS hA (fun w1 H locs hw hP hD hS => ?_)
    obtain rfl := hw
    refine lv_iconst (v := (-1)) hx hb dX11_ranked_16 (by decide) ?_
    refine lv_istore_n (lv' := [(2, .int (-1)), (0, .ref h), (1, .int x1)]) hx hb dX11_ranked_17 rfl hl (by decide) rfl (fun ls hl => ?_)
    refine lv_iconst (v := 0) hx hb dX11_ranked_18 (by decide) ?_
    refine lv_istore_n (lv' := [(3, .int 0), (2, .int (-1)), (0, .ref h), (1, .int x1)]) hx hb dX11_ranked_19 rfl hl (by decide) rfl (fun ls hl => ?_)
    refine lv_iload_n hx hb dX11_ranked_20 rfl (lv_at hl 0 rfl) ?_
    refine lv_iload_n hx hb dX11_ranked_21 rfl (lv_at hl 3 rfl) ?_
    refine lv_icmp_gt (tgt := 106) hx hb dX11_ranked_22 (by decide) (fun h => absurd h (hx0)) (fun _ => ?_)
    refine lv_iconst (v := (-1)) hx hb dX11_ranked_25 (by decide) ?_
    refine lv_istore (lv' := [(4, .int (-1)), (3, .int 0), (2, .int (-1)), (0, .ref h), (1, .int x1)]) hx hb dX11_ranked_26 hl (by decide) rfl (fun ls hl => ?_)
    refine lv_iconst (v := 0) hx hb dX11_ranked_28 (by decide) ?_
    refine lv_istore (lv' := [(5, .int 0), (4, .int (-1)), (3, .int 0), (2, .int (-1)), (0, .ref h), (1, .int x1)]) hx hb dX11_ranked_29 hl (by decide) rfl (fun ls hl => ?_)
    refine lv_iload hx hb dX11_ranked_31 (lv_at hl 0 rfl) ?_
    refine lv_aload_n hx hb dX11_ranked_33 rfl (lv_at hl 4 rfl) ?_
    refine q_goiF (va_runV (As := []) (rest := [.int 0]) C (c_guesses l dC dI cB cI cJ cZ cS h a v (va_up f 50 (upd (f 50) 0 1)) g hv18 hf20_0 hf46_0 _) (cwV 0 hts gX11_ranked_X11_guesses rfl rfl rfl (by decide +kernel) ⟨Nat.le_of_ble_eq_true rfl, Nat.le_of_ble_eq_true rfl⟩) (q_preV hK hP (ci := 11) (q0 := 0) rfl rfl rfl (q_preF hN hK hP hD)) rfl rfl hl.1 rfl (lv_room (Nat.le_of_ble_eq_true rfl)) dX11_ranked_34 ⟨Nat.le_of_ble_eq_true rfl, Nat.le_of_ble_eq_true rfl⟩) hD hS hA (fun r w1 H locs hw hP hD hS => ?_)
    obtain ⟨rfl, rfl⟩ := hw
    refine lv_icmp_ge (tgt := 90) hx hb dX11_ranked_37 (by decide) (fun h => absurd h (by decide +kernel)) (fun _ => ?_)
    refine lv_aload_n hx hb dX11_ranked_40 rfl (lv_at hl 4 rfl) ?_
    refine q_get (v := .ref (a 50)) C inX11 hK hP 0 rfl rfl 50 (by decide) rfl L113 rfl dX11_ranked_41 ?_
    refine lv_iload hx hb dX11_ranked_44 (lv_at hl 0 rfl) ?_
    refine q_iald (x := 1) C hK hP 32 1 rfl rfl (vp_lit (by decide +kernel)) dX11_ranked_46 (rfl) ?_
    refine lv_if_le (tgt := 84) hx hb dX11_ranked_47 (by decide) (fun h => absurd h (by decide +kernel)) (fun _ => ?_)
    refine lv_iload_n hx hb dX11_ranked_50 rfl (lv_at hl 3 rfl) ?_
    refine lv_if_lt (tgt := 64) hx hb dX11_ranked_51 (by decide) (fun _ => ?_) (fun h => absurd (by decide +kernel) h)
    refine lv_iload hx hb dX11_ranked_64 (lv_at hl 1 rfl) ?_
    refine lv_if_lt (tgt := 80) hx hb dX11_ranked_66 (by decide) (fun _ => ?_) (fun h => absurd (by decide +kernel) h)
    refine lv_iload hx hb dX11_ranked_80 (lv_at hl 0 rfl) ?_
    refine lv_istore (lv' := [(4, .int 0), (5, .int 0), (3, .int 0), (2, .int (-1)), (0, .ref h), (1, .int x1)]) hx hb dX11_ranked_82 hl (by decide) rfl (fun ls hl => ?_)
    refine lv_iinc (v := 1) (lv' := [(5, .int 1), (4, .int 0), (3, .int 0), (2, .int (-1)), (0, .ref h), (1, .int x1)]) hx hb dX11_ranked_84 hl (k := 1) rfl (by decide +kernel) (by decide) rfl (fun ls hl => ?_)
    refine lv_goto (tgt := 31) hx hb dX11_ranked_87 (by decide) ?_
    refine lv_iload hx hb dX11_ranked_31 (lv_at hl 0 rfl) ?_
    refine lv_aload_n hx hb dX11_ranked_33 rfl (lv_at hl 4 rfl) ?_
    refine q_goiF (va_runV (As := []) (rest := [.int 1]) C (c_guesses l dC dI cB cI cJ cZ cS h a v (va_up f 50 (upd (f 50) 0 1)) g hv18 hf20_0 hf46_0 _) (cwV 0 hts gX11_ranked_X11_guesses rfl rfl rfl (by decide +kernel) ⟨Nat.le_of_ble_eq_true rfl, Nat.le_of_ble_eq_true rfl⟩) (q_preV hK hP (ci := 11) (q0 := 0) rfl rfl rfl (q_preF hN hK hP hD)) rfl rfl hl.1 rfl (lv_room (Nat.le_of_ble_eq_true rfl)) dX11_ranked_34 ⟨Nat.le_of_ble_eq_true rfl, Nat.le_of_ble_eq_true rfl⟩) hD hS hA (fun r w1 H locs hw hP hD hS => ?_)
    obtain ⟨rfl, rfl⟩ := hw
    refine lv_icmp_ge (tgt := 90) hx hb dX11_ranked_37 (by decide) (fun _ => ?_) (fun h => absurd (by decide +kernel) h)
    refine lv_iload hx hb dX11_ranked_90 (lv_at hl 1 rfl) ?_
    refine lv_if_ge (tgt := 97) hx hb dX11_ranked_92 (by decide) (fun _ => ?_) (fun h => absurd (by decide +kernel) h)
    refine lv_iload hx hb dX11_ranked_97 (lv_at hl 1 rfl) ?_
    refine lv_istore_n (lv' := [(2, .int 0), (5, .int 1), (4, .int 0), (3, .int 0), (0, .ref h), (1, .int x1)]) hx hb dX11_ranked_99 rfl hl (by decide) rfl (fun ls hl => ?_)
    refine lv_iinc (v := 1) (lv' := [(3, .int 1), (2, .int 0), (5, .int 1), (4, .int 0), (0, .ref h), (1, .int x1)]) hx hb dX11_ranked_100 hl (k := 3) rfl (by decide +kernel) (by decide) rfl (fun ls hl => ?_)
    refine lv_goto (tgt := 20) hx hb dX11_ranked_103 (by decide) ?_
    refine lv_iload_n hx hb dX11_ranked_20 rfl (lv_at hl 0 rfl) ?_
    refine lv_iload_n hx hb dX11_ranked_21 rfl (lv_at hl 5 rfl) ?_
    refine lv_icmp_gt (tgt := 106) hx hb dX11_ranked_22 (by decide) (fun c2 => ?_) (fun c2 => ?_)
    · skip
      refine lv_iload_n hx hb dX11_ranked_106 rfl (lv_at hl 1 rfl) ?_
      exact q_iret C hr hlocks hK hP hD hS (Nat.le_of_ble_eq_true rfl) (Nat.le_of_ble_eq_true rfl) dX11_ranked_107 (fr_ranked_0 c1 c2)
    · skip
      refine lv_iconst (v := (-1)) hx hb dX11_ranked_25 (by decide) ?_
      refine lv_istore (lv' := [(4, .int (-1)), (3, .int 1), (2, .int 0), (5, .int 1), (0, .ref h), (1, .int x1)]) hx hb dX11_ranked_26 hl (by decide) rfl (fun ls hl => ?_)
      refine lv_iconst (v := 0) hx hb dX11_ranked_28 (by decide) ?_
      refine lv_istore (lv' := [(5, .int 0), (4, .int (-1)), (3, .int 1), (2, .int 0), (0, .ref h), (1, .int x1)]) hx hb dX11_ranked_29 hl (by decide) rfl (fun ls hl => ?_)
      refine lv_iload hx hb dX11_ranked_31 (lv_at hl 0 rfl) ?_
      refine lv_aload_n hx hb dX11_ranked_33 rfl (lv_at hl 4 rfl) ?_
      refine q_goiF (va_runV (As := []) (rest := [.int 0]) C (c_guesses l dC dI cB cI cJ cZ cS h a v (va_up f 50 (upd (f 50) 0 1)) g hv18 hf20_0 hf46_0 _) (cwV 0 hts gX11_ranked_X11_guesses rfl rfl rfl (by decide +kernel) ⟨Nat.le_of_ble_eq_true rfl, Nat.le_of_ble_eq_true rfl⟩) (q_preV hK hP (ci := 11) (q0 := 0) rfl rfl rfl (q_preF hN hK hP hD)) rfl rfl hl.1 rfl (lv_room (Nat.le_of_ble_eq_true rfl)) dX11_ranked_34 ⟨Nat.le_of_ble_eq_true rfl, Nat.le_of_ble_eq_true rfl⟩) hD hS hA (fun r w1 H locs hw hP hD hS => ?_)
      obtain ⟨rfl, rfl⟩ := hw
      refine lv_icmp_ge (tgt := 90) hx hb dX11_ranked_37 (by decide) (fun h => absurd h (by decide +kernel)) (fun _ => ?_)
      refine lv_aload_n hx hb dX11_ranked_40 rfl (lv_at hl 4 rfl) ?_
      refine q_get (v := .ref (a 50)) C inX11 hK hP 0 rfl rfl 50 (by decide) rfl L113 rfl dX11_ranked_41 ?_
      refine lv_iload hx hb dX11_ranked_44 (lv_at hl 0 rfl) ?_
      refine q_iald (x := 1) C hK hP 32 1 rfl rfl (vp_lit (by decide +kernel)) dX11_ranked_46 (rfl) ?_
      refine lv_if_le (tgt := 84) hx hb dX11_ranked_47 (by decide) (fun h => absurd h (by decide +kernel)) (fun _ => ?_)
      refine lv_iload_n hx hb dX11_ranked_50 rfl (lv_at hl 3 rfl) ?_
      refine lv_if_lt (tgt := 64) hx hb dX11_ranked_51 (by decide) (fun h => absurd h (by decide +kernel)) (fun _ => ?_)
      refine lv_aload_n hx hb dX11_ranked_54 rfl (lv_at hl 4 rfl) ?_
      refine lv_iload_n hx hb dX11_ranked_55 rfl (lv_at hl 3 rfl) ?_
      refine lv_iload hx hb dX11_ranked_56 (lv_at hl 0 rfl) ?_
      refine q_goiF (va_runV (As := [.int 0, .int 0]) (rest := []) C (c_isAhead l dC dI cB cI cJ cZ cS h a v (va_up f 50 (upd (f 50) 0 1)) g rfl _) (cwV 2 hts gX11_ranked_X11_isAhead rfl rfl rfl (by decide +kernel) ⟨Nat.le_of_ble_eq_true rfl, Nat.le_of_ble_eq_true rfl⟩) (q_preV hK hP (ci := 11) (q0 := 0) rfl rfl rfl (q_preF hN hK hP hD)) rfl rfl hl.1 rfl (lv_room (Nat.le_of_ble_eq_true rfl)) dX11_ranked_58 ⟨Nat.le_of_ble_eq_true rfl, Nat.le_of_ble_eq_true rfl⟩) hD hS hA (fun r w1 H locs hw hP hD hS => ?_)
      obtain ⟨rfl, rfl⟩ := hw
      refine lv_if_eq (tgt := 84) hx hb dX11_ranked_61 (by decide) (fun _ => ?_) (fun h => absurd (by decide +kernel) h)
      refine lv_iinc (v := 1) (lv' := [(5, .int 1), (4, .int (-1)), (3, .int 1), (2, .int 0), (0, .ref h), (1, .int x1)]) hx hb dX11_ranked_84 hl (k := 0) rfl (by decide +kernel) (by decide) rfl (fun ls hl => ?_)
      refine lv_goto (tgt := 31) hx hb dX11_ranked_87 (by decide) ?_
      refine lv_iload hx hb dX11_ranked_31 (lv_at hl 0 rfl) ?_
      refine lv_aload_n hx hb dX11_ranked_33 rfl (lv_at hl 4 rfl) ?_
      refine q_goiF (va_runV (As := []) (rest := [.int 1]) C (c_guesses l dC dI cB cI cJ cZ cS h a v (va_up f 50 (upd (f 50) 0 1)) g hv18 hf20_0 hf46_0 _) (cwV 0 hts gX11_ranked_X11_guesses rfl rfl rfl (by decide +kernel) ⟨Nat.le_of_ble_eq_true rfl, Nat.le_of_ble_eq_true rfl⟩) (q_preV hK hP (ci := 11) (q0 := 0) rfl rfl rfl (q_preF hN hK hP hD)) rfl rfl hl.1 rfl (lv_room (Nat.le_of_ble_eq_true rfl)) dX11_ranked_34 ⟨Nat.le_of_ble_eq_true rfl, Nat.le_of_ble_eq_true rfl⟩) hD hS hA (fun r w1 H locs hw hP hD hS => ?_)
      obtain ⟨rfl, rfl⟩ := hw
      refine lv_icmp_ge (tgt := 90) hx hb dX11_ranked_37 (by decide) (fun _ => ?_) (fun h => absurd (by decide +kernel) h)
      refine lv_iload hx hb dX11_ranked_90 (lv_at hl 1 rfl) ?_
      refine lv_if_ge (tgt := 97) hx hb dX11_ranked_92 (by decide) (fun h => absurd h (by decide +kernel)) (fun _ => ?_)
      refine lv_iconst (v := (-1)) hx hb dX11_ranked_95 (by decide) ?_
      exact q_iret C hr hlocks hK hP hD hS (Nat.le_of_ble_eq_true rfl) (Nat.le_of_ble_eq_true rfl) dX11_ranked_96 (fr_ranked_1 c1 c2)
  · skip
    refine lv_iconst (v := (-1)) hx hb dX11_ranked_10 (by decide) ?_
    exact q_iret C hr hlocks hK hP hD hS (Nat.le_of_ble_eq_true rfl) (Nat.le_of_ble_eq_true rfl) dX11_ranked_11 (by unfold fr_ranked; rw [if_pos c1])

set_option maxHeartbeats 4000000 in
set_option maxRecDepth 100000 in
theorem c_year (l : Launch) (dC : Nat → ClassId) (dI : Nat → Nat → Nat) (cB cI cJ cZ cS : ClassId) (h : Nat) (a : Nat → Nat) (v : Nat → Int32) (f : Nat → Nat → Int32) (g : Nat → Nat → Int64) (hv18 : v 18 = 0) (hf26_0 : f 26 0 = 0) (hv45 : v 45 = 0) (hf20_0 : f 20 0 = 0) (hf46_0 : f 46 0 = 1) (x1 : Int32) (x2 : Int32) (hrow : ∀ j, j < 29 → f 44 j = f 43 j) : CI l yX11_year wsX11_year ({ frames := 2, cells := 0, slots := 0, locals := 43 }) (dC, dI) (tysA cB cI cJ cZ cS) (mw cB cI cJ cZ h a v f g) [.ref h, .int x1, .int x2] (fun r _ => r = (fr_year x1 x2)) := by
  refine open_I (cc := cX11_year) (maxL := 5) (ret := (some .int)) (by decide) rfl (Nat.le_of_ble_eq_true rfl) ?_
  intro p e s m below meth c A ls E
  obtain ⟨C, hr, hlocks, hnm, hA, hP, hK, hD, hN, hl⟩ := E
  obtain ⟨hx, hb, hml, hown, hts⟩ := id C
  have hS : va_S A s.heap s.heap [] := va_S.rf
  have hl : lv_has ls 5 [(0, .ref h), (1, .int x1), (2, .int x2)] := hl
  have inX11 : ∀ w ∈ u_ws RX11 TX11 58, w ∈ wsX11_year := by decide +kernel
  have L289 : Cond.fieldLink RX11 289 "GuessFerryModel" "lots" "I" ∈ wsX11_year := by decide +kernel
  refine lv_aload_n hx hb dX11_year_0 rfl (lv_at hl 0 rfl) ?_
  refine lv_iload_n hx hb dX11_year_1 rfl (lv_at hl 1 rfl) ?_
  refine q_goiF (va_runV (As := [.int x1]) (rest := []) C (c_isGuess l dC dI cB cI cJ cZ cS h a v f g hv18 hf20_0 hf46_0 x1 _) (cwV 1 hts gX11_year_X11_isGuess rfl rfl rfl (by decide +kernel) ⟨Nat.le_of_ble_eq_true rfl, Nat.le_of_ble_eq_true rfl⟩) (q_preV hK hP (ci := 11) (q0 := 0) rfl rfl rfl (q_preF hN hK hP hD)) rfl rfl hl.1 rfl (lv_room (Nat.le_of_ble_eq_true rfl)) dX11_year_2 ⟨Nat.le_of_ble_eq_true rfl, Nat.le_of_ble_eq_true rfl⟩) hD hS hA (fun r w1 H locs hw hP hD hS => ?_)
  obtain ⟨rfl, rfl⟩ := hw
  refine lv_if_eq (tgt := 18) hx hb dX11_year_5 (by decide) (fun c1 => ?_) (fun c1 => ?_)
  · skip
    refine lv_iconst (v := (-1)) hx hb dX11_year_18 (by decide) ?_
    exact q_iret C hr hlocks hK hP hD hS (Nat.le_of_ble_eq_true rfl) (Nat.le_of_ble_eq_true rfl) dX11_year_19 (by unfold fr_year; rw [if_pos c1])
  · skip
    obtain rfl : x1 = 0 := sp_in_00 c1
    refine lv_iload_n hx hb dX11_year_8 rfl (lv_at hl 2 rfl) ?_
    refine lv_iconst (v := 1) hx hb dX11_year_9 (by decide) ?_
    refine lv_bipush (v := 20) hx hb dX11_year_10 (by decide) ?_
    refine q_goi0 (va_runS (As := [.int x2, .int 1, .int 20]) (rest := []) C (c_in l dC dI cB cI cJ cZ cS x2 1 20 _) (va_cwS 3 hts gX11_year_X11_in rfl rfl rfl (by decide +kernel) ⟨Nat.le_of_ble_eq_true rfl, Nat.le_of_ble_eq_true rfl⟩) (q_pre0 hN hK) rfl rfl hl.1 rfl (lv_room (Nat.le_of_ble_eq_true rfl)) dX11_year_12 ⟨Nat.le_of_ble_eq_true rfl, Nat.le_of_ble_eq_true rfl⟩) hP hD hS hA (fun r w1 H locs hw hP hS => ?_)
    obtain rfl := hw
    refine lv_if_ne (tgt := 20) hx hb dX11_year_15 (by decide) (fun c2 => ?_) (fun c2 => ?_)
    · skip
      obtain ⟨n0, hn1, hn2, rfl⟩ := sp_in_1_20 c2
      refine lv_aload_n hx hb dX11_year_20 rfl (lv_at hl 0 rfl) ?_
      refine q_govF (va_runV (As := []) (rest := []) C (c_copies l dC dI cB cI cJ cZ cS h a v f g hv18 hf26_0 hv45 (hrow) _) (cwV 0 hts gX11_year_X11_copies rfl rfl rfl (by decide +kernel) ⟨Nat.le_of_ble_eq_true rfl, Nat.le_of_ble_eq_true rfl⟩) (q_preV hK hP (ci := 11) (q0 := 0) rfl rfl rfl (q_preF hN hK hP hD)) rfl rfl hl.1 rfl (lv_room (Nat.le_of_ble_eq_true rfl)) dX11_year_21 ⟨Nat.le_of_ble_eq_true rfl, Nat.le_of_ble_eq_true rfl⟩) hD hS hA (fun w1 H locs hw hP hD hS => ?_)
      obtain rfl := hw
      refine lv_iconst (v := 0) hx hb dX11_year_24 (by decide) ?_
      refine lv_istore_n (lv' := [(3, .int 0), (0, .ref h), (1, .int 0), (2, .int (nI n0))]) hx hb dX11_year_25 rfl hl (by decide) rfl (fun ls hl => ?_)
      refine lv_iconst (v := 0) hx hb dX11_year_26 (by decide) ?_
      refine lv_istore (lv' := [(4, .int 0), (3, .int 0), (0, .ref h), (1, .int 0), (2, .int (nI n0))]) hx hb dX11_year_27 hl (by decide) rfl (fun ls hl => ?_)
      have loop3 : ∀ (n i : Nat), i + n = n0 → ∀ (ζ : Int32) (H : Heap) (locs : List Loc) (ls : Array Slot), va_P (dC, dI) vwCl (mw cB cI cJ cZ h a (va_up v 45 ζ) f g) H → va_D A (mw cB cI cJ cZ h a (va_up v 45 ζ) f g) → va_S A s.heap H locs → lv_has ls 5 [(4, .int (nI i)), (3, .int (nI i)), (0, .ref h), (1, .int 0), (2, .int (nI n0))] → W p l e ({ frames := 2, cells := 0, slots := 0, locals := 43 }) s m [Value.ref h, Value.int 0, Value.int (nI n0)].toArray below meth c H locs 0 0 (MQ below (va_Qi (fun r _ => r = (fr_year 0 (nI n0))) (at_W (dC, dI) (tysA cB cI cJ cZ cS) A) A) [Value.ref h, Value.int 0, Value.int (nI n0)].toArray s 0 0 A) (F0 m 29 ls []) := by
        intro n
        induction n with
        | zero =>
          intro i hi ζ H locs ls hP hD hS hl
          obtain rfl : i = n0 := by omega
          refine lv_iload hx hb dX11_year_29 (lv_at hl 0 rfl) ?_
          refine lv_iload_n hx hb dX11_year_31 rfl (lv_at hl 4 rfl) ?_
          refine lv_icmp_ge (tgt := 62) hx hb dX11_year_32 (by decide) (fun _ => ?_) (fun h => absurd (Int32.le_refl _) h)
          refine lv_iload_n hx hb dX11_year_62 rfl (lv_at hl 1 rfl) ?_
          exact q_iret C hr hlocks hK hP hD hS (Nat.le_of_ble_eq_true rfl) (Nat.le_of_ble_eq_true rfl) dX11_year_63 (by unfold fr_year; rw [if_neg (by decide +kernel), if_neg c2])
        | succ n ih =>
          intro i hi ζ H locs ls hP hD hS hl
          refine lv_iload hx hb dX11_year_29 (lv_at hl 0 rfl) ?_
          refine lv_iload_n hx hb dX11_year_31 rfl (lv_at hl 4 rfl) ?_
          refine lv_icmp_ge (tgt := 62) hx hb dX11_year_32 (by decide) (fun h => absurd h (nI_ge (by omega) (by omega))) (fun _ => ?_)
          refine lv_aload_n hx hb dX11_year_35 rfl (lv_at hl 2 rfl) ?_
          refine q_goiF (va_runV (As := []) (rest := []) C (c_thereNumber l dC dI cB cI cJ cZ cS h a (va_up v 45 ζ) f g hv18 hf20_0 _) (cwV 0 hts gX11_year_X11_thereNumber rfl rfl rfl (by decide +kernel) ⟨Nat.le_of_ble_eq_true rfl, Nat.le_of_ble_eq_true rfl⟩) (q_preV hK hP (ci := 11) (q0 := 0) rfl rfl rfl (q_preF hN hK hP hD)) rfl rfl hl.1 rfl (lv_room (Nat.le_of_ble_eq_true rfl)) dX11_year_36 ⟨Nat.le_of_ble_eq_true rfl, Nat.le_of_ble_eq_true rfl⟩) hD hS hA (fun r w1 H locs hw hP hD hS => ?_)
          obtain ⟨rfl, rfl⟩ := hw
          refine lv_iload_n hx hb dX11_year_39 rfl (lv_at hl 3 rfl) ?_
          refine lv_icmp_ne (tgt := 46) hx hb dX11_year_40 (by decide) (fun h => absurd (by decide +kernel) h) (fun _ => ?_)
          refine lv_iinc (v := (nI (i + 1))) (lv' := [(3, .int (nI (i + 1))), (4, .int (nI i)), (0, .ref h), (1, .int 0), (2, .int (nI n0))]) hx hb dX11_year_43 hl (k := 1) rfl (nI_1 i) (by decide) rfl (fun ls hl => ?_)
          refine lv_aload_n hx hb dX11_year_46 rfl (lv_at hl 2 rfl) ?_
          refine lv_dup hx hb dX11_year_47 rfl ?_
          refine q_get (v := .int ζ) C inX11 hK hP 0 rfl rfl 45 (by decide) rfl L289 rfl dX11_year_48 ?_
          refine lv_iconst (v := 1) hx hb dX11_year_51 (by decide) ?_
          refine lv_iadd hx hb dX11_year_52 ?_
          refine q_put (ty := .int) (w2 := (mw cB cI cJ cZ h a (va_up (va_up v 45 ζ) 45 (ζ + 1)) f g)) tyX11 tyX11_ok nmX11 C inX11 hK hP hD hS 0 rfl rfl 45 (by decide) rfl L289 rfl (by decide +kernel) (rfl) rfl (Nat.le_of_ble_eq_true rfl) dX11_year_53 (mw_v45 _) (fun H locs hP hD hS => ?_)
          refine lv_iinc (v := (nI (i + 1))) (lv' := [(4, .int (nI (i + 1))), (3, .int (nI (i + 1))), (0, .ref h), (1, .int 0), (2, .int (nI n0))]) hx hb dX11_year_56 hl (k := 1) rfl (nI_1 i) (by decide) rfl (fun ls hl => ?_)
          refine lv_goto (tgt := 29) hx hb dX11_year_59 (by decide) ?_
          rw [bx_uu] at hP hD
          exact ih (i + 1) (by omega) (ζ + 1) H locs ls hP hD hS (lv_sub hl [0, 1, 2, 3, 4] rfl)
      exact loop3 n0 0 (by omega) (v 45) _ _ ls hP hD hS (lv_sub hl [0, 1, 2, 3, 4] rfl)
    · skip
      refine lv_iconst (v := (-1)) hx hb dX11_year_18 (by decide) ?_
      exact q_iret C hr hlocks hK hP hD hS (Nat.le_of_ble_eq_true rfl) (Nat.le_of_ble_eq_true rfl) dX11_year_19 (by unfold fr_year; rw [if_neg (by decide +kernel), if_pos c2])
