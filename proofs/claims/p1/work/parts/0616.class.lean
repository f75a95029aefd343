set_option maxRecDepth 20000 in
theorem ggX1_clear_X1_begin : GoodIn wsX1_clear wsX1_begin := goodIn_r _ [6, 7, 8, 1, 9, 28, 29, 30, 31, 32, 33, 34, 35, 36] (by decide +kernel) (by decide +kernel)
set_option maxRecDepth 20000 in
theorem gX1_clear_X1_begin : GoodIn wsX1_clear (wsV RX1 38 RX1 yX1_begin wsX1_begin) := goodIn_app (goodIn_of _ (by decide +kernel)) ggX1_clear_X1_begin
set_option maxRecDepth 20000 in
theorem ggX1_clear_X1_putVar : GoodIn wsX1_clear wsX1_putVar := goodIn_r _ [13, 14, 15, 16, 5, 17, 1, 18, 28, 29, 30, 31, 32, 33, 34, 35, 36] (by decide +kernel) (by decide +kernel)
set_option maxRecDepth 20000 in
theorem gX1_clear_X1_putVar : GoodIn wsX1_clear (wsV RX1 42 RX1 yX1_putVar wsX1_putVar) := goodIn_app (goodIn_of _ (by decide +kernel)) ggX1_clear_X1_putVar
set_option maxRecDepth 20000 in
theorem ggX1_clear_X1_endPart : GoodIn wsX1_clear wsX1_endPart := goodIn_r _ [22, 9, 7, 23, 1, 28, 29, 30, 31, 32, 33, 34, 35, 36] (by decide +kernel) (by decide +kernel)
set_option maxRecDepth 20000 in
theorem gX1_clear_X1_endPart : GoodIn wsX1_clear (wsV RX1 45 RX1 yX1_endPart wsX1_endPart) := goodIn_app (goodIn_of _ (by decide +kernel)) ggX1_clear_X1_endPart
set_option maxRecDepth 20000 in
theorem ggX1_clear_X1_putNumber : GoodIn wsX1_clear wsX1_putNumber := goodIn_r _ [27, 14, 15, 16, 5, 17, 1, 18, 28, 29, 30, 31, 32, 33, 34, 35, 36] (by decide +kernel) (by decide +kernel)
set_option maxRecDepth 20000 in
theorem gX1_clear_X1_putNumber : GoodIn wsX1_clear (wsV RX1 48 RX1 yX1_putNumber wsX1_putNumber) := goodIn_app (goodIn_of _ (by decide +kernel)) ggX1_clear_X1_putNumber
theorem dX1_clear_0 : decode cX1_clear 0 = .ok (.aload_n 0, 1) := by decide +kernel
theorem dX1_clear_1 : decode cX1_clear 1 = .ok (.iconst 0, 1) := by decide +kernel
theorem dX1_clear_2 : decode cX1_clear 2 = .ok (.putfield 34, 3) := by decide +kernel
theorem dX1_clear_5 : decode cX1_clear 5 = .ok (.aload_n 0, 1) := by decide +kernel
theorem dX1_clear_6 : decode cX1_clear 6 = .ok (.iconst 0, 1) := by decide +kernel
theorem dX1_clear_7 : decode cX1_clear 7 = .ok (.invokevirtual 38, 3) := by decide +kernel
theorem dX1_clear_10 : decode cX1_clear 10 = .ok (.aload_n 0, 1) := by decide +kernel
theorem dX1_clear_11 : decode cX1_clear 11 = .ok (.iconst 2, 1) := by decide +kernel
theorem dX1_clear_12 : decode cX1_clear 12 = .ok (.invokevirtual 42, 3) := by decide +kernel
theorem dX1_clear_15 : decode cX1_clear 15 = .ok (.aload_n 0, 1) := by decide +kernel
theorem dX1_clear_16 : decode cX1_clear 16 = .ok (.invokevirtual 45, 3) := by decide +kernel
theorem dX1_clear_19 : decode cX1_clear 19 = .ok (.aload_n 0, 1) := by decide +kernel
theorem dX1_clear_20 : decode cX1_clear 20 = .ok (.iconst 1, 1) := by decide +kernel
theorem dX1_clear_21 : decode cX1_clear 21 = .ok (.invokevirtual 38, 3) := by decide +kernel
theorem dX1_clear_24 : decode cX1_clear 24 = .ok (.aload_n 0, 1) := by decide +kernel
theorem dX1_clear_25 : decode cX1_clear 25 = .ok (.iconst 1, 1) := by decide +kernel
theorem dX1_clear_26 : decode cX1_clear 26 = .ok (.invokevirtual 48, 3) := by decide +kernel
theorem dX1_clear_29 : decode cX1_clear 29 = .ok (.aload_n 0, 1) := by decide +kernel
theorem dX1_clear_30 : decode cX1_clear 30 = .ok (.invokevirtual 45, 3) := by decide +kernel
theorem dX1_clear_33 : decode cX1_clear 33 = .ok (.aload_n 0, 1) := by decide +kernel
theorem dX1_clear_34 : decode cX1_clear 34 = .ok (.iconst 2, 1) := by decide +kernel
theorem dX1_clear_35 : decode cX1_clear 35 = .ok (.invokevirtual 38, 3) := by decide +kernel
theorem dX1_clear_38 : decode cX1_clear 38 = .ok (.aload_n 0, 1) := by decide +kernel
theorem dX1_clear_39 : decode cX1_clear 39 = .ok (.iconst 1, 1) := by decide +kernel
theorem dX1_clear_40 : decode cX1_clear 40 = .ok (.invokevirtual 48, 3) := by decide +kernel
theorem dX1_clear_43 : decode cX1_clear 43 = .ok (.aload_n 0, 1) := by decide +kernel
theorem dX1_clear_44 : decode cX1_clear 44 = .ok (.invokevirtual 45, 3) := by decide +kernel
theorem dX1_clear_47 : decode cX1_clear 47 = .ok (.aload_n 0, 1) := by decide +kernel
theorem dX1_clear_48 : decode cX1_clear 48 = .ok (.iconst 3, 1) := by decide +kernel
theorem dX1_clear_49 : decode cX1_clear 49 = .ok (.invokevirtual 38, 3) := by decide +kernel
theorem dX1_clear_52 : decode cX1_clear 52 = .ok (.aload_n 0, 1) := by decide +kernel
theorem dX1_clear_53 : decode cX1_clear 53 = .ok (.iconst 0, 1) := by decide +kernel
theorem dX1_clear_54 : decode cX1_clear 54 = .ok (.invokevirtual 48, 3) := by decide +kernel
theorem dX1_clear_57 : decode cX1_clear 57 = .ok (.aload_n 0, 1) := by decide +kernel
theorem dX1_clear_58 : decode cX1_clear 58 = .ok (.invokevirtual 45, 3) := by decide +kernel
theorem dX1_clear_61 : decode cX1_clear 61 = .ok (.return_, 1) := by decide +kernel
set_option maxRecDepth 20000 in
theorem ggX5_clear_X1_clear : GoodIn wsX5_clear wsX1_clear := goodIn_r _ [9, 10, 11, 12, 13, 7, 14, 15, 16, 17, 18, 19, 20, 21, 22, 23, 24, 25, 26, 27, 28, 29, 30, 31, 32, 33, 34, 35, 46, 47, 48, 49, 50, 51, 52, 53, 54] (by decide +kernel) (by decide +kernel)
set_option maxRecDepth 20000 in
theorem gX5_clear_X1_clear_n50 : GoodIn wsX5_clear (wsX1_clear) := ggX5_clear_X1_clear
theorem dX5_clear_0 : decode cX5_clear 0 = .ok (.aload_n 0, 1) := by decide +kernel
theorem dX5_clear_1 : decode cX5_clear 1 = .ok (.iconst 0, 1) := by decide +kernel
theorem dX5_clear_2 : decode cX5_clear 2 = .ok (.putfield 37, 3) := by decide +kernel
theorem dX5_clear_5 : decode cX5_clear 5 = .ok (.aload_n 0, 1) := by decide +kernel
theorem dX5_clear_6 : decode cX5_clear 6 = .ok (.iconst 0, 1) := by decide +kernel
theorem dX5_clear_7 : decode cX5_clear 7 = .ok (.putfield 41, 3) := by decide +kernel
theorem dX5_clear_10 : decode cX5_clear 10 = .ok (.aload_n 0, 1) := by decide +kernel
theorem dX5_clear_11 : decode cX5_clear 11 = .ok (.iconst 1, 1) := by decide +kernel
theorem dX5_clear_12 : decode cX5_clear 12 = .ok (.putfield 44, 3) := by decide +kernel
theorem dX5_clear_15 : decode cX5_clear 15 = .ok (.aload_n 0, 1) := by decide +kernel
theorem dX5_clear_16 : decode cX5_clear 16 = .ok (.iconst 0, 1) := by decide +kernel
theorem dX5_clear_17 : decode cX5_clear 17 = .ok (.putfield 47, 3) := by decide +kernel
theorem dX5_clear_20 : decode cX5_clear 20 = .ok (.aload_n 0, 1) := by decide +kernel
theorem dX5_clear_21 : decode cX5_clear 21 = .ok (.getfield 30, 3) := by decide +kernel
theorem dX5_clear_24 : decode cX5_clear 24 = .ok (.invokevirtual 50, 3) := by decide +kernel
theorem dX5_clear_27 : decode cX5_clear 27 = .ok (.return_, 1) := by decide +kernel
theorem dX7_byteAt_0 : decode cX7_byteAt 0 = .ok (.iload_n 1, 1) := by decide +kernel
theorem dX7_byteAt_1 : decode cX7_byteAt 1 = .ok (.ifCond .lt 24, 3) := by decide +kernel
theorem dX7_byteAt_4 : decode cX7_byteAt 4 = .ok (.iload_n 1, 1) := by decide +kernel
theorem dX7_byteAt_5 : decode cX7_byteAt 5 = .ok (.aload_n 0, 1) := by decide +kernel
theorem dX7_byteAt_6 : decode cX7_byteAt 6 = .ok (.getfield 15, 3) := by decide +kernel
theorem dX7_byteAt_9 : decode cX7_byteAt 9 = .ok (.if_icmp .ge 16, 3) := by decide +kernel
theorem dX7_byteAt_25 : decode cX7_byteAt 25 = .ok (.iconst (-1), 1) := by decide +kernel
theorem dX7_byteAt_26 : decode cX7_byteAt 26 = .ok (.ireturn, 1) := by decide +kernel
theorem dX9_skipBlanks_0 : decode cX9_skipBlanks 0 = .ok (.aload_n 0, 1) := by decide +kernel
theorem dX9_skipBlanks_1 : decode cX9_skipBlanks 1 = .ok (.getfield 47, 3) := by decide +kernel
theorem dX9_skipBlanks_4 : decode cX9_skipBlanks 4 = .ok (.aload_n 0, 1) := by decide +kernel
theorem dX9_skipBlanks_5 : decode cX9_skipBlanks 5 = .ok (.getfield 23, 3) := by decide +kernel
theorem dX9_skipBlanks_8 : decode cX9_skipBlanks 8 = .ok (.getfield 61, 3) := by decide +kernel
theorem dX9_skipBlanks_11 : decode cX9_skipBlanks 11 = .ok (.if_icmp .ge 33, 3) := by decide +kernel
theorem dX9_skipBlanks_44 : decode cX9_skipBlanks 44 = .ok (.return_, 1) := by decide +kernel
set_option maxRecDepth 20000 in
theorem ggX9_splitOne_X7_byteAt : GoodIn wsX9_splitOne wsX7_byteAt := goodIn_r _ [7, 8, 9, 127, 128] (by decide +kernel) (by decide +kernel)
set_option maxRecDepth 20000 in
theorem gX9_splitOne_X7_byteAt_n65 : GoodIn wsX9_splitOne (wsX7_byteAt) := ggX9_splitOne_X7_byteAt
theorem dX9_splitOne_0 : decode cX9_splitOne 0 = .ok (.aload_n 0, 1) := by decide +kernel
theorem dX9_splitOne_1 : decode cX9_splitOne 1 = .ok (.lconst 0, 1) := by decide +kernel
theorem dX9_splitOne_2 : decode cX9_splitOne 2 = .ok (.putfield 57, 3) := by decide +kernel
theorem dX9_splitOne_5 : decode cX9_splitOne 5 = .ok (.aload_n 0, 1) := by decide +kernel
theorem dX9_splitOne_6 : decode cX9_splitOne 6 = .ok (.getfield 23, 3) := by decide +kernel
theorem dX9_splitOne_9 : decode cX9_splitOne 9 = .ok (.aload_n 0, 1) := by decide +kernel
theorem dX9_splitOne_10 : decode cX9_splitOne 10 = .ok (.getfield 47, 3) := by decide +kernel
theorem dX9_splitOne_13 : decode cX9_splitOne 13 = .ok (.invokevirtual 65, 3) := by decide +kernel
theorem dX9_splitOne_16 : decode cX9_splitOne 16 = .ok (.istore_n 1, 1) := by decide +kernel
theorem dX9_splitOne_17 : decode cX9_splitOne 17 = .ok (.iload_n 1, 1) := by decide +kernel
theorem dX9_splitOne_18 : decode cX9_splitOne 18 = .ok (.iconst (-1), 1) := by decide +kernel
theorem dX9_splitOne_19 : decode cX9_splitOne 19 = .ok (.if_icmp .ne 7, 3) := by decide +kernel
theorem dX9_splitOne_22 : decode cX9_splitOne 22 = .ok (.sipush 302, 3) := by decide +kernel
theorem dX9_splitOne_25 : decode cX9_splitOne 25 = .ok (.ireturn, 1) := by decide +kernel
set_option maxHeartbeats 4000000 in
set_option maxRecDepth 100000 in
theorem k_X1_clear (l : Launch) (dC : Nat → ClassId) (dI : Nat → Nat → Nat) (cB cI cJ cZ cS : ClassId) (q_sound_laws : Nat) (q_sound_steps : Nat) (q_sound_partEnds : Nat) (q_sound_lawStarts : Nat) (q_sound_partCounts : Nat) (u_sound_laws_4 : Value) (u_sound_laws_5 : Value) (y_len : Int32) (y_cur : Int32) (u_sound_laws_8 : Value) (f_sound_lawStarts : Nat → Int32) (f_sound_partCounts : Nat → Int32) (f_sound_steps : Nat → Int32) (f_sound_partEnds : Nat → Int32) : CV l yX1_clear wsX1_clear ({ frames := 2, cells := 0, slots := 0, locals := 42 }) (dC, dI) (tysA cB cI cJ cZ cS) [(q_sound_laws, .inr (1, [.ref q_sound_steps, .ref q_sound_partEnds, .ref q_sound_lawStarts, .ref q_sound_partCounts, u_sound_laws_4, u_sound_laws_5, .int y_len, .int y_cur, u_sound_laws_8])), (q_sound_lawStarts, .inl (cI, 4, .inl f_sound_lawStarts)), (q_sound_partCounts, .inl (cI, 4, .inl f_sound_partCounts)), (q_sound_steps, .inl (cI, 404, .inl f_sound_steps)), (q_sound_partEnds, .inl (cI, 52, .inl f_sound_partEnds))] [.ref q_sound_laws] (fun w => w = [(q_sound_laws, .inr (1, [.ref q_sound_steps, .ref q_sound_partEnds, .ref q_sound_lawStarts, .ref q_sound_partCounts, u_sound_laws_4, u_sound_laws_5, .int 4, .int 3, u_sound_laws_8])), (q_sound_lawStarts, .inl (cI, 4, .inl (upd (upd (upd (upd f_sound_lawStarts 0 0) 1 1) 2 2) 3 3))), (q_sound_partCounts, .inl (cI, 4, .inl (upd (upd (upd (upd (upd (upd (upd (upd f_sound_partCounts 0 0) 0 1) 1 0) 1 1) 2 0) 2 1) 3 0) 3 1))), (q_sound_steps, .inl (cI, 404, .inl (upd (upd (upd (upd f_sound_steps 0 (-3)) 1 1) 2 1) 3 0))), (q_sound_partEnds, .inl (cI, 52, .inl (upd (upd (upd (upd f_sound_partEnds 0 1) 13 2) 26 3) 39 4)))]) := by
  refine open_V (cc := cX1_clear) (maxL := 1) (ret := none) (by decide) rfl (Nat.le_of_ble_eq_true rfl) ?_
  intro p e s m below meth c A ls E
  obtain ⟨C, hr, hlocks, hnm, hA, hP, hK, hD, hN, hl⟩ := E
  obtain ⟨hx, hb, hml, hown, hts⟩ := id C
  have hS : va_S A s.heap s.heap [] := va_S.rf
  have hl : lv_has ls 1 [(0, .ref q_sound_laws)] := hl
  have inX1 : ∀ w ∈ u_ws RX1 TX1 9, w ∈ wsX1_clear := by decide +kernel
  have L34 : Cond.fieldLink RX1 34 "GuessFerry$Laws" "length" "I" ∈ wsX1_clear := by decide +kernel
  refine lv_aload_n hx hb dX1_clear_0 rfl (lv_at hl 0 rfl) ?_
  refine lv_iconst (v := 0) hx hb dX1_clear_1 (by decide) ?_
  refine q_put (ty := .int) (w2 := [(q_sound_laws, .inr (1, [.ref q_sound_steps, .ref q_sound_partEnds, .ref q_sound_lawStarts, .ref q_sound_partCounts, u_sound_laws_4, u_sound_laws_5, .int 0, .int y_cur, u_sound_laws_8])), (q_sound_lawStarts, .inl (cI, 4, .inl f_sound_lawStarts)), (q_sound_partCounts, .inl (cI, 4, .inl f_sound_partCounts)), (q_sound_steps, .inl (cI, 404, .inl f_sound_steps)), (q_sound_partEnds, .inl (cI, 52, .inl f_sound_partEnds))]) tyX1 tyX1_ok nmX1 C inX1 hK hP hD hS 0 rfl rfl 6 (by decide) rfl L34 rfl (by decide +kernel) (rfl) rfl (Nat.le_of_ble_eq_true rfl) dX1_clear_2 rfl (fun H locs hP hD hS => ?_)
  refine lv_aload_n hx hb dX1_clear_5 rfl (lv_at hl 0 rfl) ?_
  refine lv_iconst (v := 0) hx hb dX1_clear_6 (by decide) ?_
  refine q_gov (va_runV (As := [.int 0]) (rest := []) C (k_begin0 l dC dI cB cI cJ cZ cS (q_sound_laws) (q_sound_lawStarts) (q_sound_partCounts) (.ref q_sound_steps) (.ref q_sound_partEnds) (u_sound_laws_4) (u_sound_laws_5) (y_cur) (u_sound_laws_8) (f_sound_lawStarts) (f_sound_partCounts) _) (cwV 1 hts gX1_clear_X1_begin rfl rfl rfl (by decide +kernel) ⟨Nat.le_of_ble_eq_true rfl, Nat.le_of_ble_eq_true rfl⟩) (q_preV hK hP (ci := 1) (q0 := 0) rfl rfl rfl (q_pre hN hK hP hD [0, 1, 2] rfl (by decide))) rfl rfl hl.1 rfl (lv_room (Nat.le_of_ble_eq_true rfl)) dX1_clear_7 ⟨Nat.le_of_ble_eq_true rfl, Nat.le_of_ble_eq_true rfl⟩) hP hD hS hA [0, 1, 2] [3, 4] rfl rfl (by decide) (by decide) (fun w1 H locs hw hP hD hS => ?_)
  obtain rfl := hw
  have hP : va_P (dC, dI) vwCl [(q_sound_laws, .inr (1, [.ref q_sound_steps, .ref q_sound_partEnds, .ref q_sound_lawStarts, .ref q_sound_partCounts, u_sound_laws_4, u_sound_laws_5, .int 0, .int 0, u_sound_laws_8])), (q_sound_lawStarts, .inl (cI, 4, .inl (upd f_sound_lawStarts 0 0))), (q_sound_partCounts, .inl (cI, 4, .inl (upd f_sound_partCounts 0 0))), (q_sound_steps, .inl (cI, 404, .inl f_sound_steps)), (q_sound_partEnds, .inl (cI, 52, .inl f_sound_partEnds))] H := hP.sub [2, 3, 4, 0, 1] rfl
  have hD : va_D A [(q_sound_laws, .inr (1, [.ref q_sound_steps, .ref q_sound_partEnds, .ref q_sound_lawStarts, .ref q_sound_partCounts, u_sound_laws_4, u_sound_laws_5, .int 0, .int 0, u_sound_laws_8])), (q_sound_lawStarts, .inl (cI, 4, .inl (upd f_sound_lawStarts 0 0))), (q_sound_partCounts, .inl (cI, 4, .inl (upd f_sound_partCounts 0 0))), (q_sound_steps, .inl (cI, 404, .inl f_sound_steps)), (q_sound_partEnds, .inl (cI, 52, .inl f_sound_partEnds))] := hD.sub [2, 3, 4, 0, 1] (by decide) rfl
  refine lv_aload_n hx hb dX1_clear_10 rfl (lv_at hl 0 rfl) ?_
  refine lv_iconst (v := 2) hx hb dX1_clear_11 (by decide) ?_
  refine q_gov (va_runV (As := [.int 2]) (rest := []) C (k_putVar l dC dI cB cI cJ cZ cS (q_sound_laws) (q_sound_steps) (.ref q_sound_partEnds) (.ref q_sound_lawStarts) (.ref q_sound_partCounts) (u_sound_laws_4) (u_sound_laws_5) (.int 0) (u_sound_laws_8) (f_sound_steps) _) (cwV 1 hts gX1_clear_X1_putVar rfl rfl rfl (by decide +kernel) ⟨Nat.le_of_ble_eq_true rfl, Nat.le_of_ble_eq_true rfl⟩) (q_preV hK hP (ci := 1) (q0 := 0) rfl rfl rfl (q_pre hN hK hP hD [0, 3] rfl (by decide))) rfl rfl hl.1 rfl (lv_room (Nat.le_of_ble_eq_true rfl)) dX1_clear_12 ⟨Nat.le_of_ble_eq_true rfl, Nat.le_of_ble_eq_true rfl⟩) hP hD hS hA [0, 3] [1, 2, 4] rfl rfl (by decide) (by decide) (fun w1 H locs hw hP hD hS => ?_)
  obtain rfl := hw
  have hP : va_P (dC, dI) vwCl [(q_sound_laws, .inr (1, [.ref q_sound_steps, .ref q_sound_partEnds, .ref q_sound_lawStarts, .ref q_sound_partCounts, u_sound_laws_4, u_sound_laws_5, .int 1, .int 0, u_sound_laws_8])), (q_sound_lawStarts, .inl (cI, 4, .inl (upd f_sound_lawStarts 0 0))), (q_sound_partCounts, .inl (cI, 4, .inl (upd f_sound_partCounts 0 0))), (q_sound_steps, .inl (cI, 404, .inl (upd f_sound_steps 0 (-3)))), (q_sound_partEnds, .inl (cI, 52, .inl f_sound_partEnds))] H := hP.sub [3, 0, 1, 4, 2] rfl
  have hD : va_D A [(q_sound_laws, .inr (1, [.ref q_sound_steps, .ref q_sound_partEnds, .ref q_sound_lawStarts, .ref q_sound_partCounts, u_sound_laws_4, u_sound_laws_5, .int 1, .int 0, u_sound_laws_8])), (q_sound_lawStarts, .inl (cI, 4, .inl (upd f_sound_lawStarts 0 0))), (q_sound_partCounts, .inl (cI, 4, .inl (upd f_sound_partCounts 0 0))), (q_sound_steps, .inl (cI, 404, .inl (upd f_sound_steps 0 (-3)))), (q_sound_partEnds, .inl (cI, 52, .inl f_sound_partEnds))] := hD.sub [3, 0, 1, 4, 2] (by decide) rfl
  refine lv_aload_n hx hb dX1_clear_15 rfl (lv_at hl 0 rfl) ?_
  refine q_gov (va_runV (As := []) (rest := []) C (k_endPart0 l dC dI cB cI cJ cZ cS (q_sound_laws) (q_sound_partEnds) (q_sound_partCounts) (.ref q_sound_steps) (.ref q_sound_lawStarts) (u_sound_laws_4) (u_sound_laws_5) (u_sound_laws_8) ((upd f_sound_partCounts 0 0)) (f_sound_partEnds) rfl _) (cwV 0 hts gX1_clear_X1_endPart rfl rfl rfl (by decide +kernel) ⟨Nat.le_of_ble_eq_true rfl, Nat.le_of_ble_eq_true rfl⟩) (q_preV hK hP (ci := 1) (q0 := 0) rfl rfl rfl (q_pre hN hK hP hD [0, 2, 4] rfl (by decide))) rfl rfl hl.1 rfl (lv_room (Nat.le_of_ble_eq_true rfl)) dX1_clear_16 ⟨Nat.le_of_ble_eq_true rfl, Nat.le_of_ble_eq_true rfl⟩) hP hD hS hA [0, 2, 4] [1, 3] rfl rfl (by decide) (by decide) (fun w1 H locs hw hP hD hS => ?_)
  obtain rfl := hw
  have hP : va_P (dC, dI) vwCl [(q_sound_laws, .inr (1, [.ref q_sound_steps, .ref q_sound_partEnds, .ref q_sound_lawStarts, .ref q_sound_partCounts, u_sound_laws_4, u_sound_laws_5, .int 1, .int 0, u_sound_laws_8])), (q_sound_lawStarts, .inl (cI, 4, .inl (upd f_sound_lawStarts 0 0))), (q_sound_partCounts, .inl (cI, 4, .inl (upd (upd f_sound_partCounts 0 0) 0 1))), (q_sound_steps, .inl (cI, 404, .inl (upd f_sound_steps 0 (-3)))), (q_sound_partEnds, .inl (cI, 52, .inl (upd f_sound_partEnds 0 1)))] H := hP.sub [2, 0, 3, 1, 4] rfl
  have hD : va_D A [(q_sound_laws, .inr (1, [.ref q_sound_steps, .ref q_sound_partEnds, .ref q_sound_lawStarts, .ref q_sound_partCounts, u_sound_laws_4, u_sound_laws_5, .int 1, .int 0, u_sound_laws_8])), (q_sound_lawStarts, .inl (cI, 4, .inl (upd f_sound_lawStarts 0 0))), (q_sound_partCounts, .inl (cI, 4, .inl (upd (upd f_sound_partCounts 0 0) 0 1))), (q_sound_steps, .inl (cI, 404, .inl (upd f_sound_steps 0 (-3)))), (q_sound_partEnds, .inl (cI, 52, .inl (upd f_sound_partEnds 0 1)))] := hD.sub [2, 0, 3, 1, 4] (by decide) rfl
  refine lv_aload_n hx hb dX1_clear_19 rfl (lv_at hl 0 rfl) ?_
  refine lv_iconst (v := 1) hx hb dX1_clear_20 (by decide) ?_
  refine q_gov (va_runV (As := [.int 1]) (rest := []) C (k_begin1 l dC dI cB cI cJ cZ cS (q_sound_laws) (q_sound_lawStarts) (q_sound_partCounts) (.ref q_sound_steps) (.ref q_sound_partEnds) (u_sound_laws_4) (u_sound_laws_5) (0) (u_sound_laws_8) ((upd f_sound_lawStarts 0 0)) ((upd (upd f_sound_partCounts 0 0) 0 1)) _) (cwV 1 hts gX1_clear_X1_begin rfl rfl rfl (by decide +kernel) ⟨Nat.le_of_ble_eq_true rfl, Nat.le_of_ble_eq_true rfl⟩) (q_preV hK hP (ci := 1) (q0 := 0) rfl rfl rfl (q_pre hN hK hP hD [0, 1, 2] rfl (by decide))) rfl rfl hl.1 rfl (lv_room (Nat.le_of_ble_eq_true rfl)) dX1_clear_21 ⟨Nat.le_of_ble_eq_true rfl, Nat.le_of_ble_eq_true rfl⟩) hP hD hS hA [0, 1, 2] [3, 4] rfl rfl (by decide) (by decide) (fun w1 H locs hw hP hD hS => ?_)
  obtain rfl := hw
  have hP : va_P (dC, dI) vwCl [(q_sound_laws, .inr (1, [.ref q_sound_steps, .ref q_sound_partEnds, .ref q_sound_lawStarts, .ref q_sound_partCounts, u_sound_laws_4, u_sound_laws_5, .int 1, .int 1, u_sound_laws_8])), (q_sound_lawStarts, .inl (cI, 4, .inl (upd (upd f_sound_lawStarts 0 0) 1 1))), (q_sound_partCounts, .inl (cI, 4, .inl (upd (upd (upd f_sound_partCounts 0 0) 0 1) 1 0))), (q_sound_steps, .inl (cI, 404, .inl (upd f_sound_steps 0 (-3)))), (q_sound_partEnds, .inl (cI, 52, .inl (upd f_sound_partEnds 0 1)))] H := hP.sub [2, 3, 4, 0, 1] rfl
  have hD : va_D A [(q_sound_laws, .inr (1, [.ref q_sound_steps, .ref q_sound_partEnds, .ref q_sound_lawStarts, .ref q_sound_partCounts, u_sound_laws_4, u_sound_laws_5, .int 1, .int 1, u_sound_laws_8])), (q_sound_lawStarts, .inl (cI, 4, .inl (upd (upd f_sound_lawStarts 0 0) 1 1))), (q_sound_partCounts, .inl (cI, 4, .inl (upd (upd (upd f_sound_partCounts 0 0) 0 1) 1 0))), (q_sound_steps, .inl (cI, 404, .inl (upd f_sound_steps 0 (-3)))), (q_sound_partEnds, .inl (cI, 52, .inl (upd f_sound_partEnds 0 1)))] := hD.sub [2, 3, 4, 0, 1] (by decide) rfl
  refine lv_aload_n hx hb dX1_clear_24 rfl (lv_at hl 0 rfl) ?_
  refine lv_iconst (v := 1) hx hb dX1_clear_25 (by decide) ?_
  refine q_gov (va_runV (As := [.int 1]) (rest := []) C (k_putNumber1 l dC dI cB cI cJ cZ cS (q_sound_laws) (q_sound_steps) (.ref q_sound_partEnds) (.ref q_sound_lawStarts) (.ref q_sound_partCounts) (u_sound_laws_4) (u_sound_laws_5) (.int 1) (u_sound_laws_8) ((upd f_sound_steps 0 (-3))) _) (cwV 1 hts gX1_clear_X1_putNumber rfl rfl rfl (by decide +kernel) ⟨Nat.le_of_ble_eq_true rfl, Nat.le_of_ble_eq_true rfl⟩) (q_preV hK hP (ci := 1) (q0 := 0) rfl rfl rfl (q_pre hN hK hP hD [0, 3] rfl (by decide))) rfl rfl hl.1 rfl (lv_room (Nat.le_of_ble_eq_true rfl)) dX1_clear_26 ⟨Nat.le_of_ble_eq_true rfl, Nat.le_of_ble_eq_true rfl⟩) hP hD hS hA [0, 3] [1, 2, 4] rfl rfl (by decide) (by decide) (fun w1 H locs hw hP hD hS => ?_)
  obtain rfl := hw
  have hP : va_P (dC, dI) vwCl [(q_sound_laws, .inr (1, [.ref q_sound_steps, .ref q_sound_partEnds, .ref q_sound_lawStarts, .ref q_sound_partCounts, u_sound_laws_4, u_sound_laws_5, .int 2, .int 1, u_sound_laws_8])), (q_sound_lawStarts, .inl (cI, 4, .inl (upd (upd f_sound_lawStarts 0 0) 1 1))), (q_sound_partCounts, .inl (cI, 4, .inl (upd (upd (upd f_sound_partCounts 0 0) 0 1) 1 0))), (q_sound_steps, .inl (cI, 404, .inl (upd (upd f_sound_steps 0 (-3)) 1 1))), (q_sound_partEnds, .inl (cI, 52, .inl (upd f_sound_partEnds 0 1)))] H := hP.sub [3, 0, 1, 4, 2] rfl
  have hD : va_D A [(q_sound_laws, .inr (1, [.ref q_sound_steps, .ref q_sound_partEnds, .ref q_sound_lawStarts, .ref q_sound_partCounts, u_sound_laws_4, u_sound_laws_5, .int 2, .int 1, u_sound_laws_8])), (q_sound_lawStarts, .inl (cI, 4, .inl (upd (upd f_sound_lawStarts 0 0) 1 1))), (q_sound_partCounts, .inl (cI, 4, .inl (upd (upd (upd f_sound_partCounts 0 0) 0 1) 1 0))), (q_sound_steps, .inl (cI, 404, .inl (upd (upd f_sound_steps 0 (-3)) 1 1))), (q_sound_partEnds, .inl (cI, 52, .inl (upd f_sound_partEnds 0 1)))] := hD.sub [3, 0, 1, 4, 2] (by decide) rfl
  refine lv_aload_n hx hb dX1_clear_29 rfl (lv_at hl 0 rfl) ?_
  refine q_gov (va_runV (As := []) (rest := []) C (k_endPart1 l dC dI cB cI cJ cZ cS (q_sound_laws) (q_sound_partEnds) (q_sound_partCounts) (.ref q_sound_steps) (.ref q_sound_lawStarts) (u_sound_laws_4) (u_sound_laws_5) (u_sound_laws_8) ((upd (upd (upd f_sound_partCounts 0 0) 0 1) 1 0)) ((upd f_sound_partEnds 0 1)) rfl _) (cwV 0 hts gX1_clear_X1_endPart rfl rfl rfl (by decide +kernel) ⟨Nat.le_of_ble_eq_true rfl, Nat.le_of_ble_eq_true rfl⟩) (q_preV hK hP (ci := 1) (q0 := 0) rfl rfl rfl (q_pre hN hK hP hD [0, 2, 4] rfl (by decide))) rfl rfl hl.1 rfl (lv_room (Nat.le_of_ble_eq_true rfl)) dX1_clear_30 ⟨Nat.le_of_ble_eq_true rfl, Nat.le_of_ble_eq_true rfl⟩) hP hD hS hA [0, 2, 4] [1, 3] rfl rfl (by decide) (by decide) (fun w1 H locs hw hP hD hS => ?_)
  obtain rfl := hw
  have hP : va_P (dC, dI) vwCl [(q_sound_laws, .inr (1, [.ref q_sound_steps, .ref q_sound_partEnds, .ref q_sound_lawStarts, .ref q_sound_partCounts, u_sound_laws_4, u_sound_laws_5, .int 2, .int 1, u_sound_laws_8])), (q_sound_lawStarts, .inl (cI, 4, .inl (upd (upd f_sound_lawStarts 0 0) 1 1))), (q_sound_partCounts, .inl (cI, 4, .inl (upd (upd (upd (upd f_sound_partCounts 0 0) 0 1) 1 0) 1 1))), (q_sound_steps, .inl (cI, 404, .inl (upd (upd f_sound_steps 0 (-3)) 1 1))), (q_sound_partEnds, .inl (cI, 52, .inl (upd (upd f_sound_partEnds 0 1) 13 2)))] H := hP.sub [2, 0, 3, 1, 4] rfl
  have hD : va_D A [(q_sound_laws, .inr (1, [.ref q_sound_steps, .ref q_sound_partEnds, .ref q_sound_lawStarts, .ref q_sound_partCounts, u_sound_laws_4, u_sound_laws_5, .int 2, .int 1, u_sound_laws_8])), (q_sound_lawStarts, .inl (cI, 4, .inl (upd (upd f_sound_lawStarts 0 0) 1 1))), (q_sound_partCounts, .inl (cI, 4, .inl (upd (upd (upd (upd f_sound_partCounts 0 0) 0 1) 1 0) 1 1))), (q_sound_steps, .inl (cI, 404, .inl (upd (upd f_sound_steps 0 (-3)) 1 1))), (q_sound_partEnds, .inl (cI, 52, .inl (upd (upd f_sound_partEnds 0 1) 13 2)))] := hD.sub [2, 0, 3, 1, 4] (by decide) rfl
  refine lv_aload_n hx hb dX1_clear_33 rfl (lv_at hl 0 rfl) ?_
  refine lv_iconst (v := 2) hx hb dX1_clear_34 (by decide) ?_
  refine q_gov (va_runV (As := [.int 2]) (rest := []) C (k_begin2 l dC dI cB cI cJ cZ cS (q_sound_laws) (q_sound_lawStarts) (q_sound_partCounts) (.ref q_sound_steps) (.ref q_sound_partEnds) (u_sound_laws_4) (u_sound_laws_5) (1) (u_sound_laws_8) ((upd (upd f_sound_lawStarts 0 0) 1 1)) ((upd (upd (upd (upd f_sound_partCounts 0 0) 0 1) 1 0) 1 1)) _) (cwV 1 hts gX1_clear_X1_begin rfl rfl rfl (by decide +kernel) ⟨Nat.le_of_ble_eq_true rfl, Nat.le_of_ble_eq_true rfl⟩) (q_preV hK hP (ci := 1) (q0 := 0) rfl rfl rfl (q_pre hN hK hP hD [0, 1, 2] rfl (by decide))) rfl rfl hl.1 rfl (lv_room (Nat.le_of_ble_eq_true rfl)) dX1_clear_35 ⟨Nat.le_of_ble_eq_true rfl, Nat.le_of_ble_eq_true rfl⟩) hP hD hS hA [0, 1, 2] [3, 4] rfl rfl (by decide) (by decide) (fun w1 H locs hw hP hD hS => ?_)
  obtain rfl := hw
  have hP : va_P (dC, dI) vwCl [(q_sound_laws, .inr (1, [.ref q_sound_steps, .ref q_sound_partEnds, .ref q_sound_lawStarts, .ref q_sound_partCounts, u_sound_laws_4, u_sound_laws_5, .int 2, .int 2, u_sound_laws_8])), (q_sound_lawStarts, .inl (cI, 4, .inl (upd (upd (upd f_sound_lawStarts 0 0) 1 1) 2 2))), (q_sound_partCounts, .inl (cI, 4, .inl (upd (upd (upd (upd (upd f_sound_partCounts 0 0) 0 1) 1 0) 1 1) 2 0))), (q_sound_steps, .inl (cI, 404, .inl (upd (upd f_sound_steps 0 (-3)) 1 1))), (q_sound_partEnds, .inl (cI, 52, .inl (upd (upd f_sound_partEnds 0 1) 13 2)))] H := hP.sub [2, 3, 4, 0, 1] rfl
  have hD : va_D A [(q_sound_laws, .inr (1, [.ref q_sound_steps, .ref q_sound_partEnds, .ref q_sound_lawStarts, .ref q_sound_partCounts, u_sound_laws_4, u_sound_laws_5, .int 2, .int 2, u_sound_laws_8])), (q_sound_lawStarts, .inl (cI, 4, .inl (upd (upd (upd f_sound_lawStarts 0 0) 1 1) 2 2))), (q_sound_partCounts, .inl (cI, 4, .inl (upd (upd (upd (upd (upd f_sound_partCounts 0 0) 0 1) 1 0) 1 1) 2 0))), (q_sound_steps, .inl (cI, 404, .inl (upd (upd f_sound_steps 0 (-3)) 1 1))), (q_sound_partEnds, .inl (cI, 52, .inl (upd (upd f_sound_partEnds 0 1) 13 2)))] := hD.sub [2, 3, 4, 0, 1] (by decide) rfl
  refine lv_aload_n hx hb dX1_clear_38 rfl (lv_at hl 0 rfl) ?_
  refine lv_iconst (v := 1) hx hb dX1_clear_39 (by decide) ?_
  refine q_gov (va_runV (As := [.int 1]) (rest := []) C (k_putNumber2 l dC dI cB cI cJ cZ cS (q_sound_laws) (q_sound_steps) (.ref q_sound_partEnds) (.ref q_sound_lawStarts) (.ref q_sound_partCounts) (u_sound_laws_4) (u_sound_laws_5) (.int 2) (u_sound_laws_8) ((upd (upd f_sound_steps 0 (-3)) 1 1)) _) (cwV 1 hts gX1_clear_X1_putNumber rfl rfl rfl (by decide +kernel) ⟨Nat.le_of_ble_eq_true rfl, Nat.le_of_ble_eq_true rfl⟩) (q_preV hK hP (ci := 1) (q0 := 0) rfl rfl rfl (q_pre hN hK hP hD [0, 3] rfl (by decide))) rfl rfl hl.1 rfl (lv_room (Nat.le_of_ble_eq_true rfl)) dX1_clear_40 ⟨Nat.le_of_ble_eq_true rfl, Nat.le_of_ble_eq_true rfl⟩) hP hD hS hA [0, 3] [1, 2, 4] rfl rfl (by decide) (by decide) (fun w1 H locs hw hP hD hS => ?_)
  obtain rfl := hw
  have hP : va_P (dC, dI) vwCl [(q_sound_laws, .inr (1, [.ref q_sound_steps, .ref q_sound_partEnds, .ref q_sound_lawStarts, .ref q_sound_partCounts, u_sound_laws_4, u_sound_laws_5, .int 3, .int 2, u_sound_laws_8])), (q_sound_lawStarts, .inl (cI, 4, .inl (upd (upd (upd f_sound_lawStarts 0 0) 1 1) 2 2))), (q_sound_partCounts, .inl (cI, 4, .inl (upd (upd (upd (upd (upd f_sound_partCounts 0 0) 0 1) 1 0) 1 1) 2 0))), (q_sound_steps, .inl (cI, 404, .inl (upd (upd (upd f_sound_steps 0 (-3)) 1 1) 2 1))), (q_sound_partEnds, .inl (cI, 52, .inl (upd (upd f_sound_partEnds 0 1) 13 2)))] H := hP.sub [3, 0, 1, 4, 2] rfl
  have hD : va_D A [(q_sound_laws, .inr (1, [.ref q_sound_steps, .ref q_sound_partEnds, .ref q_sound_lawStarts, .ref q_sound_partCounts, u_sound_laws_4, u_sound_laws_5, .int 3, .int 2, u_sound_laws_8])), (q_sound_lawStarts, .inl (cI, 4, .inl (upd (upd (upd f_sound_lawStarts 0 0) 1 1) 2 2))), (q_sound_partCounts, .inl (cI, 4, .inl (upd (upd (upd (upd (upd f_sound_partCounts 0 0) 0 1) 1 0) 1 1) 2 0))), (q_sound_steps, .inl (cI, 404, .inl (upd (upd (upd f_sound_steps 0 (-3)) 1 1) 2 1))), (q_sound_partEnds, .inl (cI, 52, .inl (upd (upd f_sound_partEnds 0 1) 13 2)))] := hD.sub [3, 0, 1, 4, 2] (by decide) rfl
  refine lv_aload_n hx hb dX1_clear_43 rfl (lv_at hl 0 rfl) ?_
  refine q_gov (va_runV (As := []) (rest := []) C (k_endPart2 l dC dI cB cI cJ cZ cS (q_sound_laws) (q_sound_partEnds) (q_sound_partCounts) (.ref q_sound_steps) (.ref q_sound_lawStarts) (u_sound_laws_4) (u_sound_laws_5) (u_sound_laws_8) ((upd (upd (upd (upd (upd f_sound_partCounts 0 0) 0 1) 1 0) 1 1) 2 0)) ((upd (upd f_sound_partEnds 0 1) 13 2)) rfl _) (cwV 0 hts gX1_clear_X1_endPart rfl rfl rfl (by decide +kernel) ⟨Nat.le_of_ble_eq_true rfl, Nat.le_of_ble_eq_true rfl⟩) (q_preV hK hP (ci := 1) (q0 := 0) rfl rfl rfl (q_pre hN hK hP hD [0, 2, 4] rfl (by decide))) rfl rfl hl.1 rfl (lv_room (Nat.le_of_ble_eq_true rfl)) dX1_clear_44 ⟨Nat.le_of_ble_eq_true rfl, Nat.le_of_ble_eq_true rfl⟩) hP hD hS hA [0, 2, 4] [1, 3] rfl rfl (by decide) (by decide) (fun w1 H locs hw hP hD hS => ?_)
  obtain rfl := hw
  have hP : va_P (dC, dI) vwCl [(q_sound_laws, .inr (1, [.ref q_sound_steps, .ref q_sound_partEnds, .ref q_sound_lawStarts, .ref q_sound_partCounts, u_sound_laws_4, u_sound_laws_5, .int 3, .int 2, u_sound_laws_8])), (q_sound_lawStarts, .inl (cI, 4, .inl (upd (upd (upd f_sound_lawStarts 0 0) 1 1) 2 2))), (q_sound_partCounts, .inl (cI, 4, .inl (upd (upd (upd (upd (upd (upd f_sound_partCounts 0 0) 0 1) 1 0) 1 1) 2 0) 2 1))), (q_sound_steps, .inl (cI, 404, .inl (upd (upd (upd f_sound_steps 0 (-3)) 1 1) 2 1))), (q_sound_partEnds, .inl (cI, 52, .inl (upd (upd (upd f_sound_partEnds 0 1) 13 2) 26 3)))] H := hP.sub [2, 0, 3, 1, 4] rfl
  have hD : va_D A [(q_sound_laws, .inr (1, [.ref q_sound_steps, .ref q_sound_partEnds, .ref q_sound_lawStarts, .ref q_sound_partCounts, u_sound_laws_4, u_sound_laws_5, .int 3, .int 2, u_sound_laws_8])), (q_sound_lawStarts, .inl (cI, 4, .inl (upd (upd (upd f_sound_lawStarts 0 0) 1 1) 2 2))), (q_sound_partCounts, .inl (cI, 4, .inl (upd (upd (upd (upd (upd (upd f_sound_partCounts 0 0) 0 1) 1 0) 1 1) 2 0) 2 1))), (q_sound_steps, .inl (cI, 404, .inl (upd (upd (upd f_sound_steps 0 (-3)) 1 1) 2 1))), (q_sound_partEnds, .inl (cI, 52, .inl (upd (upd (upd f_sound_partEnds 0 1) 13 2) 26 3)))] := hD.sub [2, 0, 3, 1, 4] (by decide) rfl
  refine lv_aload_n hx hb dX1_clear_47 rfl (lv_at hl 0 rfl) ?_
  refine lv_iconst (v := 3) hx hb dX1_clear_48 (by decide) ?_
  refine q_gov (va_runV (As := [.int 3]) (rest := []) C (k_begin3 l dC dI cB cI cJ cZ cS (q_sound_laws) (q_sound_lawStarts) (q_sound_partCounts) (.ref q_sound_steps) (.ref q_sound_partEnds) (u_sound_laws_4) (u_sound_laws_5) (2) (u_sound_laws_8) ((upd (upd (upd f_sound_lawStarts 0 0) 1 1) 2 2)) ((upd (upd (upd (upd (upd (upd f_sound_partCounts 0 0) 0 1) 1 0) 1 1) 2 0) 2 1)) _) (cwV 1 hts gX1_clear_X1_begin rfl rfl rfl (by decide +kernel) ⟨Nat.le_of_ble_eq_true rfl, Nat.le_of_ble_eq_true rfl⟩) (q_preV hK hP (ci := 1) (q0 := 0) rfl rfl rfl (q_pre hN hK hP hD [0, 1, 2] rfl (by decide))) rfl rfl hl.1 rfl (lv_room (Nat.le_of_ble_eq_true rfl)) dX1_clear_49 ⟨Nat.le_of_ble_eq_true rfl, Nat.le_of_ble_eq_true rfl⟩) hP hD hS hA [0, 1, 2] [3, 4] rfl rfl (by decide) (by decide) (fun w1 H locs hw hP hD hS => ?_)
  obtain rfl := hw
  have hP : va_P (dC, dI) vwCl [(q_sound_laws, .inr (1, [.ref q_sound_steps, .ref q_sound_partEnds, .ref q_sound_lawStarts, .ref q_sound_partCounts, u_sound_laws_4, u_sound_laws_5, .int 3, .int 3, u_sound_laws_8])), (q_sound_lawStarts, .inl (cI, 4, .inl (upd (upd (upd (upd f_sound_lawStarts 0 0) 1 1) 2 2) 3 3))), (q_sound_partCounts, .inl (cI, 4, .inl (upd (upd (upd (upd (upd (upd (upd f_sound_partCounts 0 0) 0 1) 1 0) 1 1) 2 0) 2 1) 3 0))), (q_sound_steps, .inl (cI, 404, .inl (upd (upd (upd f_sound_steps 0 (-3)) 1 1) 2 1))), (q_sound_partEnds, .inl (cI, 52, .inl (upd (upd (upd f_sound_partEnds 0 1) 13 2) 26 3)))] H := hP.sub [2, 3, 4, 0, 1] rfl
  have hD : va_D A [(q_sound_laws, .inr (1, [.ref q_sound_steps, .ref q_sound_partEnds, .ref q_sound_lawStarts, .ref q_sound_partCounts, u_sound_laws_4, u_sound_laws_5, .int 3, .int 3, u_sound_laws_8])), (q_sound_lawStarts, .inl (cI, 4, .inl (upd (upd (upd (upd f_sound_lawStarts 0 0) 1 1) 2 2) 3 3))), (q_sound_partCounts, .inl (cI, 4, .inl (upd (upd (upd (upd (upd (upd (upd f_sound_partCounts 0 0) 0 1) 1 0) 1 1) 2 0) 2 1) 3 0))), (q_sound_steps, .inl (cI, 404, .inl (upd (upd (upd f_sound_steps 0 (-3)) 1 1) 2 1))), (q_sound_partEnds, .inl (cI, 52, .inl (upd (upd (upd f_sound_partEnds 0 1) 13 2) 26 3)))] := hD.sub [2, 3, 4, 0, 1] (by decide) rfl
  refine lv_aload_n hx hb dX1_clear_52 rfl (lv_at hl 0 rfl) ?_
  refine lv_iconst (v := 0) hx hb dX1_clear_53 (by decide) ?_
  refine q_gov (va_runV (As := [.int 0]) (rest := []) C (k_putNumber3 l dC dI cB cI cJ cZ cS (q_sound_laws) (q_sound_steps) (.ref q_sound_partEnds) (.ref q_sound_lawStarts) (.ref q_sound_partCounts) (u_sound_laws_4) (u_sound_laws_5) (.int 3) (u_sound_laws_8) ((upd (upd (upd f_sound_steps 0 (-3)) 1 1) 2 1)) _) (cwV 1 hts gX1_clear_X1_putNumber rfl rfl rfl (by decide +kernel) ⟨Nat.le_of_ble_eq_true rfl, Nat.le_of_ble_eq_true rfl⟩) (q_preV hK hP (ci := 1) (q0 := 0) rfl rfl rfl (q_pre hN hK hP hD [0, 3] rfl (by decide))) rfl rfl hl.1 rfl (lv_room (Nat.le_of_ble_eq_true rfl)) dX1_clear_54 ⟨Nat.le_of_ble_eq_true rfl, Nat.le_of_ble_eq_true rfl⟩) hP hD hS hA [0, 3] [1, 2, 4] rfl rfl (by decide) (by decide) (fun w1 H locs hw hP hD hS => ?_)
  obtain rfl := hw
  have hP : va_P (dC, dI) vwCl [(q_sound_laws, .inr (1, [.ref q_sound_steps, .ref q_sound_partEnds, .ref q_sound_lawStarts, .ref q_sound_partCounts, u_sound_laws_4, u_sound_laws_5, .int 4, .int 3, u_sound_laws_8])), (q_sound_lawStarts, .inl (cI, 4, .inl (upd (upd (upd (upd f_sound_lawStarts 0 0) 1 1) 2 2) 3 3))), (q_sound_partCounts, .inl (cI, 4, .inl (upd (upd (upd (upd (upd (upd (upd f_sound_partCounts 0 0) 0 1) 1 0) 1 1) 2 0) 2 1) 3 0))), (q_sound_steps, .inl (cI, 404, .inl (upd (upd (upd (upd f_sound_steps 0 (-3)) 1 1) 2 1) 3 0))), (q_sound_partEnds, .inl (cI, 52, .inl (upd (upd (upd f_sound_partEnds 0 1) 13 2) 26 3)))] H := hP.sub [3, 0, 1, 4, 2] rfl
  have hD : va_D A [(q_sound_laws, .inr (1, [.ref q_sound_steps, .ref q_sound_partEnds, .ref q_sound_lawStarts, .ref q_sound_partCounts, u_sound_laws_4, u_sound_laws_5, .int 4, .int 3, u_sound_laws_8])), (q_sound_lawStarts, .inl (cI, 4, .inl (upd (upd (upd (upd f_sound_lawStarts 0 0) 1 1) 2 2) 3 3))), (q_sound_partCounts, .inl (cI, 4, .inl (upd (upd (upd (upd (upd (upd (upd f_sound_partCounts 0 0) 0 1) 1 0) 1 1) 2 0) 2 1) 3 0))), (q_sound_steps, .inl (cI, 404, .inl (upd (upd (upd (upd f_sound_steps 0 (-3)) 1 1) 2 1) 3 0))), (q_sound_partEnds, .inl (cI, 52, .inl (upd (upd (upd f_sound_partEnds 0 1) 13 2) 26 3)))] := hD.sub [3, 0, 1, 4, 2] (by decide) rfl
  refine lv_aload_n hx hb dX1_clear_57 rfl (lv_at hl 0 rfl) ?_
  refine q_gov (va_runV (As := []) (rest := []) C (k_endPart3 l dC dI cB cI cJ cZ cS (q_sound_laws) (q_sound_partEnds) (q_sound_partCounts) (.ref q_sound_steps) (.ref q_sound_lawStarts) (u_sound_laws_4) (u_sound_laws_5) (u_sound_laws_8) ((upd (upd (upd (upd (upd (upd (upd f_sound_partCounts 0 0) 0 1) 1 0) 1 1) 2 0) 2 1) 3 0)) ((upd (upd (upd f_sound_partEnds 0 1) 13 2) 26 3)) rfl _) (cwV 0 hts gX1_clear_X1_endPart rfl rfl rfl (by decide +kernel) ⟨Nat.le_of_ble_eq_true rfl, Nat.le_of_ble_eq_true rfl⟩) (q_preV hK hP (ci := 1) (q0 := 0) rfl rfl rfl (q_pre hN hK hP hD [0, 2, 4] rfl (by decide))) rfl rfl hl.1 rfl (lv_room (Nat.le_of_ble_eq_true rfl)) dX1_clear_58 ⟨Nat.le_of_ble_eq_true rfl, Nat.le_of_ble_eq_true rfl⟩) hP hD hS hA [0, 2, 4] [1, 3] rfl rfl (by decide) (by decide) (fun w1 H locs hw hP hD hS => ?_)
  obtain rfl := hw
  have hP : va_P (dC, dI) vwCl [(q_sound_laws, .inr (1, [.ref q_sound_steps, .ref q_sound_partEnds, .ref q_sound_lawStarts, .ref q_sound_partCounts, u_sound_laws_4, u_sound_laws_5, .int 4, .int 3, u_sound_laws_8])), (q_sound_lawStarts, .inl (cI, 4, .inl (upd (upd (upd (upd f_sound_lawStarts 0 0) 1 1) 2 2) 3 3))), (q_sound_partCounts, .inl (cI, 4, .inl (upd (upd (upd (upd (upd (upd (upd (upd f_sound_partCounts 0 0) 0 1) 1 0) 1 1) 2 0) 2 1) 3 0) 3 1))), (q_sound_steps, .inl (cI, 404, .inl (upd (upd (upd (upd f_sound_steps 0 (-3)) 1 1) 2 1) 3 0))), (q_sound_partEnds, .inl (cI, 52, .inl (upd (upd (upd (upd f_sound_partEnds 0 1) 13 2) 26 3) 39 4)))] H := hP.sub [2, 0, 3, 1, 4] rfl
  have hD : va_D A [(q_sound_laws, .inr (1, [.ref q_sound_steps, .ref q_sound_partEnds, .ref q_sound_lawStarts, .ref q_sound_partCounts, u_sound_laws_4, u_sound_laws_5, .int 4, .int 3, u_sound_laws_8])), (q_sound_lawStarts, .inl (cI, 4, .inl (upd (upd (upd (upd f_sound_lawStarts 0 0) 1 1) 2 2) 3 3))), (q_sound_partCounts, .inl (cI, 4, .inl (upd (upd (upd (upd (upd (upd (upd (upd f_sound_partCounts 0 0) 0 1) 1 0) 1 1) 2 0) 2 1) 3 0) 3 1))), (q_sound_steps, .inl (cI, 404, .inl (upd (upd (upd (upd f_sound_steps 0 (-3)) 1 1) 2 1) 3 0))), (q_sound_partEnds, .inl (cI, 52, .inl (upd (upd (upd (upd f_sound_partEnds 0 1) 13 2) 26 3) 39 4)))] := hD.sub [2, 0, 3, 1, 4] (by decide) rfl
  exact q_vret C hr hlocks hK hP hD hS (Nat.le_of_ble_eq_true rfl) (Nat.le_of_ble_eq_true rfl) dX1_clear_61 (rfl)

set_option maxHeartbeats 4000000 in
set_option maxRecDepth 100000 in
theorem k_X5_clear (l : Launch) (dC : Nat → ClassId) (dI : Nat → Nat → Nat) (cB cI cJ cZ cS : ClassId) (q_sound : Nat) (q_sound_laws : Nat) (q_sound_steps : Nat) (q_sound_partEnds : Nat) (q_sound_lawStarts : Nat) (q_sound_partCounts : Nat) (u_sound_0 : Value) (u_sound_1 : Value) (u_sound_2 : Value) (u_sound_3 : Value) (u_sound_4 : Value) (y_w : Int32) (y_p : Int32) (y_g : Int32) (y_s : Int32) (u_sound_laws_4 : Value) (u_sound_laws_5 : Value) (y_len : Int32) (y_cur : Int32) (u_sound_laws_8 : Value) (f_sound_lawStarts : Nat → Int32) (f_sound_partCounts : Nat → Int32) (f_sound_steps : Nat → Int32) (f_sound_partEnds : Nat → Int32) : CV l yX5_clear wsX5_clear ({ frames := 3, cells := 0, slots := 0, locals := 62 }) (dC, dI) (tysA cB cI cJ cZ cS) [(q_sound, .inr (5, [u_sound_0, u_sound_1, u_sound_2, u_sound_3, u_sound_4, .ref q_sound_laws, .int y_w, .int y_p, .int y_g, .int y_s])), (q_sound_laws, .inr (1, [.ref q_sound_steps, .ref q_sound_partEnds, .ref q_sound_lawStarts, .ref q_sound_partCounts, u_sound_laws_4, u_sound_laws_5, .int y_len, .int y_cur, u_sound_laws_8])), (q_sound_lawStarts, .inl (cI, 4, .inl f_sound_lawStarts)), (q_sound_partCounts, .inl (cI, 4, .inl f_sound_partCounts)), (q_sound_steps, .inl (cI, 404, .inl f_sound_steps)), (q_sound_partEnds, .inl (cI, 52, .inl f_sound_partEnds))] [.ref q_sound] (fun w => w = [(q_sound, .inr (5, [u_sound_0, u_sound_1, u_sound_2, u_sound_3, u_sound_4, .ref q_sound_laws, .int 0, .int 0, .int 1, .int 0])), (q_sound_laws, .inr (1, [.ref q_sound_steps, .ref q_sound_partEnds, .ref q_sound_lawStarts, .ref q_sound_partCounts, u_sound_laws_4, u_sound_laws_5, .int 4, .int 3, u_sound_laws_8])), (q_sound_lawStarts, .inl (cI, 4, .inl (upd (upd (upd (upd f_sound_lawStarts 0 0) 1 1) 2 2) 3 3))), (q_sound_partCounts, .inl (cI, 4, .inl (upd (upd (upd (upd (upd (upd (upd (upd f_sound_partCounts 0 0) 0 1) 1 0) 1 1) 2 0) 2 1) 3 0) 3 1))), (q_sound_steps, .inl (cI, 404, .inl (upd (upd (upd (upd f_sound_steps 0 (-3)) 1 1) 2 1) 3 0))), (q_sound_partEnds, .inl (cI, 52, .inl (upd (upd (upd (upd f_sound_partEnds 0 1) 13 2) 26 3) 39 4)))]) := by
  refine open_V (cc := cX5_clear) (maxL := 1) (ret := none) (by decide) rfl (Nat.le_of_ble_eq_true rfl) ?_
  intro p e s m below meth c A ls E
  obtain ⟨C, hr, hlocks, hnm, hA, hP, hK, hD, hN, hl⟩ := E
  obtain ⟨hx, hb, hml, hown, hts⟩ := id C
  have hS : va_S A s.heap s.heap [] := va_S.rf
  have hl : lv_has ls 1 [(0, .ref q_sound)] := hl
  have inX5 : ∀ w ∈ u_ws RX5 TX5 10, w ∈ wsX5_clear := by decide +kernel
  have E_X1_clear : Cond.selects RX1 yX1_clear yX1_clear ∈ wsX5_clear := by decide +kernel
  have I_X1 : Cond.initialized RX1 ∈ wsX5_clear := by decide +kernel
  have L30 : Cond.fieldLink RX5 30 "GuessFerry$Sound" "laws" "LGuessFerry$Laws;" ∈ wsX5_clear := by decide +kernel
  have L37 : Cond.fieldLink RX5 37 "GuessFerry$Sound" "waves" "I" ∈ wsX5_clear := by decide +kernel
  have L41 : Cond.fieldLink RX5 41 "GuessFerry$Sound" "parties" "I" ∈ wsX5_clear := by decide +kernel
  have L44 : Cond.fieldLink RX5 44 "GuessFerry$Sound" "guesses" "I" ∈ wsX5_clear := by decide +kernel
  have L47 : Cond.fieldLink RX5 47 "GuessFerry$Sound" "seed" "I" ∈ wsX5_clear := by decide +kernel
  have N_X1_clear : Cond.instanceMethod yX1_clear ∈ wsX5_clear := by decide +kernel
  refine lv_aload_n hx hb dX5_clear_0 rfl (lv_at hl 0 rfl) ?_
  refine lv_iconst (v := 0) hx hb dX5_clear_1 (by decide) ?_
  refine q_put (ty := .int) (w2 := [(q_sound, .inr (5, [u_sound_0, u_sound_1, u_sound_2, u_sound_3, u_sound_4, .ref q_sound_laws, .int 0, .int y_p, .int y_g, .int y_s])), (q_sound_laws, .inr (1, [.ref q_sound_steps, .ref q_sound_partEnds, .ref q_sound_lawStarts, .ref q_sound_partCounts, u_sound_laws_4, u_sound_laws_5, .int y_len, .int y_cur, u_sound_laws_8])), (q_sound_lawStarts, .inl (cI, 4, .inl f_sound_lawStarts)), (q_sound_partCounts, .inl (cI, 4, .inl f_sound_partCounts)), (q_sound_steps, .inl (cI, 404, .inl f_sound_steps)), (q_sound_partEnds, .inl (cI, 52, .inl f_sound_partEnds))]) tyX5 tyX5_ok nmX5 C inX5 hK hP hD hS 0 rfl rfl 6 (by decide) rfl L37 rfl (by decide +kernel) (rfl) rfl (Nat.le_of_ble_eq_true rfl) dX5_clear_2 rfl (fun H locs hP hD hS => ?_)
  refine lv_aload_n hx hb dX5_clear_5 rfl (lv_at hl 0 rfl) ?_
  refine lv_iconst (v := 0) hx hb dX5_clear_6 (by decide) ?_
  refine q_put (ty := .int) (w2 := [(q_sound, .inr (5, [u_sound_0, u_sound_1, u_sound_2, u_sound_3, u_sound_4, .ref q_sound_laws, .int 0, .int 0, .int y_g, .int y_s])), (q_sound_laws, .inr (1, [.ref q_sound_steps, .ref q_sound_partEnds, .ref q_sound_lawStarts, .ref q_sound_partCounts, u_sound_laws_4, u_sound_laws_5, .int y_len, .int y_cur, u_sound_laws_8])), (q_sound_lawStarts, .inl (cI, 4, .inl f_sound_lawStarts)), (q_sound_partCounts, .inl (cI, 4, .inl f_sound_partCounts)), (q_sound_steps, .inl (cI, 404, .inl f_sound_steps)), (q_sound_partEnds, .inl (cI, 52, .inl f_sound_partEnds))]) tyX5 tyX5_ok nmX5 C inX5 hK hP hD hS 0 rfl rfl 7 (by decide) rfl L41 rfl (by decide +kernel) (rfl) rfl (Nat.le_of_ble_eq_true rfl) dX5_clear_7 rfl (fun H locs hP hD hS => ?_)
  refine lv_aload_n hx hb dX5_clear_10 rfl (lv_at hl 0 rfl) ?_
  refine lv_iconst (v := 1) hx hb dX5_clear_11 (by decide) ?_
  refine q_put (ty := .int) (w2 := [(q_sound, .inr (5, [u_sound_0, u_sound_1, u_sound_2, u_sound_3, u_sound_4, .ref q_sound_laws, .int 0, .int 0, .int 1, .int y_s])), (q_sound_laws, .inr (1, [.ref q_sound_steps, .ref q_sound_partEnds, .ref q_sound_lawStarts, .ref q_sound_partCounts, u_sound_laws_4, u_sound_laws_5, .int y_len, .int y_cur, u_sound_laws_8])), (q_sound_lawStarts, .inl (cI, 4, .inl f_sound_lawStarts)), (q_sound_partCounts, .inl (cI, 4, .inl f_sound_partCounts)), (q_sound_steps, .inl (cI, 404, .inl f_sound_steps)), (q_sound_partEnds, .inl (cI, 52, .inl f_sound_partEnds))]) tyX5 tyX5_ok nmX5 C inX5 hK hP hD hS 0 rfl rfl 8 (by decide) rfl L44 rfl (by decide +kernel) (rfl) rfl (Nat.le_of_ble_eq_true rfl) dX5_clear_12 rfl (fun H locs hP hD hS => ?_)
  refine lv_aload_n hx hb dX5_clear_15 rfl (lv_at hl 0 rfl) ?_
  refine lv_iconst (v := 0) hx hb dX5_clear_16 (by decide) ?_
  refine q_put (ty := .int) (w2 := [(q_sound, .inr (5, [u_sound_0, u_sound_1, u_sound_2, u_sound_3, u_sound_4, .ref q_sound_laws, .int 0, .int 0, .int 1, .int 0])), (q_sound_laws, .inr (1, [.ref q_sound_steps, .ref q_sound_partEnds, .ref q_sound_lawStarts, .ref q_sound_partCounts, u_sound_laws_4, u_sound_laws_5, .int y_len, .int y_cur, u_sound_laws_8])), (q_sound_lawStarts, .inl (cI, 4, .inl f_sound_lawStarts)), (q_sound_partCounts, .inl (cI, 4, .inl f_sound_partCounts)), (q_sound_steps, .inl (cI, 404, .inl f_sound_steps)), (q_sound_partEnds, .inl (cI, 52, .inl f_sound_partEnds))]) tyX5 tyX5_ok nmX5 C inX5 hK hP hD hS 0 rfl rfl 9 (by decide) rfl L47 rfl (by decide +kernel) (rfl) rfl (Nat.le_of_ble_eq_true rfl) dX5_clear_17 rfl (fun H locs hP hD hS => ?_)
  refine lv_aload_n hx hb dX5_clear_20 rfl (lv_at hl 0 rfl) ?_
  refine q_get (v := .ref q_sound_laws) C inX5 hK hP 0 rfl rfl 5 (by decide) rfl L30 rfl dX5_clear_21 ?_
  refine q_gov (va_runVN (As := []) (rest := []) C (k_X1_clear l dC dI cB cI cJ cZ cS (q_sound_laws) (q_sound_steps) (q_sound_partEnds) (q_sound_lawStarts) (q_sound_partCounts) (u_sound_laws_4) (u_sound_laws_5) (y_len) (y_cur) (u_sound_laws_8) (f_sound_lawStarts) (f_sound_partCounts) (f_sound_steps) (f_sound_partEnds) _) ⟨va_cnB 0 hts gX5_clear_X1_clear_n50 rfl rfl rfl (hN _ nwM_X5_50 rfl) (hts _ I_X1) (by decide +kernel) ⟨Nat.le_of_ble_eq_true rfl, Nat.le_of_ble_eq_true rfl⟩, hts _ N_X1_clear, hts _ E_X1_clear⟩ (q_preV hK hP (ci := 1) (q0 := 1) rfl rfl rfl (q_pre hN hK hP hD [1, 2, 3, 4, 5] rfl (by decide))) rfl rfl hl.1 rfl (lv_room (Nat.le_of_ble_eq_true rfl)) dX5_clear_24 ⟨Nat.le_of_ble_eq_true rfl, Nat.le_of_ble_eq_true rfl⟩) hP hD hS hA [1, 2, 3, 4, 5] [0] rfl rfl (by decide) (by decide) (fun w1 H locs hw hP hD hS => ?_)
  obtain rfl := hw
  have hP : va_P (dC, dI) vwCl [(q_sound, .inr (5, [u_sound_0, u_sound_1, u_sound_2, u_sound_3, u_sound_4, .ref q_sound_laws, .int 0, .int 0, .int 1, .int 0])), (q_sound_laws, .inr (1, [.ref q_sound_steps, .ref q_sound_partEnds, .ref q_sound_lawStarts, .ref q_sound_partCounts, u_sound_laws_4, u_sound_laws_5, .int 4, .int 3, u_sound_laws_8])), (q_sound_lawStarts, .inl (cI, 4, .inl (upd (upd (upd (upd f_sound_lawStarts 0 0) 1 1) 2 2) 3 3))), (q_sound_partCounts, .inl (cI, 4, .inl (upd (upd (upd (upd (upd (upd (upd (upd f_sound_partCounts 0 0) 0 1) 1 0) 1 1) 2 0) 2 1) 3 0) 3 1))), (q_sound_steps, .inl (cI, 404, .inl (upd (upd (upd (upd f_sound_steps 0 (-3)) 1 1) 2 1) 3 0))), (q_sound_partEnds, .inl (cI, 52, .inl (upd (upd (upd (upd f_sound_partEnds 0 1) 13 2) 26 3) 39 4)))] H := hP.sub [0, 1, 2, 3, 4, 5] rfl
  have hD : va_D A [(q_sound, .inr (5, [u_sound_0, u_sound_1, u_sound_2, u_sound_3, u_sound_4, .ref q_sound_laws, .int 0, .int 0, .int 1, .int 0])), (q_sound_laws, .inr (1, [.ref q_sound_steps, .ref q_sound_partEnds, .ref q_sound_lawStarts, .ref q_sound_partCounts, u_sound_laws_4, u_sound_laws_5, .int 4, .int 3, u_sound_laws_8])), (q_sound_lawStarts, .inl (cI, 4, .inl (upd (upd (upd (upd f_sound_lawStarts 0 0) 1 1) 2 2) 3 3))), (q_sound_partCounts, .inl (cI, 4, .inl (upd (upd (upd (upd (upd (upd (upd (upd f_sound_partCounts 0 0) 0 1) 1 0) 1 1) 2 0) 2 1) 3 0) 3 1))), (q_sound_steps, .inl (cI, 404, .inl (upd (upd (upd (upd f_sound_steps 0 (-3)) 1 1) 2 1) 3 0))), (q_sound_partEnds, .inl (cI, 52, .inl (upd (upd (upd (upd f_sound_partEnds 0 1) 13 2) 26 3) 39 4)))] := hD.sub [0, 1, 2, 3, 4, 5] (by decide) rfl
  exact q_vret C hr hlocks hK hP hD hS (Nat.le_of_ble_eq_true rfl) (Nat.le_of_ble_eq_true rfl) dX5_clear_27 (rfl)

set_option maxHeartbeats 4000000 in
set_option maxRecDepth 100000 in
theorem k_X7_byteAt (l : Launch) (dC : Nat → ClassId) (dI : Nat → Nat → Nat) (cB cI cJ cZ cS : ClassId) (q_tape : Nat) (u_tape_0 : Value) : CI l yX7_byteAt wsX7_byteAt ({ frames := 0, cells := 0, slots := 0, locals := 0 }) (dC, dI) (tysA cB cI cJ cZ cS) [(q_tape, .inr (7, [u_tape_0, .int 0]))] [.ref q_tape, .int 0] (fun r w => w = [(q_tape, .inr (7, [u_tape_0, .int 0]))] ∧ r = (-1)) := by
  refine open_I (cc := cX7_byteAt) (maxL := 2) (ret := (some .int)) (by decide) rfl (Nat.le_of_ble_eq_true rfl) ?_
  intro p e s m below meth c A ls E
  obtain ⟨C, hr, hlocks, hnm, hA, hP, hK, hD, hN, hl⟩ := E
  obtain ⟨hx, hb, hml, hown, hts⟩ := id C
  have hS : va_S A s.heap s.heap [] := va_S.rf
  have hl : lv_has ls 2 [(0, .ref q_tape), (1, .int 0)] := hl
  have inX7 : ∀ w ∈ u_ws RX7 TX7 2, w ∈ wsX7_byteAt := fun _ h => List.mem_cons_of_mem _ (List.mem_append_right _ h)
  have L15 : Cond.fieldLink RX7 15 "GuessFerry$Tape" "length" "I" ∈ wsX7_byteAt := by decide +kernel
  refine lv_iload_n hx hb dX7_byteAt_0 rfl (lv_at hl 1 rfl) ?_
  refine lv_if_lt (tgt := 25) hx hb dX7_byteAt_1 (by decide) (fun h => absurd h (by decide +kernel)) (fun _ => ?_)
  refine lv_iload_n hx hb dX7_byteAt_4 rfl (lv_at hl 1 rfl) ?_
  refine lv_aload_n hx hb dX7_byteAt_5 rfl (lv_at hl 0 rfl) ?_
  refine q_get (v := .int 0) C inX7 hK hP 0 rfl rfl 1 (by decide) rfl L15 rfl dX7_byteAt_6 ?_
  refine lv_icmp_ge (tgt := 25) hx hb dX7_byteAt_9 (by decide) (fun _ => ?_) (fun h => absurd (by decide +kernel) h)
  refine lv_iconst (v := (-1)) hx hb dX7_byteAt_25 (by decide) ?_
  exact q_iret C hr hlocks hK hP hD hS (Nat.le_of_ble_eq_true rfl) (Nat.le_of_ble_eq_true rfl) dX7_byteAt_26 (⟨rfl, rfl⟩)

set_option maxHeartbeats 4000000 in
set_option maxRecDepth 100000 in
theorem k_X9_skipBlanks (l : Launch) (dC : Nat → ClassId) (dI : Nat → Nat → Nat) (cB cI cJ cZ cS : ClassId) (q_tape : Nat) (q_tokens : Nat) (u_tokens_1 : Value) (u_tokens_2 : Value) (u_tokens_3 : Value) (u_tokens_4 : Value) (u_tokens_6 : Value) (u_tape_0 : Value) : CV l yX9_skipBlanks wsX9_skipBlanks ({ frames := 0, cells := 0, slots := 0, locals := 0 }) (dC, dI) (tysA cB cI cJ cZ cS) [(q_tokens, .inr (9, [.ref q_tape, u_tokens_1, u_tokens_2, u_tokens_3, u_tokens_4, .int 0, u_tokens_6])), (q_tape, .inr (7, [u_tape_0, .int 0]))] [.ref q_tokens] (fun w => w = [(q_tokens, .inr (9, [.ref q_tape, u_tokens_1, u_tokens_2, u_tokens_3, u_tokens_4, .int 0, u_tokens_6])), (q_tape, .inr (7, [u_tape_0, .int 0]))]) := by
  refine open_V (cc := cX9_skipBlanks) (maxL := 1) (ret := none) (by decide) rfl (Nat.le_of_ble_eq_true rfl) ?_
  intro p e s m below meth c A ls E
  obtain ⟨C, hr, hlocks, hnm, hA, hP, hK, hD, hN, hl⟩ := E
  obtain ⟨hx, hb, hml, hown, hts⟩ := id C
  have hS : va_S A s.heap s.heap [] := va_S.rf
  have hl : lv_has ls 1 [(0, .ref q_tokens)] := hl
  have inX7 : ∀ w ∈ u_ws RX7 TX7 2, w ∈ wsX9_skipBlanks := fun _ h => List.mem_cons_of_mem _ (List.mem_append_right _ h)
  have inX9 : ∀ w ∈ u_ws RX9 TX9 7, w ∈ wsX9_skipBlanks := fun _ h => List.mem_cons_of_mem _ (List.mem_append_left _ (List.mem_append_right _ h))
  have L23 : Cond.fieldLink RX9 23 "GuessFerry$Tokens" "tape" "LGuessFerry$Tape;" ∈ wsX9_skipBlanks := by decide +kernel
  have L47 : Cond.fieldLink RX9 47 "GuessFerry$Tokens" "end" "I" ∈ wsX9_skipBlanks := by decide +kernel
  refine lv_aload_n hx hb dX9_skipBlanks_0 rfl (lv_at hl 0 rfl) ?_
  refine q_get (v := .int 0) C inX9 hK hP 0 rfl rfl 5 (by decide) rfl L47 rfl dX9_skipBlanks_1 ?_
  refine lv_aload_n hx hb dX9_skipBlanks_4 rfl (lv_at hl 0 rfl) ?_
  refine q_get (v := .ref q_tape) C inX9 hK hP 0 rfl rfl 0 (by decide) rfl L23 rfl dX9_skipBlanks_5 ?_
  refine q_getN (v := .int 0) C hN inX7 hK hP 1 rfl rfl 1 (by decide) rfl nwF_X9_61 rfl dX9_skipBlanks_8 ?_
  refine lv_icmp_ge (tgt := 44) hx hb dX9_skipBlanks_11 (by decide) (fun _ => ?_) (fun h => absurd (by decide +kernel) h)
  exact q_vret C hr hlocks hK hP hD hS (Nat.le_of_ble_eq_true rfl) (Nat.le_of_ble_eq_true rfl) dX9_skipBlanks_44 (rfl)

set_option maxHeartbeats 4000000 in
set_option maxRecDepth 100000 in
theorem k_X9_splitOne (l : Launch) (dC : Nat → ClassId) (dI : Nat → Nat → Nat) (cB cI cJ cZ cS : ClassId) (q_tape : Nat) (q_tokens : Nat) (u_tokens_1 : Value) (u_tokens_2 : Value) (u_tokens_3 : Value) (u_tokens_4 : Value) (y_val : Int64) (u_tape_0 : Value) : CI l yX9_splitOne wsX9_splitOne ({ frames := 1, cells := 0, slots := 0, locals := 21 }) (dC, dI) (tysA cB cI cJ cZ cS) [(q_tokens, .inr (9, [.ref q_tape, u_tokens_1, u_tokens_2, u_tokens_3, u_tokens_4, .int 0, .long y_val])), (q_tape, .inr (7, [u_tape_0, .int 0]))] [.ref q_tokens] (fun r w => w = [(q_tokens, .inr (9, [.ref q_tape, u_tokens_1, u_tokens_2, u_tokens_3, u_tokens_4, .int 0, .long 0])), (q_tape, .inr (7, [u_tape_0, .int 0]))] ∧ r = 302) := by
  refine open_I (cc := cX9_splitOne) (maxL := 2) (ret := (some .int)) (by decide) rfl (Nat.le_of_ble_eq_true rfl) ?_
  intro p e s m below meth c A ls E
  obtain ⟨C, hr, hlocks, hnm, hA, hP, hK, hD, hN, hl⟩ := E
  obtain ⟨hx, hb, hml, hown, hts⟩ := id C
  have hS : va_S A s.heap s.heap [] := va_S.rf
  have hl : lv_has ls 2 [(0, .ref q_tokens)] := hl
  have inX9 : ∀ w ∈ u_ws RX9 TX9 7, w ∈ wsX9_splitOne := by decide +kernel
  have E_X7_byteAt : Cond.selects RX7 yX7_byteAt yX7_byteAt ∈ wsX9_splitOne := by decide +kernel
  have I_X7 : Cond.initialized RX7 ∈ wsX9_splitOne := by decide +kernel
  have L23 : Cond.fieldLink RX9 23 "GuessFerry$Tokens" "tape" "LGuessFerry$Tape;" ∈ wsX9_splitOne := by decide +kernel
  have L47 : Cond.fieldLink RX9 47 "GuessFerry$Tokens" "end" "I" ∈ wsX9_splitOne := by decide +kernel
  have L57 : Cond.fieldLink RX9 57 "GuessFerry$Tokens" "value" "J" ∈ wsX9_splitOne := by decide +kernel
  have N_X7_byteAt : Cond.instanceMethod yX7_byteAt ∈ wsX9_splitOne := by decide +kernel
  refine lv_aload_n hx hb dX9_splitOne_0 rfl (lv_at hl 0 rfl) ?_
  refine lv_lconst (v := 0) hx hb dX9_splitOne_1 (by decide) ?_
  refine q_put (ty := .long) (w2 := [(q_tokens, .inr (9, [.ref q_tape, u_tokens_1, u_tokens_2, u_tokens_3, u_tokens_4, .int 0, .long 0])), (q_tape, .inr (7, [u_tape_0, .int 0]))]) tyX9 tyX9_ok nmX9 C inX9 hK hP hD hS 0 rfl rfl 6 (by decide) rfl L57 rfl (by decide +kernel) (rfl) rfl (Nat.le_of_ble_eq_true rfl) dX9_splitOne_2 rfl (fun H locs hP hD hS => ?_)
  refine lv_aload_n hx hb dX9_splitOne_5 rfl (lv_at hl 0 rfl) ?_
  refine q_get (v := .ref q_tape) C inX9 hK hP 0 rfl rfl 0 (by decide) rfl L23 rfl dX9_splitOne_6 ?_
  refine lv_aload_n hx hb dX9_splitOne_9 rfl (lv_at hl 0 rfl) ?_
  refine q_get (v := .int 0) C inX9 hK hP 0 rfl rfl 5 (by decide) rfl L47 rfl dX9_splitOne_10 ?_
  refine q_goi (va_runVN (As := [.int 0]) (rest := []) C (k_X7_byteAt l dC dI cB cI cJ cZ cS (q_tape) (u_tape_0) _) ⟨va_cnB 1 hts gX9_splitOne_X7_byteAt_n65 rfl rfl rfl (hN _ nwM_X9_65 rfl) (hts _ I_X7) (by decide +kernel) ⟨Nat.le_of_ble_eq_true rfl, Nat.le_of_ble_eq_true rfl⟩, hts _ N_X7_byteAt, hts _ E_X7_byteAt⟩ (q_preV hK hP (ci := 7) (q0 := 1) rfl rfl rfl (q_pre hN hK hP hD [1] rfl (by decide))) rfl rfl hl.1 rfl (lv_room (Nat.le_of_ble_eq_true rfl)) dX9_splitOne_13 ⟨Nat.le_of_ble_eq_true rfl, Nat.le_of_ble_eq_true rfl⟩) hP hD hS hA [1] [0] rfl rfl (by decide) (by decide) (fun r w1 H locs hw hP hD hS => ?_)
  obtain ⟨rfl, rfl⟩ := hw
  have hP : va_P (dC, dI) vwCl [(q_tokens, .inr (9, [.ref q_tape, u_tokens_1, u_tokens_2, u_tokens_3, u_tokens_4, .int 0, .long 0])), (q_tape, .inr (7, [u_tape_0, .int 0]))] H := hP.sub [0, 1] rfl
  have hD : va_D A [(q_tokens, .inr (9, [.ref q_tape, u_tokens_1, u_tokens_2, u_tokens_3, u_tokens_4, .int 0, .long 0])), (q_tape, .inr (7, [u_tape_0, .int 0]))] := hD.sub [0, 1] (by decide) rfl
  refine lv_istore_n (lv' := [(1, .int (-1)), (0, .ref q_tokens)]) hx hb dX9_splitOne_16 rfl hl (by decide) rfl (fun ls hl => ?_)
  refine lv_iload_n hx hb dX9_splitOne_17 rfl (lv_at hl 0 rfl) ?_
  refine lv_iconst (v := (-1)) hx hb dX9_splitOne_18 (by decide) ?_
  refine lv_icmp_ne (tgt := 26) hx hb dX9_splitOne_19 (by decide) (fun h => absurd (by decide +kernel) h) (fun _ => ?_)
  refine lv_sipush (v := 302) hx hb dX9_splitOne_22 (by decide) ?_
  exact q_iret C hr hlocks hK hP hD hS (Nat.le_of_ble_eq_true rfl) (Nat.le_of_ble_eq_true rfl) dX9_splitOne_25 (⟨rfl, rfl⟩)
