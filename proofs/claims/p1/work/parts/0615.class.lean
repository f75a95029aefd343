theorem dX1_begin_0 : decode cX1_begin 0 = .ok (.aload_n 0, 1) := by decide +kernel
theorem dX1_begin_1 : decode cX1_begin 1 = .ok (.iload_n 1, 1) := by decide +kernel
theorem dX1_begin_2 : decode cX1_begin 2 = .ok (.putfield 57, 3) := by decide +kernel
theorem dX1_begin_5 : decode cX1_begin 5 = .ok (.aload_n 0, 1) := by decide +kernel
theorem dX1_begin_6 : decode cX1_begin 6 = .ok (.getfield 22, 3) := by decide +kernel
theorem dX1_begin_9 : decode cX1_begin 9 = .ok (.iload_n 1, 1) := by decide +kernel
theorem dX1_begin_10 : decode cX1_begin 10 = .ok (.aload_n 0, 1) := by decide +kernel
theorem dX1_begin_11 : decode cX1_begin 11 = .ok (.getfield 34, 3) := by decide +kernel
theorem dX1_begin_14 : decode cX1_begin 14 = .ok (.iastore, 1) := by decide +kernel
theorem dX1_begin_15 : decode cX1_begin 15 = .ok (.aload_n 0, 1) := by decide +kernel
theorem dX1_begin_16 : decode cX1_begin 16 = .ok (.getfield 25, 3) := by decide +kernel
theorem dX1_begin_19 : decode cX1_begin 19 = .ok (.iload_n 1, 1) := by decide +kernel
theorem dX1_begin_20 : decode cX1_begin 20 = .ok (.iconst 0, 1) := by decide +kernel
theorem dX1_begin_21 : decode cX1_begin 21 = .ok (.iastore, 1) := by decide +kernel
theorem dX1_begin_22 : decode cX1_begin 22 = .ok (.return_, 1) := by decide +kernel
theorem dX1_endPart_0 : decode cX1_endPart 0 = .ok (.aload_n 0, 1) := by decide +kernel
theorem dX1_endPart_1 : decode cX1_endPart 1 = .ok (.getfield 25, 3) := by decide +kernel
theorem dX1_endPart_4 : decode cX1_endPart 4 = .ok (.aload_n 0, 1) := by decide +kernel
theorem dX1_endPart_5 : decode cX1_endPart 5 = .ok (.getfield 57, 3) := by decide +kernel
theorem dX1_endPart_8 : decode cX1_endPart 8 = .ok (.iaload, 1) := by decide +kernel
theorem dX1_endPart_9 : decode cX1_endPart 9 = .ok (.istore_n 1, 1) := by decide +kernel
theorem dX1_endPart_10 : decode cX1_endPart 10 = .ok (.iload_n 1, 1) := by decide +kernel
theorem dX1_endPart_11 : decode cX1_endPart 11 = .ok (.bipush 13, 2) := by decide +kernel
theorem dX1_endPart_13 : decode cX1_endPart 13 = .ok (.if_icmp .ge 33, 3) := by decide +kernel
theorem dX1_endPart_16 : decode cX1_endPart 16 = .ok (.aload_n 0, 1) := by decide +kernel
theorem dX1_endPart_17 : decode cX1_endPart 17 = .ok (.getfield 19, 3) := by decide +kernel
theorem dX1_endPart_20 : decode cX1_endPart 20 = .ok (.aload_n 0, 1) := by decide +kernel
theorem dX1_endPart_21 : decode cX1_endPart 21 = .ok (.getfield 57, 3) := by decide +kernel
theorem dX1_endPart_24 : decode cX1_endPart 24 = .ok (.bipush 13, 2) := by decide +kernel
theorem dX1_endPart_26 : decode cX1_endPart 26 = .ok (.imul, 1) := by decide +kernel
theorem dX1_endPart_27 : decode cX1_endPart 27 = .ok (.iload_n 1, 1) := by decide +kernel
theorem dX1_endPart_28 : decode cX1_endPart 28 = .ok (.iadd, 1) := by decide +kernel
theorem dX1_endPart_29 : decode cX1_endPart 29 = .ok (.aload_n 0, 1) := by decide +kernel
theorem dX1_endPart_30 : decode cX1_endPart 30 = .ok (.getfield 34, 3) := by decide +kernel
theorem dX1_endPart_33 : decode cX1_endPart 33 = .ok (.iastore, 1) := by decide +kernel
theorem dX1_endPart_34 : decode cX1_endPart 34 = .ok (.aload_n 0, 1) := by decide +kernel
theorem dX1_endPart_35 : decode cX1_endPart 35 = .ok (.getfield 25, 3) := by decide +kernel
theorem dX1_endPart_38 : decode cX1_endPart 38 = .ok (.aload_n 0, 1) := by decide +kernel
theorem dX1_endPart_39 : decode cX1_endPart 39 = .ok (.getfield 57, 3) := by decide +kernel
theorem dX1_endPart_42 : decode cX1_endPart 42 = .ok (.iload_n 1, 1) := by decide +kernel
theorem dX1_endPart_43 : decode cX1_endPart 43 = .ok (.iconst 1, 1) := by decide +kernel
theorem dX1_endPart_44 : decode cX1_endPart 44 = .ok (.iadd, 1) := by decide +kernel
theorem dX1_endPart_45 : decode cX1_endPart 45 = .ok (.iastore, 1) := by decide +kernel
theorem dX1_endPart_46 : decode cX1_endPart 46 = .ok (.return_, 1) := by decide +kernel
set_option maxRecDepth 20000 in
theorem ggX1_putNumber_X1_put : GoodIn wsX1_putNumber wsX1_put := goodIn_r _ [5, 6, 7, 8, 9, 10, 11, 12, 13, 14, 15, 16] (by decide +kernel) (by decide +kernel)
set_option maxRecDepth 20000 in
theorem gX1_putNumber_X1_put : GoodIn wsX1_putNumber (wsV RX1 60 RX1 yX1_put wsX1_put) := goodIn_app (goodIn_of _ (by decide +kernel)) ggX1_putNumber_X1_put
theorem dX1_putNumber_0 : decode cX1_putNumber 0 = .ok (.aload_n 0, 1) := by decide +kernel
theorem dX1_putNumber_1 : decode cX1_putNumber 1 = .ok (.iload_n 1, 1) := by decide +kernel
theorem dX1_putNumber_2 : decode cX1_putNumber 2 = .ok (.invokevirtual 60, 3) := by decide +kernel
theorem dX1_putNumber_5 : decode cX1_putNumber 5 = .ok (.return_, 1) := by decide +kernel
set_option maxRecDepth 20000 in
theorem ggX1_putVar_X1_put : GoodIn wsX1_putVar wsX1_put := goodIn_r _ [5, 6, 7, 8, 9, 10, 11, 12, 13, 14, 15, 16] (by decide +kernel) (by decide +kernel)
set_option maxRecDepth 20000 in
theorem gX1_putVar_X1_put : GoodIn wsX1_putVar (wsV RX1 60 RX1 yX1_put wsX1_put) := goodIn_app (goodIn_of _ (by decide +kernel)) ggX1_putVar_X1_put
theorem dX1_putVar_0 : decode cX1_putVar 0 = .ok (.aload_n 0, 1) := by decide +kernel
theorem dX1_putVar_1 : decode cX1_putVar 1 = .ok (.iconst (-1), 1) := by decide +kernel
theorem dX1_putVar_2 : decode cX1_putVar 2 = .ok (.iload_n 1, 1) := by decide +kernel
theorem dX1_putVar_3 : decode cX1_putVar 3 = .ok (.isub, 1) := by decide +kernel
theorem dX1_putVar_4 : decode cX1_putVar 4 = .ok (.invokevirtual 60, 3) := by decide +kernel
theorem dX1_putVar_7 : decode cX1_putVar 7 = .ok (.return_, 1) := by decide +kernel
set_option maxHeartbeats 4000000 in
set_option maxRecDepth 100000 in
theorem k_putVar (l : Launch) (dC : Nat → ClassId) (dI : Nat → Nat → Nat) (cB cI cJ cZ cS : ClassId) (q_sound_laws : Nat) (q_sound_steps : Nat) (u_sound_laws_1 : Value) (u_sound_laws_2 : Value) (u_sound_laws_3 : Value) (u_sound_laws_4 : Value) (u_sound_laws_5 : Value) (u_sound_laws_7 : Value) (u_sound_laws_8 : Value) (f_sound_steps : Nat → Int32) : CV l yX1_putVar wsX1_putVar ({ frames := 1, cells := 0, slots := 0, locals := 21 }) (dC, dI) (tysA cB cI cJ cZ cS) [(q_sound_laws, .inr (1, [.ref q_sound_steps, u_sound_laws_1, u_sound_laws_2, u_sound_laws_3, u_sound_laws_4, u_sound_laws_5, .int 0, u_sound_laws_7, u_sound_laws_8])), (q_sound_steps, .inl (cI, 404, .inl f_sound_steps))] [.ref q_sound_laws, .int 2] (fun w => w = [(q_sound_laws, .inr (1, [.ref q_sound_steps, u_sound_laws_1, u_sound_laws_2, u_sound_laws_3, u_sound_laws_4, u_sound_laws_5, .int 1, u_sound_laws_7, u_sound_laws_8])), (q_sound_steps, .inl (cI, 404, .inl (upd f_sound_steps 0 (-3))))]) := by
  refine open_V (cc := cX1_putVar) (maxL := 2) (ret := none) (by decide) rfl (Nat.le_of_ble_eq_true rfl) ?_
  intro p e s m below meth c A ls E
  obtain ⟨C, hr, hlocks, hnm, hA, hP, hK, hD, hN, hl⟩ := E
  obtain ⟨hx, hb, hml, hown, hts⟩ := id C
  have hS : va_S A s.heap s.heap [] := va_S.rf
  have hl : lv_has ls 2 [(0, .ref q_sound_laws), (1, .int 2)] := hl
  refine lv_aload_n hx hb dX1_putVar_0 rfl (lv_at hl 0 rfl) ?_
  refine lv_iconst (v := (-1)) hx hb dX1_putVar_1 (by decide) ?_
  refine lv_iload_n hx hb dX1_putVar_2 rfl (lv_at hl 1 rfl) ?_
  refine lv_isub hx hb dX1_putVar_3 ?_
  refine q_top (y := (-3)) (by decide +kernel) ?_
  refine q_gov (wr := []) (va_runV (As := [.int (-3)]) (rest := []) C (k_Lput0 l dC dI cB cI cJ cZ cS (q_sound_laws) (q_sound_steps) (u_sound_laws_1) (u_sound_laws_2) (u_sound_laws_3) (u_sound_laws_4) (u_sound_laws_5) (u_sound_laws_7) (u_sound_laws_8) (f_sound_steps) (-3) _) (cwV 1 hts gX1_putVar_X1_put rfl rfl rfl (by decide +kernel) ⟨Nat.le_of_ble_eq_true rfl, Nat.le_of_ble_eq_true rfl⟩) (q_preV hK hP (ci := 1) (q0 := 0) rfl rfl rfl (q_pre hN hK hP hD [0, 1] rfl (by decide))) rfl rfl hl.1 rfl (lv_room (Nat.le_of_ble_eq_true rfl)) dX1_putVar_4 ⟨Nat.le_of_ble_eq_true rfl, Nat.le_of_ble_eq_true rfl⟩) hP hD hS hA [0, 1] [] rfl rfl (by decide) (by decide) (fun w1 H locs hw hP hD hS => ?_)
  obtain rfl := hw
  have hP : va_P (dC, dI) vwCl [(q_sound_laws, .inr (1, [.ref q_sound_steps, u_sound_laws_1, u_sound_laws_2, u_sound_laws_3, u_sound_laws_4, u_sound_laws_5, .int 1, u_sound_laws_7, u_sound_laws_8])), (q_sound_steps, .inl (cI, 404, .inl (upd f_sound_steps 0 (-3))))] H := hP.sub [0, 1] rfl
  have hD : va_D A [(q_sound_laws, .inr (1, [.ref q_sound_steps, u_sound_laws_1, u_sound_laws_2, u_sound_laws_3, u_sound_laws_4, u_sound_laws_5, .int 1, u_sound_laws_7, u_sound_laws_8])), (q_sound_steps, .inl (cI, 404, .inl (upd f_sound_steps 0 (-3))))] := hD.sub [0, 1] (by decide) rfl
  exact q_vret C hr hlocks hK hP hD hS (Nat.le_of_ble_eq_true rfl) (Nat.le_of_ble_eq_true rfl) dX1_putVar_7 (rfl)

set_option maxHeartbeats 4000000 in
set_option maxRecDepth 100000 in
theorem k_putNumber1 (l : Launch) (dC : Nat → ClassId) (dI : Nat → Nat → Nat) (cB cI cJ cZ cS : ClassId) (q_sound_laws : Nat) (q_sound_steps : Nat) (u_sound_laws_1 : Value) (u_sound_laws_2 : Value) (u_sound_laws_3 : Value) (u_sound_laws_4 : Value) (u_sound_laws_5 : Value) (u_sound_laws_7 : Value) (u_sound_laws_8 : Value) (f_sound_steps : Nat → Int32) : CV l yX1_putNumber wsX1_putNumber ({ frames := 1, cells := 0, slots := 0, locals := 21 }) (dC, dI) (tysA cB cI cJ cZ cS) [(q_sound_laws, .inr (1, [.ref q_sound_steps, u_sound_laws_1, u_sound_laws_2, u_sound_laws_3, u_sound_laws_4, u_sound_laws_5, .int 1, u_sound_laws_7, u_sound_laws_8])), (q_sound_steps, .inl (cI, 404, .inl f_sound_steps))] [.ref q_sound_laws, .int 1] (fun w => w = [(q_sound_laws, .inr (1, [.ref q_sound_steps, u_sound_laws_1, u_sound_laws_2, u_sound_laws_3, u_sound_laws_4, u_sound_laws_5, .int 2, u_sound_laws_7, u_sound_laws_8])), (q_sound_steps, .inl (cI, 404, .inl (upd f_sound_steps 1 1)))]) := by
  refine open_V (cc := cX1_putNumber) (maxL := 2) (ret := none) (by decide) rfl (Nat.le_of_ble_eq_true rfl) ?_
  intro p e s m below meth c A ls E
  obtain ⟨C, hr, hlocks, hnm, hA, hP, hK, hD, hN, hl⟩ := E
  obtain ⟨hx, hb, hml, hown, hts⟩ := id C
  have hS : va_S A s.heap s.heap [] := va_S.rf
  have hl : lv_has ls 2 [(0, .ref q_sound_laws), (1, .int 1)] := hl
  refine lv_aload_n hx hb dX1_putNumber_0 rfl (lv_at hl 0 rfl) ?_
  refine lv_iload_n hx hb dX1_putNumber_1 rfl (lv_at hl 1 rfl) ?_
  refine q_gov (wr := []) (va_runV (As := [.int 1]) (rest := []) C (k_Lput1 l dC dI cB cI cJ cZ cS (q_sound_laws) (q_sound_steps) (u_sound_laws_1) (u_sound_laws_2) (u_sound_laws_3) (u_sound_laws_4) (u_sound_laws_5) (u_sound_laws_7) (u_sound_laws_8) (f_sound_steps) 1 _) (cwV 1 hts gX1_putNumber_X1_put rfl rfl rfl (by decide +kernel) ⟨Nat.le_of_ble_eq_true rfl, Nat.le_of_ble_eq_true rfl⟩) (q_preV hK hP (ci := 1) (q0 := 0) rfl rfl rfl (q_pre hN hK hP hD [0, 1] rfl (by decide))) rfl rfl hl.1 rfl (lv_room (Nat.le_of_ble_eq_true rfl)) dX1_putNumber_2 ⟨Nat.le_of_ble_eq_true rfl, Nat.le_of_ble_eq_true rfl⟩) hP hD hS hA [0, 1] [] rfl rfl (by decide) (by decide) (fun w1 H locs hw hP hD hS => ?_)
  obtain rfl := hw
  have hP : va_P (dC, dI) vwCl [(q_sound_laws, .inr (1, [.ref q_sound_steps, u_sound_laws_1, u_sound_laws_2, u_sound_laws_3, u_sound_laws_4, u_sound_laws_5, .int 2, u_sound_laws_7, u_sound_laws_8])), (q_sound_steps, .inl (cI, 404, .inl (upd f_sound_steps 1 1)))] H := hP.sub [0, 1] rfl
  have hD : va_D A [(q_sound_laws, .inr (1, [.ref q_sound_steps, u_sound_laws_1, u_sound_laws_2, u_sound_laws_3, u_sound_laws_4, u_sound_laws_5, .int 2, u_sound_laws_7, u_sound_laws_8])), (q_sound_steps, .inl (cI, 404, .inl (upd f_sound_steps 1 1)))] := hD.sub [0, 1] (by decide) rfl
  exact q_vret C hr hlocks hK hP hD hS (Nat.le_of_ble_eq_true rfl) (Nat.le_of_ble_eq_true rfl) dX1_putNumber_5 (rfl)

set_option maxHeartbeats 4000000 in
set_option maxRecDepth 100000 in
theorem k_putNumber2 (l : Launch) (dC : Nat → ClassId) (dI : Nat → Nat → Nat) (cB cI cJ cZ cS : ClassId) (q_sound_laws : Nat) (q_sound_steps : Nat) (u_sound_laws_1 : Value) (u_sound_laws_2 : Value) (u_sound_laws_3 : Value) (u_sound_laws_4 : Value) (u_sound_laws_5 : Value) (u_sound_laws_7 : Value) (u_sound_laws_8 : Value) (f_sound_steps : Nat → Int32) : CV l yX1_putNumber wsX1_putNumber ({ frames := 1, cells := 0, slots := 0, locals := 21 }) (dC, dI) (tysA cB cI cJ cZ cS) [(q_sound_laws, .inr (1, [.ref q_sound_steps, u_sound_laws_1, u_sound_laws_2, u_sound_laws_3, u_sound_laws_4, u_sound_laws_5, .int 2, u_sound_laws_7, u_sound_laws_8])), (q_sound_steps, .inl (cI, 404, .inl f_sound_steps))] [.ref q_sound_laws, .int 1] (fun w => w = [(q_sound_laws, .inr (1, [.ref q_sound_steps, u_sound_laws_1, u_sound_laws_2, u_sound_laws_3, u_sound_laws_4, u_sound_laws_5, .int 3, u_sound_laws_7, u_sound_laws_8])), (q_sound_steps, .inl (cI, 404, .inl (upd f_sound_steps 2 1)))]) := by
  refine open_V (cc := cX1_putNumber) (maxL := 2) (ret := none) (by decide) rfl (Nat.le_of_ble_eq_true rfl) ?_
  intro p e s m below meth c A ls E
  obtain ⟨C, hr, hlocks, hnm, hA, hP, hK, hD, hN, hl⟩ := E
  obtain ⟨hx, hb, hml, hown, hts⟩ := id C
  have hS : va_S A s.heap s.heap [] := va_S.rf
  have hl : lv_has ls 2 [(0, .ref q_sound_laws), (1, .int 1)] := hl
  refine lv_aload_n hx hb dX1_putNumber_0 rfl (lv_at hl 0 rfl) ?_
  refine lv_iload_n hx hb dX1_putNumber_1 rfl (lv_at hl 1 rfl) ?_
  refine q_gov (wr := []) (va_runV (As := [.int 1]) (rest := []) C (k_Lput2 l dC dI cB cI cJ cZ cS (q_sound_laws) (q_sound_steps) (u_sound_laws_1) (u_sound_laws_2) (u_sound_laws_3) (u_sound_laws_4) (u_sound_laws_5) (u_sound_laws_7) (u_sound_laws_8) (f_sound_steps) 1 _) (cwV 1 hts gX1_putNumber_X1_put rfl rfl rfl (by decide +kernel) ⟨Nat.le_of_ble_eq_true rfl, Nat.le_of_ble_eq_true rfl⟩) (q_preV hK hP (ci := 1) (q0 := 0) rfl rfl rfl (q_pre hN hK hP hD [0, 1] rfl (by decide))) rfl rfl hl.1 rfl (lv_room (Nat.le_of_ble_eq_true rfl)) dX1_putNumber_2 ⟨Nat.le_of_ble_eq_true rfl, Nat.le_of_ble_eq_true rfl⟩) hP hD hS hA [0, 1] [] rfl rfl (by decide) (by decide) (fun w1 H locs hw hP hD hS => ?_)
  obtain rfl := hw
  have hP : va_P (dC, dI) vwCl [(q_sound_laws, .inr (1, [.ref q_sound_steps, u_sound_laws_1, u_sound_laws_2, u_sound_laws_3, u_sound_laws_4, u_sound_laws_5, .int 3, u_sound_laws_7, u_sound_laws_8])), (q_sound_steps, .inl (cI, 404, .inl (upd f_sound_steps 2 1)))] H := hP.sub [0, 1] rfl
  have hD : va_D A [(q_sound_laws, .inr (1, [.ref q_sound_steps, u_sound_laws_1, u_sound_laws_2, u_sound_laws_3, u_sound_laws_4, u_sound_laws_5, .int 3, u_sound_laws_7, u_sound_laws_8])), (q_sound_steps, .inl (cI, 404, .inl (upd f_sound_steps 2 1)))] := hD.sub [0, 1] (by decide) rfl
  exact q_vret C hr hlocks hK hP hD hS (Nat.le_of_ble_eq_true rfl) (Nat.le_of_ble_eq_true rfl) dX1_putNumber_5 (rfl)

set_option maxHeartbeats 4000000 in
set_option maxRecDepth 100000 in
theorem k_putNumber3 (l : Launch) (dC : Nat → ClassId) (dI : Nat → Nat → Nat) (cB cI cJ cZ cS : ClassId) (q_sound_laws : Nat) (q_sound_steps : Nat) (u_sound_laws_1 : Value) (u_sound_laws_2 : Value) (u_sound_laws_3 : Value) (u_sound_laws_4 : Value) (u_sound_laws_5 : Value) (u_sound_laws_7 : Value) (u_sound_laws_8 : Value) (f_sound_steps : Nat → Int32) : CV l yX1_putNumber wsX1_putNumber ({ frames := 1, cells := 0, slots := 0, locals := 21 }) (dC, dI) (tysA cB cI cJ cZ cS) [(q_sound_laws, .inr (1, [.ref q_sound_steps, u_sound_laws_1, u_sound_laws_2, u_sound_laws_3, u_sound_laws_4, u_sound_laws_5, .int 3, u_sound_laws_7, u_sound_laws_8])), (q_sound_steps, .inl (cI, 404, .inl f_sound_steps))] [.ref q_sound_laws, .int 0] (fun w => w = [(q_sound_laws, .inr (1, [.ref q_sound_steps, u_sound_laws_1, u_sound_laws_2, u_sound_laws_3, u_sound_laws_4, u_sound_laws_5, .int 4, u_sound_laws_7, u_sound_laws_8])), (q_sound_steps, .inl (cI, 404, .inl (upd f_sound_steps 3 0)))]) := by
  refine open_V (cc := cX1_putNumber) (maxL := 2) (ret := none) (by decide) rfl (Nat.le_of_ble_eq_true rfl) ?_
  intro p e s m below meth c A ls E
  obtain ⟨C, hr, hlocks, hnm, hA, hP, hK, hD, hN, hl⟩ := E
  obtain ⟨hx, hb, hml, hown, hts⟩ := id C
  have hS : va_S A s.heap s.heap [] := va_S.rf
  have hl : lv_has ls 2 [(0, .ref q_sound_laws), (1, .int 0)] := hl
  refine lv_aload_n hx hb dX1_putNumber_0 rfl (lv_at hl 0 rfl) ?_
  refine lv_iload_n hx hb dX1_putNumber_1 rfl (lv_at hl 1 rfl) ?_
  refine q_gov (wr := []) (va_runV (As := [.int 0]) (rest := []) C (k_Lput3 l dC dI cB cI cJ cZ cS (q_sound_laws) (q_sound_steps) (u_sound_laws_1) (u_sound_laws_2) (u_sound_laws_3) (u_sound_laws_4) (u_sound_laws_5) (u_sound_laws_7) (u_sound_laws_8) (f_sound_steps) 0 _) (cwV 1 hts gX1_putNumber_X1_put rfl rfl rfl (by decide +kernel) ⟨Nat.le_of_ble_eq_true rfl, Nat.le_of_ble_eq_true rfl⟩) (q_preV hK hP (ci := 1) (q0 := 0) rfl rfl rfl (q_pre hN hK hP hD [0, 1] rfl (by decide))) rfl rfl hl.1 rfl (lv_room (Nat.le_of_ble_eq_true rfl)) dX1_putNumber_2 ⟨Nat.le_of_ble_eq_true rfl, Nat.le_of_ble_eq_true rfl⟩) hP hD hS hA [0, 1] [] rfl rfl (by decide) (by decide) (fun w1 H locs hw hP hD hS => ?_)
  obtain rfl := hw
  have hP : va_P (dC, dI) vwCl [(q_sound_laws, .inr (1, [.ref q_sound_steps, u_sound_laws_1, u_sound_laws_2, u_sound_laws_3, u_sound_laws_4, u_sound_laws_5, .int 4, u_sound_laws_7, u_sound_laws_8])), (q_sound_steps, .inl (cI, 404, .inl (upd f_sound_steps 3 0)))] H := hP.sub [0, 1] rfl
  have hD : va_D A [(q_sound_laws, .inr (1, [.ref q_sound_steps, u_sound_laws_1, u_sound_laws_2, u_sound_laws_3, u_sound_laws_4, u_sound_laws_5, .int 4, u_sound_laws_7, u_sound_laws_8])), (q_sound_steps, .inl (cI, 404, .inl (upd f_sound_steps 3 0)))] := hD.sub [0, 1] (by decide) rfl
  exact q_vret C hr hlocks hK hP hD hS (Nat.le_of_ble_eq_true rfl) (Nat.le_of_ble_eq_true rfl) dX1_putNumber_5 (rfl)

set_option maxHeartbeats 4000000 in
set_option maxRecDepth 100000 in
theorem k_begin0 (l : Launch) (dC : Nat → ClassId) (dI : Nat → Nat → Nat) (cB cI cJ cZ cS : ClassId) (q_sound_laws : Nat) (q_sound_lawStarts : Nat) (q_sound_partCounts : Nat) (u_sound_laws_0 : Value) (u_sound_laws_1 : Value) (u_sound_laws_4 : Value) (u_sound_laws_5 : Value) (y_cur : Int32) (u_sound_laws_8 : Value) (f_sound_lawStarts : Nat → Int32) (f_sound_partCounts : Nat → Int32) : CV l yX1_begin wsX1_begin ({ frames := 0, cells := 0, slots := 0, locals := 0 }) (dC, dI) (tysA cB cI cJ cZ cS) [(q_sound_laws, .inr (1, [u_sound_laws_0, u_sound_laws_1, .ref q_sound_lawStarts, .ref q_sound_partCounts, u_sound_laws_4, u_sound_laws_5, .int 0, .int y_cur, u_sound_laws_8])), (q_sound_lawStarts, .inl (cI, 4, .inl f_sound_lawStarts)), (q_sound_partCounts, .inl (cI, 4, .inl f_sound_partCounts))] [.ref q_sound_laws, .int 0] (fun w => w = [(q_sound_laws, .inr (1, [u_sound_laws_0, u_sound_laws_1, .ref q_sound_lawStarts, .ref q_sound_partCounts, u_sound_laws_4, u_sound_laws_5, .int 0, .int 0, u_sound_laws_8])), (q_sound_lawStarts, .inl (cI, 4, .inl (upd f_sound_lawStarts 0 0))), (q_sound_partCounts, .inl (cI, 4, .inl (upd f_sound_partCounts 0 0)))]) := by
  refine open_V (cc := cX1_begin) (maxL := 2) (ret := none) (by decide) rfl (Nat.le_of_ble_eq_true rfl) ?_
  intro p e s m below meth c A ls E
  obtain ⟨C, hr, hlocks, hnm, hA, hP, hK, hD, hN, hl⟩ := E
  obtain ⟨hx, hb, hml, hown, hts⟩ := id C
  have hS : va_S A s.heap s.heap [] := va_S.rf
  have hl : lv_has ls 2 [(0, .ref q_sound_laws), (1, .int 0)] := hl
  have inX1 : ∀ w ∈ u_ws RX1 TX1 9, w ∈ wsX1_begin := fun _ h => List.mem_cons_of_mem _ (List.mem_append_right _ h)
  have L22 : Cond.fieldLink RX1 22 "GuessFerry$Laws" "lawStarts" "[I" ∈ wsX1_begin := by decide +kernel
  have L25 : Cond.fieldLink RX1 25 "GuessFerry$Laws" "partCounts" "[I" ∈ wsX1_begin := by decide +kernel
  have L34 : Cond.fieldLink RX1 34 "GuessFerry$Laws" "length" "I" ∈ wsX1_begin := by decide +kernel
  have L57 : Cond.fieldLink RX1 57 "GuessFerry$Laws" "current" "I" ∈ wsX1_begin := by decide +kernel
  refine lv_aload_n hx hb dX1_begin_0 rfl (lv_at hl 0 rfl) ?_
  refine lv_iload_n hx hb dX1_begin_1 rfl (lv_at hl 1 rfl) ?_
  refine q_put (ty := .int) (w2 := [(q_sound_laws, .inr (1, [u_sound_laws_0, u_sound_laws_1, .ref q_sound_lawStarts, .ref q_sound_partCounts, u_sound_laws_4, u_sound_laws_5, .int 0, .int 0, u_sound_laws_8])), (q_sound_lawStarts, .inl (cI, 4, .inl f_sound_lawStarts)), (q_sound_partCounts, .inl (cI, 4, .inl f_sound_partCounts))]) tyX1 tyX1_ok nmX1 C inX1 hK hP hD hS 0 rfl rfl 7 (by decide) rfl L57 rfl (by decide +kernel) (rfl) rfl (Nat.le_of_ble_eq_true rfl) dX1_begin_2 rfl (fun H locs hP hD hS => ?_)
  refine lv_aload_n hx hb dX1_begin_5 rfl (lv_at hl 0 rfl) ?_
  refine q_get (v := .ref q_sound_lawStarts) C inX1 hK hP 0 rfl rfl 2 (by decide) rfl L22 rfl dX1_begin_6 ?_
  refine lv_iload_n hx hb dX1_begin_9 rfl (lv_at hl 1 rfl) ?_
  refine lv_aload_n hx hb dX1_begin_10 rfl (lv_at hl 0 rfl) ?_
  refine q_get (v := .int 0) C inX1 hK hP 0 rfl rfl 6 (by decide) rfl L34 rfl dX1_begin_11 ?_
  refine q_iast (f2 := (upd f_sound_lawStarts 0 0)) (w2 := [(q_sound_laws, .inr (1, [u_sound_laws_0, u_sound_laws_1, .ref q_sound_lawStarts, .ref q_sound_partCounts, u_sound_laws_4, u_sound_laws_5, .int 0, .int 0, u_sound_laws_8])), (q_sound_lawStarts, .inl (cI, 4, .inl (upd f_sound_lawStarts 0 0))), (q_sound_partCounts, .inl (cI, 4, .inl f_sound_partCounts))]) C hK hP hD hS 1 1 rfl rfl (vp_lit (by decide +kernel)) dX1_begin_14 rfl rfl (fun H locs hP hD hS => ?_)
  refine lv_aload_n hx hb dX1_begin_15 rfl (lv_at hl 0 rfl) ?_
  refine q_get (v := .ref q_sound_partCounts) C inX1 hK hP 0 rfl rfl 3 (by decide) rfl L25 rfl dX1_begin_16 ?_
  refine lv_iload_n hx hb dX1_begin_19 rfl (lv_at hl 1 rfl) ?_
  refine lv_iconst (v := 0) hx hb dX1_begin_20 (by decide) ?_
  refine q_iast (f2 := (upd f_sound_partCounts 0 0)) (w2 := [(q_sound_laws, .inr (1, [u_sound_laws_0, u_sound_laws_1, .ref q_sound_lawStarts, .ref q_sound_partCounts, u_sound_laws_4, u_sound_laws_5, .int 0, .int 0, u_sound_laws_8])), (q_sound_lawStarts, .inl (cI, 4, .inl (upd f_sound_lawStarts 0 0))), (q_sound_partCounts, .inl (cI, 4, .inl (upd f_sound_partCounts 0 0)))]) C hK hP hD hS 2 1 rfl rfl (vp_lit (by decide +kernel)) dX1_begin_21 rfl rfl (fun H locs hP hD hS => ?_)
  exact q_vret C hr hlocks hK hP hD hS (Nat.le_of_ble_eq_true rfl) (Nat.le_of_ble_eq_true rfl) dX1_begin_22 (rfl)

set_option maxHeartbeats 4000000 in
set_option maxRecDepth 100000 in
theorem k_begin1 (l : Launch) (dC : Nat → ClassId) (dI : Nat → Nat → Nat) (cB cI cJ cZ cS : ClassId) (q_sound_laws : Nat) (q_sound_lawStarts : Nat) (q_sound_partCounts : Nat) (u_sound_laws_0 : Value) (u_sound_laws_1 : Value) (u_sound_laws_4 : Value) (u_sound_laws_5 : Value) (y_cur : Int32) (u_sound_laws_8 : Value) (f_sound_lawStarts : Nat → Int32) (f_sound_partCounts : Nat → Int32) : CV l yX1_begin wsX1_begin ({ frames := 0, cells := 0, slots := 0, locals := 0 }) (dC, dI) (tysA cB cI cJ cZ cS) [(q_sound_laws, .inr (1, [u_sound_laws_0, u_sound_laws_1, .ref q_sound_lawStarts, .ref q_sound_partCounts, u_sound_laws_4, u_sound_laws_5, .int 1, .int y_cur, u_sound_laws_8])), (q_sound_lawStarts, .inl (cI, 4, .inl f_sound_lawStarts)), (q_sound_partCounts, .inl (cI, 4, .inl f_sound_partCounts))] [.ref q_sound_laws, .int 1] (fun w => w = [(q_sound_laws, .inr (1, [u_sound_laws_0, u_sound_laws_1, .ref q_sound_lawStarts, .ref q_sound_partCounts, u_sound_laws_4, u_sound_laws_5, .int 1, .int 1, u_sound_laws_8])), (q_sound_lawStarts, .inl (cI, 4, .inl (upd f_sound_lawStarts 1 1))), (q_sound_partCounts, .inl (cI, 4, .inl (upd f_sound_partCounts 1 0)))]) := by
  refine open_V (cc := cX1_begin) (maxL := 2) (ret := none) (by decide) rfl (Nat.le_of_ble_eq_true rfl) ?_
  intro p e s m below meth c A ls E
  obtain ⟨C, hr, hlocks, hnm, hA, hP, hK, hD, hN, hl⟩ := E
  obtain ⟨hx, hb, hml, hown, hts⟩ := id C
  have hS : va_S A s.heap s.heap [] := va_S.rf
  have hl : lv_has ls 2 [(0, .ref q_sound_laws), (1, .int 1)] := hl
  have inX1 : ∀ w ∈ u_ws RX1 TX1 9, w ∈ wsX1_begin := fun _ h => List.mem_cons_of_mem _ (List.mem_append_right _ h)
  have L22 : Cond.fieldLink RX1 22 "GuessFerry$Laws" "lawStarts" "[I" ∈ wsX1_begin := by decide +kernel
  have L25 : Cond.fieldLink RX1 25 "GuessFerry$Laws" "partCounts" "[I" ∈ wsX1_begin := by decide +kernel
  have L34 : Cond.fieldLink RX1 34 "GuessFerry$Laws" "length" "I" ∈ wsX1_begin := by decide +kernel
  have L57 : Cond.fieldLink RX1 57 "GuessFerry$Laws" "current" "I" ∈ wsX1_begin := by decide +kernel
  refine lv_aload_n hx hb dX1_begin_0 rfl (lv_at hl 0 rfl) ?_
  refine lv_iload_n hx hb dX1_begin_1 rfl (lv_at hl 1 rfl) ?_
  refine q_put (ty := .int) (w2 := [(q_sound_laws, .inr (1, [u_sound_laws_0, u_sound_laws_1, .ref q_sound_lawStarts, .ref q_sound_partCounts, u_sound_laws_4, u_sound_laws_5, .int 1, .int 1, u_sound_laws_8])), (q_sound_lawStarts, .inl (cI, 4, .inl f_sound_lawStarts)), (q_sound_partCounts, .inl (cI, 4, .inl f_sound_partCounts))]) tyX1 tyX1_ok nmX1 C inX1 hK hP hD hS 0 rfl rfl 7 (by decide) rfl L57 rfl (by decide +kernel) (rfl) rfl (Nat.le_of_ble_eq_true rfl) dX1_begin_2 rfl (fun H locs hP hD hS => ?_)
  refine lv_aload_n hx hb dX1_begin_5 rfl (lv_at hl 0 rfl) ?_
  refine q_get (v := .ref q_sound_lawStarts) C inX1 hK hP 0 rfl rfl 2 (by decide) rfl L22 rfl dX1_begin_6 ?_
  refine lv_iload_n hx hb dX1_begin_9 rfl (lv_at hl 1 rfl) ?_
  refine lv_aload_n hx hb dX1_begin_10 rfl (lv_at hl 0 rfl) ?_
  refine q_get (v := .int 1) C inX1 hK hP 0 rfl rfl 6 (by decide) rfl L34 rfl dX1_begin_11 ?_
  refine q_iast (f2 := (upd f_sound_lawStarts 1 1)) (w2 := [(q_sound_laws, .inr (1, [u_sound_laws_0, u_sound_laws_1, .ref q_sound_lawStarts, .ref q_sound_partCounts, u_sound_laws_4, u_sound_laws_5, .int 1, .int 1, u_sound_laws_8])), (q_sound_lawStarts, .inl (cI, 4, .inl (upd f_sound_lawStarts 1 1))), (q_sound_partCounts, .inl (cI, 4, .inl f_sound_partCounts))]) C hK hP hD hS 1 1 rfl rfl (vp_lit (by decide +kernel)) dX1_begin_14 rfl rfl (fun H locs hP hD hS => ?_)
  refine lv_aload_n hx hb dX1_begin_15 rfl (lv_at hl 0 rfl) ?_
  refine q_get (v := .ref q_sound_partCounts) C inX1 hK hP 0 rfl rfl 3 (by decide) rfl L25 rfl dX1_begin_16 ?_
  refine lv_iload_n hx hb dX1_begin_19 rfl (lv_at hl 1 rfl) ?_
  refine lv_iconst (v := 0) hx hb dX1_begin_20 (by decide) ?_
  refine q_iast (f2 := (upd f_sound_partCounts 1 0)) (w2 := [(q_sound_laws, .inr (1, [u_sound_laws_0, u_sound_laws_1, .ref q_sound_lawStarts, .ref q_sound_partCounts, u_sound_laws_4, u_sound_laws_5, .int 1, .int 1, u_sound_laws_8])), (q_sound_lawStarts, .inl (cI, 4, .inl (upd f_sound_lawStarts 1 1))), (q_sound_partCounts, .inl (cI, 4, .inl (upd f_sound_partCounts 1 0)))]) C hK hP hD hS 2 1 rfl rfl (vp_lit (by decide +kernel)) dX1_begin_21 rfl rfl (fun H locs hP hD hS => ?_)
  exact q_vret C hr hlocks hK hP hD hS (Nat.le_of_ble_eq_true rfl) (Nat.le_of_ble_eq_true rfl) dX1_begin_22 (rfl)

set_option maxHeartbeats 4000000 in
set_option maxRecDepth 100000 in
theorem k_begin2 (l : Launch) (dC : Nat → ClassId) (dI : Nat → Nat → Nat) (cB cI cJ cZ cS : ClassId) (q_sound_laws : Nat) (q_sound_lawStarts : Nat) (q_sound_partCounts : Nat) (u_sound_laws_0 : Value) (u_sound_laws_1 : Value) (u_sound_laws_4 : Value) (u_sound_laws_5 : Value) (y_cur : Int32) (u_sound_laws_8 : Value) (f_sound_lawStarts : Nat → Int32) (f_sound_partCounts : Nat → Int32) : CV l yX1_begin wsX1_begin ({ frames := 0, cells := 0, slots := 0, locals := 0 }) (dC, dI) (tysA cB cI cJ cZ cS) [(q_sound_laws, .inr (1, [u_sound_laws_0, u_sound_laws_1, .ref q_sound_lawStarts, .ref q_sound_partCounts, u_sound_laws_4, u_sound_laws_5, .int 2, .int y_cur, u_sound_laws_8])), (q_sound_lawStarts, .inl (cI, 4, .inl f_sound_lawStarts)), (q_sound_partCounts, .inl (cI, 4, .inl f_sound_partCounts))] [.ref q_sound_laws, .int 2] (fun w => w = [(q_sound_laws, .inr (1, [u_sound_laws_0, u_sound_laws_1, .ref q_sound_lawStarts, .ref q_sound_partCounts, u_sound_laws_4, u_sound_laws_5, .int 2, .int 2, u_sound_laws_8])), (q_sound_lawStarts, .inl (cI, 4, .inl (upd f_sound_lawStarts 2 2))), (q_sound_partCounts, .inl (cI, 4, .inl (upd f_sound_partCounts 2 0)))]) := by
  refine open_V (cc := cX1_begin) (maxL := 2) (ret := none) (by decide) rfl (Nat.le_of_ble_eq_true rfl) ?_
  intro p e s m below meth c A ls E
  obtain ⟨C, hr, hlocks, hnm, hA, hP, hK, hD, hN, hl⟩ := E
  obtain ⟨hx, hb, hml, hown, hts⟩ := id C
  have hS : va_S A s.heap s.heap [] := va_S.rf
  have hl : lv_has ls 2 [(0, .ref q_sound_laws), (1, .int 2)] := hl
  have inX1 : ∀ w ∈ u_ws RX1 TX1 9, w ∈ wsX1_begin := fun _ h => List.mem_cons_of_mem _ (List.mem_append_right _ h)
  have L22 : Cond.fieldLink RX1 22 "GuessFerry$Laws" "lawStarts" "[I" ∈ wsX1_begin := by decide +kernel
  have L25 : Cond.fieldLink RX1 25 "GuessFerry$Laws" "partCounts" "[I" ∈ wsX1_begin := by decide +kernel
  have L34 : Cond.fieldLink RX1 34 "GuessFerry$Laws" "length" "I" ∈ wsX1_begin := by decide +kernel
  have L57 : Cond.fieldLink RX1 57 "GuessFerry$Laws" "current" "I" ∈ wsX1_begin := by decide +kernel
  refine lv_aload_n hx hb dX1_begin_0 rfl (lv_at hl 0 rfl) ?_
  refine lv_iload_n hx hb dX1_begin_1 rfl (lv_at hl 1 rfl) ?_
  refine q_put (ty := .int) (w2 := [(q_sound_laws, .inr (1, [u_sound_laws_0, u_sound_laws_1, .ref q_sound_lawStarts, .ref q_sound_partCounts, u_sound_laws_4, u_sound_laws_5, .int 2, .int 2, u_sound_laws_8])), (q_sound_lawStarts, .inl (cI, 4, .inl f_sound_lawStarts)), (q_sound_partCounts, .inl (cI, 4, .inl f_sound_partCounts))]) tyX1 tyX1_ok nmX1 C inX1 hK hP hD hS 0 rfl rfl 7 (by decide) rfl L57 rfl (by decide +kernel) (rfl) rfl (Nat.le_of_ble_eq_true rfl) dX1_begin_2 rfl (fun H locs hP hD hS => ?_)
  refine lv_aload_n hx hb dX1_begin_5 rfl (lv_at hl 0 rfl) ?_
  refine q_get (v := .ref q_sound_lawStarts) C inX1 hK hP 0 rfl rfl 2 (by decide) rfl L22 rfl dX1_begin_6 ?_
  refine lv_iload_n hx hb dX1_begin_9 rfl (lv_at hl 1 rfl) ?_
  refine lv_aload_n hx hb dX1_begin_10 rfl (lv_at hl 0 rfl) ?_
  refine q_get (v := .int 2) C inX1 hK hP 0 rfl rfl 6 (by decide) rfl L34 rfl dX1_begin_11 ?_
  refine q_iast (f2 := (upd f_sound_lawStarts 2 2)) (w2 := [(q_sound_laws, .inr (1, [u_sound_laws_0, u_sound_laws_1, .ref q_sound_lawStarts, .ref q_sound_partCounts, u_sound_laws_4, u_sound_laws_5, .int 2, .int 2, u_sound_laws_8])), (q_sound_lawStarts, .inl (cI, 4, .inl (upd f_sound_lawStarts 2 2))), (q_sound_partCounts, .inl (cI, 4, .inl f_sound_partCounts))]) C hK hP hD hS 1 1 rfl rfl (vp_lit (by decide +kernel)) dX1_begin_14 rfl rfl (fun H locs hP hD hS => ?_)
  refine lv_aload_n hx hb dX1_begin_15 rfl (lv_at hl 0 rfl) ?_
  refine q_get (v := .ref q_sound_partCounts) C inX1 hK hP 0 rfl rfl 3 (by decide) rfl L25 rfl dX1_begin_16 ?_
  refine lv_iload_n hx hb dX1_begin_19 rfl (lv_at hl 1 rfl) ?_
  refine lv_iconst (v := 0) hx hb dX1_begin_20 (by decide) ?_
  refine q_iast (f2 := (upd f_sound_partCounts 2 0)) (w2 := [(q_sound_laws, .inr (1, [u_sound_laws_0, u_sound_laws_1, .ref q_sound_lawStarts, .ref q_sound_partCounts, u_sound_laws_4, u_sound_laws_5, .int 2, .int 2, u_sound_laws_8])), (q_sound_lawStarts, .inl (cI, 4, .inl (upd f_sound_lawStarts 2 2))), (q_sound_partCounts, .inl (cI, 4, .inl (upd f_sound_partCounts 2 0)))]) C hK hP hD hS 2 1 rfl rfl (vp_lit (by decide +kernel)) dX1_begin_21 rfl rfl (fun H locs hP hD hS => ?_)
  exact q_vret C hr hlocks hK hP hD hS (Nat.le_of_ble_eq_true rfl) (Nat.le_of_ble_eq_true rfl) dX1_begin_22 (rfl)

set_option maxHeartbeats 4000000 in
set_option maxRecDepth 100000 in
theorem k_begin3 (l : Launch) (dC : Nat → ClassId) (dI : Nat → Nat → Nat) (cB cI cJ cZ cS : ClassId) (q_sound_laws : Nat) (q_sound_lawStarts : Nat) (q_sound_partCounts : Nat) (u_sound_laws_0 : Value) (u_sound_laws_1 : Value) (u_sound_laws_4 : Value) (u_sound_laws_5 : Value) (y_cur : Int32) (u_sound_laws_8 : Value) (f_sound_lawStarts : Nat → Int32) (f_sound_partCounts : Nat → Int32) : CV l yX1_begin wsX1_begin ({ frames := 0, cells := 0, slots := 0, locals := 0 }) (dC, dI) (tysA cB cI cJ cZ cS) [(q_sound_laws, .inr (1, [u_sound_laws_0, u_sound_laws_1, .ref q_sound_lawStarts, .ref q_sound_partCounts, u_sound_laws_4, u_sound_laws_5, .int 3, .int y_cur, u_sound_laws_8])), (q_sound_lawStarts, .inl (cI, 4, .inl f_sound_lawStarts)), (q_sound_partCounts, .inl (cI, 4, .inl f_sound_partCounts))] [.ref q_sound_laws, .int 3] (fun w => w = [(q_sound_laws, .inr (1, [u_sound_laws_0, u_sound_laws_1, .ref q_sound_lawStarts, .ref q_sound_partCounts, u_sound_laws_4, u_sound_laws_5, .int 3, .int 3, u_sound_laws_8])), (q_sound_lawStarts, .inl (cI, 4, .inl (upd f_sound_lawStarts 3 3))), (q_sound_partCounts, .inl (cI, 4, .inl (upd f_sound_partCounts 3 0)))]) := by
  refine open_V (cc := cX1_begin) (maxL := 2) (ret := none) (by decide) rfl (Nat.le_of_ble_eq_true rfl) ?_
  intro p e s m below meth c A ls E
  obtain ⟨C, hr, hlocks, hnm, hA, hP, hK, hD, hN, hl⟩ := E
  obtain ⟨hx, hb, hml, hown, hts⟩ := id C
  have hS : va_S A s.heap s.heap [] := va_S.rf
  have hl : lv_has ls 2 [(0, .ref q_sound_laws), (1, .int 3)] := hl
  have inX1 : ∀ w ∈ u_ws RX1 TX1 9, w ∈ wsX1_begin := fun _ h => List.mem_cons_of_mem _ (List.mem_append_right _ h)
  have L22 : Cond.fieldLink RX1 22 "GuessFerry$Laws" "lawStarts" "[I" ∈ wsX1_begin := by decide +kernel
  have L25 : Cond.fieldLink RX1 25 "GuessFerry$Laws" "partCounts" "[I" ∈ wsX1_begin := by decide +kernel
  have L34 : Cond.fieldLink RX1 34 "GuessFerry$Laws" "length" "I" ∈ wsX1_begin := by decide +kernel
  have L57 : Cond.fieldLink RX1 57 "GuessFerry$Laws" "current" "I" ∈ wsX1_begin := by decide +kernel
  refine lv_aload_n hx hb dX1_begin_0 rfl (lv_at hl 0 rfl) ?_
  refine lv_iload_n hx hb dX1_begin_1 rfl (lv_at hl 1 rfl) ?_
  refine q_put (ty := .int) (w2 := [(q_sound_laws, .inr (1, [u_sound_laws_0, u_sound_laws_1, .ref q_sound_lawStarts, .ref q_sound_partCounts, u_sound_laws_4, u_sound_laws_5, .int 3, .int 3, u_sound_laws_8])), (q_sound_lawStarts, .inl (cI, 4, .inl f_sound_lawStarts)), (q_sound_partCounts, .inl (cI, 4, .inl f_sound_partCounts))]) tyX1 tyX1_ok nmX1 C inX1 hK hP hD hS 0 rfl rfl 7 (by decide) rfl L57 rfl (by decide +kernel) (rfl) rfl (Nat.le_of_ble_eq_true rfl) dX1_begin_2 rfl (fun H locs hP hD hS => ?_)
  refine lv_aload_n hx hb dX1_begin_5 rfl (lv_at hl 0 rfl) ?_
  refine q_get (v := .ref q_sound_lawStarts) C inX1 hK hP 0 rfl rfl 2 (by decide) rfl L22 rfl dX1_begin_6 ?_
  refine lv_iload_n hx hb dX1_begin_9 rfl (lv_at hl 1 rfl) ?_
  refine lv_aload_n hx hb dX1_begin_10 rfl (lv_at hl 0 rfl) ?_
  refine q_get (v := .int 3) C inX1 hK hP 0 rfl rfl 6 (by decide) rfl L34 rfl dX1_begin_11 ?_
  refine q_iast (f2 := (upd f_sound_lawStarts 3 3)) (w2 := [(q_sound_laws, .inr (1, [u_sound_laws_0, u_sound_laws_1, .ref q_sound_lawStarts, .ref q_sound_partCounts, u_sound_laws_4, u_sound_laws_5, .int 3, .int 3, u_sound_laws_8])), (q_sound_lawStarts, .inl (cI, 4, .inl (upd f_sound_lawStarts 3 3))), (q_sound_partCounts, .inl (cI, 4, .inl f_sound_partCounts))]) C hK hP hD hS 1 1 rfl rfl (vp_lit (by decide +kernel)) dX1_begin_14 rfl rfl (fun H locs hP hD hS => ?_)
  refine lv_aload_n hx hb dX1_begin_15 rfl (lv_at hl 0 rfl) ?_
  refine q_get (v := .ref q_sound_partCounts) C inX1 hK hP 0 rfl rfl 3 (by decide) rfl L25 rfl dX1_begin_16 ?_
  refine lv_iload_n hx hb dX1_begin_19 rfl (lv_at hl 1 rfl) ?_
  refine lv_iconst (v := 0) hx hb dX1_begin_20 (by decide) ?_
  refine q_iast (f2 := (upd f_sound_partCounts 3 0)) (w2 := [(q_sound_laws, .inr (1, [u_sound_laws_0, u_sound_laws_1, .ref q_sound_lawStarts, .ref q_sound_partCounts, u_sound_laws_4, u_sound_laws_5, .int 3, .int 3, u_sound_laws_8])), (q_sound_lawStarts, .inl (cI, 4, .inl (upd f_sound_lawStarts 3 3))), (q_sound_partCounts, .inl (cI, 4, .inl (upd f_sound_partCounts 3 0)))]) C hK hP hD hS 2 1 rfl rfl (vp_lit (by decide +kernel)) dX1_begin_21 rfl rfl (fun H locs hP hD hS => ?_)
  exact q_vret C hr hlocks hK hP hD hS (Nat.le_of_ble_eq_true rfl) (Nat.le_of_ble_eq_true rfl) dX1_begin_22 (rfl)

set_option maxHeartbeats 4000000 in
set_option maxRecDepth 100000 in
theorem k_endPart0 (l : Launch) (dC : Nat → ClassId) (dI : Nat → Nat → Nat) (cB cI cJ cZ cS : ClassId) (q_sound_laws : Nat) (q_sound_partEnds : Nat) (q_sound_partCounts : Nat) (u_sound_laws_0 : Value) (u_sound_laws_2 : Value) (u_sound_laws_4 : Value) (u_sound_laws_5 : Value) (u_sound_laws_8 : Value) (f_sound_partCounts : Nat → Int32) (f_sound_partEnds : Nat → Int32) (h_sound_partCounts_0 : f_sound_partCounts 0 = 0) : CV l yX1_endPart wsX1_endPart ({ frames := 0, cells := 0, slots := 0, locals := 0 }) (dC, dI) (tysA cB cI cJ cZ cS) [(q_sound_laws, .inr (1, [u_sound_laws_0, .ref q_sound_partEnds, u_sound_laws_2, .ref q_sound_partCounts, u_sound_laws_4, u_sound_laws_5, .int 1, .int 0, u_sound_laws_8])), (q_sound_partCounts, .inl (cI, 4, .inl f_sound_partCounts)), (q_sound_partEnds, .inl (cI, 52, .inl f_sound_partEnds))] [.ref q_sound_laws] (fun w => w = [(q_sound_laws, .inr (1, [u_sound_laws_0, .ref q_sound_partEnds, u_sound_laws_2, .ref q_sound_partCounts, u_sound_laws_4, u_sound_laws_5, .int 1, .int 0, u_sound_laws_8])), (q_sound_partCounts, .inl (cI, 4, .inl (upd f_sound_partCounts 0 1))), (q_sound_partEnds, .inl (cI, 52, .inl (upd f_sound_partEnds 0 1)))]) := by
  refine open_V (cc := cX1_endPart) (maxL := 2) (ret := none) (by decide) rfl (Nat.le_of_ble_eq_true rfl) ?_
  intro p e s m below meth c A ls E
  obtain ⟨C, hr, hlocks, hnm, hA, hP, hK, hD, hN, hl⟩ := E
  obtain ⟨hx, hb, hml, hown, hts⟩ := id C
  have hS : va_S A s.heap s.heap [] := va_S.rf
  have hl : lv_has ls 2 [(0, .ref q_sound_laws)] := hl
  have inX1 : ∀ w ∈ u_ws RX1 TX1 9, w ∈ wsX1_endPart := fun _ h => List.mem_cons_of_mem _ (List.mem_append_right _ h)
  have L19 : Cond.fieldLink RX1 19 "GuessFerry$Laws" "partEnds" "[I" ∈ wsX1_endPart := by decide +kernel
  have L25 : Cond.fieldLink RX1 25 "GuessFerry$Laws" "partCounts" "[I" ∈ wsX1_endPart := by decide +kernel
  have L34 : Cond.fieldLink RX1 34 "GuessFerry$Laws" "length" "I" ∈ wsX1_endPart := by decide +kernel
  have L57 : Cond.fieldLink RX1 57 "GuessFerry$Laws" "current" "I" ∈ wsX1_endPart := by decide +kernel
  refine lv_aload_n hx hb dX1_endPart_0 rfl (lv_at hl 0 rfl) ?_
  refine q_get (v := .ref q_sound_partCounts) C inX1 hK hP 0 rfl rfl 3 (by decide) rfl L25 rfl dX1_endPart_1 ?_
  refine lv_aload_n hx hb dX1_endPart_4 rfl (lv_at hl 0 rfl) ?_
  refine q_get (v := .int 0) C inX1 hK hP 0 rfl rfl 7 (by decide) rfl L57 rfl dX1_endPart_5 ?_
  refine q_iald (x := 0) C hK hP 1 1 rfl rfl (vp_lit (by decide +kernel)) dX1_endPart_8 (h_sound_partCounts_0) ?_
  refine lv_istore_n (lv' := [(1, .int 0), (0, .ref q_sound_laws)]) hx hb dX1_endPart_9 rfl hl (by decide) rfl (fun ls hl => ?_)
  refine lv_iload_n hx hb dX1_endPart_10 rfl (lv_at hl 0 rfl) ?_
  refine lv_bipush (v := 13) hx hb dX1_endPart_11 (by decide) ?_
  refine lv_icmp_ge (tgt := 46) hx hb dX1_endPart_13 (by decide) (fun h => absurd h (by decide +kernel)) (fun _ => ?_)
  refine lv_aload_n hx hb dX1_endPart_16 rfl (lv_at hl 1 rfl) ?_
  refine q_get (v := .ref q_sound_partEnds) C inX1 hK hP 0 rfl rfl 1 (by decide) rfl L19 rfl dX1_endPart_17 ?_
  refine lv_aload_n hx hb dX1_endPart_20 rfl (lv_at hl 1 rfl) ?_
  refine q_get (v := .int 0) C inX1 hK hP 0 rfl rfl 7 (by decide) rfl L57 rfl dX1_endPart_21 ?_
  refine lv_bipush (v := 13) hx hb dX1_endPart_24 (by decide) ?_
  refine lv_imul hx hb dX1_endPart_26 ?_
  refine q_top (y := 0) (by decide +kernel) ?_
  refine lv_iload_n hx hb dX1_endPart_27 rfl (lv_at hl 0 rfl) ?_
  refine lv_iadd hx hb dX1_endPart_28 ?_
  refine q_top (y := 0) (by decide +kernel) ?_
  refine lv_aload_n hx hb dX1_endPart_29 rfl (lv_at hl 1 rfl) ?_
  refine q_get (v := .int 1) C inX1 hK hP 0 rfl rfl 6 (by decide) rfl L34 rfl dX1_endPart_30 ?_
  refine q_iast (f2 := (upd f_sound_partEnds 0 1)) (w2 := [(q_sound_laws, .inr (1, [u_sound_laws_0, .ref q_sound_partEnds, u_sound_laws_2, .ref q_sound_partCounts, u_sound_laws_4, u_sound_laws_5, .int 1, .int 0, u_sound_laws_8])), (q_sound_partCounts, .inl (cI, 4, .inl f_sound_partCounts)), (q_sound_partEnds, .inl (cI, 52, .inl (upd f_sound_partEnds 0 1)))]) C hK hP hD hS 2 1 rfl rfl (vp_lit (by decide +kernel)) dX1_endPart_33 rfl rfl (fun H locs hP hD hS => ?_)
  refine lv_aload_n hx hb dX1_endPart_34 rfl (lv_at hl 1 rfl) ?_
  refine q_get (v := .ref q_sound_partCounts) C inX1 hK hP 0 rfl rfl 3 (by decide) rfl L25 rfl dX1_endPart_35 ?_
  refine lv_aload_n hx hb dX1_endPart_38 rfl (lv_at hl 1 rfl) ?_
  refine q_get (v := .int 0) C inX1 hK hP 0 rfl rfl 7 (by decide) rfl L57 rfl dX1_endPart_39 ?_
  refine lv_iload_n hx hb dX1_endPart_42 rfl (lv_at hl 0 rfl) ?_
  refine lv_iconst (v := 1) hx hb dX1_endPart_43 (by decide) ?_
  refine lv_iadd hx hb dX1_endPart_44 ?_
  refine q_top (y := 1) (by decide +kernel) ?_
  refine q_iast (f2 := (upd f_sound_partCounts 0 1)) (w2 := [(q_sound_laws, .inr (1, [u_sound_laws_0, .ref q_sound_partEnds, u_sound_laws_2, .ref q_sound_partCounts, u_sound_laws_4, u_sound_laws_5, .int 1, .int 0, u_sound_laws_8])), (q_sound_partCounts, .inl (cI, 4, .inl (upd f_sound_partCounts 0 1))), (q_sound_partEnds, .inl (cI, 52, .inl (upd f_sound_partEnds 0 1)))]) C hK hP hD hS 1 1 rfl rfl (vp_lit (by decide +kernel)) dX1_endPart_45 rfl rfl (fun H locs hP hD hS => ?_)
  exact q_vret C hr hlocks hK hP hD hS (Nat.le_of_ble_eq_true rfl) (Nat.le_of_ble_eq_true rfl) dX1_endPart_46 (rfl)

set_option maxHeartbeats 4000000 in
set_option maxRecDepth 100000 in
theorem k_endPart1 (l : Launch) (dC : Nat → ClassId) (dI : Nat → Nat → Nat) (cB cI cJ cZ cS : ClassId) (q_sound_laws : Nat) (q_sound_partEnds : Nat) (q_sound_partCounts : Nat) (u_sound_laws_0 : Value) (u_sound_laws_2 : Value) (u_sound_laws_4 : Value) (u_sound_laws_5 : Value) (u_sound_laws_8 : Value) (f_sound_partCounts : Nat → Int32) (f_sound_partEnds : Nat → Int32) (h_sound_partCounts_1 : f_sound_partCounts 1 = 0) : CV l yX1_endPart wsX1_endPart ({ frames := 0, cells := 0, slots := 0, locals := 0 }) (dC, dI) (tysA cB cI cJ cZ cS) [(q_sound_laws, .inr (1, [u_sound_laws_0, .ref q_sound_partEnds, u_sound_laws_2, .ref q_sound_partCounts, u_sound_laws_4, u_sound_laws_5, .int 2, .int 1, u_sound_laws_8])), (q_sound_partCounts, .inl (cI, 4, .inl f_sound_partCounts)), (q_sound_partEnds, .inl (cI, 52, .inl f_sound_partEnds))] [.ref q_sound_laws] (fun w => w = [(q_sound_laws, .inr (1, [u_sound_laws_0, .ref q_sound_partEnds, u_sound_laws_2, .ref q_sound_partCounts, u_sound_laws_4, u_sound_laws_5, .int 2, .int 1, u_sound_laws_8])), (q_sound_partCounts, .inl (cI, 4, .inl (upd f_sound_partCounts 1 1))), (q_sound_partEnds, .inl (cI, 52, .inl (upd f_sound_partEnds 13 2)))]) := by
  refine open_V (cc := cX1_endPart) (maxL := 2) (ret := none) (by decide) rfl (Nat.le_of_ble_eq_true rfl) ?_
  intro p e s m below meth c A ls E
  obtain ⟨C, hr, hlocks, hnm, hA, hP, hK, hD, hN, hl⟩ := E
  obtain ⟨hx, hb, hml, hown, hts⟩ := id C
  have hS : va_S A s.heap s.heap [] := va_S.rf
  have hl : lv_has ls 2 [(0, .ref q_sound_laws)] := hl
  have inX1 : ∀ w ∈ u_ws RX1 TX1 9, w ∈ wsX1_endPart := fun _ h => List.mem_cons_of_mem _ (List.mem_append_right _ h)
  have L19 : Cond.fieldLink RX1 19 "GuessFerry$Laws" "partEnds" "[I" ∈ wsX1_endPart := by decide +kernel
  have L25 : Cond.fieldLink RX1 25 "GuessFerry$Laws" "partCounts" "[I" ∈ wsX1_endPart := by decide +kernel
  have L34 : Cond.fieldLink RX1 34 "GuessFerry$Laws" "length" "I" ∈ wsX1_endPart := by decide +kernel
  have L57 : Cond.fieldLink RX1 57 "GuessFerry$Laws" "current" "I" ∈ wsX1_endPart := by decide +kernel
  refine lv_aload_n hx hb dX1_endPart_0 rfl (lv_at hl 0 rfl) ?_
  refine q_get (v := .ref q_sound_partCounts) C inX1 hK hP 0 rfl rfl 3 (by decide) rfl L25 rfl dX1_endPart_1 ?_
  refine lv_aload_n hx hb dX1_endPart_4 rfl (lv_at hl 0 rfl) ?_
  refine q_get (v := .int 1) C inX1 hK hP 0 rfl rfl 7 (by decide) rfl L57 rfl dX1_endPart_5 ?_
  refine q_iald (x := 0) C hK hP 1 1 rfl rfl (vp_lit (by decide +kernel)) dX1_endPart_8 (h_sound_partCounts_1) ?_
  refine lv_istore_n (lv' := [(1, .int 0), (0, .ref q_sound_laws)]) hx hb dX1_endPart_9 rfl hl (by decide) rfl (fun ls hl => ?_)
  refine lv_iload_n hx hb dX1_endPart_10 rfl (lv_at hl 0 rfl) ?_
  refine lv_bipush (v := 13) hx hb dX1_endPart_11 (by decide) ?_
  refine lv_icmp_ge (tgt := 46) hx hb dX1_endPart_13 (by decide) (fun h => absurd h (by decide +kernel)) (fun _ => ?_)
  refine lv_aload_n hx hb dX1_endPart_16 rfl (lv_at hl 1 rfl) ?_
  refine q_get (v := .ref q_sound_partEnds) C inX1 hK hP 0 rfl rfl 1 (by decide) rfl L19 rfl dX1_endPart_17 ?_
  refine lv_aload_n hx hb dX1_endPart_20 rfl (lv_at hl 1 rfl) ?_
  refine q_get (v := .int 1) C inX1 hK hP 0 rfl rfl 7 (by decide) rfl L57 rfl dX1_endPart_21 ?_
  refine lv_bipush (v := 13) hx hb dX1_endPart_24 (by decide) ?_
  refine lv_imul hx hb dX1_endPart_26 ?_
  refine q_top (y := 13) (by decide +kernel) ?_
  refine lv_iload_n hx hb dX1_endPart_27 rfl (lv_at hl 0 rfl) ?_
  refine lv_iadd hx hb dX1_endPart_28 ?_
  refine q_top (y := 13) (by decide +kernel) ?_
  refine lv_aload_n hx hb dX1_endPart_29 rfl (lv_at hl 1 rfl) ?_
  refine q_get (v := .int 2) C inX1 hK hP 0 rfl rfl 6 (by decide) rfl L34 rfl dX1_endPart_30 ?_
  refine q_iast (f2 := (upd f_sound_partEnds 13 2)) (w2 := [(q_sound_laws, .inr (1, [u_sound_laws_0, .ref q_sound_partEnds, u_sound_laws_2, .ref q_sound_partCounts, u_sound_laws_4, u_sound_laws_5, .int 2, .int 1, u_sound_laws_8])), (q_sound_partCounts, .inl (cI, 4, .inl f_sound_partCounts)), (q_sound_partEnds, .inl (cI, 52, .inl (upd f_sound_partEnds 13 2)))]) C hK hP hD hS 2 1 rfl rfl (vp_lit (by decide +kernel)) dX1_endPart_33 rfl rfl (fun H locs hP hD hS => ?_)
  refine lv_aload_n hx hb dX1_endPart_34 rfl (lv_at hl 1 rfl) ?_
  refine q_get (v := .ref q_sound_partCounts) C inX1 hK hP 0 rfl rfl 3 (by decide) rfl L25 rfl dX1_endPart_35 ?_
  refine lv_aload_n hx hb dX1_endPart_38 rfl (lv_at hl 1 rfl) ?_
  refine q_get (v := .int 1) C inX1 hK hP 0 rfl rfl 7 (by decide) rfl L57 rfl dX1_endPart_39 ?_
  refine lv_iload_n hx hb dX1_endPart_42 rfl (lv_at hl 0 rfl) ?_
  refine lv_iconst (v := 1) hx hb dX1_endPart_43 (by decide) ?_
  refine lv_iadd hx hb dX1_endPart_44 ?_
  refine q_top (y := 1) (by decide +kernel) ?_
  refine q_iast (f2 := (upd f_sound_partCounts 1 1)) (w2 := [(q_sound_laws, .inr (1, [u_sound_laws_0, .ref q_sound_partEnds, u_sound_laws_2, .ref q_sound_partCounts, u_sound_laws_4, u_sound_laws_5, .int 2, .int 1, u_sound_laws_8])), (q_sound_partCounts, .inl (cI, 4, .inl (upd f_sound_partCounts 1 1))), (q_sound_partEnds, .inl (cI, 52, .inl (upd f_sound_partEnds 13 2)))]) C hK hP hD hS 1 1 rfl rfl (vp_lit (by decide +kernel)) dX1_endPart_45 rfl rfl (fun H locs hP hD hS => ?_)
  exact q_vret C hr hlocks hK hP hD hS (Nat.le_of_ble_eq_true rfl) (Nat.le_of_ble_eq_true rfl) dX1_endPart_46 (rfl)

set_option maxHeartbeats 4000000 in
set_option maxRecDepth 100000 in
theorem k_endPart2 (l : Launch) (dC : Nat → ClassId) (dI : Nat → Nat → Nat) (cB cI cJ cZ cS : ClassId) (q_sound_laws : Nat) (q_sound_partEnds : Nat) (q_sound_partCounts : Nat) (u_sound_laws_0 : Value) (u_sound_laws_2 : Value) (u_sound_laws_4 : Value) (u_sound_laws_5 : Value) (u_sound_laws_8 : Value) (f_sound_partCounts : Nat → Int32) (f_sound_partEnds : Nat → Int32) (h_sound_partCounts_2 : f_sound_partCounts 2 = 0) : CV l yX1_endPart wsX1_endPart ({ frames := 0, cells := 0, slots := 0, locals := 0 }) (dC, dI) (tysA cB cI cJ cZ cS) [(q_sound_laws, .inr (1, [u_sound_laws_0, .ref q_sound_partEnds, u_sound_laws_2, .ref q_sound_partCounts, u_sound_laws_4, u_sound_laws_5, .int 3, .int 2, u_sound_laws_8])), (q_sound_partCounts, .inl (cI, 4, .inl f_sound_partCounts)), (q_sound_partEnds, .inl (cI, 52, .inl f_sound_partEnds))] [.ref q_sound_laws] (fun w => w = [(q_sound_laws, .inr (1, [u_sound_laws_0, .ref q_sound_partEnds, u_sound_laws_2, .ref q_sound_partCounts, u_sound_laws_4, u_sound_laws_5, .int 3, .int 2, u_sound_laws_8])), (q_sound_partCounts, .inl (cI, 4, .inl (upd f_sound_partCounts 2 1))), (q_sound_partEnds, .inl (cI, 52, .inl (upd f_sound_partEnds 26 3)))]) := by
  refine open_V (cc := cX1_endPart) (maxL := 2) (ret := none) (by decide) rfl (Nat.le_of_ble_eq_true rfl) ?_
  intro p e s m below meth c A ls E
  obtain ⟨C, hr, hlocks, hnm, hA, hP, hK, hD, hN, hl⟩ := E
  obtain ⟨hx, hb, hml, hown, hts⟩ := id C
  have hS : va_S A s.heap s.heap [] := va_S.rf
  have hl : lv_has ls 2 [(0, .ref q_sound_laws)] := hl
  have inX1 : ∀ w ∈ u_ws RX1 TX1 9, w ∈ wsX1_endPart := fun _ h => List.mem_cons_of_mem _ (List.mem_append_right _ h)
  have L19 : Cond.fieldLink RX1 19 "GuessFerry$Laws" "partEnds" "[I" ∈ wsX1_endPart := by decide +kernel
  have L25 : Cond.fieldLink RX1 25 "GuessFerry$Laws" "partCounts" "[I" ∈ wsX1_endPart := by decide +kernel
  have L34 : Cond.fieldLink RX1 34 "GuessFerry$Laws" "length" "I" ∈ wsX1_endPart := by decide +kernel
  have L57 : Cond.fieldLink RX1 57 "GuessFerry$Laws" "current" "I" ∈ wsX1_endPart := by decide +kernel
  refine lv_aload_n hx hb dX1_endPart_0 rfl (lv_at hl 0 rfl) ?_
  refine q_get (v := .ref q_sound_partCounts) C inX1 hK hP 0 rfl rfl 3 (by decide) rfl L25 rfl dX1_endPart_1 ?_
  refine lv_aload_n hx hb dX1_endPart_4 rfl (lv_at hl 0 rfl) ?_
  refine q_get (v := .int 2) C inX1 hK hP 0 rfl rfl 7 (by decide) rfl L57 rfl dX1_endPart_5 ?_
  refine q_iald (x := 0) C hK hP 1 1 rfl rfl (vp_lit (by decide +kernel)) dX1_endPart_8 (h_sound_partCounts_2) ?_
  refine lv_istore_n (lv' := [(1, .int 0), (0, .ref q_sound_laws)]) hx hb dX1_endPart_9 rfl hl (by decide) rfl (fun ls hl => ?_)
  refine lv_iload_n hx hb dX1_endPart_10 rfl (lv_at hl 0 rfl) ?_
  refine lv_bipush (v := 13) hx hb dX1_endPart_11 (by decide) ?_
  refine lv_icmp_ge (tgt := 46) hx hb dX1_endPart_13 (by decide) (fun h => absurd h (by decide +kernel)) (fun _ => ?_)
  refine lv_aload_n hx hb dX1_endPart_16 rfl (lv_at hl 1 rfl) ?_
  refine q_get (v := .ref q_sound_partEnds) C inX1 hK hP 0 rfl rfl 1 (by decide) rfl L19 rfl dX1_endPart_17 ?_
  refine lv_aload_n hx hb dX1_endPart_20 rfl (lv_at hl 1 rfl) ?_
  refine q_get (v := .int 2) C inX1 hK hP 0 rfl rfl 7 (by decide) rfl L57 rfl dX1_endPart_21 ?_
  refine lv_bipush (v := 13) hx hb dX1_endPart_24 (by decide) ?_
  refine lv_imul hx hb dX1_endPart_26 ?_
  refine q_top (y := 26) (by decide +kernel) ?_
  refine lv_iload_n hx hb dX1_endPart_27 rfl (lv_at hl 0 rfl) ?_
  refine lv_iadd hx hb dX1_endPart_28 ?_
  refine q_top (y := 26) (by decide +kernel) ?_
  refine lv_aload_n hx hb dX1_endPart_29 rfl (lv_at hl 1 rfl) ?_
  refine q_get (v := .int 3) C inX1 hK hP 0 rfl rfl 6 (by decide) rfl L34 rfl dX1_endPart_30 ?_
  refine q_iast (f2 := (upd f_sound_partEnds 26 3)) (w2 := [(q_sound_laws, .inr (1, [u_sound_laws_0, .ref q_sound_partEnds, u_sound_laws_2, .ref q_sound_partCounts, u_sound_laws_4, u_sound_laws_5, .int 3, .int 2, u_sound_laws_8])), (q_sound_partCounts, .inl (cI, 4, .inl f_sound_partCounts)), (q_sound_partEnds, .inl (cI, 52, .inl (upd f_sound_partEnds 26 3)))]) C hK hP hD hS 2 1 rfl rfl (vp_lit (by decide +kernel)) dX1_endPart_33 rfl rfl (fun H locs hP hD hS => ?_)
  refine lv_aload_n hx hb dX1_endPart_34 rfl (lv_at hl 1 rfl) ?_
  refine q_get (v := .ref q_sound_partCounts) C inX1 hK hP 0 rfl rfl 3 (by decide) rfl L25 rfl dX1_endPart_35 ?_
  refine lv_aload_n hx hb dX1_endPart_38 rfl (lv_at hl 1 rfl) ?_
  refine q_get (v := .int 2) C inX1 hK hP 0 rfl rfl 7 (by decide) rfl L57 rfl dX1_endPart_39 ?_
  refine lv_iload_n hx hb dX1_endPart_42 rfl (lv_at hl 0 rfl) ?_
  refine lv_iconst (v := 1) hx hb dX1_endPart_43 (by decide) ?_
  refine lv_iadd hx hb dX1_endPart_44 ?_
  refine q_top (y := 1) (by decide +kernel) ?_
  refine q_iast (f2 := (upd f_sound_partCounts 2 1)) (w2 := [(q_sound_laws, .inr (1, [u_sound_laws_0, .ref q_sound_partEnds, u_sound_laws_2, .ref q_sound_partCounts, u_sound_laws_4, u_sound_laws_5, .int 3, .int 2, u_sound_laws_8])), (q_sound_partCounts, .inl (cI, 4, .inl (upd f_sound_partCounts 2 1))), (q_sound_partEnds, .inl (cI, 52, .inl (upd f_sound_partEnds 26 3)))]) C hK hP hD hS 1 1 rfl rfl (vp_lit (by decide +kernel)) dX1_endPart_45 rfl rfl (fun H locs hP hD hS => ?_)
  exact q_vret C hr hlocks hK hP hD hS (Nat.le_of_ble_eq_true rfl) (Nat.le_of_ble_eq_true rfl) dX1_endPart_46 (rfl)
