theorem dX8_liars_0 : decode cX8_liars 0 = .ok (.iconst 0, 1) := by decide +kernel
theorem dX8_liars_1 : decode cX8_liars 1 = .ok (.istore_n 3, 1) := by decide +kernel
theorem dX8_liars_2 : decode cX8_liars 2 = .ok (.iconst 0, 1) := by decide +kernel
theorem dX8_liars_3 : decode cX8_liars 3 = .ok (.istore 4, 2) := by decide +kernel
theorem dX8_liars_5 : decode cX8_liars 5 = .ok (.iload 4, 2) := by decide +kernel
theorem dX8_liars_7 : decode cX8_liars 7 = .ok (.aload_n 0, 1) := by decide +kernel
theorem dX8_liars_8 : decode cX8_liars 8 = .ok (.getfield 27, 3) := by decide +kernel
theorem dX8_liars_11 : decode cX8_liars 11 = .ok (.getfield 39, 3) := by decide +kernel
theorem dX8_liars_14 : decode cX8_liars 14 = .ok (.if_icmp .ge 111, 3) := by decide +kernel
theorem dX8_liars_125 : decode cX8_liars 125 = .ok (.iload_n 3, 1) := by decide +kernel
theorem dX8_liars_126 : decode cX8_liars 126 = .ok (.ireturn, 1) := by decide +kernel
theorem dX8_waveToAsk_0 : decode cX8_waveToAsk 0 = .ok (.bipush (-2), 2) := by decide +kernel
theorem dX8_waveToAsk_2 : decode cX8_waveToAsk 2 = .ok (.istore_n 2, 1) := by decide +kernel
theorem dX8_waveToAsk_3 : decode cX8_waveToAsk 3 = .ok (.iconst 0, 1) := by decide +kernel
theorem dX8_waveToAsk_4 : decode cX8_waveToAsk 4 = .ok (.istore_n 3, 1) := by decide +kernel
theorem dX8_waveToAsk_5 : decode cX8_waveToAsk 5 = .ok (.iconst 0, 1) := by decide +kernel
theorem dX8_waveToAsk_6 : decode cX8_waveToAsk 6 = .ok (.istore 4, 2) := by decide +kernel
theorem dX8_waveToAsk_8 : decode cX8_waveToAsk 8 = .ok (.iload 4, 2) := by decide +kernel
theorem dX8_waveToAsk_10 : decode cX8_waveToAsk 10 = .ok (.aload_n 0, 1) := by decide +kernel
theorem dX8_waveToAsk_11 : decode cX8_waveToAsk 11 = .ok (.getfield 27, 3) := by decide +kernel
theorem dX8_waveToAsk_14 : decode cX8_waveToAsk 14 = .ok (.getfield 39, 3) := by decide +kernel
theorem dX8_waveToAsk_17 : decode cX8_waveToAsk 17 = .ok (.if_icmp .ge 74, 3) := by decide +kernel
theorem dX8_waveToAsk_91 : decode cX8_waveToAsk 91 = .ok (.iload_n 2, 1) := by decide +kernel
theorem dX8_waveToAsk_92 : decode cX8_waveToAsk 92 = .ok (.ireturn, 1) := by decide +kernel
set_option maxRecDepth 20000 in
theorem ggX10_fit_X8_areSuch : GoodIn wsX10_fit wsX8_areSuch := goodIn_r _ [6, 7, 63, 64, 65, 66, 67, 68, 69, 70] (by decide +kernel) (by decide +kernel)
set_option maxRecDepth 20000 in
theorem gX10_fit_X8_areSuch_n266 : GoodIn wsX10_fit (wsX8_areSuch) := ggX10_fit_X8_areSuch
set_option maxRecDepth 20000 in
theorem ggX10_fit_X8_believe : GoodIn wsX10_fit wsX8_believe := goodIn_r _ [10, 11, 12, 13, 14, 15, 16, 17, 18, 19, 20, 21, 22, 23, 24, 25, 26, 27, 28, 29, 30, 4, 31, 32, 33, 63, 64, 65, 66, 67, 68, 69, 70, 71, 72, 73, 74, 75, 76, 77, 78, 79, 80, 81, 82, 83, 84, 85, 86, 87, 88, 89] (by decide +kernel) (by decide +kernel)
set_option maxRecDepth 20000 in
theorem gX10_fit_X8_believe_n269 : GoodIn wsX10_fit (wsX8_believe) := ggX10_fit_X8_believe
set_option maxRecDepth 20000 in
theorem ggX10_fit_X8_fitting : GoodIn wsX10_fit wsX8_fitting := goodIn_r _ [36, 37, 38, 39, 4, 40, 41, 11, 42, 43, 44, 45, 46, 47, 48, 49, 13, 14, 50, 51, 52, 53, 63, 64, 65, 66, 67, 68, 69, 70, 71, 72, 73, 74, 75, 76, 77, 78, 79, 80] (by decide +kernel) (by decide +kernel)
set_option maxRecDepth 20000 in
theorem gX10_fit_X8_fitting_n272 : GoodIn wsX10_fit (wsX8_fitting) := ggX10_fit_X8_fitting
theorem dX10_fit_0 : decode cX10_fit 0 = .ok (.aload_n 0, 1) := by decide +kernel
theorem dX10_fit_1 : decode cX10_fit 1 = .ok (.getfield 70, 3) := by decide +kernel
theorem dX10_fit_4 : decode cX10_fit 4 = .ok (.iload_n 1, 1) := by decide +kernel
theorem dX10_fit_5 : decode cX10_fit 5 = .ok (.iload_n 2, 1) := by decide +kernel
theorem dX10_fit_6 : decode cX10_fit 6 = .ok (.invokevirtual 266, 3) := by decide +kernel
theorem dX10_fit_9 : decode cX10_fit 9 = .ok (.ifCond .eq 12, 3) := by decide +kernel
theorem dX10_fit_12 : decode cX10_fit 12 = .ok (.iload_n 3, 1) := by decide +kernel
theorem dX10_fit_13 : decode cX10_fit 13 = .ok (.ifCond .lt 8, 3) := by decide +kernel
theorem dX10_fit_16 : decode cX10_fit 16 = .ok (.iload_n 3, 1) := by decide +kernel
theorem dX10_fit_17 : decode cX10_fit 17 = .ok (.iconst 1, 1) := by decide +kernel
theorem dX10_fit_18 : decode cX10_fit 18 = .ok (.if_icmp .le 5, 3) := by decide +kernel
theorem dX10_fit_21 : decode cX10_fit 21 = .ok (.iconst (-1), 1) := by decide +kernel
theorem dX10_fit_22 : decode cX10_fit 22 = .ok (.ireturn, 1) := by decide +kernel
theorem dX10_fit_23 : decode cX10_fit 23 = .ok (.aload_n 0, 1) := by decide +kernel
theorem dX10_fit_24 : decode cX10_fit 24 = .ok (.getfield 70, 3) := by decide +kernel
theorem dX10_fit_27 : decode cX10_fit 27 = .ok (.aload_n 0, 1) := by decide +kernel
theorem dX10_fit_28 : decode cX10_fit 28 = .ok (.getfield 35, 3) := by decide +kernel
theorem dX10_fit_31 : decode cX10_fit 31 = .ok (.iload_n 1, 1) := by decide +kernel
theorem dX10_fit_32 : decode cX10_fit 32 = .ok (.invokevirtual 269, 3) := by decide +kernel
theorem dX10_fit_35 : decode cX10_fit 35 = .ok (.aload_n 0, 1) := by decide +kernel
theorem dX10_fit_36 : decode cX10_fit 36 = .ok (.getfield 70, 3) := by decide +kernel
theorem dX10_fit_39 : decode cX10_fit 39 = .ok (.iload_n 2, 1) := by decide +kernel
theorem dX10_fit_40 : decode cX10_fit 40 = .ok (.iload_n 3, 1) := by decide +kernel
theorem dX10_fit_41 : decode cX10_fit 41 = .ok (.iconst 1, 1) := by decide +kernel
theorem dX10_fit_42 : decode cX10_fit 42 = .ok (.if_icmp .ne 7, 3) := by decide +kernel
theorem dX10_fit_45 : decode cX10_fit 45 = .ok (.iconst 1, 1) := by decide +kernel
theorem dX10_fit_46 : decode cX10_fit 46 = .ok (.goto 4, 3) := by decide +kernel
theorem dX10_fit_49 : decode cX10_fit 49 = .ok (.iconst 0, 1) := by decide +kernel
theorem dX10_fit_50 : decode cX10_fit 50 = .ok (.invokevirtual 272, 3) := by decide +kernel
theorem dX10_fit_53 : decode cX10_fit 53 = .ok (.ireturn, 1) := by decide +kernel
set_option maxHeartbeats 4000000 in
set_option maxRecDepth 100000 in
theorem k_fitting3 (l : Launch) (dC : Nat → ClassId) (dI : Nat → Nat → Nat) (cB cI cJ cZ cS : ClassId) (q_sound : Nat) (q_tellers : Nat) (q_byLies : Nat) (u_tellers_1 : Value) (u_tellers_2 : Value) (u_tellers_3 : Value) (u_tellers_4 : Value) (u_tellers_5 : Value) (u_tellers_7 : Value) (f_byLies : Nat → Int32) (u_sound_0 : Value) (u_sound_1 : Value) (u_sound_2 : Value) (u_sound_3 : Value) (u_sound_4 : Value) (u_sound_5 : Value) (u_sound_7 : Value) (u_sound_8 : Value) (u_sound_9 : Value) (x2 : Int32) : CI l yX8_fitting wsX8_fitting ({ frames := 2, cells := 0, slots := 0, locals := 47 }) (dC, dI) (tysA cB cI cJ cZ cS) [(q_tellers, .inr (8, [.ref q_sound, u_tellers_1, u_tellers_2, u_tellers_3, u_tellers_4, u_tellers_5, .ref q_byLies, u_tellers_7])), (q_byLies, .inl (cI, 4, .inl f_byLies)), (q_sound, .inr (5, [u_sound_0, u_sound_1, u_sound_2, u_sound_3, u_sound_4, u_sound_5, .int 0, u_sound_7, u_sound_8, u_sound_9]))] [.ref q_tellers, .int 3, .int x2] (fun r w => ∃ φf1 : Nat → Int32, (∀ j, j < 4 → φf1 j = 0) ∧ w = [(q_tellers, .inr (8, [.ref q_sound, u_tellers_1, u_tellers_2, u_tellers_3, u_tellers_4, u_tellers_5, .ref q_byLies, u_tellers_7])), (q_byLies, .inl (cI, 4, .inl (upd φf1 0 1))), (q_sound, .inr (5, [u_sound_0, u_sound_1, u_sound_2, u_sound_3, u_sound_4, u_sound_5, .int 0, u_sound_7, u_sound_8, u_sound_9]))] ∧ r = 1) := by
  refine open_I (cc := cX8_fitting) (maxL := 3) (ret := (some .int)) (by decide) rfl (Nat.le_of_ble_eq_true rfl) ?_
  intro p e s m below meth c A ls E
  obtain ⟨C, hr, hlocks, hnm, hA, hP, hK, hD, hN, hl⟩ := E
  obtain ⟨hx, hb, hml, hown, hts⟩ := id C
  have hS : va_S A s.heap s.heap [] := va_S.rf
  have hl : lv_has ls 3 [(0, .ref q_tellers), (1, .int 3), (2, .int x2)] := hl
  refine lv_aload_n hx hb dX8_fitting_0 rfl (lv_at hl 0 rfl) ?_
  refine lv_iconst (v := (-1)) hx hb dX8_fitting_1 (by decide) ?_
  refine lv_iload_n hx hb dX8_fitting_2 rfl (lv_at hl 2 rfl) ?_
  refine q_gov (wr := []) (va_runV (As := [.int (-1), .int x2]) (rest := []) C (k_X8_sortByLies l dC dI cB cI cJ cZ cS (q_sound) (q_tellers) (q_byLies) (u_tellers_1) (u_tellers_2) (u_tellers_3) (u_tellers_4) (u_tellers_5) (u_tellers_7) (f_byLies) (u_sound_0) (u_sound_1) (u_sound_2) (u_sound_3) (u_sound_4) (u_sound_5) (u_sound_7) (u_sound_8) (u_sound_9) x2 _) (cwV 2 hts gX8_fitting_X8_sortByLies rfl rfl rfl (by decide +kernel) ⟨Nat.le_of_ble_eq_true rfl, Nat.le_of_ble_eq_true rfl⟩) (q_preV hK hP (ci := 8) (q0 := 0) rfl rfl rfl (q_pre hN hK hP hD [0, 1, 2] rfl (by decide))) rfl rfl hl.1 rfl (lv_room (Nat.le_of_ble_eq_true rfl)) dX8_fitting_3 ⟨Nat.le_of_ble_eq_true rfl, Nat.le_of_ble_eq_true rfl⟩) hP hD hS hA [0, 1, 2] [] rfl rfl (by decide) (by decide) (fun w1 H locs hw hP hD hS => ?_)
  obtain ⟨φf1, hφf2, rfl⟩ := hw
  have hP : va_P (dC, dI) vwCl [(q_tellers, .inr (8, [.ref q_sound, u_tellers_1, u_tellers_2, u_tellers_3, u_tellers_4, u_tellers_5, .ref q_byLies, u_tellers_7])), (q_byLies, .inl (cI, 4, .inl (upd φf1 0 1))), (q_sound, .inr (5, [u_sound_0, u_sound_1, u_sound_2, u_sound_3, u_sound_4, u_sound_5, .int 0, u_sound_7, u_sound_8, u_sound_9]))] H := hP.sub [0, 1, 2] rfl
  have hD : va_D A [(q_tellers, .inr (8, [.ref q_sound, u_tellers_1, u_tellers_2, u_tellers_3, u_tellers_4, u_tellers_5, .ref q_byLies, u_tellers_7])), (q_byLies, .inl (cI, 4, .inl (upd φf1 0 1))), (q_sound, .inr (5, [u_sound_0, u_sound_1, u_sound_2, u_sound_3, u_sound_4, u_sound_5, .int 0, u_sound_7, u_sound_8, u_sound_9]))] := hD.sub [0, 1, 2] (by decide) rfl
  refine lv_aload_n hx hb dX8_fitting_6 rfl (lv_at hl 0 rfl) ?_
  refine lv_iload_n hx hb dX8_fitting_7 rfl (lv_at hl 1 rfl) ?_
  refine q_goi (wr := [(q_sound, .inr (5, [u_sound_0, u_sound_1, u_sound_2, u_sound_3, u_sound_4, u_sound_5, .int 0, u_sound_7, u_sound_8, u_sound_9]))]) (va_runV (As := [.int 3]) (rest := []) C (k_upTo3 l dC dI cB cI cJ cZ cS (q_tellers) (q_byLies) (.ref q_sound) (u_tellers_1) (u_tellers_2) (u_tellers_3) (u_tellers_4) (u_tellers_5) (u_tellers_7) ((upd φf1 0 1)) rfl (hφf2 1 (by decide)) (hφf2 2 (by decide)) (hφf2 3 (by decide)) _) (cwV 1 hts gX8_fitting_X8_upTo rfl rfl rfl (by decide +kernel) ⟨Nat.le_of_ble_eq_true rfl, Nat.le_of_ble_eq_true rfl⟩) (q_preV hK hP (ci := 8) (q0 := 0) rfl rfl rfl (q_pre hN hK hP hD [0, 1] rfl (by decide))) rfl rfl hl.1 rfl (lv_room (Nat.le_of_ble_eq_true rfl)) dX8_fitting_8 ⟨Nat.le_of_ble_eq_true rfl, Nat.le_of_ble_eq_true rfl⟩) hP hD hS hA [0, 1] [2] rfl rfl (by decide) (by decide) (fun r w1 H locs hw hP hD hS => ?_)
  obtain ⟨rfl, rfl⟩ := hw
  have hP : va_P (dC, dI) vwCl [(q_tellers, .inr (8, [.ref q_sound, u_tellers_1, u_tellers_2, u_tellers_3, u_tellers_4, u_tellers_5, .ref q_byLies, u_tellers_7])), (q_byLies, .inl (cI, 4, .inl (upd φf1 0 1))), (q_sound, .inr (5, [u_sound_0, u_sound_1, u_sound_2, u_sound_3, u_sound_4, u_sound_5, .int 0, u_sound_7, u_sound_8, u_sound_9]))] H := hP.sub [1, 2, 0] rfl
  have hD : va_D A [(q_tellers, .inr (8, [.ref q_sound, u_tellers_1, u_tellers_2, u_tellers_3, u_tellers_4, u_tellers_5, .ref q_byLies, u_tellers_7])), (q_byLies, .inl (cI, 4, .inl (upd φf1 0 1))), (q_sound, .inr (5, [u_sound_0, u_sound_1, u_sound_2, u_sound_3, u_sound_4, u_sound_5, .int 0, u_sound_7, u_sound_8, u_sound_9]))] := hD.sub [1, 2, 0] (by decide) rfl
  exact q_iret C hr hlocks hK hP hD hS (Nat.le_of_ble_eq_true rfl) (Nat.le_of_ble_eq_true rfl) dX8_fitting_11 (⟨φf1, hφf2, rfl, rfl⟩)

set_option maxHeartbeats 4000000 in
set_option maxRecDepth 100000 in
theorem k_X8_liars (l : Launch) (dC : Nat → ClassId) (dI : Nat → Nat → Nat) (cB cI cJ cZ cS : ClassId) (q_sound : Nat) (q_tellers : Nat) (u_tellers_1 : Value) (u_tellers_2 : Value) (u_tellers_3 : Value) (u_tellers_4 : Value) (u_tellers_5 : Value) (u_tellers_6 : Value) (u_tellers_7 : Value) (u_sound_0 : Value) (u_sound_1 : Value) (u_sound_2 : Value) (u_sound_3 : Value) (u_sound_4 : Value) (u_sound_5 : Value) (u_sound_7 : Value) (u_sound_8 : Value) (u_sound_9 : Value) (x2 : Int32) : CI l yX8_liars wsX8_liars ({ frames := 0, cells := 0, slots := 0, locals := 0 }) (dC, dI) (tysA cB cI cJ cZ cS) [(q_tellers, .inr (8, [.ref q_sound, u_tellers_1, u_tellers_2, u_tellers_3, u_tellers_4, u_tellers_5, u_tellers_6, u_tellers_7])), (q_sound, .inr (5, [u_sound_0, u_sound_1, u_sound_2, u_sound_3, u_sound_4, u_sound_5, .int 0, u_sound_7, u_sound_8, u_sound_9]))] [.ref q_tellers, .int 0, .int x2] (fun r w => w = [(q_tellers, .inr (8, [.ref q_sound, u_tellers_1, u_tellers_2, u_tellers_3, u_tellers_4, u_tellers_5, u_tellers_6, u_tellers_7])), (q_sound, .inr (5, [u_sound_0, u_sound_1, u_sound_2, u_sound_3, u_sound_4, u_sound_5, .int 0, u_sound_7, u_sound_8, u_sound_9]))] ∧ r = 0) := by
  refine open_I (cc := cX8_liars) (maxL := 7) (ret := (some .int)) (by decide) rfl (Nat.le_of_ble_eq_true rfl) ?_
  intro p e s m below meth c A ls E
  obtain ⟨C, hr, hlocks, hnm, hA, hP, hK, hD, hN, hl⟩ := E
  obtain ⟨hx, hb, hml, hown, hts⟩ := id C
  have hS : va_S A s.heap s.heap [] := va_S.rf
  have hl : lv_has ls 7 [(0, .ref q_tellers), (1, .int 0), (2, .int x2)] := hl
  have inX5 : ∀ w ∈ u_ws RX5 TX5 10, w ∈ wsX8_liars := by decide +kernel
  have inX8 : ∀ w ∈ u_ws RX8 TX8 8, w ∈ wsX8_liars := by decide +kernel
  have L27 : Cond.fieldLink RX8 27 "GuessFerry$Tellers" "sound" "LGuessFerry$Sound;" ∈ wsX8_liars := by decide +kernel
  refine lv_iconst (v := 0) hx hb dX8_liars_0 (by decide) ?_
  refine lv_istore_n (lv' := [(3, .int 0), (0, .ref q_tellers), (1, .int 0), (2, .int x2)]) hx hb dX8_liars_1 rfl hl (by decide) rfl (fun ls hl => ?_)
  refine lv_iconst (v := 0) hx hb dX8_liars_2 (by decide) ?_
  refine lv_istore (lv' := [(4, .int 0), (3, .int 0), (0, .ref q_tellers), (1, .int 0), (2, .int x2)]) hx hb dX8_liars_3 hl (by decide) rfl (fun ls hl => ?_)
  refine lv_iload hx hb dX8_liars_5 (lv_at hl 0 rfl) ?_
  refine lv_aload_n hx hb dX8_liars_7 rfl (lv_at hl 2 rfl) ?_
  refine q_get (v := .ref q_sound) C inX8 hK hP 0 rfl rfl 0 (by decide) rfl L27 rfl dX8_liars_8 ?_
  refine q_getN (v := .int 0) C hN inX5 hK hP 1 rfl rfl 6 (by decide) rfl nwF_X8_39 rfl dX8_liars_11 ?_
  refine lv_icmp_ge (tgt := 125) hx hb dX8_liars_14 (by decide) (fun _ => ?_) (fun h => absurd (by decide +kernel) h)
  refine lv_iload_n hx hb dX8_liars_125 rfl (lv_at hl 1 rfl) ?_
  exact q_iret C hr hlocks hK hP hD hS (Nat.le_of_ble_eq_true rfl) (Nat.le_of_ble_eq_true rfl) dX8_liars_126 (⟨rfl, rfl⟩)

set_option maxHeartbeats 4000000 in
set_option maxRecDepth 100000 in
theorem k_X8_waveToAsk (l : Launch) (dC : Nat → ClassId) (dI : Nat → Nat → Nat) (cB cI cJ cZ cS : ClassId) (q_sound : Nat) (q_tellers : Nat) (u_tellers_1 : Value) (u_tellers_2 : Value) (u_tellers_3 : Value) (u_tellers_4 : Value) (u_tellers_5 : Value) (u_tellers_6 : Value) (u_tellers_7 : Value) (u_sound_0 : Value) (u_sound_1 : Value) (u_sound_2 : Value) (u_sound_3 : Value) (u_sound_4 : Value) (u_sound_5 : Value) (u_sound_7 : Value) (u_sound_8 : Value) (u_sound_9 : Value) (x1 : Int32) : CI l yX8_waveToAsk wsX8_waveToAsk ({ frames := 0, cells := 0, slots := 0, locals := 0 }) (dC, dI) (tysA cB cI cJ cZ cS) [(q_tellers, .inr (8, [.ref q_sound, u_tellers_1, u_tellers_2, u_tellers_3, u_tellers_4, u_tellers_5, u_tellers_6, u_tellers_7])), (q_sound, .inr (5, [u_sound_0, u_sound_1, u_sound_2, u_sound_3, u_sound_4, u_sound_5, .int 0, u_sound_7, u_sound_8, u_sound_9]))] [.ref q_tellers, .int x1] (fun r w => w = [(q_tellers, .inr (8, [.ref q_sound, u_tellers_1, u_tellers_2, u_tellers_3, u_tellers_4, u_tellers_5, u_tellers_6, u_tellers_7])), (q_sound, .inr (5, [u_sound_0, u_sound_1, u_sound_2, u_sound_3, u_sound_4, u_sound_5, .int 0, u_sound_7, u_sound_8, u_sound_9]))] ∧ r = (-2)) := by
  refine open_I (cc := cX8_waveToAsk) (maxL := 7) (ret := (some .int)) (by decide) rfl (Nat.le_of_ble_eq_true rfl) ?_
  intro p e s m below meth c A ls E
  obtain ⟨C, hr, hlocks, hnm, hA, hP, hK, hD, hN, hl⟩ := E
  obtain ⟨hx, hb, hml, hown, hts⟩ := id C
  have hS : va_S A s.heap s.heap [] := va_S.rf
  have hl : lv_has ls 7 [(0, .ref q_tellers), (1, .int x1)] := hl
  have inX5 : ∀ w ∈ u_ws RX5 TX5 10, w ∈ wsX8_waveToAsk := by decide +kernel
  have inX8 : ∀ w ∈ u_ws RX8 TX8 8, w ∈ wsX8_waveToAsk := by decide +kernel
  have L27 : Cond.fieldLink RX8 27 "GuessFerry$Tellers" "sound" "LGuessFerry$Sound;" ∈ wsX8_waveToAsk := by decide +kernel
  refine lv_bipush (v := (-2)) hx hb dX8_waveToAsk_0 (by decide) ?_
  refine lv_istore_n (lv' := [(2, .int (-2)), (0, .ref q_tellers), (1, .int x1)]) hx hb dX8_waveToAsk_2 rfl hl (by decide) rfl (fun ls hl => ?_)
  refine lv_iconst (v := 0) hx hb dX8_waveToAsk_3 (by decide) ?_
  refine lv_istore_n (lv' := [(3, .int 0), (2, .int (-2)), (0, .ref q_tellers), (1, .int x1)]) hx hb dX8_waveToAsk_4 rfl hl (by decide) rfl (fun ls hl => ?_)
  refine lv_iconst (v := 0) hx hb dX8_waveToAsk_5 (by decide) ?_
  refine lv_istore (lv' := [(4, .int 0), (3, .int 0), (2, .int (-2)), (0, .ref q_tellers), (1, .int x1)]) hx hb dX8_waveToAsk_6 hl (by decide) rfl (fun ls hl => ?_)
  refine lv_iload hx hb dX8_waveToAsk_8 (lv_at hl 0 rfl) ?_
  refine lv_aload_n hx hb dX8_waveToAsk_10 rfl (lv_at hl 3 rfl) ?_
  refine q_get (v := .ref q_sound) C inX8 hK hP 0 rfl rfl 0 (by decide) rfl L27 rfl dX8_waveToAsk_11 ?_
  refine q_getN (v := .int 0) C hN inX5 hK hP 1 rfl rfl 6 (by decide) rfl nwF_X8_39 rfl dX8_waveToAsk_14 ?_
  refine lv_icmp_ge (tgt := 91) hx hb dX8_waveToAsk_17 (by decide) (fun _ => ?_) (fun h => absurd (by decide +kernel) h)
  refine lv_iload_n hx hb dX8_waveToAsk_91 rfl (lv_at hl 2 rfl) ?_
  exact q_iret C hr hlocks hK hP hD hS (Nat.le_of_ble_eq_true rfl) (Nat.le_of_ble_eq_true rfl) dX8_waveToAsk_92 (⟨rfl, rfl⟩)

set_option maxHeartbeats 4000000 in
set_option maxRecDepth 100000 in
theorem k_X10_fit (l : Launch) (dC : Nat → ClassId) (dI : Nat → Nat → Nat) (cB cI cJ cZ cS : ClassId) (q_G : Nat) (q_sound : Nat) (q_now : Nat) (q_tellers : Nat) (q_byLies : Nat) (u_G_0 : Value) (u_G_1 : Value) (u_G_2 : Value) (u_G_4 : Value) (u_G_5 : Value) (u_G_6 : Value) (u_G_7 : Value) (u_tellers_1 : Value) (u_tellers_2 : Value) (u_tellers_3 : Value) (u_tellers_4 : Value) (u_tellers_5 : Value) (u_sound_0 : Value) (u_sound_1 : Value) (u_sound_2 : Value) (u_sound_3 : Value) (u_sound_4 : Value) (u_sound_5 : Value) (u_sound_7 : Value) (u_sound_8 : Value) (u_sound_9 : Value) (f_byLies : Nat → Int32) (x1 : Int32) (x2 : Int32) (x3 : Int32) : CI l yX10_fit wsX10_fit ({ frames := 3, cells := 0, slots := 0, locals := 69 }) (dC, dI) (tysA cB cI cJ cZ cS) [(q_G, .inr (10, [u_G_0, u_G_1, u_G_2, .ref q_now, u_G_4, u_G_5, u_G_6, u_G_7, .ref q_tellers])), (q_tellers, .inr (8, [.ref q_sound, u_tellers_1, u_tellers_2, u_tellers_3, u_tellers_4, u_tellers_5, .ref q_byLies, .int 0])), (q_sound, .inr (5, [u_sound_0, u_sound_1, u_sound_2, u_sound_3, u_sound_4, u_sound_5, .int 0, u_sound_7, u_sound_8, u_sound_9])), (q_byLies, .inl (cI, 4, .inl f_byLies))] [.ref q_G, .int x1, .int x2, .int x3] (fun r _ => r = (fr_fit x1 x2 x3)) := by
  refine open_I (cc := cX10_fit) (maxL := 4) (ret := (some .int)) (by decide) rfl (Nat.le_of_ble_eq_true rfl) ?_
  intro p e s m below meth c A ls E
  obtain ⟨C, hr, hlocks, hnm, hA, hP, hK, hD, hN, hl⟩ := E
  obtain ⟨hx, hb, hml, hown, hts⟩ := id C
  have hS : va_S A s.heap s.heap [] := va_S.rf
  have hl : lv_has ls 4 [(0, .ref q_G), (1, .int x1), (2, .int x2), (3, .int x3)] := hl
  have inX10 : ∀ w ∈ u_ws RX10 TX10 9, w ∈ wsX10_fit := by decide +kernel
  have E_X8_areSuch : Cond.selects RX8 yX8_areSuch yX8_areSuch ∈ wsX10_fit := by decide +kernel
  have E_X8_believe : Cond.selects RX8 yX8_believe yX8_believe ∈ wsX10_fit := by decide +kernel
  have E_X8_fitting : Cond.selects RX8 yX8_fitting yX8_fitting ∈ wsX10_fit := by decide +kernel
  have I_X8 : Cond.initialized RX8 ∈ wsX10_fit := by decide +kernel
  have L35 : Cond.fieldLink RX10 35 "GuessFerry" "now" "LGuessFerry$Standing;" ∈ wsX10_fit := by decide +kernel
  have L70 : Cond.fieldLink RX10 70 "GuessFerry" "tellers" "LGuessFerry$Tellers;" ∈ wsX10_fit := by decide +kernel
  have N_X8_areSuch : Cond.instanceMethod yX8_areSuch ∈ wsX10_fit := by decide +kernel
  have N_X8_believe : Cond.instanceMethod yX8_believe ∈ wsX10_fit := by decide +kernel
  have N_X8_fitting : Cond.instanceMethod yX8_fitting ∈ wsX10_fit := by decide +kernel
  refine lv_aload_n hx hb dX10_fit_0 rfl (lv_at hl 0 rfl) ?_
  refine q_get (v := .ref q_tellers) C inX10 hK hP 0 rfl rfl 8 (by decide) rfl L70 rfl dX10_fit_1 ?_
  refine lv_iload_n hx hb dX10_fit_4 rfl (lv_at hl 1 rfl) ?_
  refine lv_iload_n hx hb dX10_fit_5 rfl (lv_at hl 2 rfl) ?_
  refine q_goi (wr := [(q_G, .inr (10, [u_G_0, u_G_1, u_G_2, .ref q_now, u_G_4, u_G_5, u_G_6, u_G_7, .ref q_tellers])), (q_sound, .inr (5, [u_sound_0, u_sound_1, u_sound_2, u_sound_3, u_sound_4, u_sound_5, .int 0, u_sound_7, u_sound_8, u_sound_9])), (q_byLies, .inl (cI, 4, .inl f_byLies))]) (va_runVN (As := [.int x1, .int x2]) (rest := []) C (k_X8_areSuch l dC dI cB cI cJ cZ cS (q_tellers) (.ref q_sound) (u_tellers_1) (u_tellers_2) (u_tellers_3) (u_tellers_4) (u_tellers_5) (.ref q_byLies) x1 x2 _) ⟨va_cnB 2 hts gX10_fit_X8_areSuch_n266 rfl rfl rfl (hN _ nwM_X10_266 rfl) (hts _ I_X8) (by decide +kernel) ⟨Nat.le_of_ble_eq_true rfl, Nat.le_of_ble_eq_true rfl⟩, hts _ N_X8_areSuch, hts _ E_X8_areSuch⟩ (q_preV hK hP (ci := 8) (q0 := 1) rfl rfl rfl (q_pre hN hK hP hD [1] rfl (by decide))) rfl rfl hl.1 rfl (lv_room (Nat.le_of_ble_eq_true rfl)) dX10_fit_6 ⟨Nat.le_of_ble_eq_true rfl, Nat.le_of_ble_eq_true rfl⟩) hP hD hS hA [1] [0, 2, 3] rfl rfl (by decide) (by decide) (fun r w1 H locs hw hP hD hS => ?_)
  obtain ⟨rfl, rfl⟩ := hw
  have hP : va_P (dC, dI) vwCl [(q_G, .inr (10, [u_G_0, u_G_1, u_G_2, .ref q_now, u_G_4, u_G_5, u_G_6, u_G_7, .ref q_tellers])), (q_tellers, .inr (8, [.ref q_sound, u_tellers_1, u_tellers_2, u_tellers_3, u_tellers_4, u_tellers_5, .ref q_byLies, .int 0])), (q_sound, .inr (5, [u_sound_0, u_sound_1, u_sound_2, u_sound_3, u_sound_4, u_sound_5, .int 0, u_sound_7, u_sound_8, u_sound_9])), (q_byLies, .inl (cI, 4, .inl f_byLies))] H := hP.sub [0, 3, 1, 2] rfl
  have hD : va_D A [(q_G, .inr (10, [u_G_0, u_G_1, u_G_2, .ref q_now, u_G_4, u_G_5, u_G_6, u_G_7, .ref q_tellers])), (q_tellers, .inr (8, [.ref q_sound, u_tellers_1, u_tellers_2, u_tellers_3, u_tellers_4, u_tellers_5, .ref q_byLies, .int 0])), (q_sound, .inr (5, [u_sound_0, u_sound_1, u_sound_2, u_sound_3, u_sound_4, u_sound_5, .int 0, u_sound_7, u_sound_8, u_sound_9])), (q_byLies, .inl (cI, 4, .inl f_byLies))] := hD.sub [0, 3, 1, 2] (by decide) rfl
  refine lv_if_eq (tgt := 21) hx hb dX10_fit_9 (by decide) (fun c1 => ?_) (fun c1 => ?_)
  · skip
    refine lv_iconst (v := (-1)) hx hb dX10_fit_21 (by decide) ?_
    exact q_iret C hr hlocks hK hP hD hS (Nat.le_of_ble_eq_true rfl) (Nat.le_of_ble_eq_true rfl) dX10_fit_22 (by unfold fr_fit; rw [if_pos c1])
  · skip
    have hl4 := sp_ask_l4 c1
    obtain rfl : x1 = 0 := sp_ask_k c1
    obtain rfl | rfl | rfl | rfl := hl4
    · skip
      refine lv_iload_n hx hb dX10_fit_12 rfl (lv_at hl 3 rfl) ?_
      refine lv_if_lt (tgt := 21) hx hb dX10_fit_13 (by decide) (fun c2 => ?_) (fun c2 => ?_)
      · skip
        refine lv_iconst (v := (-1)) hx hb dX10_fit_21 (by decide) ?_
        exact q_iret C hr hlocks hK hP hD hS (Nat.le_of_ble_eq_true rfl) (Nat.le_of_ble_eq_true rfl) dX10_fit_22 (fr_fit_a c2)
      · skip
        refine lv_iload_n hx hb dX10_fit_16 rfl (lv_at hl 3 rfl) ?_
        refine lv_iconst (v := 1) hx hb dX10_fit_17 (by decide) ?_
        refine lv_icmp_le (tgt := 23) hx hb dX10_fit_18 (by decide) (fun c3 => ?_) (fun c3 => ?_)
        · skip
          obtain rfl | rfl := i32_2c c2 c3
          · skip
            refine lv_aload_n hx hb dX10_fit_23 rfl (lv_at hl 0 rfl) ?_
            refine q_get (v := .ref q_tellers) C inX10 hK hP 0 rfl rfl 8 (by decide) rfl L70 rfl dX10_fit_24 ?_
            refine lv_aload_n hx hb dX10_fit_27 rfl (lv_at hl 0 rfl) ?_
            refine q_get (v := .ref q_now) C inX10 hK hP 0 rfl rfl 3 (by decide) rfl L35 rfl dX10_fit_28 ?_
            refine lv_iload_n hx hb dX10_fit_31 rfl (lv_at hl 1 rfl) ?_
            refine q_gov (wr := [(q_G, .inr (10, [u_G_0, u_G_1, u_G_2, .ref q_now, u_G_4, u_G_5, u_G_6, u_G_7, .ref q_tellers])), (q_byLies, .inl (cI, 4, .inl f_byLies))]) (va_runVN (As := [.ref q_now, .int 0]) (rest := []) C (k_X8_believe l dC dI cB cI cJ cZ cS (q_sound) (q_now) (q_tellers) (u_tellers_1) (u_tellers_2) (u_tellers_3) (u_tellers_4) (u_tellers_5) (.ref q_byLies) (.int 0) (u_sound_0) (u_sound_1) (u_sound_2) (u_sound_3) (u_sound_4) (u_sound_5) (u_sound_7) (u_sound_8) (u_sound_9) _) ⟨va_cnB 2 hts gX10_fit_X8_believe_n269 rfl rfl rfl (hN _ nwM_X10_269 rfl) (hts _ I_X8) (by decide +kernel) ⟨Nat.le_of_ble_eq_true rfl, Nat.le_of_ble_eq_true rfl⟩, hts _ N_X8_believe, hts _ E_X8_believe⟩ (q_preV hK hP (ci := 8) (q0 := 1) rfl rfl rfl (q_pre hN hK hP hD [1, 2] rfl (by decide))) rfl rfl hl.1 rfl (lv_room (Nat.le_of_ble_eq_true rfl)) dX10_fit_32 ⟨Nat.le_of_ble_eq_true rfl, Nat.le_of_ble_eq_true rfl⟩) hP hD hS hA [1, 2] [0, 3] rfl rfl (by decide) (by decide) (fun w1 H locs hw hP hD hS => ?_)
            obtain rfl := hw
            have hP : va_P (dC, dI) vwCl [(q_G, .inr (10, [u_G_0, u_G_1, u_G_2, .ref q_now, u_G_4, u_G_5, u_G_6, u_G_7, .ref q_tellers])), (q_tellers, .inr (8, [.ref q_sound, u_tellers_1, u_tellers_2, u_tellers_3, u_tellers_4, u_tellers_5, .ref q_byLies, .int 0])), (q_sound, .inr (5, [u_sound_0, u_sound_1, u_sound_2, u_sound_3, u_sound_4, u_sound_5, .int 0, u_sound_7, u_sound_8, u_sound_9])), (q_byLies, .inl (cI, 4, .inl f_byLies))] H := hP.sub [0, 2, 3, 1] rfl
            have hD : va_D A [(q_G, .inr (10, [u_G_0, u_G_1, u_G_2, .ref q_now, u_G_4, u_G_5, u_G_6, u_G_7, .ref q_tellers])), (q_tellers, .inr (8, [.ref q_sound, u_tellers_1, u_tellers_2, u_tellers_3, u_tellers_4, u_tellers_5, .ref q_byLies, .int 0])), (q_sound, .inr (5, [u_sound_0, u_sound_1, u_sound_2, u_sound_3, u_sound_4, u_sound_5, .int 0, u_sound_7, u_sound_8, u_sound_9])), (q_byLies, .inl (cI, 4, .inl f_byLies))] := hD.sub [0, 2, 3, 1] (by decide) rfl
            refine lv_aload_n hx hb dX10_fit_35 rfl (lv_at hl 0 rfl) ?_
            refine q_get (v := .ref q_tellers) C inX10 hK hP 0 rfl rfl 8 (by decide) rfl L70 rfl dX10_fit_36 ?_
            refine lv_iload_n hx hb dX10_fit_39 rfl (lv_at hl 2 rfl) ?_
            refine lv_iload_n hx hb dX10_fit_40 rfl (lv_at hl 3 rfl) ?_
            refine lv_iconst (v := 1) hx hb dX10_fit_41 (by decide) ?_
            refine lv_icmp_ne (tgt := 49) hx hb dX10_fit_42 (by decide) (fun _ => ?_) (fun h => absurd h (by decide +kernel))
            refine lv_iconst (v := 0) hx hb dX10_fit_49 (by decide) ?_
            refine q_goi (wr := [(q_G, .inr (10, [u_G_0, u_G_1, u_G_2, .ref q_now, u_G_4, u_G_5, u_G_6, u_G_7, .ref q_tellers]))]) (va_runVN (As := [.int 0, .int 0]) (rest := []) C (k_fitting0 l dC dI cB cI cJ cZ cS (q_sound) (q_tellers) (q_byLies) (u_tellers_1) (u_tellers_2) (u_tellers_3) (u_tellers_4) (u_tellers_5) (.int 0) (f_byLies) (u_sound_0) (u_sound_1) (u_sound_2) (u_sound_3) (u_sound_4) (u_sound_5) (u_sound_7) (u_sound_8) (u_sound_9) 0 _) ⟨va_cnB 2 hts gX10_fit_X8_fitting_n272 rfl rfl rfl (hN _ nwM_X10_272 rfl) (hts _ I_X8) (by decide +kernel) ⟨Nat.le_of_ble_eq_true rfl, Nat.le_of_ble_eq_true rfl⟩, hts _ N_X8_fitting, hts _ E_X8_fitting⟩ (q_preV hK hP (ci := 8) (q0 := 1) rfl rfl rfl (q_pre hN hK hP hD [1, 3, 2] rfl (by decide))) rfl rfl hl.1 rfl (lv_room (Nat.le_of_ble_eq_true rfl)) dX10_fit_50 ⟨Nat.le_of_ble_eq_true rfl, Nat.le_of_ble_eq_true rfl⟩) hP hD hS hA [1, 3, 2] [0] rfl rfl (by decide) (by decide) (fun r w1 H locs hw hP hD hS => ?_)
            obtain ⟨φf4, hφf5, rfl, rfl⟩ := hw
            have hP : va_P (dC, dI) vwCl [(q_G, .inr (10, [u_G_0, u_G_1, u_G_2, .ref q_now, u_G_4, u_G_5, u_G_6, u_G_7, .ref q_tellers])), (q_tellers, .inr (8, [.ref q_sound, u_tellers_1, u_tellers_2, u_tellers_3, u_tellers_4, u_tellers_5, .ref q_byLies, .int 0])), (q_sound, .inr (5, [u_sound_0, u_sound_1, u_sound_2, u_sound_3, u_sound_4, u_sound_5, .int 0, u_sound_7, u_sound_8, u_sound_9])), (q_byLies, .inl (cI, 4, .inl (upd φf4 0 1)))] H := hP.sub [0, 1, 3, 2] rfl
            have hD : va_D A [(q_G, .inr (10, [u_G_0, u_G_1, u_G_2, .ref q_now, u_G_4, u_G_5, u_G_6, u_G_7, .ref q_tellers])), (q_tellers, .inr (8, [.ref q_sound, u_tellers_1, u_tellers_2, u_tellers_3, u_tellers_4, u_tellers_5, .ref q_byLies, .int 0])), (q_sound, .inr (5, [u_sound_0, u_sound_1, u_sound_2, u_sound_3, u_sound_4, u_sound_5, .int 0, u_sound_7, u_sound_8, u_sound_9])), (q_byLies, .inl (cI, 4, .inl (upd φf4 0 1)))] := hD.sub [0, 1, 3, 2] (by decide) rfl
            exact q_iret C hr hlocks hK hP hD hS (Nat.le_of_ble_eq_true rfl) (Nat.le_of_ble_eq_true rfl) dX10_fit_53 (by decide +kernel)
          · skip
            refine lv_aload_n hx hb dX10_fit_23 rfl (lv_at hl 0 rfl) ?_
            refine q_get (v := .ref q_tellers) C inX10 hK hP 0 rfl rfl 8 (by decide) rfl L70 rfl dX10_fit_24 ?_
            refine lv_aload_n hx hb dX10_fit_27 rfl (lv_at hl 0 rfl) ?_
            refine q_get (v := .ref q_now) C inX10 hK hP 0 rfl rfl 3 (by decide) rfl L35 rfl dX10_fit_28 ?_
            refine lv_iload_n hx hb dX10_fit_31 rfl (lv_at hl 1 rfl) ?_
            refine q_gov (wr := [(q_G, .inr (10, [u_G_0, u_G_1, u_G_2, .ref q_now, u_G_4, u_G_5, u_G_6, u_G_7, .ref q_tellers])), (q_byLies, .inl (cI, 4, .inl f_byLies))]) (va_runVN (As := [.ref q_now, .int 0]) (rest := []) C (k_X8_believe l dC dI cB cI cJ cZ cS (q_sound) (q_now) (q_tellers) (u_tellers_1) (u_tellers_2) (u_tellers_3) (u_tellers_4) (u_tellers_5) (.ref q_byLies) (.int 0) (u_sound_0) (u_sound_1) (u_sound_2) (u_sound_3) (u_sound_4) (u_sound_5) (u_sound_7) (u_sound_8) (u_sound_9) _) ⟨va_cnB 2 hts gX10_fit_X8_believe_n269 rfl rfl rfl (hN _ nwM_X10_269 rfl) (hts _ I_X8) (by decide +kernel) ⟨Nat.le_of_ble_eq_true rfl, Nat.le_of_ble_eq_true rfl⟩, hts _ N_X8_believe, hts _ E_X8_believe⟩ (q_preV hK hP (ci := 8) (q0 := 1) rfl rfl rfl (q_pre hN hK hP hD [1, 2] rfl (by decide))) rfl rfl hl.1 rfl (lv_room (Nat.le_of_ble_eq_true rfl)) dX10_fit_32 ⟨Nat.le_of_ble_eq_true rfl, Nat.le_of_ble_eq_true rfl⟩) hP hD hS hA [1, 2] [0, 3] rfl rfl (by decide) (by decide) (fun w1 H locs hw hP hD hS => ?_)
            obtain rfl := hw
            have hP : va_P (dC, dI) vwCl [(q_G, .inr (10, [u_G_0, u_G_1, u_G_2, .ref q_now, u_G_4, u_G_5, u_G_6, u_G_7, .ref q_tellers])), (q_tellers, .inr (8, [.ref q_sound, u_tellers_1, u_tellers_2, u_tellers_3, u_tellers_4, u_tellers_5, .ref q_byLies, .int 0])), (q_sound, .inr (5, [u_sound_0, u_sound_1, u_sound_2, u_sound_3, u_sound_4, u_sound_5, .int 0, u_sound_7, u_sound_8, u_sound_9])), (q_byLies, .inl (cI, 4, .inl f_byLies))] H := hP.sub [0, 2, 3, 1] rfl
            have hD : va_D A [(q_G, .inr (10, [u_G_0, u_G_1, u_G_2, .ref q_now, u_G_4, u_G_5, u_G_6, u_G_7, .ref q_tellers])), (q_tellers, .inr (8, [.ref q_sound, u_tellers_1, u_tellers_2, u_tellers_3, u_tellers_4, u_tellers_5, .ref q_byLies, .int 0])), (q_sound, .inr (5, [u_sound_0, u_sound_1, u_sound_2, u_sound_3, u_sound_4, u_sound_5, .int 0, u_sound_7, u_sound_8, u_sound_9])), (q_byLies, .inl (cI, 4, .inl f_byLies))] := hD.sub [0, 2, 3, 1] (by decide) rfl
            refine lv_aload_n hx hb dX10_fit_35 rfl (lv_at hl 0 rfl) ?_
            refine q_get (v := .ref q_tellers) C inX10 hK hP 0 rfl rfl 8 (by decide) rfl L70 rfl dX10_fit_36 ?_
            refine lv_iload_n hx hb dX10_fit_39 rfl (lv_at hl 2 rfl) ?_
            refine lv_iload_n hx hb dX10_fit_40 rfl (lv_at hl 3 rfl) ?_
            refine lv_iconst (v := 1) hx hb dX10_fit_41 (by decide) ?_
            refine lv_icmp_ne (tgt := 49) hx hb dX10_fit_42 (by decide) (fun h => absurd (by decide +kernel) h) (fun _ => ?_)
            refine lv_iconst (v := 1) hx hb dX10_fit_45 (by decide) ?_
            refine lv_goto (tgt := 50) hx hb dX10_fit_46 (by decide) ?_
            refine q_goi (wr := [(q_G, .inr (10, [u_G_0, u_G_1, u_G_2, .ref q_now, u_G_4, u_G_5, u_G_6, u_G_7, .ref q_tellers]))]) (va_runVN (As := [.int 0, .int 1]) (rest := []) C (k_fitting0 l dC dI cB cI cJ cZ cS (q_sound) (q_tellers) (q_byLies) (u_tellers_1) (u_tellers_2) (u_tellers_3) (u_tellers_4) (u_tellers_5) (.int 0) (f_byLies) (u_sound_0) (u_sound_1) (u_sound_2) (u_sound_3) (u_sound_4) (u_sound_5) (u_sound_7) (u_sound_8) (u_sound_9) 1 _) ⟨va_cnB 2 hts gX10_fit_X8_fitting_n272 rfl rfl rfl (hN _ nwM_X10_272 rfl) (hts _ I_X8) (by decide +kernel) ⟨Nat.le_of_ble_eq_true rfl, Nat.le_of_ble_eq_true rfl⟩, hts _ N_X8_fitting, hts _ E_X8_fitting⟩ (q_preV hK hP (ci := 8) (q0 := 1) rfl rfl rfl (q_pre hN hK hP hD [1, 3, 2] rfl (by decide))) rfl rfl hl.1 rfl (lv_room (Nat.le_of_ble_eq_true rfl)) dX10_fit_50 ⟨Nat.le_of_ble_eq_true rfl, Nat.le_of_ble_eq_true rfl⟩) hP hD hS hA [1, 3, 2] [0] rfl rfl (by decide) (by decide) (fun r w1 H locs hw hP hD hS => ?_)
            obtain ⟨φf6, hφf7, rfl, rfl⟩ := hw
            have hP : va_P (dC, dI) vwCl [(q_G, .inr (10, [u_G_0, u_G_1, u_G_2, .ref q_now, u_G_4, u_G_5, u_G_6, u_G_7, .ref q_tellers])), (q_tellers, .inr (8, [.ref q_sound, u_tellers_1, u_tellers_2, u_tellers_3, u_tellers_4, u_tellers_5, .ref q_byLies, .int 0])), (q_sound, .inr (5, [u_sound_0, u_sound_1, u_sound_2, u_sound_3, u_sound_4, u_sound_5, .int 0, u_sound_7, u_sound_8, u_sound_9])), (q_byLies, .inl (cI, 4, .inl (upd φf6 0 1)))] H := hP.sub [0, 1, 3, 2] rfl
            have hD : va_D A [(q_G, .inr (10, [u_G_0, u_G_1, u_G_2, .ref q_now, u_G_4, u_G_5, u_G_6, u_G_7, .ref q_tellers])), (q_tellers, .inr (8, [.ref q_sound, u_tellers_1, u_tellers_2, u_tellers_3, u_tellers_4, u_tellers_5, .ref q_byLies, .int 0])), (q_sound, .inr (5, [u_sound_0, u_sound_1, u_sound_2, u_sound_3, u_sound_4, u_sound_5, .int 0, u_sound_7, u_sound_8, u_sound_9])), (q_byLies, .inl (cI, 4, .inl (upd φf6 0 1)))] := hD.sub [0, 1, 3, 2] (by decide) rfl
            exact q_iret C hr hlocks hK hP hD hS (Nat.le_of_ble_eq_true rfl) (Nat.le_of_ble_eq_true rfl) dX10_fit_53 (by decide +kernel)
        · skip
          refine lv_iconst (v := (-1)) hx hb dX10_fit_21 (by decide) ?_
          exact q_iret C hr hlocks hK hP hD hS (Nat.le_of_ble_eq_true rfl) (Nat.le_of_ble_eq_true rfl) dX10_fit_22 (fr_fit_b c3)
    · skip
      refine lv_iload_n hx hb dX10_fit_12 rfl (lv_at hl 3 rfl) ?_
      refine lv_if_lt (tgt := 21) hx hb dX10_fit_13 (by decide) (fun c8 => ?_) (fun c8 => ?_)
      · skip
        refine lv_iconst (v := (-1)) hx hb dX10_fit_21 (by decide) ?_
        exact q_iret C hr hlocks hK hP hD hS (Nat.le_of_ble_eq_true rfl) (Nat.le_of_ble_eq_true rfl) dX10_fit_22 (fr_fit_a c8)
      · skip
        refine lv_iload_n hx hb dX10_fit_16 rfl (lv_at hl 3 rfl) ?_
        refine lv_iconst (v := 1) hx hb dX10_fit_17 (by decide) ?_
        refine lv_icmp_le (tgt := 23) hx hb dX10_fit_18 (by decide) (fun c9 => ?_) (fun c9 => ?_)
        · skip
          obtain rfl | rfl := i32_2c c8 c9
          · skip
            refine lv_aload_n hx hb dX10_fit_23 rfl (lv_at hl 0 rfl) ?_
            refine q_get (v := .ref q_tellers) C inX10 hK hP 0 rfl rfl 8 (by decide) rfl L70 rfl dX10_fit_24 ?_
            refine lv_aload_n hx hb dX10_fit_27 rfl (lv_at hl 0 rfl) ?_
            refine q_get (v := .ref q_now) C inX10 hK hP 0 rfl rfl 3 (by decide) rfl L35 rfl dX10_fit_28 ?_
            refine lv_iload_n hx hb dX10_fit_31 rfl (lv_at hl 1 rfl) ?_
            refine q_gov (wr := [(q_G, .inr (10, [u_G_0, u_G_1, u_G_2, .ref q_now, u_G_4, u_G_5, u_G_6, u_G_7, .ref q_tellers])), (q_byLies, .inl (cI, 4, .inl f_byLies))]) (va_runVN (As := [.ref q_now, .int 0]) (rest := []) C (k_X8_believe l dC dI cB cI cJ cZ cS (q_sound) (q_now) (q_tellers) (u_tellers_1) (u_tellers_2) (u_tellers_3) (u_tellers_4) (u_tellers_5) (.ref q_byLies) (.int 0) (u_sound_0) (u_sound_1) (u_sound_2) (u_sound_3) (u_sound_4) (u_sound_5) (u_sound_7) (u_sound_8) (u_sound_9) _) ⟨va_cnB 2 hts gX10_fit_X8_believe_n269 rfl rfl rfl (hN _ nwM_X10_269 rfl) (hts _ I_X8) (by decide +kernel) ⟨Nat.le_of_ble_eq_true rfl, Nat.le_of_ble_eq_true rfl⟩, hts _ N_X8_believe, hts _ E_X8_believe⟩ (q_preV hK hP (ci := 8) (q0 := 1) rfl rfl rfl (q_pre hN hK hP hD [1, 2] rfl (by decide))) rfl rfl hl.1 rfl (lv_room (Nat.le_of_ble_eq_true rfl)) dX10_fit_32 ⟨Nat.le_of_ble_eq_true rfl, Nat.le_of_ble_eq_true rfl⟩) hP hD hS hA [1, 2] [0, 3] rfl rfl (by decide) (by decide) (fun w1 H locs hw hP hD hS => ?_)
            obtain rfl := hw
            have hP : va_P (dC, dI) vwCl [(q_G, .inr (10, [u_G_0, u_G_1, u_G_2, .ref q_now, u_G_4, u_G_5, u_G_6, u_G_7, .ref q_tellers])), (q_tellers, .inr (8, [.ref q_sound, u_tellers_1, u_tellers_2, u_tellers_3, u_tellers_4, u_tellers_5, .ref q_byLies, .int 0])), (q_sound, .inr (5, [u_sound_0, u_sound_1, u_sound_2, u_sound_3, u_sound_4, u_sound_5, .int 0, u_sound_7, u_sound_8, u_sound_9])), (q_byLies, .inl (cI, 4, .inl f_byLies))] H := hP.sub [0, 2, 3, 1] rfl
            have hD : va_D A [(q_G, .inr (10, [u_G_0, u_G_1, u_G_2, .ref q_now, u_G_4, u_G_5, u_G_6, u_G_7, .ref q_tellers])), (q_tellers, .inr (8, [.ref q_sound, u_tellers_1, u_tellers_2, u_tellers_3, u_tellers_4, u_tellers_5, .ref q_byLies, .int 0])), (q_sound, .inr (5, [u_sound_0, u_sound_1, u_sound_2, u_sound_3, u_sound_4, u_sound_5, .int 0, u_sound_7, u_sound_8, u_sound_9])), (q_byLies, .inl (cI, 4, .inl f_byLies))] := hD.sub [0, 2, 3, 1] (by decide) rfl
            refine lv_aload_n hx hb dX10_fit_35 rfl (lv_at hl 0 rfl) ?_
            refine q_get (v := .ref q_tellers) C inX10 hK hP 0 rfl rfl 8 (by decide) rfl L70 rfl dX10_fit_36 ?_
            refine lv_iload_n hx hb dX10_fit_39 rfl (lv_at hl 2 rfl) ?_
            refine lv_iload_n hx hb dX10_fit_40 rfl (lv_at hl 3 rfl) ?_
            refine lv_iconst (v := 1) hx hb dX10_fit_41 (by decide) ?_
            refine lv_icmp_ne (tgt := 49) hx hb dX10_fit_42 (by decide) (fun _ => ?_) (fun h => absurd h (by decide +kernel))
            refine lv_iconst (v := 0) hx hb dX10_fit_49 (by decide) ?_
            refine q_goi (wr := [(q_G, .inr (10, [u_G_0, u_G_1, u_G_2, .ref q_now, u_G_4, u_G_5, u_G_6, u_G_7, .ref q_tellers]))]) (va_runVN (As := [.int 1, .int 0]) (rest := []) C (k_fitting1 l dC dI cB cI cJ cZ cS (q_sound) (q_tellers) (q_byLies) (u_tellers_1) (u_tellers_2) (u_tellers_3) (u_tellers_4) (u_tellers_5) (.int 0) (f_byLies) (u_sound_0) (u_sound_1) (u_sound_2) (u_sound_3) (u_sound_4) (u_sound_5) (u_sound_7) (u_sound_8) (u_sound_9) 0 _) ⟨va_cnB 2 hts gX10_fit_X8_fitting_n272 rfl rfl rfl (hN _ nwM_X10_272 rfl) (hts _ I_X8) (by decide +kernel) ⟨Nat.le_of_ble_eq_true rfl, Nat.le_of_ble_eq_true rfl⟩, hts _ N_X8_fitting, hts _ E_X8_fitting⟩ (q_preV hK hP (ci := 8) (q0 := 1) rfl rfl rfl (q_pre hN hK hP hD [1, 3, 2] rfl (by decide))) rfl rfl hl.1 rfl (lv_room (Nat.le_of_ble_eq_true rfl)) dX10_fit_50 ⟨Nat.le_of_ble_eq_true rfl, Nat.le_of_ble_eq_true rfl⟩) hP hD hS hA [1, 3, 2] [0] rfl rfl (by decide) (by decide) (fun r w1 H locs hw hP hD hS => ?_)
            obtain ⟨φf10, hφf11, rfl, rfl⟩ := hw
            have hP : va_P (dC, dI) vwCl [(q_G, .inr (10, [u_G_0, u_G_1, u_G_2, .ref q_now, u_G_4, u_G_5, u_G_6, u_G_7, .ref q_tellers])), (q_tellers, .inr (8, [.ref q_sound, u_tellers_1, u_tellers_2, u_tellers_3, u_tellers_4, u_tellers_5, .ref q_byLies, .int 0])), (q_sound, .inr (5, [u_sound_0, u_sound_1, u_sound_2, u_sound_3, u_sound_4, u_sound_5, .int 0, u_sound_7, u_sound_8, u_sound_9])), (q_byLies, .inl (cI, 4, .inl (upd φf10 0 1)))] H := hP.sub [0, 1, 3, 2] rfl
            have hD : va_D A [(q_G, .inr (10, [u_G_0, u_G_1, u_G_2, .ref q_now, u_G_4, u_G_5, u_G_6, u_G_7, .ref q_tellers])), (q_tellers, .inr (8, [.ref q_sound, u_tellers_1, u_tellers_2, u_tellers_3, u_tellers_4, u_tellers_5, .ref q_byLies, .int 0])), (q_sound, .inr (5, [u_sound_0, u_sound_1, u_sound_2, u_sound_3, u_sound_4, u_sound_5, .int 0, u_sound_7, u_sound_8, u_sound_9])), (q_byLies, .inl (cI, 4, .inl (upd φf10 0 1)))] := hD.sub [0, 1, 3, 2] (by decide) rfl
            exact q_iret C hr hlocks hK hP hD hS (Nat.le_of_ble_eq_true rfl) (Nat.le_of_ble_eq_true rfl) dX10_fit_53 (by decide +kernel)
          · skip
            refine lv_aload_n hx hb dX10_fit_23 rfl (lv_at hl 0 rfl) ?_
            refine q_get (v := .ref q_tellers) C inX10 hK hP 0 rfl rfl 8 (by decide) rfl L70 rfl dX10_fit_24 ?_
            refine lv_aload_n hx hb dX10_fit_27 rfl (lv_at hl 0 rfl) ?_
            refine q_get (v := .ref q_now) C inX10 hK hP 0 rfl rfl 3 (by decide) rfl L35 rfl dX10_fit_28 ?_
            refine lv_iload_n hx hb dX10_fit_31 rfl (lv_at hl 1 rfl) ?_
            refine q_gov (wr := [(q_G, .inr (10, [u_G_0, u_G_1, u_G_2, .ref q_now, u_G_4, u_G_5, u_G_6, u_G_7, .ref q_tellers])), (q_byLies, .inl (cI, 4, .inl f_byLies))]) (va_runVN (As := [.ref q_now, .int 0]) (rest := []) C (k_X8_believe l dC dI cB cI cJ cZ cS (q_sound) (q_now) (q_tellers) (u_tellers_1) (u_tellers_2) (u_tellers_3) (u_tellers_4) (u_tellers_5) (.ref q_byLies) (.int 0) (u_sound_0) (u_sound_1) (u_sound_2) (u_sound_3) (u_sound_4) (u_sound_5) (u_sound_7) (u_sound_8) (u_sound_9) _) ⟨va_cnB 2 hts gX10_fit_X8_believe_n269 rfl rfl rfl (hN _ nwM_X10_269 rfl) (hts _ I_X8) (by decide +kernel) ⟨Nat.le_of_ble_eq_true rfl, Nat.le_of_ble_eq_true rfl⟩, hts _ N_X8_believe, hts _ E_X8_believe⟩ (q_preV hK hP (ci := 8) (q0 := 1) rfl rfl rfl (q_pre hN hK hP hD [1, 2] rfl (by decide))) rfl rfl hl.1 rfl (lv_room (Nat.le_of_ble_eq_true rfl)) dX10_fit_32 ⟨Nat.le_of_ble_eq_true rfl, Nat.le_of_ble_eq_true rfl⟩) hP hD hS hA [1, 2] [0, 3] rfl rfl (by decide) (by decide) (fun w1 H locs hw hP hD hS => ?_)
            obtain rfl := hw
            have hP : va_P (dC, dI) vwCl [(q_G, .inr (10, [u_G_0, u_G_1, u_G_2, .ref q_now, u_G_4, u_G_5, u_G_6, u_G_7, .ref q_tellers])), (q_tellers, .inr (8, [.ref q_sound, u_tellers_1, u_tellers_2, u_tellers_3, u_tellers_4, u_tellers_5, .ref q_byLies, .int 0])), (q_sound, .inr (5, [u_sound_0, u_sound_1, u_sound_2, u_sound_3, u_sound_4, u_sound_5, .int 0, u_sound_7, u_sound_8, u_sound_9])), (q_byLies, .inl (cI, 4, .inl f_byLies))] H := hP.sub [0, 2, 3, 1] rfl
            have hD : va_D A [(q_G, .inr (10, [u_G_0, u_G_1, u_G_2, .ref q_now, u_G_4, u_G_5, u_G_6, u_G_7, .ref q_tellers])), (q_tellers, .inr (8, [.ref q_sound, u_tellers_1, u_tellers_2, u_tellers_3, u_tellers_4, u_tellers_5, .ref q_byLies, .int 0])), (q_sound, .inr (5, [u_sound_0, u_sound_1, u_sound_2, u_sound_3, u_sound_4, u_sound_5, .int 0, u_sound_7, u_sound_8, u_sound_9])), (q_byLies, .inl (cI, 4, .inl f_byLies))] := hD.sub [0, 2, 3, 1] (by decide) rfl
            refine lv_aload_n hx hb dX10_fit_35 rfl (lv_at hl 0 rfl) ?_
            refine q_get (v := .ref q_tellers) C inX10 hK hP 0 rfl rfl 8 (by decide) rfl L70 rfl dX10_fit_36 ?_
            refine lv_iload_n hx hb dX10_fit_39 rfl (lv_at hl 2 rfl) ?_
            refine lv_iload_n hx hb dX10_fit_40 rfl (lv_at hl 3 rfl) ?_
            refine lv_iconst (v := 1) hx hb dX10_fit_41 (by decide) ?_
            refine lv_icmp_ne (tgt := 49) hx hb dX10_fit_42 (by decide) (fun h => absurd (by decide +kernel) h) (fun _ => ?_)
            refine lv_iconst (v := 1) hx hb dX10_fit_45 (by decide) ?_
            refine lv_goto (tgt := 50) hx hb dX10_fit_46 (by decide) ?_
            refine q_goi (wr := [(q_G, .inr (10, [u_G_0, u_G_1, u_G_2, .ref q_now, u_G_4, u_G_5, u_G_6, u_G_7, .ref q_tellers]))]) (va_runVN (As := [.int 1, .int 1]) (rest := []) C (k_fitting1 l dC dI cB cI cJ cZ cS (q_sound) (q_tellers) (q_byLies) (u_tellers_1) (u_tellers_2) (u_tellers_3) (u_tellers_4) (u_tellers_5) (.int 0) (f_byLies) (u_sound_0) (u_sound_1) (u_sound_2) (u_sound_3) (u_sound_4) (u_sound_5) (u_sound_7) (u_sound_8) (u_sound_9) 1 _) ⟨va_cnB 2 hts gX10_fit_X8_fitting_n272 rfl rfl rfl (hN _ nwM_X10_272 rfl) (hts _ I_X8) (by decide +kernel) ⟨Nat.le_of_ble_eq_true rfl, Nat.le_of_ble_eq_true rfl⟩, hts _ N_X8_fitting, hts _ E_X8_fitting⟩ (q_preV hK hP (ci := 8) (q0 := 1) rfl rfl rfl (q_pre hN hK hP hD [1, 3, 2] rfl (by decide))) rfl rfl hl.1 rfl (lv_room (Nat.le_of_ble_eq_true rfl)) dX10_fit_50 ⟨Nat.le_of_ble_eq_true rfl, Nat.le_of_ble_eq_true rfl⟩) hP hD hS hA [1, 3, 2] [0] rfl rfl (by decide) (by decide) (fun r w1 H locs hw hP hD hS => ?_)
            obtain ⟨φf12, hφf13, rfl, rfl⟩ := hw
            have hP : va_P (dC, dI) vwCl [(q_G, .inr (10, [u_G_0, u_G_1, u_G_2, .ref q_now, u_G_4, u_G_5, u_G_6, u_G_7, .ref q_tellers])), (q_tellers, .inr (8, [.ref q_sound, u_tellers_1, u_tellers_2, u_tellers_3, u_tellers_4, u_tellers_5, .ref q_byLies, .int 0])), (q_sound, .inr (5, [u_sound_0, u_sound_1, u_sound_2, u_sound_3, u_sound_4, u_sound_5, .int 0, u_sound_7, u_sound_8, u_sound_9])), (q_byLies, .inl (cI, 4, .inl (upd φf12 0 1)))] H := hP.sub [0, 1, 3, 2] rfl
            have hD : va_D A [(q_G, .inr (10, [u_G_0, u_G_1, u_G_2, .ref q_now, u_G_4, u_G_5, u_G_6, u_G_7, .ref q_tellers])), (q_tellers, .inr (8, [.ref q_sound, u_tellers_1, u_tellers_2, u_tellers_3, u_tellers_4, u_tellers_5, .ref q_byLies, .int 0])), (q_sound, .inr (5, [u_sound_0, u_sound_1, u_sound_2, u_sound_3, u_sound_4, u_sound_5, .int 0, u_sound_7, u_sound_8, u_sound_9])), (q_byLies, .inl (cI, 4, .inl (upd φf12 0 1)))] := hD.sub [0, 1, 3, 2] (by decide) rfl
            exact q_iret C hr hlocks hK hP hD hS (Nat.le_of_ble_eq_true rfl) (Nat.le_of_ble_eq_true rfl) dX10_fit_53 (by decide +kernel)
        · skip
          refine lv_iconst (v := (-1)) hx hb dX10_fit_21 (by decide) ?_
          exact q_iret C hr hlocks hK hP hD hS (Nat.le_of_ble_eq_true rfl) (Nat.le_of_ble_eq_true rfl) dX10_fit_22 (fr_fit_b c9)
    · skip
      refine lv_iload_n hx hb dX10_fit_12 rfl (lv_at hl 3 rfl) ?_
      refine lv_if_lt (tgt := 21) hx hb dX10_fit_13 (by decide) (fun c14 => ?_) (fun c14 => ?_)
      · skip
        refine lv_iconst (v := (-1)) hx hb dX10_fit_21 (by decide) ?_
        exact q_iret C hr hlocks hK hP hD hS (Nat.le_of_ble_eq_true rfl) (Nat.le_of_ble_eq_true rfl) dX10_fit_22 (fr_fit_a c14)
      · skip
        refine lv_iload_n hx hb dX10_fit_16 rfl (lv_at hl 3 rfl) ?_
        refine lv_iconst (v := 1) hx hb dX10_fit_17 (by decide) ?_
        refine lv_icmp_le (tgt := 23) hx hb dX10_fit_18 (by decide) (fun c15 => ?_) (fun c15 => ?_)
        · skip
          obtain rfl | rfl := i32_2c c14 c15
          · skip
            refine lv_aload_n hx hb dX10_fit_23 rfl (lv_at hl 0 rfl) ?_
            refine q_get (v := .ref q_tellers) C inX10 hK hP 0 rfl rfl 8 (by decide) rfl L70 rfl dX10_fit_24 ?_
            refine lv_aload_n hx hb dX10_fit_27 rfl (lv_at hl 0 rfl) ?_
            refine q_get (v := .ref q_now) C inX10 hK hP 0 rfl rfl 3 (by decide) rfl L35 rfl dX10_fit_28 ?_
            refine lv_iload_n hx hb dX10_fit_31 rfl (lv_at hl 1 rfl) ?_
            refine q_gov (wr := [(q_G, .inr (10, [u_G_0, u_G_1, u_G_2, .ref q_now, u_G_4, u_G_5, u_G_6, u_G_7, .ref q_tellers])), (q_byLies, .inl (cI, 4, .inl f_byLies))]) (va_runVN (As := [.ref q_now, .int 0]) (rest := []) C (k_X8_believe l dC dI cB cI cJ cZ cS (q_sound) (q_now) (q_tellers) (u_tellers_1) (u_tellers_2) (u_tellers_3) (u_tellers_4) (u_tellers_5) (.ref q_byLies) (.int 0) (u_sound_0) (u_sound_1) (u_sound_2) (u_sound_3) (u_sound_4) (u_sound_5) (u_sound_7) (u_sound_8) (u_sound_9) _) ⟨va_cnB 2 hts gX10_fit_X8_believe_n269 rfl rfl rfl (hN _ nwM_X10_269 rfl) (hts _ I_X8) (by decide +kernel) ⟨Nat.le_of_ble_eq_true rfl, Nat.le_of_ble_eq_true rfl⟩, hts _ N_X8_believe, hts _ E_X8_believe⟩ (q_preV hK hP (ci := 8) (q0 := 1) rfl rfl rfl (q_pre hN hK hP hD [1, 2] rfl (by decide))) rfl rfl hl.1 rfl (lv_room (Nat.le_of_ble_eq_true rfl)) dX10_fit_32 ⟨Nat.le_of_ble_eq_true rfl, Nat.le_of_ble_eq_true rfl⟩) hP hD hS hA [1, 2] [0, 3] rfl rfl (by decide) (by decide) (fun w1 H locs hw hP hD hS => ?_)
            obtain rfl := hw
            have hP : va_P (dC, dI) vwCl [(q_G, .inr (10, [u_G_0, u_G_1, u_G_2, .ref q_now, u_G_4, u_G_5, u_G_6, u_G_7, .ref q_tellers])), (q_tellers, .inr (8, [.ref q_sound, u_tellers_1, u_tellers_2, u_tellers_3, u_tellers_4, u_tellers_5, .ref q_byLies, .int 0])), (q_sound, .inr (5, [u_sound_0, u_sound_1, u_sound_2, u_sound_3, u_sound_4, u_sound_5, .int 0, u_sound_7, u_sound_8, u_sound_9])), (q_byLies, .inl (cI, 4, .inl f_byLies))] H := hP.sub [0, 2, 3, 1] rfl
            have hD : va_D A [(q_G, .inr (10, [u_G_0, u_G_1, u_G_2, .ref q_now, u_G_4, u_G_5, u_G_6, u_G_7, .ref q_tellers])), (q_tellers, .inr (8, [.ref q_sound, u_tellers_1, u_tellers_2, u_tellers_3, u_tellers_4, u_tellers_5, .ref q_byLies, .int 0])), (q_sound, .inr (5, [u_sound_0, u_sound_1, u_sound_2, u_sound_3, u_sound_4, u_sound_5, .int 0, u_sound_7, u_sound_8, u_sound_9])), (q_byLies, .inl (cI, 4, .inl f_byLies))] := hD.sub [0, 2, 3, 1] (by decide) rfl
            refine lv_aload_n hx hb dX10_fit_35 rfl (lv_at hl 0 rfl) ?_
            refine q_get (v := .ref q_tellers) C inX10 hK hP 0 rfl rfl 8 (by decide) rfl L70 rfl dX10_fit_36 ?_
            refine lv_iload_n hx hb dX10_fit_39 rfl (lv_at hl 2 rfl) ?_
            refine lv_iload_n hx hb dX10_fit_40 rfl (lv_at hl 3 rfl) ?_
            refine lv_iconst (v := 1) hx hb dX10_fit_41 (by decide) ?_
            refine lv_icmp_ne (tgt := 49) hx hb dX10_fit_42 (by decide) (fun _ => ?_) (fun h => absurd h (by decide +kernel))
            refine lv_iconst (v := 0) hx hb dX10_fit_49 (by decide) ?_
            refine q_goi (wr := [(q_G, .inr (10, [u_G_0, u_G_1, u_G_2, .ref q_now, u_G_4, u_G_5, u_G_6, u_G_7, .ref q_tellers]))]) (va_runVN (As := [.int 2, .int 0]) (rest := []) C (k_fitting2 l dC dI cB cI cJ cZ cS (q_sound) (q_tellers) (q_byLies) (u_tellers_1) (u_tellers_2) (u_tellers_3) (u_tellers_4) (u_tellers_5) (.int 0) (f_byLies) (u_sound_0) (u_sound_1) (u_sound_2) (u_sound_3) (u_sound_4) (u_sound_5) (u_sound_7) (u_sound_8) (u_sound_9) 0 _) ⟨va_cnB 2 hts gX10_fit_X8_fitting_n272 rfl rfl rfl (hN _ nwM_X10_272 rfl) (hts _ I_X8) (by decide +kernel) ⟨Nat.le_of_ble_eq_true rfl, Nat.le_of_ble_eq_true rfl⟩, hts _ N_X8_fitting, hts _ E_X8_fitting⟩ (q_preV hK hP (ci := 8) (q0 := 1) rfl rfl rfl (q_pre hN hK hP hD [1, 3, 2] rfl (by decide))) rfl rfl hl.1 rfl (lv_room (Nat.le_of_ble_eq_true rfl)) dX10_fit_50 ⟨Nat.le_of_ble_eq_true rfl, Nat.le_of_ble_eq_true rfl⟩) hP hD hS hA [1, 3, 2] [0] rfl rfl (by decide) (by decide) (fun r w1 H locs hw hP hD hS => ?_)
            obtain ⟨φf16, hφf17, rfl, rfl⟩ := hw
            have hP : va_P (dC, dI) vwCl [(q_G, .inr (10, [u_G_0, u_G_1, u_G_2, .ref q_now, u_G_4, u_G_5, u_G_6, u_G_7, .ref q_tellers])), (q_tellers, .inr (8, [.ref q_sound, u_tellers_1, u_tellers_2, u_tellers_3, u_tellers_4, u_tellers_5, .ref q_byLies, .int 0])), (q_sound, .inr (5, [u_sound_0, u_sound_1, u_sound_2, u_sound_3, u_sound_4, u_sound_5, .int 0, u_sound_7, u_sound_8, u_sound_9])), (q_byLies, .inl (cI, 4, .inl (upd φf16 0 1)))] H := hP.sub [0, 1, 3, 2] rfl
            have hD : va_D A [(q_G, .inr (10, [u_G_0, u_G_1, u_G_2, .ref q_now, u_G_4, u_G_5, u_G_6, u_G_7, .ref q_tellers])), (q_tellers, .inr (8, [.ref q_sound, u_tellers_1, u_tellers_2, u_tellers_3, u_tellers_4, u_tellers_5, .ref q_byLies, .int 0])), (q_sound, .inr (5, [u_sound_0, u_sound_1, u_sound_2, u_sound_3, u_sound_4, u_sound_5, .int 0, u_sound_7, u_sound_8, u_sound_9])), (q_byLies, .inl (cI, 4, .inl (upd φf16 0 1)))] := hD.sub [0, 1, 3, 2] (by decide) rfl
            exact q_iret C hr hlocks hK hP hD hS (Nat.le_of_ble_eq_true rfl) (Nat.le_of_ble_eq_true rfl) dX10_fit_53 (by decide +kernel)
          · skip
            refine lv_aload_n hx hb dX10_fit_23 rfl (lv_at hl 0 rfl) ?_
            refine q_get (v := .ref q_tellers) C inX10 hK hP 0 rfl rfl 8 (by decide) rfl L70 rfl dX10_fit_24 ?_
            refine lv_aload_n hx hb dX10_fit_27 rfl (lv_at hl 0 rfl) ?_
            refine q_get (v := .ref q_now) C inX10 hK hP 0 rfl rfl 3 (by decide) rfl L35 rfl dX10_fit_28 ?_
            refine lv_iload_n hx hb dX10_fit_31 rfl (lv_at hl 1 rfl) ?_
            refine q_gov (wr := [(q_G, .inr (10, [u_G_0, u_G_1, u_G_2, .ref q_now, u_G_4, u_G_5, u_G_6, u_G_7, .ref q_tellers])), (q_byLies, .inl (cI, 4, .inl f_byLies))]) (va_runVN (As := [.ref q_now, .int 0]) (rest := []) C (k_X8_believe l dC dI cB cI cJ cZ cS (q_sound) (q_now) (q_tellers) (u_tellers_1) (u_tellers_2) (u_tellers_3) (u_tellers_4) (u_tellers_5) (.ref q_byLies) (.int 0) (u_sound_0) (u_sound_1) (u_sound_2) (u_sound_3) (u_sound_4) (u_sound_5) (u_sound_7) (u_sound_8) (u_sound_9) _) ⟨va_cnB 2 hts gX10_fit_X8_believe_n269 rfl rfl rfl (hN _ nwM_X10_269 rfl) (hts _ I_X8) (by decide +kernel) ⟨Nat.le_of_ble_eq_true rfl, Nat.le_of_ble_eq_true rfl⟩, hts _ N_X8_believe, hts _ E_X8_believe⟩ (q_preV hK hP (ci := 8) (q0 := 1) rfl rfl rfl (q_pre hN hK hP hD [1, 2] rfl (by decide))) rfl rfl hl.1 rfl (lv_room (Nat.le_of_ble_eq_true rfl)) dX10_fit_32 ⟨Nat.le_of_ble_eq_true rfl, Nat.le_of_ble_eq_true rfl⟩) hP hD hS hA [1, 2] [0, 3] rfl rfl (by decide) (by decide) (fun w1 H locs hw hP hD hS => ?_)
            obtain rfl := hw
            have hP : va_P (dC, dI) vwCl [(q_G, .inr (10, [u_G_0, u_G_1, u_G_2, .ref q_now, u_G_4, u_G_5, u_G_6, u_G_7, .ref q_tellers])), (q_tellers, .inr (8, [.ref q_sound, u_tellers_1, u_tellers_2, u_tellers_3, u_tellers_4, u_tellers_5, .ref q_byLies, .int 0])), (q_sound, .inr (5, [u_sound_0, u_sound_1, u_sound_2, u_sound_3, u_sound_4, u_sound_5, .int 0, u_sound_7, u_sound_8, u_sound_9])), (q_byLies, .inl (cI, 4, .inl f_byLies))] H := hP.sub [0, 2, 3, 1] rfl
            have hD : va_D A [(q_G, .inr (10, [u_G_0, u_G_1, u_G_2, .ref q_now, u_G_4, u_G_5, u_G_6, u_G_7, .ref q_tellers])), (q_tellers, .inr (8, [.ref q_sound, u_tellers_1, u_tellers_2, u_tellers_3, u_tellers_4, u_tellers_5, .ref q_byLies, .int 0])), (q_sound, .inr (5, [u_sound_0, u_sound_1, u_sound_2, u_sound_3, u_sound_4, u_sound_5, .int 0, u_sound_7, u_sound_8, u_sound_9])), (q_byLies, .inl (cI, 4, .inl f_byLies))] := hD.sub [0, 2, 3, 1] (by decide) rfl
            refine lv_aload_n hx hb dX10_fit_35 rfl (lv_at hl 0 rfl) ?_
            refine q_get (v := .ref q_tellers) C inX10 hK hP 0 rfl rfl 8 (by decide) rfl L70 rfl dX10_fit_36 ?_
            refine lv_iload_n hx hb dX10_fit_39 rfl (lv_at hl 2 rfl) ?_
            refine lv_iload_n hx hb dX10_fit_40 rfl (lv_at hl 3 rfl) ?_
            refine lv_iconst (v := 1) hx hb dX10_fit_41 (by decide) ?_
            refine lv_icmp_ne (tgt := 49) hx hb dX10_fit_42 (by decide) (fun h => absurd (by decide +kernel) h) (fun _ => ?_)
            refine lv_iconst (v := 1) hx hb dX10_fit_45 (by decide) ?_
            refine lv_goto (tgt := 50) hx hb dX10_fit_46 (by decide) ?_
            refine q_goi (wr := [(q_G, .inr (10, [u_G_0, u_G_1, u_G_2, .ref q_now, u_G_4, u_G_5, u_G_6, u_G_7, .ref q_tellers]))]) (va_runVN (As := [.int 2, .int 1]) (rest := []) C (k_fitting2 l dC dI cB cI cJ cZ cS (q_sound) (q_tellers) (q_byLies) (u_tellers_1) (u_tellers_2) (u_tellers_3) (u_tellers_4) (u_tellers_5) (.int 0) (f_byLies) (u_sound_0) (u_sound_1) (u_sound_2) (u_sound_3) (u_sound_4) (u_sound_5) (u_sound_7) (u_sound_8) (u_sound_9) 1 _) ⟨va_cnB 2 hts gX10_fit_X8_fitting_n272 rfl rfl rfl (hN _ nwM_X10_272 rfl) (hts _ I_X8) (by decide +kernel) ⟨Nat.le_of_ble_eq_true rfl, Nat.le_of_ble_eq_true rfl⟩, hts _ N_X8_fitting, hts _ E_X8_fitting⟩ (q_preV hK hP (ci := 8) (q0 := 1) rfl rfl rfl (q_pre hN hK hP hD [1, 3, 2] rfl (by decide))) rfl rfl hl.1 rfl (lv_room (Nat.le_of_ble_eq_true rfl)) dX10_fit_50 ⟨Nat.le_of_ble_eq_true rfl, Nat.le_of_ble_eq_true rfl⟩) hP hD hS hA [1, 3, 2] [0] rfl rfl (by decide) (by decide) (fun r w1 H locs hw hP hD hS => ?_)
            obtain ⟨φf18, hφf19, rfl, rfl⟩ := hw
            have hP : va_P (dC, dI) vwCl [(q_G, .inr (10, [u_G_0, u_G_1, u_G_2, .ref q_now, u_G_4, u_G_5, u_G_6, u_G_7, .ref q_tellers])), (q_tellers, .inr (8, [.ref q_sound, u_tellers_1, u_tellers_2, u_tellers_3, u_tellers_4, u_tellers_5, .ref q_byLies, .int 0])), (q_sound, .inr (5, [u_sound_0, u_sound_1, u_sound_2, u_sound_3, u_sound_4, u_sound_5, .int 0, u_sound_7, u_sound_8, u_sound_9])), (q_byLies, .inl (cI, 4, .inl (upd φf18 0 1)))] H := hP.sub [0, 1, 3, 2] rfl
            have hD : va_D A [(q_G, .inr (10, [u_G_0, u_G_1, u_G_2, .ref q_now, u_G_4, u_G_5, u_G_6, u_G_7, .ref q_tellers])), (q_tellers, .inr (8, [.ref q_sound, u_tellers_1, u_tellers_2, u_tellers_3, u_tellers_4, u_tellers_5, .ref q_byLies, .int 0])), (q_sound, .inr (5, [u_sound_0, u_sound_1, u_sound_2, u_sound_3, u_sound_4, u_sound_5, .int 0, u_sound_7, u_sound_8, u_sound_9])), (q_byLies, .inl (cI, 4, .inl (upd φf18 0 1)))] := hD.sub [0, 1, 3, 2] (by decide) rfl
            exact q_iret C hr hlocks hK hP hD hS (Nat.le_of_ble_eq_true rfl) (Nat.le_of_ble_eq_true rfl) dX10_fit_53 (by decide +kernel)
        · skip
          refine lv_iconst (v := (-1)) hx hb dX10_fit_21 (by decide) ?_
          exact q_iret C hr hlocks hK hP hD hS (Nat.le_of_ble_eq_true rfl) (Nat.le_of_ble_eq_true rfl) dX10_fit_22 (fr_fit_b c15)
    · skip
      refine lv_iload_n hx hb dX10_fit_12 rfl (lv_at hl 3 rfl) ?_
      refine lv_if_lt (tgt := 21) hx hb dX10_fit_13 (by decide) (fun c20 => ?_) (fun c20 => ?_)
      · skip
        refine lv_iconst (v := (-1)) hx hb dX10_fit_21 (by decide) ?_
        exact q_iret C hr hlocks hK hP hD hS (Nat.le_of_ble_eq_true rfl) (Nat.le_of_ble_eq_true rfl) dX10_fit_22 (fr_fit_a c20)
      · skip
        refine lv_iload_n hx hb dX10_fit_16 rfl (lv_at hl 3 rfl) ?_
        refine lv_iconst (v := 1) hx hb dX10_fit_17 (by decide) ?_
        refine lv_icmp_le (tgt := 23) hx hb dX10_fit_18 (by decide) (fun c21 => ?_) (fun c21 => ?_)
        · skip
          obtain rfl | rfl := i32_2c c20 c21
          · skip
            refine lv_aload_n hx hb dX10_fit_23 rfl (lv_at hl 0 rfl) ?_
            refine q_get (v := .ref q_tellers) C inX10 hK hP 0 rfl rfl 8 (by decide) rfl L70 rfl dX10_fit_24 ?_
            refine lv_aload_n hx hb dX10_fit_27 rfl (lv_at hl 0 rfl) ?_
            refine q_get (v := .ref q_now) C inX10 hK hP 0 rfl rfl 3 (by decide) rfl L35 rfl dX10_fit_28 ?_
            refine lv_iload_n hx hb dX10_fit_31 rfl (lv_at hl 1 rfl) ?_
            refine q_gov (wr := [(q_G, .inr (10, [u_G_0, u_G_1, u_G_2, .ref q_now, u_G_4, u_G_5, u_G_6, u_G_7, .ref q_tellers])), (q_byLies, .inl (cI, 4, .inl f_byLies))]) (va_runVN (As := [.ref q_now, .int 0]) (rest := []) C (k_X8_believe l dC dI cB cI cJ cZ cS (q_sound) (q_now) (q_tellers) (u_tellers_1) (u_tellers_2) (u_tellers_3) (u_tellers_4) (u_tellers_5) (.ref q_byLies) (.int 0) (u_sound_0) (u_sound_1) (u_sound_2) (u_sound_3) (u_sound_4) (u_sound_5) (u_sound_7) (u_sound_8) (u_sound_9) _) ⟨va_cnB 2 hts gX10_fit_X8_believe_n269 rfl rfl rfl (hN _ nwM_X10_269 rfl) (hts _ I_X8) (by decide +kernel) ⟨Nat.le_of_ble_eq_true rfl, Nat.le_of_ble_eq_true rfl⟩, hts _ N_X8_believe, hts _ E_X8_believe⟩ (q_preV hK hP (ci := 8) (q0 := 1) rfl rfl rfl (q_pre hN hK hP hD [1, 2] rfl (by decide))) rfl rfl hl.1 rfl (lv_room (Nat.le_of_ble_eq_true rfl)) dX10_fit_32 ⟨Nat.le_of_ble_eq_true rfl, Nat.le_of_ble_eq_true rfl⟩) hP hD hS hA [1, 2] [0, 3] rfl rfl (by decide) (by decide) (fun w1 H locs hw hP hD hS => ?_)
            obtain rfl := hw
            have hP : va_P (dC, dI) vwCl [(q_G, .inr (10, [u_G_0, u_G_1, u_G_2, .ref q_now, u_G_4, u_G_5, u_G_6, u_G_7, .ref q_tellers])), (q_tellers, .inr (8, [.ref q_sound, u_tellers_1, u_tellers_2, u_tellers_3, u_tellers_4, u_tellers_5, .ref q_byLies, .int 0])), (q_sound, .inr (5, [u_sound_0, u_sound_1, u_sound_2, u_sound_3, u_sound_4, u_sound_5, .int 0, u_sound_7, u_sound_8, u_sound_9])), (q_byLies, .inl (cI, 4, .inl f_byLies))] H := hP.sub [0, 2, 3, 1] rfl
            have hD : va_D A [(q_G, .inr (10, [u_G_0, u_G_1, u_G_2, .ref q_now, u_G_4, u_G_5, u_G_6, u_G_7, .ref q_tellers])), (q_tellers, .inr (8, [.ref q_sound, u_tellers_1, u_tellers_2, u_tellers_3, u_tellers_4, u_tellers_5, .ref q_byLies, .int 0])), (q_sound, .inr (5, [u_sound_0, u_sound_1, u_sound_2, u_sound_3, u_sound_4, u_sound_5, .int 0, u_sound_7, u_sound_8, u_sound_9])), (q_byLies, .inl (cI, 4, .inl f_byLies))] := hD.sub [0, 2, 3, 1] (by decide) rfl
            refine lv_aload_n hx hb dX10_fit_35 rfl (lv_at hl 0 rfl) ?_
            refine q_get (v := .ref q_tellers) C inX10 hK hP 0 rfl rfl 8 (by decide) rfl L70 rfl dX10_fit_36 ?_
            refine lv_iload_n hx hb dX10_fit_39 rfl (lv_at hl 2 rfl) ?_
            refine lv_iload_n hx hb dX10_fit_40 rfl (lv_at hl 3 rfl) ?_
            refine lv_iconst (v := 1) hx hb dX10_fit_41 (by decide) ?_
            refine lv_icmp_ne (tgt := 49) hx hb dX10_fit_42 (by decide) (fun _ => ?_) (fun h => absurd h (by decide +kernel))
            refine lv_iconst (v := 0) hx hb dX10_fit_49 (by decide) ?_
            refine q_goi (wr := [(q_G, .inr (10, [u_G_0, u_G_1, u_G_2, .ref q_now, u_G_4, u_G_5, u_G_6, u_G_7, .ref q_tellers]))]) (va_runVN (As := [.int 3, .int 0]) (rest := []) C (k_fitting3 l dC dI cB cI cJ cZ cS (q_sound) (q_tellers) (q_byLies) (u_tellers_1) (u_tellers_2) (u_tellers_3) (u_tellers_4) (u_tellers_5) (.int 0) (f_byLies) (u_sound_0) (u_sound_1) (u_sound_2) (u_sound_3) (u_sound_4) (u_sound_5) (u_sound_7) (u_sound_8) (u_sound_9) 0 _) ⟨va_cnB 2 hts gX10_fit_X8_fitting_n272 rfl rfl rfl (hN _ nwM_X10_272 rfl) (hts _ I_X8) (by decide +kernel) ⟨Nat.le_of_ble_eq_true rfl, Nat.le_of_ble_eq_true rfl⟩, hts _ N_X8_fitting, hts _ E_X8_fitting⟩ (q_preV hK hP (ci := 8) (q0 := 1) rfl rfl rfl (q_pre hN hK hP hD [1, 3, 2] rfl (by decide))) rfl rfl hl.1 rfl (lv_room (Nat.le_of_ble_eq_true rfl)) dX10_fit_50 ⟨Nat.le_of_ble_eq_true rfl, Nat.le_of_ble_eq_true rfl⟩) hP hD hS hA [1, 3, 2] [0] rfl rfl (by decide) (by decide) (fun r w1 H locs hw hP hD hS => ?_)
            obtain ⟨φf22, hφf23, rfl, rfl⟩ := hw
            have hP : va_P (dC, dI) vwCl [(q_G, .inr (10, [u_G_0, u_G_1, u_G_2, .ref q_now, u_G_4, u_G_5, u_G_6, u_G_7, .ref q_tellers])), (q_tellers, .inr (8, [.ref q_sound, u_tellers_1, u_tellers_2, u_tellers_3, u_tellers_4, u_tellers_5, .ref q_byLies, .int 0])), (q_sound, .inr (5, [u_sound_0, u_sound_1, u_sound_2, u_sound_3, u_sound_4, u_sound_5, .int 0, u_sound_7, u_sound_8, u_sound_9])), (q_byLies, .inl (cI, 4, .inl (upd φf22 0 1)))] H := hP.sub [0, 1, 3, 2] rfl
            have hD : va_D A [(q_G, .inr (10, [u_G_0, u_G_1, u_G_2, .ref q_now, u_G_4, u_G_5, u_G_6, u_G_7, .ref q_tellers])), (q_tellers, .inr (8, [.ref q_sound, u_tellers_1, u_tellers_2, u_tellers_3, u_tellers_4, u_tellers_5, .ref q_byLies, .int 0])), (q_sound, .inr (5, [u_sound_0, u_sound_1, u_sound_2, u_sound_3, u_sound_4, u_sound_5, .int 0, u_sound_7, u_sound_8, u_sound_9])), (q_byLies, .inl (cI, 4, .inl (upd φf22 0 1)))] := hD.sub [0, 1, 3, 2] (by decide) rfl
            exact q_iret C hr hlocks hK hP hD hS (Nat.le_of_ble_eq_true rfl) (Nat.le_of_ble_eq_true rfl) dX10_fit_53 (by decide +kernel)
          · skip
            refine lv_aload_n hx hb dX10_fit_23 rfl (lv_at hl 0 rfl) ?_
            refine q_get (v := .ref q_tellers) C inX10 hK hP 0 rfl rfl 8 (by decide) rfl L70 rfl dX10_fit_24 ?_
            refine lv_aload_n hx hb dX10_fit_27 rfl (lv_at hl 0 rfl) ?_
            refine q_get (v := .ref q_now) C inX10 hK hP 0 rfl rfl 3 (by decide) rfl L35 rfl dX10_fit_28 ?_
            refine lv_iload_n hx hb dX10_fit_31 rfl (lv_at hl 1 rfl) ?_
            refine q_gov (wr := [(q_G, .inr (10, [u_G_0, u_G_1, u_G_2, .ref q_now, u_G_4, u_G_5, u_G_6, u_G_7, .ref q_tellers])), (q_byLies, .inl (cI, 4, .inl f_byLies))]) (va_runVN (As := [.ref q_now, .int 0]) (rest := []) C (k_X8_believe l dC dI cB cI cJ cZ cS (q_sound) (q_now) (q_tellers) (u_tellers_1) (u_tellers_2) (u_tellers_3) (u_tellers_4) (u_tellers_5) (.ref q_byLies) (.int 0) (u_sound_0) (u_sound_1) (u_sound_2) (u_sound_3) (u_sound_4) (u_sound_5) (u_sound_7) (u_sound_8) (u_sound_9) _) ⟨va_cnB 2 hts gX10_fit_X8_believe_n269 rfl rfl rfl (hN _ nwM_X10_269 rfl) (hts _ I_X8) (by decide +kernel) ⟨Nat.le_of_ble_eq_true rfl, Nat.le_of_ble_eq_true rfl⟩, hts _ N_X8_believe, hts _ E_X8_believe⟩ (q_preV hK hP (ci := 8) (q0 := 1) rfl rfl rfl (q_pre hN hK hP hD [1, 2] rfl (by decide))) rfl rfl hl.1 rfl (lv_room (Nat.le_of_ble_eq_true rfl)) dX10_fit_32 ⟨Nat.le_of_ble_eq_true rfl, Nat.le_of_ble_eq_true rfl⟩) hP hD hS hA [1, 2] [0, 3] rfl rfl (by decide) (by decide) (fun w1 H locs hw hP hD hS => ?_)
            obtain rfl := hw
            have hP : va_P (dC, dI) vwCl [(q_G, .inr (10, [u_G_0, u_G_1, u_G_2, .ref q_now, u_G_4, u_G_5, u_G_6, u_G_7, .ref q_tellers])), (q_tellers, .inr (8, [.ref q_sound, u_tellers_1, u_tellers_2, u_tellers_3, u_tellers_4, u_tellers_5, .ref q_byLies, .int 0])), (q_sound, .inr (5, [u_sound_0, u_sound_1, u_sound_2, u_sound_3, u_sound_4, u_sound_5, .int 0, u_sound_7, u_sound_8, u_sound_9])), (q_byLies, .inl (cI, 4, .inl f_byLies))] H := hP.sub [0, 2, 3, 1] rfl
            have hD : va_D A [(q_G, .inr (10, [u_G_0, u_G_1, u_G_2, .ref q_now, u_G_4, u_G_5, u_G_6, u_G_7, .ref q_tellers])), (q_tellers, .inr (8, [.ref q_sound, u_tellers_1, u_tellers_2, u_tellers_3, u_tellers_4, u_tellers_5, .ref q_byLies, .int 0])), (q_sound, .inr (5, [u_sound_0, u_sound_1, u_sound_2, u_sound_3, u_sound_4, u_sound_5, .int 0, u_sound_7, u_sound_8, u_sound_9])), (q_byLies, .inl (cI, 4, .inl f_byLies))] := hD.sub [0, 2, 3, 1] (by decide) rfl
            refine lv_aload_n hx hb dX10_fit_35 rfl (lv_at hl 0 rfl) ?_
            refine q_get (v := .ref q_tellers) C inX10 hK hP 0 rfl rfl 8 (by decide) rfl L70 rfl dX10_fit_36 ?_
            refine lv_iload_n hx hb dX10_fit_39 rfl (lv_at hl 2 rfl) ?_
            refine lv_iload_n hx hb dX10_fit_40 rfl (lv_at hl 3 rfl) ?_
            refine lv_iconst (v := 1) hx hb dX10_fit_41 (by decide) ?_
            refine lv_icmp_ne (tgt := 49) hx hb dX10_fit_42 (by decide) (fun h => absurd (by decide +kernel) h) (fun _ => ?_)
            refine lv_iconst (v := 1) hx hb dX10_fit_45 (by decide) ?_
            refine lv_goto (tgt := 50) hx hb dX10_fit_46 (by decide) ?_
            refine q_goi (wr := [(q_G, .inr (10, [u_G_0, u_G_1, u_G_2, .ref q_now, u_G_4, u_G_5, u_G_6, u_G_7, .ref q_tellers]))]) (va_runVN (As := [.int 3, .int 1]) (rest := []) C (k_fitting3 l dC dI cB cI cJ cZ cS (q_sound) (q_tellers) (q_byLies) (u_tellers_1) (u_tellers_2) (u_tellers_3) (u_tellers_4) (u_tellers_5) (.int 0) (f_byLies) (u_sound_0) (u_sound_1) (u_sound_2) (u_sound_3) (u_sound_4) (u_sound_5) (u_sound_7) (u_sound_8) (u_sound_9) 1 _) ⟨va_cnB 2 hts gX10_fit_X8_fitting_n272 rfl rfl rfl (hN _ nwM_X10_272 rfl) (hts _ I_X8) (by decide +kernel) ⟨Nat.le_of_ble_eq_true rfl, Nat.le_of_ble_eq_true rfl⟩, hts _ N_X8_fitting, hts _ E_X8_fitting⟩ (q_preV hK hP (ci := 8) (q0 := 1) rfl rfl rfl (q_pre hN hK hP hD [1, 3, 2] rfl (by decide))) rfl rfl hl.1 rfl (lv_room (Nat.le_of_ble_eq_true rfl)) dX10_fit_50 ⟨Nat.le_of_ble_eq_true rfl, Nat.le_of_ble_eq_true rfl⟩) hP hD hS hA [1, 3, 2] [0] rfl rfl (by decide) (by decide) (fun r w1 H locs hw hP hD hS => ?_)
            obtain ⟨φf24, hφf25, rfl, rfl⟩ := hw
            have hP : va_P (dC, dI) vwCl [(q_G, .inr (10, [u_G_0, u_G_1, u_G_2, .ref q_now, u_G_4, u_G_5, u_G_6, u_G_7, .ref q_tellers])), (q_tellers, .inr (8, [.ref q_sound, u_tellers_1, u_tellers_2, u_tellers_3, u_tellers_4, u_tellers_5, .ref q_byLies, .int 0])), (q_sound, .inr (5, [u_sound_0, u_sound_1, u_sound_2, u_sound_3, u_sound_4, u_sound_5, .int 0, u_sound_7, u_sound_8, u_sound_9])), (q_byLies, .inl (cI, 4, .inl (upd φf24 0 1)))] H := hP.sub [0, 1, 3, 2] rfl
            have hD : va_D A [(q_G, .inr (10, [u_G_0, u_G_1, u_G_2, .ref q_now, u_G_4, u_G_5, u_G_6, u_G_7, .ref q_tellers])), (q_tellers, .inr (8, [.ref q_sound, u_tellers_1, u_tellers_2, u_tellers_3, u_tellers_4, u_tellers_5, .ref q_byLies, .int 0])), (q_sound, .inr (5, [u_sound_0, u_sound_1, u_sound_2, u_sound_3, u_sound_4, u_sound_5, .int 0, u_sound_7, u_sound_8, u_sound_9])), (q_byLies, .inl (cI, 4, .inl (upd φf24 0 1)))] := hD.sub [0, 1, 3, 2] (by decide) rfl
            exact q_iret C hr hlocks hK hP hD hS (Nat.le_of_ble_eq_true rfl) (Nat.le_of_ble_eq_true rfl) dX10_fit_53 (by decide +kernel)
        · skip
          refine lv_iconst (v := (-1)) hx hb dX10_fit_21 (by decide) ?_
          exact q_iret C hr hlocks hK hP hD hS (Nat.le_of_ble_eq_true rfl) (Nat.le_of_ble_eq_true rfl) dX10_fit_22 (fr_fit_b c21)
