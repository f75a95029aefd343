theorem dX8_believe_0 : decode cX8_believe 0 = .ok (.iconst 0, 1) := by decide +kernel
theorem dX8_believe_1 : decode cX8_believe 1 = .ok (.istore_n 3, 1) := by decide +kernel
theorem dX8_believe_2 : decode cX8_believe 2 = .ok (.iload_n 3, 1) := by decide +kernel
theorem dX8_believe_3 : decode cX8_believe 3 = .ok (.aload_n 0, 1) := by decide +kernel
theorem dX8_believe_4 : decode cX8_believe 4 = .ok (.getfield 27, 3) := by decide +kernel
theorem dX8_believe_7 : decode cX8_believe 7 = .ok (.getfield 39, 3) := by decide +kernel
theorem dX8_believe_10 : decode cX8_believe 10 = .ok (.if_icmp .ge 91, 3) := by decide +kernel
theorem dX8_believe_101 : decode cX8_believe 101 = .ok (.return_, 1) := by decide +kernel
set_option maxRecDepth 20000 in
theorem ggX8_sortByLies_J7_fill_53178 : GoodIn wsX8_sortByLies wsJ7_fill_53178 := goodIn_r _ [6] (by decide +kernel) (by decide +kernel)
set_option maxRecDepth 20000 in
theorem gX8_sortByLies_J7_fill_53178 : GoodIn wsX8_sortByLies (va_wsS RX8 62 yJ7_fill_53178 wsJ7_fill_53178) := goodIn_app (goodIn_of _ (by decide +kernel)) ggX8_sortByLies_J7_fill_53178
theorem dX8_sortByLies_0 : decode cX8_sortByLies 0 = .ok (.aload_n 0, 1) := by decide +kernel
theorem dX8_sortByLies_1 : decode cX8_sortByLies 1 = .ok (.getfield 24, 3) := by decide +kernel
theorem dX8_sortByLies_4 : decode cX8_sortByLies 4 = .ok (.iconst 0, 1) := by decide +kernel
theorem dX8_sortByLies_5 : decode cX8_sortByLies 5 = .ok (.invokestatic 62, 3) := by decide +kernel
theorem dX8_sortByLies_8 : decode cX8_sortByLies 8 = .ok (.aload_n 0, 1) := by decide +kernel
theorem dX8_sortByLies_9 : decode cX8_sortByLies 9 = .ok (.getfield 24, 3) := by decide +kernel
theorem dX8_sortByLies_12 : decode cX8_sortByLies 12 = .ok (.iconst 0, 1) := by decide +kernel
theorem dX8_sortByLies_13 : decode cX8_sortByLies 13 = .ok (.iconst 1, 1) := by decide +kernel
theorem dX8_sortByLies_14 : decode cX8_sortByLies 14 = .ok (.iastore, 1) := by decide +kernel
theorem dX8_sortByLies_15 : decode cX8_sortByLies 15 = .ok (.iconst 0, 1) := by decide +kernel
theorem dX8_sortByLies_16 : decode cX8_sortByLies 16 = .ok (.istore_n 3, 1) := by decide +kernel
theorem dX8_sortByLies_17 : decode cX8_sortByLies 17 = .ok (.iload_n 3, 1) := by decide +kernel
theorem dX8_sortByLies_18 : decode cX8_sortByLies 18 = .ok (.aload_n 0, 1) := by decide +kernel
theorem dX8_sortByLies_19 : decode cX8_sortByLies 19 = .ok (.getfield 27, 3) := by decide +kernel
theorem dX8_sortByLies_22 : decode cX8_sortByLies 22 = .ok (.getfield 39, 3) := by decide +kernel
theorem dX8_sortByLies_25 : decode cX8_sortByLies 25 = .ok (.if_icmp .ge 43, 3) := by decide +kernel
theorem dX8_sortByLies_68 : decode cX8_sortByLies 68 = .ok (.return_, 1) := by decide +kernel
theorem dX8_upTo_0 : decode cX8_upTo 0 = .ok (.iconst 0, 1) := by decide +kernel
theorem dX8_upTo_1 : decode cX8_upTo 1 = .ok (.istore_n 2, 1) := by decide +kernel
theorem dX8_upTo_2 : decode cX8_upTo 2 = .ok (.iconst 0, 1) := by decide +kernel
theorem dX8_upTo_3 : decode cX8_upTo 3 = .ok (.istore_n 3, 1) := by decide +kernel
theorem dX8_upTo_4 : decode cX8_upTo 4 = .ok (.iload_n 3, 1) := by decide +kernel
theorem dX8_upTo_5 : decode cX8_upTo 5 = .ok (.iload_n 1, 1) := by decide +kernel
theorem dX8_upTo_6 : decode cX8_upTo 6 = .ok (.if_icmp .gt 23, 3) := by decide +kernel
theorem dX8_upTo_9 : decode cX8_upTo 9 = .ok (.iload_n 3, 1) := by decide +kernel
theorem dX8_upTo_10 : decode cX8_upTo 10 = .ok (.iconst 3, 1) := by decide +kernel
theorem dX8_upTo_11 : decode cX8_upTo 11 = .ok (.if_icmp .gt 18, 3) := by decide +kernel
theorem dX8_upTo_14 : decode cX8_upTo 14 = .ok (.iload_n 2, 1) := by decide +kernel
theorem dX8_upTo_15 : decode cX8_upTo 15 = .ok (.aload_n 0, 1) := by decide +kernel
theorem dX8_upTo_16 : decode cX8_upTo 16 = .ok (.getfield 24, 3) := by decide +kernel
theorem dX8_upTo_19 : decode cX8_upTo 19 = .ok (.iload_n 3, 1) := by decide +kernel
theorem dX8_upTo_20 : decode cX8_upTo 20 = .ok (.iaload, 1) := by decide +kernel
theorem dX8_upTo_21 : decode cX8_upTo 21 = .ok (.iadd, 1) := by decide +kernel
theorem dX8_upTo_22 : decode cX8_upTo 22 = .ok (.istore_n 2, 1) := by decide +kernel
theorem dX8_upTo_23 : decode cX8_upTo 23 = .ok (.iinc 3 1, 3) := by decide +kernel
theorem dX8_upTo_26 : decode cX8_upTo 26 = .ok (.goto (-22), 3) := by decide +kernel
theorem dX8_upTo_29 : decode cX8_upTo 29 = .ok (.iload_n 2, 1) := by decide +kernel
theorem dX8_upTo_30 : decode cX8_upTo 30 = .ok (.ireturn, 1) := by decide +kernel
set_option maxRecDepth 20000 in
theorem ggX8_fitting_X8_sortByLies : GoodIn wsX8_fitting wsX8_sortByLies := goodIn_r _ [5, 6, 7, 8, 9, 10, 11, 12, 13, 14, 4, 15, 16, 17, 22, 23, 24, 25, 26, 27, 28, 29, 30, 31, 32, 33, 34, 35, 36, 37, 38, 39] (by decide +kernel) (by decide +kernel)
set_option maxRecDepth 20000 in
theorem gX8_fitting_X8_sortByLies : GoodIn wsX8_fitting (wsV RX8 72 RX8 yX8_sortByLies wsX8_sortByLies) := goodIn_app (goodIn_of _ (by decide +kernel)) ggX8_fitting_X8_sortByLies
set_option maxRecDepth 20000 in
theorem ggX8_fitting_X8_upTo : GoodIn wsX8_fitting wsX8_upTo := goodIn_r _ [21, 6, 22, 23, 24, 25, 26, 27, 28, 29] (by decide +kernel) (by decide +kernel)
set_option maxRecDepth 20000 in
theorem gX8_fitting_X8_upTo : GoodIn wsX8_fitting (wsV RX8 76 RX8 yX8_upTo wsX8_upTo) := goodIn_app (goodIn_of _ (by decide +kernel)) ggX8_fitting_X8_upTo
theorem dX8_fitting_0 : decode cX8_fitting 0 = .ok (.aload_n 0, 1) := by decide +kernel
theorem dX8_fitting_1 : decode cX8_fitting 1 = .ok (.iconst (-1), 1) := by decide +kernel
theorem dX8_fitting_2 : decode cX8_fitting 2 = .ok (.iload_n 2, 1) := by decide +kernel
theorem dX8_fitting_3 : decode cX8_fitting 3 = .ok (.invokevirtual 72, 3) := by decide +kernel
theorem dX8_fitting_6 : decode cX8_fitting 6 = .ok (.aload_n 0, 1) := by decide +kernel
theorem dX8_fitting_7 : decode cX8_fitting 7 = .ok (.iload_n 1, 1) := by decide +kernel
theorem dX8_fitting_8 : decode cX8_fitting 8 = .ok (.invokevirtual 76, 3) := by decide +kernel
theorem dX8_fitting_11 : decode cX8_fitting 11 = .ok (.ireturn, 1) := by decide +kernel
set_option maxHeartbeats 4000000 in
set_option maxRecDepth 100000 in
theorem k_X8_believe (l : Launch) (dC : Nat → ClassId) (dI : Nat → Nat → Nat) (cB cI cJ cZ cS : ClassId) (q_sound : Nat) (q_now : Nat) (q_tellers : Nat) (u_tellers_1 : Value) (u_tellers_2 : Value) (u_tellers_3 : Value) (u_tellers_4 : Value) (u_tellers_5 : Value) (u_tellers_6 : Value) (u_tellers_7 : Value) (u_sound_0 : Value) (u_sound_1 : Value) (u_sound_2 : Value) (u_sound_3 : Value) (u_sound_4 : Value) (u_sound_5 : Value) (u_sound_7 : Value) (u_sound_8 : Value) (u_sound_9 : Value) : CV l yX8_believe wsX8_believe ({ frames := 0, cells := 0, slots := 0, locals := 0 }) (dC, dI) (tysA cB cI cJ cZ cS) [(q_tellers, .inr (8, [.ref q_sound, u_tellers_1, u_tellers_2, u_tellers_3, u_tellers_4, u_tellers_5, u_tellers_6, u_tellers_7])), (q_sound, .inr (5, [u_sound_0, u_sound_1, u_sound_2, u_sound_3, u_sound_4, u_sound_5, .int 0, u_sound_7, u_sound_8, u_sound_9]))] [.ref q_tellers, .ref q_now, .int 0] (fun w => w = [(q_tellers, .inr (8, [.ref q_sound, u_tellers_1, u_tellers_2, u_tellers_3, u_tellers_4, u_tellers_5, u_tellers_6, u_tellers_7])), (q_sound, .inr (5, [u_sound_0, u_sound_1, u_sound_2, u_sound_3, u_sound_4, u_sound_5, .int 0, u_sound_7, u_sound_8, u_sound_9]))]) := by
  refine open_V (cc := cX8_believe) (maxL := 7) (ret := none) (by decide) rfl (Nat.le_of_ble_eq_true rfl) ?_
  intro p e s m below meth c A ls E
  obtain ⟨C, hr, hlocks, hnm, hA, hP, hK, hD, hN, hl⟩ := E
  obtain ⟨hx, hb, hml, hown, hts⟩ := id C
  have hS : va_S A s.heap s.heap [] := va_S.rf
  have hl : lv_has ls 7 [(0, .ref q_tellers), (1, .ref q_now), (2, .int 0)] := hl
  have inX5 : ∀ w ∈ u_ws RX5 TX5 10, w ∈ wsX8_believe := fun _ h => List.mem_cons_of_mem _ (List.mem_append_left _ (List.mem_append_left _ (List.mem_append_right _ h)))
  have inX8 : ∀ w ∈ u_ws RX8 TX8 8, w ∈ wsX8_believe := fun _ h => List.mem_cons_of_mem _ (List.mem_append_left _ (List.mem_append_left _ (List.mem_append_left _ (List.mem_append_right _ h))))
  have L27 : Cond.fieldLink RX8 27 "GuessFerry$Tellers" "sound" "LGuessFerry$Sound;" ∈ wsX8_believe := by decide +kernel
  refine lv_iconst (v := 0) hx hb dX8_believe_0 (by decide) ?_
  refine lv_istore_n (lv' := [(3, .int 0), (0, .ref q_tellers), (1, .ref q_now), (2, .int 0)]) hx hb dX8_believe_1 rfl hl (by decide) rfl (fun ls hl => ?_)
  refine lv_iload_n hx hb dX8_believe_2 rfl (lv_at hl 0 rfl) ?_
  refine lv_aload_n hx hb dX8_believe_3 rfl (lv_at hl 1 rfl) ?_
  refine q_get (v := .ref q_sound) C inX8 hK hP 0 rfl rfl 0 (by decide) rfl L27 rfl dX8_believe_4 ?_
  refine q_getN (v := .int 0) C hN inX5 hK hP 1 rfl rfl 6 (by decide) rfl nwF_X8_39 rfl dX8_believe_7 ?_
  refine lv_icmp_ge (tgt := 101) hx hb dX8_believe_10 (by decide) (fun _ => ?_) (fun h => absurd (by decide +kernel) h)
  exact q_vret C hr hlocks hK hP hD hS (Nat.le_of_ble_eq_true rfl) (Nat.le_of_ble_eq_true rfl) dX8_believe_101 (rfl)

set_option maxHeartbeats 4000000 in
set_option maxRecDepth 100000 in
theorem k_X8_sortByLies (l : Launch) (dC : Nat → ClassId) (dI : Nat → Nat → Nat) (cB cI cJ cZ cS : ClassId) (q_sound : Nat) (q_tellers : Nat) (q_byLies : Nat) (u_tellers_1 : Value) (u_tellers_2 : Value) (u_tellers_3 : Value) (u_tellers_4 : Value) (u_tellers_5 : Value) (u_tellers_7 : Value) (f_byLies : Nat → Int32) (u_sound_0 : Value) (u_sound_1 : Value) (u_sound_2 : Value) (u_sound_3 : Value) (u_sound_4 : Value) (u_sound_5 : Value) (u_sound_7 : Value) (u_sound_8 : Value) (u_sound_9 : Value) (x2 : Int32) : CV l yX8_sortByLies wsX8_sortByLies ({ frames := 1, cells := 0, slots := 0, locals := 23 }) (dC, dI) (tysA cB cI cJ cZ cS) [(q_tellers, .inr (8, [.ref q_sound, u_tellers_1, u_tellers_2, u_tellers_3, u_tellers_4, u_tellers_5, .ref q_byLies, u_tellers_7])), (q_byLies, .inl (cI, 4, .inl f_byLies)), (q_sound, .inr (5, [u_sound_0, u_sound_1, u_sound_2, u_sound_3, u_sound_4, u_sound_5, .int 0, u_sound_7, u_sound_8, u_sound_9]))] [.ref q_tellers, .int (-1), .int x2] (fun w => ∃ φf1 : Nat → Int32, (∀ j, j < 4 → φf1 j = 0) ∧ w = [(q_tellers, .inr (8, [.ref q_sound, u_tellers_1, u_tellers_2, u_tellers_3, u_tellers_4, u_tellers_5, .ref q_byLies, u_tellers_7])), (q_byLies, .inl (cI, 4, .inl (upd φf1 0 1))), (q_sound, .inr (5, [u_sound_0, u_sound_1, u_sound_2, u_sound_3, u_sound_4, u_sound_5, .int 0, u_sound_7, u_sound_8, u_sound_9]))]) := by
  refine open_V (cc := cX8_sortByLies) (maxL := 5) (ret := none) (by decide) rfl (Nat.le_of_ble_eq_true rfl) ?_
  intro p e s m below meth c A ls E
  obtain ⟨C, hr, hlocks, hnm, hA, hP, hK, hD, hN, hl⟩ := E
  obtain ⟨hx, hb, hml, hown, hts⟩ := id C
  have hS : va_S A s.heap s.heap [] := va_S.rf
  have hl : lv_has ls 5 [(0, .ref q_tellers), (1, .int (-1)), (2, .int x2)] := hl
  have inX5 : ∀ w ∈ u_ws RX5 TX5 10, w ∈ wsX8_sortByLies := fun _ h => List.mem_cons_of_mem _ (List.mem_append_right _ h)
  have inX8 : ∀ w ∈ u_ws RX8 TX8 8, w ∈ wsX8_sortByLies := fun _ h => List.mem_cons_of_mem _ (List.mem_append_left _ (List.mem_append_right _ h))
  have L24 : Cond.fieldLink RX8 24 "GuessFerry$Tellers" "byLies" "[I" ∈ wsX8_sortByLies := by decide +kernel
  have L27 : Cond.fieldLink RX8 27 "GuessFerry$Tellers" "sound" "LGuessFerry$Sound;" ∈ wsX8_sortByLies := by decide +kernel
  refine lv_aload_n hx hb dX8_sortByLies_0 rfl (lv_at hl 0 rfl) ?_
  refine q_get (v := .ref q_byLies) C inX8 hK hP 0 rfl rfl 6 (by decide) rfl L24 rfl dX8_sortByLies_1 ?_
  refine lv_iconst (v := 0) hx hb dX8_sortByLies_4 (by decide) ?_
  refine q_gov (wr := [(q_tellers, .inr (8, [.ref q_sound, u_tellers_1, u_tellers_2, u_tellers_3, u_tellers_4, u_tellers_5, .ref q_byLies, u_tellers_7])), (q_sound, .inr (5, [u_sound_0, u_sound_1, u_sound_2, u_sound_3, u_sound_4, u_sound_5, .int 0, u_sound_7, u_sound_8, u_sound_9]))]) (va_runS (As := [.ref q_byLies, .int 0]) (rest := []) C (k_fill4 l dC dI cB cI cJ cZ cS (q_byLies) (f_byLies) 0 _) (va_cwS 2 hts gX8_sortByLies_J7_fill_53178 rfl rfl rfl (by decide +kernel) ⟨Nat.le_of_ble_eq_true rfl, Nat.le_of_ble_eq_true rfl⟩) (q_pre hN hK hP hD [1] rfl (by decide)) rfl rfl hl.1 rfl (lv_room (Nat.le_of_ble_eq_true rfl)) dX8_sortByLies_5 ⟨Nat.le_of_ble_eq_true rfl, Nat.le_of_ble_eq_true rfl⟩) hP hD hS hA [1] [0, 2] rfl rfl (by decide) (by decide) (fun w1 H locs hw hP hD hS => ?_)
  obtain ⟨φf1, hφf2, rfl⟩ := hw
  have hP : va_P (dC, dI) vwCl [(q_tellers, .inr (8, [.ref q_sound, u_tellers_1, u_tellers_2, u_tellers_3, u_tellers_4, u_tellers_5, .ref q_byLies, u_tellers_7])), (q_byLies, .inl (cI, 4, .inl φf1)), (q_sound, .inr (5, [u_sound_0, u_sound_1, u_sound_2, u_sound_3, u_sound_4, u_sound_5, .int 0, u_sound_7, u_sound_8, u_sound_9]))] H := hP.sub [0, 2, 1] rfl
  have hD : va_D A [(q_tellers, .inr (8, [.ref q_sound, u_tellers_1, u_tellers_2, u_tellers_3, u_tellers_4, u_tellers_5, .ref q_byLies, u_tellers_7])), (q_byLies, .inl (cI, 4, .inl φf1)), (q_sound, .inr (5, [u_sound_0, u_sound_1, u_sound_2, u_sound_3, u_sound_4, u_sound_5, .int 0, u_sound_7, u_sound_8, u_sound_9]))] := hD.sub [0, 2, 1] (by decide) rfl
  refine lv_aload_n hx hb dX8_sortByLies_8 rfl (lv_at hl 0 rfl) ?_
  refine q_get (v := .ref q_byLies) C inX8 hK hP 0 rfl rfl 6 (by decide) rfl L24 rfl dX8_sortByLies_9 ?_
  refine lv_iconst (v := 0) hx hb dX8_sortByLies_12 (by decide) ?_
  refine lv_iconst (v := 1) hx hb dX8_sortByLies_13 (by decide) ?_
  refine q_iast (f2 := (upd φf1 0 1)) (w2 := [(q_tellers, .inr (8, [.ref q_sound, u_tellers_1, u_tellers_2, u_tellers_3, u_tellers_4, u_tellers_5, .ref q_byLies, u_tellers_7])), (q_byLies, .inl (cI, 4, .inl (upd φf1 0 1))), (q_sound, .inr (5, [u_sound_0, u_sound_1, u_sound_2, u_sound_3, u_sound_4, u_sound_5, .int 0, u_sound_7, u_sound_8, u_sound_9]))]) C hK hP hD hS 1 1 rfl rfl (vp_lit (by decide +kernel)) dX8_sortByLies_14 rfl rfl (fun H locs hP hD hS => ?_)
  refine lv_iconst (v := 0) hx hb dX8_sortByLies_15 (by decide) ?_
  refine lv_istore_n (lv' := [(3, .int 0), (0, .ref q_tellers), (1, .int (-1)), (2, .int x2)]) hx hb dX8_sortByLies_16 rfl hl (by decide) rfl (fun ls hl => ?_)
  refine lv_iload_n hx hb dX8_sortByLies_17 rfl (lv_at hl 0 rfl) ?_
  refine lv_aload_n hx hb dX8_sortByLies_18 rfl (lv_at hl 1 rfl) ?_
  refine q_get (v := .ref q_sound) C inX8 hK hP 0 rfl rfl 0 (by decide) rfl L27 rfl dX8_sortByLies_19 ?_
  refine q_getN (v := .int 0) C hN inX5 hK hP 2 rfl rfl 6 (by decide) rfl nwF_X8_39 rfl dX8_sortByLies_22 ?_
  refine lv_icmp_ge (tgt := 68) hx hb dX8_sortByLies_25 (by decide) (fun _ => ?_) (fun h => absurd (by decide +kernel) h)
  exact q_vret C hr hlocks hK hP hD hS (Nat.le_of_ble_eq_true rfl) (Nat.le_of_ble_eq_true rfl) dX8_sortByLies_68 (⟨φf1, hφf2, rfl⟩)

set_option maxHeartbeats 4000000 in
set_option maxRecDepth 100000 in
theorem k_upTo0 (l : Launch) (dC : Nat → ClassId) (dI : Nat → Nat → Nat) (cB cI cJ cZ cS : ClassId) (q_tellers : Nat) (q_byLies : Nat) (u_tellers_0 : Value) (u_tellers_1 : Value) (u_tellers_2 : Value) (u_tellers_3 : Value) (u_tellers_4 : Value) (u_tellers_5 : Value) (u_tellers_7 : Value) (f_byLies : Nat → Int32) (h_byLies_0 : f_byLies 0 = 1) : CI l yX8_upTo wsX8_upTo ({ frames := 0, cells := 0, slots := 0, locals := 0 }) (dC, dI) (tysA cB cI cJ cZ cS) [(q_tellers, .inr (8, [u_tellers_0, u_tellers_1, u_tellers_2, u_tellers_3, u_tellers_4, u_tellers_5, .ref q_byLies, u_tellers_7])), (q_byLies, .inl (cI, 4, .inl f_byLies))] [.ref q_tellers, .int 0] (fun r w => w = [(q_tellers, .inr (8, [u_tellers_0, u_tellers_1, u_tellers_2, u_tellers_3, u_tellers_4, u_tellers_5, .ref q_byLies, u_tellers_7])), (q_byLies, .inl (cI, 4, .inl f_byLies))] ∧ r = 1) := by
  refine open_I (cc := cX8_upTo) (maxL := 4) (ret := (some .int)) (by decide) rfl (Nat.le_of_ble_eq_true rfl) ?_
  intro p e s m below meth c A ls E
  obtain ⟨C, hr, hlocks, hnm, hA, hP, hK, hD, hN, hl⟩ := E
  obtain ⟨hx, hb, hml, hown, hts⟩ := id C
  have hS : va_S A s.heap s.heap [] := va_S.rf
  have hl : lv_has ls 4 [(0, .ref q_tellers), (1, .int 0)] := hl
  have inX8 : ∀ w ∈ u_ws RX8 TX8 8, w ∈ wsX8_upTo := fun _ h => List.mem_cons_of_mem _ (List.mem_append_right _ h)
  have L24 : Cond.fieldLink RX8 24 "GuessFerry$Tellers" "byLies" "[I" ∈ wsX8_upTo := by decide +kernel
  refine lv_iconst (v := 0) hx hb dX8_upTo_0 (by decide) ?_
  refine lv_istore_n (lv' := [(2, .int 0), (0, .ref q_tellers), (1, .int 0)]) hx hb dX8_upTo_1 rfl hl (by decide) rfl (fun ls hl => ?_)
  refine lv_iconst (v := 0) hx hb dX8_upTo_2 (by decide) ?_
  refine lv_istore_n (lv' := [(3, .int 0), (2, .int 0), (0, .ref q_tellers), (1, .int 0)]) hx hb dX8_upTo_3 rfl hl (by decide) rfl (fun ls hl => ?_)
  refine lv_iload_n hx hb dX8_upTo_4 rfl (lv_at hl 0 rfl) ?_
  refine lv_iload_n hx hb dX8_upTo_5 rfl (lv_at hl 3 rfl) ?_
  refine lv_icmp_gt (tgt := 29) hx hb dX8_upTo_6 (by decide) (fun h => absurd h (by decide +kernel)) (fun _ => ?_)
  refine lv_iload_n hx hb dX8_upTo_9 rfl (lv_at hl 0 rfl) ?_
  refine lv_iconst (v := 3) hx hb dX8_upTo_10 (by decide) ?_
  refine lv_icmp_gt (tgt := 29) hx hb dX8_upTo_11 (by decide) (fun h => absurd h (by decide +kernel)) (fun _ => ?_)
  refine lv_iload_n hx hb dX8_upTo_14 rfl (lv_at hl 1 rfl) ?_
  refine lv_aload_n hx hb dX8_upTo_15 rfl (lv_at hl 2 rfl) ?_
  refine q_get (v := .ref q_byLies) C inX8 hK hP 0 rfl rfl 6 (by decide) rfl L24 rfl dX8_upTo_16 ?_
  refine lv_iload_n hx hb dX8_upTo_19 rfl (lv_at hl 0 rfl) ?_
  refine q_iald (x := 1) C hK hP 1 1 rfl rfl (vp_lit (by decide +kernel)) dX8_upTo_20 (h_byLies_0) ?_
  refine lv_iadd hx hb dX8_upTo_21 ?_
  refine q_top (y := 1) (by decide +kernel) ?_
  refine lv_istore_n (lv' := [(2, .int 1), (3, .int 0), (0, .ref q_tellers), (1, .int 0)]) hx hb dX8_upTo_22 rfl hl (by decide) rfl (fun ls hl => ?_)
  refine lv_iinc (v := 1) (lv' := [(3, .int 1), (2, .int 1), (0, .ref q_tellers), (1, .int 0)]) hx hb dX8_upTo_23 hl (k := 1) rfl (by decide +kernel) (by decide) rfl (fun ls hl => ?_)
  refine lv_goto (tgt := 4) hx hb dX8_upTo_26 (by decide) ?_
  refine lv_iload_n hx hb dX8_upTo_4 rfl (lv_at hl 0 rfl) ?_
  refine lv_iload_n hx hb dX8_upTo_5 rfl (lv_at hl 3 rfl) ?_
  refine lv_icmp_gt (tgt := 29) hx hb dX8_upTo_6 (by decide) (fun _ => ?_) (fun h => absurd (by decide +kernel) h)
  refine lv_iload_n hx hb dX8_upTo_29 rfl (lv_at hl 1 rfl) ?_
  exact q_iret C hr hlocks hK hP hD hS (Nat.le_of_ble_eq_true rfl) (Nat.le_of_ble_eq_true rfl) dX8_upTo_30 (⟨rfl, rfl⟩)

set_option maxHeartbeats 4000000 in
set_option maxRecDepth 100000 in
theorem k_upTo1 (l : Launch) (dC : Nat → ClassId) (dI : Nat → Nat → Nat) (cB cI cJ cZ cS : ClassId) (q_tellers : Nat) (q_byLies : Nat) (u_tellers_0 : Value) (u_tellers_1 : Value) (u_tellers_2 : Value) (u_tellers_3 : Value) (u_tellers_4 : Value) (u_tellers_5 : Value) (u_tellers_7 : Value) (f_byLies : Nat → Int32) (h_byLies_0 : f_byLies 0 = 1) (h_byLies_1 : f_byLies 1 = 0) : CI l yX8_upTo wsX8_upTo ({ frames := 0, cells := 0, slots := 0, locals := 0 }) (dC, dI) (tysA cB cI cJ cZ cS) [(q_tellers, .inr (8, [u_tellers_0, u_tellers_1, u_tellers_2, u_tellers_3, u_tellers_4, u_tellers_5, .ref q_byLies, u_tellers_7])), (q_byLies, .inl (cI, 4, .inl f_byLies))] [.ref q_tellers, .int 1] (fun r w => w = [(q_tellers, .inr (8, [u_tellers_0, u_tellers_1, u_tellers_2, u_tellers_3, u_tellers_4, u_tellers_5, .ref q_byLies, u_tellers_7])), (q_byLies, .inl (cI, 4, .inl f_byLies))] ∧ r = 1) := by
  refine open_I (cc := cX8_upTo) (maxL := 4) (ret := (some .int)) (by decide) rfl (Nat.le_of_ble_eq_true rfl) ?_
  intro p e s m below meth c A ls E
  obtain ⟨C, hr, hlocks, hnm, hA, hP, hK, hD, hN, hl⟩ := E
  obtain ⟨hx, hb, hml, hown, hts⟩ := id C
  have hS : va_S A s.heap s.heap [] := va_S.rf
  have hl : lv_has ls 4 [(0, .ref q_tellers), (1, .int 1)] := hl
  have inX8 : ∀ w ∈ u_ws RX8 TX8 8, w ∈ wsX8_upTo := fun _ h => List.mem_cons_of_mem _ (List.mem_append_right _ h)
  have L24 : Cond.fieldLink RX8 24 "GuessFerry$Tellers" "byLies" "[I" ∈ wsX8_upTo := by decide +kernel
  refine lv_iconst (v := 0) hx hb dX8_upTo_0 (by decide) ?_
  refine lv_istore_n (lv' := [(2, .int 0), (0, .ref q_tellers), (1, .int 1)]) hx hb dX8_upTo_1 rfl hl (by decide) rfl (fun ls hl => ?_)
  refine lv_iconst (v := 0) hx hb dX8_upTo_2 (by decide) ?_
  refine lv_istore_n (lv' := [(3, .int 0), (2, .int 0), (0, .ref q_tellers), (1, .int 1)]) hx hb dX8_upTo_3 rfl hl (by decide) rfl (fun ls hl => ?_)
  refine lv_iload_n hx hb dX8_upTo_4 rfl (lv_at hl 0 rfl) ?_
  refine lv_iload_n hx hb dX8_upTo_5 rfl (lv_at hl 3 rfl) ?_
  refine lv_icmp_gt (tgt := 29) hx hb dX8_upTo_6 (by decide) (fun h => absurd h (by decide +kernel)) (fun _ => ?_)
  refine lv_iload_n hx hb dX8_upTo_9 rfl (lv_at hl 0 rfl) ?_
  refine lv_iconst (v := 3) hx hb dX8_upTo_10 (by decide) ?_
  refine lv_icmp_gt (tgt := 29) hx hb dX8_upTo_11 (by decide) (fun h => absurd h (by decide +kernel)) (fun _ => ?_)
  refine lv_iload_n hx hb dX8_upTo_14 rfl (lv_at hl 1 rfl) ?_
  refine lv_aload_n hx hb dX8_upTo_15 rfl (lv_at hl 2 rfl) ?_
  refine q_get (v := .ref q_byLies) C inX8 hK hP 0 rfl rfl 6 (by decide) rfl L24 rfl dX8_upTo_16 ?_
  refine lv_iload_n hx hb dX8_upTo_19 rfl (lv_at hl 0 rfl) ?_
  refine q_iald (x := 1) C hK hP 1 1 rfl rfl (vp_lit (by decide +kernel)) dX8_upTo_20 (h_byLies_0) ?_
  refine lv_iadd hx hb dX8_upTo_21 ?_
  refine q_top (y := 1) (by decide +kernel) ?_
  refine lv_istore_n (lv' := [(2, .int 1), (3, .int 0), (0, .ref q_tellers), (1, .int 1)]) hx hb dX8_upTo_22 rfl hl (by decide) rfl (fun ls hl => ?_)
  refine lv_iinc (v := 1) (lv' := [(3, .int 1), (2, .int 1), (0, .ref q_tellers), (1, .int 1)]) hx hb dX8_upTo_23 hl (k := 1) rfl (by decide +kernel) (by decide) rfl (fun ls hl => ?_)
  refine lv_goto (tgt := 4) hx hb dX8_upTo_26 (by decide) ?_
  refine lv_iload_n hx hb dX8_upTo_4 rfl (lv_at hl 0 rfl) ?_
  refine lv_iload_n hx hb dX8_upTo_5 rfl (lv_at hl 3 rfl) ?_
  refine lv_icmp_gt (tgt := 29) hx hb dX8_upTo_6 (by decide) (fun h => absurd h (by decide +kernel)) (fun _ => ?_)
  refine lv_iload_n hx hb dX8_upTo_9 rfl (lv_at hl 0 rfl) ?_
  refine lv_iconst (v := 3) hx hb dX8_upTo_10 (by decide) ?_
  refine lv_icmp_gt (tgt := 29) hx hb dX8_upTo_11 (by decide) (fun h => absurd h (by decide +kernel)) (fun _ => ?_)
  refine lv_iload_n hx hb dX8_upTo_14 rfl (lv_at hl 1 rfl) ?_
  refine lv_aload_n hx hb dX8_upTo_15 rfl (lv_at hl 2 rfl) ?_
  refine q_get (v := .ref q_byLies) C inX8 hK hP 0 rfl rfl 6 (by decide) rfl L24 rfl dX8_upTo_16 ?_
  refine lv_iload_n hx hb dX8_upTo_19 rfl (lv_at hl 0 rfl) ?_
  refine q_iald (x := 0) C hK hP 1 1 rfl rfl (vp_lit (by decide +kernel)) dX8_upTo_20 (h_byLies_1) ?_
  refine lv_iadd hx hb dX8_upTo_21 ?_
  refine q_top (y := 1) (by decide +kernel) ?_
  refine lv_istore_n (lv' := [(2, .int 1), (3, .int 1), (0, .ref q_tellers), (1, .int 1)]) hx hb dX8_upTo_22 rfl hl (by decide) rfl (fun ls hl => ?_)
  refine lv_iinc (v := 2) (lv' := [(3, .int 2), (2, .int 1), (0, .ref q_tellers), (1, .int 1)]) hx hb dX8_upTo_23 hl (k := 1) rfl (by decide +kernel) (by decide) rfl (fun ls hl => ?_)
  refine lv_goto (tgt := 4) hx hb dX8_upTo_26 (by decide) ?_
  refine lv_iload_n hx hb dX8_upTo_4 rfl (lv_at hl 0 rfl) ?_
  refine lv_iload_n hx hb dX8_upTo_5 rfl (lv_at hl 3 rfl) ?_
  refine lv_icmp_gt (tgt := 29) hx hb dX8_upTo_6 (by decide) (fun _ => ?_) (fun h => absurd (by decide +kernel) h)
  refine lv_iload_n hx hb dX8_upTo_29 rfl (lv_at hl 1 rfl) ?_
  exact q_iret C hr hlocks hK hP hD hS (Nat.le_of_ble_eq_true rfl) (Nat.le_of_ble_eq_true rfl) dX8_upTo_30 (⟨rfl, rfl⟩)

set_option maxHeartbeats 4000000 in
set_option maxRecDepth 100000 in
theorem k_upTo2 (l : Launch) (dC : Nat → ClassId) (dI : Nat → Nat → Nat) (cB cI cJ cZ cS : ClassId) (q_tellers : Nat) (q_byLies : Nat) (u_tellers_0 : Value) (u_tellers_1 : Value) (u_tellers_2 : Value) (u_tellers_3 : Value) (u_tellers_4 : Value) (u_tellers_5 : Value) (u_tellers_7 : Value) (f_byLies : Nat → Int32) (h_byLies_0 : f_byLies 0 = 1) (h_byLies_1 : f_byLies 1 = 0) (h_byLies_2 : f_byLies 2 = 0) : CI l yX8_upTo wsX8_upTo ({ frames := 0, cells := 0, slots := 0, locals := 0 }) (dC, dI) (tysA cB cI cJ cZ cS) [(q_tellers, .inr (8, [u_tellers_0, u_tellers_1, u_tellers_2, u_tellers_3, u_tellers_4, u_tellers_5, .ref q_byLies, u_tellers_7])), (q_byLies, .inl (cI, 4, .inl f_byLies))] [.ref q_tellers, .int 2] (fun r w => w = [(q_tellers, .inr (8, [u_tellers_0, u_tellers_1, u_tellers_2, u_tellers_3, u_tellers_4, u_tellers_5, .ref q_byLies, u_tellers_7])), (q_byLies, .inl (cI, 4, .inl f_byLies))] ∧ r = 1) := by
  refine open_I (cc := cX8_upTo) (maxL := 4) (ret := (some .int)) (by decide) rfl (Nat.le_of_ble_eq_true rfl) ?_
  intro p e s m below meth c A ls E
  obtain ⟨C, hr, hlocks, hnm, hA, hP, hK, hD, hN, hl⟩ := E
  obtain ⟨hx, hb, hml, hown, hts⟩ := id C
  have hS : va_S A s.heap s.heap [] := va_S.rf
  have hl : lv_has ls 4 [(0, .ref q_tellers), (1, .int 2)] := hl
  have inX8 : ∀ w ∈ u_ws RX8 TX8 8, w ∈ wsX8_upTo := fun _ h => List.mem_cons_of_mem _ (List.mem_append_right _ h)
  have L24 : Cond.fieldLink RX8 24 "GuessFerry$Tellers" "byLies" "[I" ∈ wsX8_upTo := by decide +kernel
  refine lv_iconst (v := 0) hx hb dX8_upTo_0 (by decide) ?_
  refine lv_istore_n (lv' := [(2, .int 0), (0, .ref q_tellers), (1, .int 2)]) hx hb dX8_upTo_1 rfl hl (by decide) rfl (fun ls hl => ?_)
  refine lv_iconst (v := 0) hx hb dX8_upTo_2 (by decide) ?_
  refine lv_istore_n (lv' := [(3, .int 0), (2, .int 0), (0, .ref q_tellers), (1, .int 2)]) hx hb dX8_upTo_3 rfl hl (by decide) rfl (fun ls hl => ?_)
  refine lv_iload_n hx hb dX8_upTo_4 rfl (lv_at hl 0 rfl) ?_
  refine lv_iload_n hx hb dX8_upTo_5 rfl (lv_at hl 3 rfl) ?_
  refine lv_icmp_gt (tgt := 29) hx hb dX8_upTo_6 (by decide) (fun h => absurd h (by decide +kernel)) (fun _ => ?_)
  refine lv_iload_n hx hb dX8_upTo_9 rfl (lv_at hl 0 rfl) ?_
  refine lv_iconst (v := 3) hx hb dX8_upTo_10 (by decide) ?_
  refine lv_icmp_gt (tgt := 29) hx hb dX8_upTo_11 (by decide) (fun h => absurd h (by decide +kernel)) (fun _ => ?_)
  refine lv_iload_n hx hb dX8_upTo_14 rfl (lv_at hl 1 rfl) ?_
  refine lv_aload_n hx hb dX8_upTo_15 rfl (lv_at hl 2 rfl) ?_
  refine q_get (v := .ref q_byLies) C inX8 hK hP 0 rfl rfl 6 (by decide) rfl L24 rfl dX8_upTo_16 ?_
  refine lv_iload_n hx hb dX8_upTo_19 rfl (lv_at hl 0 rfl) ?_
  refine q_iald (x := 1) C hK hP 1 1 rfl rfl (vp_lit (by decide +kernel)) dX8_upTo_20 (h_byLies_0) ?_
  refine lv_iadd hx hb dX8_upTo_21 ?_
  refine q_top (y := 1) (by decide +kernel) ?_
  refine lv_istore_n (lv' := [(2, .int 1), (3, .int 0), (0, .ref q_tellers), (1, .int 2)]) hx hb dX8_upTo_22 rfl hl (by decide) rfl (fun ls hl => ?_)
  refine lv_iinc (v := 1) (lv' := [(3, .int 1), (2, .int 1), (0, .ref q_tellers), (1, .int 2)]) hx hb dX8_upTo_23 hl (k := 1) rfl (by decide +kernel) (by decide) rfl (fun ls hl => ?_)
  refine lv_goto (tgt := 4) hx hb dX8_upTo_26 (by decide) ?_
  refine lv_iload_n hx hb dX8_upTo_4 rfl (lv_at hl 0 rfl) ?_
  refine lv_iload_n hx hb dX8_upTo_5 rfl (lv_at hl 3 rfl) ?_
  refine lv_icmp_gt (tgt := 29) hx hb dX8_upTo_6 (by decide) (fun h => absurd h (by decide +kernel)) (fun _ => ?_)
  refine lv_iload_n hx hb dX8_upTo_9 rfl (lv_at hl 0 rfl) ?_
  refine lv_iconst (v := 3) hx hb dX8_upTo_10 (by decide) ?_
  refine lv_icmp_gt (tgt := 29) hx hb dX8_upTo_11 (by decide) (fun h => absurd h (by decide +kernel)) (fun _ => ?_)
  refine lv_iload_n hx hb dX8_upTo_14 rfl (lv_at hl 1 rfl) ?_
  refine lv_aload_n hx hb dX8_upTo_15 rfl (lv_at hl 2 rfl) ?_
  refine q_get (v := .ref q_byLies) C inX8 hK hP 0 rfl rfl 6 (by decide) rfl L24 rfl dX8_upTo_16 ?_
  refine lv_iload_n hx hb dX8_upTo_19 rfl (lv_at hl 0 rfl) ?_
  refine q_iald (x := 0) C hK hP 1 1 rfl rfl (vp_lit (by decide +kernel)) dX8_upTo_20 (h_byLies_1) ?_
  refine lv_iadd hx hb dX8_upTo_21 ?_
  refine q_top (y := 1) (by decide +kernel) ?_
  refine lv_istore_n (lv' := [(2, .int 1), (3, .int 1), (0, .ref q_tellers), (1, .int 2)]) hx hb dX8_upTo_22 rfl hl (by decide) rfl (fun ls hl => ?_)
  refine lv_iinc (v := 2) (lv' := [(3, .int 2), (2, .int 1), (0, .ref q_tellers), (1, .int 2)]) hx hb dX8_upTo_23 hl (k := 1) rfl (by decide +kernel) (by decide) rfl (fun ls hl => ?_)
  refine lv_goto (tgt := 4) hx hb dX8_upTo_26 (by decide) ?_
  refine lv_iload_n hx hb dX8_upTo_4 rfl (lv_at hl 0 rfl) ?_
  refine lv_iload_n hx hb dX8_upTo_5 rfl (lv_at hl 3 rfl) ?_
  refine lv_icmp_gt (tgt := 29) hx hb dX8_upTo_6 (by decide) (fun h => absurd h (by decide +kernel)) (fun _ => ?_)
  refine lv_iload_n hx hb dX8_upTo_9 rfl (lv_at hl 0 rfl) ?_
  refine lv_iconst (v := 3) hx hb dX8_upTo_10 (by decide) ?_
  refine lv_icmp_gt (tgt := 29) hx hb dX8_upTo_11 (by decide) (fun h => absurd h (by decide +kernel)) (fun _ => ?_)
  refine lv_iload_n hx hb dX8_upTo_14 rfl (lv_at hl 1 rfl) ?_
  refine lv_aload_n hx hb dX8_upTo_15 rfl (lv_at hl 2 rfl) ?_
  refine q_get (v := .ref q_byLies) C inX8 hK hP 0 rfl rfl 6 (by decide) rfl L24 rfl dX8_upTo_16 ?_
  refine lv_iload_n hx hb dX8_upTo_19 rfl (lv_at hl 0 rfl) ?_
  refine q_iald (x := 0) C hK hP 1 1 rfl rfl (vp_lit (by decide +kernel)) dX8_upTo_20 (h_byLies_2) ?_
  refine lv_iadd hx hb dX8_upTo_21 ?_
  refine q_top (y := 1) (by decide +kernel) ?_
  refine lv_istore_n (lv' := [(2, .int 1), (3, .int 2), (0, .ref q_tellers), (1, .int 2)]) hx hb dX8_upTo_22 rfl hl (by decide) rfl (fun ls hl => ?_)
  refine lv_iinc (v := 3) (lv' := [(3, .int 3), (2, .int 1), (0, .ref q_tellers), (1, .int 2)]) hx hb dX8_upTo_23 hl (k := 1) rfl (by decide +kernel) (by decide) rfl (fun ls hl => ?_)
  refine lv_goto (tgt := 4) hx hb dX8_upTo_26 (by decide) ?_
  refine lv_iload_n hx hb dX8_upTo_4 rfl (lv_at hl 0 rfl) ?_
  refine lv_iload_n hx hb dX8_upTo_5 rfl (lv_at hl 3 rfl) ?_
  refine lv_icmp_gt (tgt := 29) hx hb dX8_upTo_6 (by decide) (fun _ => ?_) (fun h => absurd (by decide +kernel) h)
  refine lv_iload_n hx hb dX8_upTo_29 rfl (lv_at hl 1 rfl) ?_
  exact q_iret C hr hlocks hK hP hD hS (Nat.le_of_ble_eq_true rfl) (Nat.le_of_ble_eq_true rfl) dX8_upTo_30 (⟨rfl, rfl⟩)

set_option maxHeartbeats 4000000 in
set_option maxRecDepth 100000 in
theorem k_upTo3 (l : Launch) (dC : Nat → ClassId) (dI : Nat → Nat → Nat) (cB cI cJ cZ cS : ClassId) (q_tellers : Nat) (q_byLies : Nat) (u_tellers_0 : Value) (u_tellers_1 : Value) (u_tellers_2 : Value) (u_tellers_3 : Value) (u_tellers_4 : Value) (u_tellers_5 : Value) (u_tellers_7 : Value) (f_byLies : Nat → Int32) (h_byLies_0 : f_byLies 0 = 1) (h_byLies_1 : f_byLies 1 = 0) (h_byLies_2 : f_byLies 2 = 0) (h_byLies_3 : f_byLies 3 = 0) : CI l yX8_upTo wsX8_upTo ({ frames := 0, cells := 0, slots := 0, locals := 0 }) (dC, dI) (tysA cB cI cJ cZ cS) [(q_tellers, .inr (8, [u_tellers_0, u_tellers_1, u_tellers_2, u_tellers_3, u_tellers_4, u_tellers_5, .ref q_byLies, u_tellers_7])), (q_byLies, .inl (cI, 4, .inl f_byLies))] [.ref q_tellers, .int 3] (fun r w => w = [(q_tellers, .inr (8, [u_tellers_0, u_tellers_1, u_tellers_2, u_tellers_3, u_tellers_4, u_tellers_5, .ref q_byLies, u_tellers_7])), (q_byLies, .inl (cI, 4, .inl f_byLies))] ∧ r = 1) := by
  refine open_I (cc := cX8_upTo) (maxL := 4) (ret := (some .int)) (by decide) rfl (Nat.le_of_ble_eq_true rfl) ?_
  intro p e s m below meth c A ls E
  obtain ⟨C, hr, hlocks, hnm, hA, hP, hK, hD, hN, hl⟩ := E
  obtain ⟨hx, hb, hml, hown, hts⟩ := id C
  have hS : va_S A s.heap s.heap [] := va_S.rf
  have hl : lv_has ls 4 [(0, .ref q_tellers), (1, .int 3)] := hl
  have inX8 : ∀ w ∈ u_ws RX8 TX8 8, w ∈ wsX8_upTo := fun _ h => List.mem_cons_of_mem _ (List.mem_append_right _ h)
  have L24 : Cond.fieldLink RX8 24 "GuessFerry$Tellers" "byLies" "[I" ∈ wsX8_upTo := by decide +kernel
  refine lv_iconst (v := 0) hx hb dX8_upTo_0 (by decide) ?_
  refine lv_istore_n (lv' := [(2, .int 0), (0, .ref q_tellers), (1, .int 3)]) hx hb dX8_upTo_1 rfl hl (by decide) rfl (fun ls hl => ?_)
  refine lv_iconst (v := 0) hx hb dX8_upTo_2 (by decide) ?_
  refine lv_istore_n (lv' := [(3, .int 0), (2, .int 0), (0, .ref q_tellers), (1, .int 3)]) hx hb dX8_upTo_3 rfl hl (by decide) rfl (fun ls hl => ?_)
  refine lv_iload_n hx hb dX8_upTo_4 rfl (lv_at hl 0 rfl) ?_
  refine lv_iload_n hx hb dX8_upTo_5 rfl (lv_at hl 3 rfl) ?_
  refine lv_icmp_gt (tgt := 29) hx hb dX8_upTo_6 (by decide) (fun h => absurd h (by decide +kernel)) (fun _ => ?_)
  refine lv_iload_n hx hb dX8_upTo_9 rfl (lv_at hl 0 rfl) ?_
  refine lv_iconst (v := 3) hx hb dX8_upTo_10 (by decide) ?_
  refine lv_icmp_gt (tgt := 29) hx hb dX8_upTo_11 (by decide) (fun h => absurd h (by decide +kernel)) (fun _ => ?_)
  refine lv_iload_n hx hb dX8_upTo_14 rfl (lv_at hl 1 rfl) ?_
  refine lv_aload_n hx hb dX8_upTo_15 rfl (lv_at hl 2 rfl) ?_
  refine q_get (v := .ref q_byLies) C inX8 hK hP 0 rfl rfl 6 (by decide) rfl L24 rfl dX8_upTo_16 ?_
  refine lv_iload_n hx hb dX8_upTo_19 rfl (lv_at hl 0 rfl) ?_
  refine q_iald (x := 1) C hK hP 1 1 rfl rfl (vp_lit (by decide +kernel)) dX8_upTo_20 (h_byLies_0) ?_
  refine lv_iadd hx hb dX8_upTo_21 ?_
  refine q_top (y := 1) (by decide +kernel) ?_
  refine lv_istore_n (lv' := [(2, .int 1), (3, .int 0), (0, .ref q_tellers), (1, .int 3)]) hx hb dX8_upTo_22 rfl hl (by decide) rfl (fun ls hl => ?_)
  refine lv_iinc (v := 1) (lv' := [(3, .int 1), (2, .int 1), (0, .ref q_tellers), (1, .int 3)]) hx hb dX8_upTo_23 hl (k := 1) rfl (by decide +kernel) (by decide) rfl (fun ls hl => ?_)
  refine lv_goto (tgt := 4) hx hb dX8_upTo_26 (by decide) ?_
  refine lv_iload_n hx hb dX8_upTo_4 rfl (lv_at hl 0 rfl) ?_
  refine lv_iload_n hx hb dX8_upTo_5 rfl (lv_at hl 3 rfl) ?_
  refine lv_icmp_gt (tgt := 29) hx hb dX8_upTo_6 (by decide) (fun h => absurd h (by decide +kernel)) (fun _ => ?_)
  refine lv_iload_n hx hb dX8_upTo_9 rfl (lv_at hl 0 rfl) ?_
  refine lv_iconst (v := 3) hx hb dX8_upTo_10 (by decide) ?_
  refine lv_icmp_gt (tgt := 29) hx hb dX8_upTo_11 (by decide) (fun h => absurd h (by decide +kernel)) (fun _ => ?_)
  refine lv_iload_n hx hb dX8_upTo_14 rfl (lv_at hl 1 rfl) ?_
  refine lv_aload_n hx hb dX8_upTo_15 rfl (lv_at hl 2 rfl) ?_
  refine q_get (v := .ref q_byLies) C inX8 hK hP 0 rfl rfl 6 (by decide) rfl L24 rfl dX8_upTo_16 ?_
  refine lv_iload_n hx hb dX8_upTo_19 rfl (lv_at hl 0 rfl) ?_
  refine q_iald (x := 0) C hK hP 1 1 rfl rfl (vp_lit (by decide +kernel)) dX8_upTo_20 (h_byLies_1) ?_
  refine lv_iadd hx hb dX8_upTo_21 ?_
  refine q_top (y := 1) (by decide +kernel) ?_
  refine lv_istore_n (lv' := [(2, .int 1), (3, .int 1), (0, .ref q_tellers), (1, .int 3)]) hx hb dX8_upTo_22 rfl hl (by decide) rfl (fun ls hl => ?_)
  refine lv_iinc (v := 2) (lv' := [(3, .int 2), (2, .int 1), (0, .ref q_tellers), (1, .int 3)]) hx hb dX8_upTo_23 hl (k := 1) rfl (by decide +kernel) (by decide) rfl (fun ls hl => ?_)
  refine lv_goto (tgt := 4) hx hb dX8_upTo_26 (by decide) ?_
  refine lv_iload_n hx hb dX8_upTo_4 rfl (lv_at hl 0 rfl) ?_
  refine lv_iload_n hx hb dX8_upTo_5 rfl (lv_at hl 3 rfl) ?_
  refine lv_icmp_gt (tgt := 29) hx hb dX8_upTo_6 (by decide) (fun h => absurd h (by decide +kernel)) (fun _ => ?_)
  refine lv_iload_n hx hb dX8_upTo_9 rfl (lv_at hl 0 rfl) ?_
  refine lv_iconst (v := 3) hx hb dX8_upTo_10 (by decide) ?_
  refine lv_icmp_gt (tgt := 29) hx hb dX8_upTo_11 (by decide) (fun h => absurd h (by decide +kernel)) (fun _ => ?_)
  refine lv_iload_n hx hb dX8_upTo_14 rfl (lv_at hl 1 rfl) ?_
  refine lv_aload_n hx hb dX8_upTo_15 rfl (lv_at hl 2 rfl) ?_
  refine q_get (v := .ref q_byLies) C inX8 hK hP 0 rfl rfl 6 (by decide) rfl L24 rfl dX8_upTo_16 ?_
  refine lv_iload_n hx hb dX8_upTo_19 rfl (lv_at hl 0 rfl) ?_
  refine q_iald (x := 0) C hK hP 1 1 rfl rfl (vp_lit (by decide +kernel)) dX8_upTo_20 (h_byLies_2) ?_
  refine lv_iadd hx hb dX8_upTo_21 ?_
  refine q_top (y := 1) (by decide +kernel) ?_
  refine lv_istore_n (lv' := [(2, .int 1), (3, .int 2), (0, .ref q_tellers), (1, .int 3)]) hx hb dX8_upTo_22 rfl hl (by decide) rfl (fun ls hl => ?_)
  refine lv_iinc (v := 3) (lv' := [(3, .int 3), (2, .int 1), (0, .ref q_tellers), (1, .int 3)]) hx hb dX8_upTo_23 hl (k := 1) rfl (by decide +kernel) (by decide) rfl (fun ls hl => ?_)
  refine lv_goto (tgt := 4) hx hb dX8_upTo_26 (by decide) ?_
  refine lv_iload_n hx hb dX8_upTo_4 rfl (lv_at hl 0 rfl) ?_
  refine lv_iload_n hx hb dX8_upTo_5 rfl (lv_at hl 3 rfl) ?_
  refine lv_icmp_gt (tgt := 29) hx hb dX8_upTo_6 (by decide) (fun h => absurd h (by decide +kernel)) (fun _ => ?_)
  refine lv_iload_n hx hb dX8_upTo_9 rfl (lv_at hl 0 rfl) ?_
  refine lv_iconst (v := 3) hx hb dX8_upTo_10 (by decide) ?_
  refine lv_icmp_gt (tgt := 29) hx hb dX8_upTo_11 (by decide) (fun h => absurd h (by decide +kernel)) (fun _ => ?_)
  refine lv_iload_n hx hb dX8_upTo_14 rfl (lv_at hl 1 rfl) ?_
  refine lv_aload_n hx hb dX8_upTo_15 rfl (lv_at hl 2 rfl) ?_
  refine q_get (v := .ref q_byLies) C inX8 hK hP 0 rfl rfl 6 (by decide) rfl L24 rfl dX8_upTo_16 ?_
  refine lv_iload_n hx hb dX8_upTo_19 rfl (lv_at hl 0 rfl) ?_
  refine q_iald (x := 0) C hK hP 1 1 rfl rfl (vp_lit (by decide +kernel)) dX8_upTo_20 (h_byLies_3) ?_
  refine lv_iadd hx hb dX8_upTo_21 ?_
  refine q_top (y := 1) (by decide +kernel) ?_
  refine lv_istore_n (lv' := [(2, .int 1), (3, .int 3), (0, .ref q_tellers), (1, .int 3)]) hx hb dX8_upTo_22 rfl hl (by decide) rfl (fun ls hl => ?_)
  refine lv_iinc (v := 4) (lv' := [(3, .int 4), (2, .int 1), (0, .ref q_tellers), (1, .int 3)]) hx hb dX8_upTo_23 hl (k := 1) rfl (by decide +kernel) (by decide) rfl (fun ls hl => ?_)
  refine lv_goto (tgt := 4) hx hb dX8_upTo_26 (by decide) ?_
  refine lv_iload_n hx hb dX8_upTo_4 rfl (lv_at hl 0 rfl) ?_
  refine lv_iload_n hx hb dX8_upTo_5 rfl (lv_at hl 3 rfl) ?_
  refine lv_icmp_gt (tgt := 29) hx hb dX8_upTo_6 (by decide) (fun _ => ?_) (fun h => absurd (by decide +kernel) h)
  refine lv_iload_n hx hb dX8_upTo_29 rfl (lv_at hl 1 rfl) ?_
  exact q_iret C hr hlocks hK hP hD hS (Nat.le_of_ble_eq_true rfl) (Nat.le_of_ble_eq_true rfl) dX8_upTo_30 (⟨rfl, rfl⟩)

set_option maxHeartbeats 4000000 in
set_option maxRecDepth 100000 in
theorem k_fitting0 (l : Launch) (dC : Nat → ClassId) (dI : Nat → Nat → Nat) (cB cI cJ cZ cS : ClassId) (q_sound : Nat) (q_tellers : Nat) (q_byLies : Nat) (u_tellers_1 : Value) (u_tellers_2 : Value) (u_tellers_3 : Value) (u_tellers_4 : Value) (u_tellers_5 : Value) (u_tellers_7 : Value) (f_byLies : Nat → Int32) (u_sound_0 : Value) (u_sound_1 : Value) (u_sound_2 : Value) (u_sound_3 : Value) (u_sound_4 : Value) (u_sound_5 : Value) (u_sound_7 : Value) (u_sound_8 : Value) (u_sound_9 : Value) (x2 : Int32) : CI l yX8_fitting wsX8_fitting ({ frames := 2, cells := 0, slots := 0, locals := 47 }) (dC, dI) (tysA cB cI cJ cZ cS) [(q_tellers, .inr (8, [.ref q_sound, u_tellers_1, u_tellers_2, u_tellers_3, u_tellers_4, u_tellers_5, .ref q_byLies, u_tellers_7])), (q_byLies, .inl (cI, 4, .inl f_byLies)), (q_sound, .inr (5, [u_sound_0, u_sound_1, u_sound_2, u_sound_3, u_sound_4, u_sound_5, .int 0, u_sound_7, u_sound_8, u_sound_9]))] [.ref q_tellers, .int 0, .int x2] (fun r w => ∃ φf1 : Nat → Int32, (∀ j, j < 4 → φf1 j = 0) ∧ w = [(q_tellers, .inr (8, [.ref q_sound, u_tellers_1, u_tellers_2, u_tellers_3, u_tellers_4, u_tellers_5, .ref q_byLies, u_tellers_7])), (q_byLies, .inl (cI, 4, .inl (upd φf1 0 1))), (q_sound, .inr (5, [u_sound_0, u_sound_1, u_sound_2, u_sound_3, u_sound_4, u_sound_5, .int 0, u_sound_7, u_sound_8, u_sound_9]))] ∧ r = 1) := by
  refine open_I (cc := cX8_fitting) (maxL := 3) (ret := (some .int)) (by decide) rfl (Nat.le_of_ble_eq_true rfl) ?_
  intro p e s m below meth c A ls E
  obtain ⟨C, hr, hlocks, hnm, hA, hP, hK, hD, hN, hl⟩ := E
  obtain ⟨hx, hb, hml, hown, hts⟩ := id C
  have hS : va_S A s.heap s.heap [] := va_S.rf
  have hl : lv_has ls 3 [(0, .ref q_tellers), (1, .int 0), (2, .int x2)] := hl
  refine lv_aload_n hx hb dX8_fitting_0 rfl (lv_at hl 0 rfl) ?_
  refine lv_iconst (v := (-1)) hx hb dX8_fitting_1 (by decide) ?_
  refine lv_iload_n hx hb dX8_fitting_2 rfl (lv_at hl 2 rfl) ?_
  refine q_gov (wr := []) (va_runV (As := [.int (-1), .int x2]) (rest := []) C (k_X8_sortByLies l dC dI cB cI cJ cZ cS (q_sound) (q_tellers) (q_byLies) (u_tellers_1) (u_tellers_2) (u_tellers_3) (u_tellers_4) (u_tellers_5) (u_tellers_7) (f_byLies) (u_sound_0) (u_sound_1) (u_sound_2) (u_sound_3) (u_sound_4) (u_sound_5) (u_sound_7) (u_sound_8) (u_sound_9) x2 _) (cwV 2 hts gX8_fitting_X8_sortByLies rfl rfl rfl (by decide +kernel) ⟨Nat.le_of_ble_eq_true rfl, Nat.le_of_ble_eq_true rfl⟩) (q_preV hK hP (ci := 8) (q0 := 0) rfl rfl rfl (q_pre hN hK hP hD [0, 1, 2] rfl (by decide))) rfl rfl hl.1 rfl (lv_room (Nat.le_of_ble_eq_true rfl)) dX8_fitting_3 ⟨Nat.le_of_ble_eq_true rfl, Nat.le_of_ble_eq_true rfl⟩) hP hD hS hA [0, 1, 2] [] rfl rfl (by decide) (by decide) (fun w1 H locs hw hP hD hS => ?_)
  obtain ⟨φf1, hφf2, rfl⟩ := hw
  have hP : va_P (dC, dI) vwCl [(q_tellers, .inr (8, [.ref q_sound, u_tellers_1, u_tellers_2, u_tellers_3, u_tellers_4, u_tellers_5, .ref q_byLies, u_tellers_7])), (q_byLies, .inl (cI, 4, .inl (upd φf1 0 1))), (q_sound, .inr (5, [u_sound_0, u_sound_1, u_sound_2, u_sound_3, u_sound_4, u_sound_5, .int 0, u_sound_7, u_sound_8, u_sound_9]))] H := hP.sub [0, 1, 2] rfl
  have hD : va_D A [(q_tellers, .inr (8, [.ref q_sound, u_tellers_1, u_tellers_2, u_tellers_3, u_tellers_4, u_tellers_5, .ref q_byLies, u_tellers_7])), (q_byLies, .inl (cI, 4, .inl (upd φf1 0 1))), (q_sound, .inr (5, [u_sound_0, u_sound_1, u_sound_2, u_sound_3, u_sound_4, u_sound_5, .int 0, u_sound_7, u_sound_8, u_sound_9]))] := hD.sub [0, 1, 2] (by decide) rfl
  refine lv_aload_n hx hb dX8_fitting_6 rfl (lv_at hl 0 rfl) ?_
  refine lv_iload_n hx hb dX8_fitting_7 rfl (lv_at hl 1 rfl) ?_
  refine q_goi (wr := [(q_sound, .inr (5, [u_sound_0, u_sound_1, u_sound_2, u_sound_3, u_sound_4, u_sound_5, .int 0, u_sound_7, u_sound_8, u_sound_9]))]) (va_runV (As := [.int 0]) (rest := []) C (k_upTo0 l dC dI cB cI cJ cZ cS (q_tellers) (q_byLies) (.ref q_sound) (u_tellers_1) (u_tellers_2) (u_tellers_3) (u_tellers_4) (u_tellers_5) (u_tellers_7) ((upd φf1 0 1)) rfl _) (cwV 1 hts gX8_fitting_X8_upTo rfl rfl rfl (by decide +kernel) ⟨Nat.le_of_ble_eq_true rfl, Nat.le_of_ble_eq_true rfl⟩) (q_preV hK hP (ci := 8) (q0 := 0) rfl rfl rfl (q_pre hN hK hP hD [0, 1] rfl (by decide))) rfl rfl hl.1 rfl (lv_room (Nat.le_of_ble_eq_true rfl)) dX8_fitting_8 ⟨Nat.le_of_ble_eq_true rfl, Nat.le_of_ble_eq_true rfl⟩) hP hD hS hA [0, 1] [2] rfl rfl (by decide) (by decide) (fun r w1 H locs hw hP hD hS => ?_)
  obtain ⟨rfl, rfl⟩ := hw
  have hP : va_P (dC, dI) vwCl [(q_tellers, .inr (8, [.ref q_sound, u_tellers_1, u_tellers_2, u_tellers_3, u_tellers_4, u_tellers_5, .ref q_byLies, u_tellers_7])), (q_byLies, .inl (cI, 4, .inl (upd φf1 0 1))), (q_sound, .inr (5, [u_sound_0, u_sound_1, u_sound_2, u_sound_3, u_sound_4, u_sound_5, .int 0, u_sound_7, u_sound_8, u_sound_9]))] H := hP.sub [1, 2, 0] rfl
  have hD : va_D A [(q_tellers, .inr (8, [.ref q_sound, u_tellers_1, u_tellers_2, u_tellers_3, u_tellers_4, u_tellers_5, .ref q_byLies, u_tellers_7])), (q_byLies, .inl (cI, 4, .inl (upd φf1 0 1))), (q_sound, .inr (5, [u_sound_0, u_sound_1, u_sound_2, u_sound_3, u_sound_4, u_sound_5, .int 0, u_sound_7, u_sound_8, u_sound_9]))] := hD.sub [1, 2, 0] (by decide) rfl
  exact q_iret C hr hlocks hK hP hD hS (Nat.le_of_ble_eq_true rfl) (Nat.le_of_ble_eq_true rfl) dX8_fitting_11 (⟨φf1, hφf2, rfl, rfl⟩)

set_option maxHeartbeats 4000000 in
set_option maxRecDepth 100000 in
theorem k_fitting1 (l : Launch) (dC : Nat → ClassId) (dI : Nat → Nat → Nat) (cB cI cJ cZ cS : ClassId) (q_sound : Nat) (q_tellers : Nat) (q_byLies : Nat) (u_tellers_1 : Value) (u_tellers_2 : Value) (u_tellers_3 : Value) (u_tellers_4 : Value) (u_tellers_5 : Value) (u_tellers_7 : Value) (f_byLies : Nat → Int32) (u_sound_0 : Value) (u_sound_1 : Value) (u_sound_2 : Value) (u_sound_3 : Value) (u_sound_4 : Value) (u_sound_5 : Value) (u_sound_7 : Value) (u_sound_8 : Value) (u_sound_9 : Value) (x2 : Int32) : CI l yX8_fitting wsX8_fitting ({ frames := 2, cells := 0, slots := 0, locals := 47 }) (dC, dI) (tysA cB cI cJ cZ cS) [(q_tellers, .inr (8, [.ref q_sound, u_tellers_1, u_tellers_2, u_tellers_3, u_tellers_4, u_tellers_5, .ref q_byLies, u_tellers_7])), (q_byLies, .inl (cI, 4, .inl f_byLies)), (q_sound, .inr (5, [u_sound_0, u_sound_1, u_sound_2, u_sound_3, u_sound_4, u_sound_5, .int 0, u_sound_7, u_sound_8, u_sound_9]))] [.ref q_tellers, .int 1, .int x2] (fun r w => ∃ φf1 : Nat → Int32, (∀ j, j < 4 → φf1 j = 0) ∧ w = [(q_tellers, .inr (8, [.ref q_sound, u_tellers_1, u_tellers_2, u_tellers_3, u_tellers_4, u_tellers_5, .ref q_byLies, u_tellers_7])), (q_byLies, .inl (cI, 4, .inl (upd φf1 0 1))), (q_sound, .inr (5, [u_sound_0, u_sound_1, u_sound_2, u_sound_3, u_sound_4, u_sound_5, .int 0, u_sound_7, u_sound_8, u_sound_9]))] ∧ r = 1) := by
  refine open_I (cc := cX8_fitting) (maxL := 3) (ret := (some .int)) (by decide) rfl (Nat.le_of_ble_eq_true rfl) ?_
  intro p e s m below meth c A ls E
  obtain ⟨C, hr, hlocks, hnm, hA, hP, hK, hD, hN, hl⟩ := E
  obtain ⟨hx, hb, hml, hown, hts⟩ := id C
  have hS : va_S A s.heap s.heap [] := va_S.rf
  have hl : lv_has ls 3 [(0, .ref q_tellers), (1, .int 1), (2, .int x2)] := hl
  refine lv_aload_n hx hb dX8_fitting_0 rfl (lv_at hl 0 rfl) ?_
  refine lv_iconst (v := (-1)) hx hb dX8_fitting_1 (by decide) ?_
  refine lv_iload_n hx hb dX8_fitting_2 rfl (lv_at hl 2 rfl) ?_
  refine q_gov (wr := []) (va_runV (As := [.int (-1), .int x2]) (rest := []) C (k_X8_sortByLies l dC dI cB cI cJ cZ cS (q_sound) (q_tellers) (q_byLies) (u_tellers_1) (u_tellers_2) (u_tellers_3) (u_tellers_4) (u_tellers_5) (u_tellers_7) (f_byLies) (u_sound_0) (u_sound_1) (u_sound_2) (u_sound_3) (u_sound_4) (u_sound_5) (u_sound_7) (u_sound_8) (u_sound_9) x2 _) (cwV 2 hts gX8_fitting_X8_sortByLies rfl rfl rfl (by decide +kernel) ⟨Nat.le_of_ble_eq_true rfl, Nat.le_of_ble_eq_true rfl⟩) (q_preV hK hP (ci := 8) (q0 := 0) rfl rfl rfl (q_pre hN hK hP hD [0, 1, 2] rfl (by decide))) rfl rfl hl.1 rfl (lv_room (Nat.le_of_ble_eq_true rfl)) dX8_fitting_3 ⟨Nat.le_of_ble_eq_true rfl, Nat.le_of_ble_eq_true rfl⟩) hP hD hS hA [0, 1, 2] [] rfl rfl (by decide) (by decide) (fun w1 H locs hw hP hD hS => ?_)
  obtain ⟨φf1, hφf2, rfl⟩ := hw
  have hP : va_P (dC, dI) vwCl [(q_tellers, .inr (8, [.ref q_sound, u_tellers_1, u_tellers_2, u_tellers_3, u_tellers_4, u_tellers_5, .ref q_byLies, u_tellers_7])), (q_byLies, .inl (cI, 4, .inl (upd φf1 0 1))), (q_sound, .inr (5, [u_sound_0, u_sound_1, u_sound_2, u_sound_3, u_sound_4, u_sound_5, .int 0, u_sound_7, u_sound_8, u_sound_9]))] H := hP.sub [0, 1, 2] rfl
  have hD : va_D A [(q_tellers, .inr (8, [.ref q_sound, u_tellers_1, u_tellers_2, u_tellers_3, u_tellers_4, u_tellers_5, .ref q_byLies, u_tellers_7])), (q_byLies, .inl (cI, 4, .inl (upd φf1 0 1))), (q_sound, .inr (5, [u_sound_0, u_sound_1, u_sound_2, u_sound_3, u_sound_4, u_sound_5, .int 0, u_sound_7, u_sound_8, u_sound_9]))] := hD.sub [0, 1, 2] (by decide) rfl
  refine lv_aload_n hx hb dX8_fitting_6 rfl (lv_at hl 0 rfl) ?_
  refine lv_iload_n hx hb dX8_fitting_7 rfl (lv_at hl 1 rfl) ?_
  refine q_goi (wr := [(q_sound, .inr (5, [u_sound_0, u_sound_1, u_sound_2, u_sound_3, u_sound_4, u_sound_5, .int 0, u_sound_7, u_sound_8, u_sound_9]))]) (va_runV (As := [.int 1]) (rest := []) C (k_upTo1 l dC dI cB cI cJ cZ cS (q_tellers) (q_byLies) (.ref q_sound) (u_tellers_1) (u_tellers_2) (u_tellers_3) (u_tellers_4) (u_tellers_5) (u_tellers_7) ((upd φf1 0 1)) rfl (hφf2 1 (by decide)) _) (cwV 1 hts gX8_fitting_X8_upTo rfl rfl rfl (by decide +kernel) ⟨Nat.le_of_ble_eq_true rfl, Nat.le_of_ble_eq_true rfl⟩) (q_preV hK hP (ci := 8) (q0 := 0) rfl rfl rfl (q_pre hN hK hP hD [0, 1] rfl (by decide))) rfl rfl hl.1 rfl (lv_room (Nat.le_of_ble_eq_true rfl)) dX8_fitting_8 ⟨Nat.le_of_ble_eq_true rfl, Nat.le_of_ble_eq_true rfl⟩) hP hD hS hA [0, 1] [2] rfl rfl (by decide) (by decide) (fun r w1 H locs hw hP hD hS => ?_)
  obtain ⟨rfl, rfl⟩ := hw
  have hP : va_P (dC, dI) vwCl [(q_tellers, .inr (8, [.ref q_sound, u_tellers_1, u_tellers_2, u_tellers_3, u_tellers_4, u_tellers_5, .ref q_byLies, u_tellers_7])), (q_byLies, .inl (cI, 4, .inl (upd φf1 0 1))), (q_sound, .inr (5, [u_sound_0, u_sound_1, u_sound_2, u_sound_3, u_sound_4, u_sound_5, .int 0, u_sound_7, u_sound_8, u_sound_9]))] H := hP.sub [1, 2, 0] rfl
  have hD : va_D A [(q_tellers, .inr (8, [.ref q_sound, u_tellers_1, u_tellers_2, u_tellers_3, u_tellers_4, u_tellers_5, .ref q_byLies, u_tellers_7])), (q_byLies, .inl (cI, 4, .inl (upd φf1 0 1))), (q_sound, .inr (5, [u_sound_0, u_sound_1, u_sound_2, u_sound_3, u_sound_4, u_sound_5, .int 0, u_sound_7, u_sound_8, u_sound_9]))] := hD.sub [1, 2, 0] (by decide) rfl
  exact q_iret C hr hlocks hK hP hD hS (Nat.le_of_ble_eq_true rfl) (Nat.le_of_ble_eq_true rfl) dX8_fitting_11 (⟨φf1, hφf2, rfl, rfl⟩)

set_option maxHeartbeats 4000000 in
set_option maxRecDepth 100000 in
theorem k_fitting2 (l : Launch) (dC : Nat → ClassId) (dI : Nat → Nat → Nat) (cB cI cJ cZ cS : ClassId) (q_sound : Nat) (q_tellers : Nat) (q_byLies : Nat) (u_tellers_1 : Value) (u_tellers_2 : Value) (u_tellers_3 : Value) (u_tellers_4 : Value) (u_tellers_5 : Value) (u_tellers_7 : Value) (f_byLies : Nat → Int32) (u_sound_0 : Value) (u_sound_1 : Value) (u_sound_2 : Value) (u_sound_3 : Value) (u_sound_4 : Value) (u_sound_5 : Value) (u_sound_7 : Value) (u_sound_8 : Value) (u_sound_9 : Value) (x2 : Int32) : CI l yX8_fitting wsX8_fitting ({ frames := 2, cells := 0, slots := 0, locals := 47 }) (dC, dI) (tysA cB cI cJ cZ cS) [(q_tellers, .inr (8, [.ref q_sound, u_tellers_1, u_tellers_2, u_tellers_3, u_tellers_4, u_tellers_5, .ref q_byLies, u_tellers_7])), (q_byLies, .inl (cI, 4, .inl f_byLies)), (q_sound, .inr (5, [u_sound_0, u_sound_1, u_sound_2, u_sound_3, u_sound_4, u_sound_5, .int 0, u_sound_7, u_sound_8, u_sound_9]))] [.ref q_tellers, .int 2, .int x2] (fun r w => ∃ φf1 : Nat → Int32, (∀ j, j < 4 → φf1 j = 0) ∧ w = [(q_tellers, .inr (8, [.ref q_sound, u_tellers_1, u_tellers_2, u_tellers_3, u_tellers_4, u_tellers_5, .ref q_byLies, u_tellers_7])), (q_byLies, .inl (cI, 4, .inl (upd φf1 0 1))), (q_sound, .inr (5, [u_sound_0, u_sound_1, u_sound_2, u_sound_3, u_sound_4, u_sound_5, .int 0, u_sound_7, u_sound_8, u_sound_9]))] ∧ r = 1) := by
  refine open_I (cc := cX8_fitting) (maxL := 3) (ret := (some .int)) (by decide) rfl (Nat.le_of_ble_eq_true rfl) ?_
  intro p e s m below meth c A ls E
  obtain ⟨C, hr, hlocks, hnm, hA, hP, hK, hD, hN, hl⟩ := E
  obtain ⟨hx, hb, hml, hown, hts⟩ := id C
  have hS : va_S A s.heap s.heap [] := va_S.rf
  have hl : lv_has ls 3 [(0, .ref q_tellers), (1, .int 2), (2, .int x2)] := hl
  refine lv_aload_n hx hb dX8_fitting_0 rfl (lv_at hl 0 rfl) ?_
  refine lv_iconst (v := (-1)) hx hb dX8_fitting_1 (by decide) ?_
  refine lv_iload_n hx hb dX8_fitting_2 rfl (lv_at hl 2 rfl) ?_
  refine q_gov (wr := []) (va_runV (As := [.int (-1), .int x2]) (rest := []) C (k_X8_sortByLies l dC dI cB cI cJ cZ cS (q_sound) (q_tellers) (q_byLies) (u_tellers_1) (u_tellers_2) (u_tellers_3) (u_tellers_4) (u_tellers_5) (u_tellers_7) (f_byLies) (u_sound_0) (u_sound_1) (u_sound_2) (u_sound_3) (u_sound_4) (u_sound_5) (u_sound_7) (u_sound_8) (u_sound_9) x2 _) (cwV 2 hts gX8_fitting_X8_sortByLies rfl rfl rfl (by decide +kernel) ⟨Nat.le_of_ble_eq_true rfl, Nat.le_of_ble_eq_true rfl⟩) (q_preV hK hP (ci := 8) (q0 := 0) rfl rfl rfl (q_pre hN hK hP hD [0, 1, 2] rfl (by decide))) rfl rfl hl.1 rfl (lv_room (Nat.le_of_ble_eq_true rfl)) dX8_fitting_3 ⟨Nat.le_of_ble_eq_true rfl, Nat.le_of_ble_eq_true rfl⟩) hP hD hS hA [0, 1, 2] [] rfl rfl (by decide) (by decide) (fun w1 H locs hw hP hD hS => ?_)
  obtain ⟨φf1, hφf2, rfl⟩ := hw
  have hP : va_P (dC, dI) vwCl [(q_tellers, .inr (8, [.ref q_sound, u_tellers_1, u_tellers_2, u_tellers_3, u_tellers_4, u_tellers_5, .ref q_byLies, u_tellers_7])), (q_byLies, .inl (cI, 4, .inl (upd φf1 0 1))), (q_sound, .inr (5, [u_sound_0, u_sound_1, u_sound_2, u_sound_3, u_sound_4, u_sound_5, .int 0, u_sound_7, u_sound_8, u_sound_9]))] H := hP.sub [0, 1, 2] rfl
  have hD : va_D A [(q_tellers, .inr (8, [.ref q_sound, u_tellers_1, u_tellers_2, u_tellers_3, u_tellers_4, u_tellers_5, .ref q_byLies, u_tellers_7])), (q_byLies, .inl (cI, 4, .inl (upd φf1 0 1))), (q_sound, .inr (5, [u_sound_0, u_sound_1, u_sound_2, u_sound_3, u_sound_4, u_sound_5, .int 0, u_sound_7, u_sound_8, u_sound_9]))] := hD.sub [0, 1, 2] (by decide) rfl
  refine lv_aload_n hx hb dX8_fitting_6 rfl (lv_at hl 0 rfl) ?_
  refine lv_iload_n hx hb dX8_fitting_7 rfl (lv_at hl 1 rfl) ?_
  refine q_goi (wr := [(q_sound, .inr (5, [u_sound_0, u_sound_1, u_sound_2, u_sound_3, u_sound_4, u_sound_5, .int 0, u_sound_7, u_sound_8, u_sound_9]))]) (va_runV (As := [.int 2]) (rest := []) C (k_upTo2 l dC dI cB cI cJ cZ cS (q_tellers) (q_byLies) (.ref q_sound) (u_tellers_1) (u_tellers_2) (u_tellers_3) (u_tellers_4) (u_tellers_5) (u_tellers_7) ((upd φf1 0 1)) rfl (hφf2 1 (by decide)) (hφf2 2 (by decide)) _) (cwV 1 hts gX8_fitting_X8_upTo rfl rfl rfl (by decide +kernel) ⟨Nat.le_of_ble_eq_true rfl, Nat.le_of_ble_eq_true rfl⟩) (q_preV hK hP (ci := 8) (q0 := 0) rfl rfl rfl (q_pre hN hK hP hD [0, 1] rfl (by decide))) rfl rfl hl.1 rfl (lv_room (Nat.le_of_ble_eq_true rfl)) dX8_fitting_8 ⟨Nat.le_of_ble_eq_true rfl, Nat.le_of_ble_eq_true rfl⟩) hP hD hS hA [0, 1] [2] rfl rfl (by decide) (by decide) (fun r w1 H locs hw hP hD hS => ?_)
  obtain ⟨rfl, rfl⟩ := hw
  have hP : va_P (dC, dI) vwCl [(q_tellers, .inr (8, [.ref q_sound, u_tellers_1, u_tellers_2, u_tellers_3, u_tellers_4, u_tellers_5, .ref q_byLies, u_tellers_7])), (q_byLies, .inl (cI, 4, .inl (upd φf1 0 1))), (q_sound, .inr (5, [u_sound_0, u_sound_1, u_sound_2, u_sound_3, u_sound_4, u_sound_5, .int 0, u_sound_7, u_sound_8, u_sound_9]))] H := hP.sub [1, 2, 0] rfl
  have hD : va_D A [(q_tellers, .inr (8, [.ref q_sound, u_tellers_1, u_tellers_2, u_tellers_3, u_tellers_4, u_tellers_5, .ref q_byLies, u_tellers_7])), (q_byLies, .inl (cI, 4, .inl (upd φf1 0 1))), (q_sound, .inr (5, [u_sound_0, u_sound_1, u_sound_2, u_sound_3, u_sound_4, u_sound_5, .int 0, u_sound_7, u_sound_8, u_sound_9]))] := hD.sub [1, 2, 0] (by decide) rfl
  exact q_iret C hr hlocks hK hP hD hS (Nat.le_of_ble_eq_true rfl) (Nat.le_of_ble_eq_true rfl) dX8_fitting_11 (⟨φf1, hφf2, rfl, rfl⟩)
