theorem dX3_goOnFrom_0 : decode cX3_goOnFrom 0 = .ok (.iload_n 1, 1) := by decide +kernel
theorem dX3_goOnFrom_1 : decode cX3_goOnFrom 1 = .ok (.ifCond .lt 17, 3) := by decide +kernel
theorem dX3_goOnFrom_4 : decode cX3_goOnFrom 4 = .ok (.iload_n 1, 1) := by decide +kernel
theorem dX3_goOnFrom_5 : decode cX3_goOnFrom 5 = .ok (.iconst 3, 1) := by decide +kernel
theorem dX3_goOnFrom_6 : decode cX3_goOnFrom 6 = .ok (.if_icmp .ge 12, 3) := by decide +kernel
theorem dX3_goOnFrom_9 : decode cX3_goOnFrom 9 = .ok (.aload_n 0, 1) := by decide +kernel
theorem dX3_goOnFrom_10 : decode cX3_goOnFrom 10 = .ok (.getfield 20, 3) := by decide +kernel
theorem dX3_goOnFrom_13 : decode cX3_goOnFrom 13 = .ok (.iload_n 1, 1) := by decide +kernel
theorem dX3_goOnFrom_14 : decode cX3_goOnFrom 14 = .ok (.baload, 1) := by decide +kernel
theorem dX3_goOnFrom_15 : decode cX3_goOnFrom 15 = .ok (.ifCond .ne 5, 3) := by decide +kernel
theorem dX3_goOnFrom_18 : decode cX3_goOnFrom 18 = .ok (.iconst 0, 1) := by decide +kernel
theorem dX3_goOnFrom_19 : decode cX3_goOnFrom 19 = .ok (.ireturn, 1) := by decide +kernel
theorem dX3_slotsHeld_0 : decode cX3_slotsHeld 0 = .ok (.iconst 0, 1) := by decide +kernel
theorem dX3_slotsHeld_1 : decode cX3_slotsHeld 1 = .ok (.istore_n 1, 1) := by decide +kernel
theorem dX3_slotsHeld_2 : decode cX3_slotsHeld 2 = .ok (.iconst 0, 1) := by decide +kernel
theorem dX3_slotsHeld_3 : decode cX3_slotsHeld 3 = .ok (.istore_n 2, 1) := by decide +kernel
theorem dX3_slotsHeld_4 : decode cX3_slotsHeld 4 = .ok (.iload_n 2, 1) := by decide +kernel
theorem dX3_slotsHeld_5 : decode cX3_slotsHeld 5 = .ok (.iconst 3, 1) := by decide +kernel
theorem dX3_slotsHeld_6 : decode cX3_slotsHeld 6 = .ok (.if_icmp .ge 26, 3) := by decide +kernel
theorem dX3_slotsHeld_9 : decode cX3_slotsHeld 9 = .ok (.iload_n 1, 1) := by decide +kernel
theorem dX3_slotsHeld_10 : decode cX3_slotsHeld 10 = .ok (.aload_n 0, 1) := by decide +kernel
theorem dX3_slotsHeld_11 : decode cX3_slotsHeld 11 = .ok (.getfield 20, 3) := by decide +kernel
theorem dX3_slotsHeld_14 : decode cX3_slotsHeld 14 = .ok (.iload_n 2, 1) := by decide +kernel
theorem dX3_slotsHeld_15 : decode cX3_slotsHeld 15 = .ok (.baload, 1) := by decide +kernel
theorem dX3_slotsHeld_16 : decode cX3_slotsHeld 16 = .ok (.ifCond .eq 7, 3) := by decide +kernel
theorem dX3_slotsHeld_23 : decode cX3_slotsHeld 23 = .ok (.iconst 0, 1) := by decide +kernel
theorem dX3_slotsHeld_24 : decode cX3_slotsHeld 24 = .ok (.iadd, 1) := by decide +kernel
theorem dX3_slotsHeld_25 : decode cX3_slotsHeld 25 = .ok (.istore_n 1, 1) := by decide +kernel
theorem dX3_slotsHeld_26 : decode cX3_slotsHeld 26 = .ok (.iinc 2 1, 3) := by decide +kernel
theorem dX3_slotsHeld_29 : decode cX3_slotsHeld 29 = .ok (.goto (-25), 3) := by decide +kernel
theorem dX3_slotsHeld_32 : decode cX3_slotsHeld 32 = .ok (.iload_n 1, 1) := by decide +kernel
theorem dX3_slotsHeld_33 : decode cX3_slotsHeld 33 = .ok (.ireturn, 1) := by decide +kernel
set_option maxRecDepth 20000 in
theorem ggX10_hold_X3_keepIn : GoodIn wsX10_hold wsX3_keepIn := goodIn_r _ [6, 7, 8, 9, 10, 11, 12, 13, 14, 15, 16, 17, 18, 19, 20, 21, 22, 23, 33, 34, 35, 36, 37, 38, 39, 40, 41, 42, 43, 44] (by decide +kernel) (by decide +kernel)
set_option maxRecDepth 20000 in
theorem gX10_hold_X3_keepIn_n282 : GoodIn wsX10_hold (wsX3_keepIn) := ggX10_hold_X3_keepIn
theorem dX10_hold_0 : decode cX10_hold 0 = .ok (.aload_n 0, 1) := by decide +kernel
theorem dX10_hold_1 : decode cX10_hold 1 = .ok (.getfield 45, 3) := by decide +kernel
theorem dX10_hold_4 : decode cX10_hold 4 = .ok (.iload_n 1, 1) := by decide +kernel
theorem dX10_hold_5 : decode cX10_hold 5 = .ok (.aload_n 0, 1) := by decide +kernel
theorem dX10_hold_6 : decode cX10_hold 6 = .ok (.getfield 35, 3) := by decide +kernel
theorem dX10_hold_9 : decode cX10_hold 9 = .ok (.invokevirtual 282, 3) := by decide +kernel
theorem dX10_hold_12 : decode cX10_hold 12 = .ok (.ireturn, 1) := by decide +kernel
set_option maxRecDepth 20000 in
theorem ggX10_restore_X3_goOnFrom : GoodIn wsX10_restore wsX3_goOnFrom := goodIn_r _ [6, 7, 8, 9, 10, 11, 12, 13, 14, 15, 16, 17, 18, 19, 20, 21, 22, 23, 24, 34, 35, 36, 37, 38, 39, 40, 41, 42, 43, 44, 45] (by decide +kernel) (by decide +kernel)
set_option maxRecDepth 20000 in
theorem gX10_restore_X3_goOnFrom_n286 : GoodIn wsX10_restore (wsX3_goOnFrom) := ggX10_restore_X3_goOnFrom
theorem dX10_restore_0 : decode cX10_restore 0 = .ok (.aload_n 0, 1) := by decide +kernel
theorem dX10_restore_1 : decode cX10_restore 1 = .ok (.getfield 45, 3) := by decide +kernel
theorem dX10_restore_4 : decode cX10_restore 4 = .ok (.iload_n 1, 1) := by decide +kernel
theorem dX10_restore_5 : decode cX10_restore 5 = .ok (.aload_n 0, 1) := by decide +kernel
theorem dX10_restore_6 : decode cX10_restore 6 = .ok (.getfield 35, 3) := by decide +kernel
theorem dX10_restore_9 : decode cX10_restore 9 = .ok (.invokevirtual 286, 3) := by decide +kernel
theorem dX10_restore_12 : decode cX10_restore 12 = .ok (.ireturn, 1) := by decide +kernel
theorem dX10_buoysLying_0 : decode cX10_buoysLying 0 = .ok (.iconst 0, 1) := by decide +kernel
theorem dX10_buoysLying_1 : decode cX10_buoysLying 1 = .ok (.istore_n 1, 1) := by decide +kernel
theorem dX10_buoysLying_2 : decode cX10_buoysLying 2 = .ok (.iconst 0, 1) := by decide +kernel
theorem dX10_buoysLying_3 : decode cX10_buoysLying 3 = .ok (.istore_n 2, 1) := by decide +kernel
theorem dX10_buoysLying_4 : decode cX10_buoysLying 4 = .ok (.iload_n 2, 1) := by decide +kernel
theorem dX10_buoysLying_5 : decode cX10_buoysLying 5 = .ok (.aload_n 0, 1) := by decide +kernel
theorem dX10_buoysLying_6 : decode cX10_buoysLying 6 = .ok (.getfield 19, 3) := by decide +kernel
theorem dX10_buoysLying_9 : decode cX10_buoysLying 9 = .ok (.getfield 167, 3) := by decide +kernel
theorem dX10_buoysLying_12 : decode cX10_buoysLying 12 = .ok (.if_icmp .ge 24, 3) := by decide +kernel
theorem dX10_buoysLying_36 : decode cX10_buoysLying 36 = .ok (.iload_n 1, 1) := by decide +kernel
theorem dX10_buoysLying_37 : decode cX10_buoysLying 37 = .ok (.ireturn, 1) := by decide +kernel
theorem dX10_wavesFound_0 : decode cX10_wavesFound 0 = .ok (.iconst 0, 1) := by decide +kernel
theorem dX10_wavesFound_1 : decode cX10_wavesFound 1 = .ok (.istore_n 1, 1) := by decide +kernel
theorem dX10_wavesFound_2 : decode cX10_wavesFound 2 = .ok (.iconst 0, 1) := by decide +kernel
theorem dX10_wavesFound_3 : decode cX10_wavesFound 3 = .ok (.istore_n 2, 1) := by decide +kernel
theorem dX10_wavesFound_4 : decode cX10_wavesFound 4 = .ok (.iload_n 2, 1) := by decide +kernel
theorem dX10_wavesFound_5 : decode cX10_wavesFound 5 = .ok (.aload_n 0, 1) := by decide +kernel
theorem dX10_wavesFound_6 : decode cX10_wavesFound 6 = .ok (.getfield 19, 3) := by decide +kernel
theorem dX10_wavesFound_9 : decode cX10_wavesFound 9 = .ok (.getfield 167, 3) := by decide +kernel
theorem dX10_wavesFound_12 : decode cX10_wavesFound 12 = .ok (.if_icmp .ge 28, 3) := by decide +kernel
theorem dX10_wavesFound_40 : decode cX10_wavesFound 40 = .ok (.iload_n 1, 1) := by decide +kernel
theorem dX10_wavesFound_41 : decode cX10_wavesFound 41 = .ok (.ireturn, 1) := by decide +kernel
theorem dX10_wavesWithNothing_0 : decode cX10_wavesWithNothing 0 = .ok (.iconst 0, 1) := by decide +kernel
theorem dX10_wavesWithNothing_1 : decode cX10_wavesWithNothing 1 = .ok (.istore_n 1, 1) := by decide +kernel
theorem dX10_wavesWithNothing_2 : decode cX10_wavesWithNothing 2 = .ok (.iconst 0, 1) := by decide +kernel
theorem dX10_wavesWithNothing_3 : decode cX10_wavesWithNothing 3 = .ok (.istore_n 2, 1) := by decide +kernel
theorem dX10_wavesWithNothing_4 : decode cX10_wavesWithNothing 4 = .ok (.iload_n 2, 1) := by decide +kernel
theorem dX10_wavesWithNothing_5 : decode cX10_wavesWithNothing 5 = .ok (.aload_n 0, 1) := by decide +kernel
theorem dX10_wavesWithNothing_6 : decode cX10_wavesWithNothing 6 = .ok (.getfield 19, 3) := by decide +kernel
theorem dX10_wavesWithNothing_9 : decode cX10_wavesWithNothing 9 = .ok (.getfield 167, 3) := by decide +kernel
theorem dX10_wavesWithNothing_12 : decode cX10_wavesWithNothing 12 = .ok (.if_icmp .ge 30, 3) := by decide +kernel
theorem dX10_wavesWithNothing_42 : decode cX10_wavesWithNothing 42 = .ok (.iload_n 1, 1) := by decide +kernel
theorem dX10_wavesWithNothing_43 : decode cX10_wavesWithNothing 43 = .ok (.ireturn, 1) := by decide +kernel
theorem dX10_sumOf_0 : decode cX10_sumOf 0 = .ok (.iconst 0, 1) := by decide +kernel
theorem dX10_sumOf_1 : decode cX10_sumOf 1 = .ok (.istore_n 1, 1) := by decide +kernel
theorem dX10_sumOf_2 : decode cX10_sumOf 2 = .ok (.iconst 0, 1) := by decide +kernel
theorem dX10_sumOf_3 : decode cX10_sumOf 3 = .ok (.istore_n 2, 1) := by decide +kernel
theorem dX10_sumOf_4 : decode cX10_sumOf 4 = .ok (.iload_n 2, 1) := by decide +kernel
theorem dX10_sumOf_5 : decode cX10_sumOf 5 = .ok (.aload_n 0, 1) := by decide +kernel
theorem dX10_sumOf_6 : decode cX10_sumOf 6 = .ok (.arraylength, 1) := by decide +kernel
theorem dX10_sumOf_7 : decode cX10_sumOf 7 = .ok (.if_icmp .ge 15, 3) := by decide +kernel
theorem dX10_sumOf_10 : decode cX10_sumOf 10 = .ok (.iload_n 1, 1) := by decide +kernel
theorem dX10_sumOf_11 : decode cX10_sumOf 11 = .ok (.aload_n 0, 1) := by decide +kernel
theorem dX10_sumOf_12 : decode cX10_sumOf 12 = .ok (.iload_n 2, 1) := by decide +kernel
theorem dX10_sumOf_13 : decode cX10_sumOf 13 = .ok (.iaload, 1) := by decide +kernel
theorem dX10_sumOf_14 : decode cX10_sumOf 14 = .ok (.iadd, 1) := by decide +kernel
theorem dX10_sumOf_15 : decode cX10_sumOf 15 = .ok (.istore_n 1, 1) := by decide +kernel
theorem dX10_sumOf_16 : decode cX10_sumOf 16 = .ok (.iinc 2 1, 3) := by decide +kernel
theorem dX10_sumOf_19 : decode cX10_sumOf 19 = .ok (.goto (-15), 3) := by decide +kernel
theorem dX10_sumOf_22 : decode cX10_sumOf 22 = .ok (.iload_n 1, 1) := by decide +kernel
theorem dX10_sumOf_23 : decode cX10_sumOf 23 = .ok (.ireturn, 1) := by decide +kernel
set_option maxHeartbeats 4000000 in
set_option maxRecDepth 100000 in
theorem k_X10_hold (l : Launch) (dC : Nat → ClassId) (dI : Nat → Nat → Nat) (cB cI cJ cZ cS : ClassId) (q_G : Nat) (q_now : Nat) (q_now_found : Nat) (q_now_buoys : Nat) (q_now_shifted : Nat) (q_now_status : Nat) (q_now_goes : Nat) (q_slot0 : Nat) (q_slot0_found : Nat) (q_slot0_buoys : Nat) (q_slot0_shifted : Nat) (q_slot0_status : Nat) (q_slot0_goes : Nat) (q_slot1 : Nat) (q_slot1_found : Nat) (q_slot1_buoys : Nat) (q_slot1_shifted : Nat) (q_slot1_status : Nat) (q_slot1_goes : Nat) (q_slot2 : Nat) (q_slot2_found : Nat) (q_slot2_buoys : Nat) (q_slot2_shifted : Nat) (q_slot2_status : Nat) (q_slot2_goes : Nat) (q_past : Nat) (q_slots : Nat) (q_isHeld : Nat) (u_G_0 : Value) (u_G_1 : Value) (u_G_2 : Value) (u_G_4 : Value) (u_G_6 : Value) (u_G_7 : Value) (u_G_8 : Value) (u_past_0 : Value) (u_past_3 : Value) (u_past_4 : Value) (f_slots : Nat → Option Nat) (f_now_found : Nat → Int32) (f_slot0_found : Nat → Int32) (f_now_buoys : Nat → Int32) (f_slot0_buoys : Nat → Int32) (f_now_shifted : Nat → Int32) (f_slot0_shifted : Nat → Int32) (f_now_status : Nat → Int32) (f_slot0_status : Nat → Int32) (f_now_goes : Nat → Int32) (f_slot0_goes : Nat → Int32) (f_isHeld : Nat → Int32) (f_slot1_found : Nat → Int32) (f_slot1_buoys : Nat → Int32) (f_slot1_shifted : Nat → Int32) (f_slot1_status : Nat → Int32) (f_slot1_goes : Nat → Int32) (f_slot2_found : Nat → Int32) (f_slot2_buoys : Nat → Int32) (f_slot2_shifted : Nat → Int32) (f_slot2_status : Nat → Int32) (f_slot2_goes : Nat → Int32) (h_slots_0 : f_slots 0 = some q_slot0) (h_slots_1 : f_slots 1 = some q_slot1) (h_slots_2 : f_slots 2 = some q_slot2) (x1 : Int32) : CI l yX10_hold wsX10_hold ({ frames := 3, cells := 0, slots := 0, locals := 107 }) (dC, dI) (tysA cB cI cJ cZ cS) [(q_G, .inr (10, [u_G_0, u_G_1, u_G_2, .ref q_now, u_G_4, .ref q_past, u_G_6, u_G_7, u_G_8])), (q_past, .inr (3, [u_past_0, .ref q_slots, .ref q_isHeld, u_past_3, u_past_4])), (q_slots, .inl (cS, 3, .inr (.inr (.inr (.inr f_slots))))), (q_now, .inr (6, [.ref q_now_found, .ref q_now_buoys, .ref q_now_shifted, .ref q_now_status, .ref q_now_goes, .int 0, .int 0])), (q_slot0, .inr (6, [.ref q_slot0_found, .ref q_slot0_buoys, .ref q_slot0_shifted, .ref q_slot0_status, .ref q_slot0_goes, .int 0, .int 0])), (q_now_found, .inl (cI, 5, .inl f_now_found)), (q_slot0_found, .inl (cI, 5, .inl f_slot0_found)), (q_now_buoys, .inl (cI, 5, .inl f_now_buoys)), (q_slot0_buoys, .inl (cI, 5, .inl f_slot0_buoys)), (q_now_shifted, .inl (cI, 5, .inl f_now_shifted)), (q_slot0_shifted, .inl (cI, 5, .inl f_slot0_shifted)), (q_now_status, .inl (cI, 6, .inl f_now_status)), (q_slot0_status, .inl (cI, 6, .inl f_slot0_status)), (q_now_goes, .inl (cI, 6, .inl f_now_goes)), (q_slot0_goes, .inl (cI, 6, .inl f_slot0_goes)), (q_isHeld, .inl (cZ, 3, .inl f_isHeld)), (q_slot1, .inr (6, [.ref q_slot1_found, .ref q_slot1_buoys, .ref q_slot1_shifted, .ref q_slot1_status, .ref q_slot1_goes, .int 0, .int 0])), (q_slot1_found, .inl (cI, 5, .inl f_slot1_found)), (q_slot1_buoys, .inl (cI, 5, .inl f_slot1_buoys)), (q_slot1_shifted, .inl (cI, 5, .inl f_slot1_shifted)), (q_slot1_status, .inl (cI, 6, .inl f_slot1_status)), (q_slot1_goes, .inl (cI, 6, .inl f_slot1_goes)), (q_slot2, .inr (6, [.ref q_slot2_found, .ref q_slot2_buoys, .ref q_slot2_shifted, .ref q_slot2_status, .ref q_slot2_goes, .int 0, .int 0])), (q_slot2_found, .inl (cI, 5, .inl f_slot2_found)), (q_slot2_buoys, .inl (cI, 5, .inl f_slot2_buoys)), (q_slot2_shifted, .inl (cI, 5, .inl f_slot2_shifted)), (q_slot2_status, .inl (cI, 6, .inl f_slot2_status)), (q_slot2_goes, .inl (cI, 6, .inl f_slot2_goes))] [.ref q_G, .int x1] (fun r _ => r = (sp_in x1 0 2)) := by
  refine open_I (cc := cX10_hold) (maxL := 2) (ret := (some .boolean)) (by decide) rfl (Nat.le_of_ble_eq_true rfl) ?_
  intro p e s m below meth c A ls E
  obtain ⟨C, hr, hlocks, hnm, hA, hP, hK, hD, hN, hl⟩ := E
  obtain ⟨hx, hb, hml, hown, hts⟩ := id C
  have hS : va_S A s.heap s.heap [] := va_S.rf
  have hl : lv_has ls 2 [(0, .ref q_G), (1, .int x1)] := hl
  have inX10 : ∀ w ∈ u_ws RX10 TX10 9, w ∈ wsX10_hold := fun _ h => List.mem_cons_of_mem _ (List.mem_append_left _ (List.mem_append_left _ (List.mem_append_right _ h)))
  have E_X3_keepIn : Cond.selects RX3 yX3_keepIn yX3_keepIn ∈ wsX10_hold := by decide +kernel
  have I_X3 : Cond.initialized RX3 ∈ wsX10_hold := by decide +kernel
  have L35 : Cond.fieldLink RX10 35 "GuessFerry" "now" "LGuessFerry$Standing;" ∈ wsX10_hold := by decide +kernel
  have L45 : Cond.fieldLink RX10 45 "GuessFerry" "past" "LGuessFerry$Past;" ∈ wsX10_hold := by decide +kernel
  have N_X3_keepIn : Cond.instanceMethod yX3_keepIn ∈ wsX10_hold := by decide +kernel
  refine lv_aload_n hx hb dX10_hold_0 rfl (lv_at hl 0 rfl) ?_
  refine q_get (v := .ref q_past) C inX10 hK hP 0 rfl rfl 5 (by decide) rfl L45 rfl dX10_hold_1 ?_
  refine lv_iload_n hx hb dX10_hold_4 rfl (lv_at hl 1 rfl) ?_
  refine lv_aload_n hx hb dX10_hold_5 rfl (lv_at hl 0 rfl) ?_
  refine q_get (v := .ref q_now) C inX10 hK hP 0 rfl rfl 3 (by decide) rfl L35 rfl dX10_hold_6 ?_
  refine q_goi (wr := [(q_G, .inr (10, [u_G_0, u_G_1, u_G_2, .ref q_now, u_G_4, .ref q_past, u_G_6, u_G_7, u_G_8]))]) (va_runVN (As := [.int x1, .ref q_now]) (rest := []) C (k_X3_keepIn l dC dI cB cI cJ cZ cS (q_now) (q_now_found) (q_now_buoys) (q_now_shifted) (q_now_status) (q_now_goes) (q_slot0) (q_slot0_found) (q_slot0_buoys) (q_slot0_shifted) (q_slot0_status) (q_slot0_goes) (q_slot1) (q_slot1_found) (q_slot1_buoys) (q_slot1_shifted) (q_slot1_status) (q_slot1_goes) (q_slot2) (q_slot2_found) (q_slot2_buoys) (q_slot2_shifted) (q_slot2_status) (q_slot2_goes) (q_past) (q_slots) (q_isHeld) (u_past_0) (u_past_3) (u_past_4) (f_slots) (f_now_found) (f_slot0_found) (f_now_buoys) (f_slot0_buoys) (f_now_shifted) (f_slot0_shifted) (f_now_status) (f_slot0_status) (f_now_goes) (f_slot0_goes) (f_isHeld) (f_slot1_found) (f_slot1_buoys) (f_slot1_shifted) (f_slot1_status) (f_slot1_goes) (f_slot2_found) (f_slot2_buoys) (f_slot2_shifted) (f_slot2_status) (f_slot2_goes) h_slots_0 h_slots_1 h_slots_2 x1 _) ⟨va_cnB 2 hts gX10_hold_X3_keepIn_n282 rfl rfl rfl (hN _ nwM_X10_282 rfl) (hts _ I_X3) (by decide +kernel) ⟨Nat.le_of_ble_eq_true rfl, Nat.le_of_ble_eq_true rfl⟩, hts _ N_X3_keepIn, hts _ E_X3_keepIn⟩ (q_preV hK hP (ci := 3) (q0 := 1) rfl rfl rfl (q_pre hN hK hP hD [1, 2, 3, 4, 5, 6, 7, 8, 9, 10, 11, 12, 13, 14, 15, 16, 17, 18, 19, 20, 21, 22, 23, 24, 25, 26, 27] rfl (by decide))) rfl rfl hl.1 rfl (lv_room (Nat.le_of_ble_eq_true rfl)) dX10_hold_9 ⟨Nat.le_of_ble_eq_true rfl, Nat.le_of_ble_eq_true rfl⟩) hP hD hS hA [1, 2, 3, 4, 5, 6, 7, 8, 9, 10, 11, 12, 13, 14, 15, 16, 17, 18, 19, 20, 21, 22, 23, 24, 25, 26, 27] [0] rfl rfl (by decide) (by decide) (fun r w1 H locs hw hP hD hS => ?_)
  obtain rfl := hw
  exact q_zret C hr hlocks (sp_in_01 _ _ _) hK hP hD hS (Nat.le_of_ble_eq_true rfl) (Nat.le_of_ble_eq_true rfl) dX10_hold_12 (rfl)

set_option maxHeartbeats 4000000 in
set_option maxRecDepth 100000 in
theorem k_X3_goOnFrom (l : Launch) (dC : Nat → ClassId) (dI : Nat → Nat → Nat) (cB cI cJ cZ cS : ClassId) (q_now : Nat) (q_past : Nat) (q_isHeld : Nat) (u_past_0 : Value) (u_past_1 : Value) (u_past_3 : Value) (u_past_4 : Value) (f_isHeld : Nat → Int32) (h_isHeld_0 : f_isHeld 0 = 0) (h_isHeld_1 : f_isHeld 1 = 0) (h_isHeld_2 : f_isHeld 2 = 0) (x1 : Int32) : CI l yX3_goOnFrom wsX3_goOnFrom ({ frames := 0, cells := 0, slots := 0, locals := 0 }) (dC, dI) (tysA cB cI cJ cZ cS) [(q_past, .inr (3, [u_past_0, u_past_1, .ref q_isHeld, u_past_3, u_past_4])), (q_isHeld, .inl (cZ, 3, .inl f_isHeld))] [.ref q_past, .int x1, .ref q_now] (fun r w => w = [(q_past, .inr (3, [u_past_0, u_past_1, .ref q_isHeld, u_past_3, u_past_4])), (q_isHeld, .inl (cZ, 3, .inl f_isHeld))] ∧ r = 0) := by
  refine open_I (cc := cX3_goOnFrom) (maxL := 3) (ret := (some .boolean)) (by decide) rfl (Nat.le_of_ble_eq_true rfl) ?_
  intro p e s m below meth c A ls E
  obtain ⟨C, hr, hlocks, hnm, hA, hP, hK, hD, hN, hl⟩ := E
  obtain ⟨hx, hb, hml, hown, hts⟩ := id C
  have hS : va_S A s.heap s.heap [] := va_S.rf
  have hl : lv_has ls 3 [(0, .ref q_past), (1, .int x1), (2, .ref q_now)] := hl
  have inX3 : ∀ w ∈ u_ws RX3 TX3 5, w ∈ wsX3_goOnFrom := fun _ h => List.mem_cons_of_mem _ (List.mem_append_left _ (List.mem_append_right _ h))
  have L20 : Cond.fieldLink RX3 20 "GuessFerry$Past" "isHeld" "[Z" ∈ wsX3_goOnFrom := by decide +kernel
  refine lv_iload_n hx hb dX3_goOnFrom_0 rfl (lv_at hl 1 rfl) ?_
  refine lv_if_lt (tgt := 18) hx hb dX3_goOnFrom_1 (by decide) (fun c1 => ?_) (fun c1 => ?_)
  · skip
    refine lv_iconst (v := 0) hx hb dX3_goOnFrom_18 (by decide) ?_
    exact q_zret C hr hlocks (Or.inl rfl) hK hP hD hS (Nat.le_of_ble_eq_true rfl) (Nat.le_of_ble_eq_true rfl) dX3_goOnFrom_19 (⟨rfl, rfl⟩)
  · skip
    refine lv_iload_n hx hb dX3_goOnFrom_4 rfl (lv_at hl 1 rfl) ?_
    refine lv_iconst (v := 3) hx hb dX3_goOnFrom_5 (by decide) ?_
    refine lv_icmp_ge (tgt := 18) hx hb dX3_goOnFrom_6 (by decide) (fun c2 => ?_) (fun c2 => ?_)
    · skip
      refine lv_iconst (v := 0) hx hb dX3_goOnFrom_18 (by decide) ?_
      exact q_zret C hr hlocks (Or.inl rfl) hK hP hD hS (Nat.le_of_ble_eq_true rfl) (Nat.le_of_ble_eq_true rfl) dX3_goOnFrom_19 (⟨rfl, rfl⟩)
    · skip
      obtain rfl | rfl | rfl := i32_3c c1 (Int32.not_le.mp c2)
      · skip
        refine lv_aload_n hx hb dX3_goOnFrom_9 rfl (lv_at hl 0 rfl) ?_
        refine q_get (v := .ref q_isHeld) C inX3 hK hP 0 rfl rfl 2 (by decide) rfl L20 rfl dX3_goOnFrom_10 ?_
        refine lv_iload_n hx hb dX3_goOnFrom_13 rfl (lv_at hl 1 rfl) ?_
        refine q_zald (x := 0) C hK hP 1 3 rfl rfl (vp_lit (by decide +kernel)) dX3_goOnFrom_14 (h_isHeld_0) ?_
        refine lv_if_ne (tgt := 20) hx hb dX3_goOnFrom_15 (by decide) (fun h => absurd (by decide +kernel) h) (fun _ => ?_)
        refine lv_iconst (v := 0) hx hb dX3_goOnFrom_18 (by decide) ?_
        exact q_zret C hr hlocks (Or.inl rfl) hK hP hD hS (Nat.le_of_ble_eq_true rfl) (Nat.le_of_ble_eq_true rfl) dX3_goOnFrom_19 (⟨rfl, rfl⟩)
      · skip
        refine lv_aload_n hx hb dX3_goOnFrom_9 rfl (lv_at hl 0 rfl) ?_
        refine q_get (v := .ref q_isHeld) C inX3 hK hP 0 rfl rfl 2 (by decide) rfl L20 rfl dX3_goOnFrom_10 ?_
        refine lv_iload_n hx hb dX3_goOnFrom_13 rfl (lv_at hl 1 rfl) ?_
        refine q_zald (x := 0) C hK hP 1 3 rfl rfl (vp_lit (by decide +kernel)) dX3_goOnFrom_14 (h_isHeld_1) ?_
        refine lv_if_ne (tgt := 20) hx hb dX3_goOnFrom_15 (by decide) (fun h => absurd (by decide +kernel) h) (fun _ => ?_)
        refine lv_iconst (v := 0) hx hb dX3_goOnFrom_18 (by decide) ?_
        exact q_zret C hr hlocks (Or.inl rfl) hK hP hD hS (Nat.le_of_ble_eq_true rfl) (Nat.le_of_ble_eq_true rfl) dX3_goOnFrom_19 (⟨rfl, rfl⟩)
      · skip
        refine lv_aload_n hx hb dX3_goOnFrom_9 rfl (lv_at hl 0 rfl) ?_
        refine q_get (v := .ref q_isHeld) C inX3 hK hP 0 rfl rfl 2 (by decide) rfl L20 rfl dX3_goOnFrom_10 ?_
        refine lv_iload_n hx hb dX3_goOnFrom_13 rfl (lv_at hl 1 rfl) ?_
        refine q_zald (x := 0) C hK hP 1 3 rfl rfl (vp_lit (by decide +kernel)) dX3_goOnFrom_14 (h_isHeld_2) ?_
        refine lv_if_ne (tgt := 20) hx hb dX3_goOnFrom_15 (by decide) (fun h => absurd (by decide +kernel) h) (fun _ => ?_)
        refine lv_iconst (v := 0) hx hb dX3_goOnFrom_18 (by decide) ?_
        exact q_zret C hr hlocks (Or.inl rfl) hK hP hD hS (Nat.le_of_ble_eq_true rfl) (Nat.le_of_ble_eq_true rfl) dX3_goOnFrom_19 (⟨rfl, rfl⟩)

set_option maxHeartbeats 4000000 in
set_option maxRecDepth 100000 in
theorem k_X10_restore (l : Launch) (dC : Nat → ClassId) (dI : Nat → Nat → Nat) (cB cI cJ cZ cS : ClassId) (q_G : Nat) (q_now : Nat) (q_past : Nat) (q_isHeld : Nat) (u_G_0 : Value) (u_G_1 : Value) (u_G_2 : Value) (u_G_4 : Value) (u_G_6 : Value) (u_G_7 : Value) (u_G_8 : Value) (u_past_0 : Value) (u_past_1 : Value) (u_past_3 : Value) (u_past_4 : Value) (f_isHeld : Nat → Int32) (h_isHeld_0 : f_isHeld 0 = 0) (h_isHeld_1 : f_isHeld 1 = 0) (h_isHeld_2 : f_isHeld 2 = 0) (x1 : Int32) : CI l yX10_restore wsX10_restore ({ frames := 1, cells := 0, slots := 0, locals := 22 }) (dC, dI) (tysA cB cI cJ cZ cS) [(q_G, .inr (10, [u_G_0, u_G_1, u_G_2, .ref q_now, u_G_4, .ref q_past, u_G_6, u_G_7, u_G_8])), (q_past, .inr (3, [u_past_0, u_past_1, .ref q_isHeld, u_past_3, u_past_4])), (q_isHeld, .inl (cZ, 3, .inl f_isHeld))] [.ref q_G, .int x1] (fun r _ => r = 0) := by
  refine open_I (cc := cX10_restore) (maxL := 2) (ret := (some .boolean)) (by decide) rfl (Nat.le_of_ble_eq_true rfl) ?_
  intro p e s m below meth c A ls E
  obtain ⟨C, hr, hlocks, hnm, hA, hP, hK, hD, hN, hl⟩ := E
  obtain ⟨hx, hb, hml, hown, hts⟩ := id C
  have hS : va_S A s.heap s.heap [] := va_S.rf
  have hl : lv_has ls 2 [(0, .ref q_G), (1, .int x1)] := hl
  have inX10 : ∀ w ∈ u_ws RX10 TX10 9, w ∈ wsX10_restore := fun _ h => List.mem_cons_of_mem _ (List.mem_append_left _ (List.mem_append_left _ (List.mem_append_right _ h)))
  have E_X3_goOnFrom : Cond.selects RX3 yX3_goOnFrom yX3_goOnFrom ∈ wsX10_restore := by decide +kernel
  have I_X3 : Cond.initialized RX3 ∈ wsX10_restore := by decide +kernel
  have L35 : Cond.fieldLink RX10 35 "GuessFerry" "now" "LGuessFerry$Standing;" ∈ wsX10_restore := by decide +kernel
  have L45 : Cond.fieldLink RX10 45 "GuessFerry" "past" "LGuessFerry$Past;" ∈ wsX10_restore := by decide +kernel
  have N_X3_goOnFrom : Cond.instanceMethod yX3_goOnFrom ∈ wsX10_restore := by decide +kernel
  refine lv_aload_n hx hb dX10_restore_0 rfl (lv_at hl 0 rfl) ?_
  refine q_get (v := .ref q_past) C inX10 hK hP 0 rfl rfl 5 (by decide) rfl L45 rfl dX10_restore_1 ?_
  refine lv_iload_n hx hb dX10_restore_4 rfl (lv_at hl 1 rfl) ?_
  refine lv_aload_n hx hb dX10_restore_5 rfl (lv_at hl 0 rfl) ?_
  refine q_get (v := .ref q_now) C inX10 hK hP 0 rfl rfl 3 (by decide) rfl L35 rfl dX10_restore_6 ?_
  refine q_goi (wr := [(q_G, .inr (10, [u_G_0, u_G_1, u_G_2, .ref q_now, u_G_4, .ref q_past, u_G_6, u_G_7, u_G_8]))]) (va_runVN (As := [.int x1, .ref q_now]) (rest := []) C (k_X3_goOnFrom l dC dI cB cI cJ cZ cS (q_now) (q_past) (q_isHeld) (u_past_0) (u_past_1) (u_past_3) (u_past_4) (f_isHeld) h_isHeld_0 h_isHeld_1 h_isHeld_2 x1 _) ⟨va_cnB 2 hts gX10_restore_X3_goOnFrom_n286 rfl rfl rfl (hN _ nwM_X10_286 rfl) (hts _ I_X3) (by decide +kernel) ⟨Nat.le_of_ble_eq_true rfl, Nat.le_of_ble_eq_true rfl⟩, hts _ N_X3_goOnFrom, hts _ E_X3_goOnFrom⟩ (q_preV hK hP (ci := 3) (q0 := 1) rfl rfl rfl (q_pre hN hK hP hD [1, 2] rfl (by decide))) rfl rfl hl.1 rfl (lv_room (Nat.le_of_ble_eq_true rfl)) dX10_restore_9 ⟨Nat.le_of_ble_eq_true rfl, Nat.le_of_ble_eq_true rfl⟩) hP hD hS hA [1, 2] [0] rfl rfl (by decide) (by decide) (fun r w1 H locs hw hP hD hS => ?_)
  obtain ⟨rfl, rfl⟩ := hw
  have hP : va_P (dC, dI) vwCl [(q_G, .inr (10, [u_G_0, u_G_1, u_G_2, .ref q_now, u_G_4, .ref q_past, u_G_6, u_G_7, u_G_8])), (q_past, .inr (3, [u_past_0, u_past_1, .ref q_isHeld, u_past_3, u_past_4])), (q_isHeld, .inl (cZ, 3, .inl f_isHeld))] H := hP.sub [0, 1, 2] rfl
  have hD : va_D A [(q_G, .inr (10, [u_G_0, u_G_1, u_G_2, .ref q_now, u_G_4, .ref q_past, u_G_6, u_G_7, u_G_8])), (q_past, .inr (3, [u_past_0, u_past_1, .ref q_isHeld, u_past_3, u_past_4])), (q_isHeld, .inl (cZ, 3, .inl f_isHeld))] := hD.sub [0, 1, 2] (by decide) rfl
  exact q_zret C hr hlocks (Or.inl rfl) hK hP hD hS (Nat.le_of_ble_eq_true rfl) (Nat.le_of_ble_eq_true rfl) dX10_restore_12 (rfl)

set_option maxHeartbeats 4000000 in
set_option maxRecDepth 100000 in
theorem k_sumOf6 (l : Launch) (dC : Nat → ClassId) (dI : Nat → Nat → Nat) (cB cI cJ cZ cS : ClassId) (q_now_goes : Nat) (f_now_goes : Nat → Int32) (h_now_goes_0 : f_now_goes 0 = 0) (h_now_goes_1 : f_now_goes 1 = 0) (h_now_goes_2 : f_now_goes 2 = 0) (h_now_goes_3 : f_now_goes 3 = 0) (h_now_goes_4 : f_now_goes 4 = 0) (h_now_goes_5 : f_now_goes 5 = 0) : CI l yX10_sumOf wsX10_sumOf ({ frames := 0, cells := 0, slots := 0, locals := 0 }) (dC, dI) (tysA cB cI cJ cZ cS) [(q_now_goes, .inl (cI, 6, .inl f_now_goes))] [.ref q_now_goes] (fun r w => w = [(q_now_goes, .inl (cI, 6, .inl f_now_goes))] ∧ r = 0) := by
  refine open_I (cc := cX10_sumOf) (maxL := 3) (ret := (some .int)) (by decide) rfl (Nat.le_of_ble_eq_true rfl) ?_
  intro p e s m below meth c A ls E
  obtain ⟨C, hr, hlocks, hnm, hA, hP, hK, hD, hN, hl⟩ := E
  obtain ⟨hx, hb, hml, hown, hts⟩ := id C
  have hS : va_S A s.heap s.heap [] := va_S.rf
  have hl : lv_has ls 3 [(0, .ref q_now_goes)] := hl
  refine lv_iconst (v := 0) hx hb dX10_sumOf_0 (by decide) ?_
  refine lv_istore_n (lv' := [(1, .int 0), (0, .ref q_now_goes)]) hx hb dX10_sumOf_1 rfl hl (by decide) rfl (fun ls hl => ?_)
  refine lv_iconst (v := 0) hx hb dX10_sumOf_2 (by decide) ?_
  refine lv_istore_n (lv' := [(2, .int 0), (1, .int 0), (0, .ref q_now_goes)]) hx hb dX10_sumOf_3 rfl hl (by decide) rfl (fun ls hl => ?_)
  refine lv_iload_n hx hb dX10_sumOf_4 rfl (lv_at hl 0 rfl) ?_
  refine lv_aload_n hx hb dX10_sumOf_5 rfl (lv_at hl 2 rfl) ?_
  refine q_alen (v := 6) C hK hP 0 1 rfl rfl dX10_sumOf_6 rfl ?_
  refine lv_icmp_ge (tgt := 22) hx hb dX10_sumOf_7 (by decide) (fun h => absurd h (by decide +kernel)) (fun _ => ?_)
  refine lv_iload_n hx hb dX10_sumOf_10 rfl (lv_at hl 1 rfl) ?_
  refine lv_aload_n hx hb dX10_sumOf_11 rfl (lv_at hl 2 rfl) ?_
  refine lv_iload_n hx hb dX10_sumOf_12 rfl (lv_at hl 0 rfl) ?_
  refine q_iald (x := 0) C hK hP 0 1 rfl rfl (vp_lit (by decide +kernel)) dX10_sumOf_13 (h_now_goes_0) ?_
  refine lv_iadd hx hb dX10_sumOf_14 ?_
  refine q_top (y := 0) (by decide +kernel) ?_
  refine lv_istore_n (lv' := [(1, .int 0), (2, .int 0), (0, .ref q_now_goes)]) hx hb dX10_sumOf_15 rfl hl (by decide) rfl (fun ls hl => ?_)
  refine lv_iinc (v := 1) (lv' := [(2, .int 1), (1, .int 0), (0, .ref q_now_goes)]) hx hb dX10_sumOf_16 hl (k := 1) rfl (by decide +kernel) (by decide) rfl (fun ls hl => ?_)
  refine lv_goto (tgt := 4) hx hb dX10_sumOf_19 (by decide) ?_
  refine lv_iload_n hx hb dX10_sumOf_4 rfl (lv_at hl 0 rfl) ?_
  refine lv_aload_n hx hb dX10_sumOf_5 rfl (lv_at hl 2 rfl) ?_
  refine q_alen (v := 6) C hK hP 0 1 rfl rfl dX10_sumOf_6 rfl ?_
  refine lv_icmp_ge (tgt := 22) hx hb dX10_sumOf_7 (by decide) (fun h => absurd h (by decide +kernel)) (fun _ => ?_)
  refine lv_iload_n hx hb dX10_sumOf_10 rfl (lv_at hl 1 rfl) ?_
  refine lv_aload_n hx hb dX10_sumOf_11 rfl (lv_at hl 2 rfl) ?_
  refine lv_iload_n hx hb dX10_sumOf_12 rfl (lv_at hl 0 rfl) ?_
  refine q_iald (x := 0) C hK hP 0 1 rfl rfl (vp_lit (by decide +kernel)) dX10_sumOf_13 (h_now_goes_1) ?_
  refine lv_iadd hx hb dX10_sumOf_14 ?_
  refine q_top (y := 0) (by decide +kernel) ?_
  refine lv_istore_n (lv' := [(1, .int 0), (2, .int 1), (0, .ref q_now_goes)]) hx hb dX10_sumOf_15 rfl hl (by decide) rfl (fun ls hl => ?_)
  refine lv_iinc (v := 2) (lv' := [(2, .int 2), (1, .int 0), (0, .ref q_now_goes)]) hx hb dX10_sumOf_16 hl (k := 1) rfl (by decide +kernel) (by decide) rfl (fun ls hl => ?_)
  refine lv_goto (tgt := 4) hx hb dX10_sumOf_19 (by decide) ?_
  refine lv_iload_n hx hb dX10_sumOf_4 rfl (lv_at hl 0 rfl) ?_
  refine lv_aload_n hx hb dX10_sumOf_5 rfl (lv_at hl 2 rfl) ?_
  refine q_alen (v := 6) C hK hP 0 1 rfl rfl dX10_sumOf_6 rfl ?_
  refine lv_icmp_ge (tgt := 22) hx hb dX10_sumOf_7 (by decide) (fun h => absurd h (by decide +kernel)) (fun _ => ?_)
  refine lv_iload_n hx hb dX10_sumOf_10 rfl (lv_at hl 1 rfl) ?_
  refine lv_aload_n hx hb dX10_sumOf_11 rfl (lv_at hl 2 rfl) ?_
  refine lv_iload_n hx hb dX10_sumOf_12 rfl (lv_at hl 0 rfl) ?_
  refine q_iald (x := 0) C hK hP 0 1 rfl rfl (vp_lit (by decide +kernel)) dX10_sumOf_13 (h_now_goes_2) ?_
  refine lv_iadd hx hb dX10_sumOf_14 ?_
  refine q_top (y := 0) (by decide +kernel) ?_
  refine lv_istore_n (lv' := [(1, .int 0), (2, .int 2), (0, .ref q_now_goes)]) hx hb dX10_sumOf_15 rfl hl (by decide) rfl (fun ls hl => ?_)
  refine lv_iinc (v := 3) (lv' := [(2, .int 3), (1, .int 0), (0, .ref q_now_goes)]) hx hb dX10_sumOf_16 hl (k := 1) rfl (by decide +kernel) (by decide) rfl (fun ls hl => ?_)
  refine lv_goto (tgt := 4) hx hb dX10_sumOf_19 (by decide) ?_
  refine lv_iload_n hx hb dX10_sumOf_4 rfl (lv_at hl 0 rfl) ?_
  refine lv_aload_n hx hb dX10_sumOf_5 rfl (lv_at hl 2 rfl) ?_
  refine q_alen (v := 6) C hK hP 0 1 rfl rfl dX10_sumOf_6 rfl ?_
  refine lv_icmp_ge (tgt := 22) hx hb dX10_sumOf_7 (by decide) (fun h => absurd h (by decide +kernel)) (fun _ => ?_)
  refine lv_iload_n hx hb dX10_sumOf_10 rfl (lv_at hl 1 rfl) ?_
  refine lv_aload_n hx hb dX10_sumOf_11 rfl (lv_at hl 2 rfl) ?_
  refine lv_iload_n hx hb dX10_sumOf_12 rfl (lv_at hl 0 rfl) ?_
  refine q_iald (x := 0) C hK hP 0 1 rfl rfl (vp_lit (by decide +kernel)) dX10_sumOf_13 (h_now_goes_3) ?_
  refine lv_iadd hx hb dX10_sumOf_14 ?_
  refine q_top (y := 0) (by decide +kernel) ?_
  refine lv_istore_n (lv' := [(1, .int 0), (2, .int 3), (0, .ref q_now_goes)]) hx hb dX10_sumOf_15 rfl hl (by decide) rfl (fun ls hl => ?_)
  refine lv_iinc (v := 4) (lv' := [(2, .int 4), (1, .int 0), (0, .ref q_now_goes)]) hx hb dX10_sumOf_16 hl (k := 1) rfl (by decide +kernel) (by decide) rfl (fun ls hl => ?_)
  refine lv_goto (tgt := 4) hx hb dX10_sumOf_19 (by decide) ?_
  refine lv_iload_n hx hb dX10_sumOf_4 rfl (lv_at hl 0 rfl) ?_
  refine lv_aload_n hx hb dX10_sumOf_5 rfl (lv_at hl 2 rfl) ?_
  refine q_alen (v := 6) C hK hP 0 1 rfl rfl dX10_sumOf_6 rfl ?_
  refine lv_icmp_ge (tgt := 22) hx hb dX10_sumOf_7 (by decide) (fun h => absurd h (by decide +kernel)) (fun _ => ?_)
  refine lv_iload_n hx hb dX10_sumOf_10 rfl (lv_at hl 1 rfl) ?_
  refine lv_aload_n hx hb dX10_sumOf_11 rfl (lv_at hl 2 rfl) ?_
  refine lv_iload_n hx hb dX10_sumOf_12 rfl (lv_at hl 0 rfl) ?_
  refine q_iald (x := 0) C hK hP 0 1 rfl rfl (vp_lit (by decide +kernel)) dX10_sumOf_13 (h_now_goes_4) ?_
  refine lv_iadd hx hb dX10_sumOf_14 ?_
  refine q_top (y := 0) (by decide +kernel) ?_
  refine lv_istore_n (lv' := [(1, .int 0), (2, .int 4), (0, .ref q_now_goes)]) hx hb dX10_sumOf_15 rfl hl (by decide) rfl (fun ls hl => ?_)
  refine lv_iinc (v := 5) (lv' := [(2, .int 5), (1, .int 0), (0, .ref q_now_goes)]) hx hb dX10_sumOf_16 hl (k := 1) rfl (by decide +kernel) (by decide) rfl (fun ls hl => ?_)
  refine lv_goto (tgt := 4) hx hb dX10_sumOf_19 (by decide) ?_
  refine lv_iload_n hx hb dX10_sumOf_4 rfl (lv_at hl 0 rfl) ?_
  refine lv_aload_n hx hb dX10_sumOf_5 rfl (lv_at hl 2 rfl) ?_
  refine q_alen (v := 6) C hK hP 0 1 rfl rfl dX10_sumOf_6 rfl ?_
  refine lv_icmp_ge (tgt := 22) hx hb dX10_sumOf_7 (by decide) (fun h => absurd h (by decide +kernel)) (fun _ => ?_)
  refine lv_iload_n hx hb dX10_sumOf_10 rfl (lv_at hl 1 rfl) ?_
  refine lv_aload_n hx hb dX10_sumOf_11 rfl (lv_at hl 2 rfl) ?_
  refine lv_iload_n hx hb dX10_sumOf_12 rfl (lv_at hl 0 rfl) ?_
  refine q_iald (x := 0) C hK hP 0 1 rfl rfl (vp_lit (by decide +kernel)) dX10_sumOf_13 (h_now_goes_5) ?_
  refine lv_iadd hx hb dX10_sumOf_14 ?_
  refine q_top (y := 0) (by decide +kernel) ?_
  refine lv_istore_n (lv' := [(1, .int 0), (2, .int 5), (0, .ref q_now_goes)]) hx hb dX10_sumOf_15 rfl hl (by decide) rfl (fun ls hl => ?_)
  refine lv_iinc (v := 6) (lv' := [(2, .int 6), (1, .int 0), (0, .ref q_now_goes)]) hx hb dX10_sumOf_16 hl (k := 1) rfl (by decide +kernel) (by decide) rfl (fun ls hl => ?_)
  refine lv_goto (tgt := 4) hx hb dX10_sumOf_19 (by decide) ?_
  refine lv_iload_n hx hb dX10_sumOf_4 rfl (lv_at hl 0 rfl) ?_
  refine lv_aload_n hx hb dX10_sumOf_5 rfl (lv_at hl 2 rfl) ?_
  refine q_alen (v := 6) C hK hP 0 1 rfl rfl dX10_sumOf_6 rfl ?_
  refine lv_icmp_ge (tgt := 22) hx hb dX10_sumOf_7 (by decide) (fun _ => ?_) (fun h => absurd (by decide +kernel) h)
  refine lv_iload_n hx hb dX10_sumOf_22 rfl (lv_at hl 1 rfl) ?_
  exact q_iret C hr hlocks hK hP hD hS (Nat.le_of_ble_eq_true rfl) (Nat.le_of_ble_eq_true rfl) dX10_sumOf_23 (⟨rfl, rfl⟩)

set_option maxHeartbeats 4000000 in
set_option maxRecDepth 100000 in
theorem k_sumOf5 (l : Launch) (dC : Nat → ClassId) (dI : Nat → Nat → Nat) (cB cI cJ cZ cS : ClassId) (q_now_shifted : Nat) (f_now_shifted : Nat → Int32) (h_now_shifted_0 : f_now_shifted 0 = 0) (h_now_shifted_1 : f_now_shifted 1 = 0) (h_now_shifted_2 : f_now_shifted 2 = 0) (h_now_shifted_3 : f_now_shifted 3 = 0) (h_now_shifted_4 : f_now_shifted 4 = 0) : CI l yX10_sumOf wsX10_sumOf ({ frames := 0, cells := 0, slots := 0, locals := 0 }) (dC, dI) (tysA cB cI cJ cZ cS) [(q_now_shifted, .inl (cI, 5, .inl f_now_shifted))] [.ref q_now_shifted] (fun r w => w = [(q_now_shifted, .inl (cI, 5, .inl f_now_shifted))] ∧ r = 0) := by
  refine open_I (cc := cX10_sumOf) (maxL := 3) (ret := (some .int)) (by decide) rfl (Nat.le_of_ble_eq_true rfl) ?_
  intro p e s m below meth c A ls E
  obtain ⟨C, hr, hlocks, hnm, hA, hP, hK, hD, hN, hl⟩ := E
  obtain ⟨hx, hb, hml, hown, hts⟩ := id C
  have hS : va_S A s.heap s.heap [] := va_S.rf
  have hl : lv_has ls 3 [(0, .ref q_now_shifted)] := hl
  refine lv_iconst (v := 0) hx hb dX10_sumOf_0 (by decide) ?_
  refine lv_istore_n (lv' := [(1, .int 0), (0, .ref q_now_shifted)]) hx hb dX10_sumOf_1 rfl hl (by decide) rfl (fun ls hl => ?_)
  refine lv_iconst (v := 0) hx hb dX10_sumOf_2 (by decide) ?_
  refine lv_istore_n (lv' := [(2, .int 0), (1, .int 0), (0, .ref q_now_shifted)]) hx hb dX10_sumOf_3 rfl hl (by decide) rfl (fun ls hl => ?_)
  refine lv_iload_n hx hb dX10_sumOf_4 rfl (lv_at hl 0 rfl) ?_
  refine lv_aload_n hx hb dX10_sumOf_5 rfl (lv_at hl 2 rfl) ?_
  refine q_alen (v := 5) C hK hP 0 1 rfl rfl dX10_sumOf_6 rfl ?_
  refine lv_icmp_ge (tgt := 22) hx hb dX10_sumOf_7 (by decide) (fun h => absurd h (by decide +kernel)) (fun _ => ?_)
  refine lv_iload_n hx hb dX10_sumOf_10 rfl (lv_at hl 1 rfl) ?_
  refine lv_aload_n hx hb dX10_sumOf_11 rfl (lv_at hl 2 rfl) ?_
  refine lv_iload_n hx hb dX10_sumOf_12 rfl (lv_at hl 0 rfl) ?_
  refine q_iald (x := 0) C hK hP 0 1 rfl rfl (vp_lit (by decide +kernel)) dX10_sumOf_13 (h_now_shifted_0) ?_
  refine lv_iadd hx hb dX10_sumOf_14 ?_
  refine q_top (y := 0) (by decide +kernel) ?_
  refine lv_istore_n (lv' := [(1, .int 0), (2, .int 0), (0, .ref q_now_shifted)]) hx hb dX10_sumOf_15 rfl hl (by decide) rfl (fun ls hl => ?_)
  refine lv_iinc (v := 1) (lv' := [(2, .int 1), (1, .int 0), (0, .ref q_now_shifted)]) hx hb dX10_sumOf_16 hl (k := 1) rfl (by decide +kernel) (by decide) rfl (fun ls hl => ?_)
  refine lv_goto (tgt := 4) hx hb dX10_sumOf_19 (by decide) ?_
  refine lv_iload_n hx hb dX10_sumOf_4 rfl (lv_at hl 0 rfl) ?_
  refine lv_aload_n hx hb dX10_sumOf_5 rfl (lv_at hl 2 rfl) ?_
  refine q_alen (v := 5) C hK hP 0 1 rfl rfl dX10_sumOf_6 rfl ?_
  refine lv_icmp_ge (tgt := 22) hx hb dX10_sumOf_7 (by decide) (fun h => absurd h (by decide +kernel)) (fun _ => ?_)
  refine lv_iload_n hx hb dX10_sumOf_10 rfl (lv_at hl 1 rfl) ?_
  refine lv_aload_n hx hb dX10_sumOf_11 rfl (lv_at hl 2 rfl) ?_
  refine lv_iload_n hx hb dX10_sumOf_12 rfl (lv_at hl 0 rfl) ?_
  refine q_iald (x := 0) C hK hP 0 1 rfl rfl (vp_lit (by decide +kernel)) dX10_sumOf_13 (h_now_shifted_1) ?_
  refine lv_iadd hx hb dX10_sumOf_14 ?_
  refine q_top (y := 0) (by decide +kernel) ?_
  refine lv_istore_n (lv' := [(1, .int 0), (2, .int 1), (0, .ref q_now_shifted)]) hx hb dX10_sumOf_15 rfl hl (by decide) rfl (fun ls hl => ?_)
  refine lv_iinc (v := 2) (lv' := [(2, .int 2), (1, .int 0), (0, .ref q_now_shifted)]) hx hb dX10_sumOf_16 hl (k := 1) rfl (by decide +kernel) (by decide) rfl (fun ls hl => ?_)
  refine lv_goto (tgt := 4) hx hb dX10_sumOf_19 (by decide) ?_
  refine lv_iload_n hx hb dX10_sumOf_4 rfl (lv_at hl 0 rfl) ?_
  refine lv_aload_n hx hb dX10_sumOf_5 rfl (lv_at hl 2 rfl) ?_
  refine q_alen (v := 5) C hK hP 0 1 rfl rfl dX10_sumOf_6 rfl ?_
  refine lv_icmp_ge (tgt := 22) hx hb dX10_sumOf_7 (by decide) (fun h => absurd h (by decide +kernel)) (fun _ => ?_)
  refine lv_iload_n hx hb dX10_sumOf_10 rfl (lv_at hl 1 rfl) ?_
  refine lv_aload_n hx hb dX10_sumOf_11 rfl (lv_at hl 2 rfl) ?_
  refine lv_iload_n hx hb dX10_sumOf_12 rfl (lv_at hl 0 rfl) ?_
  refine q_iald (x := 0) C hK hP 0 1 rfl rfl (vp_lit (by decide +kernel)) dX10_sumOf_13 (h_now_shifted_2) ?_
  refine lv_iadd hx hb dX10_sumOf_14 ?_
  refine q_top (y := 0) (by decide +kernel) ?_
  refine lv_istore_n (lv' := [(1, .int 0), (2, .int 2), (0, .ref q_now_shifted)]) hx hb dX10_sumOf_15 rfl hl (by decide) rfl (fun ls hl => ?_)
  refine lv_iinc (v := 3) (lv' := [(2, .int 3), (1, .int 0), (0, .ref q_now_shifted)]) hx hb dX10_sumOf_16 hl (k := 1) rfl (by decide +kernel) (by decide) rfl (fun ls hl => ?_)
  refine lv_goto (tgt := 4) hx hb dX10_sumOf_19 (by decide) ?_
  refine lv_iload_n hx hb dX10_sumOf_4 rfl (lv_at hl 0 rfl) ?_
  refine lv_aload_n hx hb dX10_sumOf_5 rfl (lv_at hl 2 rfl) ?_
  refine q_alen (v := 5) C hK hP 0 1 rfl rfl dX10_sumOf_6 rfl ?_
  refine lv_icmp_ge (tgt := 22) hx hb dX10_sumOf_7 (by decide) (fun h => absurd h (by decide +kernel)) (fun _ => ?_)
  refine lv_iload_n hx hb dX10_sumOf_10 rfl (lv_at hl 1 rfl) ?_
  refine lv_aload_n hx hb dX10_sumOf_11 rfl (lv_at hl 2 rfl) ?_
  refine lv_iload_n hx hb dX10_sumOf_12 rfl (lv_at hl 0 rfl) ?_
  refine q_iald (x := 0) C hK hP 0 1 rfl rfl (vp_lit (by decide +kernel)) dX10_sumOf_13 (h_now_shifted_3) ?_
  refine lv_iadd hx hb dX10_sumOf_14 ?_
  refine q_top (y := 0) (by decide +kernel) ?_
  refine lv_istore_n (lv' := [(1, .int 0), (2, .int 3), (0, .ref q_now_shifted)]) hx hb dX10_sumOf_15 rfl hl (by decide) rfl (fun ls hl => ?_)
  refine lv_iinc (v := 4) (lv' := [(2, .int 4), (1, .int 0), (0, .ref q_now_shifted)]) hx hb dX10_sumOf_16 hl (k := 1) rfl (by decide +kernel) (by decide) rfl (fun ls hl => ?_)
  refine lv_goto (tgt := 4) hx hb dX10_sumOf_19 (by decide) ?_
  refine lv_iload_n hx hb dX10_sumOf_4 rfl (lv_at hl 0 rfl) ?_
  refine lv_aload_n hx hb dX10_sumOf_5 rfl (lv_at hl 2 rfl) ?_
  refine q_alen (v := 5) C hK hP 0 1 rfl rfl dX10_sumOf_6 rfl ?_
  refine lv_icmp_ge (tgt := 22) hx hb dX10_sumOf_7 (by decide) (fun h => absurd h (by decide +kernel)) (fun _ => ?_)
  refine lv_iload_n hx hb dX10_sumOf_10 rfl (lv_at hl 1 rfl) ?_
  refine lv_aload_n hx hb dX10_sumOf_11 rfl (lv_at hl 2 rfl) ?_
  refine lv_iload_n hx hb dX10_sumOf_12 rfl (lv_at hl 0 rfl) ?_
  refine q_iald (x := 0) C hK hP 0 1 rfl rfl (vp_lit (by decide +kernel)) dX10_sumOf_13 (h_now_shifted_4) ?_
  refine lv_iadd hx hb dX10_sumOf_14 ?_
  refine q_top (y := 0) (by decide +kernel) ?_
  refine lv_istore_n (lv' := [(1, .int 0), (2, .int 4), (0, .ref q_now_shifted)]) hx hb dX10_sumOf_15 rfl hl (by decide) rfl (fun ls hl => ?_)
  refine lv_iinc (v := 5) (lv' := [(2, .int 5), (1, .int 0), (0, .ref q_now_shifted)]) hx hb dX10_sumOf_16 hl (k := 1) rfl (by decide +kernel) (by decide) rfl (fun ls hl => ?_)
  refine lv_goto (tgt := 4) hx hb dX10_sumOf_19 (by decide) ?_
  refine lv_iload_n hx hb dX10_sumOf_4 rfl (lv_at hl 0 rfl) ?_
  refine lv_aload_n hx hb dX10_sumOf_5 rfl (lv_at hl 2 rfl) ?_
  refine q_alen (v := 5) C hK hP 0 1 rfl rfl dX10_sumOf_6 rfl ?_
  refine lv_icmp_ge (tgt := 22) hx hb dX10_sumOf_7 (by decide) (fun _ => ?_) (fun h => absurd (by decide +kernel) h)
  refine lv_iload_n hx hb dX10_sumOf_22 rfl (lv_at hl 1 rfl) ?_
  exact q_iret C hr hlocks hK hP hD hS (Nat.le_of_ble_eq_true rfl) (Nat.le_of_ble_eq_true rfl) dX10_sumOf_23 (⟨rfl, rfl⟩)

set_option maxHeartbeats 4000000 in
set_option maxRecDepth 100000 in
theorem k_X3_slotsHeld (l : Launch) (dC : Nat → ClassId) (dI : Nat → Nat → Nat) (cB cI cJ cZ cS : ClassId) (q_past : Nat) (q_isHeld : Nat) (u_past_0 : Value) (u_past_1 : Value) (u_past_3 : Value) (u_past_4 : Value) (f_isHeld : Nat → Int32) (h_isHeld_0 : f_isHeld 0 = 0) (h_isHeld_1 : f_isHeld 1 = 0) (h_isHeld_2 : f_isHeld 2 = 0) : CI l yX3_slotsHeld wsX3_slotsHeld ({ frames := 0, cells := 0, slots := 0, locals := 0 }) (dC, dI) (tysA cB cI cJ cZ cS) [(q_past, .inr (3, [u_past_0, u_past_1, .ref q_isHeld, u_past_3, u_past_4])), (q_isHeld, .inl (cZ, 3, .inl f_isHeld))] [.ref q_past] (fun r w => w = [(q_past, .inr (3, [u_past_0, u_past_1, .ref q_isHeld, u_past_3, u_past_4])), (q_isHeld, .inl (cZ, 3, .inl f_isHeld))] ∧ r = 0) := by
  refine open_I (cc := cX3_slotsHeld) (maxL := 3) (ret := (some .int)) (by decide) rfl (Nat.le_of_ble_eq_true rfl) ?_
  intro p e s m below meth c A ls E
  obtain ⟨C, hr, hlocks, hnm, hA, hP, hK, hD, hN, hl⟩ := E
  obtain ⟨hx, hb, hml, hown, hts⟩ := id C
  have hS : va_S A s.heap s.heap [] := va_S.rf
  have hl : lv_has ls 3 [(0, .ref q_past)] := hl
  have inX3 : ∀ w ∈ u_ws RX3 TX3 5, w ∈ wsX3_slotsHeld := fun _ h => List.mem_cons_of_mem _ (List.mem_append_right _ h)
  have L20 : Cond.fieldLink RX3 20 "GuessFerry$Past" "isHeld" "[Z" ∈ wsX3_slotsHeld := by decide +kernel
  refine lv_iconst (v := 0) hx hb dX3_slotsHeld_0 (by decide) ?_
  refine lv_istore_n (lv' := [(1, .int 0), (0, .ref q_past)]) hx hb dX3_slotsHeld_1 rfl hl (by decide) rfl (fun ls hl => ?_)
  refine lv_iconst (v := 0) hx hb dX3_slotsHeld_2 (by decide) ?_
  refine lv_istore_n (lv' := [(2, .int 0), (1, .int 0), (0, .ref q_past)]) hx hb dX3_slotsHeld_3 rfl hl (by decide) rfl (fun ls hl => ?_)
  refine lv_iload_n hx hb dX3_slotsHeld_4 rfl (lv_at hl 0 rfl) ?_
  refine lv_iconst (v := 3) hx hb dX3_slotsHeld_5 (by decide) ?_
  refine lv_icmp_ge (tgt := 32) hx hb dX3_slotsHeld_6 (by decide) (fun h => absurd h (by decide +kernel)) (fun _ => ?_)
  refine lv_iload_n hx hb dX3_slotsHeld_9 rfl (lv_at hl 1 rfl) ?_
  refine lv_aload_n hx hb dX3_slotsHeld_10 rfl (lv_at hl 2 rfl) ?_
  refine q_get (v := .ref q_isHeld) C inX3 hK hP 0 rfl rfl 2 (by decide) rfl L20 rfl dX3_slotsHeld_11 ?_
  refine lv_iload_n hx hb dX3_slotsHeld_14 rfl (lv_at hl 0 rfl) ?_
  refine q_zald (x := 0) C hK hP 1 3 rfl rfl (vp_lit (by decide +kernel)) dX3_slotsHeld_15 (h_isHeld_0) ?_
  refine lv_if_eq (tgt := 23) hx hb dX3_slotsHeld_16 (by decide) (fun _ => ?_) (fun h => absurd (by decide +kernel) h)
  refine lv_iconst (v := 0) hx hb dX3_slotsHeld_23 (by decide) ?_
  refine lv_iadd hx hb dX3_slotsHeld_24 ?_
  refine q_top (y := 0) (by decide +kernel) ?_
  refine lv_istore_n (lv' := [(1, .int 0), (2, .int 0), (0, .ref q_past)]) hx hb dX3_slotsHeld_25 rfl hl (by decide) rfl (fun ls hl => ?_)
  refine lv_iinc (v := 1) (lv' := [(2, .int 1), (1, .int 0), (0, .ref q_past)]) hx hb dX3_slotsHeld_26 hl (k := 1) rfl (by decide +kernel) (by decide) rfl (fun ls hl => ?_)
  refine lv_goto (tgt := 4) hx hb dX3_slotsHeld_29 (by decide) ?_
  refine lv_iload_n hx hb dX3_slotsHeld_4 rfl (lv_at hl 0 rfl) ?_
  refine lv_iconst (v := 3) hx hb dX3_slotsHeld_5 (by decide) ?_
  refine lv_icmp_ge (tgt := 32) hx hb dX3_slotsHeld_6 (by decide) (fun h => absurd h (by decide +kernel)) (fun _ => ?_)
  refine lv_iload_n hx hb dX3_slotsHeld_9 rfl (lv_at hl 1 rfl) ?_
  refine lv_aload_n hx hb dX3_slotsHeld_10 rfl (lv_at hl 2 rfl) ?_
  refine q_get (v := .ref q_isHeld) C inX3 hK hP 0 rfl rfl 2 (by decide) rfl L20 rfl dX3_slotsHeld_11 ?_
  refine lv_iload_n hx hb dX3_slotsHeld_14 rfl (lv_at hl 0 rfl) ?_
  refine q_zald (x := 0) C hK hP 1 3 rfl rfl (vp_lit (by decide +kernel)) dX3_slotsHeld_15 (h_isHeld_1) ?_
  refine lv_if_eq (tgt := 23) hx hb dX3_slotsHeld_16 (by decide) (fun _ => ?_) (fun h => absurd (by decide +kernel) h)
  refine lv_iconst (v := 0) hx hb dX3_slotsHeld_23 (by decide) ?_
  refine lv_iadd hx hb dX3_slotsHeld_24 ?_
  refine q_top (y := 0) (by decide +kernel) ?_
  refine lv_istore_n (lv' := [(1, .int 0), (2, .int 1), (0, .ref q_past)]) hx hb dX3_slotsHeld_25 rfl hl (by decide) rfl (fun ls hl => ?_)
  refine lv_iinc (v := 2) (lv' := [(2, .int 2), (1, .int 0), (0, .ref q_past)]) hx hb dX3_slotsHeld_26 hl (k := 1) rfl (by decide +kernel) (by decide) rfl (fun ls hl => ?_)
  refine lv_goto (tgt := 4) hx hb dX3_slotsHeld_29 (by decide) ?_
  refine lv_iload_n hx hb dX3_slotsHeld_4 rfl (lv_at hl 0 rfl) ?_
  refine lv_iconst (v := 3) hx hb dX3_slotsHeld_5 (by decide) ?_
  refine lv_icmp_ge (tgt := 32) hx hb dX3_slotsHeld_6 (by decide) (fun h => absurd h (by decide +kernel)) (fun _ => ?_)
  refine lv_iload_n hx hb dX3_slotsHeld_9 rfl (lv_at hl 1 rfl) ?_
  refine lv_aload_n hx hb dX3_slotsHeld_10 rfl (lv_at hl 2 rfl) ?_
  refine q_get (v := .ref q_isHeld) C inX3 hK hP 0 rfl rfl 2 (by decide) rfl L20 rfl dX3_slotsHeld_11 ?_
  refine lv_iload_n hx hb dX3_slotsHeld_14 rfl (lv_at hl 0 rfl) ?_
  refine q_zald (x := 0) C hK hP 1 3 rfl rfl (vp_lit (by decide +kernel)) dX3_slotsHeld_15 (h_isHeld_2) ?_
  refine lv_if_eq (tgt := 23) hx hb dX3_slotsHeld_16 (by decide) (fun _ => ?_) (fun h => absurd (by decide +kernel) h)
  refine lv_iconst (v := 0) hx hb dX3_slotsHeld_23 (by decide) ?_
  refine lv_iadd hx hb dX3_slotsHeld_24 ?_
  refine q_top (y := 0) (by decide +kernel) ?_
  refine lv_istore_n (lv' := [(1, .int 0), (2, .int 2), (0, .ref q_past)]) hx hb dX3_slotsHeld_25 rfl hl (by decide) rfl (fun ls hl => ?_)
  refine lv_iinc (v := 3) (lv' := [(2, .int 3), (1, .int 0), (0, .ref q_past)]) hx hb dX3_slotsHeld_26 hl (k := 1) rfl (by decide +kernel) (by decide) rfl (fun ls hl => ?_)
  refine lv_goto (tgt := 4) hx hb dX3_slotsHeld_29 (by decide) ?_
  refine lv_iload_n hx hb dX3_slotsHeld_4 rfl (lv_at hl 0 rfl) ?_
  refine lv_iconst (v := 3) hx hb dX3_slotsHeld_5 (by decide) ?_
  refine lv_icmp_ge (tgt := 32) hx hb dX3_slotsHeld_6 (by decide) (fun _ => ?_) (fun h => absurd (by decide +kernel) h)
  refine lv_iload_n hx hb dX3_slotsHeld_32 rfl (lv_at hl 1 rfl) ?_
  exact q_iret C hr hlocks hK hP hD hS (Nat.le_of_ble_eq_true rfl) (Nat.le_of_ble_eq_true rfl) dX3_slotsHeld_33 (⟨rfl, rfl⟩)

set_option maxHeartbeats 4000000 in
set_option maxRecDepth 100000 in
theorem k_X10_buoysLying (l : Launch) (dC : Nat → ClassId) (dI : Nat → Nat → Nat) (cB cI cJ cZ cS : ClassId) (q_G : Nat) (q_sound : Nat) (u_G_0 : Value) (u_G_2 : Value) (u_G_3 : Value) (u_G_4 : Value) (u_G_5 : Value) (u_G_6 : Value) (u_G_7 : Value) (u_G_8 : Value) (u_sound_0 : Value) (u_sound_1 : Value) (u_sound_2 : Value) (u_sound_3 : Value) (u_sound_4 : Value) (u_sound_5 : Value) (u_sound_7 : Value) (u_sound_8 : Value) (u_sound_9 : Value) : CI l yX10_buoysLying wsX10_buoysLying ({ frames := 0, cells := 0, slots := 0, locals := 0 }) (dC, dI) (tysA cB cI cJ cZ cS) [(q_G, .inr (10, [u_G_0, .ref q_sound, u_G_2, u_G_3, u_G_4, u_G_5, u_G_6, u_G_7, u_G_8])), (q_sound, .inr (5, [u_sound_0, u_sound_1, u_sound_2, u_sound_3, u_sound_4, u_sound_5, .int 0, u_sound_7, u_sound_8, u_sound_9]))] [.ref q_G] (fun r w => w = [(q_G, .inr (10, [u_G_0, .ref q_sound, u_G_2, u_G_3, u_G_4, u_G_5, u_G_6, u_G_7, u_G_8])), (q_sound, .inr (5, [u_sound_0, u_sound_1, u_sound_2, u_sound_3, u_sound_4, u_sound_5, .int 0, u_sound_7, u_sound_8, u_sound_9]))] ∧ r = 0) := by
  refine open_I (cc := cX10_buoysLying) (maxL := 3) (ret := (some .int)) (by decide) rfl (Nat.le_of_ble_eq_true rfl) ?_
  intro p e s m below meth c A ls E
  obtain ⟨C, hr, hlocks, hnm, hA, hP, hK, hD, hN, hl⟩ := E
  obtain ⟨hx, hb, hml, hown, hts⟩ := id C
  have hS : va_S A s.heap s.heap [] := va_S.rf
  have hl : lv_has ls 3 [(0, .ref q_G)] := hl
  have inX10 : ∀ w ∈ u_ws RX10 TX10 9, w ∈ wsX10_buoysLying := fun _ h => List.mem_cons_of_mem _ (List.mem_append_left _ (List.mem_append_left _ (List.mem_append_right _ h)))
  have inX5 : ∀ w ∈ u_ws RX5 TX5 10, w ∈ wsX10_buoysLying := fun _ h => List.mem_cons_of_mem _ (List.mem_append_left _ (List.mem_append_right _ h))
  have L19 : Cond.fieldLink RX10 19 "GuessFerry" "sound" "LGuessFerry$Sound;" ∈ wsX10_buoysLying := by decide +kernel
  refine lv_iconst (v := 0) hx hb dX10_buoysLying_0 (by decide) ?_
  refine lv_istore_n (lv' := [(1, .int 0), (0, .ref q_G)]) hx hb dX10_buoysLying_1 rfl hl (by decide) rfl (fun ls hl => ?_)
  refine lv_iconst (v := 0) hx hb dX10_buoysLying_2 (by decide) ?_
  refine lv_istore_n (lv' := [(2, .int 0), (1, .int 0), (0, .ref q_G)]) hx hb dX10_buoysLying_3 rfl hl (by decide) rfl (fun ls hl => ?_)
  refine lv_iload_n hx hb dX10_buoysLying_4 rfl (lv_at hl 0 rfl) ?_
  refine lv_aload_n hx hb dX10_buoysLying_5 rfl (lv_at hl 2 rfl) ?_
  refine q_get (v := .ref q_sound) C inX10 hK hP 0 rfl rfl 1 (by decide) rfl L19 rfl dX10_buoysLying_6 ?_
  refine q_getN (v := .int 0) C hN inX5 hK hP 1 rfl rfl 6 (by decide) rfl nwF_X10_167 rfl dX10_buoysLying_9 ?_
  refine lv_icmp_ge (tgt := 36) hx hb dX10_buoysLying_12 (by decide) (fun _ => ?_) (fun h => absurd (by decide +kernel) h)
  refine lv_iload_n hx hb dX10_buoysLying_36 rfl (lv_at hl 1 rfl) ?_
  exact q_iret C hr hlocks hK hP hD hS (Nat.le_of_ble_eq_true rfl) (Nat.le_of_ble_eq_true rfl) dX10_buoysLying_37 (⟨rfl, rfl⟩)

set_option maxHeartbeats 4000000 in
set_option maxRecDepth 100000 in
theorem k_X10_wavesFound (l : Launch) (dC : Nat → ClassId) (dI : Nat → Nat → Nat) (cB cI cJ cZ cS : ClassId) (q_G : Nat) (q_sound : Nat) (u_G_0 : Value) (u_G_2 : Value) (u_G_3 : Value) (u_G_4 : Value) (u_G_5 : Value) (u_G_6 : Value) (u_G_7 : Value) (u_G_8 : Value) (u_sound_0 : Value) (u_sound_1 : Value) (u_sound_2 : Value) (u_sound_3 : Value) (u_sound_4 : Value) (u_sound_5 : Value) (u_sound_7 : Value) (u_sound_8 : Value) (u_sound_9 : Value) : CI l yX10_wavesFound wsX10_wavesFound ({ frames := 0, cells := 0, slots := 0, locals := 0 }) (dC, dI) (tysA cB cI cJ cZ cS) [(q_G, .inr (10, [u_G_0, .ref q_sound, u_G_2, u_G_3, u_G_4, u_G_5, u_G_6, u_G_7, u_G_8])), (q_sound, .inr (5, [u_sound_0, u_sound_1, u_sound_2, u_sound_3, u_sound_4, u_sound_5, .int 0, u_sound_7, u_sound_8, u_sound_9]))] [.ref q_G] (fun r w => w = [(q_G, .inr (10, [u_G_0, .ref q_sound, u_G_2, u_G_3, u_G_4, u_G_5, u_G_6, u_G_7, u_G_8])), (q_sound, .inr (5, [u_sound_0, u_sound_1, u_sound_2, u_sound_3, u_sound_4, u_sound_5, .int 0, u_sound_7, u_sound_8, u_sound_9]))] ∧ r = 0) := by
  refine open_I (cc := cX10_wavesFound) (maxL := 3) (ret := (some .int)) (by decide) rfl (Nat.le_of_ble_eq_true rfl) ?_
  intro p e s m below meth c A ls E
  obtain ⟨C, hr, hlocks, hnm, hA, hP, hK, hD, hN, hl⟩ := E
  obtain ⟨hx, hb, hml, hown, hts⟩ := id C
  have hS : va_S A s.heap s.heap [] := va_S.rf
  have hl : lv_has ls 3 [(0, .ref q_G)] := hl
  have inX10 : ∀ w ∈ u_ws RX10 TX10 9, w ∈ wsX10_wavesFound := fun _ h => List.mem_cons_of_mem _ (List.mem_append_left _ (List.mem_append_left _ (List.mem_append_right _ h)))
  have inX5 : ∀ w ∈ u_ws RX5 TX5 10, w ∈ wsX10_wavesFound := fun _ h => List.mem_cons_of_mem _ (List.mem_append_left _ (List.mem_append_right _ h))
  have L19 : Cond.fieldLink RX10 19 "GuessFerry" "sound" "LGuessFerry$Sound;" ∈ wsX10_wavesFound := by decide +kernel
  refine lv_iconst (v := 0) hx hb dX10_wavesFound_0 (by decide) ?_
  refine lv_istore_n (lv' := [(1, .int 0), (0, .ref q_G)]) hx hb dX10_wavesFound_1 rfl hl (by decide) rfl (fun ls hl => ?_)
  refine lv_iconst (v := 0) hx hb dX10_wavesFound_2 (by decide) ?_
  refine lv_istore_n (lv' := [(2, .int 0), (1, .int 0), (0, .ref q_G)]) hx hb dX10_wavesFound_3 rfl hl (by decide) rfl (fun ls hl => ?_)
  refine lv_iload_n hx hb dX10_wavesFound_4 rfl (lv_at hl 0 rfl) ?_
  refine lv_aload_n hx hb dX10_wavesFound_5 rfl (lv_at hl 2 rfl) ?_
  refine q_get (v := .ref q_sound) C inX10 hK hP 0 rfl rfl 1 (by decide) rfl L19 rfl dX10_wavesFound_6 ?_
  refine q_getN (v := .int 0) C hN inX5 hK hP 1 rfl rfl 6 (by decide) rfl nwF_X10_167 rfl dX10_wavesFound_9 ?_
  refine lv_icmp_ge (tgt := 40) hx hb dX10_wavesFound_12 (by decide) (fun _ => ?_) (fun h => absurd (by decide +kernel) h)
  refine lv_iload_n hx hb dX10_wavesFound_40 rfl (lv_at hl 1 rfl) ?_
  exact q_iret C hr hlocks hK hP hD hS (Nat.le_of_ble_eq_true rfl) (Nat.le_of_ble_eq_true rfl) dX10_wavesFound_41 (⟨rfl, rfl⟩)

set_option maxHeartbeats 4000000 in
set_option maxRecDepth 100000 in
theorem k_X10_wavesWithNothing (l : Launch) (dC : Nat → ClassId) (dI : Nat → Nat → Nat) (cB cI cJ cZ cS : ClassId) (q_G : Nat) (q_sound : Nat) (u_G_0 : Value) (u_G_2 : Value) (u_G_3 : Value) (u_G_4 : Value) (u_G_5 : Value) (u_G_6 : Value) (u_G_7 : Value) (u_G_8 : Value) (u_sound_0 : Value) (u_sound_1 : Value) (u_sound_2 : Value) (u_sound_3 : Value) (u_sound_4 : Value) (u_sound_5 : Value) (u_sound_7 : Value) (u_sound_8 : Value) (u_sound_9 : Value) : CI l yX10_wavesWithNothing wsX10_wavesWithNothing ({ frames := 0, cells := 0, slots := 0, locals := 0 }) (dC, dI) (tysA cB cI cJ cZ cS) [(q_G, .inr (10, [u_G_0, .ref q_sound, u_G_2, u_G_3, u_G_4, u_G_5, u_G_6, u_G_7, u_G_8])), (q_sound, .inr (5, [u_sound_0, u_sound_1, u_sound_2, u_sound_3, u_sound_4, u_sound_5, .int 0, u_sound_7, u_sound_8, u_sound_9]))] [.ref q_G] (fun r w => w = [(q_G, .inr (10, [u_G_0, .ref q_sound, u_G_2, u_G_3, u_G_4, u_G_5, u_G_6, u_G_7, u_G_8])), (q_sound, .inr (5, [u_sound_0, u_sound_1, u_sound_2, u_sound_3, u_sound_4, u_sound_5, .int 0, u_sound_7, u_sound_8, u_sound_9]))] ∧ r = 0) := by
  refine open_I (cc := cX10_wavesWithNothing) (maxL := 3) (ret := (some .int)) (by decide) rfl (Nat.le_of_ble_eq_true rfl) ?_
  intro p e s m below meth c A ls E
  obtain ⟨C, hr, hlocks, hnm, hA, hP, hK, hD, hN, hl⟩ := E
  obtain ⟨hx, hb, hml, hown, hts⟩ := id C
  have hS : va_S A s.heap s.heap [] := va_S.rf
  have hl : lv_has ls 3 [(0, .ref q_G)] := hl
  have inX10 : ∀ w ∈ u_ws RX10 TX10 9, w ∈ wsX10_wavesWithNothing := fun _ h => List.mem_cons_of_mem _ (List.mem_append_left _ (List.mem_append_left _ (List.mem_append_left _ (List.mem_append_right _ h))))
  have inX5 : ∀ w ∈ u_ws RX5 TX5 10, w ∈ wsX10_wavesWithNothing := fun _ h => List.mem_cons_of_mem _ (List.mem_append_left _ (List.mem_append_left _ (List.mem_append_right _ h)))
  have L19 : Cond.fieldLink RX10 19 "GuessFerry" "sound" "LGuessFerry$Sound;" ∈ wsX10_wavesWithNothing := by decide +kernel
  refine lv_iconst (v := 0) hx hb dX10_wavesWithNothing_0 (by decide) ?_
  refine lv_istore_n (lv' := [(1, .int 0), (0, .ref q_G)]) hx hb dX10_wavesWithNothing_1 rfl hl (by decide) rfl (fun ls hl => ?_)
  refine lv_iconst (v := 0) hx hb dX10_wavesWithNothing_2 (by decide) ?_
  refine lv_istore_n (lv' := [(2, .int 0), (1, .int 0), (0, .ref q_G)]) hx hb dX10_wavesWithNothing_3 rfl hl (by decide) rfl (fun ls hl => ?_)
  refine lv_iload_n hx hb dX10_wavesWithNothing_4 rfl (lv_at hl 0 rfl) ?_
  refine lv_aload_n hx hb dX10_wavesWithNothing_5 rfl (lv_at hl 2 rfl) ?_
  refine q_get (v := .ref q_sound) C inX10 hK hP 0 rfl rfl 1 (by decide) rfl L19 rfl dX10_wavesWithNothing_6 ?_
  refine q_getN (v := .int 0) C hN inX5 hK hP 1 rfl rfl 6 (by decide) rfl nwF_X10_167 rfl dX10_wavesWithNothing_9 ?_
  refine lv_icmp_ge (tgt := 42) hx hb dX10_wavesWithNothing_12 (by decide) (fun _ => ?_) (fun h => absurd (by decide +kernel) h)
  refine lv_iload_n hx hb dX10_wavesWithNothing_42 rfl (lv_at hl 1 rfl) ?_
  exact q_iret C hr hlocks hK hP hD hS (Nat.le_of_ble_eq_true rfl) (Nat.le_of_ble_eq_true rfl) dX10_wavesWithNothing_43 (⟨rfl, rfl⟩)
