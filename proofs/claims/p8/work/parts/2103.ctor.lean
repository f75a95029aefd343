theorem dX0_init_0 : decode cX0_init 0 = .ok (.aload_n 0, 1) := dc1_42 (by decide +kernel)
theorem dX0_init_1 : decode cX0_init 1 = .ok (.invokespecial 3, 3) := dcw_183 (by decide +kernel)
theorem dX0_init_4 : decode cX0_init 4 = .ok (.aload_n 0, 1) := dc1_42 (by decide +kernel)
theorem dX0_init_5 : decode cX0_init 5 = .ok (.aload_n 1, 1) := dc1_43 (by decide +kernel)
theorem dX0_init_6 : decode cX0_init 6 = .ok (.putfield 9, 3) := dcw_181 (by decide +kernel)
theorem dX0_init_9 : decode cX0_init 9 = .ok (.aload_n 0, 1) := dc1_42 (by decide +kernel)
theorem dX0_init_10 : decode cX0_init 10 = .ok (.aload_n 1, 1) := dc1_43 (by decide +kernel)
theorem dX0_init_11 : decode cX0_init 11 = .ok (.getfield 15, 3) := dcw_180 (by decide +kernel)
theorem dX0_init_14 : decode cX0_init 14 = .ok (.getfield 21, 3) := dcw_180 (by decide +kernel)
theorem dX0_init_17 : decode cX0_init 17 = .ok (.putfield 27, 3) := dcw_181 (by decide +kernel)
theorem dX0_init_20 : decode cX0_init 20 = .ok (.return_, 1) := dc1_177 (by decide +kernel)
theorem dX2_init_0 : decode cX2_init 0 = .ok (.aload_n 0, 1) := dc1_42 (by decide +kernel)
theorem dX2_init_1 : decode cX2_init 1 = .ok (.invokespecial 3, 3) := dcw_183 (by decide +kernel)
theorem dX2_init_4 : decode cX2_init 4 = .ok (.aload_n 0, 1) := dc1_42 (by decide +kernel)
theorem dX2_init_5 : decode cX2_init 5 = .ok (.sipush 216, 3) := dcs_17 (n := 216) (by decide +kernel)
theorem dX2_init_8 : decode cX2_init 8 = .ok (.newarray .int, 2) := by decide +kernel
theorem dX2_init_10 : decode cX2_init 10 = .ok (.putfield 9, 3) := dcw_181 (by decide +kernel)
theorem dX2_init_13 : decode cX2_init 13 = .ok (.aload_n 0, 1) := dc1_42 (by decide +kernel)
theorem dX2_init_14 : decode cX2_init 14 = .ok (.bipush 36, 2) := dcb_16 (n := 36) (by decide +kernel)
theorem dX2_init_16 : decode cX2_init 16 = .ok (.newarray .int, 2) := by decide +kernel
theorem dX2_init_18 : decode cX2_init 18 = .ok (.putfield 15, 3) := dcw_181 (by decide +kernel)
theorem dX2_init_21 : decode cX2_init 21 = .ok (.aload_n 0, 1) := dc1_42 (by decide +kernel)
theorem dX2_init_22 : decode cX2_init 22 = .ok (.bipush 20, 2) := dcb_16 (n := 20) (by decide +kernel)
theorem dX2_init_24 : decode cX2_init 24 = .ok (.newarray .int, 2) := by decide +kernel
theorem dX2_init_26 : decode cX2_init 26 = .ok (.putfield 18, 3) := dcw_181 (by decide +kernel)
theorem dX2_init_29 : decode cX2_init 29 = .ok (.aload_n 0, 1) := dc1_42 (by decide +kernel)
theorem dX2_init_30 : decode cX2_init 30 = .ok (.bipush 20, 2) := dcb_16 (n := 20) (by decide +kernel)
theorem dX2_init_32 : decode cX2_init 32 = .ok (.newarray .int, 2) := by decide +kernel
theorem dX2_init_34 : decode cX2_init 34 = .ok (.putfield 21, 3) := dcw_181 (by decide +kernel)
theorem dX2_init_37 : decode cX2_init 37 = .ok (.aload_n 0, 1) := dc1_42 (by decide +kernel)
theorem dX2_init_38 : decode cX2_init 38 = .ok (.aload_n 1, 1) := dc1_43 (by decide +kernel)
theorem dX2_init_39 : decode cX2_init 39 = .ok (.putfield 24, 3) := dcw_181 (by decide +kernel)
theorem dX2_init_42 : decode cX2_init 42 = .ok (.aload_n 0, 1) := dc1_42 (by decide +kernel)
theorem dX2_init_43 : decode cX2_init 43 = .ok (.aload_n 2, 1) := dc1_44 (by decide +kernel)
theorem dX2_init_44 : decode cX2_init 44 = .ok (.putfield 28, 3) := dcw_181 (by decide +kernel)
theorem dX2_init_47 : decode cX2_init 47 = .ok (.return_, 1) := dc1_177 (by decide +kernel)
theorem dX6_init_0 : decode cX6_init 0 = .ok (.aload_n 0, 1) := dc1_42 (by decide +kernel)
theorem dX6_init_1 : decode cX6_init 1 = .ok (.invokespecial 3, 3) := dcw_183 (by decide +kernel)
theorem dX6_init_4 : decode cX6_init 4 = .ok (.aload_n 0, 1) := dc1_42 (by decide +kernel)
theorem dX6_init_5 : decode cX6_init 5 = .ok (.iconst 5, 1) := dc1_8 (by decide +kernel)
theorem dX6_init_6 : decode cX6_init 6 = .ok (.newarray .int, 2) := by decide +kernel
theorem dX6_init_8 : decode cX6_init 8 = .ok (.putfield 9, 3) := dcw_181 (by decide +kernel)
theorem dX6_init_11 : decode cX6_init 11 = .ok (.aload_n 0, 1) := dc1_42 (by decide +kernel)
theorem dX6_init_12 : decode cX6_init 12 = .ok (.iconst 5, 1) := dc1_8 (by decide +kernel)
theorem dX6_init_13 : decode cX6_init 13 = .ok (.newarray .int, 2) := by decide +kernel
theorem dX6_init_15 : decode cX6_init 15 = .ok (.putfield 15, 3) := dcw_181 (by decide +kernel)
theorem dX6_init_18 : decode cX6_init 18 = .ok (.aload_n 0, 1) := dc1_42 (by decide +kernel)
theorem dX6_init_19 : decode cX6_init 19 = .ok (.iconst 5, 1) := dc1_8 (by decide +kernel)
theorem dX6_init_20 : decode cX6_init 20 = .ok (.newarray .int, 2) := by decide +kernel
theorem dX6_init_22 : decode cX6_init 22 = .ok (.putfield 18, 3) := dcw_181 (by decide +kernel)
theorem dX6_init_25 : decode cX6_init 25 = .ok (.aload_n 0, 1) := dc1_42 (by decide +kernel)
theorem dX6_init_26 : decode cX6_init 26 = .ok (.bipush 6, 2) := dcb_16 (n := 6) (by decide +kernel)
theorem dX6_init_28 : decode cX6_init 28 = .ok (.newarray .int, 2) := by decide +kernel
theorem dX6_init_30 : decode cX6_init 30 = .ok (.putfield 21, 3) := dcw_181 (by decide +kernel)
theorem dX6_init_33 : decode cX6_init 33 = .ok (.aload_n 0, 1) := dc1_42 (by decide +kernel)
theorem dX6_init_34 : decode cX6_init 34 = .ok (.bipush 6, 2) := dcb_16 (n := 6) (by decide +kernel)
theorem dX6_init_36 : decode cX6_init 36 = .ok (.newarray .int, 2) := by decide +kernel
theorem dX6_init_38 : decode cX6_init 38 = .ok (.putfield 24, 3) := dcw_181 (by decide +kernel)
theorem dX6_init_41 : decode cX6_init 41 = .ok (.return_, 1) := dc1_177 (by decide +kernel)
theorem dX8_init_0 : decode cX8_init 0 = .ok (.aload_n 0, 1) := dc1_42 (by decide +kernel)
theorem dX8_init_1 : decode cX8_init 1 = .ok (.invokespecial 3, 3) := dcw_183 (by decide +kernel)
theorem dX8_init_4 : decode cX8_init 4 = .ok (.aload_n 0, 1) := dc1_42 (by decide +kernel)
theorem dX8_init_5 : decode cX8_init 5 = .ok (.bipush 20, 2) := dcb_16 (n := 20) (by decide +kernel)
theorem dX8_init_7 : decode cX8_init 7 = .ok (.newarray .int, 2) := by decide +kernel
theorem dX8_init_9 : decode cX8_init 9 = .ok (.putfield 9, 3) := dcw_181 (by decide +kernel)
theorem dX8_init_12 : decode cX8_init 12 = .ok (.aload_n 0, 1) := dc1_42 (by decide +kernel)
theorem dX8_init_13 : decode cX8_init 13 = .ok (.bipush 20, 2) := dcb_16 (n := 20) (by decide +kernel)
theorem dX8_init_15 : decode cX8_init 15 = .ok (.newarray .int, 2) := by decide +kernel
theorem dX8_init_17 : decode cX8_init 17 = .ok (.putfield 15, 3) := dcw_181 (by decide +kernel)
theorem dX8_init_20 : decode cX8_init 20 = .ok (.aload_n 0, 1) := dc1_42 (by decide +kernel)
theorem dX8_init_21 : decode cX8_init 21 = .ok (.bipush 30, 2) := dcb_16 (n := 30) (by decide +kernel)
theorem dX8_init_23 : decode cX8_init 23 = .ok (.newarray .int, 2) := by decide +kernel
theorem dX8_init_25 : decode cX8_init 25 = .ok (.putfield 18, 3) := dcw_181 (by decide +kernel)
theorem dX8_init_28 : decode cX8_init 28 = .ok (.aload_n 0, 1) := dc1_42 (by decide +kernel)
theorem dX8_init_29 : decode cX8_init 29 = .ok (.bipush 30, 2) := dcb_16 (n := 30) (by decide +kernel)
theorem dX8_init_31 : decode cX8_init 31 = .ok (.newarray .int, 2) := by decide +kernel
theorem dX8_init_33 : decode cX8_init 33 = .ok (.putfield 21, 3) := dcw_181 (by decide +kernel)
theorem dX8_init_36 : decode cX8_init 36 = .ok (.aload_n 0, 1) := dc1_42 (by decide +kernel)
theorem dX8_init_37 : decode cX8_init 37 = .ok (.iconst 4, 1) := dc1_7 (by decide +kernel)
theorem dX8_init_38 : decode cX8_init 38 = .ok (.newarray .int, 2) := by decide +kernel
theorem dX8_init_40 : decode cX8_init 40 = .ok (.putfield 24, 3) := dcw_181 (by decide +kernel)
theorem dX8_init_43 : decode cX8_init 43 = .ok (.aload_n 0, 1) := dc1_42 (by decide +kernel)
theorem dX8_init_44 : decode cX8_init 44 = .ok (.aload_n 1, 1) := dc1_43 (by decide +kernel)
theorem dX8_init_45 : decode cX8_init 45 = .ok (.putfield 27, 3) := dcw_181 (by decide +kernel)
theorem dX8_init_48 : decode cX8_init 48 = .ok (.aload_n 0, 1) := dc1_42 (by decide +kernel)
theorem dX8_init_49 : decode cX8_init 49 = .ok (.aload_n 2, 1) := dc1_44 (by decide +kernel)
theorem dX8_init_50 : decode cX8_init 50 = .ok (.putfield 31, 3) := dcw_181 (by decide +kernel)
theorem dX8_init_53 : decode cX8_init 53 = .ok (.return_, 1) := dc1_177 (by decide +kernel)
set_option maxHeartbeats 4000000 in
set_option maxRecDepth 100000 in
theorem k_X6_init (l : Launch) (dC : Nat → ClassId) (dI : Nat → Nat → Nat) (cB cI cJ cZ cS : ClassId) (q_now : Nat) (u_now_5 : Value) (u_now_6 : Value) : CV l yX6_init wsX6_init ({ frames := 1, cells := 5, slots := 27, locals := 24 }) (dC, dI) (tysA cB cI cJ cZ cS) [(q_now, .inr (6, [.null, .null, .null, .null, .null, u_now_5, u_now_6]))] [.ref q_now] (fun w => ∃ q_now_found : Nat, ∃ q_now_buoys : Nat, ∃ q_now_shifted : Nat, ∃ q_now_status : Nat, ∃ q_now_goes : Nat, w = [(q_now, .inr (6, [.ref q_now_found, .ref q_now_buoys, .ref q_now_shifted, .ref q_now_status, .ref q_now_goes, u_now_5, u_now_6])), (q_now_found, .inl (cI, 5, .inl (fun _ => 0))), (q_now_buoys, .inl (cI, 5, .inl (fun _ => 0))), (q_now_shifted, .inl (cI, 5, .inl (fun _ => 0))), (q_now_status, .inl (cI, 6, .inl (fun _ => 0))), (q_now_goes, .inl (cI, 6, .inl (fun _ => 0)))]) := by
  refine open_V (cc := cX6_init) (maxL := 1) (ret := none) (by decide) rfl (Nat.le_of_ble_eq_true rfl) ?_
  intro p e s m below meth c A ls E
  obtain ⟨C, hr, hlocks, hnm, hA, hP, hK, hD, hN, hl⟩ := E
  obtain ⟨hx, hb, hml, hown, hts⟩ := id C
  have hS : va_S A s.heap s.heap [] := va_S.rf
  have hl : lv_has ls 1 [(0, .ref q_now)] := hl
  have inX6 : ∀ w ∈ u_ws RX6 TX6 7, w ∈ wsX6_init := by decide +kernel
  have ACI : Cond.arrayClass .int ∈ wsX6_init := by decide +kernel
  have L15 : Cond.fieldLink RX6 15 "GuessFerry$Standing" "buoys" "[I" ∈ wsX6_init := by decide +kernel
  have L18 : Cond.fieldLink RX6 18 "GuessFerry$Standing" "shifted" "[I" ∈ wsX6_init := by decide +kernel
  have L21 : Cond.fieldLink RX6 21 "GuessFerry$Standing" "status" "[I" ∈ wsX6_init := by decide +kernel
  have L24 : Cond.fieldLink RX6 24 "GuessFerry$Standing" "goes" "[I" ∈ wsX6_init := by decide +kernel
  have L9 : Cond.fieldLink RX6 9 "GuessFerry$Standing" "found" "[I" ∈ wsX6_init := by decide +kernel
  have OC : Cond.code Lib.objectInit ⟨#[0xb1]⟩ 1 none ∈ wsX6_init := by decide +kernel
  have OI : Cond.instanceMethod Lib.objectInit ∈ wsX6_init := by decide +kernel
  have OL3 : Cond.methodLink RX6 3 Lib.objectInit ∈ wsX6_init := by decide +kernel
  refine lv_aload_n hx hb dX6_init_0 rfl (lv_at hl 0 rfl) ?_
  refine W.objInit hx hb hown (hts _ OL3) (hts _ OI) (hts _ OC) rfl (by rw [hml]; exact hl.1) rfl dX6_init_1 (Nat.le_of_ble_eq_true rfl) (Nat.le_of_ble_eq_true rfl) ?_
  refine W.eq (g2 := F0 m 4 ls []) rfl ?_
  refine lv_aload_n hx hb dX6_init_4 rfl (lv_at hl 0 rfl) ?_
  refine lv_iconst (v := 5) hx hb dX6_init_5 (by decide) ?_
  refine q_newa (atype := .int) (ty := .int) (N' := 5) (5, .inl (fun _ => 0)) C ACI rfl (fun _ => rfl) hK hP hD hS hA 1 rfl (fun _ => rfl) (by decide) (by decide +kernel) (by decide +kernel) (Nat.le_of_ble_eq_true rfl) (Nat.le_of_ble_eq_true rfl) dX6_init_6 (fun q_now_found H hP hD hS => ?_)
  refine q_putF (ty := .array .int) (w2 := [(q_now, .inr (6, [.ref q_now_found, .null, .null, .null, .null, u_now_5, u_now_6])), (q_now_found, .inl (cI, 5, .inl (fun _ => 0)))]) tyX6 tyX6_ok nmX6 C inX6 hK hP hD hS 0 rfl rfl 0 (by decide) rfl rfl hnm L9 rfl (by decide +kernel) (rfl) rfl (Nat.le_of_ble_eq_true rfl) dX6_init_8 rfl (fun H locs hP hD hS => ?_)
  refine lv_aload_n hx hb dX6_init_11 rfl (lv_at hl 0 rfl) ?_
  refine lv_iconst (v := 5) hx hb dX6_init_12 (by decide) ?_
  refine q_newa (atype := .int) (ty := .int) (N' := 5) (5, .inl (fun _ => 0)) C ACI rfl (fun _ => rfl) hK hP hD hS hA 1 rfl (fun _ => rfl) (by decide) (by decide +kernel) (by decide +kernel) (Nat.le_of_ble_eq_true rfl) (Nat.le_of_ble_eq_true rfl) dX6_init_13 (fun q_now_buoys H hP hD hS => ?_)
  refine q_putF (ty := .array .int) (w2 := [(q_now, .inr (6, [.ref q_now_found, .ref q_now_buoys, .null, .null, .null, u_now_5, u_now_6])), (q_now_found, .inl (cI, 5, .inl (fun _ => 0))), (q_now_buoys, .inl (cI, 5, .inl (fun _ => 0)))]) tyX6 tyX6_ok nmX6 C inX6 hK hP hD hS 0 rfl rfl 1 (by decide) rfl rfl hnm L15 rfl (by decide +kernel) (rfl) rfl (Nat.le_of_ble_eq_true rfl) dX6_init_15 rfl (fun H locs hP hD hS => ?_)
  refine lv_aload_n hx hb dX6_init_18 rfl (lv_at hl 0 rfl) ?_
  refine lv_iconst (v := 5) hx hb dX6_init_19 (by decide) ?_
  refine q_newa (atype := .int) (ty := .int) (N' := 5) (5, .inl (fun _ => 0)) C ACI rfl (fun _ => rfl) hK hP hD hS hA 1 rfl (fun _ => rfl) (by decide) (by decide +kernel) (by decide +kernel) (Nat.le_of_ble_eq_true rfl) (Nat.le_of_ble_eq_true rfl) dX6_init_20 (fun q_now_shifted H hP hD hS => ?_)
  refine q_putF (ty := .array .int) (w2 := [(q_now, .inr (6, [.ref q_now_found, .ref q_now_buoys, .ref q_now_shifted, .null, .null, u_now_5, u_now_6])), (q_now_found, .inl (cI, 5, .inl (fun _ => 0))), (q_now_buoys, .inl (cI, 5, .inl (fun _ => 0))), (q_now_shifted, .inl (cI, 5, .inl (fun _ => 0)))]) tyX6 tyX6_ok nmX6 C inX6 hK hP hD hS 0 rfl rfl 2 (by decide) rfl rfl hnm L18 rfl (by decide +kernel) (rfl) rfl (Nat.le_of_ble_eq_true rfl) dX6_init_22 rfl (fun H locs hP hD hS => ?_)
  refine lv_aload_n hx hb dX6_init_25 rfl (lv_at hl 0 rfl) ?_
  refine lv_bipush (v := 6) hx hb dX6_init_26 (by decide) ?_
  refine q_newa (atype := .int) (ty := .int) (N' := 6) (6, .inl (fun _ => 0)) C ACI rfl (fun _ => rfl) hK hP hD hS hA 1 rfl (fun _ => rfl) (by decide) (by decide +kernel) (by decide +kernel) (Nat.le_of_ble_eq_true rfl) (Nat.le_of_ble_eq_true rfl) dX6_init_28 (fun q_now_status H hP hD hS => ?_)
  refine q_putF (ty := .array .int) (w2 := [(q_now, .inr (6, [.ref q_now_found, .ref q_now_buoys, .ref q_now_shifted, .ref q_now_status, .null, u_now_5, u_now_6])), (q_now_found, .inl (cI, 5, .inl (fun _ => 0))), (q_now_buoys, .inl (cI, 5, .inl (fun _ => 0))), (q_now_shifted, .inl (cI, 5, .inl (fun _ => 0))), (q_now_status, .inl (cI, 6, .inl (fun _ => 0)))]) tyX6 tyX6_ok nmX6 C inX6 hK hP hD hS 0 rfl rfl 3 (by decide) rfl rfl hnm L21 rfl (by decide +kernel) (rfl) rfl (Nat.le_of_ble_eq_true rfl) dX6_init_30 rfl (fun H locs hP hD hS => ?_)
  refine lv_aload_n hx hb dX6_init_33 rfl (lv_at hl 0 rfl) ?_
  refine lv_bipush (v := 6) hx hb dX6_init_34 (by decide) ?_
  refine q_newa (atype := .int) (ty := .int) (N' := 6) (6, .inl (fun _ => 0)) C ACI rfl (fun _ => rfl) hK hP hD hS hA 1 rfl (fun _ => rfl) (by decide) (by decide +kernel) (by decide +kernel) (Nat.le_of_ble_eq_true rfl) (Nat.le_of_ble_eq_true rfl) dX6_init_36 (fun q_now_goes H hP hD hS => ?_)
  refine q_putF (ty := .array .int) (w2 := [(q_now, .inr (6, [.ref q_now_found, .ref q_now_buoys, .ref q_now_shifted, .ref q_now_status, .ref q_now_goes, u_now_5, u_now_6])), (q_now_found, .inl (cI, 5, .inl (fun _ => 0))), (q_now_buoys, .inl (cI, 5, .inl (fun _ => 0))), (q_now_shifted, .inl (cI, 5, .inl (fun _ => 0))), (q_now_status, .inl (cI, 6, .inl (fun _ => 0))), (q_now_goes, .inl (cI, 6, .inl (fun _ => 0)))]) tyX6 tyX6_ok nmX6 C inX6 hK hP hD hS 0 rfl rfl 4 (by decide) rfl rfl hnm L24 rfl (by decide +kernel) (rfl) rfl (Nat.le_of_ble_eq_true rfl) dX6_init_38 rfl (fun H locs hP hD hS => ?_)
  exact q_vret C hr hlocks hK hP hD hS (Nat.le_of_ble_eq_true rfl) (Nat.le_of_ble_eq_true rfl) dX6_init_41 (⟨q_now_found, q_now_buoys, q_now_shifted, q_now_status, q_now_goes, rfl⟩)

set_option maxHeartbeats 4000000 in
set_option maxRecDepth 100000 in
theorem k_X0_init (l : Launch) (dC : Nat → ClassId) (dI : Nat → Nat → Nat) (cB cI cJ cZ cS : ClassId) (q_sound : Nat) (q_sound_laws : Nat) (q_sound_vars : Nat) (q_crossing : Nat) (u_sound_0 : Value) (u_sound_1 : Value) (u_sound_2 : Value) (u_sound_3 : Value) (u_sound_4 : Value) (u_sound_6 : Value) (u_sound_7 : Value) (u_sound_8 : Value) (u_sound_9 : Value) (u_sound_laws_0 : Value) (u_sound_laws_1 : Value) (u_sound_laws_2 : Value) (u_sound_laws_3 : Value) (u_sound_laws_5 : Value) (u_sound_laws_6 : Value) (u_sound_laws_7 : Value) (u_sound_laws_8 : Value) : CV l yX0_init wsX0_init ({ frames := 1, cells := 0, slots := 0, locals := 24 }) (dC, dI) (tysA cB cI cJ cZ cS) [(q_crossing, .inr (0, [.null, .null])), (q_sound, .inr (5, [u_sound_0, u_sound_1, u_sound_2, u_sound_3, u_sound_4, .ref q_sound_laws, u_sound_6, u_sound_7, u_sound_8, u_sound_9])), (q_sound_laws, .inr (1, [u_sound_laws_0, u_sound_laws_1, u_sound_laws_2, u_sound_laws_3, .ref q_sound_vars, u_sound_laws_5, u_sound_laws_6, u_sound_laws_7, u_sound_laws_8]))] [.ref q_crossing, .ref q_sound] (fun w => w = [(q_crossing, .inr (0, [.ref q_sound, .ref q_sound_vars])), (q_sound, .inr (5, [u_sound_0, u_sound_1, u_sound_2, u_sound_3, u_sound_4, .ref q_sound_laws, u_sound_6, u_sound_7, u_sound_8, u_sound_9])), (q_sound_laws, .inr (1, [u_sound_laws_0, u_sound_laws_1, u_sound_laws_2, u_sound_laws_3, .ref q_sound_vars, u_sound_laws_5, u_sound_laws_6, u_sound_laws_7, u_sound_laws_8]))]) := by
  refine open_V (cc := cX0_init) (maxL := 2) (ret := none) (by decide) rfl (Nat.le_of_ble_eq_true rfl) ?_
  intro p e s m below meth c A ls E
  obtain ⟨C, hr, hlocks, hnm, hA, hP, hK, hD, hN, hl⟩ := E
  obtain ⟨hx, hb, hml, hown, hts⟩ := id C
  have hS : va_S A s.heap s.heap [] := va_S.rf
  have hl : lv_has ls 2 [(0, .ref q_crossing), (1, .ref q_sound)] := hl
  have inX0 : ∀ w ∈ u_ws RX0 TX0 2, w ∈ wsX0_init := by decide +kernel
  have inX1 : ∀ w ∈ u_ws RX1 TX1 9, w ∈ wsX0_init := by decide +kernel
  have inX5 : ∀ w ∈ u_ws RX5 TX5 10, w ∈ wsX0_init := by decide +kernel
  have L27 : Cond.fieldLink RX0 27 "GuessFerry$Crossing" "vars" "[I" ∈ wsX0_init := by decide +kernel
  have L9 : Cond.fieldLink RX0 9 "GuessFerry$Crossing" "sound" "LGuessFerry$Sound;" ∈ wsX0_init := by decide +kernel
  have OC : Cond.code Lib.objectInit ⟨#[0xb1]⟩ 1 none ∈ wsX0_init := by decide +kernel
  have OI : Cond.instanceMethod Lib.objectInit ∈ wsX0_init := by decide +kernel
  have OL3 : Cond.methodLink RX0 3 Lib.objectInit ∈ wsX0_init := by decide +kernel
  refine lv_aload_n hx hb dX0_init_0 rfl (lv_at hl 0 rfl) ?_
  refine W.objInit hx hb hown (hts _ OL3) (hts _ OI) (hts _ OC) rfl (by rw [hml]; exact hl.1) rfl dX0_init_1 (Nat.le_of_ble_eq_true rfl) (Nat.le_of_ble_eq_true rfl) ?_
  refine W.eq (g2 := F0 m 4 ls []) rfl ?_
  refine lv_aload_n hx hb dX0_init_4 rfl (lv_at hl 0 rfl) ?_
  refine lv_aload_n hx hb dX0_init_5 rfl (lv_at hl 1 rfl) ?_
  refine q_putF (ty := .object "GuessFerry$Sound") (w2 := [(q_crossing, .inr (0, [.ref q_sound, .null])), (q_sound, .inr (5, [u_sound_0, u_sound_1, u_sound_2, u_sound_3, u_sound_4, .ref q_sound_laws, u_sound_6, u_sound_7, u_sound_8, u_sound_9])), (q_sound_laws, .inr (1, [u_sound_laws_0, u_sound_laws_1, u_sound_laws_2, u_sound_laws_3, .ref q_sound_vars, u_sound_laws_5, u_sound_laws_6, u_sound_laws_7, u_sound_laws_8]))]) tyX0 tyX0_ok nmX0 C inX0 hK hP hD hS 0 rfl rfl 0 (by decide) rfl rfl hnm L9 rfl (by decide +kernel) (rfl) rfl (Nat.le_of_ble_eq_true rfl) dX0_init_6 rfl (fun H locs hP hD hS => ?_)
  refine lv_aload_n hx hb dX0_init_9 rfl (lv_at hl 0 rfl) ?_
  refine lv_aload_n hx hb dX0_init_10 rfl (lv_at hl 1 rfl) ?_
  refine q_getN (v := .ref q_sound_laws) C hN inX5 hK hP 1 rfl rfl 5 (by decide) rfl nwF_X0_15 rfl dX0_init_11 ?_
  refine q_getN (v := .ref q_sound_vars) C hN inX1 hK hP 2 rfl rfl 4 (by decide) rfl nwF_X0_21 rfl dX0_init_14 ?_
  refine q_putF (ty := .array .int) (w2 := [(q_crossing, .inr (0, [.ref q_sound, .ref q_sound_vars])), (q_sound, .inr (5, [u_sound_0, u_sound_1, u_sound_2, u_sound_3, u_sound_4, .ref q_sound_laws, u_sound_6, u_sound_7, u_sound_8, u_sound_9])), (q_sound_laws, .inr (1, [u_sound_laws_0, u_sound_laws_1, u_sound_laws_2, u_sound_laws_3, .ref q_sound_vars, u_sound_laws_5, u_sound_laws_6, u_sound_laws_7, u_sound_laws_8]))]) tyX0 tyX0_ok nmX0 C inX0 hK hP hD hS 0 rfl rfl 1 (by decide) rfl rfl hnm L27 rfl (by decide +kernel) (rfl) rfl (Nat.le_of_ble_eq_true rfl) dX0_init_17 rfl (fun H locs hP hD hS => ?_)
  exact q_vret C hr hlocks hK hP hD hS (Nat.le_of_ble_eq_true rfl) (Nat.le_of_ble_eq_true rfl) dX0_init_20 (rfl)

set_option maxHeartbeats 4000000 in
set_option maxRecDepth 100000 in
theorem k_X2_init (l : Launch) (dC : Nat → ClassId) (dI : Nat → Nat → Nat) (cB cI cJ cZ cS : ClassId) (q_sound : Nat) (q_crossing : Nat) (q_outlook : Nat) : CV l yX2_init wsX2_init ({ frames := 1, cells := 4, slots := 292, locals := 24 }) (dC, dI) (tysA cB cI cJ cZ cS) [(q_outlook, .inr (2, [.null, .null, .null, .null, .null, .null]))] [.ref q_outlook, .ref q_sound, .ref q_crossing] (fun w => ∃ q_near : Nat, ∃ q_far : Nat, ∃ q_topGuesses : Nat, ∃ q_topOdds : Nat, w = [(q_outlook, .inr (2, [.ref q_sound, .ref q_crossing, .ref q_near, .ref q_far, .ref q_topGuesses, .ref q_topOdds])), (q_near, .inl (cI, 216, .inl (fun _ => 0))), (q_far, .inl (cI, 36, .inl (fun _ => 0))), (q_topGuesses, .inl (cI, 20, .inl (fun _ => 0))), (q_topOdds, .inl (cI, 20, .inl (fun _ => 0)))]) := by
  refine open_V (cc := cX2_init) (maxL := 3) (ret := none) (by decide) rfl (Nat.le_of_ble_eq_true rfl) ?_
  intro p e s m below meth c A ls E
  obtain ⟨C, hr, hlocks, hnm, hA, hP, hK, hD, hN, hl⟩ := E
  obtain ⟨hx, hb, hml, hown, hts⟩ := id C
  have hS : va_S A s.heap s.heap [] := va_S.rf
  have hl : lv_has ls 3 [(0, .ref q_outlook), (1, .ref q_sound), (2, .ref q_crossing)] := hl
  have inX2 : ∀ w ∈ u_ws RX2 TX2 6, w ∈ wsX2_init := by decide +kernel
  have ACI : Cond.arrayClass .int ∈ wsX2_init := by decide +kernel
  have L15 : Cond.fieldLink RX2 15 "GuessFerry$Outlook" "far" "[I" ∈ wsX2_init := by decide +kernel
  have L18 : Cond.fieldLink RX2 18 "GuessFerry$Outlook" "topGuesses" "[I" ∈ wsX2_init := by decide +kernel
  have L21 : Cond.fieldLink RX2 21 "GuessFerry$Outlook" "topOdds" "[I" ∈ wsX2_init := by decide +kernel
  have L24 : Cond.fieldLink RX2 24 "GuessFerry$Outlook" "sound" "LGuessFerry$Sound;" ∈ wsX2_init := by decide +kernel
  have L28 : Cond.fieldLink RX2 28 "GuessFerry$Outlook" "crossing" "LGuessFerry$Crossing;" ∈ wsX2_init := by decide +kernel
  have L9 : Cond.fieldLink RX2 9 "GuessFerry$Outlook" "near" "[I" ∈ wsX2_init := by decide +kernel
  have OC : Cond.code Lib.objectInit ⟨#[0xb1]⟩ 1 none ∈ wsX2_init := by decide +kernel
  have OI : Cond.instanceMethod Lib.objectInit ∈ wsX2_init := by decide +kernel
  have OL3 : Cond.methodLink RX2 3 Lib.objectInit ∈ wsX2_init := by decide +kernel
  refine lv_aload_n hx hb dX2_init_0 rfl (lv_at hl 0 rfl) ?_
  refine W.objInit hx hb hown (hts _ OL3) (hts _ OI) (hts _ OC) rfl (by rw [hml]; exact hl.1) rfl dX2_init_1 (Nat.le_of_ble_eq_true rfl) (Nat.le_of_ble_eq_true rfl) ?_
  refine W.eq (g2 := F0 m 4 ls []) rfl ?_
  refine lv_aload_n hx hb dX2_init_4 rfl (lv_at hl 0 rfl) ?_
  refine lv_sipush (v := 216) hx hb dX2_init_5 (by decide) ?_
  refine q_newa (atype := .int) (ty := .int) (N' := 216) (216, .inl (fun _ => 0)) C ACI rfl (fun _ => rfl) hK hP hD hS hA 1 rfl (fun _ => rfl) (by decide) (by decide +kernel) (by decide +kernel) (Nat.le_of_ble_eq_true rfl) (Nat.le_of_ble_eq_true rfl) dX2_init_8 (fun q_near H hP hD hS => ?_)
  refine q_putF (ty := .array .int) (w2 := [(q_outlook, .inr (2, [.null, .null, .ref q_near, .null, .null, .null])), (q_near, .inl (cI, 216, .inl (fun _ => 0)))]) tyX2 tyX2_ok nmX2 C inX2 hK hP hD hS 0 rfl rfl 2 (by decide) rfl rfl hnm L9 rfl (by decide +kernel) (rfl) rfl (Nat.le_of_ble_eq_true rfl) dX2_init_10 rfl (fun H locs hP hD hS => ?_)
  refine lv_aload_n hx hb dX2_init_13 rfl (lv_at hl 0 rfl) ?_
  refine lv_bipush (v := 36) hx hb dX2_init_14 (by decide) ?_
  refine q_newa (atype := .int) (ty := .int) (N' := 36) (36, .inl (fun _ => 0)) C ACI rfl (fun _ => rfl) hK hP hD hS hA 1 rfl (fun _ => rfl) (by decide) (by decide +kernel) (by decide +kernel) (Nat.le_of_ble_eq_true rfl) (Nat.le_of_ble_eq_true rfl) dX2_init_16 (fun q_far H hP hD hS => ?_)
  refine q_putF (ty := .array .int) (w2 := [(q_outlook, .inr (2, [.null, .null, .ref q_near, .ref q_far, .null, .null])), (q_near, .inl (cI, 216, .inl (fun _ => 0))), (q_far, .inl (cI, 36, .inl (fun _ => 0)))]) tyX2 tyX2_ok nmX2 C inX2 hK hP hD hS 0 rfl rfl 3 (by decide) rfl rfl hnm L15 rfl (by decide +kernel) (rfl) rfl (Nat.le_of_ble_eq_true rfl) dX2_init_18 rfl (fun H locs hP hD hS => ?_)
  refine lv_aload_n hx hb dX2_init_21 rfl (lv_at hl 0 rfl) ?_
  refine lv_bipush (v := 20) hx hb dX2_init_22 (by decide) ?_
  refine q_newa (atype := .int) (ty := .int) (N' := 20) (20, .inl (fun _ => 0)) C ACI rfl (fun _ => rfl) hK hP hD hS hA 1 rfl (fun _ => rfl) (by decide) (by decide +kernel) (by decide +kernel) (Nat.le_of_ble_eq_true rfl) (Nat.le_of_ble_eq_true rfl) dX2_init_24 (fun q_topGuesses H hP hD hS => ?_)
  refine q_putF (ty := .array .int) (w2 := [(q_outlook, .inr (2, [.null, .null, .ref q_near, .ref q_far, .ref q_topGuesses, .null])), (q_near, .inl (cI, 216, .inl (fun _ => 0))), (q_far, .inl (cI, 36, .inl (fun _ => 0))), (q_topGuesses, .inl (cI, 20, .inl (fun _ => 0)))]) tyX2 tyX2_ok nmX2 C inX2 hK hP hD hS 0 rfl rfl 4 (by decide) rfl rfl hnm L18 rfl (by decide +kernel) (rfl) rfl (Nat.le_of_ble_eq_true rfl) dX2_init_26 rfl (fun H locs hP hD hS => ?_)
  refine lv_aload_n hx hb dX2_init_29 rfl (lv_at hl 0 rfl) ?_
  refine lv_bipush (v := 20) hx hb dX2_init_30 (by decide) ?_
  refine q_newa (atype := .int) (ty := .int) (N' := 20) (20, .inl (fun _ => 0)) C ACI rfl (fun _ => rfl) hK hP hD hS hA 1 rfl (fun _ => rfl) (by decide) (by decide +kernel) (by decide +kernel) (Nat.le_of_ble_eq_true rfl) (Nat.le_of_ble_eq_true rfl) dX2_init_32 (fun q_topOdds H hP hD hS => ?_)
  refine q_putF (ty := .array .int) (w2 := [(q_outlook, .inr (2, [.null, .null, .ref q_near, .ref q_far, .ref q_topGuesses, .ref q_topOdds])), (q_near, .inl (cI, 216, .inl (fun _ => 0))), (q_far, .inl (cI, 36, .inl (fun _ => 0))), (q_topGuesses, .inl (cI, 20, .inl (fun _ => 0))), (q_topOdds, .inl (cI, 20, .inl (fun _ => 0)))]) tyX2 tyX2_ok nmX2 C inX2 hK hP hD hS 0 rfl rfl 5 (by decide) rfl rfl hnm L21 rfl (by decide +kernel) (rfl) rfl (Nat.le_of_ble_eq_true rfl) dX2_init_34 rfl (fun H locs hP hD hS => ?_)
  refine lv_aload_n hx hb dX2_init_37 rfl (lv_at hl 0 rfl) ?_
  refine lv_aload_n hx hb dX2_init_38 rfl (lv_at hl 1 rfl) ?_
  refine q_putF (ty := .object "GuessFerry$Sound") (w2 := [(q_outlook, .inr (2, [.ref q_sound, .null, .ref q_near, .ref q_far, .ref q_topGuesses, .ref q_topOdds])), (q_near, .inl (cI, 216, .inl (fun _ => 0))), (q_far, .inl (cI, 36, .inl (fun _ => 0))), (q_topGuesses, .inl (cI, 20, .inl (fun _ => 0))), (q_topOdds, .inl (cI, 20, .inl (fun _ => 0)))]) tyX2 tyX2_ok nmX2 C inX2 hK hP hD hS 0 rfl rfl 0 (by decide) rfl rfl hnm L24 rfl (by decide +kernel) (rfl) rfl (Nat.le_of_ble_eq_true rfl) dX2_init_39 rfl (fun H locs hP hD hS => ?_)
  refine lv_aload_n hx hb dX2_init_42 rfl (lv_at hl 0 rfl) ?_
  refine lv_aload_n hx hb dX2_init_43 rfl (lv_at hl 2 rfl) ?_
  refine q_putF (ty := .object "GuessFerry$Crossing") (w2 := [(q_outlook, .inr (2, [.ref q_sound, .ref q_crossing, .ref q_near, .ref q_far, .ref q_topGuesses, .ref q_topOdds])), (q_near, .inl (cI, 216, .inl (fun _ => 0))), (q_far, .inl (cI, 36, .inl (fun _ => 0))), (q_topGuesses, .inl (cI, 20, .inl (fun _ => 0))), (q_topOdds, .inl (cI, 20, .inl (fun _ => 0)))]) tyX2 tyX2_ok nmX2 C inX2 hK hP hD hS 0 rfl rfl 1 (by decide) rfl rfl hnm L28 rfl (by decide +kernel) (rfl) rfl (Nat.le_of_ble_eq_true rfl) dX2_init_44 rfl (fun H locs hP hD hS => ?_)
  exact q_vret C hr hlocks hK hP hD hS (Nat.le_of_ble_eq_true rfl) (Nat.le_of_ble_eq_true rfl) dX2_init_47 (⟨q_near, q_far, q_topGuesses, q_topOdds, rfl⟩)

set_option maxHeartbeats 4000000 in
set_option maxRecDepth 100000 in
theorem k_X8_init (l : Launch) (dC : Nat → ClassId) (dI : Nat → Nat → Nat) (cB cI cJ cZ cS : ClassId) (q_sound : Nat) (q_crossing : Nat) (q_tellers : Nat) (u_tellers_7 : Value) : CV l yX8_init wsX8_init ({ frames := 1, cells := 5, slots := 104, locals := 24 }) (dC, dI) (tysA cB cI cJ cZ cS) [(q_tellers, .inr (8, [.null, .null, .null, .null, .null, .null, .null, u_tellers_7]))] [.ref q_tellers, .ref q_sound, .ref q_crossing] (fun w => ∃ q_toldWaves : Nat, ∃ q_toldThings : Nat, ∃ q_t_odds : Nat, ∃ q_belied : Nat, ∃ q_byLies : Nat, w = [(q_tellers, .inr (8, [.ref q_sound, .ref q_crossing, .ref q_toldWaves, .ref q_toldThings, .ref q_t_odds, .ref q_belied, .ref q_byLies, u_tellers_7])), (q_toldWaves, .inl (cI, 20, .inl (fun _ => 0))), (q_toldThings, .inl (cI, 20, .inl (fun _ => 0))), (q_t_odds, .inl (cI, 30, .inl (fun _ => 0))), (q_belied, .inl (cI, 30, .inl (fun _ => 0))), (q_byLies, .inl (cI, 4, .inl (fun _ => 0)))]) := by
  refine open_V (cc := cX8_init) (maxL := 3) (ret := none) (by decide) rfl (Nat.le_of_ble_eq_true rfl) ?_
  intro p e s m below meth c A ls E
  obtain ⟨C, hr, hlocks, hnm, hA, hP, hK, hD, hN, hl⟩ := E
  obtain ⟨hx, hb, hml, hown, hts⟩ := id C
  have hS : va_S A s.heap s.heap [] := va_S.rf
  have hl : lv_has ls 3 [(0, .ref q_tellers), (1, .ref q_sound), (2, .ref q_crossing)] := hl
  have inX8 : ∀ w ∈ u_ws RX8 TX8 8, w ∈ wsX8_init := by decide +kernel
  have ACI : Cond.arrayClass .int ∈ wsX8_init := by decide +kernel
  have L15 : Cond.fieldLink RX8 15 "GuessFerry$Tellers" "toldThings" "[I" ∈ wsX8_init := by decide +kernel
  have L18 : Cond.fieldLink RX8 18 "GuessFerry$Tellers" "odds" "[I" ∈ wsX8_init := by decide +kernel
  have L21 : Cond.fieldLink RX8 21 "GuessFerry$Tellers" "belied" "[I" ∈ wsX8_init := by decide +kernel
  have L24 : Cond.fieldLink RX8 24 "GuessFerry$Tellers" "byLies" "[I" ∈ wsX8_init := by decide +kernel
  have L27 : Cond.fieldLink RX8 27 "GuessFerry$Tellers" "sound" "LGuessFerry$Sound;" ∈ wsX8_init := by decide +kernel
  have L31 : Cond.fieldLink RX8 31 "GuessFerry$Tellers" "crossing" "LGuessFerry$Crossing;" ∈ wsX8_init := by decide +kernel
  have L9 : Cond.fieldLink RX8 9 "GuessFerry$Tellers" "toldWaves" "[I" ∈ wsX8_init := by decide +kernel
  have OC : Cond.code Lib.objectInit ⟨#[0xb1]⟩ 1 none ∈ wsX8_init := by decide +kernel
  have OI : Cond.instanceMethod Lib.objectInit ∈ wsX8_init := by decide +kernel
  have OL3 : Cond.methodLink RX8 3 Lib.objectInit ∈ wsX8_init := by decide +kernel
  refine lv_aload_n hx hb dX8_init_0 rfl (lv_at hl 0 rfl) ?_
  refine W.objInit hx hb hown (hts _ OL3) (hts _ OI) (hts _ OC) rfl (by rw [hml]; exact hl.1) rfl dX8_init_1 (Nat.le_of_ble_eq_true rfl) (Nat.le_of_ble_eq_true rfl) ?_
  refine W.eq (g2 := F0 m 4 ls []) rfl ?_
  refine lv_aload_n hx hb dX8_init_4 rfl (lv_at hl 0 rfl) ?_
  refine lv_bipush (v := 20) hx hb dX8_init_5 (by decide) ?_
  refine q_newa (atype := .int) (ty := .int) (N' := 20) (20, .inl (fun _ => 0)) C ACI rfl (fun _ => rfl) hK hP hD hS hA 1 rfl (fun _ => rfl) (by decide) (by decide +kernel) (by decide +kernel) (Nat.le_of_ble_eq_true rfl) (Nat.le_of_ble_eq_true rfl) dX8_init_7 (fun q_toldWaves H hP hD hS => ?_)
  refine q_putF (ty := .array .int) (w2 := [(q_tellers, .inr (8, [.null, .null, .ref q_toldWaves, .null, .null, .null, .null, u_tellers_7])), (q_toldWaves, .inl (cI, 20, .inl (fun _ => 0)))]) tyX8 tyX8_ok nmX8 C inX8 hK hP hD hS 0 rfl rfl 2 (by decide) rfl rfl hnm L9 rfl (by decide +kernel) (rfl) rfl (Nat.le_of_ble_eq_true rfl) dX8_init_9 rfl (fun H locs hP hD hS => ?_)
  refine lv_aload_n hx hb dX8_init_12 rfl (lv_at hl 0 rfl) ?_
  refine lv_bipush (v := 20) hx hb dX8_init_13 (by decide) ?_
  refine q_newa (atype := .int) (ty := .int) (N' := 20) (20, .inl (fun _ => 0)) C ACI rfl (fun _ => rfl) hK hP hD hS hA 1 rfl (fun _ => rfl) (by decide) (by decide +kernel) (by decide +kernel) (Nat.le_of_ble_eq_true rfl) (Nat.le_of_ble_eq_true rfl) dX8_init_15 (fun q_toldThings H hP hD hS => ?_)
  refine q_putF (ty := .array .int) (w2 := [(q_tellers, .inr (8, [.null, .null, .ref q_toldWaves, .ref q_toldThings, .null, .null, .null, u_tellers_7])), (q_toldWaves, .inl (cI, 20, .inl (fun _ => 0))), (q_toldThings, .inl (cI, 20, .inl (fun _ => 0)))]) tyX8 tyX8_ok nmX8 C inX8 hK hP hD hS 0 rfl rfl 3 (by decide) rfl rfl hnm L15 rfl (by decide +kernel) (rfl) rfl (Nat.le_of_ble_eq_true rfl) dX8_init_17 rfl (fun H locs hP hD hS => ?_)
  refine lv_aload_n hx hb dX8_init_20 rfl (lv_at hl 0 rfl) ?_
  refine lv_bipush (v := 30) hx hb dX8_init_21 (by decide) ?_
  refine q_newa (atype := .int) (ty := .int) (N' := 30) (30, .inl (fun _ => 0)) C ACI rfl (fun _ => rfl) hK hP hD hS hA 1 rfl (fun _ => rfl) (by decide) (by decide +kernel) (by decide +kernel) (Nat.le_of_ble_eq_true rfl) (Nat.le_of_ble_eq_true rfl) dX8_init_23 (fun q_t_odds H hP hD hS => ?_)
  refine q_putF (ty := .array .int) (w2 := [(q_tellers, .inr (8, [.null, .null, .ref q_toldWaves, .ref q_toldThings, .ref q_t_odds, .null, .null, u_tellers_7])), (q_toldWaves, .inl (cI, 20, .inl (fun _ => 0))), (q_toldThings, .inl (cI, 20, .inl (fun _ => 0))), (q_t_odds, .inl (cI, 30, .inl (fun _ => 0)))]) tyX8 tyX8_ok nmX8 C inX8 hK hP hD hS 0 rfl rfl 4 (by decide) rfl rfl hnm L18 rfl (by decide +kernel) (rfl) rfl (Nat.le_of_ble_eq_true rfl) dX8_init_25 rfl (fun H locs hP hD hS => ?_)
  refine lv_aload_n hx hb dX8_init_28 rfl (lv_at hl 0 rfl) ?_
  refine lv_bipush (v := 30) hx hb dX8_init_29 (by decide) ?_
  refine q_newa (atype := .int) (ty := .int) (N' := 30) (30, .inl (fun _ => 0)) C ACI rfl (fun _ => rfl) hK hP hD hS hA 1 rfl (fun _ => rfl) (by decide) (by decide +kernel) (by decide +kernel) (Nat.le_of_ble_eq_true rfl) (Nat.le_of_ble_eq_true rfl) dX8_init_31 (fun q_belied H hP hD hS => ?_)
  refine q_putF (ty := .array .int) (w2 := [(q_tellers, .inr (8, [.null, .null, .ref q_toldWaves, .ref q_toldThings, .ref q_t_odds, .ref q_belied, .null, u_tellers_7])), (q_toldWaves, .inl (cI, 20, .inl (fun _ => 0))), (q_toldThings, .inl (cI, 20, .inl (fun _ => 0))), (q_t_odds, .inl (cI, 30, .inl (fun _ => 0))), (q_belied, .inl (cI, 30, .inl (fun _ => 0)))]) tyX8 tyX8_ok nmX8 C inX8 hK hP hD hS 0 rfl rfl 5 (by decide) rfl rfl hnm L21 rfl (by decide +kernel) (rfl) rfl (Nat.le_of_ble_eq_true rfl) dX8_init_33 rfl (fun H locs hP hD hS => ?_)
  refine lv_aload_n hx hb dX8_init_36 rfl (lv_at hl 0 rfl) ?_
  refine lv_iconst (v := 4) hx hb dX8_init_37 (by decide) ?_
  refine q_newa (atype := .int) (ty := .int) (N' := 4) (4, .inl (fun _ => 0)) C ACI rfl (fun _ => rfl) hK hP hD hS hA 1 rfl (fun _ => rfl) (by decide) (by decide +kernel) (by decide +kernel) (Nat.le_of_ble_eq_true rfl) (Nat.le_of_ble_eq_true rfl) dX8_init_38 (fun q_byLies H hP hD hS => ?_)
  refine q_putF (ty := .array .int) (w2 := [(q_tellers, .inr (8, [.null, .null, .ref q_toldWaves, .ref q_toldThings, .ref q_t_odds, .ref q_belied, .ref q_byLies, u_tellers_7])), (q_toldWaves, .inl (cI, 20, .inl (fun _ => 0))), (q_toldThings, .inl (cI, 20, .inl (fun _ => 0))), (q_t_odds, .inl (cI, 30, .inl (fun _ => 0))), (q_belied, .inl (cI, 30, .inl (fun _ => 0))), (q_byLies, .inl (cI, 4, .inl (fun _ => 0)))]) tyX8 tyX8_ok nmX8 C inX8 hK hP hD hS 0 rfl rfl 6 (by decide) rfl rfl hnm L24 rfl (by decide +kernel) (rfl) rfl (Nat.le_of_ble_eq_true rfl) dX8_init_40 rfl (fun H locs hP hD hS => ?_)
  refine lv_aload_n hx hb dX8_init_43 rfl (lv_at hl 0 rfl) ?_
  refine lv_aload_n hx hb dX8_init_44 rfl (lv_at hl 1 rfl) ?_
  refine q_putF (ty := .object "GuessFerry$Sound") (w2 := [(q_tellers, .inr (8, [.ref q_sound, .null, .ref q_toldWaves, .ref q_toldThings, .ref q_t_odds, .ref q_belied, .ref q_byLies, u_tellers_7])), (q_toldWaves, .inl (cI, 20, .inl (fun _ => 0))), (q_toldThings, .inl (cI, 20, .inl (fun _ => 0))), (q_t_odds, .inl (cI, 30, .inl (fun _ => 0))), (q_belied, .inl (cI, 30, .inl (fun _ => 0))), (q_byLies, .inl (cI, 4, .inl (fun _ => 0)))]) tyX8 tyX8_ok nmX8 C inX8 hK hP hD hS 0 rfl rfl 0 (by decide) rfl rfl hnm L27 rfl (by decide +kernel) (rfl) rfl (Nat.le_of_ble_eq_true rfl) dX8_init_45 rfl (fun H locs hP hD hS => ?_)
  refine lv_aload_n hx hb dX8_init_48 rfl (lv_at hl 0 rfl) ?_
  refine lv_aload_n hx hb dX8_init_49 rfl (lv_at hl 2 rfl) ?_
  refine q_putF (ty := .object "GuessFerry$Crossing") (w2 := [(q_tellers, .inr (8, [.ref q_sound, .ref q_crossing, .ref q_toldWaves, .ref q_toldThings, .ref q_t_odds, .ref q_belied, .ref q_byLies, u_tellers_7])), (q_toldWaves, .inl (cI, 20, .inl (fun _ => 0))), (q_toldThings, .inl (cI, 20, .inl (fun _ => 0))), (q_t_odds, .inl (cI, 30, .inl (fun _ => 0))), (q_belied, .inl (cI, 30, .inl (fun _ => 0))), (q_byLies, .inl (cI, 4, .inl (fun _ => 0)))]) tyX8 tyX8_ok nmX8 C inX8 hK hP hD hS 0 rfl rfl 1 (by decide) rfl rfl hnm L31 rfl (by decide +kernel) (rfl) rfl (Nat.le_of_ble_eq_true rfl) dX8_init_50 rfl (fun H locs hP hD hS => ?_)
  exact q_vret C hr hlocks hK hP hD hS (Nat.le_of_ble_eq_true rfl) (Nat.le_of_ble_eq_true rfl) dX8_init_53 (⟨q_toldWaves, q_toldThings, q_t_odds, q_belied, q_byLies, rfl⟩)
