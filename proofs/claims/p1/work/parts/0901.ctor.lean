theorem dX8_init_0 : decode cX8_init 0 = .ok (.aload_n 0, 1) := by decide +kernel
theorem dX8_init_1 : decode cX8_init 1 = .ok (.invokespecial 3, 3) := by decide +kernel
theorem dX8_init_4 : decode cX8_init 4 = .ok (.aload_n 0, 1) := by decide +kernel
theorem dX8_init_5 : decode cX8_init 5 = .ok (.bipush 20, 2) := by decide +kernel
theorem dX8_init_7 : decode cX8_init 7 = .ok (.newarray .int, 2) := by decide +kernel
theorem dX8_init_9 : decode cX8_init 9 = .ok (.putfield 9, 3) := by decide +kernel
theorem dX8_init_12 : decode cX8_init 12 = .ok (.aload_n 0, 1) := by decide +kernel
theorem dX8_init_13 : decode cX8_init 13 = .ok (.bipush 20, 2) := by decide +kernel
theorem dX8_init_15 : decode cX8_init 15 = .ok (.newarray .int, 2) := by decide +kernel
theorem dX8_init_17 : decode cX8_init 17 = .ok (.putfield 15, 3) := by decide +kernel
theorem dX8_init_20 : decode cX8_init 20 = .ok (.aload_n 0, 1) := by decide +kernel
theorem dX8_init_21 : decode cX8_init 21 = .ok (.bipush 30, 2) := by decide +kernel
theorem dX8_init_23 : decode cX8_init 23 = .ok (.newarray .int, 2) := by decide +kernel
theorem dX8_init_25 : decode cX8_init 25 = .ok (.putfield 18, 3) := by decide +kernel
theorem dX8_init_28 : decode cX8_init 28 = .ok (.aload_n 0, 1) := by decide +kernel
theorem dX8_init_29 : decode cX8_init 29 = .ok (.bipush 30, 2) := by decide +kernel
theorem dX8_init_31 : decode cX8_init 31 = .ok (.newarray .int, 2) := by decide +kernel
theorem dX8_init_33 : decode cX8_init 33 = .ok (.putfield 21, 3) := by decide +kernel
theorem dX8_init_36 : decode cX8_init 36 = .ok (.aload_n 0, 1) := by decide +kernel
theorem dX8_init_37 : decode cX8_init 37 = .ok (.iconst 4, 1) := by decide +kernel
theorem dX8_init_38 : decode cX8_init 38 = .ok (.newarray .int, 2) := by decide +kernel
theorem dX8_init_40 : decode cX8_init 40 = .ok (.putfield 24, 3) := by decide +kernel
theorem dX8_init_43 : decode cX8_init 43 = .ok (.aload_n 0, 1) := by decide +kernel
theorem dX8_init_44 : decode cX8_init 44 = .ok (.aload_n 1, 1) := by decide +kernel
theorem dX8_init_45 : decode cX8_init 45 = .ok (.putfield 27, 3) := by decide +kernel
theorem dX8_init_48 : decode cX8_init 48 = .ok (.aload_n 0, 1) := by decide +kernel
theorem dX8_init_49 : decode cX8_init 49 = .ok (.aload_n 2, 1) := by decide +kernel
theorem dX8_init_50 : decode cX8_init 50 = .ok (.putfield 31, 3) := by decide +kernel
theorem dX8_init_53 : decode cX8_init 53 = .ok (.return_, 1) := by decide +kernel
set_option maxHeartbeats 4000000 in
set_option maxRecDepth 100000 in
theorem k_X8_init (l : Launch) (dC : Nat → ClassId) (dI : Nat → Nat → Nat) (cB cI cJ cZ cS : ClassId) (q_sound : Nat) (q_crossing : Nat) (q_tellers : Nat) (u_tellers_7 : Value) : CV l yX8_init wsX8_init ({ frames := 1, cells := 5, slots := 104, locals := 24 }) (dC, dI) (tysA cB cI cJ cZ cS) [(q_tellers, .inr (8, [.null, .null, .null, .null, .null, .null, .null, u_tellers_7]))] [.ref q_tellers, .ref q_sound, .ref q_crossing] (fun w => ∃ q_toldWaves : Nat, ∃ q_toldThings : Nat, ∃ q_t_odds : Nat, ∃ q_belied : Nat, ∃ q_byLies : Nat, w = [(q_tellers, .inr (8, [.ref q_sound, .ref q_crossing, .ref q_toldWaves, .ref q_toldThings, .ref q_t_odds, .ref q_belied, .ref q_byLies, u_tellers_7])), (q_toldWaves, .inl (cI, 20, .inl (fun _ => 0))), (q_toldThings, .inl (cI, 20, .inl (fun _ => 0))), (q_t_odds, .inl (cI, 30, .inl (fun _ => 0))), (q_belied, .inl (cI, 30, .inl (fun _ => 0))), (q_byLies, .inl (cI, 4, .inl (fun _ => 0)))]) := by
  refine open_V (cc := cX8_init) (maxL := 3) (ret := none) (by decide) rfl (Nat.le_of_ble_eq_true rfl) ?_
  intro p e s m below meth c A ls E
  obtain ⟨C, hr, hlocks, hnm, hA, hP, hK, hD, hN, hl⟩ := E
  obtain ⟨hx, hb, hml, hown, hts⟩ := id C
  have hS : va_S A s.heap s.heap [] := va_S.rf
  have hl : lv_has ls 3 [(0, .ref q_tellers), (1, .ref q_sound), (2, .ref q_crossing)] := hl
  have inX8 : ∀ w ∈ u_ws RX8 TX8 8, w ∈ wsX8_init := by decide +kernel
  have ACI : Cond.arrayClass .int ∈ wsX8_init := by decide +kernel
  have L15 : Cond.fieldLink RX8 15 "GuessFerry$Tellers" "toldThings" "[I" ∈ wsX8_init := by decide +kernel
  have L18 : Cond.fieldLink RX8 18 "GuessFerry$Tellers" "odds" "[I" ∈ wsX8_init := by decide +kernel
  have L21 : Cond.fieldLink RX8 21 "GuessFerry$Tellers" "belied" "[I" ∈ wsX8_init := by decide +kernel
  have L24 : Cond.fieldLink RX8 24 "GuessFerry$Tellers" "byLies" "[I" ∈ wsX8_init := by decide +kernel
  have L27 : Cond.fieldLink RX8 27 "GuessFerry$Tellers" "sound" "LGuessFerry$Sound;" ∈ wsX8_init := by decide +kernel
  have L31 : Cond.fieldLink RX8 31 "GuessFerry$Tellers" "crossing" "LGuessFerry$Crossing;" ∈ wsX8_init := by decide +kernel
  have L9 : Cond.fieldLink RX8 9 "GuessFerry$Tellers" "toldWaves" "[I" ∈ wsX8_init := by decide +kernel
  have OC : Cond.code Lib.objectInit ⟨#[0xb1]⟩ 1 none ∈ wsX8_init := by decide +kernel
  have OI : Cond.instanceMethod Lib.objectInit ∈ wsX8_init := by decide +kernel
  have OL3 : Cond.methodLink RX8 3 Lib.objectInit ∈ wsX8_init := by decide +kernel
  refine lv_aload_n hx hb dX8_init_0 rfl (lv_at hl 0 rfl) ?_
  refine W.objInit hx hb hown (hts _ OL3) (hts _ OI) (hts _ OC) rfl (by rw [hml]; exact hl.1) rfl dX8_init_1 (Nat.le_of_ble_eq_true rfl) (Nat.le_of_ble_eq_true rfl) ?_
  refine W.eq (g2 := F0 m 4 ls []) rfl ?_
  refine lv_aload_n hx hb dX8_init_4 rfl (lv_at hl 0 rfl) ?_
  refine lv_bipush (v := 20) hx hb dX8_init_5 (by decide) ?_
  refine q_newa (atype := .int) (ty := .int) (N' := 20) (20, .inl (fun _ => 0)) C ACI rfl (fun _ => rfl) hK hP hD hS hA 1 rfl (fun _ => rfl) (by decide) (by decide +kernel) (by decide +kernel) (Nat.le_of_ble_eq_true rfl) (Nat.le_of_ble_eq_true rfl) dX8_init_7 (fun q_toldWaves H hP hD hS => ?_)
  refine q_putF (ty := .array .int) (w2 := [(q_tellers, .inr (8, [.null, .null, .ref q_toldWaves, .null, .null, .null, .null, u_tellers_7])), (q_toldWaves, .inl (cI, 20, .inl (fun _ => 0)))]) tyX8 tyX8_ok nmX8 C inX8 hK hP hD hS 0 rfl rfl 2 (by decide) rfl rfl hnm L9 rfl (by decide +kernel) (rfl) rfl (Nat.le_of_ble_eq_true rfl) dX8_init_9 rfl (fun H locs hP hD hS => ?_)
  refine lv_aload_n hx hb dX8_init_12 rfl (lv_at hl 0 rfl) ?_
  refine lv_bipush (v := 20) hx hb dX8_init_13 (by decide) ?_
  refine q_newa (atype := .int) (ty := .int) (N' := 20) (20, .inl (fun _ => 0)) C ACI rfl (fun _ => rfl) hK hP hD hS hA 1 rfl (fun _ => rfl) (by decide) (by decide +kernel) (by decide +kernel) (Nat.le_of_ble_eq_true rfl) (Nat.le_of_ble_eq_true rfl) dX8_init_15 (fun q_toldThings H hP hD hS => ?_)
  refine q_putF (ty := .array .int) (w2 := [(q_tellers, .inr (8, [.null, .null, .ref q_toldWaves, .ref q_toldThings, .null, .null, .null, u_tellers_7])), (q_toldWaves, .inl (cI, 20, .inl (fun _ => 0))), (q_toldThings, .inl (cI, 20, .inl (fun _ => 0)))]) tyX8 tyX8_ok nmX8 C inX8 hK hP hD hS 0 rfl rfl 3 (by decide) rfl rfl hnm L15 rfl (by decide +kernel) (rfl) rfl (Nat.le_of_ble_eq_true rfl) dX8_init_17 rfl (fun H locs hP hD hS => ?_)
  refine lv_aload_n hx hb dX8_init_20 rfl (lv_at hl 0 rfl) ?_
  refine lv_bipush (v := 30) hx hb dX8_init_21 (by decide) ?_
  refine q_newa (atype := .int) (ty := .int) (N' := 30) (30, .inl (fun _ => 0)) C ACI rfl (fun _ => rfl) hK hP hD hS hA 1 rfl (fun _ => rfl) (by decide) (by decide +kernel) (by decide +kernel) (Nat.le_of_ble_eq_true rfl) (Nat.le_of_ble_eq_true rfl) dX8_init_23 (fun q_t_odds H hP hD hS => ?_)
  refine q_putF (ty := .array .int) (w2 := [(q_tellers, .inr (8, [.null, .null, .ref q_toldWaves, .ref q_toldThings, .ref q_t_odds, .null, .null, u_tellers_7])), (q_toldWaves, .inl (cI, 20, .inl (fun _ => 0))), (q_toldThings, .inl (cI, 20, .inl (fun _ => 0))), (q_t_odds, .inl (cI, 30, .inl (fun _ => 0)))]) tyX8 tyX8_ok nmX8 C inX8 hK hP hD hS 0 rfl rfl 4 (by decide) rfl rfl hnm L18 rfl (by decide +kernel) (rfl) rfl (Nat.le_of_ble_eq_true rfl) dX8_init_25 rfl (fun H locs hP hD hS => ?_)
  refine lv_aload_n hx hb dX8_init_28 rfl (lv_at hl 0 rfl) ?_
  refine lv_bipush (v := 30) hx hb dX8_init_29 (by decide) ?_
  refine q_newa (atype := .int) (ty := .int) (N' := 30) (30, .inl (fun _ => 0)) C ACI rfl (fun _ => rfl) hK hP hD hS hA 1 rfl (fun _ => rfl) (by decide) (by decide +kernel) (by decide +kernel) (Nat.le_of_ble_eq_true rfl) (Nat.le_of_ble_eq_true rfl) dX8_init_31 (fun q_belied H hP hD hS => ?_)
  refine q_putF (ty := .array .int) (w2 := [(q_tellers, .inr (8, [.null, .null, .ref q_toldWaves, .ref q_toldThings, .ref q_t_odds, .ref q_belied, .null, u_tellers_7])), (q_toldWaves, .inl (cI, 20, .inl (fun _ => 0))), (q_toldThings, .inl (cI, 20, .inl (fun _ => 0))), (q_t_odds, .inl (cI, 30, .inl (fun _ => 0))), (q_belied, .inl (cI, 30, .inl (fun _ => 0)))]) tyX8 tyX8_ok nmX8 C inX8 hK hP hD hS 0 rfl rfl 5 (by decide) rfl rfl hnm L21 rfl (by decide +kernel) (rfl) rfl (Nat.le_of_ble_eq_true rfl) dX8_init_33 rfl (fun H locs hP hD hS => ?_)
  refine lv_aload_n hx hb dX8_init_36 rfl (lv_at hl 0 rfl) ?_
  refine lv_iconst (v := 4) hx hb dX8_init_37 (by decide) ?_
  refine q_newa (atype := .int) (ty := .int) (N' := 4) (4, .inl (fun _ => 0)) C ACI rfl (fun _ => rfl) hK hP hD hS hA 1 rfl (fun _ => rfl) (by decide) (by decide +kernel) (by decide +kernel) (Nat.le_of_ble_eq_true rfl) (Nat.le_of_ble_eq_true rfl) dX8_init_38 (fun q_byLies H hP hD hS => ?_)
  refine q_putF (ty := .array .int) (w2 := [(q_tellers, .inr (8, [.null, .null, .ref q_toldWaves, .ref q_toldThings, .ref q_t_odds, .ref q_belied, .ref q_byLies, u_tellers_7])), (q_toldWaves, .inl (cI, 20, .inl (fun _ => 0))), (q_toldThings, .inl (cI, 20, .inl (fun _ => 0))), (q_t_odds, .inl (cI, 30, .inl (fun _ => 0))), (q_belied, .inl (cI, 30, .inl (fun _ => 0))), (q_byLies, .inl (cI, 4, .inl (fun _ => 0)))]) tyX8 tyX8_ok nmX8 C inX8 hK hP hD hS 0 rfl rfl 6 (by decide) rfl rfl hnm L24 rfl (by decide +kernel) (rfl) rfl (Nat.le_of_ble_eq_true rfl) dX8_init_40 rfl (fun H locs hP hD hS => ?_)
  refine lv_aload_n hx hb dX8_init_43 rfl (lv_at hl 0 rfl) ?_
  refine lv_aload_n hx hb dX8_init_44 rfl (lv_at hl 1 rfl) ?_
  refine q_putF (ty := .object "GuessFerry$Sound") (w2 := [(q_tellers, .inr (8, [.ref q_sound, .null, .ref q_toldWaves, .ref q_toldThings, .ref q_t_odds, .ref q_belied, .ref q_byLies, u_tellers_7])), (q_toldWaves, .inl (cI, 20, .inl (fun _ => 0))), (q_toldThings, .inl (cI, 20, .inl (fun _ => 0))), (q_t_odds, .inl (cI, 30, .inl (fun _ => 0))), (q_belied, .inl (cI, 30, .inl (fun _ => 0))), (q_byLies, .inl (cI, 4, .inl (fun _ => 0)))]) tyX8 tyX8_ok nmX8 C inX8 hK hP hD hS 0 rfl rfl 0 (by decide) rfl rfl hnm L27 rfl (by decide +kernel) (rfl) rfl (Nat.le_of_ble_eq_true rfl) dX8_init_45 rfl (fun H locs hP hD hS => ?_)
  refine lv_aload_n hx hb dX8_init_48 rfl (lv_at hl 0 rfl) ?_
  refine lv_aload_n hx hb dX8_init_49 rfl (lv_at hl 2 rfl) ?_
  refine q_putF (ty := .object "GuessFerry$Crossing") (w2 := [(q_tellers, .inr (8, [.ref q_sound, .ref q_crossing, .ref q_toldWaves, .ref q_toldThings, .ref q_t_odds, .ref q_belied, .ref q_byLies, u_tellers_7])), (q_toldWaves, .inl (cI, 20, .inl (fun _ => 0))), (q_toldThings, .inl (cI, 20, .inl (fun _ => 0))), (q_t_odds, .inl (cI, 30, .inl (fun _ => 0))), (q_belied, .inl (cI, 30, .inl (fun _ => 0))), (q_byLies, .inl (cI, 4, .inl (fun _ => 0)))]) tyX8 tyX8_ok nmX8 C inX8 hK hP hD hS 0 rfl rfl 1 (by decide) rfl rfl hnm L31 rfl (by decide +kernel) (rfl) rfl (Nat.le_of_ble_eq_true rfl) dX8_init_50 rfl (fun H locs hP hD hS => ?_)
  exact q_vret C hr hlocks hK hP hD hS (Nat.le_of_ble_eq_true rfl) (Nat.le_of_ble_eq_true rfl) dX8_init_53 (⟨q_toldWaves, q_toldThings, q_t_odds, q_belied, q_byLies, rfl⟩)
