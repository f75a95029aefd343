theorem dX7_hasRoomFor_0 : decode cX7_hasRoomFor 0 = .ok (.iload_n 1, 1) := by decide +kernel
theorem dX7_hasRoomFor_1 : decode cX7_hasRoomFor 1 = .ok (.aload_n 0, 1) := by decide +kernel
theorem dX7_hasRoomFor_2 : decode cX7_hasRoomFor 2 = .ok (.getfield 9, 3) := by decide +kernel
theorem dX7_hasRoomFor_5 : decode cX7_hasRoomFor 5 = .ok (.arraylength, 1) := by decide +kernel
theorem dX7_hasRoomFor_6 : decode cX7_hasRoomFor 6 = .ok (.aload_n 0, 1) := by decide +kernel
theorem dX7_hasRoomFor_7 : decode cX7_hasRoomFor 7 = .ok (.getfield 15, 3) := by decide +kernel
theorem dX7_hasRoomFor_10 : decode cX7_hasRoomFor 10 = .ok (.isub, 1) := by decide +kernel
theorem dX7_hasRoomFor_11 : decode cX7_hasRoomFor 11 = .ok (.if_icmp .gt 7, 3) := by decide +kernel
theorem dX7_hasRoomFor_14 : decode cX7_hasRoomFor 14 = .ok (.iconst 1, 1) := by decide +kernel
theorem dX7_hasRoomFor_15 : decode cX7_hasRoomFor 15 = .ok (.goto 4, 3) := by decide +kernel
theorem dX7_hasRoomFor_19 : decode cX7_hasRoomFor 19 = .ok (.ireturn, 1) := by decide +kernel
theorem dX7_addFour_0 : decode cX7_addFour 0 = .ok (.bipush 24, 2) := by decide +kernel
theorem dX7_addFour_2 : decode cX7_addFour 2 = .ok (.istore_n 2, 1) := by decide +kernel
theorem dX7_addFour_3 : decode cX7_addFour 3 = .ok (.iload_n 2, 1) := by decide +kernel
theorem dX7_addFour_4 : decode cX7_addFour 4 = .ok (.ifCond .lt 44, 3) := by decide +kernel
theorem dX7_addFour_7 : decode cX7_addFour 7 = .ok (.aload_n 0, 1) := by decide +kernel
theorem dX7_addFour_8 : decode cX7_addFour 8 = .ok (.getfield 15, 3) := by decide +kernel
theorem dX7_addFour_11 : decode cX7_addFour 11 = .ok (.aload_n 0, 1) := by decide +kernel
theorem dX7_addFour_12 : decode cX7_addFour 12 = .ok (.getfield 9, 3) := by decide +kernel
theorem dX7_addFour_15 : decode cX7_addFour 15 = .ok (.arraylength, 1) := by decide +kernel
theorem dX7_addFour_16 : decode cX7_addFour 16 = .ok (.if_icmp .ge 26, 3) := by decide +kernel
theorem dX7_addFour_19 : decode cX7_addFour 19 = .ok (.aload_n 0, 1) := by decide +kernel
theorem dX7_addFour_20 : decode cX7_addFour 20 = .ok (.getfield 9, 3) := by decide +kernel
theorem dX7_addFour_23 : decode cX7_addFour 23 = .ok (.aload_n 0, 1) := by decide +kernel
theorem dX7_addFour_24 : decode cX7_addFour 24 = .ok (.getfield 15, 3) := by decide +kernel
theorem dX7_addFour_27 : decode cX7_addFour 27 = .ok (.iload_n 1, 1) := by decide +kernel
theorem dX7_addFour_28 : decode cX7_addFour 28 = .ok (.iload_n 2, 1) := by decide +kernel
theorem dX7_addFour_29 : decode cX7_addFour 29 = .ok (.iushr, 1) := by decide +kernel
theorem dX7_addFour_30 : decode cX7_addFour 30 = .ok (.i2b, 1) := by decide +kernel
theorem dX7_addFour_31 : decode cX7_addFour 31 = .ok (.bastore, 1) := by decide +kernel
theorem dX7_addFour_32 : decode cX7_addFour 32 = .ok (.aload_n 0, 1) := by decide +kernel
theorem dX7_addFour_33 : decode cX7_addFour 33 = .ok (.dup, 1) := by decide +kernel
theorem dX7_addFour_34 : decode cX7_addFour 34 = .ok (.getfield 15, 3) := by decide +kernel
theorem dX7_addFour_37 : decode cX7_addFour 37 = .ok (.iconst 1, 1) := by decide +kernel
theorem dX7_addFour_38 : decode cX7_addFour 38 = .ok (.iadd, 1) := by decide +kernel
theorem dX7_addFour_39 : decode cX7_addFour 39 = .ok (.putfield 15, 3) := by decide +kernel
theorem dX7_addFour_42 : decode cX7_addFour 42 = .ok (.iinc 2 (-8), 3) := by decide +kernel
theorem dX7_addFour_45 : decode cX7_addFour 45 = .ok (.goto (-42), 3) := by decide +kernel
theorem dX7_addFour_48 : decode cX7_addFour 48 = .ok (.return_, 1) := by decide +kernel
set_option maxHeartbeats 4000000 in
set_option maxRecDepth 100000 in
theorem k_X7_hasRoomFor (l : Launch) (dC : Nat → ClassId) (dI : Nat → Nat → Nat) (cB cI cJ cZ cS : ClassId) (q_tape : Nat) (q_tape_bytes : Nat) (f_tape_bytes : Nat → Int32) : CI l yX7_hasRoomFor wsX7_hasRoomFor ({ frames := 0, cells := 0, slots := 0, locals := 0 }) (dC, dI) (tysA cB cI cJ cZ cS) [(q_tape, .inr (7, [.ref q_tape_bytes, .int 0])), (q_tape_bytes, .inl (cB, 2000, .inl f_tape_bytes))] [.ref q_tape, .int 20] (fun r w => w = [(q_tape, .inr (7, [.ref q_tape_bytes, .int 0])), (q_tape_bytes, .inl (cB, 2000, .inl f_tape_bytes))] ∧ r = 1) := by
  refine open_I (cc := cX7_hasRoomFor) (maxL := 2) (ret := (some .boolean)) (by decide) rfl (Nat.le_of_ble_eq_true rfl) ?_
  intro p e s m below meth c A ls E
  obtain ⟨C, hr, hlocks, hnm, hA, hP, hK, hD, hN, hl⟩ := E
  obtain ⟨hx, hb, hml, hown, hts⟩ := id C
  have hS : va_S A s.heap s.heap [] := va_S.rf
  have hl : lv_has ls 2 [(0, .ref q_tape), (1, .int 20)] := hl
  have inX7 : ∀ w ∈ u_ws RX7 TX7 2, w ∈ wsX7_hasRoomFor := fun _ h => List.mem_cons_of_mem _ (List.mem_append_right _ h)
  have L15 : Cond.fieldLink RX7 15 "GuessFerry$Tape" "length" "I" ∈ wsX7_hasRoomFor := by decide +kernel
  have L9 : Cond.fieldLink RX7 9 "GuessFerry$Tape" "bytes" "[B" ∈ wsX7_hasRoomFor := by decide +kernel
  refine lv_iload_n hx hb dX7_hasRoomFor_0 rfl (lv_at hl 1 rfl) ?_
  refine lv_aload_n hx hb dX7_hasRoomFor_1 rfl (lv_at hl 0 rfl) ?_
  refine q_get (v := .ref q_tape_bytes) C inX7 hK hP 0 rfl rfl 0 (by decide) rfl L9 rfl dX7_hasRoomFor_2 ?_
  refine q_alen (v := 2000) C hK hP 1 0 rfl rfl dX7_hasRoomFor_5 rfl ?_
  refine lv_aload_n hx hb dX7_hasRoomFor_6 rfl (lv_at hl 0 rfl) ?_
  refine q_get (v := .int 0) C inX7 hK hP 0 rfl rfl 1 (by decide) rfl L15 rfl dX7_hasRoomFor_7 ?_
  refine lv_isub hx hb dX7_hasRoomFor_10 ?_
  refine q_top (y := 2000) (by decide +kernel) ?_
  refine lv_icmp_gt (tgt := 18) hx hb dX7_hasRoomFor_11 (by decide) (fun h => absurd h (by decide +kernel)) (fun _ => ?_)
  refine lv_iconst (v := 1) hx hb dX7_hasRoomFor_14 (by decide) ?_
  refine lv_goto (tgt := 19) hx hb dX7_hasRoomFor_15 (by decide) ?_
  exact q_zret C hr hlocks (Or.inr rfl) hK hP hD hS (Nat.le_of_ble_eq_true rfl) (Nat.le_of_ble_eq_true rfl) dX7_hasRoomFor_19 (⟨rfl, rfl⟩)

set_option maxHeartbeats 4000000 in
set_option maxRecDepth 100000 in
theorem k_addFour0 (l : Launch) (dC : Nat → ClassId) (dI : Nat → Nat → Nat) (cB cI cJ cZ cS : ClassId) (q_tape : Nat) (q_tape_bytes : Nat) (f_tape_bytes : Nat → Int32) (x1 : Int32) : CV l yX7_addFour wsX7_addFour ({ frames := 0, cells := 0, slots := 0, locals := 0 }) (dC, dI) (tysA cB cI cJ cZ cS) [(q_tape, .inr (7, [.ref q_tape_bytes, .int 0])), (q_tape_bytes, .inl (cB, 2000, .inl f_tape_bytes))] [.ref q_tape, .int x1] (fun w => w = [(q_tape, .inr (7, [.ref q_tape_bytes, .int 4])), (q_tape_bytes, .inl (cB, 2000, .inl (upd (upd (upd (upd f_tape_bytes 0 (vp_nar .byte (Int8.toInt32 (Int32.toInt8 (UInt32.toInt32 ((Int32.toUInt32 x1) >>> ((Int32.toUInt32 24) &&& Int32.toUInt32 31))))))) 1 (vp_nar .byte (Int8.toInt32 (Int32.toInt8 (UInt32.toInt32 ((Int32.toUInt32 x1) >>> ((Int32.toUInt32 16) &&& Int32.toUInt32 31))))))) 2 (vp_nar .byte (Int8.toInt32 (Int32.toInt8 (UInt32.toInt32 ((Int32.toUInt32 x1) >>> ((Int32.toUInt32 8) &&& Int32.toUInt32 31))))))) 3 (vp_nar .byte (Int8.toInt32 (Int32.toInt8 (UInt32.toInt32 ((Int32.toUInt32 x1) >>> ((Int32.toUInt32 0) &&& Int32.toUInt32 31)))))))))]) := by
  refine open_V (cc := cX7_addFour) (maxL := 3) (ret := none) (by decide) rfl (Nat.le_of_ble_eq_true rfl) ?_
  intro p e s m below meth c A ls E
  obtain ⟨C, hr, hlocks, hnm, hA, hP, hK, hD, hN, hl⟩ := E
  obtain ⟨hx, hb, hml, hown, hts⟩ := id C
  have hS : va_S A s.heap s.heap [] := va_S.rf
  have hl : lv_has ls 3 [(0, .ref q_tape), (1, .int x1)] := hl
  have inX7 : ∀ w ∈ u_ws RX7 TX7 2, w ∈ wsX7_addFour := fun _ h => List.mem_cons_of_mem _ (List.mem_append_right _ h)
  have L15 : Cond.fieldLink RX7 15 "GuessFerry$Tape" "length" "I" ∈ wsX7_addFour := by decide +kernel
  have L9 : Cond.fieldLink RX7 9 "GuessFerry$Tape" "bytes" "[B" ∈ wsX7_addFour := by decide +kernel
  refine lv_bipush (v := 24) hx hb dX7_addFour_0 (by decide) ?_
  refine lv_istore_n (lv' := [(2, .int 24), (0, .ref q_tape), (1, .int x1)]) hx hb dX7_addFour_2 rfl hl (by decide) rfl (fun ls hl => ?_)
  refine lv_iload_n hx hb dX7_addFour_3 rfl (lv_at hl 0 rfl) ?_
  refine lv_if_lt (tgt := 48) hx hb dX7_addFour_4 (by decide) (fun h => absurd h (by decide +kernel)) (fun _ => ?_)
  refine lv_aload_n hx hb dX7_addFour_7 rfl (lv_at hl 1 rfl) ?_
  refine q_get (v := .int 0) C inX7 hK hP 0 rfl rfl 1 (by decide) rfl L15 rfl dX7_addFour_8 ?_
  refine lv_aload_n hx hb dX7_addFour_11 rfl (lv_at hl 1 rfl) ?_
  refine q_get (v := .ref q_tape_bytes) C inX7 hK hP 0 rfl rfl 0 (by decide) rfl L9 rfl dX7_addFour_12 ?_
  refine q_alen (v := 2000) C hK hP 1 0 rfl rfl dX7_addFour_15 rfl ?_
  refine lv_icmp_ge (tgt := 42) hx hb dX7_addFour_16 (by decide) (fun h => absurd h (by decide +kernel)) (fun _ => ?_)
  refine lv_aload_n hx hb dX7_addFour_19 rfl (lv_at hl 1 rfl) ?_
  refine q_get (v := .ref q_tape_bytes) C inX7 hK hP 0 rfl rfl 0 (by decide) rfl L9 rfl dX7_addFour_20 ?_
  refine lv_aload_n hx hb dX7_addFour_23 rfl (lv_at hl 1 rfl) ?_
  refine q_get (v := .int 0) C inX7 hK hP 0 rfl rfl 1 (by decide) rfl L15 rfl dX7_addFour_24 ?_
  refine lv_iload_n hx hb dX7_addFour_27 rfl (lv_at hl 2 rfl) ?_
  refine lv_iload_n hx hb dX7_addFour_28 rfl (lv_at hl 0 rfl) ?_
  refine lv_iushr (v := (UInt32.toInt32 ((Int32.toUInt32 x1) >>> ((Int32.toUInt32 24) &&& Int32.toUInt32 31)))) hx hb dX7_addFour_29 (rfl) ?_
  refine lv_i2b (v := (Int8.toInt32 (Int32.toInt8 (UInt32.toInt32 ((Int32.toUInt32 x1) >>> ((Int32.toUInt32 24) &&& Int32.toUInt32 31)))))) hx hb dX7_addFour_30 rfl ?_
  refine q_bast (f2 := (upd f_tape_bytes 0 (vp_nar .byte (Int8.toInt32 (Int32.toInt8 (UInt32.toInt32 ((Int32.toUInt32 x1) >>> ((Int32.toUInt32 24) &&& Int32.toUInt32 31)))))))) (w2 := [(q_tape, .inr (7, [.ref q_tape_bytes, .int 0])), (q_tape_bytes, .inl (cB, 2000, .inl (upd f_tape_bytes 0 (vp_nar .byte (Int8.toInt32 (Int32.toInt8 (UInt32.toInt32 ((Int32.toUInt32 x1) >>> ((Int32.toUInt32 24) &&& Int32.toUInt32 31)))))))))]) C hK hP hD hS 1 0 rfl rfl (vp_lit (by decide +kernel)) dX7_addFour_31 rfl rfl (fun H locs hP hD hS => ?_)
  refine lv_aload_n hx hb dX7_addFour_32 rfl (lv_at hl 1 rfl) ?_
  refine lv_dup hx hb dX7_addFour_33 rfl ?_
  refine q_get (v := .int 0) C inX7 hK hP 0 rfl rfl 1 (by decide) rfl L15 rfl dX7_addFour_34 ?_
  refine lv_iconst (v := 1) hx hb dX7_addFour_37 (by decide) ?_
  refine lv_iadd hx hb dX7_addFour_38 ?_
  refine q_top (y := 1) (by decide +kernel) ?_
  refine q_put (ty := .int) (w2 := [(q_tape, .inr (7, [.ref q_tape_bytes, .int 1])), (q_tape_bytes, .inl (cB, 2000, .inl (upd f_tape_bytes 0 (vp_nar .byte (Int8.toInt32 (Int32.toInt8 (UInt32.toInt32 ((Int32.toUInt32 x1) >>> ((Int32.toUInt32 24) &&& Int32.toUInt32 31)))))))))]) tyX7 tyX7_ok nmX7 C inX7 hK hP hD hS 0 rfl rfl 1 (by decide) rfl L15 rfl (by decide +kernel) (rfl) rfl (Nat.le_of_ble_eq_true rfl) dX7_addFour_39 rfl (fun H locs hP hD hS => ?_)
  refine lv_iinc (v := 16) (lv' := [(2, .int 16), (0, .ref q_tape), (1, .int x1)]) hx hb dX7_addFour_42 hl (k := 0) rfl (by decide +kernel) (by decide) rfl (fun ls hl => ?_)
  refine lv_goto (tgt := 3) hx hb dX7_addFour_45 (by decide) ?_
  refine lv_iload_n hx hb dX7_addFour_3 rfl (lv_at hl 0 rfl) ?_
  refine lv_if_lt (tgt := 48) hx hb dX7_addFour_4 (by decide) (fun h => absurd h (by decide +kernel)) (fun _ => ?_)
  refine lv_aload_n hx hb dX7_addFour_7 rfl (lv_at hl 1 rfl) ?_
  refine q_get (v := .int 1) C inX7 hK hP 0 rfl rfl 1 (by decide) rfl L15 rfl dX7_addFour_8 ?_
  refine lv_aload_n hx hb dX7_addFour_11 rfl (lv_at hl 1 rfl) ?_
  refine q_get (v := .ref q_tape_bytes) C inX7 hK hP 0 rfl rfl 0 (by decide) rfl L9 rfl dX7_addFour_12 ?_
  refine q_alen (v := 2000) C hK hP 1 0 rfl rfl dX7_addFour_15 rfl ?_
  refine lv_icmp_ge (tgt := 42) hx hb dX7_addFour_16 (by decide) (fun h => absurd h (by decide +kernel)) (fun _ => ?_)
  refine lv_aload_n hx hb dX7_addFour_19 rfl (lv_at hl 1 rfl) ?_
  refine q_get (v := .ref q_tape_bytes) C inX7 hK hP 0 rfl rfl 0 (by decide) rfl L9 rfl dX7_addFour_20 ?_
  refine lv_aload_n hx hb dX7_addFour_23 rfl (lv_at hl 1 rfl) ?_
  refine q_get (v := .int 1) C inX7 hK hP 0 rfl rfl 1 (by decide) rfl L15 rfl dX7_addFour_24 ?_
  refine lv_iload_n hx hb dX7_addFour_27 rfl (lv_at hl 2 rfl) ?_
  refine lv_iload_n hx hb dX7_addFour_28 rfl (lv_at hl 0 rfl) ?_
  refine lv_iushr (v := (UInt32.toInt32 ((Int32.toUInt32 x1) >>> ((Int32.toUInt32 16) &&& Int32.toUInt32 31)))) hx hb dX7_addFour_29 (rfl) ?_
  refine lv_i2b (v := (Int8.toInt32 (Int32.toInt8 (UInt32.toInt32 ((Int32.toUInt32 x1) >>> ((Int32.toUInt32 16) &&& Int32.toUInt32 31)))))) hx hb dX7_addFour_30 rfl ?_
  refine q_bast (f2 := (upd (upd f_tape_bytes 0 (vp_nar .byte (Int8.toInt32 (Int32.toInt8 (UInt32.toInt32 ((Int32.toUInt32 x1) >>> ((Int32.toUInt32 24) &&& Int32.toUInt32 31))))))) 1 (vp_nar .byte (Int8.toInt32 (Int32.toInt8 (UInt32.toInt32 ((Int32.toUInt32 x1) >>> ((Int32.toUInt32 16) &&& Int32.toUInt32 31)))))))) (w2 := [(q_tape, .inr (7, [.ref q_tape_bytes, .int 1])), (q_tape_bytes, .inl (cB, 2000, .inl (upd (upd f_tape_bytes 0 (vp_nar .byte (Int8.toInt32 (Int32.toInt8 (UInt32.toInt32 ((Int32.toUInt32 x1) >>> ((Int32.toUInt32 24) &&& Int32.toUInt32 31))))))) 1 (vp_nar .byte (Int8.toInt32 (Int32.toInt8 (UInt32.toInt32 ((Int32.toUInt32 x1) >>> ((Int32.toUInt32 16) &&& Int32.toUInt32 31)))))))))]) C hK hP hD hS 1 0 rfl rfl (vp_lit (by decide +kernel)) dX7_addFour_31 rfl rfl (fun H locs hP hD hS => ?_)
  refine lv_aload_n hx hb dX7_addFour_32 rfl (lv_at hl 1 rfl) ?_
  refine lv_dup hx hb dX7_addFour_33 rfl ?_
  refine q_get (v := .int 1) C inX7 hK hP 0 rfl rfl 1 (by decide) rfl L15 rfl dX7_addFour_34 ?_
  refine lv_iconst (v := 1) hx hb dX7_addFour_37 (by decide) ?_
  refine lv_iadd hx hb dX7_addFour_38 ?_
  refine q_top (y := 2) (by decide +kernel) ?_
  refine q_put (ty := .int) (w2 := [(q_tape, .inr (7, [.ref q_tape_bytes, .int 2])), (q_tape_bytes, .inl (cB, 2000, .inl (upd (upd f_tape_bytes 0 (vp_nar .byte (Int8.toInt32 (Int32.toInt8 (UInt32.toInt32 ((Int32.toUInt32 x1) >>> ((Int32.toUInt32 24) &&& Int32.toUInt32 31))))))) 1 (vp_nar .byte (Int8.toInt32 (Int32.toInt8 (UInt32.toInt32 ((Int32.toUInt32 x1) >>> ((Int32.toUInt32 16) &&& Int32.toUInt32 31)))))))))]) tyX7 tyX7_ok nmX7 C inX7 hK hP hD hS 0 rfl rfl 1 (by decide) rfl L15 rfl (by decide +kernel) (rfl) rfl (Nat.le_of_ble_eq_true rfl) dX7_addFour_39 rfl (fun H locs hP hD hS => ?_)
  refine lv_iinc (v := 8) (lv' := [(2, .int 8), (0, .ref q_tape), (1, .int x1)]) hx hb dX7_addFour_42 hl (k := 0) rfl (by decide +kernel) (by decide) rfl (fun ls hl => ?_)
  refine lv_goto (tgt := 3) hx hb dX7_addFour_45 (by decide) ?_
  refine lv_iload_n hx hb dX7_addFour_3 rfl (lv_at hl 0 rfl) ?_
  refine lv_if_lt (tgt := 48) hx hb dX7_addFour_4 (by decide) (fun h => absurd h (by decide +kernel)) (fun _ => ?_)
  refine lv_aload_n hx hb dX7_addFour_7 rfl (lv_at hl 1 rfl) ?_
  refine q_get (v := .int 2) C inX7 hK hP 0 rfl rfl 1 (by decide) rfl L15 rfl dX7_addFour_8 ?_
  refine lv_aload_n hx hb dX7_addFour_11 rfl (lv_at hl 1 rfl) ?_
  refine q_get (v := .ref q_tape_bytes) C inX7 hK hP 0 rfl rfl 0 (by decide) rfl L9 rfl dX7_addFour_12 ?_
  refine q_alen (v := 2000) C hK hP 1 0 rfl rfl dX7_addFour_15 rfl ?_
  refine lv_icmp_ge (tgt := 42) hx hb dX7_addFour_16 (by decide) (fun h => absurd h (by decide +kernel)) (fun _ => ?_)
  refine lv_aload_n hx hb dX7_addFour_19 rfl (lv_at hl 1 rfl) ?_
  refine q_get (v := .ref q_tape_bytes) C inX7 hK hP 0 rfl rfl 0 (by decide) rfl L9 rfl dX7_addFour_20 ?_
  refine lv_aload_n hx hb dX7_addFour_23 rfl (lv_at hl 1 rfl) ?_
  refine q_get (v := .int 2) C inX7 hK hP 0 rfl rfl 1 (by decide) rfl L15 rfl dX7_addFour_24 ?_
  refine lv_iload_n hx hb dX7_addFour_27 rfl (lv_at hl 2 rfl) ?_
  refine lv_iload_n hx hb dX7_addFour_28 rfl (lv_at hl 0 rfl) ?_
  refine lv_iushr (v := (UInt32.toInt32 ((Int32.toUInt32 x1) >>> ((Int32.toUInt32 8) &&& Int32.toUInt32 31)))) hx hb dX7_addFour_29 (rfl) ?_
  refine lv_i2b (v := (Int8.toInt32 (Int32.toInt8 (UInt32.toInt32 ((Int32.toUInt32 x1) >>> ((Int32.toUInt32 8) &&& Int32.toUInt32 31)))))) hx hb dX7_addFour_30 rfl ?_
  refine q_bast (f2 := (upd (upd (upd f_tape_bytes 0 (vp_nar .byte (Int8.toInt32 (Int32.toInt8 (UInt32.toInt32 ((Int32.toUInt32 x1) >>> ((Int32.toUInt32 24) &&& Int32.toUInt32 31))))))) 1 (vp_nar .byte (Int8.toInt32 (Int32.toInt8 (UInt32.toInt32 ((Int32.toUInt32 x1) >>> ((Int32.toUInt32 16) &&& Int32.toUInt32 31))))))) 2 (vp_nar .byte (Int8.toInt32 (Int32.toInt8 (UInt32.toInt32 ((Int32.toUInt32 x1) >>> ((Int32.toUInt32 8) &&& Int32.toUInt32 31)))))))) (w2 := [(q_tape, .inr (7, [.ref q_tape_bytes, .int 2])), (q_tape_bytes, .inl (cB, 2000, .inl (upd (upd (upd f_tape_bytes 0 (vp_nar .byte (Int8.toInt32 (Int32.toInt8 (UInt32.toInt32 ((Int32.toUInt32 x1) >>> ((Int32.toUInt32 24) &&& Int32.toUInt32 31))))))) 1 (vp_nar .byte (Int8.toInt32 (Int32.toInt8 (UInt32.toInt32 ((Int32.toUInt32 x1) >>> ((Int32.toUInt32 16) &&& Int32.toUInt32 31))))))) 2 (vp_nar .byte (Int8.toInt32 (Int32.toInt8 (UInt32.toInt32 ((Int32.toUInt32 x1) >>> ((Int32.toUInt32 8) &&& Int32.toUInt32 31)))))))))]) C hK hP hD hS 1 0 rfl rfl (vp_lit (by decide +kernel)) dX7_addFour_31 rfl rfl (fun H locs hP hD hS => ?_)
  refine lv_aload_n hx hb dX7_addFour_32 rfl (lv_at hl 1 rfl) ?_
  refine lv_dup hx hb dX7_addFour_33 rfl ?_
  refine q_get (v := .int 2) C inX7 hK hP 0 rfl rfl 1 (by decide) rfl L15 rfl dX7_addFour_34 ?_
  refine lv_iconst (v := 1) hx hb dX7_addFour_37 (by decide) ?_
  refine lv_iadd hx hb dX7_addFour_38 ?_
  refine q_top (y := 3) (by decide +kernel) ?_
  refine q_put (ty := .int) (w2 := [(q_tape, .inr (7, [.ref q_tape_bytes, .int 3])), (q_tape_bytes, .inl (cB, 2000, .inl (upd (upd (upd f_tape_bytes 0 (vp_nar .byte (Int8.toInt32 (Int32.toInt8 (UInt32.toInt32 ((Int32.toUInt32 x1) >>> ((Int32.toUInt32 24) &&& Int32.toUInt32 31))))))) 1 (vp_nar .byte (Int8.toInt32 (Int32.toInt8 (UInt32.toInt32 ((Int32.toUInt32 x1) >>> ((Int32.toUInt32 16) &&& Int32.toUInt32 31))))))) 2 (vp_nar .byte (Int8.toInt32 (Int32.toInt8 (UInt32.toInt32 ((Int32.toUInt32 x1) >>> ((Int32.toUInt32 8) &&& Int32.toUInt32 31)))))))))]) tyX7 tyX7_ok nmX7 C inX7 hK hP hD hS 0 rfl rfl 1 (by decide) rfl L15 rfl (by decide +kernel) (rfl) rfl (Nat.le_of_ble_eq_true rfl) dX7_addFour_39 rfl (fun H locs hP hD hS => ?_)
  refine lv_iinc (v := 0) (lv' := [(2, .int 0), (0, .ref q_tape), (1, .int x1)]) hx hb dX7_addFour_42 hl (k := 0) rfl (by decide +kernel) (by decide) rfl (fun ls hl => ?_)
  refine lv_goto (tgt := 3) hx hb dX7_addFour_45 (by decide) ?_
  refine lv_iload_n hx hb dX7_addFour_3 rfl (lv_at hl 0 rfl) ?_
  refine lv_if_lt (tgt := 48) hx hb dX7_addFour_4 (by decide) (fun h => absurd h (by decide +kernel)) (fun _ => ?_)
  refine lv_aload_n hx hb dX7_addFour_7 rfl (lv_at hl 1 rfl) ?_
  refine q_get (v := .int 3) C inX7 hK hP 0 rfl rfl 1 (by decide) rfl L15 rfl dX7_addFour_8 ?_
  refine lv_aload_n hx hb dX7_addFour_11 rfl (lv_at hl 1 rfl) ?_
  refine q_get (v := .ref q_tape_bytes) C inX7 hK hP 0 rfl rfl 0 (by decide) rfl L9 rfl dX7_addFour_12 ?_
  refine q_alen (v := 2000) C hK hP 1 0 rfl rfl dX7_addFour_15 rfl ?_
  refine lv_icmp_ge (tgt := 42) hx hb dX7_addFour_16 (by decide) (fun h => absurd h (by decide +kernel)) (fun _ => ?_)
  refine lv_aload_n hx hb dX7_addFour_19 rfl (lv_at hl 1 rfl) ?_
  refine q_get (v := .ref q_tape_bytes) C inX7 hK hP 0 rfl rfl 0 (by decide) rfl L9 rfl dX7_addFour_20 ?_
  refine lv_aload_n hx hb dX7_addFour_23 rfl (lv_at hl 1 rfl) ?_
  refine q_get (v := .int 3) C inX7 hK hP 0 rfl rfl 1 (by decide) rfl L15 rfl dX7_addFour_24 ?_
  refine lv_iload_n hx hb dX7_addFour_27 rfl (lv_at hl 2 rfl) ?_
  refine lv_iload_n hx hb dX7_addFour_28 rfl (lv_at hl 0 rfl) ?_
  refine lv_iushr (v := (UInt32.toInt32 ((Int32.toUInt32 x1) >>> ((Int32.toUInt32 0) &&& Int32.toUInt32 31)))) hx hb dX7_addFour_29 (rfl) ?_
  refine lv_i2b (v := (Int8.toInt32 (Int32.toInt8 (UInt32.toInt32 ((Int32.toUInt32 x1) >>> ((Int32.toUInt32 0) &&& Int32.toUInt32 31)))))) hx hb dX7_addFour_30 rfl ?_
  refine q_bast (f2 := (upd (upd (upd (upd f_tape_bytes 0 (vp_nar .byte (Int8.toInt32 (Int32.toInt8 (UInt32.toInt32 ((Int32.toUInt32 x1) >>> ((Int32.toUInt32 24) &&& Int32.toUInt32 31))))))) 1 (vp_nar .byte (Int8.toInt32 (Int32.toInt8 (UInt32.toInt32 ((Int32.toUInt32 x1) >>> ((Int32.toUInt32 16) &&& Int32.toUInt32 31))))))) 2 (vp_nar .byte (Int8.toInt32 (Int32.toInt8 (UInt32.toInt32 ((Int32.toUInt32 x1) >>> ((Int32.toUInt32 8) &&& Int32.toUInt32 31))))))) 3 (vp_nar .byte (Int8.toInt32 (Int32.toInt8 (UInt32.toInt32 ((Int32.toUInt32 x1) >>> ((Int32.toUInt32 0) &&& Int32.toUInt32 31)))))))) (w2 := [(q_tape, .inr (7, [.ref q_tape_bytes, .int 3])), (q_tape_bytes, .inl (cB, 2000, .inl (upd (upd (upd (upd f_tape_bytes 0 (vp_nar .byte (Int8.toInt32 (Int32.toInt8 (UInt32.toInt32 ((Int32.toUInt32 x1) >>> ((Int32.toUInt32 24) &&& Int32.toUInt32 31))))))) 1 (vp_nar .byte (Int8.toInt32 (Int32.toInt8 (UInt32.toInt32 ((Int32.toUInt32 x1) >>> ((Int32.toUInt32 16) &&& Int32.toUInt32 31))))))) 2 (vp_nar .byte (Int8.toInt32 (Int32.toInt8 (UInt32.toInt32 ((Int32.toUInt32 x1) >>> ((Int32.toUInt32 8) &&& Int32.toUInt32 31))))))) 3 (vp_nar .byte (Int8.toInt32 (Int32.toInt8 (UInt32.toInt32 ((Int32.toUInt32 x1) >>> ((Int32.toUInt32 0) &&& Int32.toUInt32 31)))))))))]) C hK hP hD hS 1 0 rfl rfl (vp_lit (by decide +kernel)) dX7_addFour_31 rfl rfl (fun H locs hP hD hS => ?_)
  refine lv_aload_n hx hb dX7_addFour_32 rfl (lv_at hl 1 rfl) ?_
  refine lv_dup hx hb dX7_addFour_33 rfl ?_
  refine q_get (v := .int 3) C inX7 hK hP 0 rfl rfl 1 (by decide) rfl L15 rfl dX7_addFour_34 ?_
  refine lv_iconst (v := 1) hx hb dX7_addFour_37 (by decide) ?_
  refine lv_iadd hx hb dX7_addFour_38 ?_
  refine q_top (y := 4) (by decide +kernel) ?_
  refine q_put (ty := .int) (w2 := [(q_tape, .inr (7, [.ref q_tape_bytes, .int 4])), (q_tape_bytes, .inl (cB, 2000, .inl (upd (upd (upd (upd f_tape_bytes 0 (vp_nar .byte (Int8.toInt32 (Int32.toInt8 (UInt32.toInt32 ((Int32.toUInt32 x1) >>> ((Int32.toUInt32 24) &&& Int32.toUInt32 31))))))) 1 (vp_nar .byte (Int8.toInt32 (Int32.toInt8 (UInt32.toInt32 ((Int32.toUInt32 x1) >>> ((Int32.toUInt32 16) &&& Int32.toUInt32 31))))))) 2 (vp_nar .byte (Int8.toInt32 (Int32.toInt8 (UInt32.toInt32 ((Int32.toUInt32 x1) >>> ((Int32.toUInt32 8) &&& Int32.toUInt32 31))))))) 3 (vp_nar .byte (Int8.toInt32 (Int32.toInt8 (UInt32.toInt32 ((Int32.toUInt32 x1) >>> ((Int32.toUInt32 0) &&& Int32.toUInt32 31)))))))))]) tyX7 tyX7_ok nmX7 C inX7 hK hP hD hS 0 rfl rfl 1 (by decide) rfl L15 rfl (by decide +kernel) (rfl) rfl (Nat.le_of_ble_eq_true rfl) dX7_addFour_39 rfl (fun H locs hP hD hS => ?_)
  refine lv_iinc (v := (-8)) (lv' := [(2, .int (-8)), (0, .ref q_tape), (1, .int x1)]) hx hb dX7_addFour_42 hl (k := 0) rfl (by decide +kernel) (by decide) rfl (fun ls hl => ?_)
  refine lv_goto (tgt := 3) hx hb dX7_addFour_45 (by decide) ?_
  refine lv_iload_n hx hb dX7_addFour_3 rfl (lv_at hl 0 rfl) ?_
  refine lv_if_lt (tgt := 48) hx hb dX7_addFour_4 (by decide) (fun _ => ?_) (fun h => absurd (by decide +kernel) h)
  exact q_vret C hr hlocks hK hP hD hS (Nat.le_of_ble_eq_true rfl) (Nat.le_of_ble_eq_true rfl) dX7_addFour_48 (rfl)

set_option maxHeartbeats 4000000 in
set_option maxRecDepth 100000 in
theorem k_addFour4 (l : Launch) (dC : Nat → ClassId) (dI : Nat → Nat → Nat) (cB cI cJ cZ cS : ClassId) (q_tape : Nat) (q_tape_bytes : Nat) (f_tape_bytes : Nat → Int32) (x1 : Int32) : CV l yX7_addFour wsX7_addFour ({ frames := 0, cells := 0, slots := 0, locals := 0 }) (dC, dI) (tysA cB cI cJ cZ cS) [(q_tape, .inr (7, [.ref q_tape_bytes, .int 4])), (q_tape_bytes, .inl (cB, 2000, .inl f_tape_bytes))] [.ref q_tape, .int x1] (fun w => w = [(q_tape, .inr (7, [.ref q_tape_bytes, .int 8])), (q_tape_bytes, .inl (cB, 2000, .inl (upd (upd (upd (upd f_tape_bytes 4 (vp_nar .byte (Int8.toInt32 (Int32.toInt8 (UInt32.toInt32 ((Int32.toUInt32 x1) >>> ((Int32.toUInt32 24) &&& Int32.toUInt32 31))))))) 5 (vp_nar .byte (Int8.toInt32 (Int32.toInt8 (UInt32.toInt32 ((Int32.toUInt32 x1) >>> ((Int32.toUInt32 16) &&& Int32.toUInt32 31))))))) 6 (vp_nar .byte (Int8.toInt32 (Int32.toInt8 (UInt32.toInt32 ((Int32.toUInt32 x1) >>> ((Int32.toUInt32 8) &&& Int32.toUInt32 31))))))) 7 (vp_nar .byte (Int8.toInt32 (Int32.toInt8 (UInt32.toInt32 ((Int32.toUInt32 x1) >>> ((Int32.toUInt32 0) &&& Int32.toUInt32 31)))))))))]) := by
  refine open_V (cc := cX7_addFour) (maxL := 3) (ret := none) (by decide) rfl (Nat.le_of_ble_eq_true rfl) ?_
  intro p e s m below meth c A ls E
  obtain ⟨C, hr, hlocks, hnm, hA, hP, hK, hD, hN, hl⟩ := E
  obtain ⟨hx, hb, hml, hown, hts⟩ := id C
  have hS : va_S A s.heap s.heap [] := va_S.rf
  have hl : lv_has ls 3 [(0, .ref q_tape), (1, .int x1)] := hl
  have inX7 : ∀ w ∈ u_ws RX7 TX7 2, w ∈ wsX7_addFour := fun _ h => List.mem_cons_of_mem _ (List.mem_append_right _ h)
  have L15 : Cond.fieldLink RX7 15 "GuessFerry$Tape" "length" "I" ∈ wsX7_addFour := by decide +kernel
  have L9 : Cond.fieldLink RX7 9 "GuessFerry$Tape" "bytes" "[B" ∈ wsX7_addFour := by decide +kernel
  refine lv_bipush (v := 24) hx hb dX7_addFour_0 (by decide) ?_
  refine lv_istore_n (lv' := [(2, .int 24), (0, .ref q_tape), (1, .int x1)]) hx hb dX7_addFour_2 rfl hl (by decide) rfl (fun ls hl => ?_)
  refine lv_iload_n hx hb dX7_addFour_3 rfl (lv_at hl 0 rfl) ?_
  refine lv_if_lt (tgt := 48) hx hb dX7_addFour_4 (by decide) (fun h => absurd h (by decide +kernel)) (fun _ => ?_)
  refine lv_aload_n hx hb dX7_addFour_7 rfl (lv_at hl 1 rfl) ?_
  refine q_get (v := .int 4) C inX7 hK hP 0 rfl rfl 1 (by decide) rfl L15 rfl dX7_addFour_8 ?_
  refine lv_aload_n hx hb dX7_addFour_11 rfl (lv_at hl 1 rfl) ?_
  refine q_get (v := .ref q_tape_bytes) C inX7 hK hP 0 rfl rfl 0 (by decide) rfl L9 rfl dX7_addFour_12 ?_
  refine q_alen (v := 2000) C hK hP 1 0 rfl rfl dX7_addFour_15 rfl ?_
  refine lv_icmp_ge (tgt := 42) hx hb dX7_addFour_16 (by decide) (fun h => absurd h (by decide +kernel)) (fun _ => ?_)
  refine lv_aload_n hx hb dX7_addFour_19 rfl (lv_at hl 1 rfl) ?_
  refine q_get (v := .ref q_tape_bytes) C inX7 hK hP 0 rfl rfl 0 (by decide) rfl L9 rfl dX7_addFour_20 ?_
  refine lv_aload_n hx hb dX7_addFour_23 rfl (lv_at hl 1 rfl) ?_
  refine q_get (v := .int 4) C inX7 hK hP 0 rfl rfl 1 (by decide) rfl L15 rfl dX7_addFour_24 ?_
  refine lv_iload_n hx hb dX7_addFour_27 rfl (lv_at hl 2 rfl) ?_
  refine lv_iload_n hx hb dX7_addFour_28 rfl (lv_at hl 0 rfl) ?_
  refine lv_iushr (v := (UInt32.toInt32 ((Int32.toUInt32 x1) >>> ((Int32.toUInt32 24) &&& Int32.toUInt32 31)))) hx hb dX7_addFour_29 (rfl) ?_
  refine lv_i2b (v := (Int8.toInt32 (Int32.toInt8 (UInt32.toInt32 ((Int32.toUInt32 x1) >>> ((Int32.toUInt32 24) &&& Int32.toUInt32 31)))))) hx hb dX7_addFour_30 rfl ?_
  refine q_bast (f2 := (upd f_tape_bytes 4 (vp_nar .byte (Int8.toInt32 (Int32.toInt8 (UInt32.toInt32 ((Int32.toUInt32 x1) >>> ((Int32.toUInt32 24) &&& Int32.toUInt32 31)))))))) (w2 := [(q_tape, .inr (7, [.ref q_tape_bytes, .int 4])), (q_tape_bytes, .inl (cB, 2000, .inl (upd f_tape_bytes 4 (vp_nar .byte (Int8.toInt32 (Int32.toInt8 (UInt32.toInt32 ((Int32.toUInt32 x1) >>> ((Int32.toUInt32 24) &&& Int32.toUInt32 31)))))))))]) C hK hP hD hS 1 0 rfl rfl (vp_lit (by decide +kernel)) dX7_addFour_31 rfl rfl (fun H locs hP hD hS => ?_)
  refine lv_aload_n hx hb dX7_addFour_32 rfl (lv_at hl 1 rfl) ?_
  refine lv_dup hx hb dX7_addFour_33 rfl ?_
  refine q_get (v := .int 4) C inX7 hK hP 0 rfl rfl 1 (by decide) rfl L15 rfl dX7_addFour_34 ?_
  refine lv_iconst (v := 1) hx hb dX7_addFour_37 (by decide) ?_
  refine lv_iadd hx hb dX7_addFour_38 ?_
  refine q_top (y := 5) (by decide +kernel) ?_
  refine q_put (ty := .int) (w2 := [(q_tape, .inr (7, [.ref q_tape_bytes, .int 5])), (q_tape_bytes, .inl (cB, 2000, .inl (upd f_tape_bytes 4 (vp_nar .byte (Int8.toInt32 (Int32.toInt8 (UInt32.toInt32 ((Int32.toUInt32 x1) >>> ((Int32.toUInt32 24) &&& Int32.toUInt32 31)))))))))]) tyX7 tyX7_ok nmX7 C inX7 hK hP hD hS 0 rfl rfl 1 (by decide) rfl L15 rfl (by decide +kernel) (rfl) rfl (Nat.le_of_ble_eq_true rfl) dX7_addFour_39 rfl (fun H locs hP hD hS => ?_)
  refine lv_iinc (v := 16) (lv' := [(2, .int 16), (0, .ref q_tape), (1, .int x1)]) hx hb dX7_addFour_42 hl (k := 0) rfl (by decide +kernel) (by decide) rfl (fun ls hl => ?_)
  refine lv_goto (tgt := 3) hx hb dX7_addFour_45 (by decide) ?_
  refine lv_iload_n hx hb dX7_addFour_3 rfl (lv_at hl 0 rfl) ?_
  refine lv_if_lt (tgt := 48) hx hb dX7_addFour_4 (by decide) (fun h => absurd h (by decide +kernel)) (fun _ => ?_)
  refine lv_aload_n hx hb dX7_addFour_7 rfl (lv_at hl 1 rfl) ?_
  refine q_get (v := .int 5) C inX7 hK hP 0 rfl rfl 1 (by decide) rfl L15 rfl dX7_addFour_8 ?_
  refine lv_aload_n hx hb dX7_addFour_11 rfl (lv_at hl 1 rfl) ?_
  refine q_get (v := .ref q_tape_bytes) C inX7 hK hP 0 rfl rfl 0 (by decide) rfl L9 rfl dX7_addFour_12 ?_
  refine q_alen (v := 2000) C hK hP 1 0 rfl rfl dX7_addFour_15 rfl ?_
  refine lv_icmp_ge (tgt := 42) hx hb dX7_addFour_16 (by decide) (fun h => absurd h (by decide +kernel)) (fun _ => ?_)
  refine lv_aload_n hx hb dX7_addFour_19 rfl (lv_at hl 1 rfl) ?_
  refine q_get (v := .ref q_tape_bytes) C inX7 hK hP 0 rfl rfl 0 (by decide) rfl L9 rfl dX7_addFour_20 ?_
  refine lv_aload_n hx hb dX7_addFour_23 rfl (lv_at hl 1 rfl) ?_
  refine q_get (v := .int 5) C inX7 hK hP 0 rfl rfl 1 (by decide) rfl L15 rfl dX7_addFour_24 ?_
  refine lv_iload_n hx hb dX7_addFour_27 rfl (lv_at hl 2 rfl) ?_
  refine lv_iload_n hx hb dX7_addFour_28 rfl (lv_at hl 0 rfl) ?_
  refine lv_iushr (v := (UInt32.toInt32 ((Int32.toUInt32 x1) >>> ((Int32.toUInt32 16) &&& Int32.toUInt32 31)))) hx hb dX7_addFour_29 (rfl) ?_
  refine lv_i2b (v := (Int8.toInt32 (Int32.toInt8 (UInt32.toInt32 ((Int32.toUInt32 x1) >>> ((Int32.toUInt32 16) &&& Int32.toUInt32 31)))))) hx hb dX7_addFour_30 rfl ?_
  refine q_bast (f2 := (upd (upd f_tape_bytes 4 (vp_nar .byte (Int8.toInt32 (Int32.toInt8 (UInt32.toInt32 ((Int32.toUInt32 x1) >>> ((Int32.toUInt32 24) &&& Int32.toUInt32 31))))))) 5 (vp_nar .byte (Int8.toInt32 (Int32.toInt8 (UInt32.toInt32 ((Int32.toUInt32 x1) >>> ((Int32.toUInt32 16) &&& Int32.toUInt32 31)))))))) (w2 := [(q_tape, .inr (7, [.ref q_tape_bytes, .int 5])), (q_tape_bytes, .inl (cB, 2000, .inl (upd (upd f_tape_bytes 4 (vp_nar .byte (Int8.toInt32 (Int32.toInt8 (UInt32.toInt32 ((Int32.toUInt32 x1) >>> ((Int32.toUInt32 24) &&& Int32.toUInt32 31))))))) 5 (vp_nar .byte (Int8.toInt32 (Int32.toInt8 (UInt32.toInt32 ((Int32.toUInt32 x1) >>> ((Int32.toUInt32 16) &&& Int32.toUInt32 31)))))))))]) C hK hP hD hS 1 0 rfl rfl (vp_lit (by decide +kernel)) dX7_addFour_31 rfl rfl (fun H locs hP hD hS => ?_)
  refine lv_aload_n hx hb dX7_addFour_32 rfl (lv_at hl 1 rfl) ?_
  refine lv_dup hx hb dX7_addFour_33 rfl ?_
  refine q_get (v := .int 5) C inX7 hK hP 0 rfl rfl 1 (by decide) rfl L15 rfl dX7_addFour_34 ?_
  refine lv_iconst (v := 1) hx hb dX7_addFour_37 (by decide) ?_
  refine lv_iadd hx hb dX7_addFour_38 ?_
  refine q_top (y := 6) (by decide +kernel) ?_
  refine q_put (ty := .int) (w2 := [(q_tape, .inr (7, [.ref q_tape_bytes, .int 6])), (q_tape_bytes, .inl (cB, 2000, .inl (upd (upd f_tape_bytes 4 (vp_nar .byte (Int8.toInt32 (Int32.toInt8 (UInt32.toInt32 ((Int32.toUInt32 x1) >>> ((Int32.toUInt32 24) &&& Int32.toUInt32 31))))))) 5 (vp_nar .byte (Int8.toInt32 (Int32.toInt8 (UInt32.toInt32 ((Int32.toUInt32 x1) >>> ((Int32.toUInt32 16) &&& Int32.toUInt32 31)))))))))]) tyX7 tyX7_ok nmX7 C inX7 hK hP hD hS 0 rfl rfl 1 (by decide) rfl L15 rfl (by decide +kernel) (rfl) rfl (Nat.le_of_ble_eq_true rfl) dX7_addFour_39 rfl (fun H locs hP hD hS => ?_)
  refine lv_iinc (v := 8) (lv' := [(2, .int 8), (0, .ref q_tape), (1, .int x1)]) hx hb dX7_addFour_42 hl (k := 0) rfl (by decide +kernel) (by decide) rfl (fun ls hl => ?_)
  refine lv_goto (tgt := 3) hx hb dX7_addFour_45 (by decide) ?_
  refine lv_iload_n hx hb dX7_addFour_3 rfl (lv_at hl 0 rfl) ?_
  refine lv_if_lt (tgt := 48) hx hb dX7_addFour_4 (by decide) (fun h => absurd h (by decide +kernel)) (fun _ => ?_)
  refine lv_aload_n hx hb dX7_addFour_7 rfl (lv_at hl 1 rfl) ?_
  refine q_get (v := .int 6) C inX7 hK hP 0 rfl rfl 1 (by decide) rfl L15 rfl dX7_addFour_8 ?_
  refine lv_aload_n hx hb dX7_addFour_11 rfl (lv_at hl 1 rfl) ?_
  refine q_get (v := .ref q_tape_bytes) C inX7 hK hP 0 rfl rfl 0 (by decide) rfl L9 rfl dX7_addFour_12 ?_
  refine q_alen (v := 2000) C hK hP 1 0 rfl rfl dX7_addFour_15 rfl ?_
  refine lv_icmp_ge (tgt := 42) hx hb dX7_addFour_16 (by decide) (fun h => absurd h (by decide +kernel)) (fun _ => ?_)
  refine lv_aload_n hx hb dX7_addFour_19 rfl (lv_at hl 1 rfl) ?_
  refine q_get (v := .ref q_tape_bytes) C inX7 hK hP 0 rfl rfl 0 (by decide) rfl L9 rfl dX7_addFour_20 ?_
  refine lv_aload_n hx hb dX7_addFour_23 rfl (lv_at hl 1 rfl) ?_
  refine q_get (v := .int 6) C inX7 hK hP 0 rfl rfl 1 (by decide) rfl L15 rfl dX7_addFour_24 ?_
  refine lv_iload_n hx hb dX7_addFour_27 rfl (lv_at hl 2 rfl) ?_
  refine lv_iload_n hx hb dX7_addFour_28 rfl (lv_at hl 0 rfl) ?_
  refine lv_iushr (v := (UInt32.toInt32 ((Int32.toUInt32 x1) >>> ((Int32.toUInt32 8) &&& Int32.toUInt32 31)))) hx hb dX7_addFour_29 (rfl) ?_
  refine lv_i2b (v := (Int8.toInt32 (Int32.toInt8 (UInt32.toInt32 ((Int32.toUInt32 x1) >>> ((Int32.toUInt32 8) &&& Int32.toUInt32 31)))))) hx hb dX7_addFour_30 rfl ?_
  refine q_bast (f2 := (upd (upd (upd f_tape_bytes 4 (vp_nar .byte (Int8.toInt32 (Int32.toInt8 (UInt32.toInt32 ((Int32.toUInt32 x1) >>> ((Int32.toUInt32 24) &&& Int32.toUInt32 31))))))) 5 (vp_nar .byte (Int8.toInt32 (Int32.toInt8 (UInt32.toInt32 ((Int32.toUInt32 x1) >>> ((Int32.toUInt32 16) &&& Int32.toUInt32 31))))))) 6 (vp_nar .byte (Int8.toInt32 (Int32.toInt8 (UInt32.toInt32 ((Int32.toUInt32 x1) >>> ((Int32.toUInt32 8) &&& Int32.toUInt32 31)))))))) (w2 := [(q_tape, .inr (7, [.ref q_tape_bytes, .int 6])), (q_tape_bytes, .inl (cB, 2000, .inl (upd (upd (upd f_tape_bytes 4 (vp_nar .byte (Int8.toInt32 (Int32.toInt8 (UInt32.toInt32 ((Int32.toUInt32 x1) >>> ((Int32.toUInt32 24) &&& Int32.toUInt32 31))))))) 5 (vp_nar .byte (Int8.toInt32 (Int32.toInt8 (UInt32.toInt32 ((Int32.toUInt32 x1) >>> ((Int32.toUInt32 16) &&& Int32.toUInt32 31))))))) 6 (vp_nar .byte (Int8.toInt32 (Int32.toInt8 (UInt32.toInt32 ((Int32.toUInt32 x1) >>> ((Int32.toUInt32 8) &&& Int32.toUInt32 31)))))))))]) C hK hP hD hS 1 0 rfl rfl (vp_lit (by decide +kernel)) dX7_addFour_31 rfl rfl (fun H locs hP hD hS => ?_)
  refine lv_aload_n hx hb dX7_addFour_32 rfl (lv_at hl 1 rfl) ?_
  refine lv_dup hx hb dX7_addFour_33 rfl ?_
  refine q_get (v := .int 6) C inX7 hK hP 0 rfl rfl 1 (by decide) rfl L15 rfl dX7_addFour_34 ?_
  refine lv_iconst (v := 1) hx hb dX7_addFour_37 (by decide) ?_
  refine lv_iadd hx hb dX7_addFour_38 ?_
  refine q_top (y := 7) (by decide +kernel) ?_
  refine q_put (ty := .int) (w2 := [(q_tape, .inr (7, [.ref q_tape_bytes, .int 7])), (q_tape_bytes, .inl (cB, 2000, .inl (upd (upd (upd f_tape_bytes 4 (vp_nar .byte (Int8.toInt32 (Int32.toInt8 (UInt32.toInt32 ((Int32.toUInt32 x1) >>> ((Int32.toUInt32 24) &&& Int32.toUInt32 31))))))) 5 (vp_nar .byte (Int8.toInt32 (Int32.toInt8 (UInt32.toInt32 ((Int32.toUInt32 x1) >>> ((Int32.toUInt32 16) &&& Int32.toUInt32 31))))))) 6 (vp_nar .byte (Int8.toInt32 (Int32.toInt8 (UInt32.toInt32 ((Int32.toUInt32 x1) >>> ((Int32.toUInt32 8) &&& Int32.toUInt32 31)))))))))]) tyX7 tyX7_ok nmX7 C inX7 hK hP hD hS 0 rfl rfl 1 (by decide) rfl L15 rfl (by decide +kernel) (rfl) rfl (Nat.le_of_ble_eq_true rfl) dX7_addFour_39 rfl (fun H locs hP hD hS => ?_)
  refine lv_iinc (v := 0) (lv' := [(2, .int 0), (0, .ref q_tape), (1, .int x1)]) hx hb dX7_addFour_42 hl (k := 0) rfl (by decide +kernel) (by decide) rfl (fun ls hl => ?_)
  refine lv_goto (tgt := 3) hx hb dX7_addFour_45 (by decide) ?_
  refine lv_iload_n hx hb dX7_addFour_3 rfl (lv_at hl 0 rfl) ?_
  refine lv_if_lt (tgt := 48) hx hb dX7_addFour_4 (by decide) (fun h => absurd h (by decide +kernel)) (fun _ => ?_)
  refine lv_aload_n hx hb dX7_addFour_7 rfl (lv_at hl 1 rfl) ?_
  refine q_get (v := .int 7) C inX7 hK hP 0 rfl rfl 1 (by decide) rfl L15 rfl dX7_addFour_8 ?_
  refine lv_aload_n hx hb dX7_addFour_11 rfl (lv_at hl 1 rfl) ?_
  refine q_get (v := .ref q_tape_bytes) C inX7 hK hP 0 rfl rfl 0 (by decide) rfl L9 rfl dX7_addFour_12 ?_
  refine q_alen (v := 2000) C hK hP 1 0 rfl rfl dX7_addFour_15 rfl ?_
  refine lv_icmp_ge (tgt := 42) hx hb dX7_addFour_16 (by decide) (fun h => absurd h (by decide +kernel)) (fun _ => ?_)
  refine lv_aload_n hx hb dX7_addFour_19 rfl (lv_at hl 1 rfl) ?_
  refine q_get (v := .ref q_tape_bytes) C inX7 hK hP 0 rfl rfl 0 (by decide) rfl L9 rfl dX7_addFour_20 ?_
  refine lv_aload_n hx hb dX7_addFour_23 rfl (lv_at hl 1 rfl) ?_
  refine q_get (v := .int 7) C inX7 hK hP 0 rfl rfl 1 (by decide) rfl L15 rfl dX7_addFour_24 ?_
  refine lv_iload_n hx hb dX7_addFour_27 rfl (lv_at hl 2 rfl) ?_
  refine lv_iload_n hx hb dX7_addFour_28 rfl (lv_at hl 0 rfl) ?_
  refine lv_iushr (v := (UInt32.toInt32 ((Int32.toUInt32 x1) >>> ((Int32.toUInt32 0) &&& Int32.toUInt32 31)))) hx hb dX7_addFour_29 (rfl) ?_
  refine lv_i2b (v := (Int8.toInt32 (Int32.toInt8 (UInt32.toInt32 ((Int32.toUInt32 x1) >>> ((Int32.toUInt32 0) &&& Int32.toUInt32 31)))))) hx hb dX7_addFour_30 rfl ?_
  refine q_bast (f2 := (upd (upd (upd (upd f_tape_bytes 4 (vp_nar .byte (Int8.toInt32 (Int32.toInt8 (UInt32.toInt32 ((Int32.toUInt32 x1) >>> ((Int32.toUInt32 24) &&& Int32.toUInt32 31))))))) 5 (vp_nar .byte (Int8.toInt32 (Int32.toInt8 (UInt32.toInt32 ((Int32.toUInt32 x1) >>> ((Int32.toUInt32 16) &&& Int32.toUInt32 31))))))) 6 (vp_nar .byte (Int8.toInt32 (Int32.toInt8 (UInt32.toInt32 ((Int32.toUInt32 x1) >>> ((Int32.toUInt32 8) &&& Int32.toUInt32 31))))))) 7 (vp_nar .byte (Int8.toInt32 (Int32.toInt8 (UInt32.toInt32 ((Int32.toUInt32 x1) >>> ((Int32.toUInt32 0) &&& Int32.toUInt32 31)))))))) (w2 := [(q_tape, .inr (7, [.ref q_tape_bytes, .int 7])), (q_tape_bytes, .inl (cB, 2000, .inl (upd (upd (upd (upd f_tape_bytes 4 (vp_nar .byte (Int8.toInt32 (Int32.toInt8 (UInt32.toInt32 ((Int32.toUInt32 x1) >>> ((Int32.toUInt32 24) &&& Int32.toUInt32 31))))))) 5 (vp_nar .byte (Int8.toInt32 (Int32.toInt8 (UInt32.toInt32 ((Int32.toUInt32 x1) >>> ((Int32.toUInt32 16) &&& Int32.toUInt32 31))))))) 6 (vp_nar .byte (Int8.toInt32 (Int32.toInt8 (UInt32.toInt32 ((Int32.toUInt32 x1) >>> ((Int32.toUInt32 8) &&& Int32.toUInt32 31))))))) 7 (vp_nar .byte (Int8.toInt32 (Int32.toInt8 (UInt32.toInt32 ((Int32.toUInt32 x1) >>> ((Int32.toUInt32 0) &&& Int32.toUInt32 31)))))))))]) C hK hP hD hS 1 0 rfl rfl (vp_lit (by decide +kernel)) dX7_addFour_31 rfl rfl (fun H locs hP hD hS => ?_)
  refine lv_aload_n hx hb dX7_addFour_32 rfl (lv_at hl 1 rfl) ?_
  refine lv_dup hx hb dX7_addFour_33 rfl ?_
  refine q_get (v := .int 7) C inX7 hK hP 0 rfl rfl 1 (by decide) rfl L15 rfl dX7_addFour_34 ?_
  refine lv_iconst (v := 1) hx hb dX7_addFour_37 (by decide) ?_
  refine lv_iadd hx hb dX7_addFour_38 ?_
  refine q_top (y := 8) (by decide +kernel) ?_
  refine q_put (ty := .int) (w2 := [(q_tape, .inr (7, [.ref q_tape_bytes, .int 8])), (q_tape_bytes, .inl (cB, 2000, .inl (upd (upd (upd (upd f_tape_bytes 4 (vp_nar .byte (Int8.toInt32 (Int32.toInt8 (UInt32.toInt32 ((Int32.toUInt32 x1) >>> ((Int32.toUInt32 24) &&& Int32.toUInt32 31))))))) 5 (vp_nar .byte (Int8.toInt32 (Int32.toInt8 (UInt32.toInt32 ((Int32.toUInt32 x1) >>> ((Int32.toUInt32 16) &&& Int32.toUInt32 31))))))) 6 (vp_nar .byte (Int8.toInt32 (Int32.toInt8 (UInt32.toInt32 ((Int32.toUInt32 x1) >>> ((Int32.toUInt32 8) &&& Int32.toUInt32 31))))))) 7 (vp_nar .byte (Int8.toInt32 (Int32.toInt8 (UInt32.toInt32 ((Int32.toUInt32 x1) >>> ((Int32.toUInt32 0) &&& Int32.toUInt32 31)))))))))]) tyX7 tyX7_ok nmX7 C inX7 hK hP hD hS 0 rfl rfl 1 (by decide) rfl L15 rfl (by decide +kernel) (rfl) rfl (Nat.le_of_ble_eq_true rfl) dX7_addFour_39 rfl (fun H locs hP hD hS => ?_)
  refine lv_iinc (v := (-8)) (lv' := [(2, .int (-8)), (0, .ref q_tape), (1, .int x1)]) hx hb dX7_addFour_42 hl (k := 0) rfl (by decide +kernel) (by decide) rfl (fun ls hl => ?_)
  refine lv_goto (tgt := 3) hx hb dX7_addFour_45 (by decide) ?_
  refine lv_iload_n hx hb dX7_addFour_3 rfl (lv_at hl 0 rfl) ?_
  refine lv_if_lt (tgt := 48) hx hb dX7_addFour_4 (by decide) (fun _ => ?_) (fun h => absurd (by decide +kernel) h)
  exact q_vret C hr hlocks hK hP hD hS (Nat.le_of_ble_eq_true rfl) (Nat.le_of_ble_eq_true rfl) dX7_addFour_48 (rfl)

set_option maxHeartbeats 4000000 in
set_option maxRecDepth 100000 in
theorem k_addFour8 (l : Launch) (dC : Nat → ClassId) (dI : Nat → Nat → Nat) (cB cI cJ cZ cS : ClassId) (q_tape : Nat) (q_tape_bytes : Nat) (f_tape_bytes : Nat → Int32) (x1 : Int32) : CV l yX7_addFour wsX7_addFour ({ frames := 0, cells := 0, slots := 0, locals := 0 }) (dC, dI) (tysA cB cI cJ cZ cS) [(q_tape, .inr (7, [.ref q_tape_bytes, .int 8])), (q_tape_bytes, .inl (cB, 2000, .inl f_tape_bytes))] [.ref q_tape, .int x1] (fun w => w = [(q_tape, .inr (7, [.ref q_tape_bytes, .int 12])), (q_tape_bytes, .inl (cB, 2000, .inl (upd (upd (upd (upd f_tape_bytes 8 (vp_nar .byte (Int8.toInt32 (Int32.toInt8 (UInt32.toInt32 ((Int32.toUInt32 x1) >>> ((Int32.toUInt32 24) &&& Int32.toUInt32 31))))))) 9 (vp_nar .byte (Int8.toInt32 (Int32.toInt8 (UInt32.toInt32 ((Int32.toUInt32 x1) >>> ((Int32.toUInt32 16) &&& Int32.toUInt32 31))))))) 10 (vp_nar .byte (Int8.toInt32 (Int32.toInt8 (UInt32.toInt32 ((Int32.toUInt32 x1) >>> ((Int32.toUInt32 8) &&& Int32.toUInt32 31))))))) 11 (vp_nar .byte (Int8.toInt32 (Int32.toInt8 (UInt32.toInt32 ((Int32.toUInt32 x1) >>> ((Int32.toUInt32 0) &&& Int32.toUInt32 31)))))))))]) := by
  refine open_V (cc := cX7_addFour) (maxL := 3) (ret := none) (by decide) rfl (Nat.le_of_ble_eq_true rfl) ?_
  intro p e s m below meth c A ls E
  obtain ⟨C, hr, hlocks, hnm, hA, hP, hK, hD, hN, hl⟩ := E
  obtain ⟨hx, hb, hml, hown, hts⟩ := id C
  have hS : va_S A s.heap s.heap [] := va_S.rf
  have hl : lv_has ls 3 [(0, .ref q_tape), (1, .int x1)] := hl
  have inX7 : ∀ w ∈ u_ws RX7 TX7 2, w ∈ wsX7_addFour := fun _ h => List.mem_cons_of_mem _ (List.mem_append_right _ h)
  have L15 : Cond.fieldLink RX7 15 "GuessFerry$Tape" "length" "I" ∈ wsX7_addFour := by decide +kernel
  have L9 : Cond.fieldLink RX7 9 "GuessFerry$Tape" "bytes" "[B" ∈ wsX7_addFour := by decide +kernel
  refine lv_bipush (v := 24) hx hb dX7_addFour_0 (by decide) ?_
  refine lv_istore_n (lv' := [(2, .int 24), (0, .ref q_tape), (1, .int x1)]) hx hb dX7_addFour_2 rfl hl (by decide) rfl (fun ls hl => ?_)
  refine lv_iload_n hx hb dX7_addFour_3 rfl (lv_at hl 0 rfl) ?_
  refine lv_if_lt (tgt := 48) hx hb dX7_addFour_4 (by decide) (fun h => absurd h (by decide +kernel)) (fun _ => ?_)
  refine lv_aload_n hx hb dX7_addFour_7 rfl (lv_at hl 1 rfl) ?_
  refine q_get (v := .int 8) C inX7 hK hP 0 rfl rfl 1 (by decide) rfl L15 rfl dX7_addFour_8 ?_
  refine lv_aload_n hx hb dX7_addFour_11 rfl (lv_at hl 1 rfl) ?_
  refine q_get (v := .ref q_tape_bytes) C inX7 hK hP 0 rfl rfl 0 (by decide) rfl L9 rfl dX7_addFour_12 ?_
  refine q_alen (v := 2000) C hK hP 1 0 rfl rfl dX7_addFour_15 rfl ?_
  refine lv_icmp_ge (tgt := 42) hx hb dX7_addFour_16 (by decide) (fun h => absurd h (by decide +kernel)) (fun _ => ?_)
  refine lv_aload_n hx hb dX7_addFour_19 rfl (lv_at hl 1 rfl) ?_
  refine q_get (v := .ref q_tape_bytes) C inX7 hK hP 0 rfl rfl 0 (by decide) rfl L9 rfl dX7_addFour_20 ?_
  refine lv_aload_n hx hb dX7_addFour_23 rfl (lv_at hl 1 rfl) ?_
  refine q_get (v := .int 8) C inX7 hK hP 0 rfl rfl 1 (by decide) rfl L15 rfl dX7_addFour_24 ?_
  refine lv_iload_n hx hb dX7_addFour_27 rfl (lv_at hl 2 rfl) ?_
  refine lv_iload_n hx hb dX7_addFour_28 rfl (lv_at hl 0 rfl) ?_
  refine lv_iushr (v := (UInt32.toInt32 ((Int32.toUInt32 x1) >>> ((Int32.toUInt32 24) &&& Int32.toUInt32 31)))) hx hb dX7_addFour_29 (rfl) ?_
  refine lv_i2b (v := (Int8.toInt32 (Int32.toInt8 (UInt32.toInt32 ((Int32.toUInt32 x1) >>> ((Int32.toUInt32 24) &&& Int32.toUInt32 31)))))) hx hb dX7_addFour_30 rfl ?_
  refine q_bast (f2 := (upd f_tape_bytes 8 (vp_nar .byte (Int8.toInt32 (Int32.toInt8 (UInt32.toInt32 ((Int32.toUInt32 x1) >>> ((Int32.toUInt32 24) &&& Int32.toUInt32 31)))))))) (w2 := [(q_tape, .inr (7, [.ref q_tape_bytes, .int 8])), (q_tape_bytes, .inl (cB, 2000, .inl (upd f_tape_bytes 8 (vp_nar .byte (Int8.toInt32 (Int32.toInt8 (UInt32.toInt32 ((Int32.toUInt32 x1) >>> ((Int32.toUInt32 24) &&& Int32.toUInt32 31)))))))))]) C hK hP hD hS 1 0 rfl rfl (vp_lit (by decide +kernel)) dX7_addFour_31 rfl rfl (fun H locs hP hD hS => ?_)
  refine lv_aload_n hx hb dX7_addFour_32 rfl (lv_at hl 1 rfl) ?_
  refine lv_dup hx hb dX7_addFour_33 rfl ?_
  refine q_get (v := .int 8) C inX7 hK hP 0 rfl rfl 1 (by decide) rfl L15 rfl dX7_addFour_34 ?_
  refine lv_iconst (v := 1) hx hb dX7_addFour_37 (by decide) ?_
  refine lv_iadd hx hb dX7_addFour_38 ?_
  refine q_top (y := 9) (by decide +kernel) ?_
  refine q_put (ty := .int) (w2 := [(q_tape, .inr (7, [.ref q_tape_bytes, .int 9])), (q_tape_bytes, .inl (cB, 2000, .inl (upd f_tape_bytes 8 (vp_nar .byte (Int8.toInt32 (Int32.toInt8 (UInt32.toInt32 ((Int32.toUInt32 x1) >>> ((Int32.toUInt32 24) &&& Int32.toUInt32 31)))))))))]) tyX7 tyX7_ok nmX7 C inX7 hK hP hD hS 0 rfl rfl 1 (by decide) rfl L15 rfl (by decide +kernel) (rfl) rfl (Nat.le_of_ble_eq_true rfl) dX7_addFour_39 rfl (fun H locs hP hD hS => ?_)
  refine lv_iinc (v := 16) (lv' := [(2, .int 16), (0, .ref q_tape), (1, .int x1)]) hx hb dX7_addFour_42 hl (k := 0) rfl (by decide +kernel) (by decide) rfl (fun ls hl => ?_)
  refine lv_goto (tgt := 3) hx hb dX7_addFour_45 (by decide) ?_
  refine lv_iload_n hx hb dX7_addFour_3 rfl (lv_at hl 0 rfl) ?_
  refine lv_if_lt (tgt := 48) hx hb dX7_addFour_4 (by decide) (fun h => absurd h (by decide +kernel)) (fun _ => ?_)
  refine lv_aload_n hx hb dX7_addFour_7 rfl (lv_at hl 1 rfl) ?_
  refine q_get (v := .int 9) C inX7 hK hP 0 rfl rfl 1 (by decide) rfl L15 rfl dX7_addFour_8 ?_
  refine lv_aload_n hx hb dX7_addFour_11 rfl (lv_at hl 1 rfl) ?_
  refine q_get (v := .ref q_tape_bytes) C inX7 hK hP 0 rfl rfl 0 (by decide) rfl L9 rfl dX7_addFour_12 ?_
  refine q_alen (v := 2000) C hK hP 1 0 rfl rfl dX7_addFour_15 rfl ?_
  refine lv_icmp_ge (tgt := 42) hx hb dX7_addFour_16 (by decide) (fun h => absurd h (by decide +kernel)) (fun _ => ?_)
  refine lv_aload_n hx hb dX7_addFour_19 rfl (lv_at hl 1 rfl) ?_
  refine q_get (v := .ref q_tape_bytes) C inX7 hK hP 0 rfl rfl 0 (by decide) rfl L9 rfl dX7_addFour_20 ?_
  refine lv_aload_n hx hb dX7_addFour_23 rfl (lv_at hl 1 rfl) ?_
  refine q_get (v := .int 9) C inX7 hK hP 0 rfl rfl 1 (by decide) rfl L15 rfl dX7_addFour_24 ?_
  refine lv_iload_n hx hb dX7_addFour_27 rfl (lv_at hl 2 rfl) ?_
  refine lv_iload_n hx hb dX7_addFour_28 rfl (lv_at hl 0 rfl) ?_
  refine lv_iushr (v := (UInt32.toInt32 ((Int32.toUInt32 x1) >>> ((Int32.toUInt32 16) &&& Int32.toUInt32 31)))) hx hb dX7_addFour_29 (rfl) ?_
  refine lv_i2b (v := (Int8.toInt32 (Int32.toInt8 (UInt32.toInt32 ((Int32.toUInt32 x1) >>> ((Int32.toUInt32 16) &&& Int32.toUInt32 31)))))) hx hb dX7_addFour_30 rfl ?_
  refine q_bast (f2 := (upd (upd f_tape_bytes 8 (vp_nar .byte (Int8.toInt32 (Int32.toInt8 (UInt32.toInt32 ((Int32.toUInt32 x1) >>> ((Int32.toUInt32 24) &&& Int32.toUInt32 31))))))) 9 (vp_nar .byte (Int8.toInt32 (Int32.toInt8 (UInt32.toInt32 ((Int32.toUInt32 x1) >>> ((Int32.toUInt32 16) &&& Int32.toUInt32 31)))))))) (w2 := [(q_tape, .inr (7, [.ref q_tape_bytes, .int 9])), (q_tape_bytes, .inl (cB, 2000, .inl (upd (upd f_tape_bytes 8 (vp_nar .byte (Int8.toInt32 (Int32.toInt8 (UInt32.toInt32 ((Int32.toUInt32 x1) >>> ((Int32.toUInt32 24) &&& Int32.toUInt32 31))))))) 9 (vp_nar .byte (Int8.toInt32 (Int32.toInt8 (UInt32.toInt32 ((Int32.toUInt32 x1) >>> ((Int32.toUInt32 16) &&& Int32.toUInt32 31)))))))))]) C hK hP hD hS 1 0 rfl rfl (vp_lit (by decide +kernel)) dX7_addFour_31 rfl rfl (fun H locs hP hD hS => ?_)
  refine lv_aload_n hx hb dX7_addFour_32 rfl (lv_at hl 1 rfl) ?_
  refine lv_dup hx hb dX7_addFour_33 rfl ?_
  refine q_get (v := .int 9) C inX7 hK hP 0 rfl rfl 1 (by decide) rfl L15 rfl dX7_addFour_34 ?_
  refine lv_iconst (v := 1) hx hb dX7_addFour_37 (by decide) ?_
  refine lv_iadd hx hb dX7_addFour_38 ?_
  refine q_top (y := 10) (by decide +kernel) ?_
  refine q_put (ty := .int) (w2 := [(q_tape, .inr (7, [.ref q_tape_bytes, .int 10])), (q_tape_bytes, .inl (cB, 2000, .inl (upd (upd f_tape_bytes 8 (vp_nar .byte (Int8.toInt32 (Int32.toInt8 (UInt32.toInt32 ((Int32.toUInt32 x1) >>> ((Int32.toUInt32 24) &&& Int32.toUInt32 31))))))) 9 (vp_nar .byte (Int8.toInt32 (Int32.toInt8 (UInt32.toInt32 ((Int32.toUInt32 x1) >>> ((Int32.toUInt32 16) &&& Int32.toUInt32 31)))))))))]) tyX7 tyX7_ok nmX7 C inX7 hK hP hD hS 0 rfl rfl 1 (by decide) rfl L15 rfl (by decide +kernel) (rfl) rfl (Nat.le_of_ble_eq_true rfl) dX7_addFour_39 rfl (fun H locs hP hD hS => ?_)
  refine lv_iinc (v := 8) (lv' := [(2, .int 8), (0, .ref q_tape), (1, .int x1)]) hx hb dX7_addFour_42 hl (k := 0) rfl (by decide +kernel) (by decide) rfl (fun ls hl => ?_)
  refine lv_goto (tgt := 3) hx hb dX7_addFour_45 (by decide) ?_
  refine lv_iload_n hx hb dX7_addFour_3 rfl (lv_at hl 0 rfl) ?_
  refine lv_if_lt (tgt := 48) hx hb dX7_addFour_4 (by decide) (fun h => absurd h (by decide +kernel)) (fun _ => ?_)
  refine lv_aload_n hx hb dX7_addFour_7 rfl (lv_at hl 1 rfl) ?_
  refine q_get (v := .int 10) C inX7 hK hP 0 rfl rfl 1 (by decide) rfl L15 rfl dX7_addFour_8 ?_
  refine lv_aload_n hx hb dX7_addFour_11 rfl (lv_at hl 1 rfl) ?_
  refine q_get (v := .ref q_tape_bytes) C inX7 hK hP 0 rfl rfl 0 (by decide) rfl L9 rfl dX7_addFour_12 ?_
  refine q_alen (v := 2000) C hK hP 1 0 rfl rfl dX7_addFour_15 rfl ?_
  refine lv_icmp_ge (tgt := 42) hx hb dX7_addFour_16 (by decide) (fun h => absurd h (by decide +kernel)) (fun _ => ?_)
  refine lv_aload_n hx hb dX7_addFour_19 rfl (lv_at hl 1 rfl) ?_
  refine q_get (v := .ref q_tape_bytes) C inX7 hK hP 0 rfl rfl 0 (by decide) rfl L9 rfl dX7_addFour_20 ?_
  refine lv_aload_n hx hb dX7_addFour_23 rfl (lv_at hl 1 rfl) ?_
  refine q_get (v := .int 10) C inX7 hK hP 0 rfl rfl 1 (by decide) rfl L15 rfl dX7_addFour_24 ?_
  refine lv_iload_n hx hb dX7_addFour_27 rfl (lv_at hl 2 rfl) ?_
  refine lv_iload_n hx hb dX7_addFour_28 rfl (lv_at hl 0 rfl) ?_
  refine lv_iushr (v := (UInt32.toInt32 ((Int32.toUInt32 x1) >>> ((Int32.toUInt32 8) &&& Int32.toUInt32 31)))) hx hb dX7_addFour_29 (rfl) ?_
  refine lv_i2b (v := (Int8.toInt32 (Int32.toInt8 (UInt32.toInt32 ((Int32.toUInt32 x1) >>> ((Int32.toUInt32 8) &&& Int32.toUInt32 31)))))) hx hb dX7_addFour_30 rfl ?_
  refine q_bast (f2 := (upd (upd (upd f_tape_bytes 8 (vp_nar .byte (Int8.toInt32 (Int32.toInt8 (UInt32.toInt32 ((Int32.toUInt32 x1) >>> ((Int32.toUInt32 24) &&& Int32.toUInt32 31))))))) 9 (vp_nar .byte (Int8.toInt32 (Int32.toInt8 (UInt32.toInt32 ((Int32.toUInt32 x1) >>> ((Int32.toUInt32 16) &&& Int32.toUInt32 31))))))) 10 (vp_nar .byte (Int8.toInt32 (Int32.toInt8 (UInt32.toInt32 ((Int32.toUInt32 x1) >>> ((Int32.toUInt32 8) &&& Int32.toUInt32 31)))))))) (w2 := [(q_tape, .inr (7, [.ref q_tape_bytes, .int 10])), (q_tape_bytes, .inl (cB, 2000, .inl (upd (upd (upd f_tape_bytes 8 (vp_nar .byte (Int8.toInt32 (Int32.toInt8 (UInt32.toInt32 ((Int32.toUInt32 x1) >>> ((Int32.toUInt32 24) &&& Int32.toUInt32 31))))))) 9 (vp_nar .byte (Int8.toInt32 (Int32.toInt8 (UInt32.toInt32 ((Int32.toUInt32 x1) >>> ((Int32.toUInt32 16) &&& Int32.toUInt32 31))))))) 10 (vp_nar .byte (Int8.toInt32 (Int32.toInt8 (UInt32.toInt32 ((Int32.toUInt32 x1) >>> ((Int32.toUInt32 8) &&& Int32.toUInt32 31)))))))))]) C hK hP hD hS 1 0 rfl rfl (vp_lit (by decide +kernel)) dX7_addFour_31 rfl rfl (fun H locs hP hD hS => ?_)
  refine lv_aload_n hx hb dX7_addFour_32 rfl (lv_at hl 1 rfl) ?_
  refine lv_dup hx hb dX7_addFour_33 rfl ?_
  refine q_get (v := .int 10) C inX7 hK hP 0 rfl rfl 1 (by decide) rfl L15 rfl dX7_addFour_34 ?_
  refine lv_iconst (v := 1) hx hb dX7_addFour_37 (by decide) ?_
  refine lv_iadd hx hb dX7_addFour_38 ?_
  refine q_top (y := 11) (by decide +kernel) ?_
  refine q_put (ty := .int) (w2 := [(q_tape, .inr (7, [.ref q_tape_bytes, .int 11])), (q_tape_bytes, .inl (cB, 2000, .inl (upd (upd (upd f_tape_bytes 8 (vp_nar .byte (Int8.toInt32 (Int32.toInt8 (UInt32.toInt32 ((Int32.toUInt32 x1) >>> ((Int32.toUInt32 24) &&& Int32.toUInt32 31))))))) 9 (vp_nar .byte (Int8.toInt32 (Int32.toInt8 (UInt32.toInt32 ((Int32.toUInt32 x1) >>> ((Int32.toUInt32 16) &&& Int32.toUInt32 31))))))) 10 (vp_nar .byte (Int8.toInt32 (Int32.toInt8 (UInt32.toInt32 ((Int32.toUInt32 x1) >>> ((Int32.toUInt32 8) &&& Int32.toUInt32 31)))))))))]) tyX7 tyX7_ok nmX7 C inX7 hK hP hD hS 0 rfl rfl 1 (by decide) rfl L15 rfl (by decide +kernel) (rfl) rfl (Nat.le_of_ble_eq_true rfl) dX7_addFour_39 rfl (fun H locs hP hD hS => ?_)
  refine lv_iinc (v := 0) (lv' := [(2, .int 0), (0, .ref q_tape), (1, .int x1)]) hx hb dX7_addFour_42 hl (k := 0) rfl (by decide +kernel) (by decide) rfl (fun ls hl => ?_)
  refine lv_goto (tgt := 3) hx hb dX7_addFour_45 (by decide) ?_
  refine lv_iload_n hx hb dX7_addFour_3 rfl (lv_at hl 0 rfl) ?_
  refine lv_if_lt (tgt := 48) hx hb dX7_addFour_4 (by decide) (fun h => absurd h (by decide +kernel)) (fun _ => ?_)
  refine lv_aload_n hx hb dX7_addFour_7 rfl (lv_at hl 1 rfl) ?_
  refine q_get (v := .int 11) C inX7 hK hP 0 rfl rfl 1 (by decide) rfl L15 rfl dX7_addFour_8 ?_
  refine lv_aload_n hx hb dX7_addFour_11 rfl (lv_at hl 1 rfl) ?_
  refine q_get (v := .ref q_tape_bytes) C inX7 hK hP 0 rfl rfl 0 (by decide) rfl L9 rfl dX7_addFour_12 ?_
  refine q_alen (v := 2000) C hK hP 1 0 rfl rfl dX7_addFour_15 rfl ?_
  refine lv_icmp_ge (tgt := 42) hx hb dX7_addFour_16 (by decide) (fun h => absurd h (by decide +kernel)) (fun _ => ?_)
  refine lv_aload_n hx hb dX7_addFour_19 rfl (lv_at hl 1 rfl) ?_
  refine q_get (v := .ref q_tape_bytes) C inX7 hK hP 0 rfl rfl 0 (by decide) rfl L9 rfl dX7_addFour_20 ?_
  refine lv_aload_n hx hb dX7_addFour_23 rfl (lv_at hl 1 rfl) ?_
  refine q_get (v := .int 11) C inX7 hK hP 0 rfl rfl 1 (by decide) rfl L15 rfl dX7_addFour_24 ?_
  refine lv_iload_n hx hb dX7_addFour_27 rfl (lv_at hl 2 rfl) ?_
  refine lv_iload_n hx hb dX7_addFour_28 rfl (lv_at hl 0 rfl) ?_
  refine lv_iushr (v := (UInt32.toInt32 ((Int32.toUInt32 x1) >>> ((Int32.toUInt32 0) &&& Int32.toUInt32 31)))) hx hb dX7_addFour_29 (rfl) ?_
  refine lv_i2b (v := (Int8.toInt32 (Int32.toInt8 (UInt32.toInt32 ((Int32.toUInt32 x1) >>> ((Int32.toUInt32 0) &&& Int32.toUInt32 31)))))) hx hb dX7_addFour_30 rfl ?_
  refine q_bast (f2 := (upd (upd (upd (upd f_tape_bytes 8 (vp_nar .byte (Int8.toInt32 (Int32.toInt8 (UInt32.toInt32 ((Int32.toUInt32 x1) >>> ((Int32.toUInt32 24) &&& Int32.toUInt32 31))))))) 9 (vp_nar .byte (Int8.toInt32 (Int32.toInt8 (UInt32.toInt32 ((Int32.toUInt32 x1) >>> ((Int32.toUInt32 16) &&& Int32.toUInt32 31))))))) 10 (vp_nar .byte (Int8.toInt32 (Int32.toInt8 (UInt32.toInt32 ((Int32.toUInt32 x1) >>> ((Int32.toUInt32 8) &&& Int32.toUInt32 31))))))) 11 (vp_nar .byte (Int8.toInt32 (Int32.toInt8 (UInt32.toInt32 ((Int32.toUInt32 x1) >>> ((Int32.toUInt32 0) &&& Int32.toUInt32 31)))))))) (w2 := [(q_tape, .inr (7, [.ref q_tape_bytes, .int 11])), (q_tape_bytes, .inl (cB, 2000, .inl (upd (upd (upd (upd f_tape_bytes 8 (vp_nar .byte (Int8.toInt32 (Int32.toInt8 (UInt32.toInt32 ((Int32.toUInt32 x1) >>> ((Int32.toUInt32 24) &&& Int32.toUInt32 31))))))) 9 (vp_nar .byte (Int8.toInt32 (Int32.toInt8 (UInt32.toInt32 ((Int32.toUInt32 x1) >>> ((Int32.toUInt32 16) &&& Int32.toUInt32 31))))))) 10 (vp_nar .byte (Int8.toInt32 (Int32.toInt8 (UInt32.toInt32 ((Int32.toUInt32 x1) >>> ((Int32.toUInt32 8) &&& Int32.toUInt32 31))))))) 11 (vp_nar .byte (Int8.toInt32 (Int32.toInt8 (UInt32.toInt32 ((Int32.toUInt32 x1) >>> ((Int32.toUInt32 0) &&& Int32.toUInt32 31)))))))))]) C hK hP hD hS 1 0 rfl rfl (vp_lit (by decide +kernel)) dX7_addFour_31 rfl rfl (fun H locs hP hD hS => ?_)
  refine lv_aload_n hx hb dX7_addFour_32 rfl (lv_at hl 1 rfl) ?_
  refine lv_dup hx hb dX7_addFour_33 rfl ?_
  refine q_get (v := .int 11) C inX7 hK hP 0 rfl rfl 1 (by decide) rfl L15 rfl dX7_addFour_34 ?_
  refine lv_iconst (v := 1) hx hb dX7_addFour_37 (by decide) ?_
  refine lv_iadd hx hb dX7_addFour_38 ?_
  refine q_top (y := 12) (by decide +kernel) ?_
  refine q_put (ty := .int) (w2 := [(q_tape, .inr (7, [.ref q_tape_bytes, .int 12])), (q_tape_bytes, .inl (cB, 2000, .inl (upd (upd (upd (upd f_tape_bytes 8 (vp_nar .byte (Int8.toInt32 (Int32.toInt8 (UInt32.toInt32 ((Int32.toUInt32 x1) >>> ((Int32.toUInt32 24) &&& Int32.toUInt32 31))))))) 9 (vp_nar .byte (Int8.toInt32 (Int32.toInt8 (UInt32.toInt32 ((Int32.toUInt32 x1) >>> ((Int32.toUInt32 16) &&& Int32.toUInt32 31))))))) 10 (vp_nar .byte (Int8.toInt32 (Int32.toInt8 (UInt32.toInt32 ((Int32.toUInt32 x1) >>> ((Int32.toUInt32 8) &&& Int32.toUInt32 31))))))) 11 (vp_nar .byte (Int8.toInt32 (Int32.toInt8 (UInt32.toInt32 ((Int32.toUInt32 x1) >>> ((Int32.toUInt32 0) &&& Int32.toUInt32 31)))))))))]) tyX7 tyX7_ok nmX7 C inX7 hK hP hD hS 0 rfl rfl 1 (by decide) rfl L15 rfl (by decide +kernel) (rfl) rfl (Nat.le_of_ble_eq_true rfl) dX7_addFour_39 rfl (fun H locs hP hD hS => ?_)
  refine lv_iinc (v := (-8)) (lv' := [(2, .int (-8)), (0, .ref q_tape), (1, .int x1)]) hx hb dX7_addFour_42 hl (k := 0) rfl (by decide +kernel) (by decide) rfl (fun ls hl => ?_)
  refine lv_goto (tgt := 3) hx hb dX7_addFour_45 (by decide) ?_
  refine lv_iload_n hx hb dX7_addFour_3 rfl (lv_at hl 0 rfl) ?_
  refine lv_if_lt (tgt := 48) hx hb dX7_addFour_4 (by decide) (fun _ => ?_) (fun h => absurd (by decide +kernel) h)
  exact q_vret C hr hlocks hK hP hD hS (Nat.le_of_ble_eq_true rfl) (Nat.le_of_ble_eq_true rfl) dX7_addFour_48 (rfl)
