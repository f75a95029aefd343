
set_option maxHeartbeats 4000000 in
set_option maxRecDepth 100000 in
theorem k_begin0 (l : Launch) (dC : Nat → ClassId) (dI : Nat → Nat → Nat) (cB cI cJ cZ cS : ClassId) (q_sound_laws : Nat) (q_sound_lawStarts : Nat) (q_sound_partCounts : Nat) (u_sound_laws_0 : Value) (u_sound_laws_1 : Value) (u_sound_laws_4 : Value) (u_sound_laws_5 : Value) (y_cur : Int32) (u_sound_laws_8 : Value) (f_sound_lawStarts : Nat → Int32) (f_sound_partCounts : Nat → Int32) : CV l yX1_begin wsX1_begin ({ frames := 0, cells := 0, slots := 0, locals := 0 }) (dC, dI) (tysA cB cI cJ cZ cS) [(q_sound_laws, .inr (1, [u_sound_laws_0, u_sound_laws_1, .ref q_sound_lawStarts, .ref q_sound_partCounts, u_sound_laws_4, u_sound_laws_5, .int 0, .int y_cur, u_sound_laws_8])), (q_sound_lawStarts, .inl (cI, 4, .inl f_sound_lawStarts)), (q_sound_partCounts, .inl (cI, 4, .inl f_sound_partCounts))] [.ref q_sound_laws, .int 0] (fun w => w = [(q_sound_laws, .inr (1, [u_sound_laws_0, u_sound_laws_1, .ref q_sound_lawStarts, .ref q_sound_partCounts, u_sound_laws_4, u_sound_laws_5, .int 0, .int 0, u_sound_laws_8])), (q_sound_lawStarts, .inl (cI, 4, .inl (upd f_sound_lawStarts 0 0))), (q_sound_partCounts, .inl (cI, 4, .inl (upd f_sound_partCounts 0 0)))]) := by
  refine open_V (cc := cX1_begin) (maxL := 2) (ret := none) (by decide) rfl (Nat.le_of_ble_eq_true rfl) ?_
  intro p e s m below meth c A ls E
  obtain ⟨C, hr, hlocks, hnm, hA, hP, hK, hD, hN, hl⟩ := E
  obtain ⟨hx, hb, hml, hown, hts⟩ := id C
  have hS : va_S A s.heap s.heap [] := va_S.rf
  have hl : lv_has ls 2 [(0, .ref q_sound_laws), (1, .int 0)] := hl
  have inX1 : ∀ w ∈ u_ws RX1 TX1 9, w ∈ wsX1_begin := fun _ h => List.mem_cons_of_mem _ (List.mem_append_right _ h)
  have L22 : Cond.fieldLink RX1 22 "GuessFerry$Laws" "lawStarts" "[I" ∈ wsX1_begin := by decide +kernel
  have L25 : Cond.fieldLink RX1 25 "GuessFerry$Laws" "partCounts" "[I" ∈ wsX1_begin := by decide +kernel
  have L34 : Cond.fieldLink RX1 34 "GuessFerry$Laws" "length" "I" ∈ wsX1_begin := by decide +kernel
  have L57 : Cond.fieldLink RX1 57 "GuessFerry$Laws" "current" "I" ∈ wsX1_begin := by decide +kernel
  refine lv_aload_n hx hb dX1_begin_0 rfl (lv_at hl 0 rfl) ?_
  refine lv_iload_n hx hb dX1_begin_1 rfl (lv_at hl 1 rfl) ?_
  refine q_put (ty := .int) (w2 := [(q_sound_laws, .inr (1, [u_sound_laws_0, u_sound_laws_1, .ref q_sound_lawStarts, .ref q_sound_partCounts, u_sound_laws_4, u_sound_laws_5, .int 0, .int 0, u_sound_laws_8])), (q_sound_lawStarts, .inl (cI, 4, .inl f_sound_lawStarts)), (q_sound_partCounts, .inl (cI, 4, .inl f_sound_partCounts))]) tyX1 tyX1_ok nmX1 C inX1 hK hP hD hS 0 rfl rfl 7 (by decide) rfl L57 rfl (by decide +kernel) (rfl) rfl (Nat.le_of_ble_eq_true rfl) dX1_begin_2 rfl (fun H locs hP hD hS => ?_)
  refine lv_aload_n hx hb dX1_begin_5 rfl (lv_at hl 0 rfl) ?_
  refine q_get (v := .ref q_sound_lawStarts) C inX1 hK hP 0 rfl rfl 2 (by decide) rfl L22 rfl dX1_begin_6 ?_
  refine lv_iload_n hx hb dX1_begin_9 rfl (lv_at hl 1 rfl) ?_
  refine lv_aload_n hx hb dX1_begin_10 rfl (lv_at hl 0 rfl) ?_
  refine q_get (v := .int 0) C inX1 hK hP 0 rfl rfl 6 (by decide) rfl L34 rfl dX1_begin_11 ?_
  refine q_iast (f2 := (upd f_sound_lawStarts 0 0)) (w2 := [(q_sound_laws, .inr (1, [u_sound_laws_0, u_sound_laws_1, .ref q_sound_lawStarts, .ref q_sound_partCounts, u_sound_laws_4, u_sound_laws_5, .int 0, .int 0, u_sound_laws_8])), (q_sound_lawStarts, .inl (cI, 4, .inl (upd f_sound_lawStarts 0 0))), (q_sound_partCounts, .inl (cI, 4, .inl f_sound_partCounts))]) C hK hP hD hS 1 1 rfl rfl (vp_lit (by decide +kernel)) dX1_begin_14 rfl rfl (fun H locs hP hD hS => ?_)
  refine lv_aload_n hx hb dX1_begin_15 rfl (lv_at hl 0 rfl) ?_
  refine q_get (v := .ref q_sound_partCounts) C inX1 hK hP 0 rfl rfl 3 (by decide) rfl L25 rfl dX1_begin_16 ?_
  refine lv_iload_n hx hb dX1_begin_19 rfl (lv_at hl 1 rfl) ?_
  refine lv_iconst (v := 0) hx hb dX1_begin_20 (by decide) ?_
  refine q_iast (f2 := (upd f_sound_partCounts 0 0)) (w2 := [(q_sound_laws, .inr (1, [u_sound_laws_0, u_sound_laws_1, .ref q_sound_lawStarts, .ref q_sound_partCounts, u_sound_laws_4, u_sound_laws_5, .int 0, .int 0, u_sound_laws_8])), (q_sound_lawStarts, .inl (cI, 4, .inl (upd f_sound_lawStarts 0 0))), (q_sound_partCounts, .inl (cI, 4, .inl (upd f_sound_partCounts 0 0)))]) C hK hP hD hS 2 1 rfl rfl (vp_lit (by decide +kernel)) dX1_begin_21 rfl rfl (fun H locs hP hD hS => ?_)
  exact q_vret C hr hlocks hK hP hD hS (Nat.le_of_ble_eq_true rfl) (Nat.le_of_ble_eq_true rfl) dX1_begin_22 (rfl)

set_option maxHeartbeats 4000000 in
set_option maxRecDepth 100000 in
theorem k_Lput0 (l : Launch) (dC : Nat → ClassId) (dI : Nat → Nat → Nat) (cB cI cJ cZ cS : ClassId) (q_sound_laws : Nat) (q_sound_steps : Nat) (u_sound_laws_1 : Value) (u_sound_laws_2 : Value) (u_sound_laws_3 : Value) (u_sound_laws_4 : Value) (u_sound_laws_5 : Value) (u_sound_laws_7 : Value) (u_sound_laws_8 : Value) (f_sound_steps : Nat → Int32) (x1 : Int32) : CV l yX1_put wsX1_put ({ frames := 0, cells := 0, slots := 0, locals := 0 }) (dC, dI) (tysA cB cI cJ cZ cS) [(q_sound_laws, .inr (1, [.ref q_sound_steps, u_sound_laws_1, u_sound_laws_2, u_sound_laws_3, u_sound_laws_4, u_sound_laws_5, .int 0, u_sound_laws_7, u_sound_laws_8])), (q_sound_steps, .inl (cI, 404, .inl f_sound_steps))] [.ref q_sound_laws, .int x1] (fun w => w = [(q_sound_laws, .inr (1, [.ref q_sound_steps, u_sound_laws_1, u_sound_laws_2, u_sound_laws_3, u_sound_laws_4, u_sound_laws_5, .int 1, u_sound_laws_7, u_sound_laws_8])), (q_sound_steps, .inl (cI, 404, .inl (upd f_sound_steps 0 x1)))]) := by
  refine open_V (cc := cX1_put) (maxL := 2) (ret := none) (by decide) rfl (Nat.le_of_ble_eq_true rfl) ?_
  intro p e s m below meth c A ls E
  obtain ⟨C, hr, hlocks, hnm, hA, hP, hK, hD, hN, hl⟩ := E
  obtain ⟨hx, hb, hml, hown, hts⟩ := id C
  have hS : va_S A s.heap s.heap [] := va_S.rf
  have hl : lv_has ls 2 [(0, .ref q_sound_laws), (1, .int x1)] := hl
  have inX1 : ∀ w ∈ u_ws RX1 TX1 9, w ∈ wsX1_put := fun _ h => List.mem_cons_of_mem _ (List.mem_append_right _ h)
  have L15 : Cond.fieldLink RX1 15 "GuessFerry$Laws" "steps" "[I" ∈ wsX1_put := by decide +kernel
  have L34 : Cond.fieldLink RX1 34 "GuessFerry$Laws" "length" "I" ∈ wsX1_put := by decide +kernel
  refine lv_aload_n hx hb dX1_put_0 rfl (lv_at hl 0 rfl) ?_
  refine q_get (v := .int 0) C inX1 hK hP 0 rfl rfl 6 (by decide) rfl L34 rfl dX1_put_1 ?_
  refine lv_sipush (v := 404) hx hb dX1_put_4 (by decide) ?_
  refine lv_icmp_ge (tgt := 30) hx hb dX1_put_7 (by decide) (fun h => absurd h (by decide +kernel)) (fun _ => ?_)
  refine lv_aload_n hx hb dX1_put_10 rfl (lv_at hl 0 rfl) ?_
  refine q_get (v := .ref q_sound_steps) C inX1 hK hP 0 rfl rfl 0 (by decide) rfl L15 rfl dX1_put_11 ?_
  refine lv_aload_n hx hb dX1_put_14 rfl (lv_at hl 0 rfl) ?_
  refine q_get (v := .int 0) C inX1 hK hP 0 rfl rfl 6 (by decide) rfl L34 rfl dX1_put_15 ?_
  refine lv_iload_n hx hb dX1_put_18 rfl (lv_at hl 1 rfl) ?_
  refine q_iast (f2 := (upd f_sound_steps 0 x1)) (w2 := [(q_sound_laws, .inr (1, [.ref q_sound_steps, u_sound_laws_1, u_sound_laws_2, u_sound_laws_3, u_sound_laws_4, u_sound_laws_5, .int 0, u_sound_laws_7, u_sound_laws_8])), (q_sound_steps, .inl (cI, 404, .inl (upd f_sound_steps 0 x1)))]) C hK hP hD hS 1 1 rfl rfl (vp_lit (by decide +kernel)) dX1_put_19 rfl rfl (fun H locs hP hD hS => ?_)
  refine lv_aload_n hx hb dX1_put_20 rfl (lv_at hl 0 rfl) ?_
  refine lv_dup hx hb dX1_put_21 rfl ?_
  refine q_get (v := .int 0) C inX1 hK hP 0 rfl rfl 6 (by decide) rfl L34 rfl dX1_put_22 ?_
  refine lv_iconst (v := 1) hx hb dX1_put_25 (by decide) ?_
  refine lv_iadd hx hb dX1_put_26 ?_
  refine q_top (y := 1) (by decide +kernel) ?_
  refine q_put (ty := .int) (w2 := [(q_sound_laws, .inr (1, [.ref q_sound_steps, u_sound_laws_1, u_sound_laws_2, u_sound_laws_3, u_sound_laws_4, u_sound_laws_5, .int 1, u_sound_laws_7, u_sound_laws_8])), (q_sound_steps, .inl (cI, 404, .inl (upd f_sound_steps 0 x1)))]) tyX1 tyX1_ok nmX1 C inX1 hK hP hD hS 0 rfl rfl 6 (by decide) rfl L34 rfl (by decide +kernel) (rfl) rfl (Nat.le_of_ble_eq_true rfl) dX1_put_27 rfl (fun H locs hP hD hS => ?_)
  exact q_vret C hr hlocks hK hP hD hS (Nat.le_of_ble_eq_true rfl) (Nat.le_of_ble_eq_true rfl) dX1_put_30 (rfl)

set_option maxHeartbeats 4000000 in
set_option maxRecDepth 100000 in
theorem k_putVar (l : Launch) (dC : Nat → ClassId) (dI : Nat → Nat → Nat) (cB cI cJ cZ cS : ClassId) (q_sound_laws : Nat) (q_sound_steps : Nat) (u_sound_laws_1 : Value) (u_sound_laws_2 : Value) (u_sound_laws_3 : Value) (u_sound_laws_4 : Value) (u_sound_laws_5 : Value) (u_sound_laws_7 : Value) (u_sound_laws_8 : Value) (f_sound_steps : Nat → Int32) : CV l yX1_putVar wsX1_putVar ({ frames := 1, cells := 0, slots := 0, locals := 21 }) (dC, dI) (tysA cB cI cJ cZ cS) [(q_sound_laws, .inr (1, [.ref q_sound_steps, u_sound_laws_1, u_sound_laws_2, u_sound_laws_3, u_sound_laws_4, u_sound_laws_5, .int 0, u_sound_laws_7, u_sound_laws_8])), (q_sound_steps, .inl (cI, 404, .inl f_sound_steps))] [.ref q_sound_laws, .int 2] (fun w => w = [(q_sound_laws, .inr (1, [.ref q_sound_steps, u_sound_laws_1, u_sound_laws_2, u_sound_laws_3, u_sound_laws_4, u_sound_laws_5, .int 1, u_sound_laws_7, u_sound_laws_8])), (q_sound_steps, .inl (cI, 404, .inl (upd f_sound_steps 0 (-3))))]) := by
  refine open_V (cc := cX1_putVar) (maxL := 2) (ret := none) (by decide) rfl (Nat.le_of_ble_eq_true rfl) ?_
  intro p e s m below meth c A ls E
  obtain ⟨C, hr, hlocks, hnm, hA, hP, hK, hD, hN, hl⟩ := E
  obtain ⟨hx, hb, hml, hown, hts⟩ := id C
  have hS : va_S A s.heap s.heap [] := va_S.rf
  have hl : lv_has ls 2 [(0, .ref q_sound_laws), (1, .int 2)] := hl
  refine lv_aload_n hx hb dX1_putVar_0 rfl (lv_at hl 0 rfl) ?_
  refine lv_iconst (v := (-1)) hx hb dX1_putVar_1 (by decide) ?_
  refine lv_iload_n hx hb dX1_putVar_2 rfl (lv_at hl 1 rfl) ?_
  refine lv_isub hx hb dX1_putVar_3 ?_
  refine q_top (y := (-3)) (by decide +kernel) ?_
  refine q_gov (wr := []) (va_runV (As := [.int (-3)]) (rest := []) C (k_Lput0 l dC dI cB cI cJ cZ cS (q_sound_laws) (q_sound_steps) (u_sound_laws_1) (u_sound_laws_2) (u_sound_laws_3) (u_sound_laws_4) (u_sound_laws_5) (u_sound_laws_7) (u_sound_laws_8) (f_sound_steps) (-3) _) (cwV 1 hts gX1_putVar_X1_put rfl rfl rfl (by decide +kernel) ⟨Nat.le_of_ble_eq_true rfl, Nat.le_of_ble_eq_true rfl⟩) (q_preV hK hP (ci := 1) (q0 := 0) rfl rfl rfl (q_pre hN hK hP hD [0, 1] rfl (by decide))) rfl rfl hl.1 rfl (lv_room (Nat.le_of_ble_eq_true rfl)) dX1_putVar_4 ⟨Nat.le_of_ble_eq_true rfl, Nat.le_of_ble_eq_true rfl⟩) hP hD hS hA [0, 1] [] rfl rfl (by decide) (by decide) (fun w1 H locs hw hP hD hS => ?_)
  obtain rfl := hw
  have hP : va_P (dC, dI) vwCl [(q_sound_laws, .inr (1, [.ref q_sound_steps, u_sound_laws_1, u_sound_laws_2, u_sound_laws_3, u_sound_laws_4, u_sound_laws_5, .int 1, u_sound_laws_7, u_sound_laws_8])), (q_sound_steps, .inl (cI, 404, .inl (upd f_sound_steps 0 (-3))))] H := hP.sub [0, 1] rfl
  have hD : va_D A [(q_sound_laws, .inr (1, [.ref q_sound_steps, u_sound_laws_1, u_sound_laws_2, u_sound_laws_3, u_sound_laws_4, u_sound_laws_5, .int 1, u_sound_laws_7, u_sound_laws_8])), (q_sound_steps, .inl (cI, 404, .inl (upd f_sound_steps 0 (-3))))] := hD.sub [0, 1] (by decide) rfl
  exact q_vret C hr hlocks hK hP hD hS (Nat.le_of_ble_eq_true rfl) (Nat.le_of_ble_eq_true rfl) dX1_putVar_7 (rfl)

set_option maxHeartbeats 4000000 in
set_option maxRecDepth 100000 in
theorem k_endPart0 (l : Launch) (dC : Nat → ClassId) (dI : Nat → Nat → Nat) (cB cI cJ cZ cS : ClassId) (q_sound_laws : Nat) (q_sound_partEnds : Nat) (q_sound_partCounts : Nat) (u_sound_laws_0 : Value) (u_sound_laws_2 : Value) (u_sound_laws_4 : Value) (u_sound_laws_5 : Value) (u_sound_laws_8 : Value) (f_sound_partCounts : Nat → Int32) (f_sound_partEnds : Nat → Int32) (h_sound_partCounts_0 : f_sound_partCounts 0 = 0) : CV l yX1_endPart wsX1_endPart ({ frames := 0, cells := 0, slots := 0, locals := 0 }) (dC, dI) (tysA cB cI cJ cZ cS) [(q_sound_laws, .inr (1, [u_sound_laws_0, .ref q_sound_partEnds, u_sound_laws_2, .ref q_sound_partCounts, u_sound_laws_4, u_sound_laws_5, .int 1, .int 0, u_sound_laws_8])), (q_sound_partCounts, .inl (cI, 4, .inl f_sound_partCounts)), (q_sound_partEnds, .inl (cI, 52, .inl f_sound_partEnds))] [.ref q_sound_laws] (fun w => w = [(q_sound_laws, .inr (1, [u_sound_laws_0, .ref q_sound_partEnds, u_sound_laws_2, .ref q_sound_partCounts, u_sound_laws_4, u_sound_laws_5, .int 1, .int 0, u_sound_laws_8])), (q_sound_partCounts, .inl (cI, 4, .inl (upd f_sound_partCounts 0 1))), (q_sound_partEnds, .inl (cI, 52, .inl (upd f_sound_partEnds 0 1)))]) := by
  refine open_V (cc := cX1_endPart) (maxL := 2) (ret := none) (by decide) rfl (Nat.le_of_ble_eq_true rfl) ?_
  intro p e s m below meth c A ls E
  obtain ⟨C, hr, hlocks, hnm, hA, hP, hK, hD, hN, hl⟩ := E
  obtain ⟨hx, hb, hml, hown, hts⟩ := id C
  have hS : va_S A s.heap s.heap [] := va_S.rf
  have hl : lv_has ls 2 [(0, .ref q_sound_laws)] := hl
  have inX1 : ∀ w ∈ u_ws RX1 TX1 9, w ∈ wsX1_endPart := fun _ h => List.mem_cons_of_mem _ (List.mem_append_right _ h)
  have L19 : Cond.fieldLink RX1 19 "GuessFerry$Laws" "partEnds" "[I" ∈ wsX1_endPart := by decide +kernel
  have L25 : Cond.fieldLink RX1 25 "GuessFerry$Laws" "partCounts" "[I" ∈ wsX1_endPart := by decide +kernel
  have L34 : Cond.fieldLink RX1 34 "GuessFerry$Laws" "length" "I" ∈ wsX1_endPart := by decide +kernel
  have L57 : Cond.fieldLink RX1 57 "GuessFerry$Laws" "current" "I" ∈ wsX1_endPart := by decide +kernel
  refine lv_aload_n hx hb dX1_endPart_0 rfl (lv_at hl 0 rfl) ?_
  refine q_get (v := .ref q_sound_partCounts) C inX1 hK hP 0 rfl rfl 3 (by decide) rfl L25 rfl dX1_endPart_1 ?_
  refine lv_aload_n hx hb dX1_endPart_4 rfl (lv_at hl 0 rfl) ?_
  refine q_get (v := .int 0) C inX1 hK hP 0 rfl rfl 7 (by decide) rfl L57 rfl dX1_endPart_5 ?_
  refine q_iald (x := 0) C hK hP 1 1 rfl rfl (vp_lit (by decide +kernel)) dX1_endPart_8 (h_sound_partCounts_0) ?_
  refine lv_istore_n (lv' := [(1, .int 0), (0, .ref q_sound_laws)]) hx hb dX1_endPart_9 rfl hl (by decide) rfl (fun ls hl => ?_)
  refine lv_iload_n hx hb dX1_endPart_10 rfl (lv_at hl 0 rfl) ?_
  refine lv_bipush (v := 13) hx hb dX1_endPart_11 (by decide) ?_
  refine lv_icmp_ge (tgt := 46) hx hb dX1_endPart_13 (by decide) (fun h => absurd h (by decide +kernel)) (fun _ => ?_)
  refine lv_aload_n hx hb dX1_endPart_16 rfl (lv_at hl 1 rfl) ?_
  refine q_get (v := .ref q_sound_partEnds) C inX1 hK hP 0 rfl rfl 1 (by decide) rfl L19 rfl dX1_endPart_17 ?_
  refine lv_aload_n hx hb dX1_endPart_20 rfl (lv_at hl 1 rfl) ?_
  refine q_get (v := .int 0) C inX1 hK hP 0 rfl rfl 7 (by decide) rfl L57 rfl dX1_endPart_21 ?_
  refine lv_bipush (v := 13) hx hb dX1_endPart_24 (by decide) ?_
  refine lv_imul hx hb dX1_endPart_26 ?_
  refine q_top (y := 0) (by decide +kernel) ?_
  refine lv_iload_n hx hb dX1_endPart_27 rfl (lv_at hl 0 rfl) ?_
  refine lv_iadd hx hb dX1_endPart_28 ?_
  refine q_top (y := 0) (by decide +kernel) ?_
  refine lv_aload_n hx hb dX1_endPart_29 rfl (lv_at hl 1 rfl) ?_
  refine q_get (v := .int 1) C inX1 hK hP 0 rfl rfl 6 (by decide) rfl L34 rfl dX1_endPart_30 ?_
  refine q_iast (f2 := (upd f_sound_partEnds 0 1)) (w2 := [(q_sound_laws, .inr (1, [u_sound_laws_0, .ref q_sound_partEnds, u_sound_laws_2, .ref q_sound_partCounts, u_sound_laws_4, u_sound_laws_5, .int 1, .int 0, u_sound_laws_8])), (q_sound_partCounts, .inl (cI, 4, .inl f_sound_partCounts)), (q_sound_partEnds, .inl (cI, 52, .inl (upd f_sound_partEnds 0 1)))]) C hK hP hD hS 2 1 rfl rfl (vp_lit (by decide +kernel)) dX1_endPart_33 rfl rfl (fun H locs hP hD hS => ?_)
  refine lv_aload_n hx hb dX1_endPart_34 rfl (lv_at hl 1 rfl) ?_
  refine q_get (v := .ref q_sound_partCounts) C inX1 hK hP 0 rfl rfl 3 (by decide) rfl L25 rfl dX1_endPart_35 ?_
  refine lv_aload_n hx hb dX1_endPart_38 rfl (lv_at hl 1 rfl) ?_
  refine q_get (v := .int 0) C inX1 hK hP 0 rfl rfl 7 (by decide) rfl L57 rfl dX1_endPart_39 ?_
  refine lv_iload_n hx hb dX1_endPart_42 rfl (lv_at hl 0 rfl) ?_
  refine lv_iconst (v := 1) hx hb dX1_endPart_43 (by decide) ?_
  refine lv_iadd hx hb dX1_endPart_44 ?_
  refine q_top (y := 1) (by decide +kernel) ?_
  refine q_iast (f2 := (upd f_sound_partCounts 0 1)) (w2 := [(q_sound_laws, .inr (1, [u_sound_laws_0, .ref q_sound_partEnds, u_sound_laws_2, .ref q_sound_partCounts, u_sound_laws_4, u_sound_laws_5, .int 1, .int 0, u_sound_laws_8])), (q_sound_partCounts, .inl (cI, 4, .inl (upd f_sound_partCounts 0 1))), (q_sound_partEnds, .inl (cI, 52, .inl (upd f_sound_partEnds 0 1)))]) C hK hP hD hS 1 1 rfl rfl (vp_lit (by decide +kernel)) dX1_endPart_45 rfl rfl (fun H locs hP hD hS => ?_)
  exact q_vret C hr hlocks hK hP hD hS (Nat.le_of_ble_eq_true rfl) (Nat.le_of_ble_eq_true rfl) dX1_endPart_46 (rfl)

set_option maxHeartbeats 4000000 in
set_option maxRecDepth 100000 in
theorem k_begin1 (l : Launch) (dC : Nat → ClassId) (dI : Nat → Nat → Nat) (cB cI cJ cZ cS : ClassId) (q_sound_laws : Nat) (q_sound_lawStarts : Nat) (q_sound_partCounts : Nat) (u_sound_laws_0 : Value) (u_sound_laws_1 : Value) (u_sound_laws_4 : Value) (u_sound_laws_5 : Value) (y_cur : Int32) (u_sound_laws_8 : Value) (f_sound_lawStarts : Nat → Int32) (f_sound_partCounts : Nat → Int32) : CV l yX1_begin wsX1_begin ({ frames := 0, cells := 0, slots := 0, locals := 0 }) (dC, dI) (tysA cB cI cJ cZ cS) [(q_sound_laws, .inr (1, [u_sound_laws_0, u_sound_laws_1, .ref q_sound_lawStarts, .ref q_sound_partCounts, u_sound_laws_4, u_sound_laws_5, .int 1, .int y_cur, u_sound_laws_8])), (q_sound_lawStarts, .inl (cI, 4, .inl f_sound_lawStarts)), (q_sound_partCounts, .inl (cI, 4, .inl f_sound_partCounts))] [.ref q_sound_laws, .int 1] (fun w => w = [(q_sound_laws, .inr (1, [u_sound_laws_0, u_sound_laws_1, .ref q_sound_lawStarts, .ref q_sound_partCounts, u_sound_laws_4, u_sound_laws_5, .int 1, .int 1, u_sound_laws_8])), (q_sound_lawStarts, .inl (cI, 4, .inl (upd f_sound_lawStarts 1 1))), (q_sound_partCounts, .inl (cI, 4, .inl (upd f_sound_partCounts 1 0)))]) := by
  refine open_V (cc := cX1_begin) (maxL := 2) (ret := none) (by decide) rfl (Nat.le_of_ble_eq_true rfl) ?_
  intro p e s m below meth c A ls E
  obtain ⟨C, hr, hlocks, hnm, hA, hP, hK, hD, hN, hl⟩ := E
  obtain ⟨hx, hb, hml, hown, hts⟩ := id C
  have hS : va_S A s.heap s.heap [] := va_S.rf
  have hl : lv_has ls 2 [(0, .ref q_sound_laws), (1, .int 1)] := hl
  have inX1 : ∀ w ∈ u_ws RX1 TX1 9, w ∈ wsX1_begin := fun _ h => List.mem_cons_of_mem _ (List.mem_append_right _ h)
  have L22 : Cond.fieldLink RX1 22 "GuessFerry$Laws" "lawStarts" "[I" ∈ wsX1_begin := by decide +kernel
  have L25 : Cond.fieldLink RX1 25 "GuessFerry$Laws" "partCounts" "[I" ∈ wsX1_begin := by decide +kernel
  have L34 : Cond.fieldLink RX1 34 "GuessFerry$Laws" "length" "I" ∈ wsX1_begin := by decide +kernel
  have L57 : Cond.fieldLink RX1 57 "GuessFerry$Laws" "current" "I" ∈ wsX1_begin := by decide +kernel
  refine lv_aload_n hx hb dX1_begin_0 rfl (lv_at hl 0 rfl) ?_
  refine lv_iload_n hx hb dX1_begin_1 rfl (lv_at hl 1 rfl) ?_
  refine q_put (ty := .int) (w2 := [(q_sound_laws, .inr (1, [u_sound_laws_0, u_sound_laws_1, .ref q_sound_lawStarts, .ref q_sound_partCounts, u_sound_laws_4, u_sound_laws_5, .int 1, .int 1, u_sound_laws_8])), (q_sound_lawStarts, .inl (cI, 4, .inl f_sound_lawStarts)), (q_sound_partCounts, .inl (cI, 4, .inl f_sound_partCounts))]) tyX1 tyX1_ok nmX1 C inX1 hK hP hD hS 0 rfl rfl 7 (by decide) rfl L57 rfl (by decide +kernel) (rfl) rfl (Nat.le_of_ble_eq_true rfl) dX1_begin_2 rfl (fun H locs hP hD hS => ?_)
  refine lv_aload_n hx hb dX1_begin_5 rfl (lv_at hl 0 rfl) ?_
  refine q_get (v := .ref q_sound_lawStarts) C inX1 hK hP 0 rfl rfl 2 (by decide) rfl L22 rfl dX1_begin_6 ?_
  refine lv_iload_n hx hb dX1_begin_9 rfl (lv_at hl 1 rfl) ?_
  refine lv_aload_n hx hb dX1_begin_10 rfl (lv_at hl 0 rfl) ?_
  refine q_get (v := .int 1) C inX1 hK hP 0 rfl rfl 6 (by decide) rfl L34 rfl dX1_begin_11 ?_
  refine q_iast (f2 := (upd f_sound_lawStarts 1 1)) (w2 := [(q_sound_laws, .inr (1, [u_sound_laws_0, u_sound_laws_1, .ref q_sound_lawStarts, .ref q_sound_partCounts, u_sound_laws_4, u_sound_laws_5, .int 1, .int 1, u_sound_laws_8])), (q_sound_lawStarts, .inl (cI, 4, .inl (upd f_sound_lawStarts 1 1))), (q_sound_partCounts, .inl (cI, 4, .inl f_sound_partCounts))]) C hK hP hD hS 1 1 rfl rfl (vp_lit (by decide +kernel)) dX1_begin_14 rfl rfl (fun H locs hP hD hS => ?_)
  refine lv_aload_n hx hb dX1_begin_15 rfl (lv_at hl 0 rfl) ?_
  refine q_get (v := .ref q_sound_partCounts) C inX1 hK hP 0 rfl rfl 3 (by decide) rfl L25 rfl dX1_begin_16 ?_
  refine lv_iload_n hx hb dX1_begin_19 rfl (lv_at hl 1 rfl) ?_
  refine lv_iconst (v := 0) hx hb dX1_begin_20 (by decide) ?_
  refine q_iast (f2 := (upd f_sound_partCounts 1 0)) (w2 := [(q_sound_laws, .inr (1, [u_sound_laws_0, u_sound_laws_1, .ref q_sound_lawStarts, .ref q_sound_partCounts, u_sound_laws_4, u_sound_laws_5, .int 1, .int 1, u_sound_laws_8])), (q_sound_lawStarts, .inl (cI, 4, .inl (upd f_sound_lawStarts 1 1))), (q_sound_partCounts, .inl (cI, 4, .inl (upd f_sound_partCounts 1 0)))]) C hK hP hD hS 2 1 rfl rfl (vp_lit (by decide +kernel)) dX1_begin_21 rfl rfl (fun H locs hP hD hS => ?_)
  exact q_vret C hr hlocks hK hP hD hS (Nat.le_of_ble_eq_true rfl) (Nat.le_of_ble_eq_true rfl) dX1_begin_22 (rfl)

set_option maxHeartbeats 4000000 in
set_option maxRecDepth 100000 in
theorem k_Lput1 (l : Launch) (dC : Nat → ClassId) (dI : Nat → Nat → Nat) (cB cI cJ cZ cS : ClassId) (q_sound_laws : Nat) (q_sound_steps : Nat) (u_sound_laws_1 : Value) (u_sound_laws_2 : Value) (u_sound_laws_3 : Value) (u_sound_laws_4 : Value) (u_sound_laws_5 : Value) (u_sound_laws_7 : Value) (u_sound_laws_8 : Value) (f_sound_steps : Nat → Int32) (x1 : Int32) : CV l yX1_put wsX1_put ({ frames := 0, cells := 0, slots := 0, locals := 0 }) (dC, dI) (tysA cB cI cJ cZ cS) [(q_sound_laws, .inr (1, [.ref q_sound_steps, u_sound_laws_1, u_sound_laws_2, u_sound_laws_3, u_sound_laws_4, u_sound_laws_5, .int 1, u_sound_laws_7, u_sound_laws_8])), (q_sound_steps, .inl (cI, 404, .inl f_sound_steps))] [.ref q_sound_laws, .int x1] (fun w => w = [(q_sound_laws, .inr (1, [.ref q_sound_steps, u_sound_laws_1, u_sound_laws_2, u_sound_laws_3, u_sound_laws_4, u_sound_laws_5, .int 2, u_sound_laws_7, u_sound_laws_8])), (q_sound_steps, .inl (cI, 404, .inl (upd f_sound_steps 1 x1)))]) := by
  refine open_V (cc := cX1_put) (maxL := 2) (ret := none) (by decide) rfl (Nat.le_of_ble_eq_true rfl) ?_
  intro p e s m below meth c A ls E
  obtain ⟨C, hr, hlocks, hnm, hA, hP, hK, hD, hN, hl⟩ := E
  obtain ⟨hx, hb, hml, hown, hts⟩ := id C
  have hS : va_S A s.heap s.heap [] := va_S.rf
  have hl : lv_has ls 2 [(0, .ref q_sound_laws), (1, .int x1)] := hl
  have inX1 : ∀ w ∈ u_ws RX1 TX1 9, w ∈ wsX1_put := fun _ h => List.mem_cons_of_mem _ (List.mem_append_right _ h)
  have L15 : Cond.fieldLink RX1 15 "GuessFerry$Laws" "steps" "[I" ∈ wsX1_put := by decide +kernel
  have L34 : Cond.fieldLink RX1 34 "GuessFerry$Laws" "length" "I" ∈ wsX1_put := by decide +kernel
  refine lv_aload_n hx hb dX1_put_0 rfl (lv_at hl 0 rfl) ?_
  refine q_get (v := .int 1) C inX1 hK hP 0 rfl rfl 6 (by decide) rfl L34 rfl dX1_put_1 ?_
  refine lv_sipush (v := 404) hx hb dX1_put_4 (by decide) ?_
  refine lv_icmp_ge (tgt := 30) hx hb dX1_put_7 (by decide) (fun h => absurd h (by decide +kernel)) (fun _ => ?_)
  refine lv_aload_n hx hb dX1_put_10 rfl (lv_at hl 0 rfl) ?_
  refine q_get (v := .ref q_sound_steps) C inX1 hK hP 0 rfl rfl 0 (by decide) rfl L15 rfl dX1_put_11 ?_
  refine lv_aload_n hx hb dX1_put_14 rfl (lv_at hl 0 rfl) ?_
  refine q_get (v := .int 1) C inX1 hK hP 0 rfl rfl 6 (by decide) rfl L34 rfl dX1_put_15 ?_
  refine lv_iload_n hx hb dX1_put_18 rfl (lv_at hl 1 rfl) ?_
  refine q_iast (f2 := (upd f_sound_steps 1 x1)) (w2 := [(q_sound_laws, .inr (1, [.ref q_sound_steps, u_sound_laws_1, u_sound_laws_2, u_sound_laws_3, u_sound_laws_4, u_sound_laws_5, .int 1, u_sound_laws_7, u_sound_laws_8])), (q_sound_steps, .inl (cI, 404, .inl (upd f_sound_steps 1 x1)))]) C hK hP hD hS 1 1 rfl rfl (vp_lit (by decide +kernel)) dX1_put_19 rfl rfl (fun H locs hP hD hS => ?_)
  refine lv_aload_n hx hb dX1_put_20 rfl (lv_at hl 0 rfl) ?_
  refine lv_dup hx hb dX1_put_21 rfl ?_
  refine q_get (v := .int 1) C inX1 hK hP 0 rfl rfl 6 (by decide) rfl L34 rfl dX1_put_22 ?_
  refine lv_iconst (v := 1) hx hb dX1_put_25 (by decide) ?_
  refine lv_iadd hx hb dX1_put_26 ?_
  refine q_top (y := 2) (by decide +kernel) ?_
  refine q_put (ty := .int) (w2 := [(q_sound_laws, .inr (1, [.ref q_sound_steps, u_sound_laws_1, u_sound_laws_2, u_sound_laws_3, u_sound_laws_4, u_sound_laws_5, .int 2, u_sound_laws_7, u_sound_laws_8])), (q_sound_steps, .inl (cI, 404, .inl (upd f_sound_steps 1 x1)))]) tyX1 tyX1_ok nmX1 C inX1 hK hP hD hS 0 rfl rfl 6 (by decide) rfl L34 rfl (by decide +kernel) (rfl) rfl (Nat.le_of_ble_eq_true rfl) dX1_put_27 rfl (fun H locs hP hD hS => ?_)
  exact q_vret C hr hlocks hK hP hD hS (Nat.le_of_ble_eq_true rfl) (Nat.le_of_ble_eq_true rfl) dX1_put_30 (rfl)

set_option maxHeartbeats 4000000 in
set_option maxRecDepth 100000 in
theorem k_putNumber1 (l : Launch) (dC : Nat → ClassId) (dI : Nat → Nat → Nat) (cB cI cJ cZ cS : ClassId) (q_sound_laws : Nat) (q_sound_steps : Nat) (u_sound_laws_1 : Value) (u_sound_laws_2 : Value) (u_sound_laws_3 : Value) (u_sound_laws_4 : Value) (u_sound_laws_5 : Value) (u_sound_laws_7 : Value) (u_sound_laws_8 : Value) (f_sound_steps : Nat → Int32) : CV l yX1_putNumber wsX1_putNumber ({ frames := 1, cells := 0, slots := 0, locals := 21 }) (dC, dI) (tysA cB cI cJ cZ cS) [(q_sound_laws, .inr (1, [.ref q_sound_steps, u_sound_laws_1, u_sound_laws_2, u_sound_laws_3, u_sound_laws_4, u_sound_laws_5, .int 1, u_sound_laws_7, u_sound_laws_8])), (q_sound_steps, .inl (cI, 404, .inl f_sound_steps))] [.ref q_sound_laws, .int 1] (fun w => w = [(q_sound_laws, .inr (1, [.ref q_sound_steps, u_sound_laws_1, u_sound_laws_2, u_sound_laws_3, u_sound_laws_4, u_sound_laws_5, .int 2, u_sound_laws_7, u_sound_laws_8])), (q_sound_steps, .inl (cI, 404, .inl (upd f_sound_steps 1 1)))]) := by
  refine open_V (cc := cX1_putNumber) (maxL := 2) (ret := none) (by decide) rfl (Nat.le_of_ble_eq_true rfl) ?_
  intro p e s m below meth c A ls E
  obtain ⟨C, hr, hlocks, hnm, hA, hP, hK, hD, hN, hl⟩ := E
  obtain ⟨hx, hb, hml, hown, hts⟩ := id C
  have hS : va_S A s.heap s.heap [] := va_S.rf
  have hl : lv_has ls 2 [(0, .ref q_sound_laws), (1, .int 1)] := hl
  refine lv_aload_n hx hb dX1_putNumber_0 rfl (lv_at hl 0 rfl) ?_
  refine lv_iload_n hx hb dX1_putNumber_1 rfl (lv_at hl 1 rfl) ?_
  refine q_gov (wr := []) (va_runV (As := [.int 1]) (rest := []) C (k_Lput1 l dC dI cB cI cJ cZ cS (q_sound_laws) (q_sound_steps) (u_sound_laws_1) (u_sound_laws_2) (u_sound_laws_3) (u_sound_laws_4) (u_sound_laws_5) (u_sound_laws_7) (u_sound_laws_8) (f_sound_steps) 1 _) (cwV 1 hts gX1_putNumber_X1_put rfl rfl rfl (by decide +kernel) ⟨Nat.le_of_ble_eq_true rfl, Nat.le_of_ble_eq_true rfl⟩) (q_preV hK hP (ci := 1) (q0 := 0) rfl rfl rfl (q_pre hN hK hP hD [0, 1] rfl (by decide))) rfl rfl hl.1 rfl (lv_room (Nat.le_of_ble_eq_true rfl)) dX1_putNumber_2 ⟨Nat.le_of_ble_eq_true rfl, Nat.le_of_ble_eq_true rfl⟩) hP hD hS hA [0, 1] [] rfl rfl (by decide) (by decide) (fun w1 H locs hw hP hD hS => ?_)
  obtain rfl := hw
  have hP : va_P (dC, dI) vwCl [(q_sound_laws, .inr (1, [.ref q_sound_steps, u_sound_laws_1, u_sound_laws_2, u_sound_laws_3, u_sound_laws_4, u_sound_laws_5, .int 2, u_sound_laws_7, u_sound_laws_8])), (q_sound_steps, .inl (cI, 404, .inl (upd f_sound_steps 1 1)))] H := hP.sub [0, 1] rfl
  have hD : va_D A [(q_sound_laws, .inr (1, [.ref q_sound_steps, u_sound_laws_1, u_sound_laws_2, u_sound_laws_3, u_sound_laws_4, u_sound_laws_5, .int 2, u_sound_laws_7, u_sound_laws_8])), (q_sound_steps, .inl (cI, 404, .inl (upd f_sound_steps 1 1)))] := hD.sub [0, 1] (by decide) rfl
  exact q_vret C hr hlocks hK hP hD hS (Nat.le_of_ble_eq_true rfl) (Nat.le_of_ble_eq_true rfl) dX1_putNumber_5 (rfl)

set_option maxHeartbeats 4000000 in
set_option maxRecDepth 100000 in
theorem k_endPart1 (l : Launch) (dC : Nat → ClassId) (dI : Nat → Nat → Nat) (cB cI cJ cZ cS : ClassId) (q_sound_laws : Nat) (q_sound_partEnds : Nat) (q_sound_partCounts : Nat) (u_sound_laws_0 : Value) (u_sound_laws_2 : Value) (u_sound_laws_4 : Value) (u_sound_laws_5 : Value) (u_sound_laws_8 : Value) (f_sound_partCounts : Nat → Int32) (f_sound_partEnds : Nat → Int32) (h_sound_partCounts_1 : f_sound_partCounts 1 = 0) : CV l yX1_endPart wsX1_endPart ({ frames := 0, cells := 0, slots := 0, locals := 0 }) (dC, dI) (tysA cB cI cJ cZ cS) [(q_sound_laws, .inr (1, [u_sound_laws_0, .ref q_sound_partEnds, u_sound_laws_2, .ref q_sound_partCounts, u_sound_laws_4, u_sound_laws_5, .int 2, .int 1, u_sound_laws_8])), (q_sound_partCounts, .inl (cI, 4, .inl f_sound_partCounts)), (q_sound_partEnds, .inl (cI, 52, .inl f_sound_partEnds))] [.ref q_sound_laws] (fun w => w = [(q_sound_laws, .inr (1, [u_sound_laws_0, .ref q_sound_partEnds, u_sound_laws_2, .ref q_sound_partCounts, u_sound_laws_4, u_sound_laws_5, .int 2, .int 1, u_sound_laws_8])), (q_sound_partCounts, .inl (cI, 4, .inl (upd f_sound_partCounts 1 1))), (q_sound_partEnds, .inl (cI, 52, .inl (upd f_sound_partEnds 13 2)))]) := by
  refine open_V (cc := cX1_endPart) (maxL := 2) (ret := none) (by decide) rfl (Nat.le_of_ble_eq_true rfl) ?_
  intro p e s m below meth c A ls E
  obtain ⟨C, hr, hlocks, hnm, hA, hP, hK, hD, hN, hl⟩ := E
  obtain ⟨hx, hb, hml, hown, hts⟩ := id C
  have hS : va_S A s.heap s.heap [] := va_S.rf
  have hl : lv_has ls 2 [(0, .ref q_sound_laws)] := hl
  have inX1 : ∀ w ∈ u_ws RX1 TX1 9, w ∈ wsX1_endPart := fun _ h => List.mem_cons_of_mem _ (List.mem_append_right _ h)
  have L19 : Cond.fieldLink RX1 19 "GuessFerry$Laws" "partEnds" "[I" ∈ wsX1_endPart := by decide +kernel
  have L25 : Cond.fieldLink RX1 25 "GuessFerry$Laws" "partCounts" "[I" ∈ wsX1_endPart := by decide +kernel
  have L34 : Cond.fieldLink RX1 34 "GuessFerry$Laws" "length" "I" ∈ wsX1_endPart := by decide +kernel
  have L57 : Cond.fieldLink RX1 57 "GuessFerry$Laws" "current" "I" ∈ wsX1_endPart := by decide +kernel
  refine lv_aload_n hx hb dX1_endPart_0 rfl (lv_at hl 0 rfl) ?_
  refine q_get (v := .ref q_sound_partCounts) C inX1 hK hP 0 rfl rfl 3 (by decide) rfl L25 rfl dX1_endPart_1 ?_
  refine lv_aload_n hx hb dX1_endPart_4 rfl (lv_at hl 0 rfl) ?_
  refine q_get (v := .int 1) C inX1 hK hP 0 rfl rfl 7 (by decide) rfl L57 rfl dX1_endPart_5 ?_
  refine q_iald (x := 0) C hK hP 1 1 rfl rfl (vp_lit (by decide +kernel)) dX1_endPart_8 (h_sound_partCounts_1) ?_
  refine lv_istore_n (lv' := [(1, .int 0), (0, .ref q_sound_laws)]) hx hb dX1_endPart_9 rfl hl (by decide) rfl (fun ls hl => ?_)
  refine lv_iload_n hx hb dX1_endPart_10 rfl (lv_at hl 0 rfl) ?_
  refine lv_bipush (v := 13) hx hb dX1_endPart_11 (by decide) ?_
  refine lv_icmp_ge (tgt := 46) hx hb dX1_endPart_13 (by decide) (fun h => absurd h (by decide +kernel)) (fun _ => ?_)
  refine lv_aload_n hx hb dX1_endPart_16 rfl (lv_at hl 1 rfl) ?_
  refine q_get (v := .ref q_sound_partEnds) C inX1 hK hP 0 rfl rfl 1 (by decide) rfl L19 rfl dX1_endPart_17 ?_
  refine lv_aload_n hx hb dX1_endPart_20 rfl (lv_at hl 1 rfl) ?_
  refine q_get (v := .int 1) C inX1 hK hP 0 rfl rfl 7 (by decide) rfl L57 rfl dX1_endPart_21 ?_
  refine lv_bipush (v := 13) hx hb dX1_endPart_24 (by decide) ?_
  refine lv_imul hx hb dX1_endPart_26 ?_
  refine q_top (y := 13) (by decide +kernel) ?_
  refine lv_iload_n hx hb dX1_endPart_27 rfl (lv_at hl 0 rfl) ?_
  refine lv_iadd hx hb dX1_endPart_28 ?_
  refine q_top (y := 13) (by decide +kernel) ?_
  refine lv_aload_n hx hb dX1_endPart_29 rfl (lv_at hl 1 rfl) ?_
  refine q_get (v := .int 2) C inX1 hK hP 0 rfl rfl 6 (by decide) rfl L34 rfl dX1_endPart_30 ?_
  refine q_iast (f2 := (upd f_sound_partEnds 13 2)) (w2 := [(q_sound_laws, .inr (1, [u_sound_laws_0, .ref q_sound_partEnds, u_sound_laws_2, .ref q_sound_partCounts, u_sound_laws_4, u_sound_laws_5, .int 2, .int 1, u_sound_laws_8])), (q_sound_partCounts, .inl (cI, 4, .inl f_sound_partCounts)), (q_sound_partEnds, .inl (cI, 52, .inl (upd f_sound_partEnds 13 2)))]) C hK hP hD hS 2 1 rfl rfl (vp_lit (by decide +kernel)) dX1_endPart_33 rfl rfl (fun H locs hP hD hS => ?_)
  refine lv_aload_n hx hb dX1_endPart_34 rfl (lv_at hl 1 rfl) ?_
  refine q_get (v := .ref q_sound_partCounts) C inX1 hK hP 0 rfl rfl 3 (by decide) rfl L25 rfl dX1_endPart_35 ?_
  refine lv_aload_n hx hb dX1_endPart_38 rfl (lv_at hl 1 rfl) ?_
  refine q_get (v := .int 1) C inX1 hK hP 0 rfl rfl 7 (by decide) rfl L57 rfl dX1_endPart_39 ?_
  refine lv_iload_n hx hb dX1_endPart_42 rfl (lv_at hl 0 rfl) ?_
  refine lv_iconst (v := 1) hx hb dX1_endPart_43 (by decide) ?_
  refine lv_iadd hx hb dX1_endPart_44 ?_
  refine q_top (y := 1) (by decide +kernel) ?_
  refine q_iast (f2 := (upd f_sound_partCounts 1 1)) (w2 := [(q_sound_laws, .inr (1, [u_sound_laws_0, .ref q_sound_partEnds, u_sound_laws_2, .ref q_sound_partCounts, u_sound_laws_4, u_sound_laws_5, .int 2, .int 1, u_sound_laws_8])), (q_sound_partCounts, .inl (cI, 4, .inl (upd f_sound_partCounts 1 1))), (q_sound_partEnds, .inl (cI, 52, .inl (upd f_sound_partEnds 13 2)))]) C hK hP hD hS 1 1 rfl rfl (vp_lit (by decide +kernel)) dX1_endPart_45 rfl rfl (fun H locs hP hD hS => ?_)
  exact q_vret C hr hlocks hK hP hD hS (Nat.le_of_ble_eq_true rfl) (Nat.le_of_ble_eq_true rfl) dX1_endPart_46 (rfl)

set_option maxHeartbeats 4000000 in
set_option maxRecDepth 100000 in
theorem k_begin2 (l : Launch) (dC : Nat → ClassId) (dI : Nat → Nat → Nat) (cB cI cJ cZ cS : ClassId) (q_sound_laws : Nat) (q_sound_lawStarts : Nat) (q_sound_partCounts : Nat) (u_sound_laws_0 : Value) (u_sound_laws_1 : Value) (u_sound_laws_4 : Value) (u_sound_laws_5 : Value) (y_cur : Int32) (u_sound_laws_8 : Value) (f_sound_lawStarts : Nat → Int32) (f_sound_partCounts : Nat → Int32) : CV l yX1_begin wsX1_begin ({ frames := 0, cells := 0, slots := 0, locals := 0 }) (dC, dI) (tysA cB cI cJ cZ cS) [(q_sound_laws, .inr (1, [u_sound_laws_0, u_sound_laws_1, .ref q_sound_lawStarts, .ref q_sound_partCounts, u_sound_laws_4, u_sound_laws_5, .int 2, .int y_cur, u_sound_laws_8])), (q_sound_lawStarts, .inl (cI, 4, .inl f_sound_lawStarts)), (q_sound_partCounts, .inl (cI, 4, .inl f_sound_partCounts))] [.ref q_sound_laws, .int 2] (fun w => w = [(q_sound_laws, .inr (1, [u_sound_laws_0, u_sound_laws_1, .ref q_sound_lawStarts, .ref q_sound_partCounts, u_sound_laws_4, u_sound_laws_5, .int 2, .int 2, u_sound_laws_8])), (q_sound_lawStarts, .inl (cI, 4, .inl (upd f_sound_lawStarts 2 2))), (q_sound_partCounts, .inl (cI, 4, .inl (upd f_sound_partCounts 2 0)))]) := by
  refine open_V (cc := cX1_begin) (maxL := 2) (ret := none) (by decide) rfl (Nat.le_of_ble_eq_true rfl) ?_
  intro p e s m below meth c A ls E
  obtain ⟨C, hr, hlocks, hnm, hA, hP, hK, hD, hN, hl⟩ := E
  obtain ⟨hx, hb, hml, hown, hts⟩ := id C
  have hS : va_S A s.heap s.heap [] := va_S.rf
  have hl : lv_has ls 2 [(0, .ref q_sound_laws), (1, .int 2)] := hl
  have inX1 : ∀ w ∈ u_ws RX1 TX1 9, w ∈ wsX1_begin := fun _ h => List.mem_cons_of_mem _ (List.mem_append_right _ h)
  have L22 : Cond.fieldLink RX1 22 "GuessFerry$Laws" "lawStarts" "[I" ∈ wsX1_begin := by decide +kernel
  have L25 : Cond.fieldLink RX1 25 "GuessFerry$Laws" "partCounts" "[I" ∈ wsX1_begin := by decide +kernel
  have L34 : Cond.fieldLink RX1 34 "GuessFerry$Laws" "length" "I" ∈ wsX1_begin := by decide +kernel
  have L57 : Cond.fieldLink RX1 57 "GuessFerry$Laws" "current" "I" ∈ wsX1_begin := by decide +kernel
  refine lv_aload_n hx hb dX1_begin_0 rfl (lv_at hl 0 rfl) ?_
  refine lv_iload_n hx hb dX1_begin_1 rfl (lv_at hl 1 rfl) ?_
  refine q_put (ty := .int) (w2 := [(q_sound_laws, .inr (1, [u_sound_laws_0, u_sound_laws_1, .ref q_sound_lawStarts, .ref q_sound_partCounts, u_sound_laws_4, u_sound_laws_5, .int 2, .int 2, u_sound_laws_8])), (q_sound_lawStarts, .inl (cI, 4, .inl f_sound_lawStarts)), (q_sound_partCounts, .inl (cI, 4, .inl f_sound_partCounts))]) tyX1 tyX1_ok nmX1 C inX1 hK hP hD hS 0 rfl rfl 7 (by decide) rfl L57 rfl (by decide +kernel) (rfl) rfl (Nat.le_of_ble_eq_true rfl) dX1_begin_2 rfl (fun H locs hP hD hS => ?_)
  refine lv_aload_n hx hb dX1_begin_5 rfl (lv_at hl 0 rfl) ?_
  refine q_get (v := .ref q_sound_lawStarts) C inX1 hK hP 0 rfl rfl 2 (by decide) rfl L22 rfl dX1_begin_6 ?_
  refine lv_iload_n hx hb dX1_begin_9 rfl (lv_at hl 1 rfl) ?_
  refine lv_aload_n hx hb dX1_begin_10 rfl (lv_at hl 0 rfl) ?_
  refine q_get (v := .int 2) C inX1 hK hP 0 rfl rfl 6 (by decide) rfl L34 rfl dX1_begin_11 ?_
  refine q_iast (f2 := (upd f_sound_lawStarts 2 2)) (w2 := [(q_sound_laws, .inr (1, [u_sound_laws_0, u_sound_laws_1, .ref q_sound_lawStarts, .ref q_sound_partCounts, u_sound_laws_4, u_sound_laws_5, .int 2, .int 2, u_sound_laws_8])), (q_sound_lawStarts, .inl (cI, 4, .inl (upd f_sound_lawStarts 2 2))), (q_sound_partCounts, .inl (cI, 4, .inl f_sound_partCounts))]) C hK hP hD hS 1 1 rfl rfl (vp_lit (by decide +kernel)) dX1_begin_14 rfl rfl (fun H locs hP hD hS => ?_)
  refine lv_aload_n hx hb dX1_begin_15 rfl (lv_at hl 0 rfl) ?_
  refine q_get (v := .ref q_sound_partCounts) C inX1 hK hP 0 rfl rfl 3 (by decide) rfl L25 rfl dX1_begin_16 ?_
  refine lv_iload_n hx hb dX1_begin_19 rfl (lv_at hl 1 rfl) ?_
  refine lv_iconst (v := 0) hx hb dX1_begin_20 (by decide) ?_
  refine q_iast (f2 := (upd f_sound_partCounts 2 0)) (w2 := [(q_sound_laws, .inr (1, [u_sound_laws_0, u_sound_laws_1, .ref q_sound_lawStarts, .ref q_sound_partCounts, u_sound_laws_4, u_sound_laws_5, .int 2, .int 2, u_sound_laws_8])), (q_sound_lawStarts, .inl (cI, 4, .inl (upd f_sound_lawStarts 2 2))), (q_sound_partCounts, .inl (cI, 4, .inl (upd f_sound_partCounts 2 0)))]) C hK hP hD hS 2 1 rfl rfl (vp_lit (by decide +kernel)) dX1_begin_21 rfl rfl (fun H locs hP hD hS => ?_)
  exact q_vret C hr hlocks hK hP hD hS (Nat.le_of_ble_eq_true rfl) (Nat.le_of_ble_eq_true rfl) dX1_begin_22 (rfl)

set_option maxHeartbeats 4000000 in
set_option maxRecDepth 100000 in
theorem k_Lput2 (l : Launch) (dC : Nat → ClassId) (dI : Nat → Nat → Nat) (cB cI cJ cZ cS : ClassId) (q_sound_laws : Nat) (q_sound_steps : Nat) (u_sound_laws_1 : Value) (u_sound_laws_2 : Value) (u_sound_laws_3 : Value) (u_sound_laws_4 : Value) (u_sound_laws_5 : Value) (u_sound_laws_7 : Value) (u_sound_laws_8 : Value) (f_sound_steps : Nat → Int32) (x1 : Int32) : CV l yX1_put wsX1_put ({ frames := 0, cells := 0, slots := 0, locals := 0 }) (dC, dI) (tysA cB cI cJ cZ cS) [(q_sound_laws, .inr (1, [.ref q_sound_steps, u_sound_laws_1, u_sound_laws_2, u_sound_laws_3, u_sound_laws_4, u_sound_laws_5, .int 2, u_sound_laws_7, u_sound_laws_8])), (q_sound_steps, .inl (cI, 404, .inl f_sound_steps))] [.ref q_sound_laws, .int x1] (fun w => w = [(q_sound_laws, .inr (1, [.ref q_sound_steps, u_sound_laws_1, u_sound_laws_2, u_sound_laws_3, u_sound_laws_4, u_sound_laws_5, .int 3, u_sound_laws_7, u_sound_laws_8])), (q_sound_steps, .inl (cI, 404, .inl (upd f_sound_steps 2 x1)))]) := by
  refine open_V (cc := cX1_put) (maxL := 2) (ret := none) (by decide) rfl (Nat.le_of_ble_eq_true rfl) ?_
  intro p e s m below meth c A ls E
  obtain ⟨C, hr, hlocks, hnm, hA, hP, hK, hD, hN, hl⟩ := E
  obtain ⟨hx, hb, hml, hown, hts⟩ := id C
  have hS : va_S A s.heap s.heap [] := va_S.rf
  have hl : lv_has ls 2 [(0, .ref q_sound_laws), (1, .int x1)] := hl
  have inX1 : ∀ w ∈ u_ws RX1 TX1 9, w ∈ wsX1_put := fun _ h => List.mem_cons_of_mem _ (List.mem_append_right _ h)
  have L15 : Cond.fieldLink RX1 15 "GuessFerry$Laws" "steps" "[I" ∈ wsX1_put := by decide +kernel
  have L34 : Cond.fieldLink RX1 34 "GuessFerry$Laws" "length" "I" ∈ wsX1_put := by decide +kernel
  refine lv_aload_n hx hb dX1_put_0 rfl (lv_at hl 0 rfl) ?_
  refine q_get (v := .int 2) C inX1 hK hP 0 rfl rfl 6 (by decide) rfl L34 rfl dX1_put_1 ?_
  refine lv_sipush (v := 404) hx hb dX1_put_4 (by decide) ?_
  refine lv_icmp_ge (tgt := 30) hx hb dX1_put_7 (by decide) (fun h => absurd h (by decide +kernel)) (fun _ => ?_)
  refine lv_aload_n hx hb dX1_put_10 rfl (lv_at hl 0 rfl) ?_
  refine q_get (v := .ref q_sound_steps) C inX1 hK hP 0 rfl rfl 0 (by decide) rfl L15 rfl dX1_put_11 ?_
  refine lv_aload_n hx hb dX1_put_14 rfl (lv_at hl 0 rfl) ?_
  refine q_get (v := .int 2) C inX1 hK hP 0 rfl rfl 6 (by decide) rfl L34 rfl dX1_put_15 ?_
  refine lv_iload_n hx hb dX1_put_18 rfl (lv_at hl 1 rfl) ?_
  refine q_iast (f2 := (upd f_sound_steps 2 x1)) (w2 := [(q_sound_laws, .inr (1, [.ref q_sound_steps, u_sound_laws_1, u_sound_laws_2, u_sound_laws_3, u_sound_laws_4, u_sound_laws_5, .int 2, u_sound_laws_7, u_sound_laws_8])), (q_sound_steps, .inl (cI, 404, .inl (upd f_sound_steps 2 x1)))]) C hK hP hD hS 1 1 rfl rfl (vp_lit (by decide +kernel)) dX1_put_19 rfl rfl (fun H locs hP hD hS => ?_)
  refine lv_aload_n hx hb dX1_put_20 rfl (lv_at hl 0 rfl) ?_
  refine lv_dup hx hb dX1_put_21 rfl ?_
  refine q_get (v := .int 2) C inX1 hK hP 0 rfl rfl 6 (by decide) rfl L34 rfl dX1_put_22 ?_
  refine lv_iconst (v := 1) hx hb dX1_put_25 (by decide) ?_
  refine lv_iadd hx hb dX1_put_26 ?_
  refine q_top (y := 3) (by decide +kernel) ?_
  refine q_put (ty := .int) (w2 := [(q_sound_laws, .inr (1, [.ref q_sound_steps, u_sound_laws_1, u_sound_laws_2, u_sound_laws_3, u_sound_laws_4, u_sound_laws_5, .int 3, u_sound_laws_7, u_sound_laws_8])), (q_sound_steps, .inl (cI, 404, .inl (upd f_sound_steps 2 x1)))]) tyX1 tyX1_ok nmX1 C inX1 hK hP hD hS 0 rfl rfl 6 (by decide) rfl L34 rfl (by decide +kernel) (rfl) rfl (Nat.le_of_ble_eq_true rfl) dX1_put_27 rfl (fun H locs hP hD hS => ?_)
  exact q_vret C hr hlocks hK hP hD hS (Nat.le_of_ble_eq_true rfl) (Nat.le_of_ble_eq_true rfl) dX1_put_30 (rfl)

set_option maxHeartbeats 4000000 in
set_option maxRecDepth 100000 in
theorem k_putNumber2 (l : Launch) (dC : Nat → ClassId) (dI : Nat → Nat → Nat) (cB cI cJ cZ cS : ClassId) (q_sound_laws : Nat) (q_sound_steps : Nat) (u_sound_laws_1 : Value) (u_sound_laws_2 : Value) (u_sound_laws_3 : Value) (u_sound_laws_4 : Value) (u_sound_laws_5 : Value) (u_sound_laws_7 : Value) (u_sound_laws_8 : Value) (f_sound_steps : Nat → Int32) : CV l yX1_putNumber wsX1_putNumber ({ frames := 1, cells := 0, slots := 0, locals := 21 }) (dC, dI) (tysA cB cI cJ cZ cS) [(q_sound_laws, .inr (1, [.ref q_sound_steps, u_sound_laws_1, u_sound_laws_2, u_sound_laws_3, u_sound_laws_4, u_sound_laws_5, .int 2, u_sound_laws_7, u_sound_laws_8])), (q_sound_steps, .inl (cI, 404, .inl f_sound_steps))] [.ref q_sound_laws, .int 1] (fun w => w = [(q_sound_laws, .inr (1, [.ref q_sound_steps, u_sound_laws_1, u_sound_laws_2, u_sound_laws_3, u_sound_laws_4, u_sound_laws_5, .int 3, u_sound_laws_7, u_sound_laws_8])), (q_sound_steps, .inl (cI, 404, .inl (upd f_sound_steps 2 1)))]) := by
  refine open_V (cc := cX1_putNumber) (maxL := 2) (ret := none) (by decide) rfl (Nat.le_of_ble_eq_true rfl) ?_
  intro p e s m below meth c A ls E
  obtain ⟨C, hr, hlocks, hnm, hA, hP, hK, hD, hN, hl⟩ := E
  obtain ⟨hx, hb, hml, hown, hts⟩ := id C
  have hS : va_S A s.heap s.heap [] := va_S.rf
  have hl : lv_has ls 2 [(0, .ref q_sound_laws), (1, .int 1)] := hl
  refine lv_aload_n hx hb dX1_putNumber_0 rfl (lv_at hl 0 rfl) ?_
  refine lv_iload_n hx hb dX1_putNumber_1 rfl (lv_at hl 1 rfl) ?_
  refine q_gov (wr := []) (va_runV (As := [.int 1]) (rest := []) C (k_Lput2 l dC dI cB cI cJ cZ cS (q_sound_laws) (q_sound_steps) (u_sound_laws_1) (u_sound_laws_2) (u_sound_laws_3) (u_sound_laws_4) (u_sound_laws_5) (u_sound_laws_7) (u_sound_laws_8) (f_sound_steps) 1 _) (cwV 1 hts gX1_putNumber_X1_put rfl rfl rfl (by decide +kernel) ⟨Nat.le_of_ble_eq_true rfl, Nat.le_of_ble_eq_true rfl⟩) (q_preV hK hP (ci := 1) (q0 := 0) rfl rfl rfl (q_pre hN hK hP hD [0, 1] rfl (by decide))) rfl rfl hl.1 rfl (lv_room (Nat.le_of_ble_eq_true rfl)) dX1_putNumber_2 ⟨Nat.le_of_ble_eq_true rfl, Nat.le_of_ble_eq_true rfl⟩) hP hD hS hA [0, 1] [] rfl rfl (by decide) (by decide) (fun w1 H locs hw hP hD hS => ?_)
  obtain rfl := hw
  have hP : va_P (dC, dI) vwCl [(q_sound_laws, .inr (1, [.ref q_sound_steps, u_sound_laws_1, u_sound_laws_2, u_sound_laws_3, u_sound_laws_4, u_sound_laws_5, .int 3, u_sound_laws_7, u_sound_laws_8])), (q_sound_steps, .inl (cI, 404, .inl (upd f_sound_steps 2 1)))] H := hP.sub [0, 1] rfl
  have hD : va_D A [(q_sound_laws, .inr (1, [.ref q_sound_steps, u_sound_laws_1, u_sound_laws_2, u_sound_laws_3, u_sound_laws_4, u_sound_laws_5, .int 3, u_sound_laws_7, u_sound_laws_8])), (q_sound_steps, .inl (cI, 404, .inl (upd f_sound_steps 2 1)))] := hD.sub [0, 1] (by decide) rfl
  exact q_vret C hr hlocks hK hP hD hS (Nat.le_of_ble_eq_true rfl) (Nat.le_of_ble_eq_true rfl) dX1_putNumber_5 (rfl)

set_option maxHeartbeats 4000000 in
set_option maxRecDepth 100000 in
theorem k_endPart2 (l : Launch) (dC : Nat → ClassId) (dI : Nat → Nat → Nat) (cB cI cJ cZ cS : ClassId) (q_sound_laws : Nat) (q_sound_partEnds : Nat) (q_sound_partCounts : Nat) (u_sound_laws_0 : Value) (u_sound_laws_2 : Value) (u_sound_laws_4 : Value) (u_sound_laws_5 : Value) (u_sound_laws_8 : Value) (f_sound_partCounts : Nat → Int32) (f_sound_partEnds : Nat → Int32) (h_sound_partCounts_2 : f_sound_partCounts 2 = 0) : CV l yX1_endPart wsX1_endPart ({ frames := 0, cells := 0, slots := 0, locals := 0 }) (dC, dI) (tysA cB cI cJ cZ cS) [(q_sound_laws, .inr (1, [u_sound_laws_0, .ref q_sound_partEnds, u_sound_laws_2, .ref q_sound_partCounts, u_sound_laws_4, u_sound_laws_5, .int 3, .int 2, u_sound_laws_8])), (q_sound_partCounts, .inl (cI, 4, .inl f_sound_partCounts)), (q_sound_partEnds, .inl (cI, 52, .inl f_sound_partEnds))] [.ref q_sound_laws] (fun w => w = [(q_sound_laws, .inr (1, [u_sound_laws_0, .ref q_sound_partEnds, u_sound_laws_2, .ref q_sound_partCounts, u_sound_laws_4, u_sound_laws_5, .int 3, .int 2, u_sound_laws_8])), (q_sound_partCounts, .inl (cI, 4, .inl (upd f_sound_partCounts 2 1))), (q_sound_partEnds, .inl (cI, 52, .inl (upd f_sound_partEnds 26 3)))]) := by
  refine open_V (cc := cX1_endPart) (maxL := 2) (ret := none) (by decide) rfl (Nat.le_of_ble_eq_true rfl) ?_
  intro p e s m below meth c A ls E
  obtain ⟨C, hr, hlocks, hnm, hA, hP, hK, hD, hN, hl⟩ := E
  obtain ⟨hx, hb, hml, hown, hts⟩ := id C
  have hS : va_S A s.heap s.heap [] := va_S.rf
  have hl : lv_has ls 2 [(0, .ref q_sound_laws)] := hl
  have inX1 : ∀ w ∈ u_ws RX1 TX1 9, w ∈ wsX1_endPart := fun _ h => List.mem_cons_of_mem _ (List.mem_append_right _ h)
  have L19 : Cond.fieldLink RX1 19 "GuessFerry$Laws" "partEnds" "[I" ∈ wsX1_endPart := by decide +kernel
  have L25 : Cond.fieldLink RX1 25 "GuessFerry$Laws" "partCounts" "[I" ∈ wsX1_endPart := by decide +kernel
  have L34 : Cond.fieldLink RX1 34 "GuessFerry$Laws" "length" "I" ∈ wsX1_endPart := by decide +kernel
  have L57 : Cond.fieldLink RX1 57 "GuessFerry$Laws" "current" "I" ∈ wsX1_endPart := by decide +kernel
  refine lv_aload_n hx hb dX1_endPart_0 rfl (lv_at hl 0 rfl) ?_
  refine q_get (v := .ref q_sound_partCounts) C inX1 hK hP 0 rfl rfl 3 (by decide) rfl L25 rfl dX1_endPart_1 ?_
  refine lv_aload_n hx hb dX1_endPart_4 rfl (lv_at hl 0 rfl) ?_
  refine q_get (v := .int 2) C inX1 hK hP 0 rfl rfl 7 (by decide) rfl L57 rfl dX1_endPart_5 ?_
  refine q_iald (x := 0) C hK hP 1 1 rfl rfl (vp_lit (by decide +kernel)) dX1_endPart_8 (h_sound_partCounts_2) ?_
  refine lv_istore_n (lv' := [(1, .int 0), (0, .ref q_sound_laws)]) hx hb dX1_endPart_9 rfl hl (by decide) rfl (fun ls hl => ?_)
  refine lv_iload_n hx hb dX1_endPart_10 rfl (lv_at hl 0 rfl) ?_
  refine lv_bipush (v := 13) hx hb dX1_endPart_11 (by decide) ?_
  refine lv_icmp_ge (tgt := 46) hx hb dX1_endPart_13 (by decide) (fun h => absurd h (by decide +kernel)) (fun _ => ?_)
  refine lv_aload_n hx hb dX1_endPart_16 rfl (lv_at hl 1 rfl) ?_
  refine q_get (v := .ref q_sound_partEnds) C inX1 hK hP 0 rfl rfl 1 (by decide) rfl L19 rfl dX1_endPart_17 ?_
  refine lv_aload_n hx hb dX1_endPart_20 rfl (lv_at hl 1 rfl) ?_
  refine q_get (v := .int 2) C inX1 hK hP 0 rfl rfl 7 (by decide) rfl L57 rfl dX1_endPart_21 ?_
  refine lv_bipush (v := 13) hx hb dX1_endPart_24 (by decide) ?_
  refine lv_imul hx hb dX1_endPart_26 ?_
  refine q_top (y := 26) (by decide +kernel) ?_
  refine lv_iload_n hx hb dX1_endPart_27 rfl (lv_at hl 0 rfl) ?_
  refine lv_iadd hx hb dX1_endPart_28 ?_
  refine q_top (y := 26) (by decide +kernel) ?_
  refine lv_aload_n hx hb dX1_endPart_29 rfl (lv_at hl 1 rfl) ?_
  refine q_get (v := .int 3) C inX1 hK hP 0 rfl rfl 6 (by decide) rfl L34 rfl dX1_endPart_30 ?_
  refine q_iast (f2 := (upd f_sound_partEnds 26 3)) (w2 := [(q_sound_laws, .inr (1, [u_sound_laws_0, .ref q_sound_partEnds, u_sound_laws_2, .ref q_sound_partCounts, u_sound_laws_4, u_sound_laws_5, .int 3, .int 2, u_sound_laws_8])), (q_sound_partCounts, .inl (cI, 4, .inl f_sound_partCounts)), (q_sound_partEnds, .inl (cI, 52, .inl (upd f_sound_partEnds 26 3)))]) C hK hP hD hS 2 1 rfl rfl (vp_lit (by decide +kernel)) dX1_endPart_33 rfl rfl (fun H locs hP hD hS => ?_)
  refine lv_aload_n hx hb dX1_endPart_34 rfl (lv_at hl 1 rfl) ?_
  refine q_get (v := .ref q_sound_partCounts) C inX1 hK hP 0 rfl rfl 3 (by decide) rfl L25 rfl dX1_endPart_35 ?_
  refine lv_aload_n hx hb dX1_endPart_38 rfl (lv_at hl 1 rfl) ?_
  refine q_get (v := .int 2) C inX1 hK hP 0 rfl rfl 7 (by decide) rfl L57 rfl dX1_endPart_39 ?_
  refine lv_iload_n hx hb dX1_endPart_42 rfl (lv_at hl 0 rfl) ?_
  refine lv_iconst (v := 1) hx hb dX1_endPart_43 (by decide) ?_
  refine lv_iadd hx hb dX1_endPart_44 ?_
  refine q_top (y := 1) (by decide +kernel) ?_
  refine q_iast (f2 := (upd f_sound_partCounts 2 1)) (w2 := [(q_sound_laws, .inr (1, [u_sound_laws_0, .ref q_sound_partEnds, u_sound_laws_2, .ref q_sound_partCounts, u_sound_laws_4, u_sound_laws_5, .int 3, .int 2, u_sound_laws_8])), (q_sound_partCounts, .inl (cI, 4, .inl (upd f_sound_partCounts 2 1))), (q_sound_partEnds, .inl (cI, 52, .inl (upd f_sound_partEnds 26 3)))]) C hK hP hD hS 1 1 rfl rfl (vp_lit (by decide +kernel)) dX1_endPart_45 rfl rfl (fun H locs hP hD hS => ?_)
  exact q_vret C hr hlocks hK hP hD hS (Nat.le_of_ble_eq_true rfl) (Nat.le_of_ble_eq_true rfl) dX1_endPart_46 (rfl)
