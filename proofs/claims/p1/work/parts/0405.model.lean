set_option maxRecDepth 20000 in
theorem ggX11_feed_X11_put : GoodIn wsX11_feed wsX11_put := goodIn_r _ [6, 7, 1, 8, 9, 10, 11, 12, 13, 14, 15, 16, 17, 18, 19, 20, 21, 22, 23, 24, 25, 26, 27, 28, 29, 30, 31, 32, 33, 34, 35, 36, 37, 38, 39, 40, 41, 42, 43, 44, 45, 46, 47, 48, 49, 50, 51, 52, 53, 54, 55, 56, 57, 58, 59, 60, 61, 62, 63, 64, 65] (by decide +kernel) (by decide +kernel)
set_option maxRecDepth 20000 in
theorem gX11_feed_X11_put : GoodIn wsX11_feed (wsV RX11 151 RX11 yX11_put wsX11_put) := goodIn_app (goodIn_of _ (by decide +kernel)) ggX11_feed_X11_put
theorem dX11_feed_0 : decode cX11_feed 0 = .ok (.aload_n 0, 1) := by decide +kernel
theorem dX11_feed_1 : decode cX11_feed 1 = .ok (.getfield 148, 3) := by decide +kernel
theorem dX11_feed_4 : decode cX11_feed 4 = .ok (.bipush 20, 2) := by decide +kernel
theorem dX11_feed_6 : decode cX11_feed 6 = .ok (.iadd, 1) := by decide +kernel
theorem dX11_feed_7 : decode cX11_feed 7 = .ok (.sipush 2000, 3) := by decide +kernel
theorem dX11_feed_10 : decode cX11_feed 10 = .ok (.if_icmp .le 5, 3) := by decide +kernel
theorem dX11_feed_15 : decode cX11_feed 15 = .ok (.aload_n 0, 1) := by decide +kernel
theorem dX11_feed_16 : decode cX11_feed 16 = .ok (.iload_n 1, 1) := by decide +kernel
theorem dX11_feed_17 : decode cX11_feed 17 = .ok (.invokevirtual 151, 3) := by decide +kernel
theorem dX11_feed_20 : decode cX11_feed 20 = .ok (.aload_n 0, 1) := by decide +kernel
theorem dX11_feed_21 : decode cX11_feed 21 = .ok (.iload_n 2, 1) := by decide +kernel
theorem dX11_feed_22 : decode cX11_feed 22 = .ok (.invokevirtual 151, 3) := by decide +kernel
theorem dX11_feed_25 : decode cX11_feed 25 = .ok (.aload_n 0, 1) := by decide +kernel
theorem dX11_feed_26 : decode cX11_feed 26 = .ok (.iload_n 3, 1) := by decide +kernel
theorem dX11_feed_27 : decode cX11_feed 27 = .ok (.invokevirtual 151, 3) := by decide +kernel
theorem dX11_feed_30 : decode cX11_feed 30 = .ok (.aload_n 0, 1) := by decide +kernel
theorem dX11_feed_31 : decode cX11_feed 31 = .ok (.iload 4, 2) := by decide +kernel
theorem dX11_feed_33 : decode cX11_feed 33 = .ok (.invokevirtual 151, 3) := by decide +kernel
theorem dX11_feed_36 : decode cX11_feed 36 = .ok (.aload_n 0, 1) := by decide +kernel
theorem dX11_feed_37 : decode cX11_feed 37 = .ok (.iload 5, 2) := by decide +kernel
theorem dX11_feed_39 : decode cX11_feed 39 = .ok (.invokevirtual 151, 3) := by decide +kernel
theorem dX11_feed_42 : decode cX11_feed 42 = .ok (.aload_n 0, 1) := by decide +kernel
theorem dX11_feed_43 : decode cX11_feed 43 = .ok (.getfield 148, 3) := by decide +kernel
theorem dX11_feed_46 : decode cX11_feed 46 = .ok (.ireturn, 1) := by decide +kernel
theorem dX11_back_0 : decode cX11_back 0 = .ok (.iload_n 1, 1) := by decide +kernel
theorem dX11_back_1 : decode cX11_back 1 = .ok (.ifCond .lt 11, 3) := by decide +kernel
theorem dX11_back_4 : decode cX11_back 4 = .ok (.iload_n 1, 1) := by decide +kernel
theorem dX11_back_5 : decode cX11_back 5 = .ok (.aload_n 0, 1) := by decide +kernel
theorem dX11_back_6 : decode cX11_back 6 = .ok (.getfield 148, 3) := by decide +kernel
theorem dX11_back_9 : decode cX11_back 9 = .ok (.if_icmp .le 5, 3) := by decide +kernel
theorem dX11_back_12 : decode cX11_back 12 = .ok (.iconst (-1), 1) := by decide +kernel
theorem dX11_back_13 : decode cX11_back 13 = .ok (.ireturn, 1) := by decide +kernel
theorem dX11_back_14 : decode cX11_back 14 = .ok (.aload_n 0, 1) := by decide +kernel
theorem dX11_back_15 : decode cX11_back 15 = .ok (.dup, 1) := by decide +kernel
theorem dX11_back_16 : decode cX11_back 16 = .ok (.getfield 148, 3) := by decide +kernel
theorem dX11_back_19 : decode cX11_back 19 = .ok (.iload_n 1, 1) := by decide +kernel
theorem dX11_back_20 : decode cX11_back 20 = .ok (.isub, 1) := by decide +kernel
theorem dX11_back_21 : decode cX11_back 21 = .ok (.putfield 148, 3) := by decide +kernel
theorem dX11_back_24 : decode cX11_back 24 = .ok (.aload_n 0, 1) := by decide +kernel
theorem dX11_back_25 : decode cX11_back 25 = .ok (.getfield 148, 3) := by decide +kernel
theorem dX11_back_28 : decode cX11_back 28 = .ok (.ireturn, 1) := by decide +kernel
set_option maxRecDepth 20000 in
theorem ggX11_hold_X11_in : GoodIn wsX11_hold wsX11_in := goodIn_r _ [7] (by decide +kernel) (by decide +kernel)
set_option maxRecDepth 20000 in
theorem gX11_hold_X11_in : GoodIn wsX11_hold (va_wsS RX11 281 yX11_in wsX11_in) := goodIn_app (goodIn_of _ (by decide +kernel)) ggX11_hold_X11_in
theorem dX11_hold_0 : decode cX11_hold 0 = .ok (.iload_n 1, 1) := by decide +kernel
theorem dX11_hold_1 : decode cX11_hold 1 = .ok (.iconst 0, 1) := by decide +kernel
theorem dX11_hold_2 : decode cX11_hold 2 = .ok (.iconst 2, 1) := by decide +kernel
theorem dX11_hold_3 : decode cX11_hold 3 = .ok (.invokestatic 281, 3) := by decide +kernel
theorem dX11_hold_6 : decode cX11_hold 6 = .ok (.ifCond .ne 5, 3) := by decide +kernel
theorem dX11_hold_9 : decode cX11_hold 9 = .ok (.iconst 0, 1) := by decide +kernel
theorem dX11_hold_10 : decode cX11_hold 10 = .ok (.ireturn, 1) := by decide +kernel
theorem dX11_hold_11 : decode cX11_hold 11 = .ok (.aload_n 0, 1) := by decide +kernel
theorem dX11_hold_12 : decode cX11_hold 12 = .ok (.getfield 128, 3) := by decide +kernel
theorem dX11_hold_15 : decode cX11_hold 15 = .ok (.iload_n 1, 1) := by decide +kernel
theorem dX11_hold_16 : decode cX11_hold 16 = .ok (.iconst 1, 1) := by decide +kernel
theorem dX11_hold_17 : decode cX11_hold 17 = .ok (.bastore, 1) := by decide +kernel
theorem dX11_hold_18 : decode cX11_hold 18 = .ok (.iconst 0, 1) := by decide +kernel
theorem dX11_hold_19 : decode cX11_hold 19 = .ok (.istore_n 2, 1) := by decide +kernel
theorem dX11_hold_20 : decode cX11_hold 20 = .ok (.iload_n 2, 1) := by decide +kernel
theorem dX11_hold_21 : decode cX11_hold 21 = .ok (.bipush 29, 2) := by decide +kernel
theorem dX11_hold_23 : decode cX11_hold 23 = .ok (.if_icmp .ge 26, 3) := by decide +kernel
theorem dX11_hold_26 : decode cX11_hold 26 = .ok (.aload_n 0, 1) := by decide +kernel
theorem dX11_hold_27 : decode cX11_hold 27 = .ok (.getfield 131, 3) := by decide +kernel
theorem dX11_hold_30 : decode cX11_hold 30 = .ok (.bipush 29, 2) := by decide +kernel
theorem dX11_hold_32 : decode cX11_hold 32 = .ok (.iload_n 1, 1) := by decide +kernel
theorem dX11_hold_33 : decode cX11_hold 33 = .ok (.imul, 1) := by decide +kernel
theorem dX11_hold_34 : decode cX11_hold 34 = .ok (.iload_n 2, 1) := by decide +kernel
theorem dX11_hold_35 : decode cX11_hold 35 = .ok (.iadd, 1) := by decide +kernel
theorem dX11_hold_36 : decode cX11_hold 36 = .ok (.aload_n 0, 1) := by decide +kernel
theorem dX11_hold_37 : decode cX11_hold 37 = .ok (.getfield 98, 3) := by decide +kernel
theorem dX11_hold_40 : decode cX11_hold 40 = .ok (.iload_n 2, 1) := by decide +kernel
theorem dX11_hold_41 : decode cX11_hold 41 = .ok (.iaload, 1) := by decide +kernel
theorem dX11_hold_42 : decode cX11_hold 42 = .ok (.iastore, 1) := by decide +kernel
theorem dX11_hold_43 : decode cX11_hold 43 = .ok (.iinc 2 1, 3) := by decide +kernel
theorem dX11_hold_46 : decode cX11_hold 46 = .ok (.goto (-26), 3) := by decide +kernel
theorem dX11_hold_49 : decode cX11_hold 49 = .ok (.iconst 1, 1) := by decide +kernel
theorem dX11_hold_50 : decode cX11_hold 50 = .ok (.ireturn, 1) := by decide +kernel
set_option maxHeartbeats 4000000 in
set_option maxRecDepth 100000 in
theorem c_put12 (l : Launch) (dC : Nat → ClassId) (dI : Nat → Nat → Nat) (cB cI cJ cZ cS : ClassId) (h : Nat) (a : Nat → Nat) (v : Nat → Int32) (f : Nat → Nat → Int32) (g : Nat → Nat → Int64) (hv2 : v 2 = 12) (x1 : Int32) : CV l yX11_put wsX11_put ({ frames := 0, cells := 0, slots := 0, locals := 0 }) (dC, dI) (tysA cB cI cJ cZ cS) (mw cB cI cJ cZ h a v f g) [.ref h, .int x1] (fun w => w = (mw cB cI cJ cZ h a (va_up v 2 16) (va_up f 1 (upd (upd (upd (upd (f 1) 12 (vp_nar .byte (Int8.toInt32 (Int32.toInt8 (x1 >>> (24 &&& 31)))))) 13 (vp_nar .byte (Int8.toInt32 (Int32.toInt8 (x1 >>> (16 &&& 31)))))) 14 (vp_nar .byte (Int8.toInt32 (Int32.toInt8 (x1 >>> (8 &&& 31)))))) 15 (vp_nar .byte (Int8.toInt32 (Int32.toInt8 (x1 >>> (0 &&& 31))))))) g)) := by
  refine open_V (cc := cX11_put) (maxL := 3) (ret := none) (by decide) rfl (Nat.le_of_ble_eq_true rfl) ?_
  intro p e s m below meth c A ls E
  obtain ⟨C, hr, hlocks, hnm, hA, hP, hK, hD, hN, hl⟩ := E
  obtain ⟨hx, hb, hml, hown, hts⟩ := id C
  have hS : va_S A s.heap s.heap [] := va_S.rf
  have hl : lv_has ls 3 [(0, .ref h), (1, .int x1)] := hl
  have inX11 : ∀ w ∈ u_ws RX11 TX11 58, w ∈ wsX11_put := fun _ h => List.mem_cons_of_mem _ (List.mem_append_right _ h)
  have L13 : Cond.fieldLink RX11 13 "GuessFerryModel" "tape" "[B" ∈ wsX11_put := by decide +kernel
  have L148 : Cond.fieldLink RX11 148 "GuessFerryModel" "taped" "I" ∈ wsX11_put := by decide +kernel
  refine lv_bipush (v := 24) hx hb dX11_put_0 (by decide) ?_
  refine lv_istore_n (lv' := [(2, .int 24), (0, .ref h), (1, .int x1)]) hx hb dX11_put_2 rfl hl (by decide) rfl (fun ls hl => ?_)
  refine lv_iload_n hx hb dX11_put_3 rfl (lv_at hl 0 rfl) ?_
  refine lv_if_lt (tgt := 36) hx hb dX11_put_4 (by decide) (fun h => absurd h (by decide +kernel)) (fun _ => ?_)
  refine lv_aload_n hx hb dX11_put_7 rfl (lv_at hl 1 rfl) ?_
  refine q_get (v := .ref (a 1)) C inX11 hK hP 0 rfl rfl 1 (by decide) rfl L13 rfl dX11_put_8 ?_
  refine lv_aload_n hx hb dX11_put_11 rfl (lv_at hl 1 rfl) ?_
  refine q_get (v := .int (v 2)) C inX11 hK hP 0 rfl rfl 2 (by decide) rfl L148 rfl dX11_put_12 ?_
  refine q_top (y := 12) (hv2) ?_
  refine lv_iload_n hx hb dX11_put_15 rfl (lv_at hl 2 rfl) ?_
  refine lv_iload_n hx hb dX11_put_16 rfl (lv_at hl 0 rfl) ?_
  refine lv_ishr hx hb dX11_put_17 ?_
  refine lv_i2b (v := (Int8.toInt32 (Int32.toInt8 (x1 >>> (24 &&& 31))))) hx hb dX11_put_18 rfl ?_
  refine q_bast (f2 := (upd (f 1) 12 (vp_nar .byte (Int8.toInt32 (Int32.toInt8 (x1 >>> (24 &&& 31))))))) (w2 := (mw cB cI cJ cZ h a v (va_up f 1 (upd (f 1) 12 (vp_nar .byte (Int8.toInt32 (Int32.toInt8 (x1 >>> (24 &&& 31))))))) g)) C hK hP hD hS 1 0 rfl rfl (vp_lit (by decide +kernel)) dX11_put_19 rfl rfl (fun H locs hP hD hS => ?_)
  refine lv_aload_n hx hb dX11_put_20 rfl (lv_at hl 1 rfl) ?_
  refine lv_dup hx hb dX11_put_21 rfl ?_
  refine q_get (v := .int (v 2)) C inX11 hK hP 0 rfl rfl 2 (by decide) rfl L148 rfl dX11_put_22 ?_
  refine q_top (y := 12) (hv2) ?_
  refine lv_iconst (v := 1) hx hb dX11_put_25 (by decide) ?_
  refine lv_iadd hx hb dX11_put_26 ?_
  refine q_top (y := 13) (by decide +kernel) ?_
  refine q_put (ty := .int) (w2 := (mw cB cI cJ cZ h a (va_up v 2 13) (va_up f 1 (upd (f 1) 12 (vp_nar .byte (Int8.toInt32 (Int32.toInt8 (x1 >>> (24 &&& 31))))))) g)) tyX11 tyX11_ok nmX11 C inX11 hK hP hD hS 0 rfl rfl 2 (by decide) rfl L148 rfl (by decide +kernel) (rfl) rfl (Nat.le_of_ble_eq_true rfl) dX11_put_27 rfl (fun H locs hP hD hS => ?_)
  refine lv_iinc (v := 16) (lv' := [(2, .int 16), (0, .ref h), (1, .int x1)]) hx hb dX11_put_30 hl (k := 0) rfl (by decide +kernel) (by decide) rfl (fun ls hl => ?_)
  refine lv_goto (tgt := 3) hx hb dX11_put_33 (by decide) ?_
  refine lv_iload_n hx hb dX11_put_3 rfl (lv_at hl 0 rfl) ?_
  refine lv_if_lt (tgt := 36) hx hb dX11_put_4 (by decide) (fun h => absurd h (by decide +kernel)) (fun _ => ?_)
  refine lv_aload_n hx hb dX11_put_7 rfl (lv_at hl 1 rfl) ?_
  refine q_get (v := .ref (a 1)) C inX11 hK hP 0 rfl rfl 1 (by decide) rfl L13 rfl dX11_put_8 ?_
  refine lv_aload_n hx hb dX11_put_11 rfl (lv_at hl 1 rfl) ?_
  refine q_get (v := .int 13) C inX11 hK hP 0 rfl rfl 2 (by decide) rfl L148 rfl dX11_put_12 ?_
  refine lv_iload_n hx hb dX11_put_15 rfl (lv_at hl 2 rfl) ?_
  refine lv_iload_n hx hb dX11_put_16 rfl (lv_at hl 0 rfl) ?_
  refine lv_ishr hx hb dX11_put_17 ?_
  refine lv_i2b (v := (Int8.toInt32 (Int32.toInt8 (x1 >>> (16 &&& 31))))) hx hb dX11_put_18 rfl ?_
  refine q_bast (f2 := (upd (upd (f 1) 12 (vp_nar .byte (Int8.toInt32 (Int32.toInt8 (x1 >>> (24 &&& 31)))))) 13 (vp_nar .byte (Int8.toInt32 (Int32.toInt8 (x1 >>> (16 &&& 31))))))) (w2 := (mw cB cI cJ cZ h a (va_up v 2 13) (va_up f 1 (upd (upd (f 1) 12 (vp_nar .byte (Int8.toInt32 (Int32.toInt8 (x1 >>> (24 &&& 31)))))) 13 (vp_nar .byte (Int8.toInt32 (Int32.toInt8 (x1 >>> (16 &&& 31))))))) g)) C hK hP hD hS 1 0 rfl rfl (vp_lit (by decide +kernel)) dX11_put_19 rfl rfl (fun H locs hP hD hS => ?_)
  refine lv_aload_n hx hb dX11_put_20 rfl (lv_at hl 1 rfl) ?_
  refine lv_dup hx hb dX11_put_21 rfl ?_
  refine q_get (v := .int 13) C inX11 hK hP 0 rfl rfl 2 (by decide) rfl L148 rfl dX11_put_22 ?_
  refine lv_iconst (v := 1) hx hb dX11_put_25 (by decide) ?_
  refine lv_iadd hx hb dX11_put_26 ?_
  refine q_top (y := 14) (by decide +kernel) ?_
  refine q_put (ty := .int) (w2 := (mw cB cI cJ cZ h a (va_up v 2 14) (va_up f 1 (upd (upd (f 1) 12 (vp_nar .byte (Int8.toInt32 (Int32.toInt8 (x1 >>> (24 &&& 31)))))) 13 (vp_nar .byte (Int8.toInt32 (Int32.toInt8 (x1 >>> (16 &&& 31))))))) g)) tyX11 tyX11_ok nmX11 C inX11 hK hP hD hS 0 rfl rfl 2 (by decide) rfl L148 rfl (by decide +kernel) (rfl) rfl (Nat.le_of_ble_eq_true rfl) dX11_put_27 rfl (fun H locs hP hD hS => ?_)
  refine lv_iinc (v := 8) (lv' := [(2, .int 8), (0, .ref h), (1, .int x1)]) hx hb dX11_put_30 hl (k := 0) rfl (by decide +kernel) (by decide) rfl (fun ls hl => ?_)
  refine lv_goto (tgt := 3) hx hb dX11_put_33 (by decide) ?_
  refine lv_iload_n hx hb dX11_put_3 rfl (lv_at hl 0 rfl) ?_
  refine lv_if_lt (tgt := 36) hx hb dX11_put_4 (by decide) (fun h => absurd h (by decide +kernel)) (fun _ => ?_)
  refine lv_aload_n hx hb dX11_put_7 rfl (lv_at hl 1 rfl) ?_
  refine q_get (v := .ref (a 1)) C inX11 hK hP 0 rfl rfl 1 (by decide) rfl L13 rfl dX11_put_8 ?_
  refine lv_aload_n hx hb dX11_put_11 rfl (lv_at hl 1 rfl) ?_
  refine q_get (v := .int 14) C inX11 hK hP 0 rfl rfl 2 (by decide) rfl L148 rfl dX11_put_12 ?_
  refine lv_iload_n hx hb dX11_put_15 rfl (lv_at hl 2 rfl) ?_
  refine lv_iload_n hx hb dX11_put_16 rfl (lv_at hl 0 rfl) ?_
  refine lv_ishr hx hb dX11_put_17 ?_
  refine lv_i2b (v := (Int8.toInt32 (Int32.toInt8 (x1 >>> (8 &&& 31))))) hx hb dX11_put_18 rfl ?_
  refine q_bast (f2 := (upd (upd (upd (f 1) 12 (vp_nar .byte (Int8.toInt32 (Int32.toInt8 (x1 >>> (24 &&& 31)))))) 13 (vp_nar .byte (Int8.toInt32 (Int32.toInt8 (x1 >>> (16 &&& 31)))))) 14 (vp_nar .byte (Int8.toInt32 (Int32.toInt8 (x1 >>> (8 &&& 31))))))) (w2 := (mw cB cI cJ cZ h a (va_up v 2 14) (va_up f 1 (upd (upd (upd (f 1) 12 (vp_nar .byte (Int8.toInt32 (Int32.toInt8 (x1 >>> (24 &&& 31)))))) 13 (vp_nar .byte (Int8.toInt32 (Int32.toInt8 (x1 >>> (16 &&& 31)))))) 14 (vp_nar .byte (Int8.toInt32 (Int32.toInt8 (x1 >>> (8 &&& 31))))))) g)) C hK hP hD hS 1 0 rfl rfl (vp_lit (by decide +kernel)) dX11_put_19 rfl rfl (fun H locs hP hD hS => ?_)
  refine lv_aload_n hx hb dX11_put_20 rfl (lv_at hl 1 rfl) ?_
  refine lv_dup hx hb dX11_put_21 rfl ?_
  refine q_get (v := .int 14) C inX11 hK hP 0 rfl rfl 2 (by decide) rfl L148 rfl dX11_put_22 ?_
  refine lv_iconst (v := 1) hx hb dX11_put_25 (by decide) ?_
  refine lv_iadd hx hb dX11_put_26 ?_
  refine q_top (y := 15) (by decide +kernel) ?_
  refine q_put (ty := .int) (w2 := (mw cB cI cJ cZ h a (va_up v 2 15) (va_up f 1 (upd (upd (upd (f 1) 12 (vp_nar .byte (Int8.toInt32 (Int32.toInt8 (x1 >>> (24 &&& 31)))))) 13 (vp_nar .byte (Int8.toInt32 (Int32.toInt8 (x1 >>> (16 &&& 31)))))) 14 (vp_nar .byte (Int8.toInt32 (Int32.toInt8 (x1 >>> (8 &&& 31))))))) g)) tyX11 tyX11_ok nmX11 C inX11 hK hP hD hS 0 rfl rfl 2 (by decide) rfl L148 rfl (by decide +kernel) (rfl) rfl (Nat.le_of_ble_eq_true rfl) dX11_put_27 rfl (fun H locs hP hD hS => ?_)
  refine lv_iinc (v := 0) (lv' := [(2, .int 0), (0, .ref h), (1, .int x1)]) hx hb dX11_put_30 hl (k := 0) rfl (by decide +kernel) (by decide) rfl (fun ls hl => ?_)
  refine lv_goto (tgt := 3) hx hb dX11_put_33 (by decide) ?_
  refine lv_iload_n hx hb dX11_put_3 rfl (lv_at hl 0 rfl) ?_
  refine lv_if_lt (tgt := 36) hx hb dX11_put_4 (by decide) (fun h => absurd h (by decide +kernel)) (fun _ => ?_)
  refine lv_aload_n hx hb dX11_put_7 rfl (lv_at hl 1 rfl) ?_
  refine q_get (v := .ref (a 1)) C inX11 hK hP 0 rfl rfl 1 (by decide) rfl L13 rfl dX11_put_8 ?_
  refine lv_aload_n hx hb dX11_put_11 rfl (lv_at hl 1 rfl) ?_
  refine q_get (v := .int 15) C inX11 hK hP 0 rfl rfl 2 (by decide) rfl L148 rfl dX11_put_12 ?_
  refine lv_iload_n hx hb dX11_put_15 rfl (lv_at hl 2 rfl) ?_
  refine lv_iload_n hx hb dX11_put_16 rfl (lv_at hl 0 rfl) ?_
  refine lv_ishr hx hb dX11_put_17 ?_
  refine lv_i2b (v := (Int8.toInt32 (Int32.toInt8 (x1 >>> (0 &&& 31))))) hx hb dX11_put_18 rfl ?_
  refine q_bast (f2 := (upd (upd (upd (upd (f 1) 12 (vp_nar .byte (Int8.toInt32 (Int32.toInt8 (x1 >>> (24 &&& 31)))))) 13 (vp_nar .byte (Int8.toInt32 (Int32.toInt8 (x1 >>> (16 &&& 31)))))) 14 (vp_nar .byte (Int8.toInt32 (Int32.toInt8 (x1 >>> (8 &&& 31)))))) 15 (vp_nar .byte (Int8.toInt32 (Int32.toInt8 (x1 >>> (0 &&& 31))))))) (w2 := (mw cB cI cJ cZ h a (va_up v 2 15) (va_up f 1 (upd (upd (upd (upd (f 1) 12 (vp_nar .byte (Int8.toInt32 (Int32.toInt8 (x1 >>> (24 &&& 31)))))) 13 (vp_nar .byte (Int8.toInt32 (Int32.toInt8 (x1 >>> (16 &&& 31)))))) 14 (vp_nar .byte (Int8.toInt32 (Int32.toInt8 (x1 >>> (8 &&& 31)))))) 15 (vp_nar .byte (Int8.toInt32 (Int32.toInt8 (x1 >>> (0 &&& 31))))))) g)) C hK hP hD hS 1 0 rfl rfl (vp_lit (by decide +kernel)) dX11_put_19 rfl rfl (fun H locs hP hD hS => ?_)
  refine lv_aload_n hx hb dX11_put_20 rfl (lv_at hl 1 rfl) ?_
  refine lv_dup hx hb dX11_put_21 rfl ?_
  refine q_get (v := .int 15) C inX11 hK hP 0 rfl rfl 2 (by decide) rfl L148 rfl dX11_put_22 ?_
  refine lv_iconst (v := 1) hx hb dX11_put_25 (by decide) ?_
  refine lv_iadd hx hb dX11_put_26 ?_
  refine q_top (y := 16) (by decide +kernel) ?_
  refine q_put (ty := .int) (w2 := (mw cB cI cJ cZ h a (va_up v 2 16) (va_up f 1 (upd (upd (upd (upd (f 1) 12 (vp_nar .byte (Int8.toInt32 (Int32.toInt8 (x1 >>> (24 &&& 31)))))) 13 (vp_nar .byte (Int8.toInt32 (Int32.toInt8 (x1 >>> (16 &&& 31)))))) 14 (vp_nar .byte (Int8.toInt32 (Int32.toInt8 (x1 >>> (8 &&& 31)))))) 15 (vp_nar .byte (Int8.toInt32 (Int32.toInt8 (x1 >>> (0 &&& 31))))))) g)) tyX11 tyX11_ok nmX11 C inX11 hK hP hD hS 0 rfl rfl 2 (by decide) rfl L148 rfl (by decide +kernel) (rfl) rfl (Nat.le_of_ble_eq_true rfl) dX11_put_27 rfl (fun H locs hP hD hS => ?_)
  refine lv_iinc (v := (-8)) (lv' := [(2, .int (-8)), (0, .ref h), (1, .int x1)]) hx hb dX11_put_30 hl (k := 0) rfl (by decide +kernel) (by decide) rfl (fun ls hl => ?_)
  refine lv_goto (tgt := 3) hx hb dX11_put_33 (by decide) ?_
  refine lv_iload_n hx hb dX11_put_3 rfl (lv_at hl 0 rfl) ?_
  refine lv_if_lt (tgt := 36) hx hb dX11_put_4 (by decide) (fun _ => ?_) (fun h => absurd (by decide +kernel) h)
  exact q_vret C hr hlocks hK hP hD hS (Nat.le_of_ble_eq_true rfl) (Nat.le_of_ble_eq_true rfl) dX11_put_36 (rfl)

set_option maxHeartbeats 4000000 in
set_option maxRecDepth 100000 in
theorem c_put16 (l : Launch) (dC : Nat → ClassId) (dI : Nat → Nat → Nat) (cB cI cJ cZ cS : ClassId) (h : Nat) (a : Nat → Nat) (v : Nat → Int32) (f : Nat → Nat → Int32) (g : Nat → Nat → Int64) (hv2 : v 2 = 16) (x1 : Int32) : CV l yX11_put wsX11_put ({ frames := 0, cells := 0, slots := 0, locals := 0 }) (dC, dI) (tysA cB cI cJ cZ cS) (mw cB cI cJ cZ h a v f g) [.ref h, .int x1] (fun w => w = (mw cB cI cJ cZ h a (va_up v 2 20) (va_up f 1 (upd (upd (upd (upd (f 1) 16 (vp_nar .byte (Int8.toInt32 (Int32.toInt8 (x1 >>> (24 &&& 31)))))) 17 (vp_nar .byte (Int8.toInt32 (Int32.toInt8 (x1 >>> (16 &&& 31)))))) 18 (vp_nar .byte (Int8.toInt32 (Int32.toInt8 (x1 >>> (8 &&& 31)))))) 19 (vp_nar .byte (Int8.toInt32 (Int32.toInt8 (x1 >>> (0 &&& 31))))))) g)) := by
  refine open_V (cc := cX11_put) (maxL := 3) (ret := none) (by decide) rfl (Nat.le_of_ble_eq_true rfl) ?_
  intro p e s m below meth c A ls E
  obtain ⟨C, hr, hlocks, hnm, hA, hP, hK, hD, hN, hl⟩ := E
  obtain ⟨hx, hb, hml, hown, hts⟩ := id C
  have hS : va_S A s.heap s.heap [] := va_S.rf
  have hl : lv_has ls 3 [(0, .ref h), (1, .int x1)] := hl
  have inX11 : ∀ w ∈ u_ws RX11 TX11 58, w ∈ wsX11_put := fun _ h => List.mem_cons_of_mem _ (List.mem_append_right _ h)
  have L13 : Cond.fieldLink RX11 13 "GuessFerryModel" "tape" "[B" ∈ wsX11_put := by decide +kernel
  have L148 : Cond.fieldLink RX11 148 "GuessFerryModel" "taped" "I" ∈ wsX11_put := by decide +kernel
  refine lv_bipush (v := 24) hx hb dX11_put_0 (by decide) ?_
  refine lv_istore_n (lv' := [(2, .int 24), (0, .ref h), (1, .int x1)]) hx hb dX11_put_2 rfl hl (by decide) rfl (fun ls hl => ?_)
  refine lv_iload_n hx hb dX11_put_3 rfl (lv_at hl 0 rfl) ?_
  refine lv_if_lt (tgt := 36) hx hb dX11_put_4 (by decide) (fun h => absurd h (by decide +kernel)) (fun _ => ?_)
  refine lv_aload_n hx hb dX11_put_7 rfl (lv_at hl 1 rfl) ?_
  refine q_get (v := .ref (a 1)) C inX11 hK hP 0 rfl rfl 1 (by decide) rfl L13 rfl dX11_put_8 ?_
  refine lv_aload_n hx hb dX11_put_11 rfl (lv_at hl 1 rfl) ?_
  refine q_get (v := .int (v 2)) C inX11 hK hP 0 rfl rfl 2 (by decide) rfl L148 rfl dX11_put_12 ?_
  refine q_top (y := 16) (hv2) ?_
  refine lv_iload_n hx hb dX11_put_15 rfl (lv_at hl 2 rfl) ?_
  refine lv_iload_n hx hb dX11_put_16 rfl (lv_at hl 0 rfl) ?_
  refine lv_ishr hx hb dX11_put_17 ?_
  refine lv_i2b (v := (Int8.toInt32 (Int32.toInt8 (x1 >>> (24 &&& 31))))) hx hb dX11_put_18 rfl ?_
  refine q_bast (f2 := (upd (f 1) 16 (vp_nar .byte (Int8.toInt32 (Int32.toInt8 (x1 >>> (24 &&& 31))))))) (w2 := (mw cB cI cJ cZ h a v (va_up f 1 (upd (f 1) 16 (vp_nar .byte (Int8.toInt32 (Int32.toInt8 (x1 >>> (24 &&& 31))))))) g)) C hK hP hD hS 1 0 rfl rfl (vp_lit (by decide +kernel)) dX11_put_19 rfl rfl (fun H locs hP hD hS => ?_)
  refine lv_aload_n hx hb dX11_put_20 rfl (lv_at hl 1 rfl) ?_
  refine lv_dup hx hb dX11_put_21 rfl ?_
  refine q_get (v := .int (v 2)) C inX11 hK hP 0 rfl rfl 2 (by decide) rfl L148 rfl dX11_put_22 ?_
  refine q_top (y := 16) (hv2) ?_
  refine lv_iconst (v := 1) hx hb dX11_put_25 (by decide) ?_
  refine lv_iadd hx hb dX11_put_26 ?_
  refine q_top (y := 17) (by decide +kernel) ?_
  refine q_put (ty := .int) (w2 := (mw cB cI cJ cZ h a (va_up v 2 17) (va_up f 1 (upd (f 1) 16 (vp_nar .byte (Int8.toInt32 (Int32.toInt8 (x1 >>> (24 &&& 31))))))) g)) tyX11 tyX11_ok nmX11 C inX11 hK hP hD hS 0 rfl rfl 2 (by decide) rfl L148 rfl (by decide +kernel) (rfl) rfl (Nat.le_of_ble_eq_true rfl) dX11_put_27 rfl (fun H locs hP hD hS => ?_)
  refine lv_iinc (v := 16) (lv' := [(2, .int 16), (0, .ref h), (1, .int x1)]) hx hb dX11_put_30 hl (k := 0) rfl (by decide +kernel) (by decide) rfl (fun ls hl => ?_)
  refine lv_goto (tgt := 3) hx hb dX11_put_33 (by decide) ?_
  refine lv_iload_n hx hb dX11_put_3 rfl (lv_at hl 0 rfl) ?_
  refine lv_if_lt (tgt := 36) hx hb dX11_put_4 (by decide) (fun h => absurd h (by decide +kernel)) (fun _ => ?_)
  refine lv_aload_n hx hb dX11_put_7 rfl (lv_at hl 1 rfl) ?_
  refine q_get (v := .ref (a 1)) C inX11 hK hP 0 rfl rfl 1 (by decide) rfl L13 rfl dX11_put_8 ?_
  refine lv_aload_n hx hb dX11_put_11 rfl (lv_at hl 1 rfl) ?_
  refine q_get (v := .int 17) C inX11 hK hP 0 rfl rfl 2 (by decide) rfl L148 rfl dX11_put_12 ?_
  refine lv_iload_n hx hb dX11_put_15 rfl (lv_at hl 2 rfl) ?_
  refine lv_iload_n hx hb dX11_put_16 rfl (lv_at hl 0 rfl) ?_
  refine lv_ishr hx hb dX11_put_17 ?_
  refine lv_i2b (v := (Int8.toInt32 (Int32.toInt8 (x1 >>> (16 &&& 31))))) hx hb dX11_put_18 rfl ?_
  refine q_bast (f2 := (upd (upd (f 1) 16 (vp_nar .byte (Int8.toInt32 (Int32.toInt8 (x1 >>> (24 &&& 31)))))) 17 (vp_nar .byte (Int8.toInt32 (Int32.toInt8 (x1 >>> (16 &&& 31))))))) (w2 := (mw cB cI cJ cZ h a (va_up v 2 17) (va_up f 1 (upd (upd (f 1) 16 (vp_nar .byte (Int8.toInt32 (Int32.toInt8 (x1 >>> (24 &&& 31)))))) 17 (vp_nar .byte (Int8.toInt32 (Int32.toInt8 (x1 >>> (16 &&& 31))))))) g)) C hK hP hD hS 1 0 rfl rfl (vp_lit (by decide +kernel)) dX11_put_19 rfl rfl (fun H locs hP hD hS => ?_)
  refine lv_aload_n hx hb dX11_put_20 rfl (lv_at hl 1 rfl) ?_
  refine lv_dup hx hb dX11_put_21 rfl ?_
  refine q_get (v := .int 17) C inX11 hK hP 0 rfl rfl 2 (by decide) rfl L148 rfl dX11_put_22 ?_
  refine lv_iconst (v := 1) hx hb dX11_put_25 (by decide) ?_
  refine lv_iadd hx hb dX11_put_26 ?_
  refine q_top (y := 18) (by decide +kernel) ?_
  refine q_put (ty := .int) (w2 := (mw cB cI cJ cZ h a (va_up v 2 18) (va_up f 1 (upd (upd (f 1) 16 (vp_nar .byte (Int8.toInt32 (Int32.toInt8 (x1 >>> (24 &&& 31)))))) 17 (vp_nar .byte (Int8.toInt32 (Int32.toInt8 (x1 >>> (16 &&& 31))))))) g)) tyX11 tyX11_ok nmX11 C inX11 hK hP hD hS 0 rfl rfl 2 (by decide) rfl L148 rfl (by decide +kernel) (rfl) rfl (Nat.le_of_ble_eq_true rfl) dX11_put_27 rfl (fun H locs hP hD hS => ?_)
  refine lv_iinc (v := 8) (lv' := [(2, .int 8), (0, .ref h), (1, .int x1)]) hx hb dX11_put_30 hl (k := 0) rfl (by decide +kernel) (by decide) rfl (fun ls hl => ?_)
  refine lv_goto (tgt := 3) hx hb dX11_put_33 (by decide) ?_
  refine lv_iload_n hx hb dX11_put_3 rfl (lv_at hl 0 rfl) ?_
  refine lv_if_lt (tgt := 36) hx hb dX11_put_4 (by decide) (fun h => absurd h (by decide +kernel)) (fun _ => ?_)
  refine lv_aload_n hx hb dX11_put_7 rfl (lv_at hl 1 rfl) ?_
  refine q_get (v := .ref (a 1)) C inX11 hK hP 0 rfl rfl 1 (by decide) rfl L13 rfl dX11_put_8 ?_
  refine lv_aload_n hx hb dX11_put_11 rfl (lv_at hl 1 rfl) ?_
  refine q_get (v := .int 18) C inX11 hK hP 0 rfl rfl 2 (by decide) rfl L148 rfl dX11_put_12 ?_
  refine lv_iload_n hx hb dX11_put_15 rfl (lv_at hl 2 rfl) ?_
  refine lv_iload_n hx hb dX11_put_16 rfl (lv_at hl 0 rfl) ?_
  refine lv_ishr hx hb dX11_put_17 ?_
  refine lv_i2b (v := (Int8.toInt32 (Int32.toInt8 (x1 >>> (8 &&& 31))))) hx hb dX11_put_18 rfl ?_
  refine q_bast (f2 := (upd (upd (upd (f 1) 16 (vp_nar .byte (Int8.toInt32 (Int32.toInt8 (x1 >>> (24 &&& 31)))))) 17 (vp_nar .byte (Int8.toInt32 (Int32.toInt8 (x1 >>> (16 &&& 31)))))) 18 (vp_nar .byte (Int8.toInt32 (Int32.toInt8 (x1 >>> (8 &&& 31))))))) (w2 := (mw cB cI cJ cZ h a (va_up v 2 18) (va_up f 1 (upd (upd (upd (f 1) 16 (vp_nar .byte (Int8.toInt32 (Int32.toInt8 (x1 >>> (24 &&& 31)))))) 17 (vp_nar .byte (Int8.toInt32 (Int32.toInt8 (x1 >>> (16 &&& 31)))))) 18 (vp_nar .byte (Int8.toInt32 (Int32.toInt8 (x1 >>> (8 &&& 31))))))) g)) C hK hP hD hS 1 0 rfl rfl (vp_lit (by decide +kernel)) dX11_put_19 rfl rfl (fun H locs hP hD hS => ?_)
  refine lv_aload_n hx hb dX11_put_20 rfl (lv_at hl 1 rfl) ?_
  refine lv_dup hx hb dX11_put_21 rfl ?_
  refine q_get (v := .int 18) C inX11 hK hP 0 rfl rfl 2 (by decide) rfl L148 rfl dX11_put_22 ?_
  refine lv_iconst (v := 1) hx hb dX11_put_25 (by decide) ?_
  refine lv_iadd hx hb dX11_put_26 ?_
  refine q_top (y := 19) (by decide +kernel) ?_
  refine q_put (ty := .int) (w2 := (mw cB cI cJ cZ h a (va_up v 2 19) (va_up f 1 (upd (upd (upd (f 1) 16 (vp_nar .byte (Int8.toInt32 (Int32.toInt8 (x1 >>> (24 &&& 31)))))) 17 (vp_nar .byte (Int8.toInt32 (Int32.toInt8 (x1 >>> (16 &&& 31)))))) 18 (vp_nar .byte (Int8.toInt32 (Int32.toInt8 (x1 >>> (8 &&& 31))))))) g)) tyX11 tyX11_ok nmX11 C inX11 hK hP hD hS 0 rfl rfl 2 (by decide) rfl L148 rfl (by decide +kernel) (rfl) rfl (Nat.le_of_ble_eq_true rfl) dX11_put_27 rfl (fun H locs hP hD hS => ?_)
  refine lv_iinc (v := 0) (lv' := [(2, .int 0), (0, .ref h), (1, .int x1)]) hx hb dX11_put_30 hl (k := 0) rfl (by decide +kernel) (by decide) rfl (fun ls hl => ?_)
  refine lv_goto (tgt := 3) hx hb dX11_put_33 (by decide) ?_
  refine lv_iload_n hx hb dX11_put_3 rfl (lv_at hl 0 rfl) ?_
  refine lv_if_lt (tgt := 36) hx hb dX11_put_4 (by decide) (fun h => absurd h (by decide +kernel)) (fun _ => ?_)
  refine lv_aload_n hx hb dX11_put_7 rfl (lv_at hl 1 rfl) ?_
  refine q_get (v := .ref (a 1)) C inX11 hK hP 0 rfl rfl 1 (by decide) rfl L13 rfl dX11_put_8 ?_
  refine lv_aload_n hx hb dX11_put_11 rfl (lv_at hl 1 rfl) ?_
  refine q_get (v := .int 19) C inX11 hK hP 0 rfl rfl 2 (by decide) rfl L148 rfl dX11_put_12 ?_
  refine lv_iload_n hx hb dX11_put_15 rfl (lv_at hl 2 rfl) ?_
  refine lv_iload_n hx hb dX11_put_16 rfl (lv_at hl 0 rfl) ?_
  refine lv_ishr hx hb dX11_put_17 ?_
  refine lv_i2b (v := (Int8.toInt32 (Int32.toInt8 (x1 >>> (0 &&& 31))))) hx hb dX11_put_18 rfl ?_
  refine q_bast (f2 := (upd (upd (upd (upd (f 1) 16 (vp_nar .byte (Int8.toInt32 (Int32.toInt8 (x1 >>> (24 &&& 31)))))) 17 (vp_nar .byte (Int8.toInt32 (Int32.toInt8 (x1 >>> (16 &&& 31)))))) 18 (vp_nar .byte (Int8.toInt32 (Int32.toInt8 (x1 >>> (8 &&& 31)))))) 19 (vp_nar .byte (Int8.toInt32 (Int32.toInt8 (x1 >>> (0 &&& 31))))))) (w2 := (mw cB cI cJ cZ h a (va_up v 2 19) (va_up f 1 (upd (upd (upd (upd (f 1) 16 (vp_nar .byte (Int8.toInt32 (Int32.toInt8 (x1 >>> (24 &&& 31)))))) 17 (vp_nar .byte (Int8.toInt32 (Int32.toInt8 (x1 >>> (16 &&& 31)))))) 18 (vp_nar .byte (Int8.toInt32 (Int32.toInt8 (x1 >>> (8 &&& 31)))))) 19 (vp_nar .byte (Int8.toInt32 (Int32.toInt8 (x1 >>> (0 &&& 31))))))) g)) C hK hP hD hS 1 0 rfl rfl (vp_lit (by decide +kernel)) dX11_put_19 rfl rfl (fun H locs hP hD hS => ?_)
  refine lv_aload_n hx hb dX11_put_20 rfl (lv_at hl 1 rfl) ?_
  refine lv_dup hx hb dX11_put_21 rfl ?_
  refine q_get (v := .int 19) C inX11 hK hP 0 rfl rfl 2 (by decide) rfl L148 rfl dX11_put_22 ?_
  refine lv_iconst (v := 1) hx hb dX11_put_25 (by decide) ?_
  refine lv_iadd hx hb dX11_put_26 ?_
  refine q_top (y := 20) (by decide +kernel) ?_
  refine q_put (ty := .int) (w2 := (mw cB cI cJ cZ h a (va_up v 2 20) (va_up f 1 (upd (upd (upd (upd (f 1) 16 (vp_nar .byte (Int8.toInt32 (Int32.toInt8 (x1 >>> (24 &&& 31)))))) 17 (vp_nar .byte (Int8.toInt32 (Int32.toInt8 (x1 >>> (16 &&& 31)))))) 18 (vp_nar .byte (Int8.toInt32 (Int32.toInt8 (x1 >>> (8 &&& 31)))))) 19 (vp_nar .byte (Int8.toInt32 (Int32.toInt8 (x1 >>> (0 &&& 31))))))) g)) tyX11 tyX11_ok nmX11 C inX11 hK hP hD hS 0 rfl rfl 2 (by decide) rfl L148 rfl (by decide +kernel) (rfl) rfl (Nat.le_of_ble_eq_true rfl) dX11_put_27 rfl (fun H locs hP hD hS => ?_)
  refine lv_iinc (v := (-8)) (lv' := [(2, .int (-8)), (0, .ref h), (1, .int x1)]) hx hb dX11_put_30 hl (k := 0) rfl (by decide +kernel) (by decide) rfl (fun ls hl => ?_)
  refine lv_goto (tgt := 3) hx hb dX11_put_33 (by decide) ?_
  refine lv_iload_n hx hb dX11_put_3 rfl (lv_at hl 0 rfl) ?_
  refine lv_if_lt (tgt := 36) hx hb dX11_put_4 (by decide) (fun _ => ?_) (fun h => absurd (by decide +kernel) h)
  exact q_vret C hr hlocks hK hP hD hS (Nat.le_of_ble_eq_true rfl) (Nat.le_of_ble_eq_true rfl) dX11_put_36 (rfl)

set_option maxHeartbeats 4000000 in
set_option maxRecDepth 100000 in
theorem c_feed (l : Launch) (dC : Nat → ClassId) (dI : Nat → Nat → Nat) (cB cI cJ cZ cS : ClassId) (h : Nat) (a : Nat → Nat) (v : Nat → Int32) (f : Nat → Nat → Int32) (g : Nat → Nat → Int64) (hv2 : v 2 = 0) (x1 : Int32) (x2 : Int32) (x3 : Int32) (x4 : Int32) (x5 : Int32) : CI l yX11_feed wsX11_feed ({ frames := 1, cells := 0, slots := 0, locals := 22 }) (dC, dI) (tysA cB cI cJ cZ cS) (mw cB cI cJ cZ h a v f g) [.ref h, .int x1, .int x2, .int x3, .int x4, .int x5] (fun r _ => r = 20) := by
  refine open_I (cc := cX11_feed) (maxL := 6) (ret := (some .int)) (by decide) rfl (Nat.le_of_ble_eq_true rfl) ?_
  intro p e s m below meth c A ls E
  obtain ⟨C, hr, hlocks, hnm, hA, hP, hK, hD, hN, hl⟩ := E
  obtain ⟨hx, hb, hml, hown, hts⟩ := id C
  have hS : va_S A s.heap s.heap [] := va_S.rf
  have hl : lv_has ls 6 [(0, .ref h), (1, .int x1), (2, .int x2), (3, .int x3), (4, .int x4), (5, .int x5)] := hl
  have inX11 : ∀ w ∈ u_ws RX11 TX11 58, w ∈ wsX11_feed := fun _ h => List.mem_cons_of_mem _ (List.mem_append_right _ h)
  have L148 : Cond.fieldLink RX11 148 "GuessFerryModel" "taped" "I" ∈ wsX11_feed := by decide +kernel
  refine lv_aload_n hx hb dX11_feed_0 rfl (lv_at hl 0 rfl) ?_
  refine q_get (v := .int (v 2)) C inX11 hK hP 0 rfl rfl 2 (by decide) rfl L148 rfl dX11_feed_1 ?_
  refine q_top (y := 0) (hv2) ?_
  refine lv_bipush (v := 20) hx hb dX11_feed_4 (by decide) ?_
  refine lv_iadd hx hb dX11_feed_6 ?_
  refine q_top (y := 20) (by decide +kernel) ?_
  refine lv_sipush (v := 2000) hx hb dX11_feed_7 (by decide) ?_
  refine lv_icmp_le (tgt := 15) hx hb dX11_feed_10 (by decide) (fun _ => ?_) (fun h => absurd (by decide +kernel) h)
  refine lv_aload_n hx hb dX11_feed_15 rfl (lv_at hl 0 rfl) ?_
  refine lv_iload_n hx hb dX11_feed_16 rfl (lv_at hl 1 rfl) ?_
  refine q_govF (va_runV (As := [.int x1]) (rest := []) C (c_put0 l dC dI cB cI cJ cZ cS h a v f g hv2 x1 _) (cwV 1 hts gX11_feed_X11_put rfl rfl rfl (by decide +kernel) ⟨Nat.le_of_ble_eq_true rfl, Nat.le_of_ble_eq_true rfl⟩) (q_preV hK hP (ci := 11) (q0 := 0) rfl rfl rfl (q_preF hN hK hP hD)) rfl rfl hl.1 rfl (lv_room (Nat.le_of_ble_eq_true rfl)) dX11_feed_17 ⟨Nat.le_of_ble_eq_true rfl, Nat.le_of_ble_eq_true rfl⟩) hD hS hA (fun w1 H locs hw hP hD hS => ?_)
  obtain rfl := hw
  have hP : va_P (dC, dI) vwCl (mw cB cI cJ cZ h a (va_up v 2 4) (va_up f 1 (upd (upd (upd (upd (f 1) 0 (vp_nar .byte (Int8.toInt32 (Int32.toInt8 (x1 >>> (24 &&& 31)))))) 1 (vp_nar .byte (Int8.toInt32 (Int32.toInt8 (x1 >>> (16 &&& 31)))))) 2 (vp_nar .byte (Int8.toInt32 (Int32.toInt8 (x1 >>> (8 &&& 31)))))) 3 (vp_nar .byte (Int8.toInt32 (Int32.toInt8 (x1 >>> (0 &&& 31))))))) g) H := hP
  have hD : va_D A (mw cB cI cJ cZ h a (va_up v 2 4) (va_up f 1 (upd (upd (upd (upd (f 1) 0 (vp_nar .byte (Int8.toInt32 (Int32.toInt8 (x1 >>> (24 &&& 31)))))) 1 (vp_nar .byte (Int8.toInt32 (Int32.toInt8 (x1 >>> (16 &&& 31)))))) 2 (vp_nar .byte (Int8.toInt32 (Int32.toInt8 (x1 >>> (8 &&& 31)))))) 3 (vp_nar .byte (Int8.toInt32 (Int32.toInt8 (x1 >>> (0 &&& 31))))))) g) := hD
  refine lv_aload_n hx hb dX11_feed_20 rfl (lv_at hl 0 rfl) ?_
  refine lv_iload_n hx hb dX11_feed_21 rfl (lv_at hl 2 rfl) ?_
  refine q_govF (va_runV (As := [.int x2]) (rest := []) C (c_put4 l dC dI cB cI cJ cZ cS h a (va_up v 2 4) (va_up f 1 (upd (upd (upd (upd (f 1) 0 (vp_nar .byte (Int8.toInt32 (Int32.toInt8 (x1 >>> (24 &&& 31)))))) 1 (vp_nar .byte (Int8.toInt32 (Int32.toInt8 (x1 >>> (16 &&& 31)))))) 2 (vp_nar .byte (Int8.toInt32 (Int32.toInt8 (x1 >>> (8 &&& 31)))))) 3 (vp_nar .byte (Int8.toInt32 (Int32.toInt8 (x1 >>> (0 &&& 31))))))) g rfl x2 _) (cwV 1 hts gX11_feed_X11_put rfl rfl rfl (by decide +kernel) ⟨Nat.le_of_ble_eq_true rfl, Nat.le_of_ble_eq_true rfl⟩) (q_preV hK hP (ci := 11) (q0 := 0) rfl rfl rfl (q_preF hN hK hP hD)) rfl rfl hl.1 rfl (lv_room (Nat.le_of_ble_eq_true rfl)) dX11_feed_22 ⟨Nat.le_of_ble_eq_true rfl, Nat.le_of_ble_eq_true rfl⟩) hD hS hA (fun w1 H locs hw hP hD hS => ?_)
  obtain rfl := hw
  have hP : va_P (dC, dI) vwCl (mw cB cI cJ cZ h a (va_up v 2 8) (va_up f 1 (upd (upd (upd (upd (upd (upd (upd (upd (f 1) 0 (vp_nar .byte (Int8.toInt32 (Int32.toInt8 (x2 >>> (24 &&& 31)))))) 1 (vp_nar .byte (Int8.toInt32 (Int32.toInt8 (x2 >>> (16 &&& 31)))))) 2 (vp_nar .byte (Int8.toInt32 (Int32.toInt8 (x2 >>> (8 &&& 31)))))) 3 (vp_nar .byte (Int8.toInt32 (Int32.toInt8 (x2 >>> (0 &&& 31)))))) 4 (vp_nar .byte (Int8.toInt32 (Int32.toInt8 (x2 >>> (24 &&& 31)))))) 5 (vp_nar .byte (Int8.toInt32 (Int32.toInt8 (x2 >>> (16 &&& 31)))))) 6 (vp_nar .byte (Int8.toInt32 (Int32.toInt8 (x2 >>> (8 &&& 31)))))) 7 (vp_nar .byte (Int8.toInt32 (Int32.toInt8 (x2 >>> (0 &&& 31))))))) g) H := hP
  have hD : va_D A (mw cB cI cJ cZ h a (va_up v 2 8) (va_up f 1 (upd (upd (upd (upd (upd (upd (upd (upd (f 1) 0 (vp_nar .byte (Int8.toInt32 (Int32.toInt8 (x2 >>> (24 &&& 31)))))) 1 (vp_nar .byte (Int8.toInt32 (Int32.toInt8 (x2 >>> (16 &&& 31)))))) 2 (vp_nar .byte (Int8.toInt32 (Int32.toInt8 (x2 >>> (8 &&& 31)))))) 3 (vp_nar .byte (Int8.toInt32 (Int32.toInt8 (x2 >>> (0 &&& 31)))))) 4 (vp_nar .byte (Int8.toInt32 (Int32.toInt8 (x2 >>> (24 &&& 31)))))) 5 (vp_nar .byte (Int8.toInt32 (Int32.toInt8 (x2 >>> (16 &&& 31)))))) 6 (vp_nar .byte (Int8.toInt32 (Int32.toInt8 (x2 >>> (8 &&& 31)))))) 7 (vp_nar .byte (Int8.toInt32 (Int32.toInt8 (x2 >>> (0 &&& 31))))))) g) := hD
  refine lv_aload_n hx hb dX11_feed_25 rfl (lv_at hl 0 rfl) ?_
  refine lv_iload_n hx hb dX11_feed_26 rfl (lv_at hl 3 rfl) ?_
  refine q_govF (va_runV (As := [.int x3]) (rest := []) C (c_put8 l dC dI cB cI cJ cZ cS h a (va_up v 2 8) (va_up f 1 (upd (upd (upd (upd (upd (upd (upd (upd (f 1) 0 (vp_nar .byte (Int8.toInt32 (Int32.toInt8 (x2 >>> (24 &&& 31)))))) 1 (vp_nar .byte (Int8.toInt32 (Int32.toInt8 (x2 >>> (16 &&& 31)))))) 2 (vp_nar .byte (Int8.toInt32 (Int32.toInt8 (x2 >>> (8 &&& 31)))))) 3 (vp_nar .byte (Int8.toInt32 (Int32.toInt8 (x2 >>> (0 &&& 31)))))) 4 (vp_nar .byte (Int8.toInt32 (Int32.toInt8 (x2 >>> (24 &&& 31)))))) 5 (vp_nar .byte (Int8.toInt32 (Int32.toInt8 (x2 >>> (16 &&& 31)))))) 6 (vp_nar .byte (Int8.toInt32 (Int32.toInt8 (x2 >>> (8 &&& 31)))))) 7 (vp_nar .byte (Int8.toInt32 (Int32.toInt8 (x2 >>> (0 &&& 31))))))) g rfl x3 _) (cwV 1 hts gX11_feed_X11_put rfl rfl rfl (by decide +kernel) ⟨Nat.le_of_ble_eq_true rfl, Nat.le_of_ble_eq_true rfl⟩) (q_preV hK hP (ci := 11) (q0 := 0) rfl rfl rfl (q_preF hN hK hP hD)) rfl rfl hl.1 rfl (lv_room (Nat.le_of_ble_eq_true rfl)) dX11_feed_27 ⟨Nat.le_of_ble_eq_true rfl, Nat.le_of_ble_eq_true rfl⟩) hD hS hA (fun w1 H locs hw hP hD hS => ?_)
  obtain rfl := hw
  have hP : va_P (dC, dI) vwCl (mw cB cI cJ cZ h a (va_up v 2 12) (va_up f 1 (upd (upd (upd (upd (upd (upd (upd (upd (upd (upd (upd (upd (f 1) 0 (vp_nar .byte (Int8.toInt32 (Int32.toInt8 (x2 >>> (24 &&& 31)))))) 1 (vp_nar .byte (Int8.toInt32 (Int32.toInt8 (x2 >>> (16 &&& 31)))))) 2 (vp_nar .byte (Int8.toInt32 (Int32.toInt8 (x2 >>> (8 &&& 31)))))) 3 (vp_nar .byte (Int8.toInt32 (Int32.toInt8 (x2 >>> (0 &&& 31)))))) 4 (vp_nar .byte (Int8.toInt32 (Int32.toInt8 (x2 >>> (24 &&& 31)))))) 5 (vp_nar .byte (Int8.toInt32 (Int32.toInt8 (x2 >>> (16 &&& 31)))))) 6 (vp_nar .byte (Int8.toInt32 (Int32.toInt8 (x2 >>> (8 &&& 31)))))) 7 (vp_nar .byte (Int8.toInt32 (Int32.toInt8 (x2 >>> (0 &&& 31)))))) 8 (vp_nar .byte (Int8.toInt32 (Int32.toInt8 (x3 >>> (24 &&& 31)))))) 9 (vp_nar .byte (Int8.toInt32 (Int32.toInt8 (x3 >>> (16 &&& 31)))))) 10 (vp_nar .byte (Int8.toInt32 (Int32.toInt8 (x3 >>> (8 &&& 31)))))) 11 (vp_nar .byte (Int8.toInt32 (Int32.toInt8 (x3 >>> (0 &&& 31))))))) g) H := hP
  have hD : va_D A (mw cB cI cJ cZ h a (va_up v 2 12) (va_up f 1 (upd (upd (upd (upd (upd (upd (upd (upd (upd (upd (upd (upd (f 1) 0 (vp_nar .byte (Int8.toInt32 (Int32.toInt8 (x2 >>> (24 &&& 31)))))) 1 (vp_nar .byte (Int8.toInt32 (Int32.toInt8 (x2 >>> (16 &&& 31)))))) 2 (vp_nar .byte (Int8.toInt32 (Int32.toInt8 (x2 >>> (8 &&& 31)))))) 3 (vp_nar .byte (Int8.toInt32 (Int32.toInt8 (x2 >>> (0 &&& 31)))))) 4 (vp_nar .byte (Int8.toInt32 (Int32.toInt8 (x2 >>> (24 &&& 31)))))) 5 (vp_nar .byte (Int8.toInt32 (Int32.toInt8 (x2 >>> (16 &&& 31)))))) 6 (vp_nar .byte (Int8.toInt32 (Int32.toInt8 (x2 >>> (8 &&& 31)))))) 7 (vp_nar .byte (Int8.toInt32 (Int32.toInt8 (x2 >>> (0 &&& 31)))))) 8 (vp_nar .byte (Int8.toInt32 (Int32.toInt8 (x3 >>> (24 &&& 31)))))) 9 (vp_nar .byte (Int8.toInt32 (Int32.toInt8 (x3 >>> (16 &&& 31)))))) 10 (vp_nar .byte (Int8.toInt32 (Int32.toInt8 (x3 >>> (8 &&& 31)))))) 11 (vp_nar .byte (Int8.toInt32 (Int32.toInt8 (x3 >>> (0 &&& 31))))))) g) := hD
  refine lv_aload_n hx hb dX11_feed_30 rfl (lv_at hl 0 rfl) ?_
  refine lv_iload hx hb dX11_feed_31 (lv_at hl 4 rfl) ?_
  refine q_govF (va_runV (As := [.int x4]) (rest := []) C (c_put12 l dC dI cB cI cJ cZ cS h a (va_up v 2 12) (va_up f 1 (upd (upd (upd (upd (upd (upd (upd (upd (upd (upd (upd (upd (f 1) 0 (vp_nar .byte (Int8.toInt32 (Int32.toInt8 (x2 >>> (24 &&& 31)))))) 1 (vp_nar .byte (Int8.toInt32 (Int32.toInt8 (x2 >>> (16 &&& 31)))))) 2 (vp_nar .byte (Int8.toInt32 (Int32.toInt8 (x2 >>> (8 &&& 31)))))) 3 (vp_nar .byte (Int8.toInt32 (Int32.toInt8 (x2 >>> (0 &&& 31)))))) 4 (vp_nar .byte (Int8.toInt32 (Int32.toInt8 (x2 >>> (24 &&& 31)))))) 5 (vp_nar .byte (Int8.toInt32 (Int32.toInt8 (x2 >>> (16 &&& 31)))))) 6 (vp_nar .byte (Int8.toInt32 (Int32.toInt8 (x2 >>> (8 &&& 31)))))) 7 (vp_nar .byte (Int8.toInt32 (Int32.toInt8 (x2 >>> (0 &&& 31)))))) 8 (vp_nar .byte (Int8.toInt32 (Int32.toInt8 (x3 >>> (24 &&& 31)))))) 9 (vp_nar .byte (Int8.toInt32 (Int32.toInt8 (x3 >>> (16 &&& 31)))))) 10 (vp_nar .byte (Int8.toInt32 (Int32.toInt8 (x3 >>> (8 &&& 31)))))) 11 (vp_nar .byte (Int8.toInt32 (Int32.toInt8 (x3 >>> (0 &&& 31))))))) g rfl x4 _) (cwV 1 hts gX11_feed_X11_put rfl rfl rfl (by decide +kernel) ⟨Nat.le_of_ble_eq_true rfl, Nat.le_of_ble_eq_true rfl⟩) (q_preV hK hP (ci := 11) (q0 := 0) rfl rfl rfl (q_preF hN hK hP hD)) rfl rfl hl.1 rfl (lv_room (Nat.le_of_ble_eq_true rfl)) dX11_feed_33 ⟨Nat.le_of_ble_eq_true rfl, Nat.le_of_ble_eq_true rfl⟩) hD hS hA (fun w1 H locs hw hP hD hS => ?_)
  obtain rfl := hw
  have hP : va_P (dC, dI) vwCl (mw cB cI cJ cZ h a (va_up v 2 16) (va_up f 1 (upd (upd (upd (upd (upd (upd (upd (upd (upd (upd (upd (upd (upd (upd (upd (upd (f 1) 0 (vp_nar .byte (Int8.toInt32 (Int32.toInt8 (x2 >>> (24 &&& 31)))))) 1 (vp_nar .byte (Int8.toInt32 (Int32.toInt8 (x2 >>> (16 &&& 31)))))) 2 (vp_nar .byte (Int8.toInt32 (Int32.toInt8 (x2 >>> (8 &&& 31)))))) 3 (vp_nar .byte (Int8.toInt32 (Int32.toInt8 (x2 >>> (0 &&& 31)))))) 4 (vp_nar .byte (Int8.toInt32 (Int32.toInt8 (x2 >>> (24 &&& 31)))))) 5 (vp_nar .byte (Int8.toInt32 (Int32.toInt8 (x2 >>> (16 &&& 31)))))) 6 (vp_nar .byte (Int8.toInt32 (Int32.toInt8 (x2 >>> (8 &&& 31)))))) 7 (vp_nar .byte (Int8.toInt32 (Int32.toInt8 (x2 >>> (0 &&& 31)))))) 8 (vp_nar .byte (Int8.toInt32 (Int32.toInt8 (x3 >>> (24 &&& 31)))))) 9 (vp_nar .byte (Int8.toInt32 (Int32.toInt8 (x3 >>> (16 &&& 31)))))) 10 (vp_nar .byte (Int8.toInt32 (Int32.toInt8 (x3 >>> (8 &&& 31)))))) 11 (vp_nar .byte (Int8.toInt32 (Int32.toInt8 (x3 >>> (0 &&& 31)))))) 12 (vp_nar .byte (Int8.toInt32 (Int32.toInt8 (x4 >>> (24 &&& 31)))))) 13 (vp_nar .byte (Int8.toInt32 (Int32.toInt8 (x4 >>> (16 &&& 31)))))) 14 (vp_nar .byte (Int8.toInt32 (Int32.toInt8 (x4 >>> (8 &&& 31)))))) 15 (vp_nar .byte (Int8.toInt32 (Int32.toInt8 (x4 >>> (0 &&& 31))))))) g) H := hP
  have hD : va_D A (mw cB cI cJ cZ h a (va_up v 2 16) (va_up f 1 (upd (upd (upd (upd (upd (upd (upd (upd (upd (upd (upd (upd (upd (upd (upd (upd (f 1) 0 (vp_nar .byte (Int8.toInt32 (Int32.toInt8 (x2 >>> (24 &&& 31)))))) 1 (vp_nar .byte (Int8.toInt32 (Int32.toInt8 (x2 >>> (16 &&& 31)))))) 2 (vp_nar .byte (Int8.toInt32 (Int32.toInt8 (x2 >>> (8 &&& 31)))))) 3 (vp_nar .byte (Int8.toInt32 (Int32.toInt8 (x2 >>> (0 &&& 31)))))) 4 (vp_nar .byte (Int8.toInt32 (Int32.toInt8 (x2 >>> (24 &&& 31)))))) 5 (vp_nar .byte (Int8.toInt32 (Int32.toInt8 (x2 >>> (16 &&& 31)))))) 6 (vp_nar .byte (Int8.toInt32 (Int32.toInt8 (x2 >>> (8 &&& 31)))))) 7 (vp_nar .byte (Int8.toInt32 (Int32.toInt8 (x2 >>> (0 &&& 31)))))) 8 (vp_nar .byte (Int8.toInt32 (Int32.toInt8 (x3 >>> (24 &&& 31)))))) 9 (vp_nar .byte (Int8.toInt32 (Int32.toInt8 (x3 >>> (16 &&& 31)))))) 10 (vp_nar .byte (Int8.toInt32 (Int32.toInt8 (x3 >>> (8 &&& 31)))))) 11 (vp_nar .byte (Int8.toInt32 (Int32.toInt8 (x3 >>> (0 &&& 31)))))) 12 (vp_nar .byte (Int8.toInt32 (Int32.toInt8 (x4 >>> (24 &&& 31)))))) 13 (vp_nar .byte (Int8.toInt32 (Int32.toInt8 (x4 >>> (16 &&& 31)))))) 14 (vp_nar .byte (Int8.toInt32 (Int32.toInt8 (x4 >>> (8 &&& 31)))))) 15 (vp_nar .byte (Int8.toInt32 (Int32.toInt8 (x4 >>> (0 &&& 31))))))) g) := hD
  refine lv_aload_n hx hb dX11_feed_36 rfl (lv_at hl 0 rfl) ?_
  refine lv_iload hx hb dX11_feed_37 (lv_at hl 5 rfl) ?_
  refine q_govF (va_runV (As := [.int x5]) (rest := []) C (c_put16 l dC dI cB cI cJ cZ cS h a (va_up v 2 16) (va_up f 1 (upd (upd (upd (upd (upd (upd (upd (upd (upd (upd (upd (upd (upd (upd (upd (upd (f 1) 0 (vp_nar .byte (Int8.toInt32 (Int32.toInt8 (x2 >>> (24 &&& 31)))))) 1 (vp_nar .byte (Int8.toInt32 (Int32.toInt8 (x2 >>> (16 &&& 31)))))) 2 (vp_nar .byte (Int8.toInt32 (Int32.toInt8 (x2 >>> (8 &&& 31)))))) 3 (vp_nar .byte (Int8.toInt32 (Int32.toInt8 (x2 >>> (0 &&& 31)))))) 4 (vp_nar .byte (Int8.toInt32 (Int32.toInt8 (x2 >>> (24 &&& 31)))))) 5 (vp_nar .byte (Int8.toInt32 (Int32.toInt8 (x2 >>> (16 &&& 31)))))) 6 (vp_nar .byte (Int8.toInt32 (Int32.toInt8 (x2 >>> (8 &&& 31)))))) 7 (vp_nar .byte (Int8.toInt32 (Int32.toInt8 (x2 >>> (0 &&& 31)))))) 8 (vp_nar .byte (Int8.toInt32 (Int32.toInt8 (x3 >>> (24 &&& 31)))))) 9 (vp_nar .byte (Int8.toInt32 (Int32.toInt8 (x3 >>> (16 &&& 31)))))) 10 (vp_nar .byte (Int8.toInt32 (Int32.toInt8 (x3 >>> (8 &&& 31)))))) 11 (vp_nar .byte (Int8.toInt32 (Int32.toInt8 (x3 >>> (0 &&& 31)))))) 12 (vp_nar .byte (Int8.toInt32 (Int32.toInt8 (x4 >>> (24 &&& 31)))))) 13 (vp_nar .byte (Int8.toInt32 (Int32.toInt8 (x4 >>> (16 &&& 31)))))) 14 (vp_nar .byte (Int8.toInt32 (Int32.toInt8 (x4 >>> (8 &&& 31)))))) 15 (vp_nar .byte (Int8.toInt32 (Int32.toInt8 (x4 >>> (0 &&& 31))))))) g rfl x5 _) (cwV 1 hts gX11_feed_X11_put rfl rfl rfl (by decide +kernel) ⟨Nat.le_of_ble_eq_true rfl, Nat.le_of_ble_eq_true rfl⟩) (q_preV hK hP (ci := 11) (q0 := 0) rfl rfl rfl (q_preF hN hK hP hD)) rfl rfl hl.1 rfl (lv_room (Nat.le_of_ble_eq_true rfl)) dX11_feed_39 ⟨Nat.le_of_ble_eq_true rfl, Nat.le_of_ble_eq_true rfl⟩) hD hS hA (fun w1 H locs hw hP hD hS => ?_)
  obtain rfl := hw
  have hP : va_P (dC, dI) vwCl (mw cB cI cJ cZ h a (va_up v 2 20) (va_up f 1 (upd (upd (upd (upd (upd (upd (upd (upd (upd (upd (upd (upd (upd (upd (upd (upd (upd (upd (upd (upd (f 1) 0 (vp_nar .byte (Int8.toInt32 (Int32.toInt8 (x2 >>> (24 &&& 31)))))) 1 (vp_nar .byte (Int8.toInt32 (Int32.toInt8 (x2 >>> (16 &&& 31)))))) 2 (vp_nar .byte (Int8.toInt32 (Int32.toInt8 (x2 >>> (8 &&& 31)))))) 3 (vp_nar .byte (Int8.toInt32 (Int32.toInt8 (x2 >>> (0 &&& 31)))))) 4 (vp_nar .byte (Int8.toInt32 (Int32.toInt8 (x2 >>> (24 &&& 31)))))) 5 (vp_nar .byte (Int8.toInt32 (Int32.toInt8 (x2 >>> (16 &&& 31)))))) 6 (vp_nar .byte (Int8.toInt32 (Int32.toInt8 (x2 >>> (8 &&& 31)))))) 7 (vp_nar .byte (Int8.toInt32 (Int32.toInt8 (x2 >>> (0 &&& 31)))))) 8 (vp_nar .byte (Int8.toInt32 (Int32.toInt8 (x3 >>> (24 &&& 31)))))) 9 (vp_nar .byte (Int8.toInt32 (Int32.toInt8 (x3 >>> (16 &&& 31)))))) 10 (vp_nar .byte (Int8.toInt32 (Int32.toInt8 (x3 >>> (8 &&& 31)))))) 11 (vp_nar .byte (Int8.toInt32 (Int32.toInt8 (x3 >>> (0 &&& 31)))))) 12 (vp_nar .byte (Int8.toInt32 (Int32.toInt8 (x4 >>> (24 &&& 31)))))) 13 (vp_nar .byte (Int8.toInt32 (Int32.toInt8 (x4 >>> (16 &&& 31)))))) 14 (vp_nar .byte (Int8.toInt32 (Int32.toInt8 (x4 >>> (8 &&& 31)))))) 15 (vp_nar .byte (Int8.toInt32 (Int32.toInt8 (x4 >>> (0 &&& 31)))))) 16 (vp_nar .byte (Int8.toInt32 (Int32.toInt8 (x5 >>> (24 &&& 31)))))) 17 (vp_nar .byte (Int8.toInt32 (Int32.toInt8 (x5 >>> (16 &&& 31)))))) 18 (vp_nar .byte (Int8.toInt32 (Int32.toInt8 (x5 >>> (8 &&& 31)))))) 19 (vp_nar .byte (Int8.toInt32 (Int32.toInt8 (x5 >>> (0 &&& 31))))))) g) H := hP
  have hD : va_D A (mw cB cI cJ cZ h a (va_up v 2 20) (va_up f 1 (upd (upd (upd (upd (upd (upd (upd (upd (upd (upd (upd (upd (upd (upd (upd (upd (upd (upd (upd (upd (f 1) 0 (vp_nar .byte (Int8.toInt32 (Int32.toInt8 (x2 >>> (24 &&& 31)))))) 1 (vp_nar .byte (Int8.toInt32 (Int32.toInt8 (x2 >>> (16 &&& 31)))))) 2 (vp_nar .byte (Int8.toInt32 (Int32.toInt8 (x2 >>> (8 &&& 31)))))) 3 (vp_nar .byte (Int8.toInt32 (Int32.toInt8 (x2 >>> (0 &&& 31)))))) 4 (vp_nar .byte (Int8.toInt32 (Int32.toInt8 (x2 >>> (24 &&& 31)))))) 5 (vp_nar .byte (Int8.toInt32 (Int32.toInt8 (x2 >>> (16 &&& 31)))))) 6 (vp_nar .byte (Int8.toInt32 (Int32.toInt8 (x2 >>> (8 &&& 31)))))) 7 (vp_nar .byte (Int8.toInt32 (Int32.toInt8 (x2 >>> (0 &&& 31)))))) 8 (vp_nar .byte (Int8.toInt32 (Int32.toInt8 (x3 >>> (24 &&& 31)))))) 9 (vp_nar .byte (Int8.toInt32 (Int32.toInt8 (x3 >>> (16 &&& 31)))))) 10 (vp_nar .byte (Int8.toInt32 (Int32.toInt8 (x3 >>> (8 &&& 31)))))) 11 (vp_nar .byte (Int8.toInt32 (Int32.toInt8 (x3 >>> (0 &&& 31)))))) 12 (vp_nar .byte (Int8.toInt32 (Int32.toInt8 (x4 >>> (24 &&& 31)))))) 13 (vp_nar .byte (Int8.toInt32 (Int32.toInt8 (x4 >>> (16 &&& 31)))))) 14 (vp_nar .byte (Int8.toInt32 (Int32.toInt8 (x4 >>> (8 &&& 31)))))) 15 (vp_nar .byte (Int8.toInt32 (Int32.toInt8 (x4 >>> (0 &&& 31)))))) 16 (vp_nar .byte (Int8.toInt32 (Int32.toInt8 (x5 >>> (24 &&& 31)))))) 17 (vp_nar .byte (Int8.toInt32 (Int32.toInt8 (x5 >>> (16 &&& 31)))))) 18 (vp_nar .byte (Int8.toInt32 (Int32.toInt8 (x5 >>> (8 &&& 31)))))) 19 (vp_nar .byte (Int8.toInt32 (Int32.toInt8 (x5 >>> (0 &&& 31))))))) g) := hD
  refine lv_aload_n hx hb dX11_feed_42 rfl (lv_at hl 0 rfl) ?_
  refine q_get (v := .int 20) C inX11 hK hP 0 rfl rfl 2 (by decide) rfl L148 rfl dX11_feed_43 ?_
  exact q_iret C hr hlocks hK hP hD hS (Nat.le_of_ble_eq_true rfl) (Nat.le_of_ble_eq_true rfl) dX11_feed_46 (rfl)

set_option maxHeartbeats 4000000 in
set_option maxRecDepth 100000 in
theorem c_back (l : Launch) (dC : Nat → ClassId) (dI : Nat → Nat → Nat) (cB cI cJ cZ cS : ClassId) (h : Nat) (a : Nat → Nat) (v : Nat → Int32) (f : Nat → Nat → Int32) (g : Nat → Nat → Int64) (hv2 : v 2 = 0) (x1 : Int32) : CI l yX11_back wsX11_back ({ frames := 0, cells := 0, slots := 0, locals := 0 }) (dC, dI) (tysA cB cI cJ cZ cS) (mw cB cI cJ cZ h a v f g) [.ref h, .int x1] (fun r _ => r = (fr_one 0 x1)) := by
  refine open_I (cc := cX11_back) (maxL := 2) (ret := (some .int)) (by decide) rfl (Nat.le_of_ble_eq_true rfl) ?_
  intro p e s m below meth c A ls E
  obtain ⟨C, hr, hlocks, hnm, hA, hP, hK, hD, hN, hl⟩ := E
  obtain ⟨hx, hb, hml, hown, hts⟩ := id C
  have hS : va_S A s.heap s.heap [] := va_S.rf
  have hl : lv_has ls 2 [(0, .ref h), (1, .int x1)] := hl
  have inX11 : ∀ w ∈ u_ws RX11 TX11 58, w ∈ wsX11_back := fun _ h => List.mem_cons_of_mem _ (List.mem_append_right _ h)
  have L148 : Cond.fieldLink RX11 148 "GuessFerryModel" "taped" "I" ∈ wsX11_back := by decide +kernel
  refine lv_iload_n hx hb dX11_back_0 rfl (lv_at hl 1 rfl) ?_
  refine lv_if_lt (tgt := 12) hx hb dX11_back_1 (by decide) (fun c1 => ?_) (fun c1 => ?_)
  · skip
    refine lv_iconst (v := (-1)) hx hb dX11_back_12 (by decide) ?_
    exact q_iret C hr hlocks hK hP hD hS (Nat.le_of_ble_eq_true rfl) (Nat.le_of_ble_eq_true rfl) dX11_back_13 (fr_one_lt c1)
  · skip
    refine lv_iload_n hx hb dX11_back_4 rfl (lv_at hl 1 rfl) ?_
    refine lv_aload_n hx hb dX11_back_5 rfl (lv_at hl 0 rfl) ?_
    refine q_get (v := .int (v 2)) C inX11 hK hP 0 rfl rfl 2 (by decide) rfl L148 rfl dX11_back_6 ?_
    refine q_top (y := 0) (hv2) ?_
    refine lv_icmp_le (tgt := 14) hx hb dX11_back_9 (by decide) (fun c2 => ?_) (fun c2 => ?_)
    · skip
      obtain rfl : x1 = 0 := Int32.le_antisymm c2 (Int32.not_lt.mp c1)
      refine lv_aload_n hx hb dX11_back_14 rfl (lv_at hl 0 rfl) ?_
      refine lv_dup hx hb dX11_back_15 rfl ?_
      refine q_get (v := .int (v 2)) C inX11 hK hP 0 rfl rfl 2 (by decide) rfl L148 rfl dX11_back_16 ?_
      refine q_top (y := 0) (hv2) ?_
      refine lv_iload_n hx hb dX11_back_19 rfl (lv_at hl 1 rfl) ?_
      refine lv_isub hx hb dX11_back_20 ?_
      refine q_top (y := 0) (by decide +kernel) ?_
      refine q_putS (ty := .int) tyX11 tyX11_ok nmX11 C inX11 hK hP hD hS 0 rfl rfl 2 (by decide) rfl L148 rfl (by decide +kernel) (rfl) rfl (Nat.le_of_ble_eq_true rfl) dX11_back_21 (congrArg (fun z => some (Value.int z)) hv2) (fun H locs hP hD hS => ?_)
      refine lv_aload_n hx hb dX11_back_24 rfl (lv_at hl 0 rfl) ?_
      refine q_get (v := .int (v 2)) C inX11 hK hP 0 rfl rfl 2 (by decide) rfl L148 rfl dX11_back_25 ?_
      refine q_top (y := 0) (hv2) ?_
      exact q_iret C hr hlocks hK hP hD hS (Nat.le_of_ble_eq_true rfl) (Nat.le_of_ble_eq_true rfl) dX11_back_28 (by decide +kernel)
    · skip
      refine lv_iconst (v := (-1)) hx hb dX11_back_12 (by decide) ?_
      exact q_iret C hr hlocks hK hP hD hS (Nat.le_of_ble_eq_true rfl) (Nat.le_of_ble_eq_true rfl) dX11_back_13 (fr_one_gt c2)

set_option maxHeartbeats 4000000 in
set_option maxRecDepth 100000 in
theorem c_hold (l : Launch) (dC : Nat → ClassId) (dI : Nat → Nat → Nat) (cB cI cJ cZ cS : ClassId) (h : Nat) (a : Nat → Nat) (v : Nat → Int32) (f : Nat → Nat → Int32) (g : Nat → Nat → Int64)  (x1 : Int32) : CI l yX11_hold wsX11_hold ({ frames := 1, cells := 0, slots := 0, locals := 22 }) (dC, dI) (tysA cB cI cJ cZ cS) (mw cB cI cJ cZ h a v f g) [.ref h, .int x1] (fun r _ => r = (sp_in x1 0 2)) := by
  refine open_I (cc := cX11_hold) (maxL := 3) (ret := (some .boolean)) (by decide) rfl (Nat.le_of_ble_eq_true rfl) ?_
  intro p e s m below meth c A ls E
  obtain ⟨C, hr, hlocks, hnm, hA, hP, hK, hD, hN, hl⟩ := E
  obtain ⟨hx, hb, hml, hown, hts⟩ := id C
  have hS : va_S A s.heap s.heap [] := va_S.rf
  have hl : lv_has ls 3 [(0, .ref h), (1, .int x1)] := hl
  have inX11 : ∀ w ∈ u_ws RX11 TX11 58, w ∈ wsX11_hold := fun _ h => List.mem_cons_of_mem _ (List.mem_append_right _ h)
  have L128 : Cond.fieldLink RX11 128 "GuessFerryModel" "isHeld" "[Z" ∈ wsX11_hold := by decide +kernel
  have L131 : Cond.fieldLink RX11 131 "GuessFerryModel" "heldRows" "[I" ∈ wsX11_hold := by decide +kernel
  have L98 : Cond.fieldLink RX11 98 "GuessFerryModel" "now" "[I" ∈ wsX11_hold := by decide +kernel
  refine lv_iload_n hx hb dX11_hold_0 rfl (lv_at hl 1 rfl) ?_
  refine lv_iconst (v := 0) hx hb dX11_hold_1 (by decide) ?_
  refine lv_iconst (v := 2) hx hb dX11_hold_2 (by decide) ?_
  refine q_goi0 (va_runS (As := [.int x1, .int 0, .int 2]) (rest := []) C (c_in l dC dI cB cI cJ cZ cS x1 0 2 _) (va_cwS 3 hts gX11_hold_X11_in rfl rfl rfl (by decide +kernel) ⟨Nat.le_of_ble_eq_true rfl, Nat.le_of_ble_eq_true rfl⟩) (q_pre0 hN hK) rfl rfl hl.1 rfl (lv_room (Nat.le_of_ble_eq_true rfl)) dX11_hold_3 ⟨Nat.le_of_ble_eq_true rfl, Nat.le_of_ble_eq_true rfl⟩) hP hD hS hA (fun r w1 H locs hw hP hS => ?_)
  obtain rfl := hw
  refine lv_if_ne (tgt := 11) hx hb dX11_hold_6 (by decide) (fun c1 => ?_) (fun c1 => ?_)
  · skip
    obtain rfl | rfl | rfl := sp_in_3c c1
    · skip
      refine lv_aload_n hx hb dX11_hold_11 rfl (lv_at hl 0 rfl) ?_
      refine q_get (v := .ref (a 56)) C inX11 hK hP 0 rfl rfl 56 (by decide) rfl L128 rfl dX11_hold_12 ?_
      refine lv_iload_n hx hb dX11_hold_15 rfl (lv_at hl 1 rfl) ?_
      refine lv_iconst (v := 1) hx hb dX11_hold_16 (by decide) ?_
      refine q_zast (f2 := (upd (f 56) 0 (vp_nar .boolean 1))) (w2 := (mw cB cI cJ cZ h a v (va_up f 56 (upd (f 56) 0 (vp_nar .boolean 1))) g)) C hK hP hD hS 37 3 rfl rfl (vp_lit (by decide +kernel)) dX11_hold_17 rfl rfl (fun H locs hP hD hS => ?_)
      refine lv_iconst (v := 0) hx hb dX11_hold_18 (by decide) ?_
      refine lv_istore_n (lv' := [(2, .int 0), (0, .ref h), (1, .int 0)]) hx hb dX11_hold_19 rfl hl (by decide) rfl (fun ls hl => ?_)
      have loop2 : ∀ (n i : Nat), i + n = 29 → ∀ (φ : Nat → Int32) (H : Heap) (locs : List Loc) (ls : Array Slot), va_P (dC, dI) vwCl (mw cB cI cJ cZ h a v (va_up (va_up f 56 (upd (f 56) 0 (vp_nar .boolean 1))) 57 φ) g) H → va_D A (mw cB cI cJ cZ h a v (va_up (va_up f 56 (upd (f 56) 0 (vp_nar .boolean 1))) 57 φ) g) → va_S A s.heap H locs → lv_has ls 3 [(2, .int (nI i)), (0, .ref h), (1, .int 0)] → W p l e ({ frames := 1, cells := 0, slots := 0, locals := 22 }) s m [Value.ref h, Value.int 0].toArray below meth c H locs 0 0 (MQ below (va_Qi (fun r _ => r = (sp_in x1 0 2)) (at_W (dC, dI) (tysA cB cI cJ cZ cS) A) A) [Value.ref h, Value.int 0].toArray s 0 0 A) (F0 m 20 ls []) := by
        intro n
        induction n with
        | zero =>
          intro i hi φ H locs ls hP hD hS hl
          obtain rfl : i = 29 := by omega
          refine lv_iload_n hx hb dX11_hold_20 rfl (lv_at hl 0 rfl) ?_
          refine lv_bipush (v := 29) hx hb dX11_hold_21 (by decide) ?_
          refine lv_icmp_ge (tgt := 49) hx hb dX11_hold_23 (by decide) (fun _ => ?_) (fun h => absurd (by decide +kernel) h)
          refine lv_iconst (v := 1) hx hb dX11_hold_49 (by decide) ?_
          exact q_zret C hr hlocks (Or.inr rfl) hK hP hD hS (Nat.le_of_ble_eq_true rfl) (Nat.le_of_ble_eq_true rfl) dX11_hold_50 (by decide +kernel)
        | succ n ih =>
          intro i hi φ H locs ls hP hD hS hl
          refine lv_iload_n hx hb dX11_hold_20 rfl (lv_at hl 0 rfl) ?_
          refine lv_bipush (v := 29) hx hb dX11_hold_21 (by decide) ?_
          refine lv_icmp_ge (tgt := 49) hx hb dX11_hold_23 (by decide) (fun h => absurd h (nI_nge (n := 29) (by omega) (by omega))) (fun _ => ?_)
          refine lv_aload_n hx hb dX11_hold_26 rfl (lv_at hl 1 rfl) ?_
          refine q_get (v := .ref (a 57)) C inX11 hK hP 0 rfl rfl 57 (by decide) rfl L131 rfl dX11_hold_27 ?_
          refine lv_bipush (v := 29) hx hb dX11_hold_30 (by decide) ?_
          refine lv_iload_n hx hb dX11_hold_32 rfl (lv_at hl 2 rfl) ?_
          refine lv_imul hx hb dX11_hold_33 ?_
          refine q_top (y := 0) (by decide +kernel) ?_
          refine lv_iload_n hx hb dX11_hold_34 rfl (lv_at hl 0 rfl) ?_
          refine lv_iadd hx hb dX11_hold_35 ?_
          refine q_top (y := (nI (0 + i))) (nI_add 0 i) ?_
          refine lv_aload_n hx hb dX11_hold_36 rfl (lv_at hl 1 rfl) ?_
          refine q_get (v := .ref (a 43)) C inX11 hK hP 0 rfl rfl 43 (by decide) rfl L98 rfl dX11_hold_37 ?_
          refine lv_iload_n hx hb dX11_hold_40 rfl (lv_at hl 0 rfl) ?_
          refine q_iald (x := (f 43 (Int32.toNatClampNeg (nI i)))) C hK hP 27 1 rfl rfl (vp_in_nI (by omega) (by omega)) dX11_hold_41 (rfl) ?_
          refine q_iast (f2 := (upd φ (Int32.toNatClampNeg (nI (0 + i))) (f 43 (Int32.toNatClampNeg (nI i))))) (w2 := (mw cB cI cJ cZ h a v (va_up (va_up f 56 (upd (f 56) 0 (vp_nar .boolean 1))) 57 (upd φ (Int32.toNatClampNeg (nI (0 + i))) (f 43 (Int32.toNatClampNeg (nI i))))) g)) C hK hP hD hS 38 1 rfl rfl (vp_in_nI (by omega) (by omega)) dX11_hold_42 rfl rfl (fun H locs hP hD hS => ?_)
          refine lv_iinc (v := (nI (i + 1))) (lv' := [(2, .int (nI (i + 1))), (0, .ref h), (1, .int 0)]) hx hb dX11_hold_43 hl (k := 0) rfl (nI_1 i) (by decide) rfl (fun ls hl => ?_)
          refine lv_goto (tgt := 20) hx hb dX11_hold_46 (by decide) ?_
          exact ih (i + 1) (by omega) (upd φ (Int32.toNatClampNeg (nI (0 + i))) (f 43 (Int32.toNatClampNeg (nI i)))) H locs ls hP hD hS (lv_sub hl [0, 1, 2] rfl)
      exact loop2 29 0 (by omega) (f 57) _ _ ls hP hD hS (lv_sub hl [0, 1, 2] rfl)
    · skip
      refine lv_aload_n hx hb dX11_hold_11 rfl (lv_at hl 0 rfl) ?_
      refine q_get (v := .ref (a 56)) C inX11 hK hP 0 rfl rfl 56 (by decide) rfl L128 rfl dX11_hold_12 ?_
      refine lv_iload_n hx hb dX11_hold_15 rfl (lv_at hl 1 rfl) ?_
      refine lv_iconst (v := 1) hx hb dX11_hold_16 (by decide) ?_
      refine q_zast (f2 := (upd (f 56) 1 (vp_nar .boolean 1))) (w2 := (mw cB cI cJ cZ h a v (va_up f 56 (upd (f 56) 1 (vp_nar .boolean 1))) g)) C hK hP hD hS 37 3 rfl rfl (vp_lit (by decide +kernel)) dX11_hold_17 rfl rfl (fun H locs hP hD hS => ?_)
      refine lv_iconst (v := 0) hx hb dX11_hold_18 (by decide) ?_
      refine lv_istore_n (lv' := [(2, .int 0), (0, .ref h), (1, .int 1)]) hx hb dX11_hold_19 rfl hl (by decide) rfl (fun ls hl => ?_)
      have loop3 : ∀ (n i : Nat), i + n = 29 → ∀ (φ : Nat → Int32) (H : Heap) (locs : List Loc) (ls : Array Slot), va_P (dC, dI) vwCl (mw cB cI cJ cZ h a v (va_up (va_up f 56 (upd (f 56) 1 (vp_nar .boolean 1))) 57 φ) g) H → va_D A (mw cB cI cJ cZ h a v (va_up (va_up f 56 (upd (f 56) 1 (vp_nar .boolean 1))) 57 φ) g) → va_S A s.heap H locs → lv_has ls 3 [(2, .int (nI i)), (0, .ref h), (1, .int 1)] → W p l e ({ frames := 1, cells := 0, slots := 0, locals := 22 }) s m [Value.ref h, Value.int 1].toArray below meth c H locs 0 0 (MQ below (va_Qi (fun r _ => r = (sp_in x1 0 2)) (at_W (dC, dI) (tysA cB cI cJ cZ cS) A) A) [Value.ref h, Value.int 1].toArray s 0 0 A) (F0 m 20 ls []) := by
        intro n
        induction n with
        | zero =>
          intro i hi φ H locs ls hP hD hS hl
          obtain rfl : i = 29 := by omega
          refine lv_iload_n hx hb dX11_hold_20 rfl (lv_at hl 0 rfl) ?_
          refine lv_bipush (v := 29) hx hb dX11_hold_21 (by decide) ?_
          refine lv_icmp_ge (tgt := 49) hx hb dX11_hold_23 (by decide) (fun _ => ?_) (fun h => absurd (by decide +kernel) h)
          refine lv_iconst (v := 1) hx hb dX11_hold_49 (by decide) ?_
          exact q_zret C hr hlocks (Or.inr rfl) hK hP hD hS (Nat.le_of_ble_eq_true rfl) (Nat.le_of_ble_eq_true rfl) dX11_hold_50 (by decide +kernel)
        | succ n ih =>
          intro i hi φ H locs ls hP hD hS hl
          refine lv_iload_n hx hb dX11_hold_20 rfl (lv_at hl 0 rfl) ?_
          refine lv_bipush (v := 29) hx hb dX11_hold_21 (by decide) ?_
          refine lv_icmp_ge (tgt := 49) hx hb dX11_hold_23 (by decide) (fun h => absurd h (nI_nge (n := 29) (by omega) (by omega))) (fun _ => ?_)
          refine lv_aload_n hx hb dX11_hold_26 rfl (lv_at hl 1 rfl) ?_
          refine q_get (v := .ref (a 57)) C inX11 hK hP 0 rfl rfl 57 (by decide) rfl L131 rfl dX11_hold_27 ?_
          refine lv_bipush (v := 29) hx hb dX11_hold_30 (by decide) ?_
          refine lv_iload_n hx hb dX11_hold_32 rfl (lv_at hl 2 rfl) ?_
          refine lv_imul hx hb dX11_hold_33 ?_
          refine q_top (y := 29) (by decide +kernel) ?_
          refine lv_iload_n hx hb dX11_hold_34 rfl (lv_at hl 0 rfl) ?_
          refine lv_iadd hx hb dX11_hold_35 ?_
          refine q_top (y := (nI (29 + i))) (nI_add 29 i) ?_
          refine lv_aload_n hx hb dX11_hold_36 rfl (lv_at hl 1 rfl) ?_
          refine q_get (v := .ref (a 43)) C inX11 hK hP 0 rfl rfl 43 (by decide) rfl L98 rfl dX11_hold_37 ?_
          refine lv_iload_n hx hb dX11_hold_40 rfl (lv_at hl 0 rfl) ?_
          refine q_iald (x := (f 43 (Int32.toNatClampNeg (nI i)))) C hK hP 27 1 rfl rfl (vp_in_nI (by omega) (by omega)) dX11_hold_41 (rfl) ?_
          refine q_iast (f2 := (upd φ (Int32.toNatClampNeg (nI (29 + i))) (f 43 (Int32.toNatClampNeg (nI i))))) (w2 := (mw cB cI cJ cZ h a v (va_up (va_up f 56 (upd (f 56) 1 (vp_nar .boolean 1))) 57 (upd φ (Int32.toNatClampNeg (nI (29 + i))) (f 43 (Int32.toNatClampNeg (nI i))))) g)) C hK hP hD hS 38 1 rfl rfl (vp_in_nI (by omega) (by omega)) dX11_hold_42 rfl rfl (fun H locs hP hD hS => ?_)
          refine lv_iinc (v := (nI (i + 1))) (lv' := [(2, .int (nI (i + 1))), (0, .ref h), (1, .int 1)]) hx hb dX11_hold_43 hl (k := 0) rfl (nI_1 i) (by decide) rfl (fun ls hl => ?_)
          refine lv_goto (tgt := 20) hx hb dX11_hold_46 (by decide) ?_
          exact ih (i + 1) (by omega) (upd φ (Int32.toNatClampNeg (nI (29 + i))) (f 43 (Int32.toNatClampNeg (nI i)))) H locs ls hP hD hS (lv_sub hl [0, 1, 2] rfl)
      exact loop3 29 0 (by omega) (f 57) _ _ ls hP hD hS (lv_sub hl [0, 1, 2] rfl)
    · skip
      refine lv_aload_n hx hb dX11_hold_11 rfl (lv_at hl 0 rfl) ?_
      refine q_get (v := .ref (a 56)) C inX11 hK hP 0 rfl rfl 56 (by decide) rfl L128 rfl dX11_hold_12 ?_
      refine lv_iload_n hx hb dX11_hold_15 rfl (lv_at hl 1 rfl) ?_
      refine lv_iconst (v := 1) hx hb dX11_hold_16 (by decide) ?_
      refine q_zast (f2 := (upd (f 56) 2 (vp_nar .boolean 1))) (w2 := (mw cB cI cJ cZ h a v (va_up f 56 (upd (f 56) 2 (vp_nar .boolean 1))) g)) C hK hP hD hS 37 3 rfl rfl (vp_lit (by decide +kernel)) dX11_hold_17 rfl rfl (fun H locs hP hD hS => ?_)
      refine lv_iconst (v := 0) hx hb dX11_hold_18 (by decide) ?_
      refine lv_istore_n (lv' := [(2, .int 0), (0, .ref h), (1, .int 2)]) hx hb dX11_hold_19 rfl hl (by decide) rfl (fun ls hl => ?_)
      have loop4 : ∀ (n i : Nat), i + n = 29 → ∀ (φ : Nat → Int32) (H : Heap) (locs : List Loc) (ls : Array Slot), va_P (dC, dI) vwCl (mw cB cI cJ cZ h a v (va_up (va_up f 56 (upd (f 56) 2 (vp_nar .boolean 1))) 57 φ) g) H → va_D A (mw cB cI cJ cZ h a v (va_up (va_up f 56 (upd (f 56) 2 (vp_nar .boolean 1))) 57 φ) g) → va_S A s.heap H locs → lv_has ls 3 [(2, .int (nI i)), (0, .ref h), (1, .int 2)] → W p l e ({ frames := 1, cells := 0, slots := 0, locals := 22 }) s m [Value.ref h, Value.int 2].toArray below meth c H locs 0 0 (MQ below (va_Qi (fun r _ => r = (sp_in x1 0 2)) (at_W (dC, dI) (tysA cB cI cJ cZ cS) A) A) [Value.ref h, Value.int 2].toArray s 0 0 A) (F0 m 20 ls []) := by
        intro n
        induction n with
        | zero =>
          intro i hi φ H locs ls hP hD hS hl
          obtain rfl : i = 29 := by omega
          refine lv_iload_n hx hb dX11_hold_20 rfl (lv_at hl 0 rfl) ?_
          refine lv_bipush (v := 29) hx hb dX11_hold_21 (by decide) ?_
          refine lv_icmp_ge (tgt := 49) hx hb dX11_hold_23 (by decide) (fun _ => ?_) (fun h => absurd (by decide +kernel) h)
          refine lv_iconst (v := 1) hx hb dX11_hold_49 (by decide) ?_
          exact q_zret C hr hlocks (Or.inr rfl) hK hP hD hS (Nat.le_of_ble_eq_true rfl) (Nat.le_of_ble_eq_true rfl) dX11_hold_50 (by decide +kernel)
        | succ n ih =>
          intro i hi φ H locs ls hP hD hS hl
          refine lv_iload_n hx hb dX11_hold_20 rfl (lv_at hl 0 rfl) ?_
          refine lv_bipush (v := 29) hx hb dX11_hold_21 (by decide) ?_
          refine lv_icmp_ge (tgt := 49) hx hb dX11_hold_23 (by decide) (fun h => absurd h (nI_nge (n := 29) (by omega) (by omega))) (fun _ => ?_)
          refine lv_aload_n hx hb dX11_hold_26 rfl (lv_at hl 1 rfl) ?_
          refine q_get (v := .ref (a 57)) C inX11 hK hP 0 rfl rfl 57 (by decide) rfl L131 rfl dX11_hold_27 ?_
          refine lv_bipush (v := 29) hx hb dX11_hold_30 (by decide) ?_
          refine lv_iload_n hx hb dX11_hold_32 rfl (lv_at hl 2 rfl) ?_
          refine lv_imul hx hb dX11_hold_33 ?_
          refine q_top (y := 58) (by decide +kernel) ?_
          refine lv_iload_n hx hb dX11_hold_34 rfl (lv_at hl 0 rfl) ?_
          refine lv_iadd hx hb dX11_hold_35 ?_
          refine q_top (y := (nI (58 + i))) (nI_add 58 i) ?_
          refine lv_aload_n hx hb dX11_hold_36 rfl (lv_at hl 1 rfl) ?_
          refine q_get (v := .ref (a 43)) C inX11 hK hP 0 rfl rfl 43 (by decide) rfl L98 rfl dX11_hold_37 ?_
          refine lv_iload_n hx hb dX11_hold_40 rfl (lv_at hl 0 rfl) ?_
          refine q_iald (x := (f 43 (Int32.toNatClampNeg (nI i)))) C hK hP 27 1 rfl rfl (vp_in_nI (by omega) (by omega)) dX11_hold_41 (rfl) ?_
          refine q_iast (f2 := (upd φ (Int32.toNatClampNeg (nI (58 + i))) (f 43 (Int32.toNatClampNeg (nI i))))) (w2 := (mw cB cI cJ cZ h a v (va_up (va_up f 56 (upd (f 56) 2 (vp_nar .boolean 1))) 57 (upd φ (Int32.toNatClampNeg (nI (58 + i))) (f 43 (Int32.toNatClampNeg (nI i))))) g)) C hK hP hD hS 38 1 rfl rfl (vp_in_nI (by omega) (by omega)) dX11_hold_42 rfl rfl (fun H locs hP hD hS => ?_)
          refine lv_iinc (v := (nI (i + 1))) (lv' := [(2, .int (nI (i + 1))), (0, .ref h), (1, .int 2)]) hx hb dX11_hold_43 hl (k := 0) rfl (nI_1 i) (by decide) rfl (fun ls hl => ?_)
          refine lv_goto (tgt := 20) hx hb dX11_hold_46 (by decide) ?_
          exact ih (i + 1) (by omega) (upd φ (Int32.toNatClampNeg (nI (58 + i))) (f 43 (Int32.toNatClampNeg (nI i)))) H locs ls hP hD hS (lv_sub hl [0, 1, 2] rfl)
      exact loop4 29 0 (by omega) (f 57) _ _ ls hP hD hS (lv_sub hl [0, 1, 2] rfl)
  · skip
    refine lv_iconst (v := 0) hx hb dX11_hold_9 (by decide) ?_
    exact q_zret C hr hlocks (Or.inl rfl) hK hP hD hS (Nat.le_of_ble_eq_true rfl) (Nat.le_of_ble_eq_true rfl) dX11_hold_10 (c1.symm)
