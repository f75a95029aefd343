theorem dX11_begins_0 : decode cX11_begins 0 = .ok (.iconst 0, 1) := by decide +kernel
theorem dX11_begins_1 : decode cX11_begins 1 = .ok (.istore_n 1, 1) := by decide +kernel
theorem dX11_begins_2 : decode cX11_begins 2 = .ok (.iload_n 1, 1) := by decide +kernel
theorem dX11_begins_3 : decode cX11_begins 3 = .ok (.bipush 29, 2) := by decide +kernel
theorem dX11_begins_5 : decode cX11_begins 5 = .ok (.if_icmp .ge 32, 3) := by decide +kernel
theorem dX11_begins_8 : decode cX11_begins 8 = .ok (.aload_n 0, 1) := by decide +kernel
theorem dX11_begins_9 : decode cX11_begins 9 = .ok (.getfield 101, 3) := by decide +kernel
theorem dX11_begins_12 : decode cX11_begins 12 = .ok (.iload_n 1, 1) := by decide +kernel
theorem dX11_begins_13 : decode cX11_begins 13 = .ok (.iload_n 1, 1) := by decide +kernel
theorem dX11_begins_14 : decode cX11_begins 14 = .ok (.iconst 5, 1) := by decide +kernel
theorem dX11_begins_15 : decode cX11_begins 15 = .ok (.if_icmp .lt 14, 3) := by decide +kernel
theorem dX11_begins_18 : decode cX11_begins 18 = .ok (.iload_n 1, 1) := by decide +kernel
theorem dX11_begins_19 : decode cX11_begins 19 = .ok (.bipush 10, 2) := by decide +kernel
theorem dX11_begins_21 : decode cX11_begins 21 = .ok (.if_icmp .ge 8, 3) := by decide +kernel
theorem dX11_begins_24 : decode cX11_begins 24 = .ok (.bipush (-2), 2) := by decide +kernel
theorem dX11_begins_26 : decode cX11_begins 26 = .ok (.goto 4, 3) := by decide +kernel
theorem dX11_begins_29 : decode cX11_begins 29 = .ok (.iconst 0, 1) := by decide +kernel
theorem dX11_begins_30 : decode cX11_begins 30 = .ok (.iastore, 1) := by decide +kernel
theorem dX11_begins_31 : decode cX11_begins 31 = .ok (.iinc 1 1, 3) := by decide +kernel
theorem dX11_begins_34 : decode cX11_begins 34 = .ok (.goto (-32), 3) := by decide +kernel
theorem dX11_begins_37 : decode cX11_begins 37 = .ok (.aload_n 0, 1) := by decide +kernel
theorem dX11_begins_38 : decode cX11_begins 38 = .ok (.getfield 104, 3) := by decide +kernel
theorem dX11_begins_41 : decode cX11_begins 41 = .ok (.iconst 0, 1) := by decide +kernel
theorem dX11_begins_42 : decode cX11_begins 42 = .ok (.iconst 1, 1) := by decide +kernel
theorem dX11_begins_43 : decode cX11_begins 43 = .ok (.iastore, 1) := by decide +kernel
theorem dX11_begins_44 : decode cX11_begins 44 = .ok (.iconst 1, 1) := by decide +kernel
theorem dX11_begins_45 : decode cX11_begins 45 = .ok (.istore_n 1, 1) := by decide +kernel
theorem dX11_begins_46 : decode cX11_begins 46 = .ok (.iload_n 1, 1) := by decide +kernel
theorem dX11_begins_47 : decode cX11_begins 47 = .ok (.bipush 6, 2) := by decide +kernel
theorem dX11_begins_49 : decode cX11_begins 49 = .ok (.if_icmp .ge 26, 3) := by decide +kernel
theorem dX11_begins_52 : decode cX11_begins 52 = .ok (.aload_n 0, 1) := by decide +kernel
theorem dX11_begins_53 : decode cX11_begins 53 = .ok (.getfield 104, 3) := by decide +kernel
theorem dX11_begins_56 : decode cX11_begins 56 = .ok (.iload_n 1, 1) := by decide +kernel
theorem dX11_begins_57 : decode cX11_begins 57 = .ok (.bipush 6, 2) := by decide +kernel
theorem dX11_begins_59 : decode cX11_begins 59 = .ok (.aload_n 0, 1) := by decide +kernel
theorem dX11_begins_60 : decode cX11_begins 60 = .ok (.getfield 104, 3) := by decide +kernel
theorem dX11_begins_63 : decode cX11_begins 63 = .ok (.iload_n 1, 1) := by decide +kernel
theorem dX11_begins_64 : decode cX11_begins 64 = .ok (.iconst 1, 1) := by decide +kernel
theorem dX11_begins_65 : decode cX11_begins 65 = .ok (.isub, 1) := by decide +kernel
theorem dX11_begins_66 : decode cX11_begins 66 = .ok (.iaload, 1) := by decide +kernel
theorem dX11_begins_67 : decode cX11_begins 67 = .ok (.imul, 1) := by decide +kernel
theorem dX11_begins_68 : decode cX11_begins 68 = .ok (.iastore, 1) := by decide +kernel
theorem dX11_begins_69 : decode cX11_begins 69 = .ok (.iinc 1 1, 3) := by decide +kernel
theorem dX11_begins_72 : decode cX11_begins 72 = .ok (.goto (-26), 3) := by decide +kernel
theorem dX11_begins_75 : decode cX11_begins 75 = .ok (.aload_n 0, 1) := by decide +kernel
theorem dX11_begins_76 : decode cX11_begins 76 = .ok (.aload_n 0, 1) := by decide +kernel
theorem dX11_begins_77 : decode cX11_begins 77 = .ok (.getfield 58, 3) := by decide +kernel
theorem dX11_begins_80 : decode cX11_begins 80 = .ok (.aload_n 0, 1) := by decide +kernel
theorem dX11_begins_81 : decode cX11_begins 81 = .ok (.getfield 215, 3) := by decide +kernel
theorem dX11_begins_84 : decode cX11_begins 84 = .ok (.iaload, 1) := by decide +kernel
theorem dX11_begins_85 : decode cX11_begins 85 = .ok (.putfield 289, 3) := by decide +kernel
theorem dX11_begins_88 : decode cX11_begins 88 = .ok (.return_, 1) := by decide +kernel
set_option maxHeartbeats 4000000 in
set_option maxRecDepth 100000 in
theorem c_plain1 (l : Launch) (dC : Nat → ClassId) (dI : Nat → Nat → Nat) (cB cI cJ cZ cS : ClassId) (h : Nat) (a : Nat → Nat) (v : Nat → Int32) (f : Nat → Nat → Int32) (g : Nat → Nat → Int64)  : CV l yX11_plain wsX11_plain ({ frames := 0, cells := 0, slots := 0, locals := 0 }) (dC, dI) (tysA cB cI cJ cZ cS) (mw cB cI cJ cZ h a v f g) [.ref h, .int 1] (fun w => w = (mw cB cI cJ cZ h a v (va_up (va_up (va_up (va_up (va_up (va_up (va_up (va_up (va_up (va_up (va_up f 20 (upd (f 20) 1 0)) 23 (upd (f 23) 1 0)) 26 (upd (f 26) 1 0)) 27 (upd (f 27) 4 0)) 28 (upd (f 28) 4 0)) 27 (upd (upd (f 27) 4 0) 5 0)) 28 (upd (upd (f 28) 4 0) 5 0)) 27 (upd (upd (upd (f 27) 4 0) 5 0) 6 0)) 28 (upd (upd (upd (f 28) 4 0) 5 0) 6 0)) 27 (upd (upd (upd (upd (f 27) 4 0) 5 0) 6 0) 7 0)) 28 (upd (upd (upd (upd (f 28) 4 0) 5 0) 6 0) 7 0)) g)) := by
  refine open_V (cc := cX11_plain) (maxL := 3) (ret := none) (by decide) rfl (Nat.le_of_ble_eq_true rfl) ?_
  intro p e s m below meth c A ls E
  obtain ⟨C, hr, hlocks, hnm, hA, hP, hK, hD, hN, hl⟩ := E
  obtain ⟨hx, hb, hml, hown, hts⟩ := id C
  have hS : va_S A s.heap s.heap [] := va_S.rf
  have hl : lv_has ls 3 [(0, .ref h), (1, .int 1)] := hl
  have inX11 : ∀ w ∈ u_ws RX11 TX11 58, w ∈ wsX11_plain := fun _ h => List.mem_cons_of_mem _ (List.mem_append_right _ h)
  have L40 : Cond.fieldLink RX11 40 "GuessFerryModel" "waves" "[I" ∈ wsX11_plain := by decide +kernel
  have L49 : Cond.fieldLink RX11 49 "GuessFerryModel" "parties" "[I" ∈ wsX11_plain := by decide +kernel
  have L58 : Cond.fieldLink RX11 58 "GuessFerryModel" "seed" "[I" ∈ wsX11_plain := by decide +kernel
  have L61 : Cond.fieldLink RX11 61 "GuessFerryModel" "lawFirst" "[I" ∈ wsX11_plain := by decide +kernel
  have L64 : Cond.fieldLink RX11 64 "GuessFerryModel" "lawLast" "[I" ∈ wsX11_plain := by decide +kernel
  refine lv_aload_n hx hb dX11_plain_0 rfl (lv_at hl 0 rfl) ?_
  refine q_get (v := .ref (a 20)) C inX11 hK hP 0 rfl rfl 20 (by decide) rfl L40 rfl dX11_plain_1 ?_
  refine lv_iload_n hx hb dX11_plain_4 rfl (lv_at hl 1 rfl) ?_
  refine lv_iconst (v := 0) hx hb dX11_plain_5 (by decide) ?_
  refine q_iast (f2 := (upd (f 20) 1 0)) (w2 := (mw cB cI cJ cZ h a v (va_up f 20 (upd (f 20) 1 0)) g)) C hK hP hD hS 8 1 rfl rfl (vp_lit (by decide +kernel)) dX11_plain_6 rfl (mw_f20 _) (fun H locs hP hD hS => ?_)
  refine lv_aload_n hx hb dX11_plain_7 rfl (lv_at hl 0 rfl) ?_
  refine q_get (v := .ref (a 23)) C inX11 hK hP 0 rfl rfl 23 (by decide) rfl L49 rfl dX11_plain_8 ?_
  refine lv_iload_n hx hb dX11_plain_11 rfl (lv_at hl 1 rfl) ?_
  refine lv_iconst (v := 0) hx hb dX11_plain_12 (by decide) ?_
  refine q_iast (f2 := (upd (f 23) 1 0)) (w2 := (mw cB cI cJ cZ h a v (va_up (va_up f 20 (upd (f 20) 1 0)) 23 (upd (f 23) 1 0)) g)) C hK hP hD hS 11 1 rfl rfl (vp_lit (by decide +kernel)) dX11_plain_13 rfl (mw_f23 _) (fun H locs hP hD hS => ?_)
  refine lv_aload_n hx hb dX11_plain_14 rfl (lv_at hl 0 rfl) ?_
  refine q_get (v := .ref (a 26)) C inX11 hK hP 0 rfl rfl 26 (by decide) rfl L58 rfl dX11_plain_15 ?_
  refine lv_iload_n hx hb dX11_plain_18 rfl (lv_at hl 1 rfl) ?_
  refine lv_iconst (v := 0) hx hb dX11_plain_19 (by decide) ?_
  refine q_iast (f2 := (upd (f 26) 1 0)) (w2 := (mw cB cI cJ cZ h a v (va_up (va_up (va_up f 20 (upd (f 20) 1 0)) 23 (upd (f 23) 1 0)) 26 (upd (f 26) 1 0)) g)) C hK hP hD hS 14 1 rfl rfl (vp_lit (by decide +kernel)) dX11_plain_20 rfl (mw_f26 _) (fun H locs hP hD hS => ?_)
  refine lv_iconst (v := 0) hx hb dX11_plain_21 (by decide) ?_
  refine lv_istore_n (lv' := [(2, .int 0), (0, .ref h), (1, .int 1)]) hx hb dX11_plain_22 rfl hl (by decide) rfl (fun ls hl => ?_)
  refine lv_iload_n hx hb dX11_plain_23 rfl (lv_at hl 0 rfl) ?_
  refine lv_iconst (v := 4) hx hb dX11_plain_24 (by decide) ?_
  refine lv_icmp_ge (tgt := 56) hx hb dX11_plain_25 (by decide) (fun h => absurd h (by decide +kernel)) (fun _ => ?_)
  refine lv_aload_n hx hb dX11_plain_28 rfl (lv_at hl 1 rfl) ?_
  refine q_get (v := .ref (a 27)) C inX11 hK hP 0 rfl rfl 27 (by decide) rfl L61 rfl dX11_plain_29 ?_
  refine lv_iconst (v := 4) hx hb dX11_plain_32 (by decide) ?_
  refine lv_iload_n hx hb dX11_plain_33 rfl (lv_at hl 2 rfl) ?_
  refine lv_imul hx hb dX11_plain_34 ?_
  refine q_top (y := 4) (by decide +kernel) ?_
  refine lv_iload_n hx hb dX11_plain_35 rfl (lv_at hl 0 rfl) ?_
  refine lv_iadd hx hb dX11_plain_36 ?_
  refine q_top (y := 4) (by decide +kernel) ?_
  refine lv_iconst (v := 0) hx hb dX11_plain_37 (by decide) ?_
  refine q_iast (f2 := (upd (f 27) 4 0)) (w2 := (mw cB cI cJ cZ h a v (va_up (va_up (va_up (va_up f 20 (upd (f 20) 1 0)) 23 (upd (f 23) 1 0)) 26 (upd (f 26) 1 0)) 27 (upd (f 27) 4 0)) g)) C hK hP hD hS 15 1 rfl rfl (vp_lit (by decide +kernel)) dX11_plain_38 rfl (mw_f27 _) (fun H locs hP hD hS => ?_)
  refine lv_aload_n hx hb dX11_plain_39 rfl (lv_at hl 1 rfl) ?_
  refine q_get (v := .ref (a 28)) C inX11 hK hP 0 rfl rfl 28 (by decide) rfl L64 rfl dX11_plain_40 ?_
  refine lv_iconst (v := 4) hx hb dX11_plain_43 (by decide) ?_
  refine lv_iload_n hx hb dX11_plain_44 rfl (lv_at hl 2 rfl) ?_
  refine lv_imul hx hb dX11_plain_45 ?_
  refine q_top (y := 4) (by decide +kernel) ?_
  refine lv_iload_n hx hb dX11_plain_46 rfl (lv_at hl 0 rfl) ?_
  refine lv_iadd hx hb dX11_plain_47 ?_
  refine q_top (y := 4) (by decide +kernel) ?_
  refine lv_iconst (v := 0) hx hb dX11_plain_48 (by decide) ?_
  refine q_iast (f2 := (upd (f 28) 4 0)) (w2 := (mw cB cI cJ cZ h a v (va_up (va_up (va_up (va_up (va_up f 20 (upd (f 20) 1 0)) 23 (upd (f 23) 1 0)) 26 (upd (f 26) 1 0)) 27 (upd (f 27) 4 0)) 28 (upd (f 28) 4 0)) g)) C hK hP hD hS 16 1 rfl rfl (vp_lit (by decide +kernel)) dX11_plain_49 rfl (mw_f28 _) (fun H locs hP hD hS => ?_)
  refine lv_iinc (v := 1) (lv' := [(2, .int 1), (0, .ref h), (1, .int 1)]) hx hb dX11_plain_50 hl (k := 0) rfl (by decide +kernel) (by decide) rfl (fun ls hl => ?_)
  refine lv_goto (tgt := 23) hx hb dX11_plain_53 (by decide) ?_
  refine lv_iload_n hx hb dX11_plain_23 rfl (lv_at hl 0 rfl) ?_
  refine lv_iconst (v := 4) hx hb dX11_plain_24 (by decide) ?_
  refine lv_icmp_ge (tgt := 56) hx hb dX11_plain_25 (by decide) (fun h => absurd h (by decide +kernel)) (fun _ => ?_)
  refine lv_aload_n hx hb dX11_plain_28 rfl (lv_at hl 1 rfl) ?_
  refine q_get (v := .ref (a 27)) C inX11 hK hP 0 rfl rfl 27 (by decide) rfl L61 rfl dX11_plain_29 ?_
  refine lv_iconst (v := 4) hx hb dX11_plain_32 (by decide) ?_
  refine lv_iload_n hx hb dX11_plain_33 rfl (lv_at hl 2 rfl) ?_
  refine lv_imul hx hb dX11_plain_34 ?_
  refine q_top (y := 4) (by decide +kernel) ?_
  refine lv_iload_n hx hb dX11_plain_35 rfl (lv_at hl 0 rfl) ?_
  refine lv_iadd hx hb dX11_plain_36 ?_
  refine q_top (y := 5) (by decide +kernel) ?_
  refine lv_iconst (v := 0) hx hb dX11_plain_37 (by decide) ?_
  refine q_iast (f2 := (upd (upd (f 27) 4 0) 5 0)) (w2 := (mw cB cI cJ cZ h a v (va_up (va_up (va_up (va_up (va_up (va_up f 20 (upd (f 20) 1 0)) 23 (upd (f 23) 1 0)) 26 (upd (f 26) 1 0)) 27 (upd (f 27) 4 0)) 28 (upd (f 28) 4 0)) 27 (upd (upd (f 27) 4 0) 5 0)) g)) C hK hP hD hS 15 1 rfl rfl (vp_lit (by decide +kernel)) dX11_plain_38 rfl (mw_f27 _) (fun H locs hP hD hS => ?_)
  refine lv_aload_n hx hb dX11_plain_39 rfl (lv_at hl 1 rfl) ?_
  refine q_get (v := .ref (a 28)) C inX11 hK hP 0 rfl rfl 28 (by decide) rfl L64 rfl dX11_plain_40 ?_
  refine lv_iconst (v := 4) hx hb dX11_plain_43 (by decide) ?_
  refine lv_iload_n hx hb dX11_plain_44 rfl (lv_at hl 2 rfl) ?_
  refine lv_imul hx hb dX11_plain_45 ?_
  refine q_top (y := 4) (by decide +kernel) ?_
  refine lv_iload_n hx hb dX11_plain_46 rfl (lv_at hl 0 rfl) ?_
  refine lv_iadd hx hb dX11_plain_47 ?_
  refine q_top (y := 5) (by decide +kernel) ?_
  refine lv_iconst (v := 0) hx hb dX11_plain_48 (by decide) ?_
  refine q_iast (f2 := (upd (upd (f 28) 4 0) 5 0)) (w2 := (mw cB cI cJ cZ h a v (va_up (va_up (va_up (va_up (va_up (va_up (va_up f 20 (upd (f 20) 1 0)) 23 (upd (f 23) 1 0)) 26 (upd (f 26) 1 0)) 27 (upd (f 27) 4 0)) 28 (upd (f 28) 4 0)) 27 (upd (upd (f 27) 4 0) 5 0)) 28 (upd (upd (f 28) 4 0) 5 0)) g)) C hK hP hD hS 16 1 rfl rfl (vp_lit (by decide +kernel)) dX11_plain_49 rfl (mw_f28 _) (fun H locs hP hD hS => ?_)
  refine lv_iinc (v := 2) (lv' := [(2, .int 2), (0, .ref h), (1, .int 1)]) hx hb dX11_plain_50 hl (k := 0) rfl (by decide +kernel) (by decide) rfl (fun ls hl => ?_)
  refine lv_goto (tgt := 23) hx hb dX11_plain_53 (by decide) ?_
  refine lv_iload_n hx hb dX11_plain_23 rfl (lv_at hl 0 rfl) ?_
  refine lv_iconst (v := 4) hx hb dX11_plain_24 (by decide) ?_
  refine lv_icmp_ge (tgt := 56) hx hb dX11_plain_25 (by decide) (fun h => absurd h (by decide +kernel)) (fun _ => ?_)
  refine lv_aload_n hx hb dX11_plain_28 rfl (lv_at hl 1 rfl) ?_
  refine q_get (v := .ref (a 27)) C inX11 hK hP 0 rfl rfl 27 (by decide) rfl L61 rfl dX11_plain_29 ?_
  refine lv_iconst (v := 4) hx hb dX11_plain_32 (by decide) ?_
  refine lv_iload_n hx hb dX11_plain_33 rfl (lv_at hl 2 rfl) ?_
  refine lv_imul hx hb dX11_plain_34 ?_
  refine q_top (y := 4) (by decide +kernel) ?_
  refine lv_iload_n hx hb dX11_plain_35 rfl (lv_at hl 0 rfl) ?_
  refine lv_iadd hx hb dX11_plain_36 ?_
  refine q_top (y := 6) (by decide +kernel) ?_
  refine lv_iconst (v := 0) hx hb dX11_plain_37 (by decide) ?_
  refine q_iast (f2 := (upd (upd (upd (f 27) 4 0) 5 0) 6 0)) (w2 := (mw cB cI cJ cZ h a v (va_up (va_up (va_up (va_up (va_up (va_up (va_up (va_up f 20 (upd (f 20) 1 0)) 23 (upd (f 23) 1 0)) 26 (upd (f 26) 1 0)) 27 (upd (f 27) 4 0)) 28 (upd (f 28) 4 0)) 27 (upd (upd (f 27) 4 0) 5 0)) 28 (upd (upd (f 28) 4 0) 5 0)) 27 (upd (upd (upd (f 27) 4 0) 5 0) 6 0)) g)) C hK hP hD hS 15 1 rfl rfl (vp_lit (by decide +kernel)) dX11_plain_38 rfl (mw_f27 _) (fun H locs hP hD hS => ?_)
  refine lv_aload_n hx hb dX11_plain_39 rfl (lv_at hl 1 rfl) ?_
  refine q_get (v := .ref (a 28)) C inX11 hK hP 0 rfl rfl 28 (by decide) rfl L64 rfl dX11_plain_40 ?_
  refine lv_iconst (v := 4) hx hb dX11_plain_43 (by decide) ?_
  refine lv_iload_n hx hb dX11_plain_44 rfl (lv_at hl 2 rfl) ?_
  refine lv_imul hx hb dX11_plain_45 ?_
  refine q_top (y := 4) (by decide +kernel) ?_
  refine lv_iload_n hx hb dX11_plain_46 rfl (lv_at hl 0 rfl) ?_
  refine lv_iadd hx hb dX11_plain_47 ?_
  refine q_top (y := 6) (by decide +kernel) ?_
  refine lv_iconst (v := 0) hx hb dX11_plain_48 (by decide) ?_
  refine q_iast (f2 := (upd (upd (upd (f 28) 4 0) 5 0) 6 0)) (w2 := (mw cB cI cJ cZ h a v (va_up (va_up (va_up (va_up (va_up (va_up (va_up (va_up (va_up f 20 (upd (f 20) 1 0)) 23 (upd (f 23) 1 0)) 26 (upd (f 26) 1 0)) 27 (upd (f 27) 4 0)) 28 (upd (f 28) 4 0)) 27 (upd (upd (f 27) 4 0) 5 0)) 28 (upd (upd (f 28) 4 0) 5 0)) 27 (upd (upd (upd (f 27) 4 0) 5 0) 6 0)) 28 (upd (upd (upd (f 28) 4 0) 5 0) 6 0)) g)) C hK hP hD hS 16 1 rfl rfl (vp_lit (by decide +kernel)) dX11_plain_49 rfl (mw_f28 _) (fun H locs hP hD hS => ?_)
  refine lv_iinc (v := 3) (lv' := [(2, .int 3), (0, .ref h), (1, .int 1)]) hx hb dX11_plain_50 hl (k := 0) rfl (by decide +kernel) (by decide) rfl (fun ls hl => ?_)
  refine lv_goto (tgt := 23) hx hb dX11_plain_53 (by decide) ?_
  refine lv_iload_n hx hb dX11_plain_23 rfl (lv_at hl 0 rfl) ?_
  refine lv_iconst (v := 4) hx hb dX11_plain_24 (by decide) ?_
  refine lv_icmp_ge (tgt := 56) hx hb dX11_plain_25 (by decide) (fun h => absurd h (by decide +kernel)) (fun _ => ?_)
  refine lv_aload_n hx hb dX11_plain_28 rfl (lv_at hl 1 rfl) ?_
  refine q_get (v := .ref (a 27)) C inX11 hK hP 0 rfl rfl 27 (by decide) rfl L61 rfl dX11_plain_29 ?_
  refine lv_iconst (v := 4) hx hb dX11_plain_32 (by decide) ?_
  refine lv_iload_n hx hb dX11_plain_33 rfl (lv_at hl 2 rfl) ?_
  refine lv_imul hx hb dX11_plain_34 ?_
  refine q_top (y := 4) (by decide +kernel) ?_
  refine lv_iload_n hx hb dX11_plain_35 rfl (lv_at hl 0 rfl) ?_
  refine lv_iadd hx hb dX11_plain_36 ?_
  refine q_top (y := 7) (by decide +kernel) ?_
  refine lv_iconst (v := 0) hx hb dX11_plain_37 (by decide) ?_
  refine q_iast (f2 := (upd (upd (upd (upd (f 27) 4 0) 5 0) 6 0) 7 0)) (w2 := (mw cB cI cJ cZ h a v (va_up (va_up (va_up (va_up (va_up (va_up (va_up (va_up (va_up (va_up f 20 (upd (f 20) 1 0)) 23 (upd (f 23) 1 0)) 26 (upd (f 26) 1 0)) 27 (upd (f 27) 4 0)) 28 (upd (f 28) 4 0)) 27 (upd (upd (f 27) 4 0) 5 0)) 28 (upd (upd (f 28) 4 0) 5 0)) 27 (upd (upd (upd (f 27) 4 0) 5 0) 6 0)) 28 (upd (upd (upd (f 28) 4 0) 5 0) 6 0)) 27 (upd (upd (upd (upd (f 27) 4 0) 5 0) 6 0) 7 0)) g)) C hK hP hD hS 15 1 rfl rfl (vp_lit (by decide +kernel)) dX11_plain_38 rfl (mw_f27 _) (fun H locs hP hD hS => ?_)
  refine lv_aload_n hx hb dX11_plain_39 rfl (lv_at hl 1 rfl) ?_
  refine q_get (v := .ref (a 28)) C inX11 hK hP 0 rfl rfl 28 (by decide) rfl L64 rfl dX11_plain_40 ?_
  refine lv_iconst (v := 4) hx hb dX11_plain_43 (by decide) ?_
  refine lv_iload_n hx hb dX11_plain_44 rfl (lv_at hl 2 rfl) ?_
  refine lv_imul hx hb dX11_plain_45 ?_
  refine q_top (y := 4) (by decide +kernel) ?_
  refine lv_iload_n hx hb dX11_plain_46 rfl (lv_at hl 0 rfl) ?_
  refine lv_iadd hx hb dX11_plain_47 ?_
  refine q_top (y := 7) (by decide +kernel) ?_
  refine lv_iconst (v := 0) hx hb dX11_plain_48 (by decide) ?_
  refine q_iast (f2 := (upd (upd (upd (upd (f 28) 4 0) 5 0) 6 0) 7 0)) (w2 := (mw cB cI cJ cZ h a v (va_up (va_up (va_up (va_up (va_up (va_up (va_up (va_up (va_up (va_up (va_up f 20 (upd (f 20) 1 0)) 23 (upd (f 23) 1 0)) 26 (upd (f 26) 1 0)) 27 (upd (f 27) 4 0)) 28 (upd (f 28) 4 0)) 27 (upd (upd (f 27) 4 0) 5 0)) 28 (upd (upd (f 28) 4 0) 5 0)) 27 (upd (upd (upd (f 27) 4 0) 5 0) 6 0)) 28 (upd (upd (upd (f 28) 4 0) 5 0) 6 0)) 27 (upd (upd (upd (upd (f 27) 4 0) 5 0) 6 0) 7 0)) 28 (upd (upd (upd (upd (f 28) 4 0) 5 0) 6 0) 7 0)) g)) C hK hP hD hS 16 1 rfl rfl (vp_lit (by decide +kernel)) dX11_plain_49 rfl (mw_f28 _) (fun H locs hP hD hS => ?_)
  refine lv_iinc (v := 4) (lv' := [(2, .int 4), (0, .ref h), (1, .int 1)]) hx hb dX11_plain_50 hl (k := 0) rfl (by decide +kernel) (by decide) rfl (fun ls hl => ?_)
  refine lv_goto (tgt := 23) hx hb dX11_plain_53 (by decide) ?_
  refine lv_iload_n hx hb dX11_plain_23 rfl (lv_at hl 0 rfl) ?_
  refine lv_iconst (v := 4) hx hb dX11_plain_24 (by decide) ?_
  refine lv_icmp_ge (tgt := 56) hx hb dX11_plain_25 (by decide) (fun _ => ?_) (fun h => absurd (by decide +kernel) h)
  exact q_vret C hr hlocks hK hP hD hS (Nat.le_of_ble_eq_true rfl) (Nat.le_of_ble_eq_true rfl) dX11_plain_56 (rfl)

set_option maxHeartbeats 4000000 in
set_option maxRecDepth 100000 in
theorem c_begins0 (l : Launch) (dC : Nat → ClassId) (dI : Nat → Nat → Nat) (cB cI cJ cZ cS : ClassId) (h : Nat) (a : Nat → Nat) (v : Nat → Int32) (f : Nat → Nat → Int32) (g : Nat → Nat → Int64) (hv18 : v 18 = 0) (hf26_0 : f 26 0 = 0) (hv45 : v 45 = 0) : CV l yX11_begins wsX11_begins ({ frames := 0, cells := 0, slots := 0, locals := 0 }) (dC, dI) (tysA cB cI cJ cZ cS) (mw cB cI cJ cZ h a v f g) [.ref h] (fun w => ∃ φ : Nat → Int32, (∀ j, j < 29 → φ j = F29 j) ∧ w = (mw cB cI cJ cZ h a v (va_up (va_up (va_up (va_up (va_up (va_up (va_up f 44 φ) 46 (upd (f 46) 0 1)) 46 (upd (upd (f 46) 0 1) 1 6)) 46 (upd (upd (upd (f 46) 0 1) 1 6) 2 36)) 46 (upd (upd (upd (upd (f 46) 0 1) 1 6) 2 36) 3 216)) 46 (upd (upd (upd (upd (upd (f 46) 0 1) 1 6) 2 36) 3 216) 4 1296)) 46 (upd (upd (upd (upd (upd (upd (f 46) 0 1) 1 6) 2 36) 3 216) 4 1296) 5 7776)) g)) := by
  refine open_V (cc := cX11_begins) (maxL := 2) (ret := none) (by decide) rfl (Nat.le_of_ble_eq_true rfl) ?_
  intro p e s m below meth c A ls E
  obtain ⟨C, hr, hlocks, hnm, hA, hP, hK, hD, hN, hl⟩ := E
  obtain ⟨hx, hb, hml, hown, hts⟩ := id C
  have hS : va_S A s.heap s.heap [] := va_S.rf
  have hl : lv_has ls 2 [(0, .ref h)] := hl
  have inX11 : ∀ w ∈ u_ws RX11 TX11 58, w ∈ wsX11_begins := fun _ h => List.mem_cons_of_mem _ (List.mem_append_right _ h)
  have L101 : Cond.fieldLink RX11 101 "GuessFerryModel" "row" "[I" ∈ wsX11_begins := by decide +kernel
  have L104 : Cond.fieldLink RX11 104 "GuessFerryModel" "sixes" "[I" ∈ wsX11_begins := by decide +kernel
  have L215 : Cond.fieldLink RX11 215 "GuessFerryModel" "live" "I" ∈ wsX11_begins := by decide +kernel
  have L289 : Cond.fieldLink RX11 289 "GuessFerryModel" "lots" "I" ∈ wsX11_begins := by decide +kernel
  have L58 : Cond.fieldLink RX11 58 "GuessFerryModel" "seed" "[I" ∈ wsX11_begins := by decide +kernel
  refine lv_iconst (v := 0) hx hb dX11_begins_0 (by decide) ?_
  refine lv_istore_n (lv' := [(1, .int 0), (0, .ref h)]) hx hb dX11_begins_1 rfl hl (by decide) rfl (fun ls hl => ?_)
  have loop1 : ∀ (n i : Nat), i + n = 29 → ∀ (φ : Nat → Int32) (H : Heap) (locs : List Loc) (ls : Array Slot), va_P (dC, dI) vwCl (mw cB cI cJ cZ h a v (va_up f 44 φ) g) H → va_D A (mw cB cI cJ cZ h a v (va_up f 44 φ) g) → va_S A s.heap H locs → lv_has ls 2 [(1, .int (nI i)), (0, .ref h)] → (∀ j, j < i → φ j = F29 j) → W p l e ({ frames := 0, cells := 0, slots := 0, locals := 0 }) s m [Value.ref h].toArray below meth c H locs 0 0 (MQ below (va_Qv (fun w => ∃ φ : Nat → Int32, (∀ j, j < 29 → φ j = F29 j) ∧ w = (mw cB cI cJ cZ h a v (va_up (va_up (va_up (va_up (va_up (va_up (va_up f 44 φ) 46 (upd (f 46) 0 1)) 46 (upd (upd (f 46) 0 1) 1 6)) 46 (upd (upd (upd (f 46) 0 1) 1 6) 2 36)) 46 (upd (upd (upd (upd (f 46) 0 1) 1 6) 2 36) 3 216)) 46 (upd (upd (upd (upd (upd (f 46) 0 1) 1 6) 2 36) 3 216) 4 1296)) 46 (upd (upd (upd (upd (upd (upd (f 46) 0 1) 1 6) 2 36) 3 216) 4 1296) 5 7776)) g)) (at_W (dC, dI) (tysA cB cI cJ cZ cS) A) A) [Value.ref h].toArray s 0 0 A) (F0 m 2 ls []) := by
    intro n
    induction n with
    | zero =>
      intro i hi φ H locs ls hP hD hS hl hφ
      obtain rfl : i = 29 := by omega
      refine lv_iload_n hx hb dX11_begins_2 rfl (lv_at hl 0 rfl) ?_
      refine lv_bipush (v := 29) hx hb dX11_begins_3 (by decide) ?_
      refine lv_icmp_ge (tgt := 37) hx hb dX11_begins_5 (by decide) (fun _ => ?_) (fun h => absurd (by decide +kernel) h)
      refine lv_aload_n hx hb dX11_begins_37 rfl (lv_at hl 1 rfl) ?_
      refine q_get (v := .ref (a 46)) C inX11 hK hP 0 rfl rfl 46 (by decide) rfl L104 rfl dX11_begins_38 ?_
      refine lv_iconst (v := 0) hx hb dX11_begins_41 (by decide) ?_
      refine lv_iconst (v := 1) hx hb dX11_begins_42 (by decide) ?_
      refine q_iast (f2 := (upd (f 46) 0 1)) (w2 := (mw cB cI cJ cZ h a v (va_up (va_up f 44 φ) 46 (upd (f 46) 0 1)) g)) C hK hP hD hS 29 1 rfl rfl (vp_lit (by decide +kernel)) dX11_begins_43 rfl (mw_f46 _) (fun H locs hP hD hS => ?_)
      refine lv_iconst (v := 1) hx hb dX11_begins_44 (by decide) ?_
      refine lv_istore_n (lv' := [(1, .int 1), (0, .ref h)]) hx hb dX11_begins_45 rfl hl (by decide) rfl (fun ls hl => ?_)
      refine lv_iload_n hx hb dX11_begins_46 rfl (lv_at hl 0 rfl) ?_
      refine lv_bipush (v := 6) hx hb dX11_begins_47 (by decide) ?_
      refine lv_icmp_ge (tgt := 75) hx hb dX11_begins_49 (by decide) (fun h => absurd h (by decide +kernel)) (fun _ => ?_)
      refine lv_aload_n hx hb dX11_begins_52 rfl (lv_at hl 1 rfl) ?_
      refine q_get (v := .ref (a 46)) C inX11 hK hP 0 rfl rfl 46 (by decide) rfl L104 rfl dX11_begins_53 ?_
      refine lv_iload_n hx hb dX11_begins_56 rfl (lv_at hl 0 rfl) ?_
      refine lv_bipush (v := 6) hx hb dX11_begins_57 (by decide) ?_
      refine lv_aload_n hx hb dX11_begins_59 rfl (lv_at hl 1 rfl) ?_
      refine q_get (v := .ref (a 46)) C inX11 hK hP 0 rfl rfl 46 (by decide) rfl L104 rfl dX11_begins_60 ?_
      refine lv_iload_n hx hb dX11_begins_63 rfl (lv_at hl 0 rfl) ?_
      refine lv_iconst (v := 1) hx hb dX11_begins_64 (by decide) ?_
      refine lv_isub hx hb dX11_begins_65 ?_
      refine q_top (y := 0) (by decide +kernel) ?_
      refine q_iald (x := 1) C hK hP 29 1 rfl rfl (vp_lit (by decide +kernel)) dX11_begins_66 (rfl) ?_
      refine lv_imul hx hb dX11_begins_67 ?_
      refine q_top (y := 6) (by decide +kernel) ?_
      refine q_iast (f2 := (upd (upd (f 46) 0 1) 1 6)) (w2 := (mw cB cI cJ cZ h a v (va_up (va_up (va_up f 44 φ) 46 (upd (f 46) 0 1)) 46 (upd (upd (f 46) 0 1) 1 6)) g)) C hK hP hD hS 29 1 rfl rfl (vp_lit (by decide +kernel)) dX11_begins_68 rfl (mw_f46 _) (fun H locs hP hD hS => ?_)
      refine lv_iinc (v := 2) (lv' := [(1, .int 2), (0, .ref h)]) hx hb dX11_begins_69 hl (k := 0) rfl (by decide +kernel) (by decide) rfl (fun ls hl => ?_)
      refine lv_goto (tgt := 46) hx hb dX11_begins_72 (by decide) ?_
      refine lv_iload_n hx hb dX11_begins_46 rfl (lv_at hl 0 rfl) ?_
      refine lv_bipush (v := 6) hx hb dX11_begins_47 (by decide) ?_
      refine lv_icmp_ge (tgt := 75) hx hb dX11_begins_49 (by decide) (fun h => absurd h (by decide +kernel)) (fun _ => ?_)
      refine lv_aload_n hx hb dX11_begins_52 rfl (lv_at hl 1 rfl) ?_
      refine q_get (v := .ref (a 46)) C inX11 hK hP 0 rfl rfl 46 (by decide) rfl L104 rfl dX11_begins_53 ?_
      refine lv_iload_n hx hb dX11_begins_56 rfl (lv_at hl 0 rfl) ?_
      refine lv_bipush (v := 6) hx hb dX11_begins_57 (by decide) ?_
      refine lv_aload_n hx hb dX11_begins_59 rfl (lv_at hl 1 rfl) ?_
      refine q_get (v := .ref (a 46)) C inX11 hK hP 0 rfl rfl 46 (by decide) rfl L104 rfl dX11_begins_60 ?_
      refine lv_iload_n hx hb dX11_begins_63 rfl (lv_at hl 0 rfl) ?_
      refine lv_iconst (v := 1) hx hb dX11_begins_64 (by decide) ?_
      refine lv_isub hx hb dX11_begins_65 ?_
      refine q_top (y := 1) (by decide +kernel) ?_
      refine q_iald (x := 6) C hK hP 29 1 rfl rfl (vp_lit (by decide +kernel)) dX11_begins_66 (rfl) ?_
      refine lv_imul hx hb dX11_begins_67 ?_
      refine q_top (y := 36) (by decide +kernel) ?_
      refine q_iast (f2 := (upd (upd (upd (f 46) 0 1) 1 6) 2 36)) (w2 := (mw cB cI cJ cZ h a v (va_up (va_up (va_up (va_up f 44 φ) 46 (upd (f 46) 0 1)) 46 (upd (upd (f 46) 0 1) 1 6)) 46 (upd (upd (upd (f 46) 0 1) 1 6) 2 36)) g)) C hK hP hD hS 29 1 rfl rfl (vp_lit (by decide +kernel)) dX11_begins_68 rfl (mw_f46 _) (fun H locs hP hD hS => ?_)
      refine lv_iinc (v := 3) (lv' := [(1, .int 3), (0, .ref h)]) hx hb dX11_begins_69 hl (k := 0) rfl (by decide +kernel) (by decide) rfl (fun ls hl => ?_)
      refine lv_goto (tgt := 46) hx hb dX11_begins_72 (by decide) ?_
      refine lv_iload_n hx hb dX11_begins_46 rfl (lv_at hl 0 rfl) ?_
      refine lv_bipush (v := 6) hx hb dX11_begins_47 (by decide) ?_
      refine lv_icmp_ge (tgt := 75) hx hb dX11_begins_49 (by decide) (fun h => absurd h (by decide +kernel)) (fun _ => ?_)
      refine lv_aload_n hx hb dX11_begins_52 rfl (lv_at hl 1 rfl) ?_
      refine q_get (v := .ref (a 46)) C inX11 hK hP 0 rfl rfl 46 (by decide) rfl L104 rfl dX11_begins_53 ?_
      refine lv_iload_n hx hb dX11_begins_56 rfl (lv_at hl 0 rfl) ?_
      refine lv_bipush (v := 6) hx hb dX11_begins_57 (by decide) ?_
      refine lv_aload_n hx hb dX11_begins_59 rfl (lv_at hl 1 rfl) ?_
      refine q_get (v := .ref (a 46)) C inX11 hK hP 0 rfl rfl 46 (by decide) rfl L104 rfl dX11_begins_60 ?_
      refine lv_iload_n hx hb dX11_begins_63 rfl (lv_at hl 0 rfl) ?_
      refine lv_iconst (v := 1) hx hb dX11_begins_64 (by decide) ?_
      refine lv_isub hx hb dX11_begins_65 ?_
      refine q_top (y := 2) (by decide +kernel) ?_
      refine q_iald (x := 36) C hK hP 29 1 rfl rfl (vp_lit (by decide +kernel)) dX11_begins_66 (rfl) ?_
      refine lv_imul hx hb dX11_begins_67 ?_
      refine q_top (y := 216) (by decide +kernel) ?_
      refine q_iast (f2 := (upd (upd (upd (upd (f 46) 0 1) 1 6) 2 36) 3 216)) (w2 := (mw cB cI cJ cZ h a v (va_up (va_up (va_up (va_up (va_up f 44 φ) 46 (upd (f 46) 0 1)) 46 (upd (upd (f 46) 0 1) 1 6)) 46 (upd (upd (upd (f 46) 0 1) 1 6) 2 36)) 46 (upd (upd (upd (upd (f 46) 0 1) 1 6) 2 36) 3 216)) g)) C hK hP hD hS 29 1 rfl rfl (vp_lit (by decide +kernel)) dX11_begins_68 rfl (mw_f46 _) (fun H locs hP hD hS => ?_)
      refine lv_iinc (v := 4) (lv' := [(1, .int 4), (0, .ref h)]) hx hb dX11_begins_69 hl (k := 0) rfl (by decide +kernel) (by decide) rfl (fun ls hl => ?_)
      refine lv_goto (tgt := 46) hx hb dX11_begins_72 (by decide) ?_
      refine lv_iload_n hx hb dX11_begins_46 rfl (lv_at hl 0 rfl) ?_
      refine lv_bipush (v := 6) hx hb dX11_begins_47 (by decide) ?_
      refine lv_icmp_ge (tgt := 75) hx hb dX11_begins_49 (by decide) (fun h => absurd h (by decide +kernel)) (fun _ => ?_)
      refine lv_aload_n hx hb dX11_begins_52 rfl (lv_at hl 1 rfl) ?_
      refine q_get (v := .ref (a 46)) C inX11 hK hP 0 rfl rfl 46 (by decide) rfl L104 rfl dX11_begins_53 ?_
      refine lv_iload_n hx hb dX11_begins_56 rfl (lv_at hl 0 rfl) ?_
      refine lv_bipush (v := 6) hx hb dX11_begins_57 (by decide) ?_
      refine lv_aload_n hx hb dX11_begins_59 rfl (lv_at hl 1 rfl) ?_
      refine q_get (v := .ref (a 46)) C inX11 hK hP 0 rfl rfl 46 (by decide) rfl L104 rfl dX11_begins_60 ?_
      refine lv_iload_n hx hb dX11_begins_63 rfl (lv_at hl 0 rfl) ?_
      refine lv_iconst (v := 1) hx hb dX11_begins_64 (by decide) ?_
      refine lv_isub hx hb dX11_begins_65 ?_
      refine q_top (y := 3) (by decide +kernel) ?_
      refine q_iald (x := 216) C hK hP 29 1 rfl rfl (vp_lit (by decide +kernel)) dX11_begins_66 (rfl) ?_
      refine lv_imul hx hb dX11_begins_67 ?_
      refine q_top (y := 1296) (by decide +kernel) ?_
      refine q_iast (f2 := (upd (upd (upd (upd (upd (f 46) 0 1) 1 6) 2 36) 3 216) 4 1296)) (w2 := (mw cB cI cJ cZ h a v (va_up (va_up (va_up (va_up (va_up (va_up f 44 φ) 46 (upd (f 46) 0 1)) 46 (upd (upd (f 46) 0 1) 1 6)) 46 (upd (upd (upd (f 46) 0 1) 1 6) 2 36)) 46 (upd (upd (upd (upd (f 46) 0 1) 1 6) 2 36) 3 216)) 46 (upd (upd (upd (upd (upd (f 46) 0 1) 1 6) 2 36) 3 216) 4 1296)) g)) C hK hP hD hS 29 1 rfl rfl (vp_lit (by decide +kernel)) dX11_begins_68 rfl (mw_f46 _) (fun H locs hP hD hS => ?_)
      refine lv_iinc (v := 5) (lv' := [(1, .int 5), (0, .ref h)]) hx hb dX11_begins_69 hl (k := 0) rfl (by decide +kernel) (by decide) rfl (fun ls hl => ?_)
      refine lv_goto (tgt := 46) hx hb dX11_begins_72 (by decide) ?_
      refine lv_iload_n hx hb dX11_begins_46 rfl (lv_at hl 0 rfl) ?_
      refine lv_bipush (v := 6) hx hb dX11_begins_47 (by decide) ?_
      refine lv_icmp_ge (tgt := 75) hx hb dX11_begins_49 (by decide) (fun h => absurd h (by decide +kernel)) (fun _ => ?_)
      refine lv_aload_n hx hb dX11_begins_52 rfl (lv_at hl 1 rfl) ?_
      refine q_get (v := .ref (a 46)) C inX11 hK hP 0 rfl rfl 46 (by decide) rfl L104 rfl dX11_begins_53 ?_
      refine lv_iload_n hx hb dX11_begins_56 rfl (lv_at hl 0 rfl) ?_
      refine lv_bipush (v := 6) hx hb dX11_begins_57 (by decide) ?_
      refine lv_aload_n hx hb dX11_begins_59 rfl (lv_at hl 1 rfl) ?_
      refine q_get (v := .ref (a 46)) C inX11 hK hP 0 rfl rfl 46 (by decide) rfl L104 rfl dX11_begins_60 ?_
      refine lv_iload_n hx hb dX11_begins_63 rfl (lv_at hl 0 rfl) ?_
      refine lv_iconst (v := 1) hx hb dX11_begins_64 (by decide) ?_
      refine lv_isub hx hb dX11_begins_65 ?_
      refine q_top (y := 4) (by decide +kernel) ?_
      refine q_iald (x := 1296) C hK hP 29 1 rfl rfl (vp_lit (by decide +kernel)) dX11_begins_66 (rfl) ?_
      refine lv_imul hx hb dX11_begins_67 ?_
      refine q_top (y := 7776) (by decide +kernel) ?_
      refine q_iast (f2 := (upd (upd (upd (upd (upd (upd (f 46) 0 1) 1 6) 2 36) 3 216) 4 1296) 5 7776)) (w2 := (mw cB cI cJ cZ h a v (va_up (va_up (va_up (va_up (va_up (va_up (va_up f 44 φ) 46 (upd (f 46) 0 1)) 46 (upd (upd (f 46) 0 1) 1 6)) 46 (upd (upd (upd (f 46) 0 1) 1 6) 2 36)) 46 (upd (upd (upd (upd (f 46) 0 1) 1 6) 2 36) 3 216)) 46 (upd (upd (upd (upd (upd (f 46) 0 1) 1 6) 2 36) 3 216) 4 1296)) 46 (upd (upd (upd (upd (upd (upd (f 46) 0 1) 1 6) 2 36) 3 216) 4 1296) 5 7776)) g)) C hK hP hD hS 29 1 rfl rfl (vp_lit (by decide +kernel)) dX11_begins_68 rfl (mw_f46 _) (fun H locs hP hD hS => ?_)
      refine lv_iinc (v := 6) (lv' := [(1, .int 6), (0, .ref h)]) hx hb dX11_begins_69 hl (k := 0) rfl (by decide +kernel) (by decide) rfl (fun ls hl => ?_)
      refine lv_goto (tgt := 46) hx hb dX11_begins_72 (by decide) ?_
      refine lv_iload_n hx hb dX11_begins_46 rfl (lv_at hl 0 rfl) ?_
      refine lv_bipush (v := 6) hx hb dX11_begins_47 (by decide) ?_
      refine lv_icmp_ge (tgt := 75) hx hb dX11_begins_49 (by decide) (fun _ => ?_) (fun h => absurd (by decide +kernel) h)
      refine lv_aload_n hx hb dX11_begins_75 rfl (lv_at hl 1 rfl) ?_
      refine lv_aload_n hx hb dX11_begins_76 rfl (lv_at hl 1 rfl) ?_
      refine q_get (v := .ref (a 26)) C inX11 hK hP 0 rfl rfl 26 (by decide) rfl L58 rfl dX11_begins_77 ?_
      refine lv_aload_n hx hb dX11_begins_80 rfl (lv_at hl 1 rfl) ?_
      refine q_get (v := .int (v 18)) C inX11 hK hP 0 rfl rfl 18 (by decide) rfl L215 rfl dX11_begins_81 ?_
      refine q_top (y := 0) (hv18) ?_
      refine q_iald (x := 0) C hK hP 14 1 rfl rfl (vp_lit (by decide +kernel)) dX11_begins_84 (hf26_0) ?_
      refine q_putS (ty := .int) tyX11 tyX11_ok nmX11 C inX11 hK hP hD hS 0 rfl rfl 45 (by decide) rfl L289 rfl (by decide +kernel) (rfl) rfl (Nat.le_of_ble_eq_true rfl) dX11_begins_85 (congrArg (fun z => some (Value.int z)) hv45) (fun H locs hP hD hS => ?_)
      exact q_vret C hr hlocks hK hP hD hS (Nat.le_of_ble_eq_true rfl) (Nat.le_of_ble_eq_true rfl) dX11_begins_88 (⟨φ, hφ, rfl⟩)
    | succ n ih =>
      intro i hi φ H locs ls hP hD hS hl hφ
      refine lv_iload_n hx hb dX11_begins_2 rfl (lv_at hl 0 rfl) ?_
      refine lv_bipush (v := 29) hx hb dX11_begins_3 (by decide) ?_
      refine lv_icmp_ge (tgt := 37) hx hb dX11_begins_5 (by decide) (fun h => absurd h (nI_nge (n := 29) (by omega) (by omega))) (fun _ => ?_)
      refine lv_aload_n hx hb dX11_begins_8 rfl (lv_at hl 1 rfl) ?_
      refine q_get (v := .ref (a 44)) C inX11 hK hP 0 rfl rfl 44 (by decide) rfl L101 rfl dX11_begins_9 ?_
      refine lv_iload_n hx hb dX11_begins_12 rfl (lv_at hl 0 rfl) ?_
      refine lv_iload_n hx hb dX11_begins_13 rfl (lv_at hl 0 rfl) ?_
      refine lv_iconst (v := 5) hx hb dX11_begins_14 (by decide) ?_
      refine lv_icmp_lt (tgt := 29) hx hb dX11_begins_15 (by decide) (fun c2 => ?_) (fun c2 => ?_)
      · skip
        refine lv_iconst (v := 0) hx hb dX11_begins_29 (by decide) ?_
        refine q_iast (f2 := (upd φ (Int32.toNatClampNeg (nI i)) 0)) (w2 := (mw cB cI cJ cZ h a v (va_up (va_up f 44 φ) 44 (upd φ (Int32.toNatClampNeg (nI i)) 0)) g)) C hK hP hD hS 28 1 rfl rfl (vp_in_nI (by omega) (by omega)) dX11_begins_30 rfl (mw_f44 _) (fun H locs hP hD hS => ?_)
        refine lv_iinc (v := (nI (i + 1))) (lv' := [(1, .int (nI (i + 1))), (0, .ref h)]) hx hb dX11_begins_31 hl (k := 0) rfl (nI_1 i) (by decide) rfl (fun ls hl => ?_)
        refine lv_goto (tgt := 2) hx hb dX11_begins_34 (by decide) ?_
        rw [bx_uu] at hP hD
        exact ih (i + 1) (by omega) (upd φ (Int32.toNatClampNeg (nI i)) 0) H locs ls hP hD hS (lv_sub hl [0, 1] rfl) (fun j hj => by show upd φ (Int32.toNatClampNeg (nI i)) 0 j = F29 j; rw [nI_clamp (by omega)]; unfold upd; split <;> first | exact hφ j (by omega) | (rename_i hji; rw [hji]; exact F29_a c2 (by omega)))
      · skip
        refine lv_iload_n hx hb dX11_begins_18 rfl (lv_at hl 0 rfl) ?_
        refine lv_bipush (v := 10) hx hb dX11_begins_19 (by decide) ?_
        refine lv_icmp_ge (tgt := 29) hx hb dX11_begins_21 (by decide) (fun c3 => ?_) (fun c3 => ?_)
        · skip
          refine lv_iconst (v := 0) hx hb dX11_begins_29 (by decide) ?_
          refine q_iast (f2 := (upd φ (Int32.toNatClampNeg (nI i)) 0)) (w2 := (mw cB cI cJ cZ h a v (va_up (va_up f 44 φ) 44 (upd φ (Int32.toNatClampNeg (nI i)) 0)) g)) C hK hP hD hS 28 1 rfl rfl (vp_in_nI (by omega) (by omega)) dX11_begins_30 rfl (mw_f44 _) (fun H locs hP hD hS => ?_)
          refine lv_iinc (v := (nI (i + 1))) (lv' := [(1, .int (nI (i + 1))), (0, .ref h)]) hx hb dX11_begins_31 hl (k := 0) rfl (nI_1 i) (by decide) rfl (fun ls hl => ?_)
          refine lv_goto (tgt := 2) hx hb dX11_begins_34 (by decide) ?_
          rw [bx_uu] at hP hD
          exact ih (i + 1) (by omega) (upd φ (Int32.toNatClampNeg (nI i)) 0) H locs ls hP hD hS (lv_sub hl [0, 1] rfl) (fun j hj => by show upd φ (Int32.toNatClampNeg (nI i)) 0 j = F29 j; rw [nI_clamp (by omega)]; unfold upd; split <;> first | exact hφ j (by omega) | (rename_i hji; rw [hji]; exact F29_b c3 (by omega)))
        · skip
          refine lv_bipush (v := (-2)) hx hb dX11_begins_24 (by decide) ?_
          refine lv_goto (tgt := 30) hx hb dX11_begins_26 (by decide) ?_
          refine q_iast (f2 := (upd φ (Int32.toNatClampNeg (nI i)) (-2))) (w2 := (mw cB cI cJ cZ h a v (va_up (va_up f 44 φ) 44 (upd φ (Int32.toNatClampNeg (nI i)) (-2))) g)) C hK hP hD hS 28 1 rfl rfl (vp_in_nI (by omega) (by omega)) dX11_begins_30 rfl (mw_f44 _) (fun H locs hP hD hS => ?_)
          refine lv_iinc (v := (nI (i + 1))) (lv' := [(1, .int (nI (i + 1))), (0, .ref h)]) hx hb dX11_begins_31 hl (k := 0) rfl (nI_1 i) (by decide) rfl (fun ls hl => ?_)
          refine lv_goto (tgt := 2) hx hb dX11_begins_34 (by decide) ?_
          rw [bx_uu] at hP hD
          exact ih (i + 1) (by omega) (upd φ (Int32.toNatClampNeg (nI i)) (-2)) H locs ls hP hD hS (lv_sub hl [0, 1] rfl) (fun j hj => by show upd φ (Int32.toNatClampNeg (nI i)) (-2) j = F29 j; rw [nI_clamp (by omega)]; unfold upd; split <;> first | exact hφ j (by omega) | (rename_i hji; rw [hji]; exact F29_c c2 c3 (by omega)))
  exact loop1 29 0 (by omega) (f 44) _ _ ls hP hD hS (lv_sub hl [0, 1] rfl) (fun j hj => absurd hj (by omega))

set_option maxHeartbeats 4000000 in
set_option maxRecDepth 100000 in
theorem c_begins1 (l : Launch) (dC : Nat → ClassId) (dI : Nat → Nat → Nat) (cB cI cJ cZ cS : ClassId) (h : Nat) (a : Nat → Nat) (v : Nat → Int32) (f : Nat → Nat → Int32) (g : Nat → Nat → Int64) (hv18 : v 18 = 1) (hf26_1 : f 26 1 = 0) (hv45 : v 45 = 0) : CV l yX11_begins wsX11_begins ({ frames := 0, cells := 0, slots := 0, locals := 0 }) (dC, dI) (tysA cB cI cJ cZ cS) (mw cB cI cJ cZ h a v f g) [.ref h] (fun w => ∃ φ : Nat → Int32, (∀ j, j < 29 → φ j = F29 j) ∧ w = (mw cB cI cJ cZ h a v (va_up (va_up (va_up (va_up (va_up (va_up (va_up f 44 φ) 46 (upd (f 46) 0 1)) 46 (upd (upd (f 46) 0 1) 1 6)) 46 (upd (upd (upd (f 46) 0 1) 1 6) 2 36)) 46 (upd (upd (upd (upd (f 46) 0 1) 1 6) 2 36) 3 216)) 46 (upd (upd (upd (upd (upd (f 46) 0 1) 1 6) 2 36) 3 216) 4 1296)) 46 (upd (upd (upd (upd (upd (upd (f 46) 0 1) 1 6) 2 36) 3 216) 4 1296) 5 7776)) g)) := by
  refine open_V (cc := cX11_begins) (maxL := 2) (ret := none) (by decide) rfl (Nat.le_of_ble_eq_true rfl) ?_
  intro p e s m below meth c A ls E
  obtain ⟨C, hr, hlocks, hnm, hA, hP, hK, hD, hN, hl⟩ := E
  obtain ⟨hx, hb, hml, hown, hts⟩ := id C
  have hS : va_S A s.heap s.heap [] := va_S.rf
  have hl : lv_has ls 2 [(0, .ref h)] := hl
  have inX11 : ∀ w ∈ u_ws RX11 TX11 58, w ∈ wsX11_begins := fun _ h => List.mem_cons_of_mem _ (List.mem_append_right _ h)
  have L101 : Cond.fieldLink RX11 101 "GuessFerryModel" "row" "[I" ∈ wsX11_begins := by decide +kernel
  have L104 : Cond.fieldLink RX11 104 "GuessFerryModel" "sixes" "[I" ∈ wsX11_begins := by decide +kernel
  have L215 : Cond.fieldLink RX11 215 "GuessFerryModel" "live" "I" ∈ wsX11_begins := by decide +kernel
  have L289 : Cond.fieldLink RX11 289 "GuessFerryModel" "lots" "I" ∈ wsX11_begins := by decide +kernel
  have L58 : Cond.fieldLink RX11 58 "GuessFerryModel" "seed" "[I" ∈ wsX11_begins := by decide +kernel
  refine lv_iconst (v := 0) hx hb dX11_begins_0 (by decide) ?_
  refine lv_istore_n (lv' := [(1, .int 0), (0, .ref h)]) hx hb dX11_begins_1 rfl hl (by decide) rfl (fun ls hl => ?_)
  have loop1 : ∀ (n i : Nat), i + n = 29 → ∀ (φ : Nat → Int32) (H : Heap) (locs : List Loc) (ls : Array Slot), va_P (dC, dI) vwCl (mw cB cI cJ cZ h a v (va_up f 44 φ) g) H → va_D A (mw cB cI cJ cZ h a v (va_up f 44 φ) g) → va_S A s.heap H locs → lv_has ls 2 [(1, .int (nI i)), (0, .ref h)] → (∀ j, j < i → φ j = F29 j) → W p l e ({ frames := 0, cells := 0, slots := 0, locals := 0 }) s m [Value.ref h].toArray below meth c H locs 0 0 (MQ below (va_Qv (fun w => ∃ φ : Nat → Int32, (∀ j, j < 29 → φ j = F29 j) ∧ w = (mw cB cI cJ cZ h a v (va_up (va_up (va_up (va_up (va_up (va_up (va_up f 44 φ) 46 (upd (f 46) 0 1)) 46 (upd (upd (f 46) 0 1) 1 6)) 46 (upd (upd (upd (f 46) 0 1) 1 6) 2 36)) 46 (upd (upd (upd (upd (f 46) 0 1) 1 6) 2 36) 3 216)) 46 (upd (upd (upd (upd (upd (f 46) 0 1) 1 6) 2 36) 3 216) 4 1296)) 46 (upd (upd (upd (upd (upd (upd (f 46) 0 1) 1 6) 2 36) 3 216) 4 1296) 5 7776)) g)) (at_W (dC, dI) (tysA cB cI cJ cZ cS) A) A) [Value.ref h].toArray s 0 0 A) (F0 m 2 ls []) := by
    intro n
    induction n with
    | zero =>
      intro i hi φ H locs ls hP hD hS hl hφ
      obtain rfl : i = 29 := by omega
      refine lv_iload_n hx hb dX11_begins_2 rfl (lv_at hl 0 rfl) ?_
      refine lv_bipush (v := 29) hx hb dX11_begins_3 (by decide) ?_
      refine lv_icmp_ge (tgt := 37) hx hb dX11_begins_5 (by decide) (fun _ => ?_) (fun h => absurd (by decide +kernel) h)
      refine lv_aload_n hx hb dX11_begins_37 rfl (lv_at hl 1 rfl) ?_
      refine q_get (v := .ref (a 46)) C inX11 hK hP 0 rfl rfl 46 (by decide) rfl L104 rfl dX11_begins_38 ?_
      refine lv_iconst (v := 0) hx hb dX11_begins_41 (by decide) ?_
      refine lv_iconst (v := 1) hx hb dX11_begins_42 (by decide) ?_
      refine q_iast (f2 := (upd (f 46) 0 1)) (w2 := (mw cB cI cJ cZ h a v (va_up (va_up f 44 φ) 46 (upd (f 46) 0 1)) g)) C hK hP hD hS 29 1 rfl rfl (vp_lit (by decide +kernel)) dX11_begins_43 rfl (mw_f46 _) (fun H locs hP hD hS => ?_)
      refine lv_iconst (v := 1) hx hb dX11_begins_44 (by decide) ?_
      refine lv_istore_n (lv' := [(1, .int 1), (0, .ref h)]) hx hb dX11_begins_45 rfl hl (by decide) rfl (fun ls hl => ?_)
      refine lv_iload_n hx hb dX11_begins_46 rfl (lv_at hl 0 rfl) ?_
      refine lv_bipush (v := 6) hx hb dX11_begins_47 (by decide) ?_
      refine lv_icmp_ge (tgt := 75) hx hb dX11_begins_49 (by decide) (fun h => absurd h (by decide +kernel)) (fun _ => ?_)
      refine lv_aload_n hx hb dX11_begins_52 rfl (lv_at hl 1 rfl) ?_
      refine q_get (v := .ref (a 46)) C inX11 hK hP 0 rfl rfl 46 (by decide) rfl L104 rfl dX11_begins_53 ?_
      refine lv_iload_n hx hb dX11_begins_56 rfl (lv_at hl 0 rfl) ?_
      refine lv_bipush (v := 6) hx hb dX11_begins_57 (by decide) ?_
      refine lv_aload_n hx hb dX11_begins_59 rfl (lv_at hl 1 rfl) ?_
      refine q_get (v := .ref (a 46)) C inX11 hK hP 0 rfl rfl 46 (by decide) rfl L104 rfl dX11_begins_60 ?_
      refine lv_iload_n hx hb dX11_begins_63 rfl (lv_at hl 0 rfl) ?_
      refine lv_iconst (v := 1) hx hb dX11_begins_64 (by decide) ?_
      refine lv_isub hx hb dX11_begins_65 ?_
      refine q_top (y := 0) (by decide +kernel) ?_
      refine q_iald (x := 1) C hK hP 29 1 rfl rfl (vp_lit (by decide +kernel)) dX11_begins_66 (rfl) ?_
      refine lv_imul hx hb dX11_begins_67 ?_
      refine q_top (y := 6) (by decide +kernel) ?_
      refine q_iast (f2 := (upd (upd (f 46) 0 1) 1 6)) (w2 := (mw cB cI cJ cZ h a v (va_up (va_up (va_up f 44 φ) 46 (upd (f 46) 0 1)) 46 (upd (upd (f 46) 0 1) 1 6)) g)) C hK hP hD hS 29 1 rfl rfl (vp_lit (by decide +kernel)) dX11_begins_68 rfl (mw_f46 _) (fun H locs hP hD hS => ?_)
      refine lv_iinc (v := 2) (lv' := [(1, .int 2), (0, .ref h)]) hx hb dX11_begins_69 hl (k := 0) rfl (by decide +kernel) (by decide) rfl (fun ls hl => ?_)
      refine lv_goto (tgt := 46) hx hb dX11_begins_72 (by decide) ?_
      refine lv_iload_n hx hb dX11_begins_46 rfl (lv_at hl 0 rfl) ?_
      refine lv_bipush (v := 6) hx hb dX11_begins_47 (by decide) ?_
      refine lv_icmp_ge (tgt := 75) hx hb dX11_begins_49 (by decide) (fun h => absurd h (by decide +kernel)) (fun _ => ?_)
      refine lv_aload_n hx hb dX11_begins_52 rfl (lv_at hl 1 rfl) ?_
      refine q_get (v := .ref (a 46)) C inX11 hK hP 0 rfl rfl 46 (by decide) rfl L104 rfl dX11_begins_53 ?_
      refine lv_iload_n hx hb dX11_begins_56 rfl (lv_at hl 0 rfl) ?_
      refine lv_bipush (v := 6) hx hb dX11_begins_57 (by decide) ?_
      refine lv_aload_n hx hb dX11_begins_59 rfl (lv_at hl 1 rfl) ?_
      refine q_get (v := .ref (a 46)) C inX11 hK hP 0 rfl rfl 46 (by decide) rfl L104 rfl dX11_begins_60 ?_
      refine lv_iload_n hx hb dX11_begins_63 rfl (lv_at hl 0 rfl) ?_
      refine lv_iconst (v := 1) hx hb dX11_begins_64 (by decide) ?_
      refine lv_isub hx hb dX11_begins_65 ?_
      refine q_top (y := 1) (by decide +kernel) ?_
      refine q_iald (x := 6) C hK hP 29 1 rfl rfl (vp_lit (by decide +kernel)) dX11_begins_66 (rfl) ?_
      refine lv_imul hx hb dX11_begins_67 ?_
      refine q_top (y := 36) (by decide +kernel) ?_
      refine q_iast (f2 := (upd (upd (upd (f 46) 0 1) 1 6) 2 36)) (w2 := (mw cB cI cJ cZ h a v (va_up (va_up (va_up (va_up f 44 φ) 46 (upd (f 46) 0 1)) 46 (upd (upd (f 46) 0 1) 1 6)) 46 (upd (upd (upd (f 46) 0 1) 1 6) 2 36)) g)) C hK hP hD hS 29 1 rfl rfl (vp_lit (by decide +kernel)) dX11_begins_68 rfl (mw_f46 _) (fun H locs hP hD hS => ?_)
      refine lv_iinc (v := 3) (lv' := [(1, .int 3), (0, .ref h)]) hx hb dX11_begins_69 hl (k := 0) rfl (by decide +kernel) (by decide) rfl (fun ls hl => ?_)
      refine lv_goto (tgt := 46) hx hb dX11_begins_72 (by decide) ?_
      refine lv_iload_n hx hb dX11_begins_46 rfl (lv_at hl 0 rfl) ?_
      refine lv_bipush (v := 6) hx hb dX11_begins_47 (by decide) ?_
      refine lv_icmp_ge (tgt := 75) hx hb dX11_begins_49 (by decide) (fun h => absurd h (by decide +kernel)) (fun _ => ?_)
      refine lv_aload_n hx hb dX11_begins_52 rfl (lv_at hl 1 rfl) ?_
      refine q_get (v := .ref (a 46)) C inX11 hK hP 0 rfl rfl 46 (by decide) rfl L104 rfl dX11_begins_53 ?_
      refine lv_iload_n hx hb dX11_begins_56 rfl (lv_at hl 0 rfl) ?_
      refine lv_bipush (v := 6) hx hb dX11_begins_57 (by decide) ?_
      refine lv_aload_n hx hb dX11_begins_59 rfl (lv_at hl 1 rfl) ?_
      refine q_get (v := .ref (a 46)) C inX11 hK hP 0 rfl rfl 46 (by decide) rfl L104 rfl dX11_begins_60 ?_
      refine lv_iload_n hx hb dX11_begins_63 rfl (lv_at hl 0 rfl) ?_
      refine lv_iconst (v := 1) hx hb dX11_begins_64 (by decide) ?_
      refine lv_isub hx hb dX11_begins_65 ?_
      refine q_top (y := 2) (by decide +kernel) ?_
      refine q_iald (x := 36) C hK hP 29 1 rfl rfl (vp_lit (by decide +kernel)) dX11_begins_66 (rfl) ?_
      refine lv_imul hx hb dX11_begins_67 ?_
      refine q_top (y := 216) (by decide +kernel) ?_
      refine q_iast (f2 := (upd (upd (upd (upd (f 46) 0 1) 1 6) 2 36) 3 216)) (w2 := (mw cB cI cJ cZ h a v (va_up (va_up (va_up (va_up (va_up f 44 φ) 46 (upd (f 46) 0 1)) 46 (upd (upd (f 46) 0 1) 1 6)) 46 (upd (upd (upd (f 46) 0 1) 1 6) 2 36)) 46 (upd (upd (upd (upd (f 46) 0 1) 1 6) 2 36) 3 216)) g)) C hK hP hD hS 29 1 rfl rfl (vp_lit (by decide +kernel)) dX11_begins_68 rfl (mw_f46 _) (fun H locs hP hD hS => ?_)
      refine lv_iinc (v := 4) (lv' := [(1, .int 4), (0, .ref h)]) hx hb dX11_begins_69 hl (k := 0) rfl (by decide +kernel) (by decide) rfl (fun ls hl => ?_)
      refine lv_goto (tgt := 46) hx hb dX11_begins_72 (by decide) ?_
      refine lv_iload_n hx hb dX11_begins_46 rfl (lv_at hl 0 rfl) ?_
      refine lv_bipush (v := 6) hx hb dX11_begins_47 (by decide) ?_
      refine lv_icmp_ge (tgt := 75) hx hb dX11_begins_49 (by decide) (fun h => absurd h (by decide +kernel)) (fun _ => ?_)
      refine lv_aload_n hx hb dX11_begins_52 rfl (lv_at hl 1 rfl) ?_
      refine q_get (v := .ref (a 46)) C inX11 hK hP 0 rfl rfl 46 (by decide) rfl L104 rfl dX11_begins_53 ?_
      refine lv_iload_n hx hb dX11_begins_56 rfl (lv_at hl 0 rfl) ?_
      refine lv_bipush (v := 6) hx hb dX11_begins_57 (by decide) ?_
      refine lv_aload_n hx hb dX11_begins_59 rfl (lv_at hl 1 rfl) ?_
      refine q_get (v := .ref (a 46)) C inX11 hK hP 0 rfl rfl 46 (by decide) rfl L104 rfl dX11_begins_60 ?_
      refine lv_iload_n hx hb dX11_begins_63 rfl (lv_at hl 0 rfl) ?_
      refine lv_iconst (v := 1) hx hb dX11_begins_64 (by decide) ?_
      refine lv_isub hx hb dX11_begins_65 ?_
      refine q_top (y := 3) (by decide +kernel) ?_
      refine q_iald (x := 216) C hK hP 29 1 rfl rfl (vp_lit (by decide +kernel)) dX11_begins_66 (rfl) ?_
      refine lv_imul hx hb dX11_begins_67 ?_
      refine q_top (y := 1296) (by decide +kernel) ?_
      refine q_iast (f2 := (upd (upd (upd (upd (upd (f 46) 0 1) 1 6) 2 36) 3 216) 4 1296)) (w2 := (mw cB cI cJ cZ h a v (va_up (va_up (va_up (va_up (va_up (va_up f 44 φ) 46 (upd (f 46) 0 1)) 46 (upd (upd (f 46) 0 1) 1 6)) 46 (upd (upd (upd (f 46) 0 1) 1 6) 2 36)) 46 (upd (upd (upd (upd (f 46) 0 1) 1 6) 2 36) 3 216)) 46 (upd (upd (upd (upd (upd (f 46) 0 1) 1 6) 2 36) 3 216) 4 1296)) g)) C hK hP hD hS 29 1 rfl rfl (vp_lit (by decide +kernel)) dX11_begins_68 rfl (mw_f46 _) (fun H locs hP hD hS => ?_)
      refine lv_iinc (v := 5) (lv' := [(1, .int 5), (0, .ref h)]) hx hb dX11_begins_69 hl (k := 0) rfl (by decide +kernel) (by decide) rfl (fun ls hl => ?_)
      refine lv_goto (tgt := 46) hx hb dX11_begins_72 (by decide) ?_
      refine lv_iload_n hx hb dX11_begins_46 rfl (lv_at hl 0 rfl) ?_
      refine lv_bipush (v := 6) hx hb dX11_begins_47 (by decide) ?_
      refine lv_icmp_ge (tgt := 75) hx hb dX11_begins_49 (by decide) (fun h => absurd h (by decide +kernel)) (fun _ => ?_)
      refine lv_aload_n hx hb dX11_begins_52 rfl (lv_at hl 1 rfl) ?_
      refine q_get (v := .ref (a 46)) C inX11 hK hP 0 rfl rfl 46 (by decide) rfl L104 rfl dX11_begins_53 ?_
      refine lv_iload_n hx hb dX11_begins_56 rfl (lv_at hl 0 rfl) ?_
      refine lv_bipush (v := 6) hx hb dX11_begins_57 (by decide) ?_
      refine lv_aload_n hx hb dX11_begins_59 rfl (lv_at hl 1 rfl) ?_
      refine q_get (v := .ref (a 46)) C inX11 hK hP 0 rfl rfl 46 (by decide) rfl L104 rfl dX11_begins_60 ?_
      refine lv_iload_n hx hb dX11_begins_63 rfl (lv_at hl 0 rfl) ?_
      refine lv_iconst (v := 1) hx hb dX11_begins_64 (by decide) ?_
      refine lv_isub hx hb dX11_begins_65 ?_
      refine q_top (y := 4) (by decide +kernel) ?_
      refine q_iald (x := 1296) C hK hP 29 1 rfl rfl (vp_lit (by decide +kernel)) dX11_begins_66 (rfl) ?_
      refine lv_imul hx hb dX11_begins_67 ?_
      refine q_top (y := 7776) (by decide +kernel) ?_
      refine q_iast (f2 := (upd (upd (upd (upd (upd (upd (f 46) 0 1) 1 6) 2 36) 3 216) 4 1296) 5 7776)) (w2 := (mw cB cI cJ cZ h a v (va_up (va_up (va_up (va_up (va_up (va_up (va_up f 44 φ) 46 (upd (f 46) 0 1)) 46 (upd (upd (f 46) 0 1) 1 6)) 46 (upd (upd (upd (f 46) 0 1) 1 6) 2 36)) 46 (upd (upd (upd (upd (f 46) 0 1) 1 6) 2 36) 3 216)) 46 (upd (upd (upd (upd (upd (f 46) 0 1) 1 6) 2 36) 3 216) 4 1296)) 46 (upd (upd (upd (upd (upd (upd (f 46) 0 1) 1 6) 2 36) 3 216) 4 1296) 5 7776)) g)) C hK hP hD hS 29 1 rfl rfl (vp_lit (by decide +kernel)) dX11_begins_68 rfl (mw_f46 _) (fun H locs hP hD hS => ?_)
      refine lv_iinc (v := 6) (lv' := [(1, .int 6), (0, .ref h)]) hx hb dX11_begins_69 hl (k := 0) rfl (by decide +kernel) (by decide) rfl (fun ls hl => ?_)
      refine lv_goto (tgt := 46) hx hb dX11_begins_72 (by decide) ?_
      refine lv_iload_n hx hb dX11_begins_46 rfl (lv_at hl 0 rfl) ?_
      refine lv_bipush (v := 6) hx hb dX11_begins_47 (by decide) ?_
      refine lv_icmp_ge (tgt := 75) hx hb dX11_begins_49 (by decide) (fun _ => ?_) (fun h => absurd (by decide +kernel) h)
      refine lv_aload_n hx hb dX11_begins_75 rfl (lv_at hl 1 rfl) ?_
      refine lv_aload_n hx hb dX11_begins_76 rfl (lv_at hl 1 rfl) ?_
      refine q_get (v := .ref (a 26)) C inX11 hK hP 0 rfl rfl 26 (by decide) rfl L58 rfl dX11_begins_77 ?_
      refine lv_aload_n hx hb dX11_begins_80 rfl (lv_at hl 1 rfl) ?_
      refine q_get (v := .int (v 18)) C inX11 hK hP 0 rfl rfl 18 (by decide) rfl L215 rfl dX11_begins_81 ?_
      refine q_top (y := 1) (hv18) ?_
      refine q_iald (x := 0) C hK hP 14 1 rfl rfl (vp_lit (by decide +kernel)) dX11_begins_84 (hf26_1) ?_
      refine q_putS (ty := .int) tyX11 tyX11_ok nmX11 C inX11 hK hP hD hS 0 rfl rfl 45 (by decide) rfl L289 rfl (by decide +kernel) (rfl) rfl (Nat.le_of_ble_eq_true rfl) dX11_begins_85 (congrArg (fun z => some (Value.int z)) hv45) (fun H locs hP hD hS => ?_)
      exact q_vret C hr hlocks hK hP hD hS (Nat.le_of_ble_eq_true rfl) (Nat.le_of_ble_eq_true rfl) dX11_begins_88 (⟨φ, hφ, rfl⟩)
    | succ n ih =>
      intro i hi φ H locs ls hP hD hS hl hφ
      refine lv_iload_n hx hb dX11_begins_2 rfl (lv_at hl 0 rfl) ?_
      refine lv_bipush (v := 29) hx hb dX11_begins_3 (by decide) ?_
      refine lv_icmp_ge (tgt := 37) hx hb dX11_begins_5 (by decide) (fun h => absurd h (nI_nge (n := 29) (by omega) (by omega))) (fun _ => ?_)
      refine lv_aload_n hx hb dX11_begins_8 rfl (lv_at hl 1 rfl) ?_
      refine q_get (v := .ref (a 44)) C inX11 hK hP 0 rfl rfl 44 (by decide) rfl L101 rfl dX11_begins_9 ?_
      refine lv_iload_n hx hb dX11_begins_12 rfl (lv_at hl 0 rfl) ?_
      refine lv_iload_n hx hb dX11_begins_13 rfl (lv_at hl 0 rfl) ?_
      refine lv_iconst (v := 5) hx hb dX11_begins_14 (by decide) ?_
      refine lv_icmp_lt (tgt := 29) hx hb dX11_begins_15 (by decide) (fun c2 => ?_) (fun c2 => ?_)
      · skip
        refine lv_iconst (v := 0) hx hb dX11_begins_29 (by decide) ?_
        refine q_iast (f2 := (upd φ (Int32.toNatClampNeg (nI i)) 0)) (w2 := (mw cB cI cJ cZ h a v (va_up (va_up f 44 φ) 44 (upd φ (Int32.toNatClampNeg (nI i)) 0)) g)) C hK hP hD hS 28 1 rfl rfl (vp_in_nI (by omega) (by omega)) dX11_begins_30 rfl (mw_f44 _) (fun H locs hP hD hS => ?_)
        refine lv_iinc (v := (nI (i + 1))) (lv' := [(1, .int (nI (i + 1))), (0, .ref h)]) hx hb dX11_begins_31 hl (k := 0) rfl (nI_1 i) (by decide) rfl (fun ls hl => ?_)
        refine lv_goto (tgt := 2) hx hb dX11_begins_34 (by decide) ?_
        rw [bx_uu] at hP hD
        exact ih (i + 1) (by omega) (upd φ (Int32.toNatClampNeg (nI i)) 0) H locs ls hP hD hS (lv_sub hl [0, 1] rfl) (fun j hj => by show upd φ (Int32.toNatClampNeg (nI i)) 0 j = F29 j; rw [nI_clamp (by omega)]; unfold upd; split <;> first | exact hφ j (by omega) | (rename_i hji; rw [hji]; exact F29_a c2 (by omega)))
      · skip
        refine lv_iload_n hx hb dX11_begins_18 rfl (lv_at hl 0 rfl) ?_
        refine lv_bipush (v := 10) hx hb dX11_begins_19 (by decide) ?_
        refine lv_icmp_ge (tgt := 29) hx hb dX11_begins_21 (by decide) (fun c3 => ?_) (fun c3 => ?_)
        · skip
          refine lv_iconst (v := 0) hx hb dX11_begins_29 (by decide) ?_
          refine q_iast (f2 := (upd φ (Int32.toNatClampNeg (nI i)) 0)) (w2 := (mw cB cI cJ cZ h a v (va_up (va_up f 44 φ) 44 (upd φ (Int32.toNatClampNeg (nI i)) 0)) g)) C hK hP hD hS 28 1 rfl rfl (vp_in_nI (by omega) (by omega)) dX11_begins_30 rfl (mw_f44 _) (fun H locs hP hD hS => ?_)
          refine lv_iinc (v := (nI (i + 1))) (lv' := [(1, .int (nI (i + 1))), (0, .ref h)]) hx hb dX11_begins_31 hl (k := 0) rfl (nI_1 i) (by decide) rfl (fun ls hl => ?_)
          refine lv_goto (tgt := 2) hx hb dX11_begins_34 (by decide) ?_
          rw [bx_uu] at hP hD
          exact ih (i + 1) (by omega) (upd φ (Int32.toNatClampNeg (nI i)) 0) H locs ls hP hD hS (lv_sub hl [0, 1] rfl) (fun j hj => by show upd φ (Int32.toNatClampNeg (nI i)) 0 j = F29 j; rw [nI_clamp (by omega)]; unfold upd; split <;> first | exact hφ j (by omega) | (rename_i hji; rw [hji]; exact F29_b c3 (by omega)))
        · skip
          refine lv_bipush (v := (-2)) hx hb dX11_begins_24 (by decide) ?_
          refine lv_goto (tgt := 30) hx hb dX11_begins_26 (by decide) ?_
          refine q_iast (f2 := (upd φ (Int32.toNatClampNeg (nI i)) (-2))) (w2 := (mw cB cI cJ cZ h a v (va_up (va_up f 44 φ) 44 (upd φ (Int32.toNatClampNeg (nI i)) (-2))) g)) C hK hP hD hS 28 1 rfl rfl (vp_in_nI (by omega) (by omega)) dX11_begins_30 rfl (mw_f44 _) (fun H locs hP hD hS => ?_)
          refine lv_iinc (v := (nI (i + 1))) (lv' := [(1, .int (nI (i + 1))), (0, .ref h)]) hx hb dX11_begins_31 hl (k := 0) rfl (nI_1 i) (by decide) rfl (fun ls hl => ?_)
          refine lv_goto (tgt := 2) hx hb dX11_begins_34 (by decide) ?_
          rw [bx_uu] at hP hD
          exact ih (i + 1) (by omega) (upd φ (Int32.toNatClampNeg (nI i)) (-2)) H locs ls hP hD hS (lv_sub hl [0, 1] rfl) (fun j hj => by show upd φ (Int32.toNatClampNeg (nI i)) (-2) j = F29 j; rw [nI_clamp (by omega)]; unfold upd; split <;> first | exact hφ j (by omega) | (rename_i hji; rw [hji]; exact F29_c c2 c3 (by omega)))
  exact loop1 29 0 (by omega) (f 44) _ _ ls hP hD hS (lv_sub hl [0, 1] rfl) (fun j hj => absurd hj (by omega))
