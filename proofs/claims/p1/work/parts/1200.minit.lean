set_option maxRecDepth 20000 in
theorem ggX11_init_X11_begins : GoodIn wsX11_init wsX11_begins := goodIn_r _ [62, 36, 37, 21, 63, 64, 69, 70, 71, 72, 73, 74, 75, 76, 77, 78, 79, 80, 81, 82, 83, 84, 85, 86, 87, 88, 89, 90, 91, 92, 93, 94, 95, 96, 97, 98, 99, 100, 101, 102, 103, 104, 105, 106, 107, 108, 109, 110, 111, 112, 113, 114, 115, 116, 117, 118, 119, 120, 121, 122, 123, 124, 125, 126] (by decide +kernel) (by decide +kernel)
set_option maxRecDepth 20000 in
theorem gX11_init_X11_begins : GoodIn wsX11_init (wsV RX11 142 RX11 yX11_begins wsX11_begins) := goodIn_app (goodIn_of _ (by decide +kernel)) ggX11_init_X11_begins
set_option maxRecDepth 20000 in
theorem ggX11_init_X11_keepsRow : GoodIn wsX11_init wsX11_keepsRow := goodIn_r _ [68, 35, 36, 69, 70, 71, 72, 73, 74, 75, 76, 77, 78, 79, 80, 81, 82, 83, 84, 85, 86, 87, 88, 89, 90, 91, 92, 93, 94, 95, 96, 97, 98, 99, 100, 101, 102, 103, 104, 105, 106, 107, 108, 109, 110, 111, 112, 113, 114, 115, 116, 117, 118, 119, 120, 121, 122, 123, 124, 125, 126] (by decide +kernel) (by decide +kernel)
set_option maxRecDepth 20000 in
theorem gX11_init_X11_keepsRow : GoodIn wsX11_init (wsV RX11 145 RX11 yX11_keepsRow wsX11_keepsRow) := goodIn_app (goodIn_of _ (by decide +kernel)) ggX11_init_X11_keepsRow
theorem dX11_init_733 : decode cX11_init 733 = .ok (.aload_n 0, 1) := by decide +kernel
theorem dX11_init_734 : decode cX11_init 734 = .ok (.invokevirtual 142, 3) := by decide +kernel
theorem dX11_init_737 : decode cX11_init 737 = .ok (.aload_n 0, 1) := by decide +kernel
theorem dX11_init_738 : decode cX11_init 738 = .ok (.invokevirtual 145, 3) := by decide +kernel
theorem dX11_init_741 : decode cX11_init 741 = .ok (.return_, 1) := by decide +kernel
theorem dX11_appends_0 : decode cX11_appends 0 = .ok (.iload_n 2, 1) := by decide +kernel
theorem dX11_appends_1 : decode cX11_appends 1 = .ok (.ifCond .ne 7, 3) := by decide +kernel
theorem dX11_appends_4 : decode cX11_appends 4 = .ok (.lload_n 0, 1) := by decide +kernel
theorem dX11_appends_5 : decode cX11_appends 5 = .ok (.goto 16, 3) := by decide +kernel
theorem dX11_appends_8 : decode cX11_appends 8 = .ok (.ldc2_w 157, 3) := by decide +kernel
theorem dX11_appends_11 : decode cX11_appends 11 = .ok (.lload_n 0, 1) := by decide +kernel
theorem dX11_appends_12 : decode cX11_appends 12 = .ok (.lmul, 1) := by decide +kernel
theorem dX11_appends_13 : decode cX11_appends 13 = .ok (.iload_n 2, 1) := by decide +kernel
theorem dX11_appends_14 : decode cX11_appends 14 = .ok (.bipush 97, 2) := by decide +kernel
theorem dX11_appends_16 : decode cX11_appends 16 = .ok (.isub, 1) := by decide +kernel
theorem dX11_appends_17 : decode cX11_appends 17 = .ok (.iconst 1, 1) := by decide +kernel
theorem dX11_appends_18 : decode cX11_appends 18 = .ok (.iadd, 1) := by decide +kernel
theorem dX11_appends_19 : decode cX11_appends 19 = .ok (.i2l, 1) := by decide +kernel
theorem dX11_appends_20 : decode cX11_appends 20 = .ok (.ladd, 1) := by decide +kernel
theorem dX11_appends_21 : decode cX11_appends 21 = .ok (.lreturn, 1) := by decide +kernel
set_option maxRecDepth 20000 in
theorem ggX11_word_X11_appends : GoodIn wsX11_word wsX11_appends := goodIn_r _ [4, 5] (by decide +kernel) (by decide +kernel)
set_option maxRecDepth 20000 in
theorem gX11_word_X11_appends : GoodIn wsX11_word (va_wsS RX11 159 yX11_appends wsX11_appends) := goodIn_app (goodIn_of _ (by decide +kernel)) ggX11_word_X11_appends
theorem dX11_word_0 : decode cX11_word 0 = .ok (.lconst 0, 1) := by decide +kernel
theorem dX11_word_1 : decode cX11_word 1 = .ok (.iload_n 0, 1) := by decide +kernel
theorem dX11_word_2 : decode cX11_word 2 = .ok (.invokestatic 159, 3) := by decide +kernel
theorem dX11_word_5 : decode cX11_word 5 = .ok (.iload_n 1, 1) := by decide +kernel
theorem dX11_word_6 : decode cX11_word 6 = .ok (.invokestatic 159, 3) := by decide +kernel
theorem dX11_word_9 : decode cX11_word 9 = .ok (.iload_n 2, 1) := by decide +kernel
theorem dX11_word_10 : decode cX11_word 10 = .ok (.invokestatic 159, 3) := by decide +kernel
theorem dX11_word_13 : decode cX11_word 13 = .ok (.iload_n 3, 1) := by decide +kernel
theorem dX11_word_14 : decode cX11_word 14 = .ok (.invokestatic 159, 3) := by decide +kernel
theorem dX11_word_17 : decode cX11_word 17 = .ok (.iload 4, 2) := by decide +kernel
theorem dX11_word_19 : decode cX11_word 19 = .ok (.invokestatic 159, 3) := by decide +kernel
theorem dX11_word_22 : decode cX11_word 22 = .ok (.iload 5, 2) := by decide +kernel
theorem dX11_word_24 : decode cX11_word 24 = .ok (.invokestatic 159, 3) := by decide +kernel
theorem dX11_word_27 : decode cX11_word 27 = .ok (.iload 6, 2) := by decide +kernel
theorem dX11_word_29 : decode cX11_word 29 = .ok (.invokestatic 159, 3) := by decide +kernel
theorem dX11_word_32 : decode cX11_word 32 = .ok (.lreturn, 1) := by decide +kernel
set_option maxHeartbeats 4000000 in
set_option maxRecDepth 100000 in
theorem c_appends (l : Launch) (dC : Nat → ClassId) (dI : Nat → Nat → Nat) (cB cI cJ cZ cS : ClassId)  (L1 : Int64) (x2 : Int32) : CL l yX11_appends wsX11_appends ({ frames := 0, cells := 0, slots := 0, locals := 0 }) (dC, dI) (tysA cB cI cJ cZ cS) [] [.long L1, .int x2] (fun _ _ => True) := by
  refine open_L (cc := cX11_appends) (maxL := 3) (ret := (some .long)) (by decide) rfl (Nat.le_of_ble_eq_true rfl) ?_
  intro p e s m below meth c A ls E
  obtain ⟨C, hr, hlocks, hnm, hA, hP, hK, hD, hN, hl⟩ := E
  obtain ⟨hx, hb, hml, hown, hts⟩ := id C
  have hS : va_S A s.heap s.heap [] := va_S.rf
  have hl : lv_has ls 3 [(0, .long L1), (2, .int x2)] := hl
  have K157 : Cond.constantLong RX11 157 27 ∈ wsX11_appends := by decide +kernel
  refine lv_iload_n hx hb dX11_appends_0 rfl (lv_at hl 1 rfl) ?_
  refine lv_if_ne (tgt := 8) hx hb dX11_appends_1 (by decide) (fun c1 => ?_) (fun c1 => ?_)
  · skip
    refine lv_ldc2 (v := 27) hx hb hown (hts _ K157) dX11_appends_8 ?_
    refine lv_lload_n hx hb dX11_appends_11 rfl (lv_at hl 0 rfl) ?_
    refine lv_lmul hx hb dX11_appends_12 ?_
    refine lv_iload_n hx hb dX11_appends_13 rfl (lv_at hl 1 rfl) ?_
    refine lv_bipush (v := 97) hx hb dX11_appends_14 (by decide) ?_
    refine lv_isub hx hb dX11_appends_16 ?_
    refine lv_iconst (v := 1) hx hb dX11_appends_17 (by decide) ?_
    refine lv_iadd hx hb dX11_appends_18 ?_
    refine lv_i2l hx hb dX11_appends_19 rfl ?_
    refine lv_ladd hx hb dX11_appends_20 ?_
    exact q_lret C hr hlocks hK hP hD hS (Nat.le_of_ble_eq_true rfl) (Nat.le_of_ble_eq_true rfl) dX11_appends_21 (trivial)
  · skip
    refine lv_lload_n hx hb dX11_appends_4 rfl (lv_at hl 0 rfl) ?_
    refine lv_goto (tgt := 21) hx hb dX11_appends_5 (by decide) ?_
    exact q_lret C hr hlocks hK hP hD hS (Nat.le_of_ble_eq_true rfl) (Nat.le_of_ble_eq_true rfl) dX11_appends_21 (trivial)

set_option maxHeartbeats 4000000 in
set_option maxRecDepth 100000 in
theorem c_word (l : Launch) (dC : Nat → ClassId) (dI : Nat → Nat → Nat) (cB cI cJ cZ cS : ClassId)  (x1 : Int32) (x2 : Int32) (x3 : Int32) (x4 : Int32) (x5 : Int32) (x6 : Int32) (x7 : Int32) : CL l yX11_word wsX11_word ({ frames := 1, cells := 0, slots := 0, locals := 22 }) (dC, dI) (tysA cB cI cJ cZ cS) [] [.int x1, .int x2, .int x3, .int x4, .int x5, .int x6, .int x7] (fun _ _ => True) := by
  refine open_L (cc := cX11_word) (maxL := 7) (ret := (some .long)) (by decide) rfl (Nat.le_of_ble_eq_true rfl) ?_
  intro p e s m below meth c A ls E
  obtain ⟨C, hr, hlocks, hnm, hA, hP, hK, hD, hN, hl⟩ := E
  obtain ⟨hx, hb, hml, hown, hts⟩ := id C
  have hS : va_S A s.heap s.heap [] := va_S.rf
  have hl : lv_has ls 7 [(0, .int x1), (1, .int x2), (2, .int x3), (3, .int x4), (4, .int x5), (5, .int x6), (6, .int x7)] := hl
  refine lv_lconst (v := 0) hx hb dX11_word_0 (by decide) ?_
  refine lv_iload_n hx hb dX11_word_1 rfl (lv_at hl 0 rfl) ?_
  refine q_gol0 (va_runS (As := [.long 0, .int x1]) (rest := []) C (c_appends l dC dI cB cI cJ cZ cS 0 x1 _) (va_cwS 2 hts gX11_word_X11_appends rfl rfl rfl (by decide +kernel) ⟨Nat.le_of_ble_eq_true rfl, Nat.le_of_ble_eq_true rfl⟩) (q_pre0 hN hK) rfl rfl hl.1 rfl (lv_room (Nat.le_of_ble_eq_true rfl)) dX11_word_2 ⟨Nat.le_of_ble_eq_true rfl, Nat.le_of_ble_eq_true rfl⟩) hP hD hS hA (fun ra1 w1 H locs hw hP hS => ?_)
  refine lv_iload_n hx hb dX11_word_5 rfl (lv_at hl 1 rfl) ?_
  refine q_gol0 (va_runS (As := [.long ra1, .int x2]) (rest := []) C (c_appends l dC dI cB cI cJ cZ cS ra1 x2 _) (va_cwS 2 hts gX11_word_X11_appends rfl rfl rfl (by decide +kernel) ⟨Nat.le_of_ble_eq_true rfl, Nat.le_of_ble_eq_true rfl⟩) (q_pre0 hN hK) rfl rfl hl.1 rfl (lv_room (Nat.le_of_ble_eq_true rfl)) dX11_word_6 ⟨Nat.le_of_ble_eq_true rfl, Nat.le_of_ble_eq_true rfl⟩) hP hD hS hA (fun ra2 w1 H locs hw hP hS => ?_)
  refine lv_iload_n hx hb dX11_word_9 rfl (lv_at hl 2 rfl) ?_
  refine q_gol0 (va_runS (As := [.long ra2, .int x3]) (rest := []) C (c_appends l dC dI cB cI cJ cZ cS ra2 x3 _) (va_cwS 2 hts gX11_word_X11_appends rfl rfl rfl (by decide +kernel) ⟨Nat.le_of_ble_eq_true rfl, Nat.le_of_ble_eq_true rfl⟩) (q_pre0 hN hK) rfl rfl hl.1 rfl (lv_room (Nat.le_of_ble_eq_true rfl)) dX11_word_10 ⟨Nat.le_of_ble_eq_true rfl, Nat.le_of_ble_eq_true rfl⟩) hP hD hS hA (fun ra3 w1 H locs hw hP hS => ?_)
  refine lv_iload_n hx hb dX11_word_13 rfl (lv_at hl 3 rfl) ?_
  refine q_gol0 (va_runS (As := [.long ra3, .int x4]) (rest := []) C (c_appends l dC dI cB cI cJ cZ cS ra3 x4 _) (va_cwS 2 hts gX11_word_X11_appends rfl rfl rfl (by decide +kernel) ⟨Nat.le_of_ble_eq_true rfl, Nat.le_of_ble_eq_true rfl⟩) (q_pre0 hN hK) rfl rfl hl.1 rfl (lv_room (Nat.le_of_ble_eq_true rfl)) dX11_word_14 ⟨Nat.le_of_ble_eq_true rfl, Nat.le_of_ble_eq_true rfl⟩) hP hD hS hA (fun ra4 w1 H locs hw hP hS => ?_)
  refine lv_iload hx hb dX11_word_17 (lv_at hl 4 rfl) ?_
  refine q_gol0 (va_runS (As := [.long ra4, .int x5]) (rest := []) C (c_appends l dC dI cB cI cJ cZ cS ra4 x5 _) (va_cwS 2 hts gX11_word_X11_appends rfl rfl rfl (by decide +kernel) ⟨Nat.le_of_ble_eq_true rfl, Nat.le_of_ble_eq_true rfl⟩) (q_pre0 hN hK) rfl rfl hl.1 rfl (lv_room (Nat.le_of_ble_eq_true rfl)) dX11_word_19 ⟨Nat.le_of_ble_eq_true rfl, Nat.le_of_ble_eq_true rfl⟩) hP hD hS hA (fun ra5 w1 H locs hw hP hS => ?_)
  refine lv_iload hx hb dX11_word_22 (lv_at hl 5 rfl) ?_
  refine q_gol0 (va_runS (As := [.long ra5, .int x6]) (rest := []) C (c_appends l dC dI cB cI cJ cZ cS ra5 x6 _) (va_cwS 2 hts gX11_word_X11_appends rfl rfl rfl (by decide +kernel) ⟨Nat.le_of_ble_eq_true rfl, Nat.le_of_ble_eq_true rfl⟩) (q_pre0 hN hK) rfl rfl hl.1 rfl (lv_room (Nat.le_of_ble_eq_true rfl)) dX11_word_24 ⟨Nat.le_of_ble_eq_true rfl, Nat.le_of_ble_eq_true rfl⟩) hP hD hS hA (fun ra6 w1 H locs hw hP hS => ?_)
  refine lv_iload hx hb dX11_word_27 (lv_at hl 6 rfl) ?_
  refine q_gol0 (va_runS (As := [.long ra6, .int x7]) (rest := []) C (c_appends l dC dI cB cI cJ cZ cS ra6 x7 _) (va_cwS 2 hts gX11_word_X11_appends rfl rfl rfl (by decide +kernel) ⟨Nat.le_of_ble_eq_true rfl, Nat.le_of_ble_eq_true rfl⟩) (q_pre0 hN hK) rfl rfl hl.1 rfl (lv_room (Nat.le_of_ble_eq_true rfl)) dX11_word_29 ⟨Nat.le_of_ble_eq_true rfl, Nat.le_of_ble_eq_true rfl⟩) hP hD hS hA (fun ra7 w1 H locs hw hP hS => ?_)
  exact q_lret C hr hlocks hK hP hD hS (Nat.le_of_ble_eq_true rfl) (Nat.le_of_ble_eq_true rfl) dX11_word_32 (trivial)

set_option maxHeartbeats 4000000 in
set_option maxRecDepth 100000 in
theorem c_plainZ0 (l : Launch) (dC : Nat → ClassId) (dI : Nat → Nat → Nat) (cB cI cJ cZ cS : ClassId) (h : Nat) (a : Nat → Nat) (v : Nat → Int32) (f : Nat → Nat → Int32) (g : Nat → Nat → Int64) (hf20_0 : f 20 0 = 0) (hf23_0 : f 23 0 = 0) (hf26_0 : f 26 0 = 0) (hf27_0 : f 27 0 = 0) (hf27_1 : f 27 1 = 0) (hf27_2 : f 27 2 = 0) (hf27_3 : f 27 3 = 0) (hf28_0 : f 28 0 = 0) (hf28_1 : f 28 1 = 0) (hf28_2 : f 28 2 = 0) (hf28_3 : f 28 3 = 0) : CV l yX11_plain wsX11_plain ({ frames := 0, cells := 0, slots := 0, locals := 0 }) (dC, dI) (tysA cB cI cJ cZ cS) (mw cB cI cJ cZ h a v f g) [.ref h, .int 0] (fun w => w = (mw cB cI cJ cZ h a v f g)) := by
  refine open_V (cc := cX11_plain) (maxL := 3) (ret := none) (by decide) rfl (Nat.le_of_ble_eq_true rfl) ?_
  intro p e s m below meth c A ls E
  obtain ⟨C, hr, hlocks, hnm, hA, hP, hK, hD, hN, hl⟩ := E
  obtain ⟨hx, hb, hml, hown, hts⟩ := id C
  have hS : va_S A s.heap s.heap [] := va_S.rf
  have hl : lv_has ls 3 [(0, .ref h), (1, .int 0)] := hl
  have inX11 : ∀ w ∈ u_ws RX11 TX11 58, w ∈ wsX11_plain := fun _ h => List.mem_cons_of_mem _ (List.mem_append_right _ h)
  have L40 : Cond.fieldLink RX11 40 "GuessFerryModel" "waves" "[I" ∈ wsX11_plain := by decide +kernel
  have L49 : Cond.fieldLink RX11 49 "GuessFerryModel" "parties" "[I" ∈ wsX11_plain := by decide +kernel
  have L58 : Cond.fieldLink RX11 58 "GuessFerryModel" "seed" "[I" ∈ wsX11_plain := by decide +kernel
  have L61 : Cond.fieldLink RX11 61 "GuessFerryModel" "lawFirst" "[I" ∈ wsX11_plain := by decide +kernel
  have L64 : Cond.fieldLink RX11 64 "GuessFerryModel" "lawLast" "[I" ∈ wsX11_plain := by decide +kernel
  refine lv_aload_n hx hb dX11_plain_0 rfl (lv_at hl 0 rfl) ?_
  refine q_get (v := .ref (a 20)) C inX11 hK hP 0 rfl rfl 20 (by decide) rfl L40 rfl dX11_plain_1 ?_
  refine lv_iload_n hx hb dX11_plain_4 rfl (lv_at hl 1 rfl) ?_
  refine lv_iconst (v := 0) hx hb dX11_plain_5 (by decide) ?_
  refine q_iastS C hK hP hD hS 8 1 rfl rfl (vp_lit (by decide +kernel)) dX11_plain_6 (hf20_0) (fun H locs hP hD hS => ?_)
  refine lv_aload_n hx hb dX11_plain_7 rfl (lv_at hl 0 rfl) ?_
  refine q_get (v := .ref (a 23)) C inX11 hK hP 0 rfl rfl 23 (by decide) rfl L49 rfl dX11_plain_8 ?_
  refine lv_iload_n hx hb dX11_plain_11 rfl (lv_at hl 1 rfl) ?_
  refine lv_iconst (v := 0) hx hb dX11_plain_12 (by decide) ?_
  refine q_iastS C hK hP hD hS 11 1 rfl rfl (vp_lit (by decide +kernel)) dX11_plain_13 (hf23_0) (fun H locs hP hD hS => ?_)
  refine lv_aload_n hx hb dX11_plain_14 rfl (lv_at hl 0 rfl) ?_
  refine q_get (v := .ref (a 26)) C inX11 hK hP 0 rfl rfl 26 (by decide) rfl L58 rfl dX11_plain_15 ?_
  refine lv_iload_n hx hb dX11_plain_18 rfl (lv_at hl 1 rfl) ?_
  refine lv_iconst (v := 0) hx hb dX11_plain_19 (by decide) ?_
  refine q_iastS C hK hP hD hS 14 1 rfl rfl (vp_lit (by decide +kernel)) dX11_plain_20 (hf26_0) (fun H locs hP hD hS => ?_)
  refine lv_iconst (v := 0) hx hb dX11_plain_21 (by decide) ?_
  refine lv_istore_n (lv' := [(2, .int 0), (0, .ref h), (1, .int 0)]) hx hb dX11_plain_22 rfl hl (by decide) rfl (fun ls hl => ?_)
  refine lv_iload_n hx hb dX11_plain_23 rfl (lv_at hl 0 rfl) ?_
  refine lv_iconst (v := 4) hx hb dX11_plain_24 (by decide) ?_
  refine lv_icmp_ge (tgt := 56) hx hb dX11_plain_25 (by decide) (fun h => absurd h (by decide +kernel)) (fun _ => ?_)
  refine lv_aload_n hx hb dX11_plain_28 rfl (lv_at hl 1 rfl) ?_
  refine q_get (v := .ref (a 27)) C inX11 hK hP 0 rfl rfl 27 (by decide) rfl L61 rfl dX11_plain_29 ?_
  refine lv_iconst (v := 4) hx hb dX11_plain_32 (by decide) ?_
  refine lv_iload_n hx hb dX11_plain_33 rfl (lv_at hl 2 rfl) ?_
  refine lv_imul hx hb dX11_plain_34 ?_
  refine q_top (y := 0) (by decide +kernel) ?_
  refine lv_iload_n hx hb dX11_plain_35 rfl (lv_at hl 0 rfl) ?_
  refine lv_iadd hx hb dX11_plain_36 ?_
  refine q_top (y := 0) (by decide +kernel) ?_
  refine lv_iconst (v := 0) hx hb dX11_plain_37 (by decide) ?_
  refine q_iastS C hK hP hD hS 15 1 rfl rfl (vp_lit (by decide +kernel)) dX11_plain_38 (hf27_0) (fun H locs hP hD hS => ?_)
  refine lv_aload_n hx hb dX11_plain_39 rfl (lv_at hl 1 rfl) ?_
  refine q_get (v := .ref (a 28)) C inX11 hK hP 0 rfl rfl 28 (by decide) rfl L64 rfl dX11_plain_40 ?_
  refine lv_iconst (v := 4) hx hb dX11_plain_43 (by decide) ?_
  refine lv_iload_n hx hb dX11_plain_44 rfl (lv_at hl 2 rfl) ?_
  refine lv_imul hx hb dX11_plain_45 ?_
  refine q_top (y := 0) (by decide +kernel) ?_
  refine lv_iload_n hx hb dX11_plain_46 rfl (lv_at hl 0 rfl) ?_
  refine lv_iadd hx hb dX11_plain_47 ?_
  refine q_top (y := 0) (by decide +kernel) ?_
  refine lv_iconst (v := 0) hx hb dX11_plain_48 (by decide) ?_
  refine q_iastS C hK hP hD hS 16 1 rfl rfl (vp_lit (by decide +kernel)) dX11_plain_49 (hf28_0) (fun H locs hP hD hS => ?_)
  refine lv_iinc (v := 1) (lv' := [(2, .int 1), (0, .ref h), (1, .int 0)]) hx hb dX11_plain_50 hl (k := 0) rfl (by decide +kernel) (by decide) rfl (fun ls hl => ?_)
  refine lv_goto (tgt := 23) hx hb dX11_plain_53 (by decide) ?_
  refine lv_iload_n hx hb dX11_plain_23 rfl (lv_at hl 0 rfl) ?_
  refine lv_iconst (v := 4) hx hb dX11_plain_24 (by decide) ?_
  refine lv_icmp_ge (tgt := 56) hx hb dX11_plain_25 (by decide) (fun h => absurd h (by decide +kernel)) (fun _ => ?_)
  refine lv_aload_n hx hb dX11_plain_28 rfl (lv_at hl 1 rfl) ?_
  refine q_get (v := .ref (a 27)) C inX11 hK hP 0 rfl rfl 27 (by decide) rfl L61 rfl dX11_plain_29 ?_
  refine lv_iconst (v := 4) hx hb dX11_plain_32 (by decide) ?_
  refine lv_iload_n hx hb dX11_plain_33 rfl (lv_at hl 2 rfl) ?_
  refine lv_imul hx hb dX11_plain_34 ?_
  refine q_top (y := 0) (by decide +kernel) ?_
  refine lv_iload_n hx hb dX11_plain_35 rfl (lv_at hl 0 rfl) ?_
  refine lv_iadd hx hb dX11_plain_36 ?_
  refine q_top (y := 1) (by decide +kernel) ?_
  refine lv_iconst (v := 0) hx hb dX11_plain_37 (by decide) ?_
  refine q_iastS C hK hP hD hS 15 1 rfl rfl (vp_lit (by decide +kernel)) dX11_plain_38 (hf27_1) (fun H locs hP hD hS => ?_)
  refine lv_aload_n hx hb dX11_plain_39 rfl (lv_at hl 1 rfl) ?_
  refine q_get (v := .ref (a 28)) C inX11 hK hP 0 rfl rfl 28 (by decide) rfl L64 rfl dX11_plain_40 ?_
  refine lv_iconst (v := 4) hx hb dX11_plain_43 (by decide) ?_
  refine lv_iload_n hx hb dX11_plain_44 rfl (lv_at hl 2 rfl) ?_
  refine lv_imul hx hb dX11_plain_45 ?_
  refine q_top (y := 0) (by decide +kernel) ?_
  refine lv_iload_n hx hb dX11_plain_46 rfl (lv_at hl 0 rfl) ?_
  refine lv_iadd hx hb dX11_plain_47 ?_
  refine q_top (y := 1) (by decide +kernel) ?_
  refine lv_iconst (v := 0) hx hb dX11_plain_48 (by decide) ?_
  refine q_iastS C hK hP hD hS 16 1 rfl rfl (vp_lit (by decide +kernel)) dX11_plain_49 (hf28_1) (fun H locs hP hD hS => ?_)
  refine lv_iinc (v := 2) (lv' := [(2, .int 2), (0, .ref h), (1, .int 0)]) hx hb dX11_plain_50 hl (k := 0) rfl (by decide +kernel) (by decide) rfl (fun ls hl => ?_)
  refine lv_goto (tgt := 23) hx hb dX11_plain_53 (by decide) ?_
  refine lv_iload_n hx hb dX11_plain_23 rfl (lv_at hl 0 rfl) ?_
  refine lv_iconst (v := 4) hx hb dX11_plain_24 (by decide) ?_
  refine lv_icmp_ge (tgt := 56) hx hb dX11_plain_25 (by decide) (fun h => absurd h (by decide +kernel)) (fun _ => ?_)
  refine lv_aload_n hx hb dX11_plain_28 rfl (lv_at hl 1 rfl) ?_
  refine q_get (v := .ref (a 27)) C inX11 hK hP 0 rfl rfl 27 (by decide) rfl L61 rfl dX11_plain_29 ?_
  refine lv_iconst (v := 4) hx hb dX11_plain_32 (by decide) ?_
  refine lv_iload_n hx hb dX11_plain_33 rfl (lv_at hl 2 rfl) ?_
  refine lv_imul hx hb dX11_plain_34 ?_
  refine q_top (y := 0) (by decide +kernel) ?_
  refine lv_iload_n hx hb dX11_plain_35 rfl (lv_at hl 0 rfl) ?_
  refine lv_iadd hx hb dX11_plain_36 ?_
  refine q_top (y := 2) (by decide +kernel) ?_
  refine lv_iconst (v := 0) hx hb dX11_plain_37 (by decide) ?_
  refine q_iastS C hK hP hD hS 15 1 rfl rfl (vp_lit (by decide +kernel)) dX11_plain_38 (hf27_2) (fun H locs hP hD hS => ?_)
  refine lv_aload_n hx hb dX11_plain_39 rfl (lv_at hl 1 rfl) ?_
  refine q_get (v := .ref (a 28)) C inX11 hK hP 0 rfl rfl 28 (by decide) rfl L64 rfl dX11_plain_40 ?_
  refine lv_iconst (v := 4) hx hb dX11_plain_43 (by decide) ?_
  refine lv_iload_n hx hb dX11_plain_44 rfl (lv_at hl 2 rfl) ?_
  refine lv_imul hx hb dX11_plain_45 ?_
  refine q_top (y := 0) (by decide +kernel) ?_
  refine lv_iload_n hx hb dX11_plain_46 rfl (lv_at hl 0 rfl) ?_
  refine lv_iadd hx hb dX11_plain_47 ?_
  refine q_top (y := 2) (by decide +kernel) ?_
  refine lv_iconst (v := 0) hx hb dX11_plain_48 (by decide) ?_
  refine q_iastS C hK hP hD hS 16 1 rfl rfl (vp_lit (by decide +kernel)) dX11_plain_49 (hf28_2) (fun H locs hP hD hS => ?_)
  refine lv_iinc (v := 3) (lv' := [(2, .int 3), (0, .ref h), (1, .int 0)]) hx hb dX11_plain_50 hl (k := 0) rfl (by decide +kernel) (by decide) rfl (fun ls hl => ?_)
  refine lv_goto (tgt := 23) hx hb dX11_plain_53 (by decide) ?_
  refine lv_iload_n hx hb dX11_plain_23 rfl (lv_at hl 0 rfl) ?_
  refine lv_iconst (v := 4) hx hb dX11_plain_24 (by decide) ?_
  refine lv_icmp_ge (tgt := 56) hx hb dX11_plain_25 (by decide) (fun h => absurd h (by decide +kernel)) (fun _ => ?_)
  refine lv_aload_n hx hb dX11_plain_28 rfl (lv_at hl 1 rfl) ?_
  refine q_get (v := .ref (a 27)) C inX11 hK hP 0 rfl rfl 27 (by decide) rfl L61 rfl dX11_plain_29 ?_
  refine lv_iconst (v := 4) hx hb dX11_plain_32 (by decide) ?_
  refine lv_iload_n hx hb dX11_plain_33 rfl (lv_at hl 2 rfl) ?_
  refine lv_imul hx hb dX11_plain_34 ?_
  refine q_top (y := 0) (by decide +kernel) ?_
  refine lv_iload_n hx hb dX11_plain_35 rfl (lv_at hl 0 rfl) ?_
  refine lv_iadd hx hb dX11_plain_36 ?_
  refine q_top (y := 3) (by decide +kernel) ?_
  refine lv_iconst (v := 0) hx hb dX11_plain_37 (by decide) ?_
  refine q_iastS C hK hP hD hS 15 1 rfl rfl (vp_lit (by decide +kernel)) dX11_plain_38 (hf27_3) (fun H locs hP hD hS => ?_)
  refine lv_aload_n hx hb dX11_plain_39 rfl (lv_at hl 1 rfl) ?_
  refine q_get (v := .ref (a 28)) C inX11 hK hP 0 rfl rfl 28 (by decide) rfl L64 rfl dX11_plain_40 ?_
  refine lv_iconst (v := 4) hx hb dX11_plain_43 (by decide) ?_
  refine lv_iload_n hx hb dX11_plain_44 rfl (lv_at hl 2 rfl) ?_
  refine lv_imul hx hb dX11_plain_45 ?_
  refine q_top (y := 0) (by decide +kernel) ?_
  refine lv_iload_n hx hb dX11_plain_46 rfl (lv_at hl 0 rfl) ?_
  refine lv_iadd hx hb dX11_plain_47 ?_
  refine q_top (y := 3) (by decide +kernel) ?_
  refine lv_iconst (v := 0) hx hb dX11_plain_48 (by decide) ?_
  refine q_iastS C hK hP hD hS 16 1 rfl rfl (vp_lit (by decide +kernel)) dX11_plain_49 (hf28_3) (fun H locs hP hD hS => ?_)
  refine lv_iinc (v := 4) (lv' := [(2, .int 4), (0, .ref h), (1, .int 0)]) hx hb dX11_plain_50 hl (k := 0) rfl (by decide +kernel) (by decide) rfl (fun ls hl => ?_)
  refine lv_goto (tgt := 23) hx hb dX11_plain_53 (by decide) ?_
  refine lv_iload_n hx hb dX11_plain_23 rfl (lv_at hl 0 rfl) ?_
  refine lv_iconst (v := 4) hx hb dX11_plain_24 (by decide) ?_
  refine lv_icmp_ge (tgt := 56) hx hb dX11_plain_25 (by decide) (fun _ => ?_) (fun h => absurd (by decide +kernel) h)
  exact q_vret C hr hlocks hK hP hD hS (Nat.le_of_ble_eq_true rfl) (Nat.le_of_ble_eq_true rfl) dX11_plain_56 (rfl)

set_option maxHeartbeats 4000000 in
set_option maxRecDepth 100000 in
theorem c_plainZ1 (l : Launch) (dC : Nat → ClassId) (dI : Nat → Nat → Nat) (cB cI cJ cZ cS : ClassId) (h : Nat) (a : Nat → Nat) (v : Nat → Int32) (f : Nat → Nat → Int32) (g : Nat → Nat → Int64) (hf20_1 : f 20 1 = 0) (hf23_1 : f 23 1 = 0) (hf26_1 : f 26 1 = 0) (hf27_4 : f 27 4 = 0) (hf27_5 : f 27 5 = 0) (hf27_6 : f 27 6 = 0) (hf27_7 : f 27 7 = 0) (hf28_4 : f 28 4 = 0) (hf28_5 : f 28 5 = 0) (hf28_6 : f 28 6 = 0) (hf28_7 : f 28 7 = 0) : CV l yX11_plain wsX11_plain ({ frames := 0, cells := 0, slots := 0, locals := 0 }) (dC, dI) (tysA cB cI cJ cZ cS) (mw cB cI cJ cZ h a v f g) [.ref h, .int 1] (fun w => w = (mw cB cI cJ cZ h a v f g)) := by
  refine open_V (cc := cX11_plain) (maxL := 3) (ret := none) (by decide) rfl (Nat.le_of_ble_eq_true rfl) ?_
  intro p e s m below meth c A ls E
  obtain ⟨C, hr, hlocks, hnm, hA, hP, hK, hD, hN, hl⟩ := E
  obtain ⟨hx, hb, hml, hown, hts⟩ := id C
  have hS : va_S A s.heap s.heap [] := va_S.rf
  have hl : lv_has ls 3 [(0, .ref h), (1, .int 1)] := hl
  have inX11 : ∀ w ∈ u_ws RX11 TX11 58, w ∈ wsX11_plain := fun _ h => List.mem_cons_of_mem _ (List.mem_append_right _ h)
  have L40 : Cond.fieldLink RX11 40 "GuessFerryModel" "waves" "[I" ∈ wsX11_plain := by decide +kernel
  have L49 : Cond.fieldLink RX11 49 "GuessFerryModel" "parties" "[I" ∈ wsX11_plain := by decide +kernel
  have L58 : Cond.fieldLink RX11 58 "GuessFerryModel" "seed" "[I" ∈ wsX11_plain := by decide +kernel
  have L61 : Cond.fieldLink RX11 61 "GuessFerryModel" "lawFirst" "[I" ∈ wsX11_plain := by decide +kernel
  have L64 : Cond.fieldLink RX11 64 "GuessFerryModel" "lawLast" "[I" ∈ wsX11_plain := by decide +kernel
  refine lv_aload_n hx hb dX11_plain_0 rfl (lv_at hl 0 rfl) ?_
  refine q_get (v := .ref (a 20)) C inX11 hK hP 0 rfl rfl 20 (by decide) rfl L40 rfl dX11_plain_1 ?_
  refine lv_iload_n hx hb dX11_plain_4 rfl (lv_at hl 1 rfl) ?_
  refine lv_iconst (v := 0) hx hb dX11_plain_5 (by decide) ?_
  refine q_iastS C hK hP hD hS 8 1 rfl rfl (vp_lit (by decide +kernel)) dX11_plain_6 (hf20_1) (fun H locs hP hD hS => ?_)
  refine lv_aload_n hx hb dX11_plain_7 rfl (lv_at hl 0 rfl) ?_
  refine q_get (v := .ref (a 23)) C inX11 hK hP 0 rfl rfl 23 (by decide) rfl L49 rfl dX11_plain_8 ?_
  refine lv_iload_n hx hb dX11_plain_11 rfl (lv_at hl 1 rfl) ?_
  refine lv_iconst (v := 0) hx hb dX11_plain_12 (by decide) ?_
  refine q_iastS C hK hP hD hS 11 1 rfl rfl (vp_lit (by decide +kernel)) dX11_plain_13 (hf23_1) (fun H locs hP hD hS => ?_)
  refine lv_aload_n hx hb dX11_plain_14 rfl (lv_at hl 0 rfl) ?_
  refine q_get (v := .ref (a 26)) C inX11 hK hP 0 rfl rfl 26 (by decide) rfl L58 rfl dX11_plain_15 ?_
  refine lv_iload_n hx hb dX11_plain_18 rfl (lv_at hl 1 rfl) ?_
  refine lv_iconst (v := 0) hx hb dX11_plain_19 (by decide) ?_
  refine q_iastS C hK hP hD hS 14 1 rfl rfl (vp_lit (by decide +kernel)) dX11_plain_20 (hf26_1) (fun H locs hP hD hS => ?_)
  refine lv_iconst (v := 0) hx hb dX11_plain_21 (by decide) ?_
  refine lv_istore_n (lv' := [(2, .int 0), (0, .ref h), (1, .int 1)]) hx hb dX11_plain_22 rfl hl (by decide) rfl (fun ls hl => ?_)
  refine lv_iload_n hx hb dX11_plain_23 rfl (lv_at hl 0 rfl) ?_
  refine lv_iconst (v := 4) hx hb dX11_plain_24 (by decide) ?_
  refine lv_icmp_ge (tgt := 56) hx hb dX11_plain_25 (by decide) (fun h => absurd h (by decide +kernel)) (fun _ => ?_)
  refine lv_aload_n hx hb dX11_plain_28 rfl (lv_at hl 1 rfl) ?_
  refine q_get (v := .ref (a 27)) C inX11 hK hP 0 rfl rfl 27 (by decide) rfl L61 rfl dX11_plain_29 ?_
  refine lv_iconst (v := 4) hx hb dX11_plain_32 (by decide) ?_
  refine lv_iload_n hx hb dX11_plain_33 rfl (lv_at hl 2 rfl) ?_
  refine lv_imul hx hb dX11_plain_34 ?_
  refine q_top (y := 4) (by decide +kernel) ?_
  refine lv_iload_n hx hb dX11_plain_35 rfl (lv_at hl 0 rfl) ?_
  refine lv_iadd hx hb dX11_plain_36 ?_
  refine q_top (y := 4) (by decide +kernel) ?_
  refine lv_iconst (v := 0) hx hb dX11_plain_37 (by decide) ?_
  refine q_iastS C hK hP hD hS 15 1 rfl rfl (vp_lit (by decide +kernel)) dX11_plain_38 (hf27_4) (fun H locs hP hD hS => ?_)
  refine lv_aload_n hx hb dX11_plain_39 rfl (lv_at hl 1 rfl) ?_
  refine q_get (v := .ref (a 28)) C inX11 hK hP 0 rfl rfl 28 (by decide) rfl L64 rfl dX11_plain_40 ?_
  refine lv_iconst (v := 4) hx hb dX11_plain_43 (by decide) ?_
  refine lv_iload_n hx hb dX11_plain_44 rfl (lv_at hl 2 rfl) ?_
  refine lv_imul hx hb dX11_plain_45 ?_
  refine q_top (y := 4) (by decide +kernel) ?_
  refine lv_iload_n hx hb dX11_plain_46 rfl (lv_at hl 0 rfl) ?_
  refine lv_iadd hx hb dX11_plain_47 ?_
  refine q_top (y := 4) (by decide +kernel) ?_
  refine lv_iconst (v := 0) hx hb dX11_plain_48 (by decide) ?_
  refine q_iastS C hK hP hD hS 16 1 rfl rfl (vp_lit (by decide +kernel)) dX11_plain_49 (hf28_4) (fun H locs hP hD hS => ?_)
  refine lv_iinc (v := 1) (lv' := [(2, .int 1), (0, .ref h), (1, .int 1)]) hx hb dX11_plain_50 hl (k := 0) rfl (by decide +kernel) (by decide) rfl (fun ls hl => ?_)
  refine lv_goto (tgt := 23) hx hb dX11_plain_53 (by decide) ?_
  refine lv_iload_n hx hb dX11_plain_23 rfl (lv_at hl 0 rfl) ?_
  refine lv_iconst (v := 4) hx hb dX11_plain_24 (by decide) ?_
  refine lv_icmp_ge (tgt := 56) hx hb dX11_plain_25 (by decide) (fun h => absurd h (by decide +kernel)) (fun _ => ?_)
  refine lv_aload_n hx hb dX11_plain_28 rfl (lv_at hl 1 rfl) ?_
  refine q_get (v := .ref (a 27)) C inX11 hK hP 0 rfl rfl 27 (by decide) rfl L61 rfl dX11_plain_29 ?_
  refine lv_iconst (v := 4) hx hb dX11_plain_32 (by decide) ?_
  refine lv_iload_n hx hb dX11_plain_33 rfl (lv_at hl 2 rfl) ?_
  refine lv_imul hx hb dX11_plain_34 ?_
  refine q_top (y := 4) (by decide +kernel) ?_
  refine lv_iload_n hx hb dX11_plain_35 rfl (lv_at hl 0 rfl) ?_
  refine lv_iadd hx hb dX11_plain_36 ?_
  refine q_top (y := 5) (by decide +kernel) ?_
  refine lv_iconst (v := 0) hx hb dX11_plain_37 (by decide) ?_
  refine q_iastS C hK hP hD hS 15 1 rfl rfl (vp_lit (by decide +kernel)) dX11_plain_38 (hf27_5) (fun H locs hP hD hS => ?_)
  refine lv_aload_n hx hb dX11_plain_39 rfl (lv_at hl 1 rfl) ?_
  refine q_get (v := .ref (a 28)) C inX11 hK hP 0 rfl rfl 28 (by decide) rfl L64 rfl dX11_plain_40 ?_
  refine lv_iconst (v := 4) hx hb dX11_plain_43 (by decide) ?_
  refine lv_iload_n hx hb dX11_plain_44 rfl (lv_at hl 2 rfl) ?_
  refine lv_imul hx hb dX11_plain_45 ?_
  refine q_top (y := 4) (by decide +kernel) ?_
  refine lv_iload_n hx hb dX11_plain_46 rfl (lv_at hl 0 rfl) ?_
  refine lv_iadd hx hb dX11_plain_47 ?_
  refine q_top (y := 5) (by decide +kernel) ?_
  refine lv_iconst (v := 0) hx hb dX11_plain_48 (by decide) ?_
  refine q_iastS C hK hP hD hS 16 1 rfl rfl (vp_lit (by decide +kernel)) dX11_plain_49 (hf28_5) (fun H locs hP hD hS => ?_)
  refine lv_iinc (v := 2) (lv' := [(2, .int 2), (0, .ref h), (1, .int 1)]) hx hb dX11_plain_50 hl (k := 0) rfl (by decide +kernel) (by decide) rfl (fun ls hl => ?_)
  refine lv_goto (tgt := 23) hx hb dX11_plain_53 (by decide) ?_
  refine lv_iload_n hx hb dX11_plain_23 rfl (lv_at hl 0 rfl) ?_
  refine lv_iconst (v := 4) hx hb dX11_plain_24 (by decide) ?_
  refine lv_icmp_ge (tgt := 56) hx hb dX11_plain_25 (by decide) (fun h => absurd h (by decide +kernel)) (fun _ => ?_)
  refine lv_aload_n hx hb dX11_plain_28 rfl (lv_at hl 1 rfl) ?_
  refine q_get (v := .ref (a 27)) C inX11 hK hP 0 rfl rfl 27 (by decide) rfl L61 rfl dX11_plain_29 ?_
  refine lv_iconst (v := 4) hx hb dX11_plain_32 (by decide) ?_
  refine lv_iload_n hx hb dX11_plain_33 rfl (lv_at hl 2 rfl) ?_
  refine lv_imul hx hb dX11_plain_34 ?_
  refine q_top (y := 4) (by decide +kernel) ?_
  refine lv_iload_n hx hb dX11_plain_35 rfl (lv_at hl 0 rfl) ?_
  refine lv_iadd hx hb dX11_plain_36 ?_
  refine q_top (y := 6) (by decide +kernel) ?_
  refine lv_iconst (v := 0) hx hb dX11_plain_37 (by decide) ?_
  refine q_iastS C hK hP hD hS 15 1 rfl rfl (vp_lit (by decide +kernel)) dX11_plain_38 (hf27_6) (fun H locs hP hD hS => ?_)
  refine lv_aload_n hx hb dX11_plain_39 rfl (lv_at hl 1 rfl) ?_
  refine q_get (v := .ref (a 28)) C inX11 hK hP 0 rfl rfl 28 (by decide) rfl L64 rfl dX11_plain_40 ?_
  refine lv_iconst (v := 4) hx hb dX11_plain_43 (by decide) ?_
  refine lv_iload_n hx hb dX11_plain_44 rfl (lv_at hl 2 rfl) ?_
  refine lv_imul hx hb dX11_plain_45 ?_
  refine q_top (y := 4) (by decide +kernel) ?_
  refine lv_iload_n hx hb dX11_plain_46 rfl (lv_at hl 0 rfl) ?_
  refine lv_iadd hx hb dX11_plain_47 ?_
  refine q_top (y := 6) (by decide +kernel) ?_
  refine lv_iconst (v := 0) hx hb dX11_plain_48 (by decide) ?_
  refine q_iastS C hK hP hD hS 16 1 rfl rfl (vp_lit (by decide +kernel)) dX11_plain_49 (hf28_6) (fun H locs hP hD hS => ?_)
  refine lv_iinc (v := 3) (lv' := [(2, .int 3), (0, .ref h), (1, .int 1)]) hx hb dX11_plain_50 hl (k := 0) rfl (by decide +kernel) (by decide) rfl (fun ls hl => ?_)
  refine lv_goto (tgt := 23) hx hb dX11_plain_53 (by decide) ?_
  refine lv_iload_n hx hb dX11_plain_23 rfl (lv_at hl 0 rfl) ?_
  refine lv_iconst (v := 4) hx hb dX11_plain_24 (by decide) ?_
  refine lv_icmp_ge (tgt := 56) hx hb dX11_plain_25 (by decide) (fun h => absurd h (by decide +kernel)) (fun _ => ?_)
  refine lv_aload_n hx hb dX11_plain_28 rfl (lv_at hl 1 rfl) ?_
  refine q_get (v := .ref (a 27)) C inX11 hK hP 0 rfl rfl 27 (by decide) rfl L61 rfl dX11_plain_29 ?_
  refine lv_iconst (v := 4) hx hb dX11_plain_32 (by decide) ?_
  refine lv_iload_n hx hb dX11_plain_33 rfl (lv_at hl 2 rfl) ?_
  refine lv_imul hx hb dX11_plain_34 ?_
  refine q_top (y := 4) (by decide +kernel) ?_
  refine lv_iload_n hx hb dX11_plain_35 rfl (lv_at hl 0 rfl) ?_
  refine lv_iadd hx hb dX11_plain_36 ?_
  refine q_top (y := 7) (by decide +kernel) ?_
  refine lv_iconst (v := 0) hx hb dX11_plain_37 (by decide) ?_
  refine q_iastS C hK hP hD hS 15 1 rfl rfl (vp_lit (by decide +kernel)) dX11_plain_38 (hf27_7) (fun H locs hP hD hS => ?_)
  refine lv_aload_n hx hb dX11_plain_39 rfl (lv_at hl 1 rfl) ?_
  refine q_get (v := .ref (a 28)) C inX11 hK hP 0 rfl rfl 28 (by decide) rfl L64 rfl dX11_plain_40 ?_
  refine lv_iconst (v := 4) hx hb dX11_plain_43 (by decide) ?_
  refine lv_iload_n hx hb dX11_plain_44 rfl (lv_at hl 2 rfl) ?_
  refine lv_imul hx hb dX11_plain_45 ?_
  refine q_top (y := 4) (by decide +kernel) ?_
  refine lv_iload_n hx hb dX11_plain_46 rfl (lv_at hl 0 rfl) ?_
  refine lv_iadd hx hb dX11_plain_47 ?_
  refine q_top (y := 7) (by decide +kernel) ?_
  refine lv_iconst (v := 0) hx hb dX11_plain_48 (by decide) ?_
  refine q_iastS C hK hP hD hS 16 1 rfl rfl (vp_lit (by decide +kernel)) dX11_plain_49 (hf28_7) (fun H locs hP hD hS => ?_)
  refine lv_iinc (v := 4) (lv' := [(2, .int 4), (0, .ref h), (1, .int 1)]) hx hb dX11_plain_50 hl (k := 0) rfl (by decide +kernel) (by decide) rfl (fun ls hl => ?_)
  refine lv_goto (tgt := 23) hx hb dX11_plain_53 (by decide) ?_
  refine lv_iload_n hx hb dX11_plain_23 rfl (lv_at hl 0 rfl) ?_
  refine lv_iconst (v := 4) hx hb dX11_plain_24 (by decide) ?_
  refine lv_icmp_ge (tgt := 56) hx hb dX11_plain_25 (by decide) (fun _ => ?_) (fun h => absurd (by decide +kernel) h)
  exact q_vret C hr hlocks hK hP hD hS (Nat.le_of_ble_eq_true rfl) (Nat.le_of_ble_eq_true rfl) dX11_plain_56 (rfl)

/-- a fresh reference -/
def FreshM (v : Nat → Int32) (f : Nat → Nat → Int32) : Prop := v 18 = 0 ∧ v 45 = 0 ∧ v 2 = 0 ∧ v 48 = 0 ∧ v 51 = 0 ∧ v 17 = (-1) ∧ f 20 0 = 0 ∧ f 23 0 = 0 ∧ f 26 0 = 0 ∧ f 46 0 = 1 ∧ f 56 0 = 0 ∧ f 56 1 = 0 ∧ f 56 2 = 0 ∧ f 44 0 = 0 ∧ f 44 1 = 0 ∧ f 44 2 = 0 ∧ f 44 3 = 0 ∧ f 44 4 = 0 ∧ f 44 27 = 0 ∧ f 44 28 = 0 ∧ f 43 10 = 0 ∧ f 43 11 = 0 ∧ f 43 12 = 0 ∧ f 43 13 = 0 ∧ f 43 14 = 0 ∧ f 43 21 = 0 ∧ f 43 22 = 0 ∧ f 43 23 = 0 ∧ f 43 24 = 0 ∧ f 43 25 = 0 ∧ f 43 26 = 0 ∧ f 43 27 = 0 ∧ f 43 28 = 0 ∧ (∀ j, j < 29 → f 44 j = f 43 j)

set_option maxHeartbeats 4000000 in
set_option maxRecDepth 100000 in
theorem mb_3 (l : Launch) (dC : Nat → ClassId) (dI : Nat → Nat → Nat) (cB cI cJ cZ cS : ClassId) (h : Nat) {p : Program} {e : Env} {s : State} {m : MethodId} {below : List Frame} {meth : Method} {c : Code} {A : Nat → Prop} (C : CallFix p m c cX11_init 1 s [Value.ref h].toArray wsX11_init yX11_init.cls) (hr : meth.sig.returnType = none) (hlocks : meth.locks = false) (hnm : meth.name = yX11_init.name) (hA : ∀ q, s.heap.size ≤ q → A q) (hK : va_K (dC, dI) vwCl (tysA cB cI cJ cZ cS) s) (hN : nw_ok s) (a : Nat → Nat) (v : Nat → Int32) (f : Nat → Nat → Int32) (g : Nat → Nat → Int64) (hv18 : v 18 = 0) (hv45 : v 45 = 0) (hv2 : v 2 = 0) (hv48 : v 48 = 0) (hv51 : v 51 = 0) (hv17 : v 17 = (-1)) (hf20_0 : f 20 0 = 0) (hf23_0 : f 23 0 = 0) (hf26_0 : f 26 0 = 0) (hf56_0 : f 56 0 = 0) (hf56_1 : f 56 1 = 0) (hf56_2 : f 56 2 = 0) (hf27_0 : f 27 0 = 0) (hf27_1 : f 27 1 = 0) (hf27_2 : f 27 2 = 0) (hf27_3 : f 27 3 = 0) (hf28_0 : f 28 0 = 0) (hf28_1 : f 28 1 = 0) (hf28_2 : f 28 2 = 0) (hf28_3 : f 28 3 = 0) (hf20_1 : f 20 1 = 0) (hf23_1 : f 23 1 = 0) (hf26_1 : f 26 1 = 0) (hf27_4 : f 27 4 = 0) (hf27_5 : f 27 5 = 0) (hf27_6 : f 27 6 = 0) (hf27_7 : f 27 7 = 0) (hf28_4 : f 28 4 = 0) (hf28_5 : f 28 5 = 0) (hf28_6 : f 28 6 = 0) (hf28_7 : f 28 7 = 0) (H : Heap) (locs : List Loc) (ls : Array Slot) (hP : va_P (dC, dI) vwCl (mw cB cI cJ cZ h a v f g) H) (hD : va_D A (mw cB cI cJ cZ h a v f g)) (hS : va_S A s.heap H locs) (hl : lv_has ls 1 [(0, .ref h)]) : W p l e ({ frames := 2, cells := 38, slots := 18381, locals := 48 }) s m [Value.ref h].toArray below meth c H locs 38 18381 (MQ below (va_Qv (fun w => ∃ (a : Nat → Nat) (v : Nat → Int32) (f : Nat → Nat → Int32) (g : Nat → Nat → Int64), FreshM v f ∧ w = mw cB cI cJ cZ h a v f g) (at_W (dC, dI) (tysA cB cI cJ cZ cS) A) A) [Value.ref h].toArray s 38 18381 A) (F0 m 733 ls []) := by
  obtain ⟨hx, hb, hml, hown, hts⟩ := id C
  refine lv_aload_n hx hb dX11_init_733 rfl (lv_at hl 0 rfl) ?_
  refine q_govF (va_runV (As := []) (rest := []) C (c_begins0 l dC dI cB cI cJ cZ cS h a v f g hv18 hf26_0 hv45 _) (cwV 0 hts gX11_init_X11_begins rfl rfl rfl (by decide +kernel) ⟨Nat.le_of_ble_eq_true rfl, Nat.le_of_ble_eq_true rfl⟩) (q_preV hK hP (ci := 11) (q0 := 0) rfl rfl rfl (q_preF hN hK hP hD)) rfl rfl hl.1 rfl (lv_room (Nat.le_of_ble_eq_true rfl)) dX11_init_734 ⟨Nat.le_of_ble_eq_true rfl, Nat.le_of_ble_eq_true rfl⟩) hD hS hA (fun w1 H locs hw hP hD hS => ?_)
  obtain ⟨φb1, hφb2, rfl⟩ := hw
  refine lv_aload_n hx hb dX11_init_737 rfl (lv_at hl 0 rfl) ?_
  refine q_govF (va_runV (As := []) (rest := []) C (c_keepsRow l dC dI cB cI cJ cZ cS h a v (va_up (va_up (va_up (va_up (va_up (va_up (va_up f 44 φb1) 46 (upd (f 46) 0 1)) 46 (upd (upd (f 46) 0 1) 1 6)) 46 (upd (upd (upd (f 46) 0 1) 1 6) 2 36)) 46 (upd (upd (upd (upd (f 46) 0 1) 1 6) 2 36) 3 216)) 46 (upd (upd (upd (upd (upd (f 46) 0 1) 1 6) 2 36) 3 216) 4 1296)) 46 (upd (upd (upd (upd (upd (upd (f 46) 0 1) 1 6) 2 36) 3 216) 4 1296) 5 7776)) g _) (cwV 0 hts gX11_init_X11_keepsRow rfl rfl rfl (by decide +kernel) ⟨Nat.le_of_ble_eq_true rfl, Nat.le_of_ble_eq_true rfl⟩) (q_preV hK hP (ci := 11) (q0 := 0) rfl rfl rfl (q_preF hN hK hP hD)) rfl rfl hl.1 rfl (lv_room (Nat.le_of_ble_eq_true rfl)) dX11_init_738 ⟨Nat.le_of_ble_eq_true rfl, Nat.le_of_ble_eq_true rfl⟩) hD hS hA (fun w1 H locs hw hP hD hS => ?_)
  obtain ⟨φk3, hφk4, rfl⟩ := hw
  exact q_vret C hr hlocks hK hP hD hS (Nat.le_of_ble_eq_true rfl) (Nat.le_of_ble_eq_true rfl) dX11_init_741 (⟨a, v, (va_up (va_up (va_up (va_up (va_up (va_up (va_up (va_up f 44 φb1) 46 (upd (f 46) 0 1)) 46 (upd (upd (f 46) 0 1) 1 6)) 46 (upd (upd (upd (f 46) 0 1) 1 6) 2 36)) 46 (upd (upd (upd (upd (f 46) 0 1) 1 6) 2 36) 3 216)) 46 (upd (upd (upd (upd (upd (f 46) 0 1) 1 6) 2 36) 3 216) 4 1296)) 46 (upd (upd (upd (upd (upd (upd (f 46) 0 1) 1 6) 2 36) 3 216) 4 1296) 5 7776)) 43 φk3), g, ⟨hv18, hv45, hv2, hv48, hv51, hv17, hf20_0, hf23_0, hf26_0, rfl, hf56_0, hf56_1, hf56_2, (hφb2 0 (by decide)).trans (by decide +kernel), (hφb2 1 (by decide)).trans (by decide +kernel), (hφb2 2 (by decide)).trans (by decide +kernel), (hφb2 3 (by decide)).trans (by decide +kernel), (hφb2 4 (by decide)).trans (by decide +kernel), (hφb2 27 (by decide)).trans (by decide +kernel), (hφb2 28 (by decide)).trans (by decide +kernel), (hφk4 10 (by decide)).trans ((hφb2 10 (by decide)).trans (by decide +kernel)), (hφk4 11 (by decide)).trans ((hφb2 11 (by decide)).trans (by decide +kernel)), (hφk4 12 (by decide)).trans ((hφb2 12 (by decide)).trans (by decide +kernel)), (hφk4 13 (by decide)).trans ((hφb2 13 (by decide)).trans (by decide +kernel)), (hφk4 14 (by decide)).trans ((hφb2 14 (by decide)).trans (by decide +kernel)), (hφk4 21 (by decide)).trans ((hφb2 21 (by decide)).trans (by decide +kernel)), (hφk4 22 (by decide)).trans ((hφb2 22 (by decide)).trans (by decide +kernel)), (hφk4 23 (by decide)).trans ((hφb2 23 (by decide)).trans (by decide +kernel)), (hφk4 24 (by decide)).trans ((hφb2 24 (by decide)).trans (by decide +kernel)), (hφk4 25 (by decide)).trans ((hφb2 25 (by decide)).trans (by decide +kernel)), (hφk4 26 (by decide)).trans ((hφb2 26 (by decide)).trans (by decide +kernel)), (hφk4 27 (by decide)).trans ((hφb2 27 (by decide)).trans (by decide +kernel)), (hφk4 28 (by decide)).trans ((hφb2 28 (by decide)).trans (by decide +kernel)), fun j hj => (hφk4 j hj).symm⟩, rfl⟩)
