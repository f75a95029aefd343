theorem dX11_put_0 : decode cX11_put 0 = .ok (.bipush 24, 2) := by decide +kernel
theorem dX11_put_2 : decode cX11_put 2 = .ok (.istore_n 2, 1) := by decide +kernel
theorem dX11_put_3 : decode cX11_put 3 = .ok (.iload_n 2, 1) := by decide +kernel
theorem dX11_put_4 : decode cX11_put 4 = .ok (.ifCond .lt 32, 3) := by decide +kernel
theorem dX11_put_7 : decode cX11_put 7 = .ok (.aload_n 0, 1) := by decide +kernel
theorem dX11_put_8 : decode cX11_put 8 = .ok (.getfield 13, 3) := by decide +kernel
theorem dX11_put_11 : decode cX11_put 11 = .ok (.aload_n 0, 1) := by decide +kernel
theorem dX11_put_12 : decode cX11_put 12 = .ok (.getfield 148, 3) := by decide +kernel
theorem dX11_put_15 : decode cX11_put 15 = .ok (.iload_n 1, 1) := by decide +kernel
theorem dX11_put_16 : decode cX11_put 16 = .ok (.iload_n 2, 1) := by decide +kernel
theorem dX11_put_17 : decode cX11_put 17 = .ok (.ishr, 1) := by decide +kernel
theorem dX11_put_18 : decode cX11_put 18 = .ok (.i2b, 1) := by decide +kernel
theorem dX11_put_19 : decode cX11_put 19 = .ok (.bastore, 1) := by decide +kernel
theorem dX11_put_20 : decode cX11_put 20 = .ok (.aload_n 0, 1) := by decide +kernel
theorem dX11_put_21 : decode cX11_put 21 = .ok (.dup, 1) := by decide +kernel
theorem dX11_put_22 : decode cX11_put 22 = .ok (.getfield 148, 3) := by decide +kernel
theorem dX11_put_25 : decode cX11_put 25 = .ok (.iconst 1, 1) := by decide +kernel
theorem dX11_put_26 : decode cX11_put 26 = .ok (.iadd, 1) := by decide +kernel
theorem dX11_put_27 : decode cX11_put 27 = .ok (.putfield 148, 3) := by decide +kernel
theorem dX11_put_30 : decode cX11_put 30 = .ok (.iinc 2 (-8), 3) := by decide +kernel
theorem dX11_put_33 : decode cX11_put 33 = .ok (.goto (-30), 3) := by decide +kernel
theorem dX11_put_36 : decode cX11_put 36 = .ok (.return_, 1) := by decide +kernel
set_option maxRecDepth 20000 in
theorem ggX11_ask_X11_isAsked : GoodIn wsX11_ask wsX11_isAsked := goodIn_r _ [8, 9, 10, 11, 7, 12, 67, 68, 69, 70, 71, 72, 73, 74, 75, 76, 77, 78, 79, 80, 81, 82, 83, 84, 85, 86, 87, 88, 89, 90, 91, 92, 93, 94, 95, 96, 97, 98, 99, 100, 101, 102, 103, 104, 105, 106, 107, 108, 109, 110, 111, 112, 113, 114, 115, 116, 117, 118, 119, 120, 121, 122, 123, 124] (by decide +kernel) (by decide +kernel)
set_option maxRecDepth 20000 in
theorem gX11_ask_X11_isAsked : GoodIn wsX11_ask (wsV RX11 422 RX11 yX11_isAsked wsX11_isAsked) := goodIn_app (goodIn_of _ (by decide +kernel)) ggX11_ask_X11_isAsked
set_option maxRecDepth 20000 in
theorem ggX11_ask_X11_fillsChances : GoodIn wsX11_ask wsX11_fillsChances := goodIn_r _ [16, 17, 18, 19, 20, 7, 21, 22, 23, 24, 3, 25, 26, 27, 28, 29, 30, 2, 31, 32, 33, 34, 35, 36, 37, 38, 39, 40, 41, 42, 43, 44, 45, 46, 47, 48, 49, 50, 51, 67, 68, 69, 70, 71, 72, 73, 74, 75, 76, 77, 78, 79, 80, 81, 82, 83, 84, 85, 86, 87, 88, 89, 90, 91, 92, 93, 94, 95, 96, 97, 98, 99, 100, 101, 102, 103, 104, 105, 106, 107, 108, 109, 110, 111, 112, 113, 114, 115, 116, 117, 118, 119, 120, 121, 122, 123, 124] (by decide +kernel) (by decide +kernel)
set_option maxRecDepth 20000 in
theorem gX11_ask_X11_fillsChances : GoodIn wsX11_ask (wsV RX11 404 RX11 yX11_fillsChances wsX11_fillsChances) := goodIn_app (goodIn_of _ (by decide +kernel)) ggX11_ask_X11_fillsChances
set_option maxRecDepth 20000 in
theorem ggX11_ask_X11_guesses : GoodIn wsX11_ask wsX11_guesses := goodIn_r _ [29, 30, 2, 3, 67, 68, 69, 70, 71, 72, 73, 74, 75, 76, 77, 78, 79, 80, 81, 82, 83, 84, 85, 86, 87, 88, 89, 90, 91, 92, 93, 94, 95, 96, 97, 98, 99, 100, 101, 102, 103, 104, 105, 106, 107, 108, 109, 110, 111, 112, 113, 114, 115, 116, 117, 118, 119, 120, 121, 122, 123, 124] (by decide +kernel) (by decide +kernel)
set_option maxRecDepth 20000 in
theorem gX11_ask_X11_guesses : GoodIn wsX11_ask (wsV RX11 285 RX11 yX11_guesses wsX11_guesses) := goodIn_app (goodIn_of _ (by decide +kernel)) ggX11_ask_X11_guesses
set_option maxRecDepth 20000 in
theorem ggX11_ask_X11_doesFit : GoodIn wsX11_ask wsX11_doesFit := goodIn_r _ [55, 17, 56, 57, 58, 7, 59, 60, 61, 62, 35, 36, 37, 38, 30, 67, 68, 69, 70, 71, 72, 73, 74, 75, 76, 77, 78, 79, 80, 81, 82, 83, 84, 85, 86, 87, 88, 89, 90, 91, 92, 93, 94, 95, 96, 97, 98, 99, 100, 101, 102, 103, 104, 105, 106, 107, 108, 109, 110, 111, 112, 113, 114, 115, 116, 117, 118, 119, 120, 121, 122, 123, 124] (by decide +kernel) (by decide +kernel)
set_option maxRecDepth 20000 in
theorem gX11_ask_X11_doesFit : GoodIn wsX11_ask (wsV RX11 425 RX11 yX11_doesFit wsX11_doesFit) := goodIn_app (goodIn_of _ (by decide +kernel)) ggX11_ask_X11_doesFit
theorem dX11_ask_0 : decode cX11_ask 0 = .ok (.aload_n 0, 1) := by decide +kernel
theorem dX11_ask_1 : decode cX11_ask 1 = .ok (.iload_n 1, 1) := by decide +kernel
theorem dX11_ask_2 : decode cX11_ask 2 = .ok (.iload_n 2, 1) := by decide +kernel
theorem dX11_ask_3 : decode cX11_ask 3 = .ok (.invokevirtual 422, 3) := by decide +kernel
theorem dX11_ask_6 : decode cX11_ask 6 = .ok (.ifCond .ne 5, 3) := by decide +kernel
theorem dX11_ask_9 : decode cX11_ask 9 = .ok (.iconst (-1), 1) := by decide +kernel
theorem dX11_ask_10 : decode cX11_ask 10 = .ok (.ireturn, 1) := by decide +kernel
theorem dX11_ask_11 : decode cX11_ask 11 = .ok (.aload_n 0, 1) := by decide +kernel
theorem dX11_ask_12 : decode cX11_ask 12 = .ok (.invokevirtual 404, 3) := by decide +kernel
theorem dX11_ask_15 : decode cX11_ask 15 = .ok (.iconst 0, 1) := by decide +kernel
theorem dX11_ask_16 : decode cX11_ask 16 = .ok (.istore_n 3, 1) := by decide +kernel
theorem dX11_ask_17 : decode cX11_ask 17 = .ok (.iload_n 3, 1) := by decide +kernel
theorem dX11_ask_18 : decode cX11_ask 18 = .ok (.bipush 30, 2) := by decide +kernel
theorem dX11_ask_20 : decode cX11_ask 20 = .ok (.if_icmp .ge 16, 3) := by decide +kernel
theorem dX11_ask_23 : decode cX11_ask 23 = .ok (.aload_n 0, 1) := by decide +kernel
theorem dX11_ask_24 : decode cX11_ask 24 = .ok (.getfield 125, 3) := by decide +kernel
theorem dX11_ask_27 : decode cX11_ask 27 = .ok (.iload_n 3, 1) := by decide +kernel
theorem dX11_ask_28 : decode cX11_ask 28 = .ok (.iconst 0, 1) := by decide +kernel
theorem dX11_ask_29 : decode cX11_ask 29 = .ok (.iastore, 1) := by decide +kernel
theorem dX11_ask_30 : decode cX11_ask 30 = .ok (.iinc 3 1, 3) := by decide +kernel
theorem dX11_ask_33 : decode cX11_ask 33 = .ok (.goto (-16), 3) := by decide +kernel
theorem dX11_ask_36 : decode cX11_ask 36 = .ok (.iconst 0, 1) := by decide +kernel
theorem dX11_ask_37 : decode cX11_ask 37 = .ok (.istore_n 3, 1) := by decide +kernel
theorem dX11_ask_38 : decode cX11_ask 38 = .ok (.iconst 0, 1) := by decide +kernel
theorem dX11_ask_39 : decode cX11_ask 39 = .ok (.istore 4, 2) := by decide +kernel
theorem dX11_ask_41 : decode cX11_ask 41 = .ok (.iload 4, 2) := by decide +kernel
theorem dX11_ask_43 : decode cX11_ask 43 = .ok (.aload_n 0, 1) := by decide +kernel
theorem dX11_ask_44 : decode cX11_ask 44 = .ok (.invokevirtual 285, 3) := by decide +kernel
theorem dX11_ask_47 : decode cX11_ask 47 = .ok (.if_icmp .ge 72, 3) := by decide +kernel
theorem dX11_ask_50 : decode cX11_ask 50 = .ok (.aload_n 0, 1) := by decide +kernel
theorem dX11_ask_51 : decode cX11_ask 51 = .ok (.iload 4, 2) := by decide +kernel
theorem dX11_ask_53 : decode cX11_ask 53 = .ok (.iload_n 1, 1) := by decide +kernel
theorem dX11_ask_54 : decode cX11_ask 54 = .ok (.iload_n 2, 1) := by decide +kernel
theorem dX11_ask_55 : decode cX11_ask 55 = .ok (.invokevirtual 425, 3) := by decide +kernel
theorem dX11_ask_58 : decode cX11_ask 58 = .ok (.ifCond .ne 6, 3) := by decide +kernel
theorem dX11_ask_64 : decode cX11_ask 64 = .ok (.iinc 3 1, 3) := by decide +kernel
theorem dX11_ask_67 : decode cX11_ask 67 = .ok (.iconst 0, 1) := by decide +kernel
theorem dX11_ask_68 : decode cX11_ask 68 = .ok (.istore 5, 2) := by decide +kernel
theorem dX11_ask_70 : decode cX11_ask 70 = .ok (.iload 5, 2) := by decide +kernel
theorem dX11_ask_72 : decode cX11_ask 72 = .ok (.aload_n 0, 1) := by decide +kernel
theorem dX11_ask_73 : decode cX11_ask 73 = .ok (.getfield 40, 3) := by decide +kernel
theorem dX11_ask_76 : decode cX11_ask 76 = .ok (.aload_n 0, 1) := by decide +kernel
theorem dX11_ask_77 : decode cX11_ask 77 = .ok (.getfield 215, 3) := by decide +kernel
theorem dX11_ask_80 : decode cX11_ask 80 = .ok (.iaload, 1) := by decide +kernel
theorem dX11_ask_81 : decode cX11_ask 81 = .ok (.if_icmp .ge 32, 3) := by decide +kernel
theorem dX11_ask_113 : decode cX11_ask 113 = .ok (.iinc 4 1, 3) := by decide +kernel
theorem dX11_ask_116 : decode cX11_ask 116 = .ok (.goto (-75), 3) := by decide +kernel
theorem dX11_ask_119 : decode cX11_ask 119 = .ok (.bipush (-2), 2) := by decide +kernel
theorem dX11_ask_121 : decode cX11_ask 121 = .ok (.istore 4, 2) := by decide +kernel
theorem dX11_ask_123 : decode cX11_ask 123 = .ok (.iconst 0, 1) := by decide +kernel
theorem dX11_ask_124 : decode cX11_ask 124 = .ok (.istore 5, 2) := by decide +kernel
theorem dX11_ask_126 : decode cX11_ask 126 = .ok (.iload 5, 2) := by decide +kernel
theorem dX11_ask_128 : decode cX11_ask 128 = .ok (.aload_n 0, 1) := by decide +kernel
theorem dX11_ask_129 : decode cX11_ask 129 = .ok (.getfield 40, 3) := by decide +kernel
theorem dX11_ask_132 : decode cX11_ask 132 = .ok (.aload_n 0, 1) := by decide +kernel
theorem dX11_ask_133 : decode cX11_ask 133 = .ok (.getfield 215, 3) := by decide +kernel
theorem dX11_ask_136 : decode cX11_ask 136 = .ok (.iaload, 1) := by decide +kernel
theorem dX11_ask_137 : decode cX11_ask 137 = .ok (.if_icmp .ge 37, 3) := by decide +kernel
theorem dX11_ask_174 : decode cX11_ask 174 = .ok (.iload 4, 2) := by decide +kernel
theorem dX11_ask_176 : decode cX11_ask 176 = .ok (.ireturn, 1) := by decide +kernel
set_option maxHeartbeats 4000000 in
set_option maxRecDepth 100000 in
theorem c_ask (l : Launch) (dC : Nat → ClassId) (dI : Nat → Nat → Nat) (cB cI cJ cZ cS : ClassId) (h : Nat) (a : Nat → Nat) (v : Nat → Int32) (f : Nat → Nat → Int32) (g : Nat → Nat → Int64) (hv18 : v 18 = 0) (hf26_0 : f 26 0 = 0) (hv45 : v 45 = 0) (hf20_0 : f 20 0 = 0) (hf46_0 : f 46 0 = 1) (hv51 : v 51 = 0) (x1 : Int32) (x2 : Int32) (hrow : ∀ j, j < 29 → f 44 j = f 43 j) : CI l yX11_ask wsX11_ask ({ frames := 2, cells := 0, slots := 0, locals := 45 }) (dC, dI) (tysA cB cI cJ cZ cS) (mw cB cI cJ cZ h a v f g) [.ref h, .int x1, .int x2] (fun r _ => r = (fr_ask (-2) x1 x2)) := by
  refine open_I (cc := cX11_ask) (maxL := 6) (ret := (some .int)) (by decide) rfl (Nat.le_of_ble_eq_true rfl) ?_
  intro p e s m below meth c A ls E
  obtain ⟨C, hr, hlocks, hnm, hA, hP, hK, hD, hN, hl⟩ := E
  obtain ⟨hx, hb, hml, hown, hts⟩ := id C
  have hS : va_S A s.heap s.heap [] := va_S.rf
  have hl : lv_has ls 6 [(0, .ref h), (1, .int x1), (2, .int x2)] := hl
  have inX11 : ∀ w ∈ u_ws RX11 TX11 58, w ∈ wsX11_ask := by decide +kernel
  have L125 : Cond.fieldLink RX11 125 "GuessFerryModel" "fitBy" "[I" ∈ wsX11_ask := by decide +kernel
  have L215 : Cond.fieldLink RX11 215 "GuessFerryModel" "live" "I" ∈ wsX11_ask := by decide +kernel
  have L40 : Cond.fieldLink RX11 40 "GuessFerryModel" "waves" "[I" ∈ wsX11_ask := by decide +kernel
  refine lv_aload_n hx hb dX11_ask_0 rfl (lv_at hl 0 rfl) ?_
  refine lv_iload_n hx hb dX11_ask_1 rfl (lv_at hl 1 rfl) ?_
  refine lv_iload_n hx hb dX11_ask_2 rfl (lv_at hl 2 rfl) ?_
  refine q_goiF (va_runV (As := [.int x1, .int x2]) (rest := []) C (c_isAsked l dC dI cB cI cJ cZ cS h a v f g hv51 x1 x2 _) (cwV 2 hts gX11_ask_X11_isAsked rfl rfl rfl (by decide +kernel) ⟨Nat.le_of_ble_eq_true rfl, Nat.le_of_ble_eq_true rfl⟩) (q_preV hK hP (ci := 11) (q0 := 0) rfl rfl rfl (q_preF hN hK hP hD)) rfl rfl hl.1 rfl (lv_room (Nat.le_of_ble_eq_true rfl)) dX11_ask_3 ⟨Nat.le_of_ble_eq_true rfl, Nat.le_of_ble_eq_true rfl⟩) hD hS hA (fun r w1 H locs hw hP hD hS => ?_)
  obtain ⟨rfl, rfl⟩ := hw
  refine lv_if_ne (tgt := 11) hx hb dX11_ask_6 (by decide) (fun c1 => ?_) (fun c1 => ?_)
  · skip
    have hl0 := sp_ask_l c1
    obtain rfl : x1 = 0 := sp_ask_k c1
    refine lv_aload_n hx hb dX11_ask_11 rfl (lv_at hl 0 rfl) ?_
    refine q_govF (va_runV (As := []) (rest := []) C (c_fillsChances l dC dI cB cI cJ cZ cS h a v f g hv18 hf26_0 hv45 hf20_0 hf46_0 (hrow) _) (cwV 0 hts gX11_ask_X11_fillsChances rfl rfl rfl (by decide +kernel) ⟨Nat.le_of_ble_eq_true rfl, Nat.le_of_ble_eq_true rfl⟩) (q_preV hK hP (ci := 11) (q0 := 0) rfl rfl rfl (q_preF hN hK hP hD)) rfl rfl hl.1 rfl (lv_room (Nat.le_of_ble_eq_true rfl)) dX11_ask_12 ⟨Nat.le_of_ble_eq_true rfl, Nat.le_of_ble_eq_true rfl⟩) hD hS hA (fun w1 H locs hw hP hD hS => ?_)
    obtain rfl := hw
    refine lv_iconst (v := 0) hx hb dX11_ask_15 (by decide) ?_
    refine lv_istore_n (lv' := [(3, .int 0), (0, .ref h), (1, .int 0), (2, .int x2)]) hx hb dX11_ask_16 rfl hl (by decide) rfl (fun ls hl => ?_)
    have loop2 : ∀ (n i : Nat), i + n = 30 → ∀ (φ : Nat → Int32) (H : Heap) (locs : List Loc) (ls : Array Slot), va_P (dC, dI) vwCl (mw cB cI cJ cZ h a v (va_up (va_up f 50 (upd (f 50) 0 1)) 55 φ) g) H → va_D A (mw cB cI cJ cZ h a v (va_up (va_up f 50 (upd (f 50) 0 1)) 55 φ) g) → va_S A s.heap H locs → lv_has ls 6 [(3, .int (nI i)), (0, .ref h), (1, .int 0), (2, .int x2)] → W p l e ({ frames := 2, cells := 0, slots := 0, locals := 45 }) s m [Value.ref h, Value.int 0, Value.int x2].toArray below meth c H locs 0 0 (MQ below (va_Qi (fun r _ => r = (fr_ask (-2) 0 x2)) (at_W (dC, dI) (tysA cB cI cJ cZ cS) A) A) [Value.ref h, Value.int 0, Value.int x2].toArray s 0 0 A) (F0 m 17 ls []) := by
      intro n
      induction n with
      | zero =>
        intro i hi φ H locs ls hP hD hS hl
        obtain rfl : i = 30 := by omega
        refine lv_iload_n hx hb dX11_ask_17 rfl (lv_at hl 0 rfl) ?_
        refine lv_bipush (v := 30) hx hb dX11_ask_18 (by decide) ?_
        refine lv_icmp_ge (tgt := 36) hx hb dX11_ask_20 (by decide) (fun _ => ?_) (fun h => absurd (by decide +kernel) h)
        refine lv_iconst (v := 0) hx hb dX11_ask_36 (by decide) ?_
        refine lv_istore_n (lv' := [(3, .int 0), (0, .ref h), (1, .int 0), (2, .int x2)]) hx hb dX11_ask_37 rfl hl (by decide) rfl (fun ls hl => ?_)
        refine lv_iconst (v := 0) hx hb dX11_ask_38 (by decide) ?_
        refine lv_istore (lv' := [(4, .int 0), (3, .int 0), (0, .ref h), (1, .int 0), (2, .int x2)]) hx hb dX11_ask_39 hl (by decide) rfl (fun ls hl => ?_)
        refine lv_iload hx hb dX11_ask_41 (lv_at hl 0 rfl) ?_
        refine lv_aload_n hx hb dX11_ask_43 rfl (lv_at hl 2 rfl) ?_
        refine q_goiF (va_runV (As := []) (rest := [.int 0]) C (c_guesses l dC dI cB cI cJ cZ cS h a v (va_up (va_up f 50 (upd (f 50) 0 1)) 55 φ) g hv18 hf20_0 hf46_0 _) (cwV 0 hts gX11_ask_X11_guesses rfl rfl rfl (by decide +kernel) ⟨Nat.le_of_ble_eq_true rfl, Nat.le_of_ble_eq_true rfl⟩) (q_preV hK hP (ci := 11) (q0 := 0) rfl rfl rfl (q_preF hN hK hP hD)) rfl rfl hl.1 rfl (lv_room (Nat.le_of_ble_eq_true rfl)) dX11_ask_44 ⟨Nat.le_of_ble_eq_true rfl, Nat.le_of_ble_eq_true rfl⟩) hD hS hA (fun r w1 H locs hw hP hD hS => ?_)
        obtain ⟨rfl, rfl⟩ := hw
        refine lv_icmp_ge (tgt := 119) hx hb dX11_ask_47 (by decide) (fun h => absurd h (by decide +kernel)) (fun _ => ?_)
        refine lv_aload_n hx hb dX11_ask_50 rfl (lv_at hl 2 rfl) ?_
        refine lv_iload hx hb dX11_ask_51 (lv_at hl 0 rfl) ?_
        refine lv_iload_n hx hb dX11_ask_53 rfl (lv_at hl 3 rfl) ?_
        refine lv_iload_n hx hb dX11_ask_54 rfl (lv_at hl 4 rfl) ?_
        refine q_goiF (va_runV (As := [.int 0, .int 0, .int x2]) (rest := []) C (c_doesFit l dC dI cB cI cJ cZ cS h a v (va_up (va_up f 50 (upd (f 50) 0 1)) 55 φ) g rfl x2 (hl0) _) (cwV 3 hts gX11_ask_X11_doesFit rfl rfl rfl (by decide +kernel) ⟨Nat.le_of_ble_eq_true rfl, Nat.le_of_ble_eq_true rfl⟩) (q_preV hK hP (ci := 11) (q0 := 0) rfl rfl rfl (q_preF hN hK hP hD)) rfl rfl hl.1 rfl (lv_room (Nat.le_of_ble_eq_true rfl)) dX11_ask_55 ⟨Nat.le_of_ble_eq_true rfl, Nat.le_of_ble_eq_true rfl⟩) hD hS hA (fun r w1 H locs hw hP hD hS => ?_)
        obtain ⟨rfl, rfl⟩ := hw
        refine lv_if_ne (tgt := 64) hx hb dX11_ask_58 (by decide) (fun _ => ?_) (fun h => absurd h (by decide +kernel))
        refine lv_iinc (v := 1) (lv' := [(3, .int 1), (4, .int 0), (0, .ref h), (1, .int 0), (2, .int x2)]) hx hb dX11_ask_64 hl (k := 1) rfl (by decide +kernel) (by decide) rfl (fun ls hl => ?_)
        refine lv_iconst (v := 0) hx hb dX11_ask_67 (by decide) ?_
        refine lv_istore (lv' := [(5, .int 0), (3, .int 1), (4, .int 0), (0, .ref h), (1, .int 0), (2, .int x2)]) hx hb dX11_ask_68 hl (by decide) rfl (fun ls hl => ?_)
        refine lv_iload hx hb dX11_ask_70 (lv_at hl 0 rfl) ?_
        refine lv_aload_n hx hb dX11_ask_72 rfl (lv_at hl 3 rfl) ?_
        refine q_get (v := .ref (a 20)) C inX11 hK hP 0 rfl rfl 20 (by decide) rfl L40 rfl dX11_ask_73 ?_
        refine lv_aload_n hx hb dX11_ask_76 rfl (lv_at hl 3 rfl) ?_
        refine q_get (v := .int (v 18)) C inX11 hK hP 0 rfl rfl 18 (by decide) rfl L215 rfl dX11_ask_77 ?_
        refine q_top (y := 0) (hv18) ?_
        refine q_iald (x := 0) C hK hP 8 1 rfl rfl (vp_lit (by decide +kernel)) dX11_ask_80 (hf20_0) ?_
        refine lv_icmp_ge (tgt := 113) hx hb dX11_ask_81 (by decide) (fun _ => ?_) (fun h => absurd (by decide +kernel) h)
        refine lv_iinc (v := 1) (lv' := [(4, .int 1), (5, .int 0), (3, .int 1), (0, .ref h), (1, .int 0), (2, .int x2)]) hx hb dX11_ask_113 hl (k := 2) rfl (by decide +kernel) (by decide) rfl (fun ls hl => ?_)
        refine lv_goto (tgt := 41) hx hb dX11_ask_116 (by decide) ?_
        refine lv_iload hx hb dX11_ask_41 (lv_at hl 0 rfl) ?_
        refine lv_aload_n hx hb dX11_ask_43 rfl (lv_at hl 3 rfl) ?_
        refine q_goiF (va_runV (As := []) (rest := [.int 1]) C (c_guesses l dC dI cB cI cJ cZ cS h a v (va_up (va_up f 50 (upd (f 50) 0 1)) 55 φ) g hv18 hf20_0 hf46_0 _) (cwV 0 hts gX11_ask_X11_guesses rfl rfl rfl (by decide +kernel) ⟨Nat.le_of_ble_eq_true rfl, Nat.le_of_ble_eq_true rfl⟩) (q_preV hK hP (ci := 11) (q0 := 0) rfl rfl rfl (q_preF hN hK hP hD)) rfl rfl hl.1 rfl (lv_room (Nat.le_of_ble_eq_true rfl)) dX11_ask_44 ⟨Nat.le_of_ble_eq_true rfl, Nat.le_of_ble_eq_true rfl⟩) hD hS hA (fun r w1 H locs hw hP hD hS => ?_)
        obtain ⟨rfl, rfl⟩ := hw
        refine lv_icmp_ge (tgt := 119) hx hb dX11_ask_47 (by decide) (fun _ => ?_) (fun h => absurd (by decide +kernel) h)
        refine lv_bipush (v := (-2)) hx hb dX11_ask_119 (by decide) ?_
        refine lv_istore (lv' := [(4, .int (-2)), (5, .int 0), (3, .int 1), (0, .ref h), (1, .int 0), (2, .int x2)]) hx hb dX11_ask_121 hl (by decide) rfl (fun ls hl => ?_)
        refine lv_iconst (v := 0) hx hb dX11_ask_123 (by decide) ?_
        refine lv_istore (lv' := [(5, .int 0), (4, .int (-2)), (3, .int 1), (0, .ref h), (1, .int 0), (2, .int x2)]) hx hb dX11_ask_124 hl (by decide) rfl (fun ls hl => ?_)
        refine lv_iload hx hb dX11_ask_126 (lv_at hl 0 rfl) ?_
        refine lv_aload_n hx hb dX11_ask_128 rfl (lv_at hl 3 rfl) ?_
        refine q_get (v := .ref (a 20)) C inX11 hK hP 0 rfl rfl 20 (by decide) rfl L40 rfl dX11_ask_129 ?_
        refine lv_aload_n hx hb dX11_ask_132 rfl (lv_at hl 3 rfl) ?_
        refine q_get (v := .int (v 18)) C inX11 hK hP 0 rfl rfl 18 (by decide) rfl L215 rfl dX11_ask_133 ?_
        refine q_top (y := 0) (hv18) ?_
        refine q_iald (x := 0) C hK hP 8 1 rfl rfl (vp_lit (by decide +kernel)) dX11_ask_136 (hf20_0) ?_
        refine lv_icmp_ge (tgt := 174) hx hb dX11_ask_137 (by decide) (fun _ => ?_) (fun h => absurd (by decide +kernel) h)
        refine lv_iload hx hb dX11_ask_174 (lv_at hl 1 rfl) ?_
        exact q_iret C hr hlocks hK hP hD hS (Nat.le_of_ble_eq_true rfl) (Nat.le_of_ble_eq_true rfl) dX11_ask_176 (by unfold fr_ask; rw [if_neg c1])
      | succ n ih =>
        intro i hi φ H locs ls hP hD hS hl
        refine lv_iload_n hx hb dX11_ask_17 rfl (lv_at hl 0 rfl) ?_
        refine lv_bipush (v := 30) hx hb dX11_ask_18 (by decide) ?_
        refine lv_icmp_ge (tgt := 36) hx hb dX11_ask_20 (by decide) (fun h => absurd h (nI_nge (n := 30) (by omega) (by omega))) (fun _ => ?_)
        refine lv_aload_n hx hb dX11_ask_23 rfl (lv_at hl 1 rfl) ?_
        refine q_get (v := .ref (a 55)) C inX11 hK hP 0 rfl rfl 55 (by decide) rfl L125 rfl dX11_ask_24 ?_
        refine lv_iload_n hx hb dX11_ask_27 rfl (lv_at hl 0 rfl) ?_
        refine lv_iconst (v := 0) hx hb dX11_ask_28 (by decide) ?_
        refine q_iast (f2 := (upd φ (Int32.toNatClampNeg (nI i)) 0)) (w2 := (mw cB cI cJ cZ h a v (va_up (va_up (va_up f 50 (upd (f 50) 0 1)) 55 φ) 55 (upd φ (Int32.toNatClampNeg (nI i)) 0)) g)) C hK hP hD hS 36 1 rfl rfl (vp_in_nI (by omega) (by omega)) dX11_ask_29 rfl (mw_f55 _) (fun H locs hP hD hS => ?_)
        refine lv_iinc (v := (nI (i + 1))) (lv' := [(3, .int (nI (i + 1))), (0, .ref h), (1, .int 0), (2, .int x2)]) hx hb dX11_ask_30 hl (k := 0) rfl (nI_1 i) (by decide) rfl (fun ls hl => ?_)
        refine lv_goto (tgt := 17) hx hb dX11_ask_33 (by decide) ?_
        rw [bx_uu] at hP hD
        exact ih (i + 1) (by omega) (upd φ (Int32.toNatClampNeg (nI i)) 0) H locs ls hP hD hS (lv_sub hl [0, 1, 2, 3] rfl)
    exact loop2 30 0 (by omega) (f 55) _ _ ls hP hD hS (lv_sub hl [0, 1, 2, 3] rfl)
  · skip
    refine lv_iconst (v := (-1)) hx hb dX11_ask_9 (by decide) ?_
    exact q_iret C hr hlocks hK hP hD hS (Nat.le_of_ble_eq_true rfl) (Nat.le_of_ble_eq_true rfl) dX11_ask_10 (by unfold fr_ask; rw [if_pos c1])

set_option maxHeartbeats 4000000 in
set_option maxRecDepth 100000 in
theorem c_put0 (l : Launch) (dC : Nat → ClassId) (dI : Nat → Nat → Nat) (cB cI cJ cZ cS : ClassId) (h : Nat) (a : Nat → Nat) (v : Nat → Int32) (f : Nat → Nat → Int32) (g : Nat → Nat → Int64) (hv2 : v 2 = 0) (x1 : Int32) : CV l yX11_put wsX11_put ({ frames := 0, cells := 0, slots := 0, locals := 0 }) (dC, dI) (tysA cB cI cJ cZ cS) (mw cB cI cJ cZ h a v f g) [.ref h, .int x1] (fun w => w = (mw cB cI cJ cZ h a (va_up (va_up (va_up (va_up v 2 1) 2 2) 2 3) 2 4) (va_up (va_up (va_up (va_up f 1 (upd (f 1) 0 (vp_nar .byte (Int8.toInt32 (Int32.toInt8 (x1 >>> (24 &&& 31))))))) 1 (upd (upd (f 1) 0 (vp_nar .byte (Int8.toInt32 (Int32.toInt8 (x1 >>> (24 &&& 31)))))) 1 (vp_nar .byte (Int8.toInt32 (Int32.toInt8 (x1 >>> (16 &&& 31))))))) 1 (upd (upd (upd (f 1) 0 (vp_nar .byte (Int8.toInt32 (Int32.toInt8 (x1 >>> (24 &&& 31)))))) 1 (vp_nar .byte (Int8.toInt32 (Int32.toInt8 (x1 >>> (16 &&& 31)))))) 2 (vp_nar .byte (Int8.toInt32 (Int32.toInt8 (x1 >>> (8 &&& 31))))))) 1 (upd (upd (upd (upd (f 1) 0 (vp_nar .byte (Int8.toInt32 (Int32.toInt8 (x1 >>> (24 &&& 31)))))) 1 (vp_nar .byte (Int8.toInt32 (Int32.toInt8 (x1 >>> (16 &&& 31)))))) 2 (vp_nar .byte (Int8.toInt32 (Int32.toInt8 (x1 >>> (8 &&& 31)))))) 3 (vp_nar .byte (Int8.toInt32 (Int32.toInt8 (x1 >>> (0 &&& 31))))))) g)) := by
  refine open_V (cc := cX11_put) (maxL := 3) (ret := none) (by decide) rfl (Nat.le_of_ble_eq_true rfl) ?_
  intro p e s m below meth c A ls E
  obtain ⟨C, hr, hlocks, hnm, hA, hP, hK, hD, hN, hl⟩ := E
  obtain ⟨hx, hb, hml, hown, hts⟩ := id C
  have hS : va_S A s.heap s.heap [] := va_S.rf
  have hl : lv_has ls 3 [(0, .ref h), (1, .int x1)] := hl
  have inX11 : ∀ w ∈ u_ws RX11 TX11 58, w ∈ wsX11_put := fun _ h => List.mem_cons_of_mem _ (List.mem_append_right _ h)
  have L13 : Cond.fieldLink RX11 13 "GuessFerryModel" "tape" "[B" ∈ wsX11_put := by decide +kernel
  have L148 : Cond.fieldLink RX11 148 "GuessFerryModel" "taped" "I" ∈ wsX11_put := by decide +kernel
  refine lv_bipush (v := 24) hx hb dX11_put_0 (by decide) ?_
  refine lv_istore_n (lv' := [(2, .int 24), (0, .ref h), (1, .int x1)]) hx hb dX11_put_2 rfl hl (by decide) rfl (fun ls hl => ?_)
  refine lv_iload_n hx hb dX11_put_3 rfl (lv_at hl 0 rfl) ?_
  refine lv_if_lt (tgt := 36) hx hb dX11_put_4 (by decide) (fun h => absurd h (by decide +kernel)) (fun _ => ?_)
  refine lv_aload_n hx hb dX11_put_7 rfl (lv_at hl 1 rfl) ?_
  refine q_get (v := .ref (a 1)) C inX11 hK hP 0 rfl rfl 1 (by decide) rfl L13 rfl dX11_put_8 ?_
  refine lv_aload_n hx hb dX11_put_11 rfl (lv_at hl 1 rfl) ?_
  refine q_get (v := .int (v 2)) C inX11 hK hP 0 rfl rfl 2 (by decide) rfl L148 rfl dX11_put_12 ?_
  refine q_top (y := 0) (hv2) ?_
  refine lv_iload_n hx hb dX11_put_15 rfl (lv_at hl 2 rfl) ?_
  refine lv_iload_n hx hb dX11_put_16 rfl (lv_at hl 0 rfl) ?_
  refine lv_ishr hx hb dX11_put_17 ?_
  refine lv_i2b (v := (Int8.toInt32 (Int32.toInt8 (x1 >>> (24 &&& 31))))) hx hb dX11_put_18 rfl ?_
  refine q_bast (f2 := (upd (f 1) 0 (vp_nar .byte (Int8.toInt32 (Int32.toInt8 (x1 >>> (24 &&& 31))))))) (w2 := (mw cB cI cJ cZ h a v (va_up f 1 (upd (f 1) 0 (vp_nar .byte (Int8.toInt32 (Int32.toInt8 (x1 >>> (24 &&& 31))))))) g)) C hK hP hD hS 1 0 rfl rfl (vp_lit (by decide +kernel)) dX11_put_19 rfl (mw_f1 _) (fun H locs hP hD hS => ?_)
  refine lv_aload_n hx hb dX11_put_20 rfl (lv_at hl 1 rfl) ?_
  refine lv_dup hx hb dX11_put_21 rfl ?_
  refine q_get (v := .int (v 2)) C inX11 hK hP 0 rfl rfl 2 (by decide) rfl L148 rfl dX11_put_22 ?_
  refine q_top (y := 0) (hv2) ?_
  refine lv_iconst (v := 1) hx hb dX11_put_25 (by decide) ?_
  refine lv_iadd hx hb dX11_put_26 ?_
  refine q_top (y := 1) (by decide +kernel) ?_
  refine q_put (ty := .int) (w2 := (mw cB cI cJ cZ h a (va_up v 2 1) (va_up f 1 (upd (f 1) 0 (vp_nar .byte (Int8.toInt32 (Int32.toInt8 (x1 >>> (24 &&& 31))))))) g)) tyX11 tyX11_ok nmX11 C inX11 hK hP hD hS 0 rfl rfl 2 (by decide) rfl L148 rfl (by decide +kernel) (rfl) rfl (Nat.le_of_ble_eq_true rfl) dX11_put_27 (mw_v2 _) (fun H locs hP hD hS => ?_)
  refine lv_iinc (v := 16) (lv' := [(2, .int 16), (0, .ref h), (1, .int x1)]) hx hb dX11_put_30 hl (k := 0) rfl (by decide +kernel) (by decide) rfl (fun ls hl => ?_)
  refine lv_goto (tgt := 3) hx hb dX11_put_33 (by decide) ?_
  refine lv_iload_n hx hb dX11_put_3 rfl (lv_at hl 0 rfl) ?_
  refine lv_if_lt (tgt := 36) hx hb dX11_put_4 (by decide) (fun h => absurd h (by decide +kernel)) (fun _ => ?_)
  refine lv_aload_n hx hb dX11_put_7 rfl (lv_at hl 1 rfl) ?_
  refine q_get (v := .ref (a 1)) C inX11 hK hP 0 rfl rfl 1 (by decide) rfl L13 rfl dX11_put_8 ?_
  refine lv_aload_n hx hb dX11_put_11 rfl (lv_at hl 1 rfl) ?_
  refine q_get (v := .int 1) C inX11 hK hP 0 rfl rfl 2 (by decide) rfl L148 rfl dX11_put_12 ?_
  refine lv_iload_n hx hb dX11_put_15 rfl (lv_at hl 2 rfl) ?_
  refine lv_iload_n hx hb dX11_put_16 rfl (lv_at hl 0 rfl) ?_
  refine lv_ishr hx hb dX11_put_17 ?_
  refine lv_i2b (v := (Int8.toInt32 (Int32.toInt8 (x1 >>> (16 &&& 31))))) hx hb dX11_put_18 rfl ?_
  refine q_bast (f2 := (upd (upd (f 1) 0 (vp_nar .byte (Int8.toInt32 (Int32.toInt8 (x1 >>> (24 &&& 31)))))) 1 (vp_nar .byte (Int8.toInt32 (Int32.toInt8 (x1 >>> (16 &&& 31))))))) (w2 := (mw cB cI cJ cZ h a (va_up v 2 1) (va_up (va_up f 1 (upd (f 1) 0 (vp_nar .byte (Int8.toInt32 (Int32.toInt8 (x1 >>> (24 &&& 31))))))) 1 (upd (upd (f 1) 0 (vp_nar .byte (Int8.toInt32 (Int32.toInt8 (x1 >>> (24 &&& 31)))))) 1 (vp_nar .byte (Int8.toInt32 (Int32.toInt8 (x1 >>> (16 &&& 31))))))) g)) C hK hP hD hS 1 0 rfl rfl (vp_lit (by decide +kernel)) dX11_put_19 rfl (mw_f1 _) (fun H locs hP hD hS => ?_)
  refine lv_aload_n hx hb dX11_put_20 rfl (lv_at hl 1 rfl) ?_
  refine lv_dup hx hb dX11_put_21 rfl ?_
  refine q_get (v := .int 1) C inX11 hK hP 0 rfl rfl 2 (by decide) rfl L148 rfl dX11_put_22 ?_
  refine lv_iconst (v := 1) hx hb dX11_put_25 (by decide) ?_
  refine lv_iadd hx hb dX11_put_26 ?_
  refine q_top (y := 2) (by decide +kernel) ?_
  refine q_put (ty := .int) (w2 := (mw cB cI cJ cZ h a (va_up (va_up v 2 1) 2 2) (va_up (va_up f 1 (upd (f 1) 0 (vp_nar .byte (Int8.toInt32 (Int32.toInt8 (x1 >>> (24 &&& 31))))))) 1 (upd (upd (f 1) 0 (vp_nar .byte (Int8.toInt32 (Int32.toInt8 (x1 >>> (24 &&& 31)))))) 1 (vp_nar .byte (Int8.toInt32 (Int32.toInt8 (x1 >>> (16 &&& 31))))))) g)) tyX11 tyX11_ok nmX11 C inX11 hK hP hD hS 0 rfl rfl 2 (by decide) rfl L148 rfl (by decide +kernel) (rfl) rfl (Nat.le_of_ble_eq_true rfl) dX11_put_27 (mw_v2 _) (fun H locs hP hD hS => ?_)
  refine lv_iinc (v := 8) (lv' := [(2, .int 8), (0, .ref h), (1, .int x1)]) hx hb dX11_put_30 hl (k := 0) rfl (by decide +kernel) (by decide) rfl (fun ls hl => ?_)
  refine lv_goto (tgt := 3) hx hb dX11_put_33 (by decide) ?_
  refine lv_iload_n hx hb dX11_put_3 rfl (lv_at hl 0 rfl) ?_
  refine lv_if_lt (tgt := 36) hx hb dX11_put_4 (by decide) (fun h => absurd h (by decide +kernel)) (fun _ => ?_)
  refine lv_aload_n hx hb dX11_put_7 rfl (lv_at hl 1 rfl) ?_
  refine q_get (v := .ref (a 1)) C inX11 hK hP 0 rfl rfl 1 (by decide) rfl L13 rfl dX11_put_8 ?_
  refine lv_aload_n hx hb dX11_put_11 rfl (lv_at hl 1 rfl) ?_
  refine q_get (v := .int 2) C inX11 hK hP 0 rfl rfl 2 (by decide) rfl L148 rfl dX11_put_12 ?_
  refine lv_iload_n hx hb dX11_put_15 rfl (lv_at hl 2 rfl) ?_
  refine lv_iload_n hx hb dX11_put_16 rfl (lv_at hl 0 rfl) ?_
  refine lv_ishr hx hb dX11_put_17 ?_
  refine lv_i2b (v := (Int8.toInt32 (Int32.toInt8 (x1 >>> (8 &&& 31))))) hx hb dX11_put_18 rfl ?_
  refine q_bast (f2 := (upd (upd (upd (f 1) 0 (vp_nar .byte (Int8.toInt32 (Int32.toInt8 (x1 >>> (24 &&& 31)))))) 1 (vp_nar .byte (Int8.toInt32 (Int32.toInt8 (x1 >>> (16 &&& 31)))))) 2 (vp_nar .byte (Int8.toInt32 (Int32.toInt8 (x1 >>> (8 &&& 31))))))) (w2 := (mw cB cI cJ cZ h a (va_up (va_up v 2 1) 2 2) (va_up (va_up (va_up f 1 (upd (f 1) 0 (vp_nar .byte (Int8.toInt32 (Int32.toInt8 (x1 >>> (24 &&& 31))))))) 1 (upd (upd (f 1) 0 (vp_nar .byte (Int8.toInt32 (Int32.toInt8 (x1 >>> (24 &&& 31)))))) 1 (vp_nar .byte (Int8.toInt32 (Int32.toInt8 (x1 >>> (16 &&& 31))))))) 1 (upd (upd (upd (f 1) 0 (vp_nar .byte (Int8.toInt32 (Int32.toInt8 (x1 >>> (24 &&& 31)))))) 1 (vp_nar .byte (Int8.toInt32 (Int32.toInt8 (x1 >>> (16 &&& 31)))))) 2 (vp_nar .byte (Int8.toInt32 (Int32.toInt8 (x1 >>> (8 &&& 31))))))) g)) C hK hP hD hS 1 0 rfl rfl (vp_lit (by decide +kernel)) dX11_put_19 rfl (mw_f1 _) (fun H locs hP hD hS => ?_)
  refine lv_aload_n hx hb dX11_put_20 rfl (lv_at hl 1 rfl) ?_
  refine lv_dup hx hb dX11_put_21 rfl ?_
  refine q_get (v := .int 2) C inX11 hK hP 0 rfl rfl 2 (by decide) rfl L148 rfl dX11_put_22 ?_
  refine lv_iconst (v := 1) hx hb dX11_put_25 (by decide) ?_
  refine lv_iadd hx hb dX11_put_26 ?_
  refine q_top (y := 3) (by decide +kernel) ?_
  refine q_put (ty := .int) (w2 := (mw cB cI cJ cZ h a (va_up (va_up (va_up v 2 1) 2 2) 2 3) (va_up (va_up (va_up f 1 (upd (f 1) 0 (vp_nar .byte (Int8.toInt32 (Int32.toInt8 (x1 >>> (24 &&& 31))))))) 1 (upd (upd (f 1) 0 (vp_nar .byte (Int8.toInt32 (Int32.toInt8 (x1 >>> (24 &&& 31)))))) 1 (vp_nar .byte (Int8.toInt32 (Int32.toInt8 (x1 >>> (16 &&& 31))))))) 1 (upd (upd (upd (f 1) 0 (vp_nar .byte (Int8.toInt32 (Int32.toInt8 (x1 >>> (24 &&& 31)))))) 1 (vp_nar .byte (Int8.toInt32 (Int32.toInt8 (x1 >>> (16 &&& 31)))))) 2 (vp_nar .byte (Int8.toInt32 (Int32.toInt8 (x1 >>> (8 &&& 31))))))) g)) tyX11 tyX11_ok nmX11 C inX11 hK hP hD hS 0 rfl rfl 2 (by decide) rfl L148 rfl (by decide +kernel) (rfl) rfl (Nat.le_of_ble_eq_true rfl) dX11_put_27 (mw_v2 _) (fun H locs hP hD hS => ?_)
  refine lv_iinc (v := 0) (lv' := [(2, .int 0), (0, .ref h), (1, .int x1)]) hx hb dX11_put_30 hl (k := 0) rfl (by decide +kernel) (by decide) rfl (fun ls hl => ?_)
  refine lv_goto (tgt := 3) hx hb dX11_put_33 (by decide) ?_
  refine lv_iload_n hx hb dX11_put_3 rfl (lv_at hl 0 rfl) ?_
  refine lv_if_lt (tgt := 36) hx hb dX11_put_4 (by decide) (fun h => absurd h (by decide +kernel)) (fun _ => ?_)
  refine lv_aload_n hx hb dX11_put_7 rfl (lv_at hl 1 rfl) ?_
  refine q_get (v := .ref (a 1)) C inX11 hK hP 0 rfl rfl 1 (by decide) rfl L13 rfl dX11_put_8 ?_
  refine lv_aload_n hx hb dX11_put_11 rfl (lv_at hl 1 rfl) ?_
  refine q_get (v := .int 3) C inX11 hK hP 0 rfl rfl 2 (by decide) rfl L148 rfl dX11_put_12 ?_
  refine lv_iload_n hx hb dX11_put_15 rfl (lv_at hl 2 rfl) ?_
  refine lv_iload_n hx hb dX11_put_16 rfl (lv_at hl 0 rfl) ?_
  refine lv_ishr hx hb dX11_put_17 ?_
  refine lv_i2b (v := (Int8.toInt32 (Int32.toInt8 (x1 >>> (0 &&& 31))))) hx hb dX11_put_18 rfl ?_
  refine q_bast (f2 := (upd (upd (upd (upd (f 1) 0 (vp_nar .byte (Int8.toInt32 (Int32.toInt8 (x1 >>> (24 &&& 31)))))) 1 (vp_nar .byte (Int8.toInt32 (Int32.toInt8 (x1 >>> (16 &&& 31)))))) 2 (vp_nar .byte (Int8.toInt32 (Int32.toInt8 (x1 >>> (8 &&& 31)))))) 3 (vp_nar .byte (Int8.toInt32 (Int32.toInt8 (x1 >>> (0 &&& 31))))))) (w2 := (mw cB cI cJ cZ h a (va_up (va_up (va_up v 2 1) 2 2) 2 3) (va_up (va_up (va_up (va_up f 1 (upd (f 1) 0 (vp_nar .byte (Int8.toInt32 (Int32.toInt8 (x1 >>> (24 &&& 31))))))) 1 (upd (upd (f 1) 0 (vp_nar .byte (Int8.toInt32 (Int32.toInt8 (x1 >>> (24 &&& 31)))))) 1 (vp_nar .byte (Int8.toInt32 (Int32.toInt8 (x1 >>> (16 &&& 31))))))) 1 (upd (upd (upd (f 1) 0 (vp_nar .byte (Int8.toInt32 (Int32.toInt8 (x1 >>> (24 &&& 31)))))) 1 (vp_nar .byte (Int8.toInt32 (Int32.toInt8 (x1 >>> (16 &&& 31)))))) 2 (vp_nar .byte (Int8.toInt32 (Int32.toInt8 (x1 >>> (8 &&& 31))))))) 1 (upd (upd (upd (upd (f 1) 0 (vp_nar .byte (Int8.toInt32 (Int32.toInt8 (x1 >>> (24 &&& 31)))))) 1 (vp_nar .byte (Int8.toInt32 (Int32.toInt8 (x1 >>> (16 &&& 31)))))) 2 (vp_nar .byte (Int8.toInt32 (Int32.toInt8 (x1 >>> (8 &&& 31)))))) 3 (vp_nar .byte (Int8.toInt32 (Int32.toInt8 (x1 >>> (0 &&& 31))))))) g)) C hK hP hD hS 1 0 rfl rfl (vp_lit (by decide +kernel)) dX11_put_19 rfl (mw_f1 _) (fun H locs hP hD hS => ?_)
  refine lv_aload_n hx hb dX11_put_20 rfl (lv_at hl 1 rfl) ?_
  refine lv_dup hx hb dX11_put_21 rfl ?_
  refine q_get (v := .int 3) C inX11 hK hP 0 rfl rfl 2 (by decide) rfl L148 rfl dX11_put_22 ?_
  refine lv_iconst (v := 1) hx hb dX11_put_25 (by decide) ?_
  refine lv_iadd hx hb dX11_put_26 ?_
  refine q_top (y := 4) (by decide +kernel) ?_
  refine q_put (ty := .int) (w2 := (mw cB cI cJ cZ h a (va_up (va_up (va_up (va_up v 2 1) 2 2) 2 3) 2 4) (va_up (va_up (va_up (va_up f 1 (upd (f 1) 0 (vp_nar .byte (Int8.toInt32 (Int32.toInt8 (x1 >>> (24 &&& 31))))))) 1 (upd (upd (f 1) 0 (vp_nar .byte (Int8.toInt32 (Int32.toInt8 (x1 >>> (24 &&& 31)))))) 1 (vp_nar .byte (Int8.toInt32 (Int32.toInt8 (x1 >>> (16 &&& 31))))))) 1 (upd (upd (upd (f 1) 0 (vp_nar .byte (Int8.toInt32 (Int32.toInt8 (x1 >>> (24 &&& 31)))))) 1 (vp_nar .byte (Int8.toInt32 (Int32.toInt8 (x1 >>> (16 &&& 31)))))) 2 (vp_nar .byte (Int8.toInt32 (Int32.toInt8 (x1 >>> (8 &&& 31))))))) 1 (upd (upd (upd (upd (f 1) 0 (vp_nar .byte (Int8.toInt32 (Int32.toInt8 (x1 >>> (24 &&& 31)))))) 1 (vp_nar .byte (Int8.toInt32 (Int32.toInt8 (x1 >>> (16 &&& 31)))))) 2 (vp_nar .byte (Int8.toInt32 (Int32.toInt8 (x1 >>> (8 &&& 31)))))) 3 (vp_nar .byte (Int8.toInt32 (Int32.toInt8 (x1 >>> (0 &&& 31))))))) g)) tyX11 tyX11_ok nmX11 C inX11 hK hP hD hS 0 rfl rfl 2 (by decide) rfl L148 rfl (by decide +kernel) (rfl) rfl (Nat.le_of_ble_eq_true rfl) dX11_put_27 (mw_v2 _) (fun H locs hP hD hS => ?_)
  refine lv_iinc (v := (-8)) (lv' := [(2, .int (-8)), (0, .ref h), (1, .int x1)]) hx hb dX11_put_30 hl (k := 0) rfl (by decide +kernel) (by decide) rfl (fun ls hl => ?_)
  refine lv_goto (tgt := 3) hx hb dX11_put_33 (by decide) ?_
  refine lv_iload_n hx hb dX11_put_3 rfl (lv_at hl 0 rfl) ?_
  refine lv_if_lt (tgt := 36) hx hb dX11_put_4 (by decide) (fun _ => ?_) (fun h => absurd (by decide +kernel) h)
  exact q_vret C hr hlocks hK hP hD hS (Nat.le_of_ble_eq_true rfl) (Nat.le_of_ble_eq_true rfl) dX11_put_36 (rfl)

set_option maxHeartbeats 4000000 in
set_option maxRecDepth 100000 in
theorem c_put4 (l : Launch) (dC : Nat → ClassId) (dI : Nat → Nat → Nat) (cB cI cJ cZ cS : ClassId) (h : Nat) (a : Nat → Nat) (v : Nat → Int32) (f : Nat → Nat → Int32) (g : Nat → Nat → Int64) (hv2 : v 2 = 4) (x1 : Int32) : CV l yX11_put wsX11_put ({ frames := 0, cells := 0, slots := 0, locals := 0 }) (dC, dI) (tysA cB cI cJ cZ cS) (mw cB cI cJ cZ h a v f g) [.ref h, .int x1] (fun w => w = (mw cB cI cJ cZ h a (va_up (va_up (va_up (va_up v 2 5) 2 6) 2 7) 2 8) (va_up (va_up (va_up (va_up f 1 (upd (f 1) 4 (vp_nar .byte (Int8.toInt32 (Int32.toInt8 (x1 >>> (24 &&& 31))))))) 1 (upd (upd (f 1) 4 (vp_nar .byte (Int8.toInt32 (Int32.toInt8 (x1 >>> (24 &&& 31)))))) 5 (vp_nar .byte (Int8.toInt32 (Int32.toInt8 (x1 >>> (16 &&& 31))))))) 1 (upd (upd (upd (f 1) 4 (vp_nar .byte (Int8.toInt32 (Int32.toInt8 (x1 >>> (24 &&& 31)))))) 5 (vp_nar .byte (Int8.toInt32 (Int32.toInt8 (x1 >>> (16 &&& 31)))))) 6 (vp_nar .byte (Int8.toInt32 (Int32.toInt8 (x1 >>> (8 &&& 31))))))) 1 (upd (upd (upd (upd (f 1) 4 (vp_nar .byte (Int8.toInt32 (Int32.toInt8 (x1 >>> (24 &&& 31)))))) 5 (vp_nar .byte (Int8.toInt32 (Int32.toInt8 (x1 >>> (16 &&& 31)))))) 6 (vp_nar .byte (Int8.toInt32 (Int32.toInt8 (x1 >>> (8 &&& 31)))))) 7 (vp_nar .byte (Int8.toInt32 (Int32.toInt8 (x1 >>> (0 &&& 31))))))) g)) := by
  refine open_V (cc := cX11_put) (maxL := 3) (ret := none) (by decide) rfl (Nat.le_of_ble_eq_true rfl) ?_
  intro p e s m below meth c A ls E
  obtain ⟨C, hr, hlocks, hnm, hA, hP, hK, hD, hN, hl⟩ := E
  obtain ⟨hx, hb, hml, hown, hts⟩ := id C
  have hS : va_S A s.heap s.heap [] := va_S.rf
  have hl : lv_has ls 3 [(0, .ref h), (1, .int x1)] := hl
  have inX11 : ∀ w ∈ u_ws RX11 TX11 58, w ∈ wsX11_put := fun _ h => List.mem_cons_of_mem _ (List.mem_append_right _ h)
  have L13 : Cond.fieldLink RX11 13 "GuessFerryModel" "tape" "[B" ∈ wsX11_put := by decide +kernel
  have L148 : Cond.fieldLink RX11 148 "GuessFerryModel" "taped" "I" ∈ wsX11_put := by decide +kernel
  refine lv_bipush (v := 24) hx hb dX11_put_0 (by decide) ?_
  refine lv_istore_n (lv' := [(2, .int 24), (0, .ref h), (1, .int x1)]) hx hb dX11_put_2 rfl hl (by decide) rfl (fun ls hl => ?_)
  refine lv_iload_n hx hb dX11_put_3 rfl (lv_at hl 0 rfl) ?_
  refine lv_if_lt (tgt := 36) hx hb dX11_put_4 (by decide) (fun h => absurd h (by decide +kernel)) (fun _ => ?_)
  refine lv_aload_n hx hb dX11_put_7 rfl (lv_at hl 1 rfl) ?_
  refine q_get (v := .ref (a 1)) C inX11 hK hP 0 rfl rfl 1 (by decide) rfl L13 rfl dX11_put_8 ?_
  refine lv_aload_n hx hb dX11_put_11 rfl (lv_at hl 1 rfl) ?_
  refine q_get (v := .int (v 2)) C inX11 hK hP 0 rfl rfl 2 (by decide) rfl L148 rfl dX11_put_12 ?_
  refine q_top (y := 4) (hv2) ?_
  refine lv_iload_n hx hb dX11_put_15 rfl (lv_at hl 2 rfl) ?_
  refine lv_iload_n hx hb dX11_put_16 rfl (lv_at hl 0 rfl) ?_
  refine lv_ishr hx hb dX11_put_17 ?_
  refine lv_i2b (v := (Int8.toInt32 (Int32.toInt8 (x1 >>> (24 &&& 31))))) hx hb dX11_put_18 rfl ?_
  refine q_bast (f2 := (upd (f 1) 4 (vp_nar .byte (Int8.toInt32 (Int32.toInt8 (x1 >>> (24 &&& 31))))))) (w2 := (mw cB cI cJ cZ h a v (va_up f 1 (upd (f 1) 4 (vp_nar .byte (Int8.toInt32 (Int32.toInt8 (x1 >>> (24 &&& 31))))))) g)) C hK hP hD hS 1 0 rfl rfl (vp_lit (by decide +kernel)) dX11_put_19 rfl (mw_f1 _) (fun H locs hP hD hS => ?_)
  refine lv_aload_n hx hb dX11_put_20 rfl (lv_at hl 1 rfl) ?_
  refine lv_dup hx hb dX11_put_21 rfl ?_
  refine q_get (v := .int (v 2)) C inX11 hK hP 0 rfl rfl 2 (by decide) rfl L148 rfl dX11_put_22 ?_
  refine q_top (y := 4) (hv2) ?_
  refine lv_iconst (v := 1) hx hb dX11_put_25 (by decide) ?_
  refine lv_iadd hx hb dX11_put_26 ?_
  refine q_top (y := 5) (by decide +kernel) ?_
  refine q_put (ty := .int) (w2 := (mw cB cI cJ cZ h a (va_up v 2 5) (va_up f 1 (upd (f 1) 4 (vp_nar .byte (Int8.toInt32 (Int32.toInt8 (x1 >>> (24 &&& 31))))))) g)) tyX11 tyX11_ok nmX11 C inX11 hK hP hD hS 0 rfl rfl 2 (by decide) rfl L148 rfl (by decide +kernel) (rfl) rfl (Nat.le_of_ble_eq_true rfl) dX11_put_27 (mw_v2 _) (fun H locs hP hD hS => ?_)
  refine lv_iinc (v := 16) (lv' := [(2, .int 16), (0, .ref h), (1, .int x1)]) hx hb dX11_put_30 hl (k := 0) rfl (by decide +kernel) (by decide) rfl (fun ls hl => ?_)
  refine lv_goto (tgt := 3) hx hb dX11_put_33 (by decide) ?_
  refine lv_iload_n hx hb dX11_put_3 rfl (lv_at hl 0 rfl) ?_
  refine lv_if_lt (tgt := 36) hx hb dX11_put_4 (by decide) (fun h => absurd h (by decide +kernel)) (fun _ => ?_)
  refine lv_aload_n hx hb dX11_put_7 rfl (lv_at hl 1 rfl) ?_
  refine q_get (v := .ref (a 1)) C inX11 hK hP 0 rfl rfl 1 (by decide) rfl L13 rfl dX11_put_8 ?_
  refine lv_aload_n hx hb dX11_put_11 rfl (lv_at hl 1 rfl) ?_
  refine q_get (v := .int 5) C inX11 hK hP 0 rfl rfl 2 (by decide) rfl L148 rfl dX11_put_12 ?_
  refine lv_iload_n hx hb dX11_put_15 rfl (lv_at hl 2 rfl) ?_
  refine lv_iload_n hx hb dX11_put_16 rfl (lv_at hl 0 rfl) ?_
  refine lv_ishr hx hb dX11_put_17 ?_
  refine lv_i2b (v := (Int8.toInt32 (Int32.toInt8 (x1 >>> (16 &&& 31))))) hx hb dX11_put_18 rfl ?_
  refine q_bast (f2 := (upd (upd (f 1) 4 (vp_nar .byte (Int8.toInt32 (Int32.toInt8 (x1 >>> (24 &&& 31)))))) 5 (vp_nar .byte (Int8.toInt32 (Int32.toInt8 (x1 >>> (16 &&& 31))))))) (w2 := (mw cB cI cJ cZ h a (va_up v 2 5) (va_up (va_up f 1 (upd (f 1) 4 (vp_nar .byte (Int8.toInt32 (Int32.toInt8 (x1 >>> (24 &&& 31))))))) 1 (upd (upd (f 1) 4 (vp_nar .byte (Int8.toInt32 (Int32.toInt8 (x1 >>> (24 &&& 31)))))) 5 (vp_nar .byte (Int8.toInt32 (Int32.toInt8 (x1 >>> (16 &&& 31))))))) g)) C hK hP hD hS 1 0 rfl rfl (vp_lit (by decide +kernel)) dX11_put_19 rfl (mw_f1 _) (fun H locs hP hD hS => ?_)
  refine lv_aload_n hx hb dX11_put_20 rfl (lv_at hl 1 rfl) ?_
  refine lv_dup hx hb dX11_put_21 rfl ?_
  refine q_get (v := .int 5) C inX11 hK hP 0 rfl rfl 2 (by decide) rfl L148 rfl dX11_put_22 ?_
  refine lv_iconst (v := 1) hx hb dX11_put_25 (by decide) ?_
  refine lv_iadd hx hb dX11_put_26 ?_
  refine q_top (y := 6) (by decide +kernel) ?_
  refine q_put (ty := .int) (w2 := (mw cB cI cJ cZ h a (va_up (va_up v 2 5) 2 6) (va_up (va_up f 1 (upd (f 1) 4 (vp_nar .byte (Int8.toInt32 (Int32.toInt8 (x1 >>> (24 &&& 31))))))) 1 (upd (upd (f 1) 4 (vp_nar .byte (Int8.toInt32 (Int32.toInt8 (x1 >>> (24 &&& 31)))))) 5 (vp_nar .byte (Int8.toInt32 (Int32.toInt8 (x1 >>> (16 &&& 31))))))) g)) tyX11 tyX11_ok nmX11 C inX11 hK hP hD hS 0 rfl rfl 2 (by decide) rfl L148 rfl (by decide +kernel) (rfl) rfl (Nat.le_of_ble_eq_true rfl) dX11_put_27 (mw_v2 _) (fun H locs hP hD hS => ?_)
  refine lv_iinc (v := 8) (lv' := [(2, .int 8), (0, .ref h), (1, .int x1)]) hx hb dX11_put_30 hl (k := 0) rfl (by decide +kernel) (by decide) rfl (fun ls hl => ?_)
  refine lv_goto (tgt := 3) hx hb dX11_put_33 (by decide) ?_
  refine lv_iload_n hx hb dX11_put_3 rfl (lv_at hl 0 rfl) ?_
  refine lv_if_lt (tgt := 36) hx hb dX11_put_4 (by decide) (fun h => absurd h (by decide +kernel)) (fun _ => ?_)
  refine lv_aload_n hx hb dX11_put_7 rfl (lv_at hl 1 rfl) ?_
  refine q_get (v := .ref (a 1)) C inX11 hK hP 0 rfl rfl 1 (by decide) rfl L13 rfl dX11_put_8 ?_
  refine lv_aload_n hx hb dX11_put_11 rfl (lv_at hl 1 rfl) ?_
  refine q_get (v := .int 6) C inX11 hK hP 0 rfl rfl 2 (by decide) rfl L148 rfl dX11_put_12 ?_
  refine lv_iload_n hx hb dX11_put_15 rfl (lv_at hl 2 rfl) ?_
  refine lv_iload_n hx hb dX11_put_16 rfl (lv_at hl 0 rfl) ?_
  refine lv_ishr hx hb dX11_put_17 ?_
  refine lv_i2b (v := (Int8.toInt32 (Int32.toInt8 (x1 >>> (8 &&& 31))))) hx hb dX11_put_18 rfl ?_
  refine q_bast (f2 := (upd (upd (upd (f 1) 4 (vp_nar .byte (Int8.toInt32 (Int32.toInt8 (x1 >>> (24 &&& 31)))))) 5 (vp_nar .byte (Int8.toInt32 (Int32.toInt8 (x1 >>> (16 &&& 31)))))) 6 (vp_nar .byte (Int8.toInt32 (Int32.toInt8 (x1 >>> (8 &&& 31))))))) (w2 := (mw cB cI cJ cZ h a (va_up (va_up v 2 5) 2 6) (va_up (va_up (va_up f 1 (upd (f 1) 4 (vp_nar .byte (Int8.toInt32 (Int32.toInt8 (x1 >>> (24 &&& 31))))))) 1 (upd (upd (f 1) 4 (vp_nar .byte (Int8.toInt32 (Int32.toInt8 (x1 >>> (24 &&& 31)))))) 5 (vp_nar .byte (Int8.toInt32 (Int32.toInt8 (x1 >>> (16 &&& 31))))))) 1 (upd (upd (upd (f 1) 4 (vp_nar .byte (Int8.toInt32 (Int32.toInt8 (x1 >>> (24 &&& 31)))))) 5 (vp_nar .byte (Int8.toInt32 (Int32.toInt8 (x1 >>> (16 &&& 31)))))) 6 (vp_nar .byte (Int8.toInt32 (Int32.toInt8 (x1 >>> (8 &&& 31))))))) g)) C hK hP hD hS 1 0 rfl rfl (vp_lit (by decide +kernel)) dX11_put_19 rfl (mw_f1 _) (fun H locs hP hD hS => ?_)
  refine lv_aload_n hx hb dX11_put_20 rfl (lv_at hl 1 rfl) ?_
  refine lv_dup hx hb dX11_put_21 rfl ?_
  refine q_get (v := .int 6) C inX11 hK hP 0 rfl rfl 2 (by decide) rfl L148 rfl dX11_put_22 ?_
  refine lv_iconst (v := 1) hx hb dX11_put_25 (by decide) ?_
  refine lv_iadd hx hb dX11_put_26 ?_
  refine q_top (y := 7) (by decide +kernel) ?_
  refine q_put (ty := .int) (w2 := (mw cB cI cJ cZ h a (va_up (va_up (va_up v 2 5) 2 6) 2 7) (va_up (va_up (va_up f 1 (upd (f 1) 4 (vp_nar .byte (Int8.toInt32 (Int32.toInt8 (x1 >>> (24 &&& 31))))))) 1 (upd (upd (f 1) 4 (vp_nar .byte (Int8.toInt32 (Int32.toInt8 (x1 >>> (24 &&& 31)))))) 5 (vp_nar .byte (Int8.toInt32 (Int32.toInt8 (x1 >>> (16 &&& 31))))))) 1 (upd (upd (upd (f 1) 4 (vp_nar .byte (Int8.toInt32 (Int32.toInt8 (x1 >>> (24 &&& 31)))))) 5 (vp_nar .byte (Int8.toInt32 (Int32.toInt8 (x1 >>> (16 &&& 31)))))) 6 (vp_nar .byte (Int8.toInt32 (Int32.toInt8 (x1 >>> (8 &&& 31))))))) g)) tyX11 tyX11_ok nmX11 C inX11 hK hP hD hS 0 rfl rfl 2 (by decide) rfl L148 rfl (by decide +kernel) (rfl) rfl (Nat.le_of_ble_eq_true rfl) dX11_put_27 (mw_v2 _) (fun H locs hP hD hS => ?_)
  refine lv_iinc (v := 0) (lv' := [(2, .int 0), (0, .ref h), (1, .int x1)]) hx hb dX11_put_30 hl (k := 0) rfl (by decide +kernel) (by decide) rfl (fun ls hl => ?_)
  refine lv_goto (tgt := 3) hx hb dX11_put_33 (by decide) ?_
  refine lv_iload_n hx hb dX11_put_3 rfl (lv_at hl 0 rfl) ?_
  refine lv_if_lt (tgt := 36) hx hb dX11_put_4 (by decide) (fun h => absurd h (by decide +kernel)) (fun _ => ?_)
  refine lv_aload_n hx hb dX11_put_7 rfl (lv_at hl 1 rfl) ?_
  refine q_get (v := .ref (a 1)) C inX11 hK hP 0 rfl rfl 1 (by decide) rfl L13 rfl dX11_put_8 ?_
  refine lv_aload_n hx hb dX11_put_11 rfl (lv_at hl 1 rfl) ?_
  refine q_get (v := .int 7) C inX11 hK hP 0 rfl rfl 2 (by decide) rfl L148 rfl dX11_put_12 ?_
  refine lv_iload_n hx hb dX11_put_15 rfl (lv_at hl 2 rfl) ?_
  refine lv_iload_n hx hb dX11_put_16 rfl (lv_at hl 0 rfl) ?_
  refine lv_ishr hx hb dX11_put_17 ?_
  refine lv_i2b (v := (Int8.toInt32 (Int32.toInt8 (x1 >>> (0 &&& 31))))) hx hb dX11_put_18 rfl ?_
  refine q_bast (f2 := (upd (upd (upd (upd (f 1) 4 (vp_nar .byte (Int8.toInt32 (Int32.toInt8 (x1 >>> (24 &&& 31)))))) 5 (vp_nar .byte (Int8.toInt32 (Int32.toInt8 (x1 >>> (16 &&& 31)))))) 6 (vp_nar .byte (Int8.toInt32 (Int32.toInt8 (x1 >>> (8 &&& 31)))))) 7 (vp_nar .byte (Int8.toInt32 (Int32.toInt8 (x1 >>> (0 &&& 31))))))) (w2 := (mw cB cI cJ cZ h a (va_up (va_up (va_up v 2 5) 2 6) 2 7) (va_up (va_up (va_up (va_up f 1 (upd (f 1) 4 (vp_nar .byte (Int8.toInt32 (Int32.toInt8 (x1 >>> (24 &&& 31))))))) 1 (upd (upd (f 1) 4 (vp_nar .byte (Int8.toInt32 (Int32.toInt8 (x1 >>> (24 &&& 31)))))) 5 (vp_nar .byte (Int8.toInt32 (Int32.toInt8 (x1 >>> (16 &&& 31))))))) 1 (upd (upd (upd (f 1) 4 (vp_nar .byte (Int8.toInt32 (Int32.toInt8 (x1 >>> (24 &&& 31)))))) 5 (vp_nar .byte (Int8.toInt32 (Int32.toInt8 (x1 >>> (16 &&& 31)))))) 6 (vp_nar .byte (Int8.toInt32 (Int32.toInt8 (x1 >>> (8 &&& 31))))))) 1 (upd (upd (upd (upd (f 1) 4 (vp_nar .byte (Int8.toInt32 (Int32.toInt8 (x1 >>> (24 &&& 31)))))) 5 (vp_nar .byte (Int8.toInt32 (Int32.toInt8 (x1 >>> (16 &&& 31)))))) 6 (vp_nar .byte (Int8.toInt32 (Int32.toInt8 (x1 >>> (8 &&& 31)))))) 7 (vp_nar .byte (Int8.toInt32 (Int32.toInt8 (x1 >>> (0 &&& 31))))))) g)) C hK hP hD hS 1 0 rfl rfl (vp_lit (by decide +kernel)) dX11_put_19 rfl (mw_f1 _) (fun H locs hP hD hS => ?_)
  refine lv_aload_n hx hb dX11_put_20 rfl (lv_at hl 1 rfl) ?_
  refine lv_dup hx hb dX11_put_21 rfl ?_
  refine q_get (v := .int 7) C inX11 hK hP 0 rfl rfl 2 (by decide) rfl L148 rfl dX11_put_22 ?_
  refine lv_iconst (v := 1) hx hb dX11_put_25 (by decide) ?_
  refine lv_iadd hx hb dX11_put_26 ?_
  refine q_top (y := 8) (by decide +kernel) ?_
  refine q_put (ty := .int) (w2 := (mw cB cI cJ cZ h a (va_up (va_up (va_up (va_up v 2 5) 2 6) 2 7) 2 8) (va_up (va_up (va_up (va_up f 1 (upd (f 1) 4 (vp_nar .byte (Int8.toInt32 (Int32.toInt8 (x1 >>> (24 &&& 31))))))) 1 (upd (upd (f 1) 4 (vp_nar .byte (Int8.toInt32 (Int32.toInt8 (x1 >>> (24 &&& 31)))))) 5 (vp_nar .byte (Int8.toInt32 (Int32.toInt8 (x1 >>> (16 &&& 31))))))) 1 (upd (upd (upd (f 1) 4 (vp_nar .byte (Int8.toInt32 (Int32.toInt8 (x1 >>> (24 &&& 31)))))) 5 (vp_nar .byte (Int8.toInt32 (Int32.toInt8 (x1 >>> (16 &&& 31)))))) 6 (vp_nar .byte (Int8.toInt32 (Int32.toInt8 (x1 >>> (8 &&& 31))))))) 1 (upd (upd (upd (upd (f 1) 4 (vp_nar .byte (Int8.toInt32 (Int32.toInt8 (x1 >>> (24 &&& 31)))))) 5 (vp_nar .byte (Int8.toInt32 (Int32.toInt8 (x1 >>> (16 &&& 31)))))) 6 (vp_nar .byte (Int8.toInt32 (Int32.toInt8 (x1 >>> (8 &&& 31)))))) 7 (vp_nar .byte (Int8.toInt32 (Int32.toInt8 (x1 >>> (0 &&& 31))))))) g)) tyX11 tyX11_ok nmX11 C inX11 hK hP hD hS 0 rfl rfl 2 (by decide) rfl L148 rfl (by decide +kernel) (rfl) rfl (Nat.le_of_ble_eq_true rfl) dX11_put_27 (mw_v2 _) (fun H locs hP hD hS => ?_)
  refine lv_iinc (v := (-8)) (lv' := [(2, .int (-8)), (0, .ref h), (1, .int x1)]) hx hb dX11_put_30 hl (k := 0) rfl (by decide +kernel) (by decide) rfl (fun ls hl => ?_)
  refine lv_goto (tgt := 3) hx hb dX11_put_33 (by decide) ?_
  refine lv_iload_n hx hb dX11_put_3 rfl (lv_at hl 0 rfl) ?_
  refine lv_if_lt (tgt := 36) hx hb dX11_put_4 (by decide) (fun _ => ?_) (fun h => absurd (by decide +kernel) h)
  exact q_vret C hr hlocks hK hP hD hS (Nat.le_of_ble_eq_true rfl) (Nat.le_of_ble_eq_true rfl) dX11_put_36 (rfl)

set_option maxHeartbeats 4000000 in
set_option maxRecDepth 100000 in
theorem c_put8 (l : Launch) (dC : Nat → ClassId) (dI : Nat → Nat → Nat) (cB cI cJ cZ cS : ClassId) (h : Nat) (a : Nat → Nat) (v : Nat → Int32) (f : Nat → Nat → Int32) (g : Nat → Nat → Int64) (hv2 : v 2 = 8) (x1 : Int32) : CV l yX11_put wsX11_put ({ frames := 0, cells := 0, slots := 0, locals := 0 }) (dC, dI) (tysA cB cI cJ cZ cS) (mw cB cI cJ cZ h a v f g) [.ref h, .int x1] (fun w => w = (mw cB cI cJ cZ h a (va_up (va_up (va_up (va_up v 2 9) 2 10) 2 11) 2 12) (va_up (va_up (va_up (va_up f 1 (upd (f 1) 8 (vp_nar .byte (Int8.toInt32 (Int32.toInt8 (x1 >>> (24 &&& 31))))))) 1 (upd (upd (f 1) 8 (vp_nar .byte (Int8.toInt32 (Int32.toInt8 (x1 >>> (24 &&& 31)))))) 9 (vp_nar .byte (Int8.toInt32 (Int32.toInt8 (x1 >>> (16 &&& 31))))))) 1 (upd (upd (upd (f 1) 8 (vp_nar .byte (Int8.toInt32 (Int32.toInt8 (x1 >>> (24 &&& 31)))))) 9 (vp_nar .byte (Int8.toInt32 (Int32.toInt8 (x1 >>> (16 &&& 31)))))) 10 (vp_nar .byte (Int8.toInt32 (Int32.toInt8 (x1 >>> (8 &&& 31))))))) 1 (upd (upd (upd (upd (f 1) 8 (vp_nar .byte (Int8.toInt32 (Int32.toInt8 (x1 >>> (24 &&& 31)))))) 9 (vp_nar .byte (Int8.toInt32 (Int32.toInt8 (x1 >>> (16 &&& 31)))))) 10 (vp_nar .byte (Int8.toInt32 (Int32.toInt8 (x1 >>> (8 &&& 31)))))) 11 (vp_nar .byte (Int8.toInt32 (Int32.toInt8 (x1 >>> (0 &&& 31))))))) g)) := by
  refine open_V (cc := cX11_put) (maxL := 3) (ret := none) (by decide) rfl (Nat.le_of_ble_eq_true rfl) ?_
  intro p e s m below meth c A ls E
  obtain ⟨C, hr, hlocks, hnm, hA, hP, hK, hD, hN, hl⟩ := E
  obtain ⟨hx, hb, hml, hown, hts⟩ := id C
  have hS : va_S A s.heap s.heap [] := va_S.rf
  have hl : lv_has ls 3 [(0, .ref h), (1, .int x1)] := hl
  have inX11 : ∀ w ∈ u_ws RX11 TX11 58, w ∈ wsX11_put := fun _ h => List.mem_cons_of_mem _ (List.mem_append_right _ h)
  have L13 : Cond.fieldLink RX11 13 "GuessFerryModel" "tape" "[B" ∈ wsX11_put := by decide +kernel
  have L148 : Cond.fieldLink RX11 148 "GuessFerryModel" "taped" "I" ∈ wsX11_put := by decide +kernel
  refine lv_bipush (v := 24) hx hb dX11_put_0 (by decide) ?_
  refine lv_istore_n (lv' := [(2, .int 24), (0, .ref h), (1, .int x1)]) hx hb dX11_put_2 rfl hl (by decide) rfl (fun ls hl => ?_)
  refine lv_iload_n hx hb dX11_put_3 rfl (lv_at hl 0 rfl) ?_
  refine lv_if_lt (tgt := 36) hx hb dX11_put_4 (by decide) (fun h => absurd h (by decide +kernel)) (fun _ => ?_)
  refine lv_aload_n hx hb dX11_put_7 rfl (lv_at hl 1 rfl) ?_
  refine q_get (v := .ref (a 1)) C inX11 hK hP 0 rfl rfl 1 (by decide) rfl L13 rfl dX11_put_8 ?_
  refine lv_aload_n hx hb dX11_put_11 rfl (lv_at hl 1 rfl) ?_
  refine q_get (v := .int (v 2)) C inX11 hK hP 0 rfl rfl 2 (by decide) rfl L148 rfl dX11_put_12 ?_
  refine q_top (y := 8) (hv2) ?_
  refine lv_iload_n hx hb dX11_put_15 rfl (lv_at hl 2 rfl) ?_
  refine lv_iload_n hx hb dX11_put_16 rfl (lv_at hl 0 rfl) ?_
  refine lv_ishr hx hb dX11_put_17 ?_
  refine lv_i2b (v := (Int8.toInt32 (Int32.toInt8 (x1 >>> (24 &&& 31))))) hx hb dX11_put_18 rfl ?_
  refine q_bast (f2 := (upd (f 1) 8 (vp_nar .byte (Int8.toInt32 (Int32.toInt8 (x1 >>> (24 &&& 31))))))) (w2 := (mw cB cI cJ cZ h a v (va_up f 1 (upd (f 1) 8 (vp_nar .byte (Int8.toInt32 (Int32.toInt8 (x1 >>> (24 &&& 31))))))) g)) C hK hP hD hS 1 0 rfl rfl (vp_lit (by decide +kernel)) dX11_put_19 rfl (mw_f1 _) (fun H locs hP hD hS => ?_)
  refine lv_aload_n hx hb dX11_put_20 rfl (lv_at hl 1 rfl) ?_
  refine lv_dup hx hb dX11_put_21 rfl ?_
  refine q_get (v := .int (v 2)) C inX11 hK hP 0 rfl rfl 2 (by decide) rfl L148 rfl dX11_put_22 ?_
  refine q_top (y := 8) (hv2) ?_
  refine lv_iconst (v := 1) hx hb dX11_put_25 (by decide) ?_
  refine lv_iadd hx hb dX11_put_26 ?_
  refine q_top (y := 9) (by decide +kernel) ?_
  refine q_put (ty := .int) (w2 := (mw cB cI cJ cZ h a (va_up v 2 9) (va_up f 1 (upd (f 1) 8 (vp_nar .byte (Int8.toInt32 (Int32.toInt8 (x1 >>> (24 &&& 31))))))) g)) tyX11 tyX11_ok nmX11 C inX11 hK hP hD hS 0 rfl rfl 2 (by decide) rfl L148 rfl (by decide +kernel) (rfl) rfl (Nat.le_of_ble_eq_true rfl) dX11_put_27 (mw_v2 _) (fun H locs hP hD hS => ?_)
  refine lv_iinc (v := 16) (lv' := [(2, .int 16), (0, .ref h), (1, .int x1)]) hx hb dX11_put_30 hl (k := 0) rfl (by decide +kernel) (by decide) rfl (fun ls hl => ?_)
  refine lv_goto (tgt := 3) hx hb dX11_put_33 (by decide) ?_
  refine lv_iload_n hx hb dX11_put_3 rfl (lv_at hl 0 rfl) ?_
  refine lv_if_lt (tgt := 36) hx hb dX11_put_4 (by decide) (fun h => absurd h (by decide +kernel)) (fun _ => ?_)
  refine lv_aload_n hx hb dX11_put_7 rfl (lv_at hl 1 rfl) ?_
  refine q_get (v := .ref (a 1)) C inX11 hK hP 0 rfl rfl 1 (by decide) rfl L13 rfl dX11_put_8 ?_
  refine lv_aload_n hx hb dX11_put_11 rfl (lv_at hl 1 rfl) ?_
  refine q_get (v := .int 9) C inX11 hK hP 0 rfl rfl 2 (by decide) rfl L148 rfl dX11_put_12 ?_
  refine lv_iload_n hx hb dX11_put_15 rfl (lv_at hl 2 rfl) ?_
  refine lv_iload_n hx hb dX11_put_16 rfl (lv_at hl 0 rfl) ?_
  refine lv_ishr hx hb dX11_put_17 ?_
  refine lv_i2b (v := (Int8.toInt32 (Int32.toInt8 (x1 >>> (16 &&& 31))))) hx hb dX11_put_18 rfl ?_
  refine q_bast (f2 := (upd (upd (f 1) 8 (vp_nar .byte (Int8.toInt32 (Int32.toInt8 (x1 >>> (24 &&& 31)))))) 9 (vp_nar .byte (Int8.toInt32 (Int32.toInt8 (x1 >>> (16 &&& 31))))))) (w2 := (mw cB cI cJ cZ h a (va_up v 2 9) (va_up (va_up f 1 (upd (f 1) 8 (vp_nar .byte (Int8.toInt32 (Int32.toInt8 (x1 >>> (24 &&& 31))))))) 1 (upd (upd (f 1) 8 (vp_nar .byte (Int8.toInt32 (Int32.toInt8 (x1 >>> (24 &&& 31)))))) 9 (vp_nar .byte (Int8.toInt32 (Int32.toInt8 (x1 >>> (16 &&& 31))))))) g)) C hK hP hD hS 1 0 rfl rfl (vp_lit (by decide +kernel)) dX11_put_19 rfl (mw_f1 _) (fun H locs hP hD hS => ?_)
  refine lv_aload_n hx hb dX11_put_20 rfl (lv_at hl 1 rfl) ?_
  refine lv_dup hx hb dX11_put_21 rfl ?_
  refine q_get (v := .int 9) C inX11 hK hP 0 rfl rfl 2 (by decide) rfl L148 rfl dX11_put_22 ?_
  refine lv_iconst (v := 1) hx hb dX11_put_25 (by decide) ?_
  refine lv_iadd hx hb dX11_put_26 ?_
  refine q_top (y := 10) (by decide +kernel) ?_
  refine q_put (ty := .int) (w2 := (mw cB cI cJ cZ h a (va_up (va_up v 2 9) 2 10) (va_up (va_up f 1 (upd (f 1) 8 (vp_nar .byte (Int8.toInt32 (Int32.toInt8 (x1 >>> (24 &&& 31))))))) 1 (upd (upd (f 1) 8 (vp_nar .byte (Int8.toInt32 (Int32.toInt8 (x1 >>> (24 &&& 31)))))) 9 (vp_nar .byte (Int8.toInt32 (Int32.toInt8 (x1 >>> (16 &&& 31))))))) g)) tyX11 tyX11_ok nmX11 C inX11 hK hP hD hS 0 rfl rfl 2 (by decide) rfl L148 rfl (by decide +kernel) (rfl) rfl (Nat.le_of_ble_eq_true rfl) dX11_put_27 (mw_v2 _) (fun H locs hP hD hS => ?_)
  refine lv_iinc (v := 8) (lv' := [(2, .int 8), (0, .ref h), (1, .int x1)]) hx hb dX11_put_30 hl (k := 0) rfl (by decide +kernel) (by decide) rfl (fun ls hl => ?_)
  refine lv_goto (tgt := 3) hx hb dX11_put_33 (by decide) ?_
  refine lv_iload_n hx hb dX11_put_3 rfl (lv_at hl 0 rfl) ?_
  refine lv_if_lt (tgt := 36) hx hb dX11_put_4 (by decide) (fun h => absurd h (by decide +kernel)) (fun _ => ?_)
  refine lv_aload_n hx hb dX11_put_7 rfl (lv_at hl 1 rfl) ?_
  refine q_get (v := .ref (a 1)) C inX11 hK hP 0 rfl rfl 1 (by decide) rfl L13 rfl dX11_put_8 ?_
  refine lv_aload_n hx hb dX11_put_11 rfl (lv_at hl 1 rfl) ?_
  refine q_get (v := .int 10) C inX11 hK hP 0 rfl rfl 2 (by decide) rfl L148 rfl dX11_put_12 ?_
  refine lv_iload_n hx hb dX11_put_15 rfl (lv_at hl 2 rfl) ?_
  refine lv_iload_n hx hb dX11_put_16 rfl (lv_at hl 0 rfl) ?_
  refine lv_ishr hx hb dX11_put_17 ?_
  refine lv_i2b (v := (Int8.toInt32 (Int32.toInt8 (x1 >>> (8 &&& 31))))) hx hb dX11_put_18 rfl ?_
  refine q_bast (f2 := (upd (upd (upd (f 1) 8 (vp_nar .byte (Int8.toInt32 (Int32.toInt8 (x1 >>> (24 &&& 31)))))) 9 (vp_nar .byte (Int8.toInt32 (Int32.toInt8 (x1 >>> (16 &&& 31)))))) 10 (vp_nar .byte (Int8.toInt32 (Int32.toInt8 (x1 >>> (8 &&& 31))))))) (w2 := (mw cB cI cJ cZ h a (va_up (va_up v 2 9) 2 10) (va_up (va_up (va_up f 1 (upd (f 1) 8 (vp_nar .byte (Int8.toInt32 (Int32.toInt8 (x1 >>> (24 &&& 31))))))) 1 (upd (upd (f 1) 8 (vp_nar .byte (Int8.toInt32 (Int32.toInt8 (x1 >>> (24 &&& 31)))))) 9 (vp_nar .byte (Int8.toInt32 (Int32.toInt8 (x1 >>> (16 &&& 31))))))) 1 (upd (upd (upd (f 1) 8 (vp_nar .byte (Int8.toInt32 (Int32.toInt8 (x1 >>> (24 &&& 31)))))) 9 (vp_nar .byte (Int8.toInt32 (Int32.toInt8 (x1 >>> (16 &&& 31)))))) 10 (vp_nar .byte (Int8.toInt32 (Int32.toInt8 (x1 >>> (8 &&& 31))))))) g)) C hK hP hD hS 1 0 rfl rfl (vp_lit (by decide +kernel)) dX11_put_19 rfl (mw_f1 _) (fun H locs hP hD hS => ?_)
  refine lv_aload_n hx hb dX11_put_20 rfl (lv_at hl 1 rfl) ?_
  refine lv_dup hx hb dX11_put_21 rfl ?_
  refine q_get (v := .int 10) C inX11 hK hP 0 rfl rfl 2 (by decide) rfl L148 rfl dX11_put_22 ?_
  refine lv_iconst (v := 1) hx hb dX11_put_25 (by decide) ?_
  refine lv_iadd hx hb dX11_put_26 ?_
  refine q_top (y := 11) (by decide +kernel) ?_
  refine q_put (ty := .int) (w2 := (mw cB cI cJ cZ h a (va_up (va_up (va_up v 2 9) 2 10) 2 11) (va_up (va_up (va_up f 1 (upd (f 1) 8 (vp_nar .byte (Int8.toInt32 (Int32.toInt8 (x1 >>> (24 &&& 31))))))) 1 (upd (upd (f 1) 8 (vp_nar .byte (Int8.toInt32 (Int32.toInt8 (x1 >>> (24 &&& 31)))))) 9 (vp_nar .byte (Int8.toInt32 (Int32.toInt8 (x1 >>> (16 &&& 31))))))) 1 (upd (upd (upd (f 1) 8 (vp_nar .byte (Int8.toInt32 (Int32.toInt8 (x1 >>> (24 &&& 31)))))) 9 (vp_nar .byte (Int8.toInt32 (Int32.toInt8 (x1 >>> (16 &&& 31)))))) 10 (vp_nar .byte (Int8.toInt32 (Int32.toInt8 (x1 >>> (8 &&& 31))))))) g)) tyX11 tyX11_ok nmX11 C inX11 hK hP hD hS 0 rfl rfl 2 (by decide) rfl L148 rfl (by decide +kernel) (rfl) rfl (Nat.le_of_ble_eq_true rfl) dX11_put_27 (mw_v2 _) (fun H locs hP hD hS => ?_)
  refine lv_iinc (v := 0) (lv' := [(2, .int 0), (0, .ref h), (1, .int x1)]) hx hb dX11_put_30 hl (k := 0) rfl (by decide +kernel) (by decide) rfl (fun ls hl => ?_)
  refine lv_goto (tgt := 3) hx hb dX11_put_33 (by decide) ?_
  refine lv_iload_n hx hb dX11_put_3 rfl (lv_at hl 0 rfl) ?_
  refine lv_if_lt (tgt := 36) hx hb dX11_put_4 (by decide) (fun h => absurd h (by decide +kernel)) (fun _ => ?_)
  refine lv_aload_n hx hb dX11_put_7 rfl (lv_at hl 1 rfl) ?_
  refine q_get (v := .ref (a 1)) C inX11 hK hP 0 rfl rfl 1 (by decide) rfl L13 rfl dX11_put_8 ?_
  refine lv_aload_n hx hb dX11_put_11 rfl (lv_at hl 1 rfl) ?_
  refine q_get (v := .int 11) C inX11 hK hP 0 rfl rfl 2 (by decide) rfl L148 rfl dX11_put_12 ?_
  refine lv_iload_n hx hb dX11_put_15 rfl (lv_at hl 2 rfl) ?_
  refine lv_iload_n hx hb dX11_put_16 rfl (lv_at hl 0 rfl) ?_
  refine lv_ishr hx hb dX11_put_17 ?_
  refine lv_i2b (v := (Int8.toInt32 (Int32.toInt8 (x1 >>> (0 &&& 31))))) hx hb dX11_put_18 rfl ?_
  refine q_bast (f2 := (upd (upd (upd (upd (f 1) 8 (vp_nar .byte (Int8.toInt32 (Int32.toInt8 (x1 >>> (24 &&& 31)))))) 9 (vp_nar .byte (Int8.toInt32 (Int32.toInt8 (x1 >>> (16 &&& 31)))))) 10 (vp_nar .byte (Int8.toInt32 (Int32.toInt8 (x1 >>> (8 &&& 31)))))) 11 (vp_nar .byte (Int8.toInt32 (Int32.toInt8 (x1 >>> (0 &&& 31))))))) (w2 := (mw cB cI cJ cZ h a (va_up (va_up (va_up v 2 9) 2 10) 2 11) (va_up (va_up (va_up (va_up f 1 (upd (f 1) 8 (vp_nar .byte (Int8.toInt32 (Int32.toInt8 (x1 >>> (24 &&& 31))))))) 1 (upd (upd (f 1) 8 (vp_nar .byte (Int8.toInt32 (Int32.toInt8 (x1 >>> (24 &&& 31)))))) 9 (vp_nar .byte (Int8.toInt32 (Int32.toInt8 (x1 >>> (16 &&& 31))))))) 1 (upd (upd (upd (f 1) 8 (vp_nar .byte (Int8.toInt32 (Int32.toInt8 (x1 >>> (24 &&& 31)))))) 9 (vp_nar .byte (Int8.toInt32 (Int32.toInt8 (x1 >>> (16 &&& 31)))))) 10 (vp_nar .byte (Int8.toInt32 (Int32.toInt8 (x1 >>> (8 &&& 31))))))) 1 (upd (upd (upd (upd (f 1) 8 (vp_nar .byte (Int8.toInt32 (Int32.toInt8 (x1 >>> (24 &&& 31)))))) 9 (vp_nar .byte (Int8.toInt32 (Int32.toInt8 (x1 >>> (16 &&& 31)))))) 10 (vp_nar .byte (Int8.toInt32 (Int32.toInt8 (x1 >>> (8 &&& 31)))))) 11 (vp_nar .byte (Int8.toInt32 (Int32.toInt8 (x1 >>> (0 &&& 31))))))) g)) C hK hP hD hS 1 0 rfl rfl (vp_lit (by decide +kernel)) dX11_put_19 rfl (mw_f1 _) (fun H locs hP hD hS => ?_)
  refine lv_aload_n hx hb dX11_put_20 rfl (lv_at hl 1 rfl) ?_
  refine lv_dup hx hb dX11_put_21 rfl ?_
  refine q_get (v := .int 11) C inX11 hK hP 0 rfl rfl 2 (by decide) rfl L148 rfl dX11_put_22 ?_
  refine lv_iconst (v := 1) hx hb dX11_put_25 (by decide) ?_
  refine lv_iadd hx hb dX11_put_26 ?_
  refine q_top (y := 12) (by decide +kernel) ?_
  refine q_put (ty := .int) (w2 := (mw cB cI cJ cZ h a (va_up (va_up (va_up (va_up v 2 9) 2 10) 2 11) 2 12) (va_up (va_up (va_up (va_up f 1 (upd (f 1) 8 (vp_nar .byte (Int8.toInt32 (Int32.toInt8 (x1 >>> (24 &&& 31))))))) 1 (upd (upd (f 1) 8 (vp_nar .byte (Int8.toInt32 (Int32.toInt8 (x1 >>> (24 &&& 31)))))) 9 (vp_nar .byte (Int8.toInt32 (Int32.toInt8 (x1 >>> (16 &&& 31))))))) 1 (upd (upd (upd (f 1) 8 (vp_nar .byte (Int8.toInt32 (Int32.toInt8 (x1 >>> (24 &&& 31)))))) 9 (vp_nar .byte (Int8.toInt32 (Int32.toInt8 (x1 >>> (16 &&& 31)))))) 10 (vp_nar .byte (Int8.toInt32 (Int32.toInt8 (x1 >>> (8 &&& 31))))))) 1 (upd (upd (upd (upd (f 1) 8 (vp_nar .byte (Int8.toInt32 (Int32.toInt8 (x1 >>> (24 &&& 31)))))) 9 (vp_nar .byte (Int8.toInt32 (Int32.toInt8 (x1 >>> (16 &&& 31)))))) 10 (vp_nar .byte (Int8.toInt32 (Int32.toInt8 (x1 >>> (8 &&& 31)))))) 11 (vp_nar .byte (Int8.toInt32 (Int32.toInt8 (x1 >>> (0 &&& 31))))))) g)) tyX11 tyX11_ok nmX11 C inX11 hK hP hD hS 0 rfl rfl 2 (by decide) rfl L148 rfl (by decide +kernel) (rfl) rfl (Nat.le_of_ble_eq_true rfl) dX11_put_27 (mw_v2 _) (fun H locs hP hD hS => ?_)
  refine lv_iinc (v := (-8)) (lv' := [(2, .int (-8)), (0, .ref h), (1, .int x1)]) hx hb dX11_put_30 hl (k := 0) rfl (by decide +kernel) (by decide) rfl (fun ls hl => ?_)
  refine lv_goto (tgt := 3) hx hb dX11_put_33 (by decide) ?_
  refine lv_iload_n hx hb dX11_put_3 rfl (lv_at hl 0 rfl) ?_
  refine lv_if_lt (tgt := 36) hx hb dX11_put_4 (by decide) (fun _ => ?_) (fun h => absurd (by decide +kernel) h)
  exact q_vret C hr hlocks hK hP hD hS (Nat.le_of_ble_eq_true rfl) (Nat.le_of_ble_eq_true rfl) dX11_put_36 (rfl)
