theorem dX5_hasWave_0 : decode cX5_hasWave 0 = .ok (.iload_n 1, 1) := by decide +kernel
theorem dX5_hasWave_1 : decode cX5_hasWave 1 = .ok (.ifCond .lt 15, 3) := by decide +kernel
theorem dX5_hasWave_4 : decode cX5_hasWave 4 = .ok (.iload_n 1, 1) := by decide +kernel
theorem dX5_hasWave_5 : decode cX5_hasWave 5 = .ok (.aload_n 0, 1) := by decide +kernel
theorem dX5_hasWave_6 : decode cX5_hasWave 6 = .ok (.getfield 37, 3) := by decide +kernel
theorem dX5_hasWave_9 : decode cX5_hasWave 9 = .ok (.if_icmp .ge 7, 3) := by decide +kernel
theorem dX5_hasWave_16 : decode cX5_hasWave 16 = .ok (.iconst 0, 1) := by decide +kernel
theorem dX5_hasWave_17 : decode cX5_hasWave 17 = .ok (.ireturn, 1) := by decide +kernel
theorem dX5_hasParty_0 : decode cX5_hasParty 0 = .ok (.iload_n 1, 1) := by decide +kernel
theorem dX5_hasParty_1 : decode cX5_hasParty 1 = .ok (.ifCond .lt 15, 3) := by decide +kernel
theorem dX5_hasParty_4 : decode cX5_hasParty 4 = .ok (.iload_n 1, 1) := by decide +kernel
theorem dX5_hasParty_5 : decode cX5_hasParty 5 = .ok (.aload_n 0, 1) := by decide +kernel
theorem dX5_hasParty_6 : decode cX5_hasParty 6 = .ok (.getfield 41, 3) := by decide +kernel
theorem dX5_hasParty_9 : decode cX5_hasParty 9 = .ok (.if_icmp .ge 7, 3) := by decide +kernel
theorem dX5_hasParty_16 : decode cX5_hasParty 16 = .ok (.iconst 0, 1) := by decide +kernel
theorem dX5_hasParty_17 : decode cX5_hasParty 17 = .ok (.ireturn, 1) := by decide +kernel
theorem dX5_hasGuess_0 : decode cX5_hasGuess 0 = .ok (.iload_n 1, 1) := by decide +kernel
theorem dX5_hasGuess_1 : decode cX5_hasGuess 1 = .ok (.ifCond .lt 15, 3) := by decide +kernel
theorem dX5_hasGuess_4 : decode cX5_hasGuess 4 = .ok (.iload_n 1, 1) := by decide +kernel
theorem dX5_hasGuess_5 : decode cX5_hasGuess 5 = .ok (.aload_n 0, 1) := by decide +kernel
theorem dX5_hasGuess_6 : decode cX5_hasGuess 6 = .ok (.getfield 44, 3) := by decide +kernel
theorem dX5_hasGuess_9 : decode cX5_hasGuess 9 = .ok (.if_icmp .ge 7, 3) := by decide +kernel
theorem dX5_hasGuess_12 : decode cX5_hasGuess 12 = .ok (.iconst 1, 1) := by decide +kernel
theorem dX5_hasGuess_13 : decode cX5_hasGuess 13 = .ok (.goto 4, 3) := by decide +kernel
theorem dX5_hasGuess_16 : decode cX5_hasGuess 16 = .ok (.iconst 0, 1) := by decide +kernel
theorem dX5_hasGuess_17 : decode cX5_hasGuess 17 = .ok (.ireturn, 1) := by decide +kernel
set_option maxRecDepth 20000 in
theorem ggX10_wave_X5_hasWave : GoodIn wsX10_wave wsX5_hasWave := goodIn_r _ [7, 8, 101, 102, 103, 104, 105, 106, 107, 108, 109, 110] (by decide +kernel) (by decide +kernel)
set_option maxRecDepth 20000 in
theorem gX10_wave_X5_hasWave_n108 : GoodIn wsX10_wave (wsX5_hasWave) := ggX10_wave_X5_hasWave
theorem dX10_wave_0 : decode cX10_wave 0 = .ok (.aload_n 0, 1) := by decide +kernel
theorem dX10_wave_1 : decode cX10_wave 1 = .ok (.getfield 19, 3) := by decide +kernel
theorem dX10_wave_4 : decode cX10_wave 4 = .ok (.iload_n 1, 1) := by decide +kernel
theorem dX10_wave_5 : decode cX10_wave 5 = .ok (.invokevirtual 108, 3) := by decide +kernel
theorem dX10_wave_8 : decode cX10_wave 8 = .ok (.ifCond .ne 5, 3) := by decide +kernel
theorem dX10_wave_11 : decode cX10_wave 11 = .ok (.iconst (-1), 1) := by decide +kernel
theorem dX10_wave_12 : decode cX10_wave 12 = .ok (.ireturn, 1) := by decide +kernel
set_option maxRecDepth 20000 in
theorem ggX10_odds_X5_hasWave : GoodIn wsX10_odds wsX5_hasWave := goodIn_r _ [5, 6, 24, 25, 26, 27, 28, 29, 30, 31, 32, 33] (by decide +kernel) (by decide +kernel)
set_option maxRecDepth 20000 in
theorem gX10_odds_X5_hasWave_n108 : GoodIn wsX10_odds (wsX5_hasWave) := ggX10_odds_X5_hasWave
theorem dX10_odds_0 : decode cX10_odds 0 = .ok (.aload_n 0, 1) := by decide +kernel
theorem dX10_odds_1 : decode cX10_odds 1 = .ok (.getfield 19, 3) := by decide +kernel
theorem dX10_odds_4 : decode cX10_odds 4 = .ok (.iload_n 1, 1) := by decide +kernel
theorem dX10_odds_5 : decode cX10_odds 5 = .ok (.invokevirtual 108, 3) := by decide +kernel
theorem dX10_odds_8 : decode cX10_odds 8 = .ok (.ifCond .eq 22, 3) := by decide +kernel
theorem dX10_odds_30 : decode cX10_odds 30 = .ok (.iconst (-1), 1) := by decide +kernel
theorem dX10_odds_31 : decode cX10_odds 31 = .ok (.ireturn, 1) := by decide +kernel
set_option maxRecDepth 20000 in
theorem ggX10_isHere_X5_hasParty : GoodIn wsX10_isHere wsX5_hasParty := goodIn_r _ [6, 7, 24, 25, 26, 27, 28, 29, 30, 31, 32, 33] (by decide +kernel) (by decide +kernel)
set_option maxRecDepth 20000 in
theorem gX10_isHere_X5_hasParty_n138 : GoodIn wsX10_isHere (wsX5_hasParty) := ggX10_isHere_X5_hasParty
theorem dX10_isHere_0 : decode cX10_isHere 0 = .ok (.aload_n 0, 1) := by decide +kernel
theorem dX10_isHere_1 : decode cX10_isHere 1 = .ok (.getfield 19, 3) := by decide +kernel
theorem dX10_isHere_4 : decode cX10_isHere 4 = .ok (.iload_n 1, 1) := by decide +kernel
theorem dX10_isHere_5 : decode cX10_isHere 5 = .ok (.invokevirtual 138, 3) := by decide +kernel
theorem dX10_isHere_8 : decode cX10_isHere 8 = .ok (.ifCond .eq 19, 3) := by decide +kernel
theorem dX10_isHere_27 : decode cX10_isHere 27 = .ok (.iconst 0, 1) := by decide +kernel
theorem dX10_isHere_28 : decode cX10_isHere 28 = .ok (.ireturn, 1) := by decide +kernel
theorem dX10_partiesThatAre_0 : decode cX10_partiesThatAre 0 = .ok (.iconst 0, 1) := by decide +kernel
theorem dX10_partiesThatAre_1 : decode cX10_partiesThatAre 1 = .ok (.istore_n 3, 1) := by decide +kernel
theorem dX10_partiesThatAre_2 : decode cX10_partiesThatAre 2 = .ok (.iconst 0, 1) := by decide +kernel
theorem dX10_partiesThatAre_3 : decode cX10_partiesThatAre 3 = .ok (.istore 4, 2) := by decide +kernel
theorem dX10_partiesThatAre_5 : decode cX10_partiesThatAre 5 = .ok (.iload 4, 2) := by decide +kernel
theorem dX10_partiesThatAre_7 : decode cX10_partiesThatAre 7 = .ok (.aload_n 0, 1) := by decide +kernel
theorem dX10_partiesThatAre_8 : decode cX10_partiesThatAre 8 = .ok (.getfield 19, 3) := by decide +kernel
theorem dX10_partiesThatAre_11 : decode cX10_partiesThatAre 11 = .ok (.getfield 235, 3) := by decide +kernel
theorem dX10_partiesThatAre_14 : decode cX10_partiesThatAre 14 = .ok (.if_icmp .ge 27, 3) := by decide +kernel
theorem dX10_partiesThatAre_41 : decode cX10_partiesThatAre 41 = .ok (.iload_n 3, 1) := by decide +kernel
theorem dX10_partiesThatAre_42 : decode cX10_partiesThatAre 42 = .ok (.ireturn, 1) := by decide +kernel
theorem dJ6_bitCount_0f7a4_0 : decode cJ6_bitCount_0f7a4 0 = .ok (.iload_n 0, 1) := by decide +kernel
theorem dJ6_bitCount_0f7a4_1 : decode cJ6_bitCount_0f7a4 1 = .ok (.iload_n 0, 1) := by decide +kernel
theorem dJ6_bitCount_0f7a4_2 : decode cJ6_bitCount_0f7a4 2 = .ok (.iconst 1, 1) := by decide +kernel
theorem dJ6_bitCount_0f7a4_3 : decode cJ6_bitCount_0f7a4 3 = .ok (.iushr, 1) := by decide +kernel
theorem dJ6_bitCount_0f7a4_4 : decode cJ6_bitCount_0f7a4 4 = .ok (.ldc_w 265, 3) := by decide +kernel
theorem dJ6_bitCount_0f7a4_7 : decode cJ6_bitCount_0f7a4 7 = .ok (.iand, 1) := by decide +kernel
theorem dJ6_bitCount_0f7a4_8 : decode cJ6_bitCount_0f7a4 8 = .ok (.isub, 1) := by decide +kernel
theorem dJ6_bitCount_0f7a4_9 : decode cJ6_bitCount_0f7a4 9 = .ok (.istore_n 0, 1) := by decide +kernel
theorem dJ6_bitCount_0f7a4_10 : decode cJ6_bitCount_0f7a4 10 = .ok (.iload_n 0, 1) := by decide +kernel
theorem dJ6_bitCount_0f7a4_11 : decode cJ6_bitCount_0f7a4 11 = .ok (.ldc_w 266, 3) := by decide +kernel
theorem dJ6_bitCount_0f7a4_14 : decode cJ6_bitCount_0f7a4 14 = .ok (.iand, 1) := by decide +kernel
theorem dJ6_bitCount_0f7a4_15 : decode cJ6_bitCount_0f7a4 15 = .ok (.iload_n 0, 1) := by decide +kernel
theorem dJ6_bitCount_0f7a4_16 : decode cJ6_bitCount_0f7a4 16 = .ok (.iconst 2, 1) := by decide +kernel
theorem dJ6_bitCount_0f7a4_17 : decode cJ6_bitCount_0f7a4 17 = .ok (.iushr, 1) := by decide +kernel
theorem dJ6_bitCount_0f7a4_18 : decode cJ6_bitCount_0f7a4 18 = .ok (.ldc_w 266, 3) := by decide +kernel
theorem dJ6_bitCount_0f7a4_21 : decode cJ6_bitCount_0f7a4 21 = .ok (.iand, 1) := by decide +kernel
theorem dJ6_bitCount_0f7a4_22 : decode cJ6_bitCount_0f7a4 22 = .ok (.iadd, 1) := by decide +kernel
theorem dJ6_bitCount_0f7a4_23 : decode cJ6_bitCount_0f7a4 23 = .ok (.istore_n 0, 1) := by decide +kernel
theorem dJ6_bitCount_0f7a4_24 : decode cJ6_bitCount_0f7a4 24 = .ok (.iload_n 0, 1) := by decide +kernel
theorem dJ6_bitCount_0f7a4_25 : decode cJ6_bitCount_0f7a4 25 = .ok (.iload_n 0, 1) := by decide +kernel
theorem dJ6_bitCount_0f7a4_26 : decode cJ6_bitCount_0f7a4 26 = .ok (.iconst 4, 1) := by decide +kernel
theorem dJ6_bitCount_0f7a4_27 : decode cJ6_bitCount_0f7a4 27 = .ok (.iushr, 1) := by decide +kernel
theorem dJ6_bitCount_0f7a4_28 : decode cJ6_bitCount_0f7a4 28 = .ok (.iadd, 1) := by decide +kernel
theorem dJ6_bitCount_0f7a4_29 : decode cJ6_bitCount_0f7a4 29 = .ok (.ldc_w 267, 3) := by decide +kernel
theorem dJ6_bitCount_0f7a4_32 : decode cJ6_bitCount_0f7a4 32 = .ok (.iand, 1) := by decide +kernel
theorem dJ6_bitCount_0f7a4_33 : decode cJ6_bitCount_0f7a4 33 = .ok (.istore_n 0, 1) := by decide +kernel
theorem dJ6_bitCount_0f7a4_34 : decode cJ6_bitCount_0f7a4 34 = .ok (.iload_n 0, 1) := by decide +kernel
theorem dJ6_bitCount_0f7a4_35 : decode cJ6_bitCount_0f7a4 35 = .ok (.iload_n 0, 1) := by decide +kernel
theorem dJ6_bitCount_0f7a4_36 : decode cJ6_bitCount_0f7a4 36 = .ok (.bipush 8, 2) := by decide +kernel
theorem dJ6_bitCount_0f7a4_38 : decode cJ6_bitCount_0f7a4 38 = .ok (.iushr, 1) := by decide +kernel
theorem dJ6_bitCount_0f7a4_39 : decode cJ6_bitCount_0f7a4 39 = .ok (.iadd, 1) := by decide +kernel
theorem dJ6_bitCount_0f7a4_40 : decode cJ6_bitCount_0f7a4 40 = .ok (.istore_n 0, 1) := by decide +kernel
theorem dJ6_bitCount_0f7a4_41 : decode cJ6_bitCount_0f7a4 41 = .ok (.iload_n 0, 1) := by decide +kernel
theorem dJ6_bitCount_0f7a4_42 : decode cJ6_bitCount_0f7a4 42 = .ok (.iload_n 0, 1) := by decide +kernel
theorem dJ6_bitCount_0f7a4_43 : decode cJ6_bitCount_0f7a4 43 = .ok (.bipush 16, 2) := by decide +kernel
theorem dJ6_bitCount_0f7a4_45 : decode cJ6_bitCount_0f7a4 45 = .ok (.iushr, 1) := by decide +kernel
theorem dJ6_bitCount_0f7a4_46 : decode cJ6_bitCount_0f7a4 46 = .ok (.iadd, 1) := by decide +kernel
theorem dJ6_bitCount_0f7a4_47 : decode cJ6_bitCount_0f7a4 47 = .ok (.istore_n 0, 1) := by decide +kernel
theorem dJ6_bitCount_0f7a4_48 : decode cJ6_bitCount_0f7a4 48 = .ok (.iload_n 0, 1) := by decide +kernel
theorem dJ6_bitCount_0f7a4_49 : decode cJ6_bitCount_0f7a4 49 = .ok (.bipush 63, 2) := by decide +kernel
theorem dJ6_bitCount_0f7a4_51 : decode cJ6_bitCount_0f7a4 51 = .ok (.iand, 1) := by decide +kernel
theorem dJ6_bitCount_0f7a4_52 : decode cJ6_bitCount_0f7a4 52 = .ok (.ireturn, 1) := by decide +kernel
theorem dJ7_fill_53178_0 : decode cJ7_fill_53178 0 = .ok (.iconst 0, 1) := by decide +kernel
theorem dJ7_fill_53178_1 : decode cJ7_fill_53178 1 = .ok (.istore_n 2, 1) := by decide +kernel
theorem dJ7_fill_53178_2 : decode cJ7_fill_53178 2 = .ok (.aload_n 0, 1) := by decide +kernel
theorem dJ7_fill_53178_3 : decode cJ7_fill_53178 3 = .ok (.arraylength, 1) := by decide +kernel
theorem dJ7_fill_53178_4 : decode cJ7_fill_53178 4 = .ok (.istore_n 3, 1) := by decide +kernel
theorem dJ7_fill_53178_5 : decode cJ7_fill_53178 5 = .ok (.iload_n 2, 1) := by decide +kernel
theorem dJ7_fill_53178_6 : decode cJ7_fill_53178 6 = .ok (.iload_n 3, 1) := by decide +kernel
theorem dJ7_fill_53178_7 : decode cJ7_fill_53178 7 = .ok (.if_icmp .ge 13, 3) := by decide +kernel
theorem dJ7_fill_53178_10 : decode cJ7_fill_53178 10 = .ok (.aload_n 0, 1) := by decide +kernel
theorem dJ7_fill_53178_11 : decode cJ7_fill_53178 11 = .ok (.iload_n 2, 1) := by decide +kernel
theorem dJ7_fill_53178_12 : decode cJ7_fill_53178 12 = .ok (.iload_n 1, 1) := by decide +kernel
theorem dJ7_fill_53178_13 : decode cJ7_fill_53178 13 = .ok (.iastore, 1) := by decide +kernel
theorem dJ7_fill_53178_14 : decode cJ7_fill_53178 14 = .ok (.iinc 2 1, 3) := by decide +kernel
theorem dJ7_fill_53178_17 : decode cJ7_fill_53178 17 = .ok (.goto (-12), 3) := by decide +kernel
theorem dJ7_fill_53178_20 : decode cJ7_fill_53178 20 = .ok (.return_, 1) := by decide +kernel
set_option maxHeartbeats 4000000 in
set_option maxRecDepth 100000 in
theorem k_fill4 (l : Launch) (dC : Nat → ClassId) (dI : Nat → Nat → Nat) (cB cI cJ cZ cS : ClassId) (q_arr4 : Nat) (f_arr4 : Nat → Int32) (x1 : Int32) : CV l yJ7_fill_53178 wsJ7_fill_53178 ({ frames := 0, cells := 0, slots := 0, locals := 0 }) (dC, dI) (tysA cB cI cJ cZ cS) [(q_arr4, .inl (cI, 4, .inl f_arr4))] [.ref q_arr4, .int x1] (fun w => ∃ φ : Nat → Int32, (∀ j, j < 4 → φ j = x1) ∧ w = [(q_arr4, .inl (cI, 4, .inl φ))]) := by
  refine open_V (cc := cJ7_fill_53178) (maxL := 4) (ret := none) (by decide) rfl (Nat.le_of_ble_eq_true rfl) ?_
  intro p e s m below meth c A ls E
  obtain ⟨C, hr, hlocks, hnm, hA, hP, hK, hD, hN, hl⟩ := E
  obtain ⟨hx, hb, hml, hown, hts⟩ := id C
  have hS : va_S A s.heap s.heap [] := va_S.rf
  have hl : lv_has ls 4 [(0, .ref q_arr4), (1, .int x1)] := hl
  refine lv_iconst (v := 0) hx hb dJ7_fill_53178_0 (by decide) ?_
  refine lv_istore_n (lv' := [(2, .int 0), (0, .ref q_arr4), (1, .int x1)]) hx hb dJ7_fill_53178_1 rfl hl (by decide) rfl (fun ls hl => ?_)
  refine lv_aload_n hx hb dJ7_fill_53178_2 rfl (lv_at hl 1 rfl) ?_
  refine q_alen (v := 4) C hK hP 0 1 rfl rfl dJ7_fill_53178_3 rfl ?_
  refine lv_istore_n (lv' := [(3, .int 4), (2, .int 0), (0, .ref q_arr4), (1, .int x1)]) hx hb dJ7_fill_53178_4 rfl hl (by decide) rfl (fun ls hl => ?_)
  have loop1 : ∀ (n i : Nat), i + n = 4 → ∀ (φ0 : Nat → Int32) (H : Heap) (locs : List Loc) (ls : Array Slot), va_P (dC, dI) vwCl [(q_arr4, .inl (cI, 4, .inl φ0))] H → va_D A [(q_arr4, .inl (cI, 4, .inl φ0))] → va_S A s.heap H locs → lv_has ls 4 [(2, .int (nI i)), (0, .ref q_arr4), (1, .int x1), (3, .int 4)] → (∀ j, j < i → φ0 j = x1) → W p l e ({ frames := 0, cells := 0, slots := 0, locals := 0 }) s m [Value.ref q_arr4, Value.int x1].toArray below meth c H locs 0 0 (MQ below (va_Qv (fun w => ∃ φ : Nat → Int32, (∀ j, j < 4 → φ j = x1) ∧ w = [(q_arr4, .inl (cI, 4, .inl φ))]) (at_W (dC, dI) (tysA cB cI cJ cZ cS) A) A) [Value.ref q_arr4, Value.int x1].toArray s 0 0 A) (F0 m 5 ls []) := by
    intro n
    induction n with
    | zero =>
      intro i hi φ0 H locs ls hP hD hS hl hφ0
      obtain rfl : i = 4 := by omega
      refine lv_iload_n hx hb dJ7_fill_53178_5 rfl (lv_at hl 0 rfl) ?_
      refine lv_iload_n hx hb dJ7_fill_53178_6 rfl (lv_at hl 3 rfl) ?_
      refine lv_icmp_ge (tgt := 20) hx hb dJ7_fill_53178_7 (by decide) (fun _ => ?_) (fun h => absurd (by decide +kernel) h)
      exact q_vret C hr hlocks hK hP hD hS (Nat.le_of_ble_eq_true rfl) (Nat.le_of_ble_eq_true rfl) dJ7_fill_53178_20 (⟨φ0, hφ0, rfl⟩)
    | succ n ih =>
      intro i hi φ0 H locs ls hP hD hS hl hφ0
      refine lv_iload_n hx hb dJ7_fill_53178_5 rfl (lv_at hl 0 rfl) ?_
      refine lv_iload_n hx hb dJ7_fill_53178_6 rfl (lv_at hl 3 rfl) ?_
      refine lv_icmp_ge (tgt := 20) hx hb dJ7_fill_53178_7 (by decide) (fun h => absurd h (nI_nge (n := 4) (by omega) (by omega))) (fun _ => ?_)
      refine lv_aload_n hx hb dJ7_fill_53178_10 rfl (lv_at hl 1 rfl) ?_
      refine lv_iload_n hx hb dJ7_fill_53178_11 rfl (lv_at hl 0 rfl) ?_
      refine lv_iload_n hx hb dJ7_fill_53178_12 rfl (lv_at hl 2 rfl) ?_
      refine q_iast (f2 := (upd φ0 (Int32.toNatClampNeg (nI i)) x1)) (w2 := [(q_arr4, .inl (cI, 4, .inl (upd φ0 (Int32.toNatClampNeg (nI i)) x1)))]) C hK hP hD hS 0 1 rfl rfl (vp_in_nI (by omega) (by omega)) dJ7_fill_53178_13 rfl rfl (fun H locs hP hD hS => ?_)
      refine lv_iinc (v := (nI (i + 1))) (lv' := [(2, .int (nI (i + 1))), (0, .ref q_arr4), (1, .int x1), (3, .int 4)]) hx hb dJ7_fill_53178_14 hl (k := 0) rfl (nI_1 i) (by decide) rfl (fun ls hl => ?_)
      refine lv_goto (tgt := 5) hx hb dJ7_fill_53178_17 (by decide) ?_
      exact ih (i + 1) (by omega) (upd φ0 (Int32.toNatClampNeg (nI i)) x1) H locs ls hP hD hS (lv_sub hl [0, 1, 2, 3] rfl) (fun j hj => by show upd φ0 (Int32.toNatClampNeg (nI i)) x1 j = x1; rw [nI_clamp (by omega)]; unfold upd; split <;> first | rfl | exact hφ0 j (by omega))
  exact loop1 4 0 (by omega) f_arr4 _ _ ls hP hD hS (lv_sub hl [1, 2, 3, 0] rfl) (fun j hj => absurd hj (by omega))

set_option maxHeartbeats 4000000 in
set_option maxRecDepth 100000 in
theorem k_fill5 (l : Launch) (dC : Nat → ClassId) (dI : Nat → Nat → Nat) (cB cI cJ cZ cS : ClassId) (q_arr5 : Nat) (f_arr5 : Nat → Int32) (x1 : Int32) : CV l yJ7_fill_53178 wsJ7_fill_53178 ({ frames := 0, cells := 0, slots := 0, locals := 0 }) (dC, dI) (tysA cB cI cJ cZ cS) [(q_arr5, .inl (cI, 5, .inl f_arr5))] [.ref q_arr5, .int x1] (fun w => ∃ φ : Nat → Int32, (∀ j, j < 5 → φ j = x1) ∧ w = [(q_arr5, .inl (cI, 5, .inl φ))]) := by
  refine open_V (cc := cJ7_fill_53178) (maxL := 4) (ret := none) (by decide) rfl (Nat.le_of_ble_eq_true rfl) ?_
  intro p e s m below meth c A ls E
  obtain ⟨C, hr, hlocks, hnm, hA, hP, hK, hD, hN, hl⟩ := E
  obtain ⟨hx, hb, hml, hown, hts⟩ := id C
  have hS : va_S A s.heap s.heap [] := va_S.rf
  have hl : lv_has ls 4 [(0, .ref q_arr5), (1, .int x1)] := hl
  refine lv_iconst (v := 0) hx hb dJ7_fill_53178_0 (by decide) ?_
  refine lv_istore_n (lv' := [(2, .int 0), (0, .ref q_arr5), (1, .int x1)]) hx hb dJ7_fill_53178_1 rfl hl (by decide) rfl (fun ls hl => ?_)
  refine lv_aload_n hx hb dJ7_fill_53178_2 rfl (lv_at hl 1 rfl) ?_
  refine q_alen (v := 5) C hK hP 0 1 rfl rfl dJ7_fill_53178_3 rfl ?_
  refine lv_istore_n (lv' := [(3, .int 5), (2, .int 0), (0, .ref q_arr5), (1, .int x1)]) hx hb dJ7_fill_53178_4 rfl hl (by decide) rfl (fun ls hl => ?_)
  have loop1 : ∀ (n i : Nat), i + n = 5 → ∀ (φ0 : Nat → Int32) (H : Heap) (locs : List Loc) (ls : Array Slot), va_P (dC, dI) vwCl [(q_arr5, .inl (cI, 5, .inl φ0))] H → va_D A [(q_arr5, .inl (cI, 5, .inl φ0))] → va_S A s.heap H locs → lv_has ls 4 [(2, .int (nI i)), (0, .ref q_arr5), (1, .int x1), (3, .int 5)] → (∀ j, j < i → φ0 j = x1) → W p l e ({ frames := 0, cells := 0, slots := 0, locals := 0 }) s m [Value.ref q_arr5, Value.int x1].toArray below meth c H locs 0 0 (MQ below (va_Qv (fun w => ∃ φ : Nat → Int32, (∀ j, j < 5 → φ j = x1) ∧ w = [(q_arr5, .inl (cI, 5, .inl φ))]) (at_W (dC, dI) (tysA cB cI cJ cZ cS) A) A) [Value.ref q_arr5, Value.int x1].toArray s 0 0 A) (F0 m 5 ls []) := by
    intro n
    induction n with
    | zero =>
      intro i hi φ0 H locs ls hP hD hS hl hφ0
      obtain rfl : i = 5 := by omega
      refine lv_iload_n hx hb dJ7_fill_53178_5 rfl (lv_at hl 0 rfl) ?_
      refine lv_iload_n hx hb dJ7_fill_53178_6 rfl (lv_at hl 3 rfl) ?_
      refine lv_icmp_ge (tgt := 20) hx hb dJ7_fill_53178_7 (by decide) (fun _ => ?_) (fun h => absurd (by decide +kernel) h)
      exact q_vret C hr hlocks hK hP hD hS (Nat.le_of_ble_eq_true rfl) (Nat.le_of_ble_eq_true rfl) dJ7_fill_53178_20 (⟨φ0, hφ0, rfl⟩)
    | succ n ih =>
      intro i hi φ0 H locs ls hP hD hS hl hφ0
      refine lv_iload_n hx hb dJ7_fill_53178_5 rfl (lv_at hl 0 rfl) ?_
      refine lv_iload_n hx hb dJ7_fill_53178_6 rfl (lv_at hl 3 rfl) ?_
      refine lv_icmp_ge (tgt := 20) hx hb dJ7_fill_53178_7 (by decide) (fun h => absurd h (nI_nge (n := 5) (by omega) (by omega))) (fun _ => ?_)
      refine lv_aload_n hx hb dJ7_fill_53178_10 rfl (lv_at hl 1 rfl) ?_
      refine lv_iload_n hx hb dJ7_fill_53178_11 rfl (lv_at hl 0 rfl) ?_
      refine lv_iload_n hx hb dJ7_fill_53178_12 rfl (lv_at hl 2 rfl) ?_
      refine q_iast (f2 := (upd φ0 (Int32.toNatClampNeg (nI i)) x1)) (w2 := [(q_arr5, .inl (cI, 5, .inl (upd φ0 (Int32.toNatClampNeg (nI i)) x1)))]) C hK hP hD hS 0 1 rfl rfl (vp_in_nI (by omega) (by omega)) dJ7_fill_53178_13 rfl rfl (fun H locs hP hD hS => ?_)
      refine lv_iinc (v := (nI (i + 1))) (lv' := [(2, .int (nI (i + 1))), (0, .ref q_arr5), (1, .int x1), (3, .int 5)]) hx hb dJ7_fill_53178_14 hl (k := 0) rfl (nI_1 i) (by decide) rfl (fun ls hl => ?_)
      refine lv_goto (tgt := 5) hx hb dJ7_fill_53178_17 (by decide) ?_
      exact ih (i + 1) (by omega) (upd φ0 (Int32.toNatClampNeg (nI i)) x1) H locs ls hP hD hS (lv_sub hl [0, 1, 2, 3] rfl) (fun j hj => by show upd φ0 (Int32.toNatClampNeg (nI i)) x1 j = x1; rw [nI_clamp (by omega)]; unfold upd; split <;> first | rfl | exact hφ0 j (by omega))
  exact loop1 5 0 (by omega) f_arr5 _ _ ls hP hD hS (lv_sub hl [1, 2, 3, 0] rfl) (fun j hj => absurd hj (by omega))

set_option maxHeartbeats 4000000 in
set_option maxRecDepth 100000 in
theorem k_fill6 (l : Launch) (dC : Nat → ClassId) (dI : Nat → Nat → Nat) (cB cI cJ cZ cS : ClassId) (q_arr6 : Nat) (f_arr6 : Nat → Int32) (x1 : Int32) : CV l yJ7_fill_53178 wsJ7_fill_53178 ({ frames := 0, cells := 0, slots := 0, locals := 0 }) (dC, dI) (tysA cB cI cJ cZ cS) [(q_arr6, .inl (cI, 6, .inl f_arr6))] [.ref q_arr6, .int x1] (fun w => ∃ φ : Nat → Int32, (∀ j, j < 6 → φ j = x1) ∧ w = [(q_arr6, .inl (cI, 6, .inl φ))]) := by
  refine open_V (cc := cJ7_fill_53178) (maxL := 4) (ret := none) (by decide) rfl (Nat.le_of_ble_eq_true rfl) ?_
  intro p e s m below meth c A ls E
  obtain ⟨C, hr, hlocks, hnm, hA, hP, hK, hD, hN, hl⟩ := E
  obtain ⟨hx, hb, hml, hown, hts⟩ := id C
  have hS : va_S A s.heap s.heap [] := va_S.rf
  have hl : lv_has ls 4 [(0, .ref q_arr6), (1, .int x1)] := hl
  refine lv_iconst (v := 0) hx hb dJ7_fill_53178_0 (by decide) ?_
  refine lv_istore_n (lv' := [(2, .int 0), (0, .ref q_arr6), (1, .int x1)]) hx hb dJ7_fill_53178_1 rfl hl (by decide) rfl (fun ls hl => ?_)
  refine lv_aload_n hx hb dJ7_fill_53178_2 rfl (lv_at hl 1 rfl) ?_
  refine q_alen (v := 6) C hK hP 0 1 rfl rfl dJ7_fill_53178_3 rfl ?_
  refine lv_istore_n (lv' := [(3, .int 6), (2, .int 0), (0, .ref q_arr6), (1, .int x1)]) hx hb dJ7_fill_53178_4 rfl hl (by decide) rfl (fun ls hl => ?_)
  have loop1 : ∀ (n i : Nat), i + n = 6 → ∀ (φ0 : Nat → Int32) (H : Heap) (locs : List Loc) (ls : Array Slot), va_P (dC, dI) vwCl [(q_arr6, .inl (cI, 6, .inl φ0))] H → va_D A [(q_arr6, .inl (cI, 6, .inl φ0))] → va_S A s.heap H locs → lv_has ls 4 [(2, .int (nI i)), (0, .ref q_arr6), (1, .int x1), (3, .int 6)] → (∀ j, j < i → φ0 j = x1) → W p l e ({ frames := 0, cells := 0, slots := 0, locals := 0 }) s m [Value.ref q_arr6, Value.int x1].toArray below meth c H locs 0 0 (MQ below (va_Qv (fun w => ∃ φ : Nat → Int32, (∀ j, j < 6 → φ j = x1) ∧ w = [(q_arr6, .inl (cI, 6, .inl φ))]) (at_W (dC, dI) (tysA cB cI cJ cZ cS) A) A) [Value.ref q_arr6, Value.int x1].toArray s 0 0 A) (F0 m 5 ls []) := by
    intro n
    induction n with
    | zero =>
      intro i hi φ0 H locs ls hP hD hS hl hφ0
      obtain rfl : i = 6 := by omega
      refine lv_iload_n hx hb dJ7_fill_53178_5 rfl (lv_at hl 0 rfl) ?_
      refine lv_iload_n hx hb dJ7_fill_53178_6 rfl (lv_at hl 3 rfl) ?_
      refine lv_icmp_ge (tgt := 20) hx hb dJ7_fill_53178_7 (by decide) (fun _ => ?_) (fun h => absurd (by decide +kernel) h)
      exact q_vret C hr hlocks hK hP hD hS (Nat.le_of_ble_eq_true rfl) (Nat.le_of_ble_eq_true rfl) dJ7_fill_53178_20 (⟨φ0, hφ0, rfl⟩)
    | succ n ih =>
      intro i hi φ0 H locs ls hP hD hS hl hφ0
      refine lv_iload_n hx hb dJ7_fill_53178_5 rfl (lv_at hl 0 rfl) ?_
      refine lv_iload_n hx hb dJ7_fill_53178_6 rfl (lv_at hl 3 rfl) ?_
      refine lv_icmp_ge (tgt := 20) hx hb dJ7_fill_53178_7 (by decide) (fun h => absurd h (nI_nge (n := 6) (by omega) (by omega))) (fun _ => ?_)
      refine lv_aload_n hx hb dJ7_fill_53178_10 rfl (lv_at hl 1 rfl) ?_
      refine lv_iload_n hx hb dJ7_fill_53178_11 rfl (lv_at hl 0 rfl) ?_
      refine lv_iload_n hx hb dJ7_fill_53178_12 rfl (lv_at hl 2 rfl) ?_
      refine q_iast (f2 := (upd φ0 (Int32.toNatClampNeg (nI i)) x1)) (w2 := [(q_arr6, .inl (cI, 6, .inl (upd φ0 (Int32.toNatClampNeg (nI i)) x1)))]) C hK hP hD hS 0 1 rfl rfl (vp_in_nI (by omega) (by omega)) dJ7_fill_53178_13 rfl rfl (fun H locs hP hD hS => ?_)
      refine lv_iinc (v := (nI (i + 1))) (lv' := [(2, .int (nI (i + 1))), (0, .ref q_arr6), (1, .int x1), (3, .int 6)]) hx hb dJ7_fill_53178_14 hl (k := 0) rfl (nI_1 i) (by decide) rfl (fun ls hl => ?_)
      refine lv_goto (tgt := 5) hx hb dJ7_fill_53178_17 (by decide) ?_
      exact ih (i + 1) (by omega) (upd φ0 (Int32.toNatClampNeg (nI i)) x1) H locs ls hP hD hS (lv_sub hl [0, 1, 2, 3] rfl) (fun j hj => by show upd φ0 (Int32.toNatClampNeg (nI i)) x1 j = x1; rw [nI_clamp (by omega)]; unfold upd; split <;> first | rfl | exact hφ0 j (by omega))
  exact loop1 6 0 (by omega) f_arr6 _ _ ls hP hD hS (lv_sub hl [1, 2, 3, 0] rfl) (fun j hj => absurd hj (by omega))

set_option maxHeartbeats 4000000 in
set_option maxRecDepth 100000 in
theorem k_fill9 (l : Launch) (dC : Nat → ClassId) (dI : Nat → Nat → Nat) (cB cI cJ cZ cS : ClassId) (q_arr9 : Nat) (f_arr9 : Nat → Int32) (x1 : Int32) : CV l yJ7_fill_53178 wsJ7_fill_53178 ({ frames := 0, cells := 0, slots := 0, locals := 0 }) (dC, dI) (tysA cB cI cJ cZ cS) [(q_arr9, .inl (cI, 9, .inl f_arr9))] [.ref q_arr9, .int x1] (fun w => ∃ φ : Nat → Int32, (∀ j, j < 9 → φ j = x1) ∧ w = [(q_arr9, .inl (cI, 9, .inl φ))]) := by
  refine open_V (cc := cJ7_fill_53178) (maxL := 4) (ret := none) (by decide) rfl (Nat.le_of_ble_eq_true rfl) ?_
  intro p e s m below meth c A ls E
  obtain ⟨C, hr, hlocks, hnm, hA, hP, hK, hD, hN, hl⟩ := E
  obtain ⟨hx, hb, hml, hown, hts⟩ := id C
  have hS : va_S A s.heap s.heap [] := va_S.rf
  have hl : lv_has ls 4 [(0, .ref q_arr9), (1, .int x1)] := hl
  refine lv_iconst (v := 0) hx hb dJ7_fill_53178_0 (by decide) ?_
  refine lv_istore_n (lv' := [(2, .int 0), (0, .ref q_arr9), (1, .int x1)]) hx hb dJ7_fill_53178_1 rfl hl (by decide) rfl (fun ls hl => ?_)
  refine lv_aload_n hx hb dJ7_fill_53178_2 rfl (lv_at hl 1 rfl) ?_
  refine q_alen (v := 9) C hK hP 0 1 rfl rfl dJ7_fill_53178_3 rfl ?_
  refine lv_istore_n (lv' := [(3, .int 9), (2, .int 0), (0, .ref q_arr9), (1, .int x1)]) hx hb dJ7_fill_53178_4 rfl hl (by decide) rfl (fun ls hl => ?_)
  have loop1 : ∀ (n i : Nat), i + n = 9 → ∀ (φ0 : Nat → Int32) (H : Heap) (locs : List Loc) (ls : Array Slot), va_P (dC, dI) vwCl [(q_arr9, .inl (cI, 9, .inl φ0))] H → va_D A [(q_arr9, .inl (cI, 9, .inl φ0))] → va_S A s.heap H locs → lv_has ls 4 [(2, .int (nI i)), (0, .ref q_arr9), (1, .int x1), (3, .int 9)] → (∀ j, j < i → φ0 j = x1) → W p l e ({ frames := 0, cells := 0, slots := 0, locals := 0 }) s m [Value.ref q_arr9, Value.int x1].toArray below meth c H locs 0 0 (MQ below (va_Qv (fun w => ∃ φ : Nat → Int32, (∀ j, j < 9 → φ j = x1) ∧ w = [(q_arr9, .inl (cI, 9, .inl φ))]) (at_W (dC, dI) (tysA cB cI cJ cZ cS) A) A) [Value.ref q_arr9, Value.int x1].toArray s 0 0 A) (F0 m 5 ls []) := by
    intro n
    induction n with
    | zero =>
      intro i hi φ0 H locs ls hP hD hS hl hφ0
      obtain rfl : i = 9 := by omega
      refine lv_iload_n hx hb dJ7_fill_53178_5 rfl (lv_at hl 0 rfl) ?_
      refine lv_iload_n hx hb dJ7_fill_53178_6 rfl (lv_at hl 3 rfl) ?_
      refine lv_icmp_ge (tgt := 20) hx hb dJ7_fill_53178_7 (by decide) (fun _ => ?_) (fun h => absurd (by decide +kernel) h)
      exact q_vret C hr hlocks hK hP hD hS (Nat.le_of_ble_eq_true rfl) (Nat.le_of_ble_eq_true rfl) dJ7_fill_53178_20 (⟨φ0, hφ0, rfl⟩)
    | succ n ih =>
      intro i hi φ0 H locs ls hP hD hS hl hφ0
      refine lv_iload_n hx hb dJ7_fill_53178_5 rfl (lv_at hl 0 rfl) ?_
      refine lv_iload_n hx hb dJ7_fill_53178_6 rfl (lv_at hl 3 rfl) ?_
      refine lv_icmp_ge (tgt := 20) hx hb dJ7_fill_53178_7 (by decide) (fun h => absurd h (nI_nge (n := 9) (by omega) (by omega))) (fun _ => ?_)
      refine lv_aload_n hx hb dJ7_fill_53178_10 rfl (lv_at hl 1 rfl) ?_
      refine lv_iload_n hx hb dJ7_fill_53178_11 rfl (lv_at hl 0 rfl) ?_
      refine lv_iload_n hx hb dJ7_fill_53178_12 rfl (lv_at hl 2 rfl) ?_
      refine q_iast (f2 := (upd φ0 (Int32.toNatClampNeg (nI i)) x1)) (w2 := [(q_arr9, .inl (cI, 9, .inl (upd φ0 (Int32.toNatClampNeg (nI i)) x1)))]) C hK hP hD hS 0 1 rfl rfl (vp_in_nI (by omega) (by omega)) dJ7_fill_53178_13 rfl rfl (fun H locs hP hD hS => ?_)
      refine lv_iinc (v := (nI (i + 1))) (lv' := [(2, .int (nI (i + 1))), (0, .ref q_arr9), (1, .int x1), (3, .int 9)]) hx hb dJ7_fill_53178_14 hl (k := 0) rfl (nI_1 i) (by decide) rfl (fun ls hl => ?_)
      refine lv_goto (tgt := 5) hx hb dJ7_fill_53178_17 (by decide) ?_
      exact ih (i + 1) (by omega) (upd φ0 (Int32.toNatClampNeg (nI i)) x1) H locs ls hP hD hS (lv_sub hl [0, 1, 2, 3] rfl) (fun j hj => by show upd φ0 (Int32.toNatClampNeg (nI i)) x1 j = x1; rw [nI_clamp (by omega)]; unfold upd; split <;> first | rfl | exact hφ0 j (by omega))
  exact loop1 9 0 (by omega) f_arr9 _ _ ls hP hD hS (lv_sub hl [1, 2, 3, 0] rfl) (fun j hj => absurd hj (by omega))

set_option maxHeartbeats 4000000 in
set_option maxRecDepth 100000 in
theorem k_fill20 (l : Launch) (dC : Nat → ClassId) (dI : Nat → Nat → Nat) (cB cI cJ cZ cS : ClassId) (q_arr20 : Nat) (f_arr20 : Nat → Int32) (x1 : Int32) : CV l yJ7_fill_53178 wsJ7_fill_53178 ({ frames := 0, cells := 0, slots := 0, locals := 0 }) (dC, dI) (tysA cB cI cJ cZ cS) [(q_arr20, .inl (cI, 20, .inl f_arr20))] [.ref q_arr20, .int x1] (fun w => ∃ φ : Nat → Int32, (∀ j, j < 20 → φ j = x1) ∧ w = [(q_arr20, .inl (cI, 20, .inl φ))]) := by
  refine open_V (cc := cJ7_fill_53178) (maxL := 4) (ret := none) (by decide) rfl (Nat.le_of_ble_eq_true rfl) ?_
  intro p e s m below meth c A ls E
  obtain ⟨C, hr, hlocks, hnm, hA, hP, hK, hD, hN, hl⟩ := E
  obtain ⟨hx, hb, hml, hown, hts⟩ := id C
  have hS : va_S A s.heap s.heap [] := va_S.rf
  have hl : lv_has ls 4 [(0, .ref q_arr20), (1, .int x1)] := hl
  refine lv_iconst (v := 0) hx hb dJ7_fill_53178_0 (by decide) ?_
  refine lv_istore_n (lv' := [(2, .int 0), (0, .ref q_arr20), (1, .int x1)]) hx hb dJ7_fill_53178_1 rfl hl (by decide) rfl (fun ls hl => ?_)
  refine lv_aload_n hx hb dJ7_fill_53178_2 rfl (lv_at hl 1 rfl) ?_
  refine q_alen (v := 20) C hK hP 0 1 rfl rfl dJ7_fill_53178_3 rfl ?_
  refine lv_istore_n (lv' := [(3, .int 20), (2, .int 0), (0, .ref q_arr20), (1, .int x1)]) hx hb dJ7_fill_53178_4 rfl hl (by decide) rfl (fun ls hl => ?_)
  have loop1 : ∀ (n i : Nat), i + n = 20 → ∀ (φ0 : Nat → Int32) (H : Heap) (locs : List Loc) (ls : Array Slot), va_P (dC, dI) vwCl [(q_arr20, .inl (cI, 20, .inl φ0))] H → va_D A [(q_arr20, .inl (cI, 20, .inl φ0))] → va_S A s.heap H locs → lv_has ls 4 [(2, .int (nI i)), (0, .ref q_arr20), (1, .int x1), (3, .int 20)] → (∀ j, j < i → φ0 j = x1) → W p l e ({ frames := 0, cells := 0, slots := 0, locals := 0 }) s m [Value.ref q_arr20, Value.int x1].toArray below meth c H locs 0 0 (MQ below (va_Qv (fun w => ∃ φ : Nat → Int32, (∀ j, j < 20 → φ j = x1) ∧ w = [(q_arr20, .inl (cI, 20, .inl φ))]) (at_W (dC, dI) (tysA cB cI cJ cZ cS) A) A) [Value.ref q_arr20, Value.int x1].toArray s 0 0 A) (F0 m 5 ls []) := by
    intro n
    induction n with
    | zero =>
      intro i hi φ0 H locs ls hP hD hS hl hφ0
      obtain rfl : i = 20 := by omega
      refine lv_iload_n hx hb dJ7_fill_53178_5 rfl (lv_at hl 0 rfl) ?_
      refine lv_iload_n hx hb dJ7_fill_53178_6 rfl (lv_at hl 3 rfl) ?_
      refine lv_icmp_ge (tgt := 20) hx hb dJ7_fill_53178_7 (by decide) (fun _ => ?_) (fun h => absurd (by decide +kernel) h)
      exact q_vret C hr hlocks hK hP hD hS (Nat.le_of_ble_eq_true rfl) (Nat.le_of_ble_eq_true rfl) dJ7_fill_53178_20 (⟨φ0, hφ0, rfl⟩)
    | succ n ih =>
      intro i hi φ0 H locs ls hP hD hS hl hφ0
      refine lv_iload_n hx hb dJ7_fill_53178_5 rfl (lv_at hl 0 rfl) ?_
      refine lv_iload_n hx hb dJ7_fill_53178_6 rfl (lv_at hl 3 rfl) ?_
      refine lv_icmp_ge (tgt := 20) hx hb dJ7_fill_53178_7 (by decide) (fun h => absurd h (nI_nge (n := 20) (by omega) (by omega))) (fun _ => ?_)
      refine lv_aload_n hx hb dJ7_fill_53178_10 rfl (lv_at hl 1 rfl) ?_
      refine lv_iload_n hx hb dJ7_fill_53178_11 rfl (lv_at hl 0 rfl) ?_
      refine lv_iload_n hx hb dJ7_fill_53178_12 rfl (lv_at hl 2 rfl) ?_
      refine q_iast (f2 := (upd φ0 (Int32.toNatClampNeg (nI i)) x1)) (w2 := [(q_arr20, .inl (cI, 20, .inl (upd φ0 (Int32.toNatClampNeg (nI i)) x1)))]) C hK hP hD hS 0 1 rfl rfl (vp_in_nI (by omega) (by omega)) dJ7_fill_53178_13 rfl rfl (fun H locs hP hD hS => ?_)
      refine lv_iinc (v := (nI (i + 1))) (lv' := [(2, .int (nI (i + 1))), (0, .ref q_arr20), (1, .int x1), (3, .int 20)]) hx hb dJ7_fill_53178_14 hl (k := 0) rfl (nI_1 i) (by decide) rfl (fun ls hl => ?_)
      refine lv_goto (tgt := 5) hx hb dJ7_fill_53178_17 (by decide) ?_
      exact ih (i + 1) (by omega) (upd φ0 (Int32.toNatClampNeg (nI i)) x1) H locs ls hP hD hS (lv_sub hl [0, 1, 2, 3] rfl) (fun j hj => by show upd φ0 (Int32.toNatClampNeg (nI i)) x1 j = x1; rw [nI_clamp (by omega)]; unfold upd; split <;> first | rfl | exact hφ0 j (by omega))
  exact loop1 20 0 (by omega) f_arr20 _ _ ls hP hD hS (lv_sub hl [1, 2, 3, 0] rfl) (fun j hj => absurd hj (by omega))

set_option maxHeartbeats 4000000 in
set_option maxRecDepth 100000 in
theorem k_bitCount0 (l : Launch) (dC : Nat → ClassId) (dI : Nat → Nat → Nat) (cB cI cJ cZ cS : ClassId)  : CI l yJ6_bitCount_0f7a4 wsJ6_bitCount_0f7a4 ({ frames := 0, cells := 0, slots := 0, locals := 0 }) (dC, dI) (tysA cB cI cJ cZ cS) [] [.int 0] (fun r _ => r = 0) := by
  refine open_I (cc := cJ6_bitCount_0f7a4) (maxL := 1) (ret := (some .int)) (by decide) rfl (Nat.le_of_ble_eq_true rfl) ?_
  intro p e s m below meth c A ls E
  obtain ⟨C, hr, hlocks, hnm, hA, hP, hK, hD, hN, hl⟩ := E
  obtain ⟨hx, hb, hml, hown, hts⟩ := id C
  have hS : va_S A s.heap s.heap [] := va_S.rf
  have hl : lv_has ls 1 [(0, .int 0)] := hl
  have K265 : Cond.constant RJ6 265 1431655765 ∈ wsJ6_bitCount_0f7a4 := by decide +kernel
  have K266 : Cond.constant RJ6 266 858993459 ∈ wsJ6_bitCount_0f7a4 := by decide +kernel
  have K267 : Cond.constant RJ6 267 252645135 ∈ wsJ6_bitCount_0f7a4 := by decide +kernel
  refine lv_iload_n hx hb dJ6_bitCount_0f7a4_0 rfl (lv_at hl 0 rfl) ?_
  refine lv_iload_n hx hb dJ6_bitCount_0f7a4_1 rfl (lv_at hl 0 rfl) ?_
  refine lv_iconst (v := 1) hx hb dJ6_bitCount_0f7a4_2 (by decide) ?_
  refine lv_iushr (v := 0) hx hb dJ6_bitCount_0f7a4_3 (by decide +kernel) ?_
  refine lv_ldcw (v := 1431655765) hx hb hown (hts _ K265) dJ6_bitCount_0f7a4_4 ?_
  refine lv_iand hx hb dJ6_bitCount_0f7a4_7 ?_
  refine q_top (y := 0) (by decide +kernel) ?_
  refine lv_isub hx hb dJ6_bitCount_0f7a4_8 ?_
  refine q_top (y := 0) (by decide +kernel) ?_
  refine lv_istore_n (lv' := [(0, .int 0)]) hx hb dJ6_bitCount_0f7a4_9 rfl hl (by decide) rfl (fun ls hl => ?_)
  refine lv_iload_n hx hb dJ6_bitCount_0f7a4_10 rfl (lv_at hl 0 rfl) ?_
  refine lv_ldcw (v := 858993459) hx hb hown (hts _ K266) dJ6_bitCount_0f7a4_11 ?_
  refine lv_iand hx hb dJ6_bitCount_0f7a4_14 ?_
  refine q_top (y := 0) (by decide +kernel) ?_
  refine lv_iload_n hx hb dJ6_bitCount_0f7a4_15 rfl (lv_at hl 0 rfl) ?_
  refine lv_iconst (v := 2) hx hb dJ6_bitCount_0f7a4_16 (by decide) ?_
  refine lv_iushr (v := 0) hx hb dJ6_bitCount_0f7a4_17 (by decide +kernel) ?_
  refine lv_ldcw (v := 858993459) hx hb hown (hts _ K266) dJ6_bitCount_0f7a4_18 ?_
  refine lv_iand hx hb dJ6_bitCount_0f7a4_21 ?_
  refine q_top (y := 0) (by decide +kernel) ?_
  refine lv_iadd hx hb dJ6_bitCount_0f7a4_22 ?_
  refine q_top (y := 0) (by decide +kernel) ?_
  refine lv_istore_n (lv' := [(0, .int 0)]) hx hb dJ6_bitCount_0f7a4_23 rfl hl (by decide) rfl (fun ls hl => ?_)
  refine lv_iload_n hx hb dJ6_bitCount_0f7a4_24 rfl (lv_at hl 0 rfl) ?_
  refine lv_iload_n hx hb dJ6_bitCount_0f7a4_25 rfl (lv_at hl 0 rfl) ?_
  refine lv_iconst (v := 4) hx hb dJ6_bitCount_0f7a4_26 (by decide) ?_
  refine lv_iushr (v := 0) hx hb dJ6_bitCount_0f7a4_27 (by decide +kernel) ?_
  refine lv_iadd hx hb dJ6_bitCount_0f7a4_28 ?_
  refine q_top (y := 0) (by decide +kernel) ?_
  refine lv_ldcw (v := 252645135) hx hb hown (hts _ K267) dJ6_bitCount_0f7a4_29 ?_
  refine lv_iand hx hb dJ6_bitCount_0f7a4_32 ?_
  refine q_top (y := 0) (by decide +kernel) ?_
  refine lv_istore_n (lv' := [(0, .int 0)]) hx hb dJ6_bitCount_0f7a4_33 rfl hl (by decide) rfl (fun ls hl => ?_)
  refine lv_iload_n hx hb dJ6_bitCount_0f7a4_34 rfl (lv_at hl 0 rfl) ?_
  refine lv_iload_n hx hb dJ6_bitCount_0f7a4_35 rfl (lv_at hl 0 rfl) ?_
  refine lv_bipush (v := 8) hx hb dJ6_bitCount_0f7a4_36 (by decide) ?_
  refine lv_iushr (v := 0) hx hb dJ6_bitCount_0f7a4_38 (by decide +kernel) ?_
  refine lv_iadd hx hb dJ6_bitCount_0f7a4_39 ?_
  refine q_top (y := 0) (by decide +kernel) ?_
  refine lv_istore_n (lv' := [(0, .int 0)]) hx hb dJ6_bitCount_0f7a4_40 rfl hl (by decide) rfl (fun ls hl => ?_)
  refine lv_iload_n hx hb dJ6_bitCount_0f7a4_41 rfl (lv_at hl 0 rfl) ?_
  refine lv_iload_n hx hb dJ6_bitCount_0f7a4_42 rfl (lv_at hl 0 rfl) ?_
  refine lv_bipush (v := 16) hx hb dJ6_bitCount_0f7a4_43 (by decide) ?_
  refine lv_iushr (v := 0) hx hb dJ6_bitCount_0f7a4_45 (by decide +kernel) ?_
  refine lv_iadd hx hb dJ6_bitCount_0f7a4_46 ?_
  refine q_top (y := 0) (by decide +kernel) ?_
  refine lv_istore_n (lv' := [(0, .int 0)]) hx hb dJ6_bitCount_0f7a4_47 rfl hl (by decide) rfl (fun ls hl => ?_)
  refine lv_iload_n hx hb dJ6_bitCount_0f7a4_48 rfl (lv_at hl 0 rfl) ?_
  refine lv_bipush (v := 63) hx hb dJ6_bitCount_0f7a4_49 (by decide) ?_
  refine lv_iand hx hb dJ6_bitCount_0f7a4_51 ?_
  refine q_top (y := 0) (by decide +kernel) ?_
  exact q_iret C hr hlocks hK hP hD hS (Nat.le_of_ble_eq_true rfl) (Nat.le_of_ble_eq_true rfl) dJ6_bitCount_0f7a4_52 (rfl)

set_option maxHeartbeats 4000000 in
set_option maxRecDepth 100000 in
theorem k_X5_hasWave (l : Launch) (dC : Nat → ClassId) (dI : Nat → Nat → Nat) (cB cI cJ cZ cS : ClassId) (q_sound : Nat) (u_sound_0 : Value) (u_sound_1 : Value) (u_sound_2 : Value) (u_sound_3 : Value) (u_sound_4 : Value) (u_sound_5 : Value) (u_sound_7 : Value) (u_sound_8 : Value) (u_sound_9 : Value) (x1 : Int32) : CI l yX5_hasWave wsX5_hasWave ({ frames := 0, cells := 0, slots := 0, locals := 0 }) (dC, dI) (tysA cB cI cJ cZ cS) [(q_sound, .inr (5, [u_sound_0, u_sound_1, u_sound_2, u_sound_3, u_sound_4, u_sound_5, .int 0, u_sound_7, u_sound_8, u_sound_9]))] [.ref q_sound, .int x1] (fun r w => w = [(q_sound, .inr (5, [u_sound_0, u_sound_1, u_sound_2, u_sound_3, u_sound_4, u_sound_5, .int 0, u_sound_7, u_sound_8, u_sound_9]))] ∧ r = 0) := by
  refine open_I (cc := cX5_hasWave) (maxL := 2) (ret := (some .boolean)) (by decide) rfl (Nat.le_of_ble_eq_true rfl) ?_
  intro p e s m below meth c A ls E
  obtain ⟨C, hr, hlocks, hnm, hA, hP, hK, hD, hN, hl⟩ := E
  obtain ⟨hx, hb, hml, hown, hts⟩ := id C
  have hS : va_S A s.heap s.heap [] := va_S.rf
  have hl : lv_has ls 2 [(0, .ref q_sound), (1, .int x1)] := hl
  have inX5 : ∀ w ∈ u_ws RX5 TX5 10, w ∈ wsX5_hasWave := fun _ h => List.mem_cons_of_mem _ (List.mem_append_right _ h)
  have L37 : Cond.fieldLink RX5 37 "GuessFerry$Sound" "waves" "I" ∈ wsX5_hasWave := by decide +kernel
  refine lv_iload_n hx hb dX5_hasWave_0 rfl (lv_at hl 1 rfl) ?_
  refine lv_if_lt (tgt := 16) hx hb dX5_hasWave_1 (by decide) (fun c1 => ?_) (fun c1 => ?_)
  · skip
    refine lv_iconst (v := 0) hx hb dX5_hasWave_16 (by decide) ?_
    exact q_zret C hr hlocks (Or.inl rfl) hK hP hD hS (Nat.le_of_ble_eq_true rfl) (Nat.le_of_ble_eq_true rfl) dX5_hasWave_17 (⟨rfl, rfl⟩)
  · skip
    refine lv_iload_n hx hb dX5_hasWave_4 rfl (lv_at hl 1 rfl) ?_
    refine lv_aload_n hx hb dX5_hasWave_5 rfl (lv_at hl 0 rfl) ?_
    refine q_get (v := .int 0) C inX5 hK hP 0 rfl rfl 6 (by decide) rfl L37 rfl dX5_hasWave_6 ?_
    refine lv_icmp_ge (tgt := 16) hx hb dX5_hasWave_9 (by decide) (fun _ => ?_) (fun h => absurd (Int32.not_lt.mp c1) h)
    refine lv_iconst (v := 0) hx hb dX5_hasWave_16 (by decide) ?_
    exact q_zret C hr hlocks (Or.inl rfl) hK hP hD hS (Nat.le_of_ble_eq_true rfl) (Nat.le_of_ble_eq_true rfl) dX5_hasWave_17 (⟨rfl, rfl⟩)

set_option maxHeartbeats 4000000 in
set_option maxRecDepth 100000 in
theorem k_X5_hasParty (l : Launch) (dC : Nat → ClassId) (dI : Nat → Nat → Nat) (cB cI cJ cZ cS : ClassId) (q_sound : Nat) (u_sound_0 : Value) (u_sound_1 : Value) (u_sound_2 : Value) (u_sound_3 : Value) (u_sound_4 : Value) (u_sound_5 : Value) (u_sound_6 : Value) (u_sound_8 : Value) (u_sound_9 : Value) (x1 : Int32) : CI l yX5_hasParty wsX5_hasParty ({ frames := 0, cells := 0, slots := 0, locals := 0 }) (dC, dI) (tysA cB cI cJ cZ cS) [(q_sound, .inr (5, [u_sound_0, u_sound_1, u_sound_2, u_sound_3, u_sound_4, u_sound_5, u_sound_6, .int 0, u_sound_8, u_sound_9]))] [.ref q_sound, .int x1] (fun r w => w = [(q_sound, .inr (5, [u_sound_0, u_sound_1, u_sound_2, u_sound_3, u_sound_4, u_sound_5, u_sound_6, .int 0, u_sound_8, u_sound_9]))] ∧ r = 0) := by
  refine open_I (cc := cX5_hasParty) (maxL := 2) (ret := (some .boolean)) (by decide) rfl (Nat.le_of_ble_eq_true rfl) ?_
  intro p e s m below meth c A ls E
  obtain ⟨C, hr, hlocks, hnm, hA, hP, hK, hD, hN, hl⟩ := E
  obtain ⟨hx, hb, hml, hown, hts⟩ := id C
  have hS : va_S A s.heap s.heap [] := va_S.rf
  have hl : lv_has ls 2 [(0, .ref q_sound), (1, .int x1)] := hl
  have inX5 : ∀ w ∈ u_ws RX5 TX5 10, w ∈ wsX5_hasParty := fun _ h => List.mem_cons_of_mem _ (List.mem_append_right _ h)
  have L41 : Cond.fieldLink RX5 41 "GuessFerry$Sound" "parties" "I" ∈ wsX5_hasParty := by decide +kernel
  refine lv_iload_n hx hb dX5_hasParty_0 rfl (lv_at hl 1 rfl) ?_
  refine lv_if_lt (tgt := 16) hx hb dX5_hasParty_1 (by decide) (fun c1 => ?_) (fun c1 => ?_)
  · skip
    refine lv_iconst (v := 0) hx hb dX5_hasParty_16 (by decide) ?_
    exact q_zret C hr hlocks (Or.inl rfl) hK hP hD hS (Nat.le_of_ble_eq_true rfl) (Nat.le_of_ble_eq_true rfl) dX5_hasParty_17 (⟨rfl, rfl⟩)
  · skip
    refine lv_iload_n hx hb dX5_hasParty_4 rfl (lv_at hl 1 rfl) ?_
    refine lv_aload_n hx hb dX5_hasParty_5 rfl (lv_at hl 0 rfl) ?_
    refine q_get (v := .int 0) C inX5 hK hP 0 rfl rfl 7 (by decide) rfl L41 rfl dX5_hasParty_6 ?_
    refine lv_icmp_ge (tgt := 16) hx hb dX5_hasParty_9 (by decide) (fun _ => ?_) (fun h => absurd (Int32.not_lt.mp c1) h)
    refine lv_iconst (v := 0) hx hb dX5_hasParty_16 (by decide) ?_
    exact q_zret C hr hlocks (Or.inl rfl) hK hP hD hS (Nat.le_of_ble_eq_true rfl) (Nat.le_of_ble_eq_true rfl) dX5_hasParty_17 (⟨rfl, rfl⟩)

set_option maxHeartbeats 4000000 in
set_option maxRecDepth 100000 in
theorem k_X5_hasGuess (l : Launch) (dC : Nat → ClassId) (dI : Nat → Nat → Nat) (cB cI cJ cZ cS : ClassId) (q_sound : Nat) (u_sound_0 : Value) (u_sound_1 : Value) (u_sound_2 : Value) (u_sound_3 : Value) (u_sound_4 : Value) (u_sound_5 : Value) (u_sound_6 : Value) (u_sound_7 : Value) (u_sound_9 : Value) (x1 : Int32) : CI l yX5_hasGuess wsX5_hasGuess ({ frames := 0, cells := 0, slots := 0, locals := 0 }) (dC, dI) (tysA cB cI cJ cZ cS) [(q_sound, .inr (5, [u_sound_0, u_sound_1, u_sound_2, u_sound_3, u_sound_4, u_sound_5, u_sound_6, u_sound_7, .int 1, u_sound_9]))] [.ref q_sound, .int x1] (fun r w => w = [(q_sound, .inr (5, [u_sound_0, u_sound_1, u_sound_2, u_sound_3, u_sound_4, u_sound_5, u_sound_6, u_sound_7, .int 1, u_sound_9]))] ∧ r = (sp_in x1 0 0)) := by
  refine open_I (cc := cX5_hasGuess) (maxL := 2) (ret := (some .boolean)) (by decide) rfl (Nat.le_of_ble_eq_true rfl) ?_
  intro p e s m below meth c A ls E
  obtain ⟨C, hr, hlocks, hnm, hA, hP, hK, hD, hN, hl⟩ := E
  obtain ⟨hx, hb, hml, hown, hts⟩ := id C
  have hS : va_S A s.heap s.heap [] := va_S.rf
  have hl : lv_has ls 2 [(0, .ref q_sound), (1, .int x1)] := hl
  have inX5 : ∀ w ∈ u_ws RX5 TX5 10, w ∈ wsX5_hasGuess := fun _ h => List.mem_cons_of_mem _ (List.mem_append_right _ h)
  have L44 : Cond.fieldLink RX5 44 "GuessFerry$Sound" "guesses" "I" ∈ wsX5_hasGuess := by decide +kernel
  refine lv_iload_n hx hb dX5_hasGuess_0 rfl (lv_at hl 1 rfl) ?_
  refine lv_if_lt (tgt := 16) hx hb dX5_hasGuess_1 (by decide) (fun c1 => ?_) (fun c1 => ?_)
  · skip
    refine lv_iconst (v := 0) hx hb dX5_hasGuess_16 (by decide) ?_
    exact q_zret C hr hlocks (Or.inl rfl) hK hP hD hS (Nat.le_of_ble_eq_true rfl) (Nat.le_of_ble_eq_true rfl) dX5_hasGuess_17 (⟨rfl, sp_in_a c1⟩)
  · skip
    refine lv_iload_n hx hb dX5_hasGuess_4 rfl (lv_at hl 1 rfl) ?_
    refine lv_aload_n hx hb dX5_hasGuess_5 rfl (lv_at hl 0 rfl) ?_
    refine q_get (v := .int 1) C inX5 hK hP 0 rfl rfl 8 (by decide) rfl L44 rfl dX5_hasGuess_6 ?_
    refine lv_icmp_ge (tgt := 16) hx hb dX5_hasGuess_9 (by decide) (fun c2 => ?_) (fun c2 => ?_)
    · skip
      refine lv_iconst (v := 0) hx hb dX5_hasGuess_16 (by decide) ?_
      exact q_zret C hr hlocks (Or.inl rfl) hK hP hD hS (Nat.le_of_ble_eq_true rfl) (Nat.le_of_ble_eq_true rfl) dX5_hasGuess_17 (⟨rfl, sp_hg_b c2⟩)
    · skip
      refine lv_iconst (v := 1) hx hb dX5_hasGuess_12 (by decide) ?_
      refine lv_goto (tgt := 17) hx hb dX5_hasGuess_13 (by decide) ?_
      exact q_zret C hr hlocks (Or.inr rfl) hK hP hD hS (Nat.le_of_ble_eq_true rfl) (Nat.le_of_ble_eq_true rfl) dX5_hasGuess_17 (⟨rfl, sp_hg_c c1 c2⟩)

set_option maxHeartbeats 4000000 in
set_option maxRecDepth 100000 in
theorem k_X10_isHere (l : Launch) (dC : Nat → ClassId) (dI : Nat → Nat → Nat) (cB cI cJ cZ cS : ClassId) (q_G : Nat) (q_sound : Nat) (u_G_0 : Value) (u_G_2 : Value) (u_G_3 : Value) (u_G_4 : Value) (u_G_5 : Value) (u_G_6 : Value) (u_G_7 : Value) (u_G_8 : Value) (u_sound_0 : Value) (u_sound_1 : Value) (u_sound_2 : Value) (u_sound_3 : Value) (u_sound_4 : Value) (u_sound_5 : Value) (u_sound_6 : Value) (u_sound_8 : Value) (u_sound_9 : Value) (x1 : Int32) : CI l yX10_isHere wsX10_isHere ({ frames := 1, cells := 0, slots := 0, locals := 21 }) (dC, dI) (tysA cB cI cJ cZ cS) [(q_G, .inr (10, [u_G_0, .ref q_sound, u_G_2, u_G_3, u_G_4, u_G_5, u_G_6, u_G_7, u_G_8])), (q_sound, .inr (5, [u_sound_0, u_sound_1, u_sound_2, u_sound_3, u_sound_4, u_sound_5, u_sound_6, .int 0, u_sound_8, u_sound_9]))] [.ref q_G, .int x1] (fun r w => w = [(q_G, .inr (10, [u_G_0, .ref q_sound, u_G_2, u_G_3, u_G_4, u_G_5, u_G_6, u_G_7, u_G_8])), (q_sound, .inr (5, [u_sound_0, u_sound_1, u_sound_2, u_sound_3, u_sound_4, u_sound_5, u_sound_6, .int 0, u_sound_8, u_sound_9]))] ∧ r = 0) := by
  refine open_I (cc := cX10_isHere) (maxL := 2) (ret := (some .boolean)) (by decide) rfl (Nat.le_of_ble_eq_true rfl) ?_
  intro p e s m below meth c A ls E
  obtain ⟨C, hr, hlocks, hnm, hA, hP, hK, hD, hN, hl⟩ := E
  obtain ⟨hx, hb, hml, hown, hts⟩ := id C
  have hS : va_S A s.heap s.heap [] := va_S.rf
  have hl : lv_has ls 2 [(0, .ref q_G), (1, .int x1)] := hl
  have inX10 : ∀ w ∈ u_ws RX10 TX10 9, w ∈ wsX10_isHere := fun _ h => List.mem_cons_of_mem _ (List.mem_append_left _ (List.mem_append_left _ (List.mem_append_right _ h)))
  have E_X5_hasParty : Cond.selects RX5 yX5_hasParty yX5_hasParty ∈ wsX10_isHere := by decide +kernel
  have I_X5 : Cond.initialized RX5 ∈ wsX10_isHere := by decide +kernel
  have L19 : Cond.fieldLink RX10 19 "GuessFerry" "sound" "LGuessFerry$Sound;" ∈ wsX10_isHere := by decide +kernel
  have N_X5_hasParty : Cond.instanceMethod yX5_hasParty ∈ wsX10_isHere := by decide +kernel
  refine lv_aload_n hx hb dX10_isHere_0 rfl (lv_at hl 0 rfl) ?_
  refine q_get (v := .ref q_sound) C inX10 hK hP 0 rfl rfl 1 (by decide) rfl L19 rfl dX10_isHere_1 ?_
  refine lv_iload_n hx hb dX10_isHere_4 rfl (lv_at hl 1 rfl) ?_
  refine q_goi (wr := [(q_G, .inr (10, [u_G_0, .ref q_sound, u_G_2, u_G_3, u_G_4, u_G_5, u_G_6, u_G_7, u_G_8]))]) (va_runVN (As := [.int x1]) (rest := []) C (k_X5_hasParty l dC dI cB cI cJ cZ cS (q_sound) (u_sound_0) (u_sound_1) (u_sound_2) (u_sound_3) (u_sound_4) (u_sound_5) (u_sound_6) (u_sound_8) (u_sound_9) x1 _) ⟨va_cnB 1 hts gX10_isHere_X5_hasParty_n138 rfl rfl rfl (hN _ nwM_X10_138 rfl) (hts _ I_X5) (by decide +kernel) ⟨Nat.le_of_ble_eq_true rfl, Nat.le_of_ble_eq_true rfl⟩, hts _ N_X5_hasParty, hts _ E_X5_hasParty⟩ (q_preV hK hP (ci := 5) (q0 := 1) rfl rfl rfl (q_pre hN hK hP hD [1] rfl (by decide))) rfl rfl hl.1 rfl (lv_room (Nat.le_of_ble_eq_true rfl)) dX10_isHere_5 ⟨Nat.le_of_ble_eq_true rfl, Nat.le_of_ble_eq_true rfl⟩) hP hD hS hA [1] [0] rfl rfl (by decide) (by decide) (fun r w1 H locs hw hP hD hS => ?_)
  obtain ⟨rfl, rfl⟩ := hw
  have hP : va_P (dC, dI) vwCl [(q_G, .inr (10, [u_G_0, .ref q_sound, u_G_2, u_G_3, u_G_4, u_G_5, u_G_6, u_G_7, u_G_8])), (q_sound, .inr (5, [u_sound_0, u_sound_1, u_sound_2, u_sound_3, u_sound_4, u_sound_5, u_sound_6, .int 0, u_sound_8, u_sound_9]))] H := hP.sub [0, 1] rfl
  have hD : va_D A [(q_G, .inr (10, [u_G_0, .ref q_sound, u_G_2, u_G_3, u_G_4, u_G_5, u_G_6, u_G_7, u_G_8])), (q_sound, .inr (5, [u_sound_0, u_sound_1, u_sound_2, u_sound_3, u_sound_4, u_sound_5, u_sound_6, .int 0, u_sound_8, u_sound_9]))] := hD.sub [0, 1] (by decide) rfl
  refine lv_if_eq (tgt := 27) hx hb dX10_isHere_8 (by decide) (fun _ => ?_) (fun h => absurd (by decide +kernel) h)
  refine lv_iconst (v := 0) hx hb dX10_isHere_27 (by decide) ?_
  exact q_zret C hr hlocks (Or.inl rfl) hK hP hD hS (Nat.le_of_ble_eq_true rfl) (Nat.le_of_ble_eq_true rfl) dX10_isHere_28 (⟨rfl, rfl⟩)

set_option maxHeartbeats 4000000 in
set_option maxRecDepth 100000 in
theorem k_X10_partiesThatAre (l : Launch) (dC : Nat → ClassId) (dI : Nat → Nat → Nat) (cB cI cJ cZ cS : ClassId) (q_G : Nat) (q_sound : Nat) (q_now : Nat) (u_G_0 : Value) (u_G_2 : Value) (u_G_3 : Value) (u_G_4 : Value) (u_G_5 : Value) (u_G_6 : Value) (u_G_7 : Value) (u_G_8 : Value) (u_sound_0 : Value) (u_sound_1 : Value) (u_sound_2 : Value) (u_sound_3 : Value) (u_sound_4 : Value) (u_sound_5 : Value) (u_sound_6 : Value) (u_sound_8 : Value) (u_sound_9 : Value) (x1 : Int32) : CI l yX10_partiesThatAre wsX10_partiesThatAre ({ frames := 0, cells := 0, slots := 0, locals := 0 }) (dC, dI) (tysA cB cI cJ cZ cS) [(q_G, .inr (10, [u_G_0, .ref q_sound, u_G_2, u_G_3, u_G_4, u_G_5, u_G_6, u_G_7, u_G_8])), (q_sound, .inr (5, [u_sound_0, u_sound_1, u_sound_2, u_sound_3, u_sound_4, u_sound_5, u_sound_6, .int 0, u_sound_8, u_sound_9]))] [.ref q_G, .ref q_now, .int x1] (fun r w => w = [(q_G, .inr (10, [u_G_0, .ref q_sound, u_G_2, u_G_3, u_G_4, u_G_5, u_G_6, u_G_7, u_G_8])), (q_sound, .inr (5, [u_sound_0, u_sound_1, u_sound_2, u_sound_3, u_sound_4, u_sound_5, u_sound_6, .int 0, u_sound_8, u_sound_9]))] ∧ r = 0) := by
  refine open_I (cc := cX10_partiesThatAre) (maxL := 5) (ret := (some .int)) (by decide) rfl (Nat.le_of_ble_eq_true rfl) ?_
  intro p e s m below meth c A ls E
  obtain ⟨C, hr, hlocks, hnm, hA, hP, hK, hD, hN, hl⟩ := E
  obtain ⟨hx, hb, hml, hown, hts⟩ := id C
  have hS : va_S A s.heap s.heap [] := va_S.rf
  have hl : lv_has ls 5 [(0, .ref q_G), (1, .ref q_now), (2, .int x1)] := hl
  have inX10 : ∀ w ∈ u_ws RX10 TX10 9, w ∈ wsX10_partiesThatAre := fun _ h => List.mem_cons_of_mem _ (List.mem_append_left _ (List.mem_append_left _ (List.mem_append_right _ h)))
  have inX5 : ∀ w ∈ u_ws RX5 TX5 10, w ∈ wsX10_partiesThatAre := fun _ h => List.mem_cons_of_mem _ (List.mem_append_left _ (List.mem_append_right _ h))
  have L19 : Cond.fieldLink RX10 19 "GuessFerry" "sound" "LGuessFerry$Sound;" ∈ wsX10_partiesThatAre := by decide +kernel
  refine lv_iconst (v := 0) hx hb dX10_partiesThatAre_0 (by decide) ?_
  refine lv_istore_n (lv' := [(3, .int 0), (0, .ref q_G), (1, .ref q_now), (2, .int x1)]) hx hb dX10_partiesThatAre_1 rfl hl (by decide) rfl (fun ls hl => ?_)
  refine lv_iconst (v := 0) hx hb dX10_partiesThatAre_2 (by decide) ?_
  refine lv_istore (lv' := [(4, .int 0), (3, .int 0), (0, .ref q_G), (1, .ref q_now), (2, .int x1)]) hx hb dX10_partiesThatAre_3 hl (by decide) rfl (fun ls hl => ?_)
  refine lv_iload hx hb dX10_partiesThatAre_5 (lv_at hl 0 rfl) ?_
  refine lv_aload_n hx hb dX10_partiesThatAre_7 rfl (lv_at hl 2 rfl) ?_
  refine q_get (v := .ref q_sound) C inX10 hK hP 0 rfl rfl 1 (by decide) rfl L19 rfl dX10_partiesThatAre_8 ?_
  refine q_getN (v := .int 0) C hN inX5 hK hP 1 rfl rfl 7 (by decide) rfl nwF_X10_235 rfl dX10_partiesThatAre_11 ?_
  refine lv_icmp_ge (tgt := 41) hx hb dX10_partiesThatAre_14 (by decide) (fun _ => ?_) (fun h => absurd (by decide +kernel) h)
  refine lv_iload_n hx hb dX10_partiesThatAre_41 rfl (lv_at hl 1 rfl) ?_
  exact q_iret C hr hlocks hK hP hD hS (Nat.le_of_ble_eq_true rfl) (Nat.le_of_ble_eq_true rfl) dX10_partiesThatAre_42 (⟨rfl, rfl⟩)

set_option maxHeartbeats 4000000 in
set_option maxRecDepth 100000 in
theorem k_X10_wave (l : Launch) (dC : Nat → ClassId) (dI : Nat → Nat → Nat) (cB cI cJ cZ cS : ClassId) (q_G : Nat) (q_sound : Nat) (u_G_0 : Value) (u_G_2 : Value) (u_G_3 : Value) (u_G_4 : Value) (u_G_5 : Value) (u_G_6 : Value) (u_G_7 : Value) (u_G_8 : Value) (u_sound_0 : Value) (u_sound_1 : Value) (u_sound_2 : Value) (u_sound_3 : Value) (u_sound_4 : Value) (u_sound_5 : Value) (u_sound_7 : Value) (u_sound_8 : Value) (u_sound_9 : Value) (x1 : Int32) (x2 : Int32) : CI l yX10_wave wsX10_wave ({ frames := 1, cells := 0, slots := 0, locals := 21 }) (dC, dI) (tysA cB cI cJ cZ cS) [(q_G, .inr (10, [u_G_0, .ref q_sound, u_G_2, u_G_3, u_G_4, u_G_5, u_G_6, u_G_7, u_G_8])), (q_sound, .inr (5, [u_sound_0, u_sound_1, u_sound_2, u_sound_3, u_sound_4, u_sound_5, .int 0, u_sound_7, u_sound_8, u_sound_9]))] [.ref q_G, .int x1, .int x2] (fun r _ => r = (-1)) := by
  refine open_I (cc := cX10_wave) (maxL := 3) (ret := (some .int)) (by decide) rfl (Nat.le_of_ble_eq_true rfl) ?_
  intro p e s m below meth c A ls E
  obtain ⟨C, hr, hlocks, hnm, hA, hP, hK, hD, hN, hl⟩ := E
  obtain ⟨hx, hb, hml, hown, hts⟩ := id C
  have hS : va_S A s.heap s.heap [] := va_S.rf
  have hl : lv_has ls 3 [(0, .ref q_G), (1, .int x1), (2, .int x2)] := hl
  have inX10 : ∀ w ∈ u_ws RX10 TX10 9, w ∈ wsX10_wave := by decide +kernel
  have E_X5_hasWave : Cond.selects RX5 yX5_hasWave yX5_hasWave ∈ wsX10_wave := by decide +kernel
  have I_X5 : Cond.initialized RX5 ∈ wsX10_wave := by decide +kernel
  have L19 : Cond.fieldLink RX10 19 "GuessFerry" "sound" "LGuessFerry$Sound;" ∈ wsX10_wave := by decide +kernel
  have N_X5_hasWave : Cond.instanceMethod yX5_hasWave ∈ wsX10_wave := by decide +kernel
  refine lv_aload_n hx hb dX10_wave_0 rfl (lv_at hl 0 rfl) ?_
  refine q_get (v := .ref q_sound) C inX10 hK hP 0 rfl rfl 1 (by decide) rfl L19 rfl dX10_wave_1 ?_
  refine lv_iload_n hx hb dX10_wave_4 rfl (lv_at hl 1 rfl) ?_
  refine q_goi (wr := [(q_G, .inr (10, [u_G_0, .ref q_sound, u_G_2, u_G_3, u_G_4, u_G_5, u_G_6, u_G_7, u_G_8]))]) (va_runVN (As := [.int x1]) (rest := []) C (k_X5_hasWave l dC dI cB cI cJ cZ cS (q_sound) (u_sound_0) (u_sound_1) (u_sound_2) (u_sound_3) (u_sound_4) (u_sound_5) (u_sound_7) (u_sound_8) (u_sound_9) x1 _) ⟨va_cnB 1 hts gX10_wave_X5_hasWave_n108 rfl rfl rfl (hN _ nwM_X10_108 rfl) (hts _ I_X5) (by decide +kernel) ⟨Nat.le_of_ble_eq_true rfl, Nat.le_of_ble_eq_true rfl⟩, hts _ N_X5_hasWave, hts _ E_X5_hasWave⟩ (q_preV hK hP (ci := 5) (q0 := 1) rfl rfl rfl (q_pre hN hK hP hD [1] rfl (by decide))) rfl rfl hl.1 rfl (lv_room (Nat.le_of_ble_eq_true rfl)) dX10_wave_5 ⟨Nat.le_of_ble_eq_true rfl, Nat.le_of_ble_eq_true rfl⟩) hP hD hS hA [1] [0] rfl rfl (by decide) (by decide) (fun r w1 H locs hw hP hD hS => ?_)
  obtain ⟨rfl, rfl⟩ := hw
  have hP : va_P (dC, dI) vwCl [(q_G, .inr (10, [u_G_0, .ref q_sound, u_G_2, u_G_3, u_G_4, u_G_5, u_G_6, u_G_7, u_G_8])), (q_sound, .inr (5, [u_sound_0, u_sound_1, u_sound_2, u_sound_3, u_sound_4, u_sound_5, .int 0, u_sound_7, u_sound_8, u_sound_9]))] H := hP.sub [0, 1] rfl
  have hD : va_D A [(q_G, .inr (10, [u_G_0, .ref q_sound, u_G_2, u_G_3, u_G_4, u_G_5, u_G_6, u_G_7, u_G_8])), (q_sound, .inr (5, [u_sound_0, u_sound_1, u_sound_2, u_sound_3, u_sound_4, u_sound_5, .int 0, u_sound_7, u_sound_8, u_sound_9]))] := hD.sub [0, 1] (by decide) rfl
  refine lv_if_ne (tgt := 13) hx hb dX10_wave_8 (by decide) (fun h => absurd (by decide +kernel) h) (fun _ => ?_)
  refine lv_iconst (v := (-1)) hx hb dX10_wave_11 (by decide) ?_
  exact q_iret C hr hlocks hK hP hD hS (Nat.le_of_ble_eq_true rfl) (Nat.le_of_ble_eq_true rfl) dX10_wave_12 (rfl)

set_option maxHeartbeats 4000000 in
set_option maxRecDepth 100000 in
theorem k_X10_odds (l : Launch) (dC : Nat → ClassId) (dI : Nat → Nat → Nat) (cB cI cJ cZ cS : ClassId) (q_G : Nat) (q_sound : Nat) (u_G_0 : Value) (u_G_2 : Value) (u_G_3 : Value) (u_G_4 : Value) (u_G_5 : Value) (u_G_6 : Value) (u_G_7 : Value) (u_G_8 : Value) (u_sound_0 : Value) (u_sound_1 : Value) (u_sound_2 : Value) (u_sound_3 : Value) (u_sound_4 : Value) (u_sound_5 : Value) (u_sound_7 : Value) (u_sound_8 : Value) (u_sound_9 : Value) (x1 : Int32) (x2 : Int32) : CI l yX10_odds wsX10_odds ({ frames := 1, cells := 0, slots := 0, locals := 21 }) (dC, dI) (tysA cB cI cJ cZ cS) [(q_G, .inr (10, [u_G_0, .ref q_sound, u_G_2, u_G_3, u_G_4, u_G_5, u_G_6, u_G_7, u_G_8])), (q_sound, .inr (5, [u_sound_0, u_sound_1, u_sound_2, u_sound_3, u_sound_4, u_sound_5, .int 0, u_sound_7, u_sound_8, u_sound_9]))] [.ref q_G, .int x1, .int x2] (fun r _ => r = (-1)) := by
  refine open_I (cc := cX10_odds) (maxL := 3) (ret := (some .int)) (by decide) rfl (Nat.le_of_ble_eq_true rfl) ?_
  intro p e s m below meth c A ls E
  obtain ⟨C, hr, hlocks, hnm, hA, hP, hK, hD, hN, hl⟩ := E
  obtain ⟨hx, hb, hml, hown, hts⟩ := id C
  have hS : va_S A s.heap s.heap [] := va_S.rf
  have hl : lv_has ls 3 [(0, .ref q_G), (1, .int x1), (2, .int x2)] := hl
  have inX10 : ∀ w ∈ u_ws RX10 TX10 9, w ∈ wsX10_odds := fun _ h => List.mem_cons_of_mem _ (List.mem_append_left _ (List.mem_append_right _ h))
  have E_X5_hasWave : Cond.selects RX5 yX5_hasWave yX5_hasWave ∈ wsX10_odds := by decide +kernel
  have I_X5 : Cond.initialized RX5 ∈ wsX10_odds := by decide +kernel
  have L19 : Cond.fieldLink RX10 19 "GuessFerry" "sound" "LGuessFerry$Sound;" ∈ wsX10_odds := by decide +kernel
  have N_X5_hasWave : Cond.instanceMethod yX5_hasWave ∈ wsX10_odds := by decide +kernel
  refine lv_aload_n hx hb dX10_odds_0 rfl (lv_at hl 0 rfl) ?_
  refine q_get (v := .ref q_sound) C inX10 hK hP 0 rfl rfl 1 (by decide) rfl L19 rfl dX10_odds_1 ?_
  refine lv_iload_n hx hb dX10_odds_4 rfl (lv_at hl 1 rfl) ?_
  refine q_goi (wr := [(q_G, .inr (10, [u_G_0, .ref q_sound, u_G_2, u_G_3, u_G_4, u_G_5, u_G_6, u_G_7, u_G_8]))]) (va_runVN (As := [.int x1]) (rest := []) C (k_X5_hasWave l dC dI cB cI cJ cZ cS (q_sound) (u_sound_0) (u_sound_1) (u_sound_2) (u_sound_3) (u_sound_4) (u_sound_5) (u_sound_7) (u_sound_8) (u_sound_9) x1 _) ⟨va_cnB 1 hts gX10_odds_X5_hasWave_n108 rfl rfl rfl (hN _ nwM_X10_108 rfl) (hts _ I_X5) (by decide +kernel) ⟨Nat.le_of_ble_eq_true rfl, Nat.le_of_ble_eq_true rfl⟩, hts _ N_X5_hasWave, hts _ E_X5_hasWave⟩ (q_preV hK hP (ci := 5) (q0 := 1) rfl rfl rfl (q_pre hN hK hP hD [1] rfl (by decide))) rfl rfl hl.1 rfl (lv_room (Nat.le_of_ble_eq_true rfl)) dX10_odds_5 ⟨Nat.le_of_ble_eq_true rfl, Nat.le_of_ble_eq_true rfl⟩) hP hD hS hA [1] [0] rfl rfl (by decide) (by decide) (fun r w1 H locs hw hP hD hS => ?_)
  obtain ⟨rfl, rfl⟩ := hw
  have hP : va_P (dC, dI) vwCl [(q_G, .inr (10, [u_G_0, .ref q_sound, u_G_2, u_G_3, u_G_4, u_G_5, u_G_6, u_G_7, u_G_8])), (q_sound, .inr (5, [u_sound_0, u_sound_1, u_sound_2, u_sound_3, u_sound_4, u_sound_5, .int 0, u_sound_7, u_sound_8, u_sound_9]))] H := hP.sub [0, 1] rfl
  have hD : va_D A [(q_G, .inr (10, [u_G_0, .ref q_sound, u_G_2, u_G_3, u_G_4, u_G_5, u_G_6, u_G_7, u_G_8])), (q_sound, .inr (5, [u_sound_0, u_sound_1, u_sound_2, u_sound_3, u_sound_4, u_sound_5, .int 0, u_sound_7, u_sound_8, u_sound_9]))] := hD.sub [0, 1] (by decide) rfl
  refine lv_if_eq (tgt := 30) hx hb dX10_odds_8 (by decide) (fun _ => ?_) (fun h => absurd (by decide +kernel) h)
  refine lv_iconst (v := (-1)) hx hb dX10_odds_30 (by decide) ?_
  exact q_iret C hr hlocks hK hP hD hS (Nat.le_of_ble_eq_true rfl) (Nat.le_of_ble_eq_true rfl) dX10_odds_31 (rfl)
