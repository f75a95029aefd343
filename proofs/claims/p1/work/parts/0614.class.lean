theorem dX1_put_0 : decode cX1_put 0 = .ok (.aload_n 0, 1) := by decide +kernel
theorem dX1_put_1 : decode cX1_put 1 = .ok (.getfield 34, 3) := by decide +kernel
theorem dX1_put_4 : decode cX1_put 4 = .ok (.sipush 404, 3) := by decide +kernel
theorem dX1_put_7 : decode cX1_put 7 = .ok (.if_icmp .ge 23, 3) := by decide +kernel
theorem dX1_put_10 : decode cX1_put 10 = .ok (.aload_n 0, 1) := by decide +kernel
theorem dX1_put_11 : decode cX1_put 11 = .ok (.getfield 15, 3) := by decide +kernel
theorem dX1_put_14 : decode cX1_put 14 = .ok (.aload_n 0, 1) := by decide +kernel
theorem dX1_put_15 : decode cX1_put 15 = .ok (.getfield 34, 3) := by decide +kernel
theorem dX1_put_18 : decode cX1_put 18 = .ok (.iload_n 1, 1) := by decide +kernel
theorem dX1_put_19 : decode cX1_put 19 = .ok (.iastore, 1) := by decide +kernel
theorem dX1_put_20 : decode cX1_put 20 = .ok (.aload_n 0, 1) := by decide +kernel
theorem dX1_put_21 : decode cX1_put 21 = .ok (.dup, 1) := by decide +kernel
theorem dX1_put_22 : decode cX1_put 22 = .ok (.getfield 34, 3) := by decide +kernel
theorem dX1_put_25 : decode cX1_put 25 = .ok (.iconst 1, 1) := by decide +kernel
theorem dX1_put_26 : decode cX1_put 26 = .ok (.iadd, 1) := by decide +kernel
theorem dX1_put_27 : decode cX1_put 27 = .ok (.putfield 34, 3) := by decide +kernel
theorem dX1_put_30 : decode cX1_put 30 = .ok (.return_, 1) := by decide +kernel
set_option maxRecDepth 20000 in
theorem ggX2_caseAtRank_X2_fillNear : GoodIn wsX2_caseAtRank wsX2_fillNear := goodIn_r _ [9, 4, 10, 11, 12, 13, 14, 15, 16, 17, 8, 18, 19, 20, 21, 22, 23, 24, 25, 26, 27, 28, 29, 30, 31, 32, 33, 34, 35, 36, 49, 50, 51, 52, 53, 54, 55, 56, 57, 58, 59, 60, 61, 62, 63, 64, 65, 66, 67, 68, 69, 70, 71, 72, 73] (by decide +kernel) (by decide +kernel)
set_option maxRecDepth 20000 in
theorem gX2_caseAtRank_X2_fillNear : GoodIn wsX2_caseAtRank (wsV RX2 94 RX2 yX2_fillNear wsX2_fillNear) := goodIn_app (goodIn_of _ (by decide +kernel)) ggX2_caseAtRank_X2_fillNear
set_option maxRecDepth 20000 in
theorem ggX2_caseAtRank_X2_fillFar : GoodIn wsX2_caseAtRank wsX2_fillFar := goodIn_r _ [40, 3, 10, 15, 16, 17, 8, 18, 19, 20, 21, 22, 23, 24, 25, 26, 27, 28, 29, 30, 31, 32, 33, 34, 35, 36, 49, 50, 51, 52, 53, 54, 55, 56, 57, 58, 59, 60, 61, 62, 63, 64, 65, 66, 67, 68, 69, 70, 71, 72, 73] (by decide +kernel) (by decide +kernel)
set_option maxRecDepth 20000 in
theorem gX2_caseAtRank_X2_fillFar : GoodIn wsX2_caseAtRank (wsV RX2 98 RX2 yX2_fillFar wsX2_fillFar) := goodIn_app (goodIn_of _ (by decide +kernel)) ggX2_caseAtRank_X2_fillFar
set_option maxRecDepth 20000 in
theorem ggX2_caseAtRank_J7_fill_53178 : GoodIn wsX2_caseAtRank wsJ7_fill_53178 := goodIn_r _ [44] (by decide +kernel) (by decide +kernel)
set_option maxRecDepth 20000 in
theorem gX2_caseAtRank_J7_fill_53178 : GoodIn wsX2_caseAtRank (va_wsS RX2 101 yJ7_fill_53178 wsJ7_fill_53178) := goodIn_app (goodIn_of _ (by decide +kernel)) ggX2_caseAtRank_J7_fill_53178
set_option maxRecDepth 20000 in
theorem ggX2_caseAtRank_X2_putOnTop : GoodIn wsX2_caseAtRank wsX2_putOnTop := goodIn_r _ [48, 1, 2, 49, 50, 51, 52, 53, 54] (by decide +kernel) (by decide +kernel)
set_option maxRecDepth 20000 in
theorem gX2_caseAtRank_X2_putOnTop : GoodIn wsX2_caseAtRank (wsV RX2 107 RX2 yX2_putOnTop wsX2_putOnTop) := goodIn_app (goodIn_of _ (by decide +kernel)) ggX2_caseAtRank_X2_putOnTop
theorem dX2_caseAtRank_0 : decode cX2_caseAtRank 0 = .ok (.aload_n 0, 1) := by decide +kernel
theorem dX2_caseAtRank_1 : decode cX2_caseAtRank 1 = .ok (.aload_n 1, 1) := by decide +kernel
theorem dX2_caseAtRank_2 : decode cX2_caseAtRank 2 = .ok (.invokevirtual 94, 3) := by decide +kernel
theorem dX2_caseAtRank_5 : decode cX2_caseAtRank 5 = .ok (.istore_n 3, 1) := by decide +kernel
theorem dX2_caseAtRank_6 : decode cX2_caseAtRank 6 = .ok (.aload_n 0, 1) := by decide +kernel
theorem dX2_caseAtRank_7 : decode cX2_caseAtRank 7 = .ok (.aload_n 1, 1) := by decide +kernel
theorem dX2_caseAtRank_8 : decode cX2_caseAtRank 8 = .ok (.invokevirtual 98, 3) := by decide +kernel
theorem dX2_caseAtRank_11 : decode cX2_caseAtRank 11 = .ok (.istore 4, 2) := by decide +kernel
theorem dX2_caseAtRank_13 : decode cX2_caseAtRank 13 = .ok (.aload_n 0, 1) := by decide +kernel
theorem dX2_caseAtRank_14 : decode cX2_caseAtRank 14 = .ok (.getfield 21, 3) := by decide +kernel
theorem dX2_caseAtRank_17 : decode cX2_caseAtRank 17 = .ok (.iconst 0, 1) := by decide +kernel
theorem dX2_caseAtRank_18 : decode cX2_caseAtRank 18 = .ok (.invokestatic 101, 3) := by decide +kernel
theorem dX2_caseAtRank_21 : decode cX2_caseAtRank 21 = .ok (.aload_n 0, 1) := by decide +kernel
theorem dX2_caseAtRank_22 : decode cX2_caseAtRank 22 = .ok (.getfield 18, 3) := by decide +kernel
theorem dX2_caseAtRank_25 : decode cX2_caseAtRank 25 = .ok (.iconst (-1), 1) := by decide +kernel
theorem dX2_caseAtRank_26 : decode cX2_caseAtRank 26 = .ok (.invokestatic 101, 3) := by decide +kernel
theorem dX2_caseAtRank_29 : decode cX2_caseAtRank 29 = .ok (.iconst 0, 1) := by decide +kernel
theorem dX2_caseAtRank_30 : decode cX2_caseAtRank 30 = .ok (.istore 5, 2) := by decide +kernel
theorem dX2_caseAtRank_32 : decode cX2_caseAtRank 32 = .ok (.iconst 0, 1) := by decide +kernel
theorem dX2_caseAtRank_33 : decode cX2_caseAtRank 33 = .ok (.istore 6, 2) := by decide +kernel
theorem dX2_caseAtRank_35 : decode cX2_caseAtRank 35 = .ok (.iload 6, 2) := by decide +kernel
theorem dX2_caseAtRank_37 : decode cX2_caseAtRank 37 = .ok (.iload 4, 2) := by decide +kernel
theorem dX2_caseAtRank_39 : decode cX2_caseAtRank 39 = .ok (.if_icmp .ge 64, 3) := by decide +kernel
theorem dX2_caseAtRank_42 : decode cX2_caseAtRank 42 = .ok (.iconst 0, 1) := by decide +kernel
theorem dX2_caseAtRank_43 : decode cX2_caseAtRank 43 = .ok (.istore 7, 2) := by decide +kernel
theorem dX2_caseAtRank_45 : decode cX2_caseAtRank 45 = .ok (.iload 7, 2) := by decide +kernel
theorem dX2_caseAtRank_47 : decode cX2_caseAtRank 47 = .ok (.iload_n 3, 1) := by decide +kernel
theorem dX2_caseAtRank_48 : decode cX2_caseAtRank 48 = .ok (.if_icmp .ge 49, 3) := by decide +kernel
theorem dX2_caseAtRank_51 : decode cX2_caseAtRank 51 = .ok (.aload_n 0, 1) := by decide +kernel
theorem dX2_caseAtRank_52 : decode cX2_caseAtRank 52 = .ok (.getfield 15, 3) := by decide +kernel
theorem dX2_caseAtRank_55 : decode cX2_caseAtRank 55 = .ok (.iload 6, 2) := by decide +kernel
theorem dX2_caseAtRank_57 : decode cX2_caseAtRank 57 = .ok (.iaload, 1) := by decide +kernel
theorem dX2_caseAtRank_58 : decode cX2_caseAtRank 58 = .ok (.aload_n 0, 1) := by decide +kernel
theorem dX2_caseAtRank_59 : decode cX2_caseAtRank 59 = .ok (.getfield 9, 3) := by decide +kernel
theorem dX2_caseAtRank_62 : decode cX2_caseAtRank 62 = .ok (.iload 7, 2) := by decide +kernel
theorem dX2_caseAtRank_64 : decode cX2_caseAtRank 64 = .ok (.iaload, 1) := by decide +kernel
theorem dX2_caseAtRank_65 : decode cX2_caseAtRank 65 = .ok (.imul, 1) := by decide +kernel
theorem dX2_caseAtRank_66 : decode cX2_caseAtRank 66 = .ok (.istore 8, 2) := by decide +kernel
theorem dX2_caseAtRank_68 : decode cX2_caseAtRank 68 = .ok (.iload 8, 2) := by decide +kernel
theorem dX2_caseAtRank_70 : decode cX2_caseAtRank 70 = .ok (.aload_n 0, 1) := by decide +kernel
theorem dX2_caseAtRank_71 : decode cX2_caseAtRank 71 = .ok (.getfield 21, 3) := by decide +kernel
theorem dX2_caseAtRank_74 : decode cX2_caseAtRank 74 = .ok (.iload_n 2, 1) := by decide +kernel
theorem dX2_caseAtRank_75 : decode cX2_caseAtRank 75 = .ok (.iaload, 1) := by decide +kernel
theorem dX2_caseAtRank_76 : decode cX2_caseAtRank 76 = .ok (.if_icmp .le 12, 3) := by decide +kernel
theorem dX2_caseAtRank_79 : decode cX2_caseAtRank 79 = .ok (.aload_n 0, 1) := by decide +kernel
theorem dX2_caseAtRank_80 : decode cX2_caseAtRank 80 = .ok (.iload 5, 2) := by decide +kernel
theorem dX2_caseAtRank_82 : decode cX2_caseAtRank 82 = .ok (.iload 8, 2) := by decide +kernel
theorem dX2_caseAtRank_84 : decode cX2_caseAtRank 84 = .ok (.iload_n 2, 1) := by decide +kernel
theorem dX2_caseAtRank_85 : decode cX2_caseAtRank 85 = .ok (.invokevirtual 107, 3) := by decide +kernel
theorem dX2_caseAtRank_88 : decode cX2_caseAtRank 88 = .ok (.iinc 5 1, 3) := by decide +kernel
theorem dX2_caseAtRank_91 : decode cX2_caseAtRank 91 = .ok (.iinc 7 1, 3) := by decide +kernel
theorem dX2_caseAtRank_94 : decode cX2_caseAtRank 94 = .ok (.goto (-49), 3) := by decide +kernel
theorem dX2_caseAtRank_97 : decode cX2_caseAtRank 97 = .ok (.iinc 6 1, 3) := by decide +kernel
theorem dX2_caseAtRank_100 : decode cX2_caseAtRank 100 = .ok (.goto (-65), 3) := by decide +kernel
theorem dX2_caseAtRank_103 : decode cX2_caseAtRank 103 = .ok (.aload_n 0, 1) := by decide +kernel
theorem dX2_caseAtRank_104 : decode cX2_caseAtRank 104 = .ok (.getfield 18, 3) := by decide +kernel
theorem dX2_caseAtRank_107 : decode cX2_caseAtRank 107 = .ok (.iload_n 2, 1) := by decide +kernel
theorem dX2_caseAtRank_108 : decode cX2_caseAtRank 108 = .ok (.iaload, 1) := by decide +kernel
theorem dX2_caseAtRank_109 : decode cX2_caseAtRank 109 = .ok (.ireturn, 1) := by decide +kernel
theorem dX2_putOnTop_0 : decode cX2_putOnTop 0 = .ok (.iload_n 3, 1) := by decide +kernel
theorem dX2_putOnTop_1 : decode cX2_putOnTop 1 = .ok (.istore 4, 2) := by decide +kernel
theorem dX2_putOnTop_3 : decode cX2_putOnTop 3 = .ok (.iload 4, 2) := by decide +kernel
theorem dX2_putOnTop_5 : decode cX2_putOnTop 5 = .ok (.ifCond .le 54, 3) := by decide +kernel
theorem dX2_putOnTop_8 : decode cX2_putOnTop 8 = .ok (.aload_n 0, 1) := by decide +kernel
theorem dX2_putOnTop_9 : decode cX2_putOnTop 9 = .ok (.getfield 21, 3) := by decide +kernel
theorem dX2_putOnTop_12 : decode cX2_putOnTop 12 = .ok (.iload 4, 2) := by decide +kernel
theorem dX2_putOnTop_14 : decode cX2_putOnTop 14 = .ok (.iconst 1, 1) := by decide +kernel
theorem dX2_putOnTop_15 : decode cX2_putOnTop 15 = .ok (.isub, 1) := by decide +kernel
theorem dX2_putOnTop_16 : decode cX2_putOnTop 16 = .ok (.iaload, 1) := by decide +kernel
theorem dX2_putOnTop_17 : decode cX2_putOnTop 17 = .ok (.iload_n 2, 1) := by decide +kernel
theorem dX2_putOnTop_18 : decode cX2_putOnTop 18 = .ok (.if_icmp .ge 41, 3) := by decide +kernel
theorem dX2_putOnTop_21 : decode cX2_putOnTop 21 = .ok (.aload_n 0, 1) := by decide +kernel
theorem dX2_putOnTop_22 : decode cX2_putOnTop 22 = .ok (.getfield 21, 3) := by decide +kernel
theorem dX2_putOnTop_25 : decode cX2_putOnTop 25 = .ok (.iload 4, 2) := by decide +kernel
theorem dX2_putOnTop_27 : decode cX2_putOnTop 27 = .ok (.aload_n 0, 1) := by decide +kernel
theorem dX2_putOnTop_28 : decode cX2_putOnTop 28 = .ok (.getfield 21, 3) := by decide +kernel
theorem dX2_putOnTop_31 : decode cX2_putOnTop 31 = .ok (.iload 4, 2) := by decide +kernel
theorem dX2_putOnTop_33 : decode cX2_putOnTop 33 = .ok (.iconst 1, 1) := by decide +kernel
theorem dX2_putOnTop_34 : decode cX2_putOnTop 34 = .ok (.isub, 1) := by decide +kernel
theorem dX2_putOnTop_35 : decode cX2_putOnTop 35 = .ok (.iaload, 1) := by decide +kernel
theorem dX2_putOnTop_36 : decode cX2_putOnTop 36 = .ok (.iastore, 1) := by decide +kernel
theorem dX2_putOnTop_37 : decode cX2_putOnTop 37 = .ok (.aload_n 0, 1) := by decide +kernel
theorem dX2_putOnTop_38 : decode cX2_putOnTop 38 = .ok (.getfield 18, 3) := by decide +kernel
theorem dX2_putOnTop_41 : decode cX2_putOnTop 41 = .ok (.iload 4, 2) := by decide +kernel
theorem dX2_putOnTop_43 : decode cX2_putOnTop 43 = .ok (.aload_n 0, 1) := by decide +kernel
theorem dX2_putOnTop_44 : decode cX2_putOnTop 44 = .ok (.getfield 18, 3) := by decide +kernel
theorem dX2_putOnTop_47 : decode cX2_putOnTop 47 = .ok (.iload 4, 2) := by decide +kernel
theorem dX2_putOnTop_49 : decode cX2_putOnTop 49 = .ok (.iconst 1, 1) := by decide +kernel
theorem dX2_putOnTop_50 : decode cX2_putOnTop 50 = .ok (.isub, 1) := by decide +kernel
theorem dX2_putOnTop_51 : decode cX2_putOnTop 51 = .ok (.iaload, 1) := by decide +kernel
theorem dX2_putOnTop_52 : decode cX2_putOnTop 52 = .ok (.iastore, 1) := by decide +kernel
theorem dX2_putOnTop_53 : decode cX2_putOnTop 53 = .ok (.iinc 4 (-1), 3) := by decide +kernel
theorem dX2_putOnTop_56 : decode cX2_putOnTop 56 = .ok (.goto (-53), 3) := by decide +kernel
theorem dX2_putOnTop_59 : decode cX2_putOnTop 59 = .ok (.aload_n 0, 1) := by decide +kernel
theorem dX2_putOnTop_60 : decode cX2_putOnTop 60 = .ok (.getfield 21, 3) := by decide +kernel
theorem dX2_putOnTop_63 : decode cX2_putOnTop 63 = .ok (.iload 4, 2) := by decide +kernel
theorem dX2_putOnTop_65 : decode cX2_putOnTop 65 = .ok (.iload_n 2, 1) := by decide +kernel
theorem dX2_putOnTop_66 : decode cX2_putOnTop 66 = .ok (.iastore, 1) := by decide +kernel
theorem dX2_putOnTop_67 : decode cX2_putOnTop 67 = .ok (.aload_n 0, 1) := by decide +kernel
theorem dX2_putOnTop_68 : decode cX2_putOnTop 68 = .ok (.getfield 18, 3) := by decide +kernel
theorem dX2_putOnTop_71 : decode cX2_putOnTop 71 = .ok (.iload 4, 2) := by decide +kernel
theorem dX2_putOnTop_73 : decode cX2_putOnTop 73 = .ok (.iload_n 1, 1) := by decide +kernel
theorem dX2_putOnTop_74 : decode cX2_putOnTop 74 = .ok (.iastore, 1) := by decide +kernel
theorem dX2_putOnTop_75 : decode cX2_putOnTop 75 = .ok (.return_, 1) := by decide +kernel
set_option maxRecDepth 20000 in
theorem ggX10_ranked_X2_caseAtRank : GoodIn wsX10_ranked wsX2_caseAtRank := goodIn_r _ [6, 7, 8, 9, 10, 11, 12, 13, 4, 14, 15, 16, 17, 18, 19, 20, 21, 22, 23, 24, 25, 26, 27, 28, 29, 30, 31, 32, 33, 34, 35, 36, 37, 38, 39, 40, 41, 42, 43, 44, 45, 46, 47, 48, 49, 50, 51, 52, 53, 63, 64, 65, 66, 67, 68, 69, 70, 71, 72, 73, 74, 75, 76, 77, 78, 79, 80, 81, 82, 83, 84, 85, 86, 87] (by decide +kernel) (by decide +kernel)
set_option maxRecDepth 20000 in
theorem gX10_ranked_X2_caseAtRank_n224 : GoodIn wsX10_ranked (wsX2_caseAtRank) := ggX10_ranked_X2_caseAtRank
theorem dX10_ranked_0 : decode cX10_ranked 0 = .ok (.iload_n 1, 1) := by decide +kernel
theorem dX10_ranked_1 : decode cX10_ranked 1 = .ok (.ifCond .lt 9, 3) := by decide +kernel
theorem dX10_ranked_4 : decode cX10_ranked 4 = .ok (.iload_n 1, 1) := by decide +kernel
theorem dX10_ranked_5 : decode cX10_ranked 5 = .ok (.bipush 20, 2) := by decide +kernel
theorem dX10_ranked_7 : decode cX10_ranked 7 = .ok (.if_icmp .lt 7, 3) := by decide +kernel
theorem dX10_ranked_10 : decode cX10_ranked 10 = .ok (.iconst (-1), 1) := by decide +kernel
theorem dX10_ranked_11 : decode cX10_ranked 11 = .ok (.goto 15, 3) := by decide +kernel
theorem dX10_ranked_14 : decode cX10_ranked 14 = .ok (.aload_n 0, 1) := by decide +kernel
theorem dX10_ranked_15 : decode cX10_ranked 15 = .ok (.getfield 63, 3) := by decide +kernel
theorem dX10_ranked_18 : decode cX10_ranked 18 = .ok (.aload_n 0, 1) := by decide +kernel
theorem dX10_ranked_19 : decode cX10_ranked 19 = .ok (.getfield 35, 3) := by decide +kernel
theorem dX10_ranked_22 : decode cX10_ranked 22 = .ok (.iload_n 1, 1) := by decide +kernel
theorem dX10_ranked_23 : decode cX10_ranked 23 = .ok (.invokevirtual 224, 3) := by decide +kernel
theorem dX10_ranked_26 : decode cX10_ranked 26 = .ok (.ireturn, 1) := by decide +kernel
set_option maxHeartbeats 4000000 in
set_option maxRecDepth 100000 in
theorem k_putOnTop (l : Launch) (dC : Nat → ClassId) (dI : Nat → Nat → Nat) (cB cI cJ cZ cS : ClassId) (q_outlook : Nat) (q_topGuesses : Nat) (q_topOdds : Nat) (u_outlook_0 : Value) (u_outlook_1 : Value) (u_outlook_2 : Value) (u_outlook_3 : Value) (f_topOdds : Nat → Int32) (f_topGuesses : Nat → Int32) (r0 : Nat) (hr0 : r0 < 20) (hto : ∀ j, j < 20 → f_topOdds j = 0) (htg : ∀ j, j < 20 → f_topGuesses j = -1) : CV l yX2_putOnTop wsX2_putOnTop ({ frames := 0, cells := 0, slots := 0, locals := 0 }) (dC, dI) (tysA cB cI cJ cZ cS) [(q_outlook, .inr (2, [u_outlook_0, u_outlook_1, u_outlook_2, u_outlook_3, .ref q_topGuesses, .ref q_topOdds])), (q_topOdds, .inl (cI, 20, .inl f_topOdds)), (q_topGuesses, .inl (cI, 20, .inl f_topGuesses))] [.ref q_outlook, .int 0, .int 1, .int (nI r0)] (fun w => w = [(q_outlook, .inr (2, [u_outlook_0, u_outlook_1, u_outlook_2, u_outlook_3, .ref q_topGuesses, .ref q_topOdds])), (q_topOdds, .inl (cI, 20, .inl (upd f_topOdds 0 1))), (q_topGuesses, .inl (cI, 20, .inl (upd f_topGuesses 0 0)))]) := by
  refine open_V (cc := cX2_putOnTop) (maxL := 5) (ret := none) (by decide) rfl (Nat.le_of_ble_eq_true rfl) ?_
  intro p e s m below meth c A ls E
  obtain ⟨C, hr, hlocks, hnm, hA, hP, hK, hD, hN, hl⟩ := E
  obtain ⟨hx, hb, hml, hown, hts⟩ := id C
  have hS : va_S A s.heap s.heap [] := va_S.rf
  have hl : lv_has ls 5 [(0, .ref q_outlook), (1, .int 0), (2, .int 1), (3, .int (nI r0))] := hl
  have inX2 : ∀ w ∈ u_ws RX2 TX2 6, w ∈ wsX2_putOnTop := fun _ h => List.mem_cons_of_mem _ (List.mem_append_right _ h)
  have L18 : Cond.fieldLink RX2 18 "GuessFerry$Outlook" "topGuesses" "[I" ∈ wsX2_putOnTop := by decide +kernel
  have L21 : Cond.fieldLink RX2 21 "GuessFerry$Outlook" "topOdds" "[I" ∈ wsX2_putOnTop := by decide +kernel
  refine lv_iload_n hx hb dX2_putOnTop_0 rfl (lv_at hl 3 rfl) ?_
  refine lv_istore (lv' := [(4, .int (nI r0)), (0, .ref q_outlook), (1, .int 0), (2, .int 1), (3, .int (nI r0))]) hx hb dX2_putOnTop_1 hl (by decide) rfl (fun ls hl => ?_)
  have loop : ∀ (k : Nat), k < 20 → ∀ (H : Heap) (locs : List Loc) (ls : Array Slot), va_P (dC, dI) vwCl [(q_outlook, .inr (2, [u_outlook_0, u_outlook_1, u_outlook_2, u_outlook_3, .ref q_topGuesses, .ref q_topOdds])), (q_topOdds, .inl (cI, 20, .inl f_topOdds)), (q_topGuesses, .inl (cI, 20, .inl f_topGuesses))] H → va_D A [(q_outlook, .inr (2, [u_outlook_0, u_outlook_1, u_outlook_2, u_outlook_3, .ref q_topGuesses, .ref q_topOdds])), (q_topOdds, .inl (cI, 20, .inl f_topOdds)), (q_topGuesses, .inl (cI, 20, .inl f_topGuesses))] → va_S A s.heap H locs → lv_has ls 5 [(4, .int (nI k)), (0, .ref q_outlook), (1, .int 0), (2, .int 1), (3, .int (nI r0))] → W p l e ({ frames := 0, cells := 0, slots := 0, locals := 0 }) s m [Value.ref q_outlook, Value.int 0, Value.int 1, Value.int (nI r0)].toArray below meth c H locs 0 0 (MQ below (va_Qv (fun w => w = [(q_outlook, .inr (2, [u_outlook_0, u_outlook_1, u_outlook_2, u_outlook_3, .ref q_topGuesses, .ref q_topOdds])), (q_topOdds, .inl (cI, 20, .inl (upd f_topOdds 0 1))), (q_topGuesses, .inl (cI, 20, .inl (upd f_topGuesses 0 0)))]) (at_W (dC, dI) (tysA cB cI cJ cZ cS) A) A) [Value.ref q_outlook, Value.int 0, Value.int 1, Value.int (nI r0)].toArray s 0 0 A) (F0 m 3 ls []) := by
    intro k
    induction k with
    | zero =>
      intro hk H locs ls hP hD hS hl
      refine lv_iload hx hb dX2_putOnTop_3 (lv_at hl 0 rfl) ?_
      refine lv_if_le (tgt := 59) hx hb dX2_putOnTop_5 (by decide) (fun _ => ?_) (fun h => absurd (by decide +kernel) h)
      refine lv_aload_n hx hb dX2_putOnTop_59 rfl (lv_at hl 1 rfl) ?_
      refine q_get (v := .ref q_topOdds) C inX2 hK hP 0 rfl rfl 5 (by decide) rfl L21 rfl dX2_putOnTop_60 ?_
      refine lv_iload hx hb dX2_putOnTop_63 (lv_at hl 0 rfl) ?_
      refine lv_iload_n hx hb dX2_putOnTop_65 rfl (lv_at hl 3 rfl) ?_
      refine q_iast (f2 := (upd f_topOdds 0 1)) (w2 := [(q_outlook, .inr (2, [u_outlook_0, u_outlook_1, u_outlook_2, u_outlook_3, .ref q_topGuesses, .ref q_topOdds])), (q_topOdds, .inl (cI, 20, .inl (upd f_topOdds 0 1))), (q_topGuesses, .inl (cI, 20, .inl f_topGuesses))]) C hK hP hD hS 1 1 rfl rfl (vp_lit (by decide +kernel)) dX2_putOnTop_66 rfl rfl (fun H locs hP hD hS => ?_)
      refine lv_aload_n hx hb dX2_putOnTop_67 rfl (lv_at hl 1 rfl) ?_
      refine q_get (v := .ref q_topGuesses) C inX2 hK hP 0 rfl rfl 4 (by decide) rfl L18 rfl dX2_putOnTop_68 ?_
      refine lv_iload hx hb dX2_putOnTop_71 (lv_at hl 0 rfl) ?_
      refine lv_iload_n hx hb dX2_putOnTop_73 rfl (lv_at hl 2 rfl) ?_
      refine q_iast (f2 := (upd f_topGuesses 0 0)) (w2 := [(q_outlook, .inr (2, [u_outlook_0, u_outlook_1, u_outlook_2, u_outlook_3, .ref q_topGuesses, .ref q_topOdds])), (q_topOdds, .inl (cI, 20, .inl (upd f_topOdds 0 1))), (q_topGuesses, .inl (cI, 20, .inl (upd f_topGuesses 0 0)))]) C hK hP hD hS 2 1 rfl rfl (vp_lit (by decide +kernel)) dX2_putOnTop_74 rfl rfl (fun H locs hP hD hS => ?_)
      exact q_vret C hr hlocks hK hP hD hS (Nat.le_of_ble_eq_true rfl) (Nat.le_of_ble_eq_true rfl) dX2_putOnTop_75 (rfl)
    | succ k ih =>
      intro hk H locs ls hP hD hS hl
      refine lv_iload hx hb dX2_putOnTop_3 (lv_at hl 0 rfl) ?_
      refine lv_if_le (tgt := 59) hx hb dX2_putOnTop_5 (by decide) (fun h => absurd h (nI_nle (by omega) (by omega))) (fun _ => ?_)
      refine lv_aload_n hx hb dX2_putOnTop_8 rfl (lv_at hl 1 rfl) ?_
      refine q_get (v := .ref q_topOdds) C inX2 hK hP 0 rfl rfl 5 (by decide) rfl L21 rfl dX2_putOnTop_9 ?_
      refine lv_iload hx hb dX2_putOnTop_12 (lv_at hl 0 rfl) ?_
      refine lv_iconst (v := 1) hx hb dX2_putOnTop_14 (by decide) ?_
      refine lv_isub hx hb dX2_putOnTop_15 ?_
      refine q_top (y := (nI k)) (nI_pred k) ?_
      refine q_iald (x := 0) C hK hP 1 1 rfl rfl (vp_in_nI (by omega) (by omega)) dX2_putOnTop_16 (by rw [nI_clamp (by omega)]; exact hto _ (by omega)) ?_
      refine lv_iload_n hx hb dX2_putOnTop_17 rfl (lv_at hl 3 rfl) ?_
      refine lv_icmp_ge (tgt := 59) hx hb dX2_putOnTop_18 (by decide) (fun h => absurd h (by decide +kernel)) (fun _ => ?_)
      refine lv_aload_n hx hb dX2_putOnTop_21 rfl (lv_at hl 1 rfl) ?_
      refine q_get (v := .ref q_topOdds) C inX2 hK hP 0 rfl rfl 5 (by decide) rfl L21 rfl dX2_putOnTop_22 ?_
      refine lv_iload hx hb dX2_putOnTop_25 (lv_at hl 0 rfl) ?_
      refine lv_aload_n hx hb dX2_putOnTop_27 rfl (lv_at hl 1 rfl) ?_
      refine q_get (v := .ref q_topOdds) C inX2 hK hP 0 rfl rfl 5 (by decide) rfl L21 rfl dX2_putOnTop_28 ?_
      refine lv_iload hx hb dX2_putOnTop_31 (lv_at hl 0 rfl) ?_
      refine lv_iconst (v := 1) hx hb dX2_putOnTop_33 (by decide) ?_
      refine lv_isub hx hb dX2_putOnTop_34 ?_
      refine q_top (y := (nI k)) (nI_pred k) ?_
      refine q_iald (x := 0) C hK hP 1 1 rfl rfl (vp_in_nI (by omega) (by omega)) dX2_putOnTop_35 (by rw [nI_clamp (by omega)]; exact hto _ (by omega)) ?_
      refine q_iastS C hK hP hD hS 1 1 rfl rfl (vp_in_nI (by omega) (by omega)) dX2_putOnTop_36 (by rw [nI_clamp (by omega)]; exact hto _ (by omega)) (fun H locs hP hD hS => ?_)
      refine lv_aload_n hx hb dX2_putOnTop_37 rfl (lv_at hl 1 rfl) ?_
      refine q_get (v := .ref q_topGuesses) C inX2 hK hP 0 rfl rfl 4 (by decide) rfl L18 rfl dX2_putOnTop_38 ?_
      refine lv_iload hx hb dX2_putOnTop_41 (lv_at hl 0 rfl) ?_
      refine lv_aload_n hx hb dX2_putOnTop_43 rfl (lv_at hl 1 rfl) ?_
      refine q_get (v := .ref q_topGuesses) C inX2 hK hP 0 rfl rfl 4 (by decide) rfl L18 rfl dX2_putOnTop_44 ?_
      refine lv_iload hx hb dX2_putOnTop_47 (lv_at hl 0 rfl) ?_
      refine lv_iconst (v := 1) hx hb dX2_putOnTop_49 (by decide) ?_
      refine lv_isub hx hb dX2_putOnTop_50 ?_
      refine q_top (y := (nI k)) (nI_pred k) ?_
      refine q_iald (x := (-1)) C hK hP 2 1 rfl rfl (vp_in_nI (by omega) (by omega)) dX2_putOnTop_51 (by rw [nI_clamp (by omega)]; exact htg _ (by omega)) ?_
      refine q_iastS C hK hP hD hS 2 1 rfl rfl (vp_in_nI (by omega) (by omega)) dX2_putOnTop_52 (by rw [nI_clamp (by omega)]; exact htg _ (by omega)) (fun H locs hP hD hS => ?_)
      refine lv_iinc (v := (nI k)) (lv' := [(4, .int (nI k)), (0, .ref q_outlook), (1, .int 0), (2, .int 1), (3, .int (nI r0))]) hx hb dX2_putOnTop_53 hl (k := 0) rfl (nI_dec k) (by decide) rfl (fun ls hl => ?_)
      refine lv_goto (tgt := 3) hx hb dX2_putOnTop_56 (by decide) ?_
      exact ih (by omega) H locs ls hP hD hS (lv_sub hl [0, 1, 2, 3, 4] rfl)
  exact loop r0 hr0 _ _ ls hP hD hS (lv_sub hl [0, 1, 2, 3, 4] rfl)

set_option maxHeartbeats 4000000 in
set_option maxRecDepth 100000 in
theorem k_X2_caseAtRank (l : Launch) (dC : Nat → ClassId) (dI : Nat → Nat → Nat) (cB cI cJ cZ cS : ClassId) (q_sound : Nat) (q_now : Nat) (q_outlook : Nat) (q_near : Nat) (q_far : Nat) (q_topGuesses : Nat) (q_topOdds : Nat) (u_outlook_1 : Value) (u_sound_0 : Value) (u_sound_1 : Value) (u_sound_2 : Value) (u_sound_3 : Value) (u_sound_4 : Value) (u_sound_5 : Value) (u_sound_7 : Value) (u_sound_8 : Value) (u_sound_9 : Value) (f_near : Nat → Int32) (f_far : Nat → Int32) (f_topOdds : Nat → Int32) (f_topGuesses : Nat → Int32) (r0 : Nat) (hr0 : r0 < 20) : CI l yX2_caseAtRank wsX2_caseAtRank ({ frames := 2, cells := 0, slots := 0, locals := 50 }) (dC, dI) (tysA cB cI cJ cZ cS) [(q_outlook, .inr (2, [.ref q_sound, u_outlook_1, .ref q_near, .ref q_far, .ref q_topGuesses, .ref q_topOdds])), (q_sound, .inr (5, [u_sound_0, u_sound_1, u_sound_2, u_sound_3, u_sound_4, u_sound_5, .int 0, u_sound_7, u_sound_8, u_sound_9])), (q_near, .inl (cI, 216, .inl f_near)), (q_far, .inl (cI, 36, .inl f_far)), (q_topOdds, .inl (cI, 20, .inl f_topOdds)), (q_topGuesses, .inl (cI, 20, .inl f_topGuesses))] [.ref q_outlook, .ref q_now, .int (nI r0)] (fun r _ => r = (fr_ranked (nI r0))) := by
  refine open_I (cc := cX2_caseAtRank) (maxL := 9) (ret := (some .int)) (by decide) rfl (Nat.le_of_ble_eq_true rfl) ?_
  intro p e s m below meth c A ls E
  obtain ⟨C, hr, hlocks, hnm, hA, hP, hK, hD, hN, hl⟩ := E
  obtain ⟨hx, hb, hml, hown, hts⟩ := id C
  have hS : va_S A s.heap s.heap [] := va_S.rf
  have hl : lv_has ls 9 [(0, .ref q_outlook), (1, .ref q_now), (2, .int (nI r0))] := hl
  have inX2 : ∀ w ∈ u_ws RX2 TX2 6, w ∈ wsX2_caseAtRank := by decide +kernel
  have L15 : Cond.fieldLink RX2 15 "GuessFerry$Outlook" "far" "[I" ∈ wsX2_caseAtRank := by decide +kernel
  have L18 : Cond.fieldLink RX2 18 "GuessFerry$Outlook" "topGuesses" "[I" ∈ wsX2_caseAtRank := by decide +kernel
  have L21 : Cond.fieldLink RX2 21 "GuessFerry$Outlook" "topOdds" "[I" ∈ wsX2_caseAtRank := by decide +kernel
  have L9 : Cond.fieldLink RX2 9 "GuessFerry$Outlook" "near" "[I" ∈ wsX2_caseAtRank := by decide +kernel
  refine lv_aload_n hx hb dX2_caseAtRank_0 rfl (lv_at hl 0 rfl) ?_
  refine lv_aload_n hx hb dX2_caseAtRank_1 rfl (lv_at hl 1 rfl) ?_
  refine q_goi (wr := [(q_far, .inl (cI, 36, .inl f_far)), (q_topOdds, .inl (cI, 20, .inl f_topOdds)), (q_topGuesses, .inl (cI, 20, .inl f_topGuesses))]) (va_runV (As := [.ref q_now]) (rest := []) C (k_X2_fillNear l dC dI cB cI cJ cZ cS (q_sound) (q_now) (q_outlook) (q_near) (u_outlook_1) (.ref q_far) (.ref q_topGuesses) (.ref q_topOdds) (u_sound_0) (u_sound_1) (u_sound_2) (u_sound_3) (u_sound_4) (u_sound_5) (u_sound_7) (u_sound_8) (u_sound_9) (f_near) _) (cwV 1 hts gX2_caseAtRank_X2_fillNear rfl rfl rfl (by decide +kernel) ⟨Nat.le_of_ble_eq_true rfl, Nat.le_of_ble_eq_true rfl⟩) (q_preV hK hP (ci := 2) (q0 := 0) rfl rfl rfl (q_pre hN hK hP hD [0, 1, 2] rfl (by decide))) rfl rfl hl.1 rfl (lv_room (Nat.le_of_ble_eq_true rfl)) dX2_caseAtRank_2 ⟨Nat.le_of_ble_eq_true rfl, Nat.le_of_ble_eq_true rfl⟩) hP hD hS hA [0, 1, 2] [3, 4, 5] rfl rfl (by decide) (by decide) (fun r w1 H locs hw hP hD hS => ?_)
  obtain ⟨rfl, rfl⟩ := hw
  have hP : va_P (dC, dI) vwCl [(q_outlook, .inr (2, [.ref q_sound, u_outlook_1, .ref q_near, .ref q_far, .ref q_topGuesses, .ref q_topOdds])), (q_sound, .inr (5, [u_sound_0, u_sound_1, u_sound_2, u_sound_3, u_sound_4, u_sound_5, .int 0, u_sound_7, u_sound_8, u_sound_9])), (q_near, .inl (cI, 216, .inl (upd f_near 0 1))), (q_far, .inl (cI, 36, .inl f_far)), (q_topOdds, .inl (cI, 20, .inl f_topOdds)), (q_topGuesses, .inl (cI, 20, .inl f_topGuesses))] H := hP.sub [3, 4, 5, 0, 1, 2] rfl
  have hD : va_D A [(q_outlook, .inr (2, [.ref q_sound, u_outlook_1, .ref q_near, .ref q_far, .ref q_topGuesses, .ref q_topOdds])), (q_sound, .inr (5, [u_sound_0, u_sound_1, u_sound_2, u_sound_3, u_sound_4, u_sound_5, .int 0, u_sound_7, u_sound_8, u_sound_9])), (q_near, .inl (cI, 216, .inl (upd f_near 0 1))), (q_far, .inl (cI, 36, .inl f_far)), (q_topOdds, .inl (cI, 20, .inl f_topOdds)), (q_topGuesses, .inl (cI, 20, .inl f_topGuesses))] := hD.sub [3, 4, 5, 0, 1, 2] (by decide) rfl
  refine lv_istore_n (lv' := [(3, .int 1), (0, .ref q_outlook), (1, .ref q_now), (2, .int (nI r0))]) hx hb dX2_caseAtRank_5 rfl hl (by decide) rfl (fun ls hl => ?_)
  refine lv_aload_n hx hb dX2_caseAtRank_6 rfl (lv_at hl 1 rfl) ?_
  refine lv_aload_n hx hb dX2_caseAtRank_7 rfl (lv_at hl 2 rfl) ?_
  refine q_goi (wr := [(q_near, .inl (cI, 216, .inl (upd f_near 0 1))), (q_topOdds, .inl (cI, 20, .inl f_topOdds)), (q_topGuesses, .inl (cI, 20, .inl f_topGuesses))]) (va_runV (As := [.ref q_now]) (rest := []) C (k_X2_fillFar l dC dI cB cI cJ cZ cS (q_sound) (q_now) (q_outlook) (q_far) (u_outlook_1) (.ref q_near) (.ref q_topGuesses) (.ref q_topOdds) (u_sound_0) (u_sound_1) (u_sound_2) (u_sound_3) (u_sound_4) (u_sound_5) (u_sound_7) (u_sound_8) (u_sound_9) (f_far) _) (cwV 1 hts gX2_caseAtRank_X2_fillFar rfl rfl rfl (by decide +kernel) ⟨Nat.le_of_ble_eq_true rfl, Nat.le_of_ble_eq_true rfl⟩) (q_preV hK hP (ci := 2) (q0 := 0) rfl rfl rfl (q_pre hN hK hP hD [0, 1, 3] rfl (by decide))) rfl rfl hl.1 rfl (lv_room (Nat.le_of_ble_eq_true rfl)) dX2_caseAtRank_8 ⟨Nat.le_of_ble_eq_true rfl, Nat.le_of_ble_eq_true rfl⟩) hP hD hS hA [0, 1, 3] [2, 4, 5] rfl rfl (by decide) (by decide) (fun r w1 H locs hw hP hD hS => ?_)
  obtain ⟨rfl, rfl⟩ := hw
  have hP : va_P (dC, dI) vwCl [(q_outlook, .inr (2, [.ref q_sound, u_outlook_1, .ref q_near, .ref q_far, .ref q_topGuesses, .ref q_topOdds])), (q_sound, .inr (5, [u_sound_0, u_sound_1, u_sound_2, u_sound_3, u_sound_4, u_sound_5, .int 0, u_sound_7, u_sound_8, u_sound_9])), (q_near, .inl (cI, 216, .inl (upd f_near 0 1))), (q_far, .inl (cI, 36, .inl (upd f_far 0 1))), (q_topOdds, .inl (cI, 20, .inl f_topOdds)), (q_topGuesses, .inl (cI, 20, .inl f_topGuesses))] H := hP.sub [3, 4, 0, 5, 1, 2] rfl
  have hD : va_D A [(q_outlook, .inr (2, [.ref q_sound, u_outlook_1, .ref q_near, .ref q_far, .ref q_topGuesses, .ref q_topOdds])), (q_sound, .inr (5, [u_sound_0, u_sound_1, u_sound_2, u_sound_3, u_sound_4, u_sound_5, .int 0, u_sound_7, u_sound_8, u_sound_9])), (q_near, .inl (cI, 216, .inl (upd f_near 0 1))), (q_far, .inl (cI, 36, .inl (upd f_far 0 1))), (q_topOdds, .inl (cI, 20, .inl f_topOdds)), (q_topGuesses, .inl (cI, 20, .inl f_topGuesses))] := hD.sub [3, 4, 0, 5, 1, 2] (by decide) rfl
  refine lv_istore (lv' := [(4, .int 1), (3, .int 1), (0, .ref q_outlook), (1, .ref q_now), (2, .int (nI r0))]) hx hb dX2_caseAtRank_11 hl (by decide) rfl (fun ls hl => ?_)
  refine lv_aload_n hx hb dX2_caseAtRank_13 rfl (lv_at hl 2 rfl) ?_
  refine q_get (v := .ref q_topOdds) C inX2 hK hP 0 rfl rfl 5 (by decide) rfl L21 rfl dX2_caseAtRank_14 ?_
  refine lv_iconst (v := 0) hx hb dX2_caseAtRank_17 (by decide) ?_
  refine q_gov (wr := [(q_outlook, .inr (2, [.ref q_sound, u_outlook_1, .ref q_near, .ref q_far, .ref q_topGuesses, .ref q_topOdds])), (q_sound, .inr (5, [u_sound_0, u_sound_1, u_sound_2, u_sound_3, u_sound_4, u_sound_5, .int 0, u_sound_7, u_sound_8, u_sound_9])), (q_near, .inl (cI, 216, .inl (upd f_near 0 1))), (q_far, .inl (cI, 36, .inl (upd f_far 0 1))), (q_topGuesses, .inl (cI, 20, .inl f_topGuesses))]) (va_runS (As := [.ref q_topOdds, .int 0]) (rest := []) C (k_fill20 l dC dI cB cI cJ cZ cS (q_topOdds) (f_topOdds) 0 _) (va_cwS 2 hts gX2_caseAtRank_J7_fill_53178 rfl rfl rfl (by decide +kernel) ⟨Nat.le_of_ble_eq_true rfl, Nat.le_of_ble_eq_true rfl⟩) (q_pre hN hK hP hD [4] rfl (by decide)) rfl rfl hl.1 rfl (lv_room (Nat.le_of_ble_eq_true rfl)) dX2_caseAtRank_18 ⟨Nat.le_of_ble_eq_true rfl, Nat.le_of_ble_eq_true rfl⟩) hP hD hS hA [4] [0, 1, 2, 3, 5] rfl rfl (by decide) (by decide) (fun w1 H locs hw hP hD hS => ?_)
  obtain ⟨φf1, hφf2, rfl⟩ := hw
  have hP : va_P (dC, dI) vwCl [(q_outlook, .inr (2, [.ref q_sound, u_outlook_1, .ref q_near, .ref q_far, .ref q_topGuesses, .ref q_topOdds])), (q_sound, .inr (5, [u_sound_0, u_sound_1, u_sound_2, u_sound_3, u_sound_4, u_sound_5, .int 0, u_sound_7, u_sound_8, u_sound_9])), (q_near, .inl (cI, 216, .inl (upd f_near 0 1))), (q_far, .inl (cI, 36, .inl (upd f_far 0 1))), (q_topOdds, .inl (cI, 20, .inl φf1)), (q_topGuesses, .inl (cI, 20, .inl f_topGuesses))] H := hP.sub [0, 1, 2, 3, 5, 4] rfl
  have hD : va_D A [(q_outlook, .inr (2, [.ref q_sound, u_outlook_1, .ref q_near, .ref q_far, .ref q_topGuesses, .ref q_topOdds])), (q_sound, .inr (5, [u_sound_0, u_sound_1, u_sound_2, u_sound_3, u_sound_4, u_sound_5, .int 0, u_sound_7, u_sound_8, u_sound_9])), (q_near, .inl (cI, 216, .inl (upd f_near 0 1))), (q_far, .inl (cI, 36, .inl (upd f_far 0 1))), (q_topOdds, .inl (cI, 20, .inl φf1)), (q_topGuesses, .inl (cI, 20, .inl f_topGuesses))] := hD.sub [0, 1, 2, 3, 5, 4] (by decide) rfl
  refine lv_aload_n hx hb dX2_caseAtRank_21 rfl (lv_at hl 2 rfl) ?_
  refine q_get (v := .ref q_topGuesses) C inX2 hK hP 0 rfl rfl 4 (by decide) rfl L18 rfl dX2_caseAtRank_22 ?_
  refine lv_iconst (v := (-1)) hx hb dX2_caseAtRank_25 (by decide) ?_
  refine q_gov (wr := [(q_outlook, .inr (2, [.ref q_sound, u_outlook_1, .ref q_near, .ref q_far, .ref q_topGuesses, .ref q_topOdds])), (q_sound, .inr (5, [u_sound_0, u_sound_1, u_sound_2, u_sound_3, u_sound_4, u_sound_5, .int 0, u_sound_7, u_sound_8, u_sound_9])), (q_near, .inl (cI, 216, .inl (upd f_near 0 1))), (q_far, .inl (cI, 36, .inl (upd f_far 0 1))), (q_topOdds, .inl (cI, 20, .inl φf1))]) (va_runS (As := [.ref q_topGuesses, .int (-1)]) (rest := []) C (k_fill20 l dC dI cB cI cJ cZ cS (q_topGuesses) (f_topGuesses) (-1) _) (va_cwS 2 hts gX2_caseAtRank_J7_fill_53178 rfl rfl rfl (by decide +kernel) ⟨Nat.le_of_ble_eq_true rfl, Nat.le_of_ble_eq_true rfl⟩) (q_pre hN hK hP hD [5] rfl (by decide)) rfl rfl hl.1 rfl (lv_room (Nat.le_of_ble_eq_true rfl)) dX2_caseAtRank_26 ⟨Nat.le_of_ble_eq_true rfl, Nat.le_of_ble_eq_true rfl⟩) hP hD hS hA [5] [0, 1, 2, 3, 4] rfl rfl (by decide) (by decide) (fun w1 H locs hw hP hD hS => ?_)
  obtain ⟨φf3, hφf4, rfl⟩ := hw
  have hP : va_P (dC, dI) vwCl [(q_outlook, .inr (2, [.ref q_sound, u_outlook_1, .ref q_near, .ref q_far, .ref q_topGuesses, .ref q_topOdds])), (q_sound, .inr (5, [u_sound_0, u_sound_1, u_sound_2, u_sound_3, u_sound_4, u_sound_5, .int 0, u_sound_7, u_sound_8, u_sound_9])), (q_near, .inl (cI, 216, .inl (upd f_near 0 1))), (q_far, .inl (cI, 36, .inl (upd f_far 0 1))), (q_topOdds, .inl (cI, 20, .inl φf1)), (q_topGuesses, .inl (cI, 20, .inl φf3))] H := hP.sub [0, 1, 2, 3, 4, 5] rfl
  have hD : va_D A [(q_outlook, .inr (2, [.ref q_sound, u_outlook_1, .ref q_near, .ref q_far, .ref q_topGuesses, .ref q_topOdds])), (q_sound, .inr (5, [u_sound_0, u_sound_1, u_sound_2, u_sound_3, u_sound_4, u_sound_5, .int 0, u_sound_7, u_sound_8, u_sound_9])), (q_near, .inl (cI, 216, .inl (upd f_near 0 1))), (q_far, .inl (cI, 36, .inl (upd f_far 0 1))), (q_topOdds, .inl (cI, 20, .inl φf1)), (q_topGuesses, .inl (cI, 20, .inl φf3))] := hD.sub [0, 1, 2, 3, 4, 5] (by decide) rfl
  refine lv_iconst (v := 0) hx hb dX2_caseAtRank_29 (by decide) ?_
  refine lv_istore (lv' := [(5, .int 0), (4, .int 1), (3, .int 1), (0, .ref q_outlook), (1, .ref q_now), (2, .int (nI r0))]) hx hb dX2_caseAtRank_30 hl (by decide) rfl (fun ls hl => ?_)
  refine lv_iconst (v := 0) hx hb dX2_caseAtRank_32 (by decide) ?_
  refine lv_istore (lv' := [(6, .int 0), (5, .int 0), (4, .int 1), (3, .int 1), (0, .ref q_outlook), (1, .ref q_now), (2, .int (nI r0))]) hx hb dX2_caseAtRank_33 hl (by decide) rfl (fun ls hl => ?_)
  refine lv_iload hx hb dX2_caseAtRank_35 (lv_at hl 0 rfl) ?_
  refine lv_iload hx hb dX2_caseAtRank_37 (lv_at hl 2 rfl) ?_
  refine lv_icmp_ge (tgt := 103) hx hb dX2_caseAtRank_39 (by decide) (fun h => absurd h (by decide +kernel)) (fun _ => ?_)
  refine lv_iconst (v := 0) hx hb dX2_caseAtRank_42 (by decide) ?_
  refine lv_istore (lv' := [(7, .int 0), (6, .int 0), (5, .int 0), (4, .int 1), (3, .int 1), (0, .ref q_outlook), (1, .ref q_now), (2, .int (nI r0))]) hx hb dX2_caseAtRank_43 hl (by decide) rfl (fun ls hl => ?_)
  refine lv_iload hx hb dX2_caseAtRank_45 (lv_at hl 0 rfl) ?_
  refine lv_iload_n hx hb dX2_caseAtRank_47 rfl (lv_at hl 4 rfl) ?_
  refine lv_icmp_ge (tgt := 97) hx hb dX2_caseAtRank_48 (by decide) (fun h => absurd h (by decide +kernel)) (fun _ => ?_)
  refine lv_aload_n hx hb dX2_caseAtRank_51 rfl (lv_at hl 5 rfl) ?_
  refine q_get (v := .ref q_far) C inX2 hK hP 0 rfl rfl 3 (by decide) rfl L15 rfl dX2_caseAtRank_52 ?_
  refine lv_iload hx hb dX2_caseAtRank_55 (lv_at hl 1 rfl) ?_
  refine q_iald (x := 1) C hK hP 3 1 rfl rfl (vp_lit (by decide +kernel)) dX2_caseAtRank_57 (rfl) ?_
  refine lv_aload_n hx hb dX2_caseAtRank_58 rfl (lv_at hl 5 rfl) ?_
  refine q_get (v := .ref q_near) C inX2 hK hP 0 rfl rfl 2 (by decide) rfl L9 rfl dX2_caseAtRank_59 ?_
  refine lv_iload hx hb dX2_caseAtRank_62 (lv_at hl 0 rfl) ?_
  refine q_iald (x := 1) C hK hP 2 1 rfl rfl (vp_lit (by decide +kernel)) dX2_caseAtRank_64 (rfl) ?_
  refine lv_imul hx hb dX2_caseAtRank_65 ?_
  refine q_top (y := 1) (by decide +kernel) ?_
  refine lv_istore (lv' := [(8, .int 1), (7, .int 0), (6, .int 0), (5, .int 0), (4, .int 1), (3, .int 1), (0, .ref q_outlook), (1, .ref q_now), (2, .int (nI r0))]) hx hb dX2_caseAtRank_66 hl (by decide) rfl (fun ls hl => ?_)
  refine lv_iload hx hb dX2_caseAtRank_68 (lv_at hl 0 rfl) ?_
  refine lv_aload_n hx hb dX2_caseAtRank_70 rfl (lv_at hl 6 rfl) ?_
  refine q_get (v := .ref q_topOdds) C inX2 hK hP 0 rfl rfl 5 (by decide) rfl L21 rfl dX2_caseAtRank_71 ?_
  refine lv_iload_n hx hb dX2_caseAtRank_74 rfl (lv_at hl 8 rfl) ?_
  refine q_iald (x := 0) C hK hP 4 1 rfl rfl (vp_in_nI (by omega) (by omega)) dX2_caseAtRank_75 (by rw [nI_clamp (by omega)]; exact hφf2 _ (by omega)) ?_
  refine lv_icmp_le (tgt := 88) hx hb dX2_caseAtRank_76 (by decide) (fun h => absurd h (by decide +kernel)) (fun _ => ?_)
  refine lv_aload_n hx hb dX2_caseAtRank_79 rfl (lv_at hl 6 rfl) ?_
  refine lv_iload hx hb dX2_caseAtRank_80 (lv_at hl 3 rfl) ?_
  refine lv_iload hx hb dX2_caseAtRank_82 (lv_at hl 0 rfl) ?_
  refine lv_iload_n hx hb dX2_caseAtRank_84 rfl (lv_at hl 8 rfl) ?_
  refine q_gov (wr := [(q_sound, .inr (5, [u_sound_0, u_sound_1, u_sound_2, u_sound_3, u_sound_4, u_sound_5, .int 0, u_sound_7, u_sound_8, u_sound_9])), (q_near, .inl (cI, 216, .inl (upd f_near 0 1))), (q_far, .inl (cI, 36, .inl (upd f_far 0 1)))]) (va_runV (As := [.int 0, .int 1, .int (nI r0)]) (rest := []) C (k_putOnTop l dC dI cB cI cJ cZ cS (q_outlook) (q_topGuesses) (q_topOdds) (.ref q_sound) (u_outlook_1) (.ref q_near) (.ref q_far) (φf1) (φf3) r0 (hr0) (hφf2) (hφf4) _) (cwV 3 hts gX2_caseAtRank_X2_putOnTop rfl rfl rfl (by decide +kernel) ⟨Nat.le_of_ble_eq_true rfl, Nat.le_of_ble_eq_true rfl⟩) (q_preV hK hP (ci := 2) (q0 := 0) rfl rfl rfl (q_pre hN hK hP hD [0, 4, 5] rfl (by decide))) rfl rfl hl.1 rfl (lv_room (Nat.le_of_ble_eq_true rfl)) dX2_caseAtRank_85 ⟨Nat.le_of_ble_eq_true rfl, Nat.le_of_ble_eq_true rfl⟩) hP hD hS hA [0, 4, 5] [1, 2, 3] rfl rfl (by decide) (by decide) (fun w1 H locs hw hP hD hS => ?_)
  obtain rfl := hw
  have hP : va_P (dC, dI) vwCl [(q_outlook, .inr (2, [.ref q_sound, u_outlook_1, .ref q_near, .ref q_far, .ref q_topGuesses, .ref q_topOdds])), (q_sound, .inr (5, [u_sound_0, u_sound_1, u_sound_2, u_sound_3, u_sound_4, u_sound_5, .int 0, u_sound_7, u_sound_8, u_sound_9])), (q_near, .inl (cI, 216, .inl (upd f_near 0 1))), (q_far, .inl (cI, 36, .inl (upd f_far 0 1))), (q_topOdds, .inl (cI, 20, .inl (upd φf1 0 1))), (q_topGuesses, .inl (cI, 20, .inl (upd φf3 0 0)))] H := hP.sub [3, 0, 1, 2, 4, 5] rfl
  have hD : va_D A [(q_outlook, .inr (2, [.ref q_sound, u_outlook_1, .ref q_near, .ref q_far, .ref q_topGuesses, .ref q_topOdds])), (q_sound, .inr (5, [u_sound_0, u_sound_1, u_sound_2, u_sound_3, u_sound_4, u_sound_5, .int 0, u_sound_7, u_sound_8, u_sound_9])), (q_near, .inl (cI, 216, .inl (upd f_near 0 1))), (q_far, .inl (cI, 36, .inl (upd f_far 0 1))), (q_topOdds, .inl (cI, 20, .inl (upd φf1 0 1))), (q_topGuesses, .inl (cI, 20, .inl (upd φf3 0 0)))] := hD.sub [3, 0, 1, 2, 4, 5] (by decide) rfl
  refine lv_iinc (v := 1) (lv' := [(5, .int 1), (8, .int 1), (7, .int 0), (6, .int 0), (4, .int 1), (3, .int 1), (0, .ref q_outlook), (1, .ref q_now), (2, .int (nI r0))]) hx hb dX2_caseAtRank_88 hl (k := 3) rfl (by decide +kernel) (by decide) rfl (fun ls hl => ?_)
  refine lv_iinc (v := 1) (lv' := [(7, .int 1), (5, .int 1), (8, .int 1), (6, .int 0), (4, .int 1), (3, .int 1), (0, .ref q_outlook), (1, .ref q_now), (2, .int (nI r0))]) hx hb dX2_caseAtRank_91 hl (k := 2) rfl (by decide +kernel) (by decide) rfl (fun ls hl => ?_)
  refine lv_goto (tgt := 45) hx hb dX2_caseAtRank_94 (by decide) ?_
  refine lv_iload hx hb dX2_caseAtRank_45 (lv_at hl 0 rfl) ?_
  refine lv_iload_n hx hb dX2_caseAtRank_47 rfl (lv_at hl 5 rfl) ?_
  refine lv_icmp_ge (tgt := 97) hx hb dX2_caseAtRank_48 (by decide) (fun _ => ?_) (fun h => absurd (by decide +kernel) h)
  refine lv_iinc (v := 1) (lv' := [(6, .int 1), (7, .int 1), (5, .int 1), (8, .int 1), (4, .int 1), (3, .int 1), (0, .ref q_outlook), (1, .ref q_now), (2, .int (nI r0))]) hx hb dX2_caseAtRank_97 hl (k := 3) rfl (by decide +kernel) (by decide) rfl (fun ls hl => ?_)
  refine lv_goto (tgt := 35) hx hb dX2_caseAtRank_100 (by decide) ?_
  refine lv_iload hx hb dX2_caseAtRank_35 (lv_at hl 0 rfl) ?_
  refine lv_iload hx hb dX2_caseAtRank_37 (lv_at hl 4 rfl) ?_
  refine lv_icmp_ge (tgt := 103) hx hb dX2_caseAtRank_39 (by decide) (fun _ => ?_) (fun h => absurd (by decide +kernel) h)
  refine lv_aload_n hx hb dX2_caseAtRank_103 rfl (lv_at hl 6 rfl) ?_
  refine q_get (v := .ref q_topGuesses) C inX2 hK hP 0 rfl rfl 4 (by decide) rfl L18 rfl dX2_caseAtRank_104 ?_
  refine lv_iload_n hx hb dX2_caseAtRank_107 rfl (lv_at hl 8 rfl) ?_
  refine q_iald (x := ((upd φf3 0 0) (Int32.toNatClampNeg (nI r0)))) C hK hP 5 1 rfl rfl (vp_in_nI (by omega) (by omega)) dX2_caseAtRank_108 (rfl) ?_
  exact q_iret C hr hlocks hK hP hD hS (Nat.le_of_ble_eq_true rfl) (Nat.le_of_ble_eq_true rfl) dX2_caseAtRank_109 (fr_ranked_v hφf4 hr0)

set_option maxHeartbeats 4000000 in
set_option maxRecDepth 100000 in
theorem k_X10_ranked (l : Launch) (dC : Nat → ClassId) (dI : Nat → Nat → Nat) (cB cI cJ cZ cS : ClassId) (q_G : Nat) (q_sound : Nat) (q_now : Nat) (q_outlook : Nat) (q_near : Nat) (q_far : Nat) (q_topGuesses : Nat) (q_topOdds : Nat) (u_G_0 : Value) (u_G_1 : Value) (u_G_2 : Value) (u_G_4 : Value) (u_G_5 : Value) (u_G_6 : Value) (u_G_8 : Value) (u_outlook_1 : Value) (u_sound_0 : Value) (u_sound_1 : Value) (u_sound_2 : Value) (u_sound_3 : Value) (u_sound_4 : Value) (u_sound_5 : Value) (u_sound_7 : Value) (u_sound_8 : Value) (u_sound_9 : Value) (f_near : Nat → Int32) (f_far : Nat → Int32) (f_topOdds : Nat → Int32) (f_topGuesses : Nat → Int32) (x1 : Int32) : CI l yX10_ranked wsX10_ranked ({ frames := 3, cells := 0, slots := 0, locals := 78 }) (dC, dI) (tysA cB cI cJ cZ cS) [(q_G, .inr (10, [u_G_0, u_G_1, u_G_2, .ref q_now, u_G_4, u_G_5, u_G_6, .ref q_outlook, u_G_8])), (q_outlook, .inr (2, [.ref q_sound, u_outlook_1, .ref q_near, .ref q_far, .ref q_topGuesses, .ref q_topOdds])), (q_sound, .inr (5, [u_sound_0, u_sound_1, u_sound_2, u_sound_3, u_sound_4, u_sound_5, .int 0, u_sound_7, u_sound_8, u_sound_9])), (q_near, .inl (cI, 216, .inl f_near)), (q_far, .inl (cI, 36, .inl f_far)), (q_topOdds, .inl (cI, 20, .inl f_topOdds)), (q_topGuesses, .inl (cI, 20, .inl f_topGuesses))] [.ref q_G, .int x1] (fun r _ => r = (fr_ranked x1)) := by
  refine open_I (cc := cX10_ranked) (maxL := 2) (ret := (some .int)) (by decide) rfl (Nat.le_of_ble_eq_true rfl) ?_
  intro p e s m below meth c A ls E
  obtain ⟨C, hr, hlocks, hnm, hA, hP, hK, hD, hN, hl⟩ := E
  obtain ⟨hx, hb, hml, hown, hts⟩ := id C
  have hS : va_S A s.heap s.heap [] := va_S.rf
  have hl : lv_has ls 2 [(0, .ref q_G), (1, .int x1)] := hl
  have inX10 : ∀ w ∈ u_ws RX10 TX10 9, w ∈ wsX10_ranked := by decide +kernel
  have E_X2_caseAtRank : Cond.selects RX2 yX2_caseAtRank yX2_caseAtRank ∈ wsX10_ranked := by decide +kernel
  have I_X2 : Cond.initialized RX2 ∈ wsX10_ranked := by decide +kernel
  have L35 : Cond.fieldLink RX10 35 "GuessFerry" "now" "LGuessFerry$Standing;" ∈ wsX10_ranked := by decide +kernel
  have L63 : Cond.fieldLink RX10 63 "GuessFerry" "outlook" "LGuessFerry$Outlook;" ∈ wsX10_ranked := by decide +kernel
  have N_X2_caseAtRank : Cond.instanceMethod yX2_caseAtRank ∈ wsX10_ranked := by decide +kernel
  refine lv_iload_n hx hb dX10_ranked_0 rfl (lv_at hl 1 rfl) ?_
  refine lv_if_lt (tgt := 10) hx hb dX10_ranked_1 (by decide) (fun c1 => ?_) (fun c1 => ?_)
  · skip
    refine lv_iconst (v := (-1)) hx hb dX10_ranked_10 (by decide) ?_
    refine lv_goto (tgt := 26) hx hb dX10_ranked_11 (by decide) ?_
    exact q_iret C hr hlocks hK hP hD hS (Nat.le_of_ble_eq_true rfl) (Nat.le_of_ble_eq_true rfl) dX10_ranked_26 (fr_ranked_a c1)
  · skip
    refine lv_iload_n hx hb dX10_ranked_4 rfl (lv_at hl 1 rfl) ?_
    refine lv_bipush (v := 20) hx hb dX10_ranked_5 (by decide) ?_
    refine lv_icmp_lt (tgt := 14) hx hb dX10_ranked_7 (by decide) (fun c2 => ?_) (fun c2 => ?_)
    · skip
      obtain ⟨r0, hr0, rfl⟩ := i32_0_20 c1 c2
      refine lv_aload_n hx hb dX10_ranked_14 rfl (lv_at hl 0 rfl) ?_
      refine q_get (v := .ref q_outlook) C inX10 hK hP 0 rfl rfl 7 (by decide) rfl L63 rfl dX10_ranked_15 ?_
      refine lv_aload_n hx hb dX10_ranked_18 rfl (lv_at hl 0 rfl) ?_
      refine q_get (v := .ref q_now) C inX10 hK hP 0 rfl rfl 3 (by decide) rfl L35 rfl dX10_ranked_19 ?_
      refine lv_iload_n hx hb dX10_ranked_22 rfl (lv_at hl 1 rfl) ?_
      refine q_goi (wr := [(q_G, .inr (10, [u_G_0, u_G_1, u_G_2, .ref q_now, u_G_4, u_G_5, u_G_6, .ref q_outlook, u_G_8]))]) (va_runVN (As := [.ref q_now, .int (nI r0)]) (rest := []) C (k_X2_caseAtRank l dC dI cB cI cJ cZ cS (q_sound) (q_now) (q_outlook) (q_near) (q_far) (q_topGuesses) (q_topOdds) (u_outlook_1) (u_sound_0) (u_sound_1) (u_sound_2) (u_sound_3) (u_sound_4) (u_sound_5) (u_sound_7) (u_sound_8) (u_sound_9) (f_near) (f_far) (f_topOdds) (f_topGuesses) r0 (hr0) _) ⟨va_cnB 2 hts gX10_ranked_X2_caseAtRank_n224 rfl rfl rfl (hN _ nwM_X10_224 rfl) (hts _ I_X2) (by decide +kernel) ⟨Nat.le_of_ble_eq_true rfl, Nat.le_of_ble_eq_true rfl⟩, hts _ N_X2_caseAtRank, hts _ E_X2_caseAtRank⟩ (q_preV hK hP (ci := 2) (q0 := 1) rfl rfl rfl (q_pre hN hK hP hD [1, 2, 3, 4, 5, 6] rfl (by decide))) rfl rfl hl.1 rfl (lv_room (Nat.le_of_ble_eq_true rfl)) dX10_ranked_23 ⟨Nat.le_of_ble_eq_true rfl, Nat.le_of_ble_eq_true rfl⟩) hP hD hS hA [1, 2, 3, 4, 5, 6] [0] rfl rfl (by decide) (by decide) (fun r w1 H locs hw hP hD hS => ?_)
      obtain rfl := hw
      exact q_iret C hr hlocks hK hP hD hS (Nat.le_of_ble_eq_true rfl) (Nat.le_of_ble_eq_true rfl) dX10_ranked_26 (rfl)
    · skip
      refine lv_iconst (v := (-1)) hx hb dX10_ranked_10 (by decide) ?_
      refine lv_goto (tgt := 26) hx hb dX10_ranked_11 (by decide) ?_
      exact q_iret C hr hlocks hK hP hD hS (Nat.le_of_ble_eq_true rfl) (Nat.le_of_ble_eq_true rfl) dX10_ranked_26 (fr_ranked_b c2)

set_option maxHeartbeats 4000000 in
set_option maxRecDepth 100000 in
theorem k_Lput0 (l : Launch) (dC : Nat → ClassId) (dI : Nat → Nat → Nat) (cB cI cJ cZ cS : ClassId) (q_sound_laws : Nat) (q_sound_steps : Nat) (u_sound_laws_1 : Value) (u_sound_laws_2 : Value) (u_sound_laws_3 : Value) (u_sound_laws_4 : Value) (u_sound_laws_5 : Value) (u_sound_laws_7 : Value) (u_sound_laws_8 : Value) (f_sound_steps : Nat → Int32) (x1 : Int32) : CV l yX1_put wsX1_put ({ frames := 0, cells := 0, slots := 0, locals := 0 }) (dC, dI) (tysA cB cI cJ cZ cS) [(q_sound_laws, .inr (1, [.ref q_sound_steps, u_sound_laws_1, u_sound_laws_2, u_sound_laws_3, u_sound_laws_4, u_sound_laws_5, .int 0, u_sound_laws_7, u_sound_laws_8])), (q_sound_steps, .inl (cI, 404, .inl f_sound_steps))] [.ref q_sound_laws, .int x1] (fun w => w = [(q_sound_laws, .inr (1, [.ref q_sound_steps, u_sound_laws_1, u_sound_laws_2, u_sound_laws_3, u_sound_laws_4, u_sound_laws_5, .int 1, u_sound_laws_7, u_sound_laws_8])), (q_sound_steps, .inl (cI, 404, .inl (upd f_sound_steps 0 x1)))]) := by
  refine open_V (cc := cX1_put) (maxL := 2) (ret := none) (by decide) rfl (Nat.le_of_ble_eq_true rfl) ?_
  intro p e s m below meth c A ls E
  obtain ⟨C, hr, hlocks, hnm, hA, hP, hK, hD, hN, hl⟩ := E
  obtain ⟨hx, hb, hml, hown, hts⟩ := id C
  have hS : va_S A s.heap s.heap [] := va_S.rf
  have hl : lv_has ls 2 [(0, .ref q_sound_laws), (1, .int x1)] := hl
  have inX1 : ∀ w ∈ u_ws RX1 TX1 9, w ∈ wsX1_put := fun _ h => List.mem_cons_of_mem _ (List.mem_append_right _ h)
  have L15 : Cond.fieldLink RX1 15 "GuessFerry$Laws" "steps" "[I" ∈ wsX1_put := by decide +kernel
  have L34 : Cond.fieldLink RX1 34 "GuessFerry$Laws" "length" "I" ∈ wsX1_put := by decide +kernel
  refine lv_aload_n hx hb dX1_put_0 rfl (lv_at hl 0 rfl) ?_
  refine q_get (v := .int 0) C inX1 hK hP 0 rfl rfl 6 (by decide) rfl L34 rfl dX1_put_1 ?_
  refine lv_sipush (v := 404) hx hb dX1_put_4 (by decide) ?_
  refine lv_icmp_ge (tgt := 30) hx hb dX1_put_7 (by decide) (fun h => absurd h (by decide +kernel)) (fun _ => ?_)
  refine lv_aload_n hx hb dX1_put_10 rfl (lv_at hl 0 rfl) ?_
  refine q_get (v := .ref q_sound_steps) C inX1 hK hP 0 rfl rfl 0 (by decide) rfl L15 rfl dX1_put_11 ?_
  refine lv_aload_n hx hb dX1_put_14 rfl (lv_at hl 0 rfl) ?_
  refine q_get (v := .int 0) C inX1 hK hP 0 rfl rfl 6 (by decide) rfl L34 rfl dX1_put_15 ?_
  refine lv_iload_n hx hb dX1_put_18 rfl (lv_at hl 1 rfl) ?_
  refine q_iast (f2 := (upd f_sound_steps 0 x1)) (w2 := [(q_sound_laws, .inr (1, [.ref q_sound_steps, u_sound_laws_1, u_sound_laws_2, u_sound_laws_3, u_sound_laws_4, u_sound_laws_5, .int 0, u_sound_laws_7, u_sound_laws_8])), (q_sound_steps, .inl (cI, 404, .inl (upd f_sound_steps 0 x1)))]) C hK hP hD hS 1 1 rfl rfl (vp_lit (by decide +kernel)) dX1_put_19 rfl rfl (fun H locs hP hD hS => ?_)
  refine lv_aload_n hx hb dX1_put_20 rfl (lv_at hl 0 rfl) ?_
  refine lv_dup hx hb dX1_put_21 rfl ?_
  refine q_get (v := .int 0) C inX1 hK hP 0 rfl rfl 6 (by decide) rfl L34 rfl dX1_put_22 ?_
  refine lv_iconst (v := 1) hx hb dX1_put_25 (by decide) ?_
  refine lv_iadd hx hb dX1_put_26 ?_
  refine q_top (y := 1) (by decide +kernel) ?_
  refine q_put (ty := .int) (w2 := [(q_sound_laws, .inr (1, [.ref q_sound_steps, u_sound_laws_1, u_sound_laws_2, u_sound_laws_3, u_sound_laws_4, u_sound_laws_5, .int 1, u_sound_laws_7, u_sound_laws_8])), (q_sound_steps, .inl (cI, 404, .inl (upd f_sound_steps 0 x1)))]) tyX1 tyX1_ok nmX1 C inX1 hK hP hD hS 0 rfl rfl 6 (by decide) rfl L34 rfl (by decide +kernel) (rfl) rfl (Nat.le_of_ble_eq_true rfl) dX1_put_27 rfl (fun H locs hP hD hS => ?_)
  exact q_vret C hr hlocks hK hP hD hS (Nat.le_of_ble_eq_true rfl) (Nat.le_of_ble_eq_true rfl) dX1_put_30 (rfl)

set_option maxHeartbeats 4000000 in
set_option maxRecDepth 100000 in
theorem k_Lput1 (l : Launch) (dC : Nat → ClassId) (dI : Nat → Nat → Nat) (cB cI cJ cZ cS : ClassId) (q_sound_laws : Nat) (q_sound_steps : Nat) (u_sound_laws_1 : Value) (u_sound_laws_2 : Value) (u_sound_laws_3 : Value) (u_sound_laws_4 : Value) (u_sound_laws_5 : Value) (u_sound_laws_7 : Value) (u_sound_laws_8 : Value) (f_sound_steps : Nat → Int32) (x1 : Int32) : CV l yX1_put wsX1_put ({ frames := 0, cells := 0, slots := 0, locals := 0 }) (dC, dI) (tysA cB cI cJ cZ cS) [(q_sound_laws, .inr (1, [.ref q_sound_steps, u_sound_laws_1, u_sound_laws_2, u_sound_laws_3, u_sound_laws_4, u_sound_laws_5, .int 1, u_sound_laws_7, u_sound_laws_8])), (q_sound_steps, .inl (cI, 404, .inl f_sound_steps))] [.ref q_sound_laws, .int x1] (fun w => w = [(q_sound_laws, .inr (1, [.ref q_sound_steps, u_sound_laws_1, u_sound_laws_2, u_sound_laws_3, u_sound_laws_4, u_sound_laws_5, .int 2, u_sound_laws_7, u_sound_laws_8])), (q_sound_steps, .inl (cI, 404, .inl (upd f_sound_steps 1 x1)))]) := by
  refine open_V (cc := cX1_put) (maxL := 2) (ret := none) (by decide) rfl (Nat.le_of_ble_eq_true rfl) ?_
  intro p e s m below meth c A ls E
  obtain ⟨C, hr, hlocks, hnm, hA, hP, hK, hD, hN, hl⟩ := E
  obtain ⟨hx, hb, hml, hown, hts⟩ := id C
  have hS : va_S A s.heap s.heap [] := va_S.rf
  have hl : lv_has ls 2 [(0, .ref q_sound_laws), (1, .int x1)] := hl
  have inX1 : ∀ w ∈ u_ws RX1 TX1 9, w ∈ wsX1_put := fun _ h => List.mem_cons_of_mem _ (List.mem_append_right _ h)
  have L15 : Cond.fieldLink RX1 15 "GuessFerry$Laws" "steps" "[I" ∈ wsX1_put := by decide +kernel
  have L34 : Cond.fieldLink RX1 34 "GuessFerry$Laws" "length" "I" ∈ wsX1_put := by decide +kernel
  refine lv_aload_n hx hb dX1_put_0 rfl (lv_at hl 0 rfl) ?_
  refine q_get (v := .int 1) C inX1 hK hP 0 rfl rfl 6 (by decide) rfl L34 rfl dX1_put_1 ?_
  refine lv_sipush (v := 404) hx hb dX1_put_4 (by decide) ?_
  refine lv_icmp_ge (tgt := 30) hx hb dX1_put_7 (by decide) (fun h => absurd h (by decide +kernel)) (fun _ => ?_)
  refine lv_aload_n hx hb dX1_put_10 rfl (lv_at hl 0 rfl) ?_
  refine q_get (v := .ref q_sound_steps) C inX1 hK hP 0 rfl rfl 0 (by decide) rfl L15 rfl dX1_put_11 ?_
  refine lv_aload_n hx hb dX1_put_14 rfl (lv_at hl 0 rfl) ?_
  refine q_get (v := .int 1) C inX1 hK hP 0 rfl rfl 6 (by decide) rfl L34 rfl dX1_put_15 ?_
  refine lv_iload_n hx hb dX1_put_18 rfl (lv_at hl 1 rfl) ?_
  refine q_iast (f2 := (upd f_sound_steps 1 x1)) (w2 := [(q_sound_laws, .inr (1, [.ref q_sound_steps, u_sound_laws_1, u_sound_laws_2, u_sound_laws_3, u_sound_laws_4, u_sound_laws_5, .int 1, u_sound_laws_7, u_sound_laws_8])), (q_sound_steps, .inl (cI, 404, .inl (upd f_sound_steps 1 x1)))]) C hK hP hD hS 1 1 rfl rfl (vp_lit (by decide +kernel)) dX1_put_19 rfl rfl (fun H locs hP hD hS => ?_)
  refine lv_aload_n hx hb dX1_put_20 rfl (lv_at hl 0 rfl) ?_
  refine lv_dup hx hb dX1_put_21 rfl ?_
  refine q_get (v := .int 1) C inX1 hK hP 0 rfl rfl 6 (by decide) rfl L34 rfl dX1_put_22 ?_
  refine lv_iconst (v := 1) hx hb dX1_put_25 (by decide) ?_
  refine lv_iadd hx hb dX1_put_26 ?_
  refine q_top (y := 2) (by decide +kernel) ?_
  refine q_put (ty := .int) (w2 := [(q_sound_laws, .inr (1, [.ref q_sound_steps, u_sound_laws_1, u_sound_laws_2, u_sound_laws_3, u_sound_laws_4, u_sound_laws_5, .int 2, u_sound_laws_7, u_sound_laws_8])), (q_sound_steps, .inl (cI, 404, .inl (upd f_sound_steps 1 x1)))]) tyX1 tyX1_ok nmX1 C inX1 hK hP hD hS 0 rfl rfl 6 (by decide) rfl L34 rfl (by decide +kernel) (rfl) rfl (Nat.le_of_ble_eq_true rfl) dX1_put_27 rfl (fun H locs hP hD hS => ?_)
  exact q_vret C hr hlocks hK hP hD hS (Nat.le_of_ble_eq_true rfl) (Nat.le_of_ble_eq_true rfl) dX1_put_30 (rfl)

set_option maxHeartbeats 4000000 in
set_option maxRecDepth 100000 in
theorem k_Lput2 (l : Launch) (dC : Nat → ClassId) (dI : Nat → Nat → Nat) (cB cI cJ cZ cS : ClassId) (q_sound_laws : Nat) (q_sound_steps : Nat) (u_sound_laws_1 : Value) (u_sound_laws_2 : Value) (u_sound_laws_3 : Value) (u_sound_laws_4 : Value) (u_sound_laws_5 : Value) (u_sound_laws_7 : Value) (u_sound_laws_8 : Value) (f_sound_steps : Nat → Int32) (x1 : Int32) : CV l yX1_put wsX1_put ({ frames := 0, cells := 0, slots := 0, locals := 0 }) (dC, dI) (tysA cB cI cJ cZ cS) [(q_sound_laws, .inr (1, [.ref q_sound_steps, u_sound_laws_1, u_sound_laws_2, u_sound_laws_3, u_sound_laws_4, u_sound_laws_5, .int 2, u_sound_laws_7, u_sound_laws_8])), (q_sound_steps, .inl (cI, 404, .inl f_sound_steps))] [.ref q_sound_laws, .int x1] (fun w => w = [(q_sound_laws, .inr (1, [.ref q_sound_steps, u_sound_laws_1, u_sound_laws_2, u_sound_laws_3, u_sound_laws_4, u_sound_laws_5, .int 3, u_sound_laws_7, u_sound_laws_8])), (q_sound_steps, .inl (cI, 404, .inl (upd f_sound_steps 2 x1)))]) := by
  refine open_V (cc := cX1_put) (maxL := 2) (ret := none) (by decide) rfl (Nat.le_of_ble_eq_true rfl) ?_
  intro p e s m below meth c A ls E
  obtain ⟨C, hr, hlocks, hnm, hA, hP, hK, hD, hN, hl⟩ := E
  obtain ⟨hx, hb, hml, hown, hts⟩ := id C
  have hS : va_S A s.heap s.heap [] := va_S.rf
  have hl : lv_has ls 2 [(0, .ref q_sound_laws), (1, .int x1)] := hl
  have inX1 : ∀ w ∈ u_ws RX1 TX1 9, w ∈ wsX1_put := fun _ h => List.mem_cons_of_mem _ (List.mem_append_right _ h)
  have L15 : Cond.fieldLink RX1 15 "GuessFerry$Laws" "steps" "[I" ∈ wsX1_put := by decide +kernel
  have L34 : Cond.fieldLink RX1 34 "GuessFerry$Laws" "length" "I" ∈ wsX1_put := by decide +kernel
  refine lv_aload_n hx hb dX1_put_0 rfl (lv_at hl 0 rfl) ?_
  refine q_get (v := .int 2) C inX1 hK hP 0 rfl rfl 6 (by decide) rfl L34 rfl dX1_put_1 ?_
  refine lv_sipush (v := 404) hx hb dX1_put_4 (by decide) ?_
  refine lv_icmp_ge (tgt := 30) hx hb dX1_put_7 (by decide) (fun h => absurd h (by decide +kernel)) (fun _ => ?_)
  refine lv_aload_n hx hb dX1_put_10 rfl (lv_at hl 0 rfl) ?_
  refine q_get (v := .ref q_sound_steps) C inX1 hK hP 0 rfl rfl 0 (by decide) rfl L15 rfl dX1_put_11 ?_
  refine lv_aload_n hx hb dX1_put_14 rfl (lv_at hl 0 rfl) ?_
  refine q_get (v := .int 2) C inX1 hK hP 0 rfl rfl 6 (by decide) rfl L34 rfl dX1_put_15 ?_
  refine lv_iload_n hx hb dX1_put_18 rfl (lv_at hl 1 rfl) ?_
  refine q_iast (f2 := (upd f_sound_steps 2 x1)) (w2 := [(q_sound_laws, .inr (1, [.ref q_sound_steps, u_sound_laws_1, u_sound_laws_2, u_sound_laws_3, u_sound_laws_4, u_sound_laws_5, .int 2, u_sound_laws_7, u_sound_laws_8])), (q_sound_steps, .inl (cI, 404, .inl (upd f_sound_steps 2 x1)))]) C hK hP hD hS 1 1 rfl rfl (vp_lit (by decide +kernel)) dX1_put_19 rfl rfl (fun H locs hP hD hS => ?_)
  refine lv_aload_n hx hb dX1_put_20 rfl (lv_at hl 0 rfl) ?_
  refine lv_dup hx hb dX1_put_21 rfl ?_
  refine q_get (v := .int 2) C inX1 hK hP 0 rfl rfl 6 (by decide) rfl L34 rfl dX1_put_22 ?_
  refine lv_iconst (v := 1) hx hb dX1_put_25 (by decide) ?_
  refine lv_iadd hx hb dX1_put_26 ?_
  refine q_top (y := 3) (by decide +kernel) ?_
  refine q_put (ty := .int) (w2 := [(q_sound_laws, .inr (1, [.ref q_sound_steps, u_sound_laws_1, u_sound_laws_2, u_sound_laws_3, u_sound_laws_4, u_sound_laws_5, .int 3, u_sound_laws_7, u_sound_laws_8])), (q_sound_steps, .inl (cI, 404, .inl (upd f_sound_steps 2 x1)))]) tyX1 tyX1_ok nmX1 C inX1 hK hP hD hS 0 rfl rfl 6 (by decide) rfl L34 rfl (by decide +kernel) (rfl) rfl (Nat.le_of_ble_eq_true rfl) dX1_put_27 rfl (fun H locs hP hD hS => ?_)
  exact q_vret C hr hlocks hK hP hD hS (Nat.le_of_ble_eq_true rfl) (Nat.le_of_ble_eq_true rfl) dX1_put_30 (rfl)

set_option maxHeartbeats 4000000 in
set_option maxRecDepth 100000 in
theorem k_Lput3 (l : Launch) (dC : Nat → ClassId) (dI : Nat → Nat → Nat) (cB cI cJ cZ cS : ClassId) (q_sound_laws : Nat) (q_sound_steps : Nat) (u_sound_laws_1 : Value) (u_sound_laws_2 : Value) (u_sound_laws_3 : Value) (u_sound_laws_4 : Value) (u_sound_laws_5 : Value) (u_sound_laws_7 : Value) (u_sound_laws_8 : Value) (f_sound_steps : Nat → Int32) (x1 : Int32) : CV l yX1_put wsX1_put ({ frames := 0, cells := 0, slots := 0, locals := 0 }) (dC, dI) (tysA cB cI cJ cZ cS) [(q_sound_laws, .inr (1, [.ref q_sound_steps, u_sound_laws_1, u_sound_laws_2, u_sound_laws_3, u_sound_laws_4, u_sound_laws_5, .int 3, u_sound_laws_7, u_sound_laws_8])), (q_sound_steps, .inl (cI, 404, .inl f_sound_steps))] [.ref q_sound_laws, .int x1] (fun w => w = [(q_sound_laws, .inr (1, [.ref q_sound_steps, u_sound_laws_1, u_sound_laws_2, u_sound_laws_3, u_sound_laws_4, u_sound_laws_5, .int 4, u_sound_laws_7, u_sound_laws_8])), (q_sound_steps, .inl (cI, 404, .inl (upd f_sound_steps 3 x1)))]) := by
  refine open_V (cc := cX1_put) (maxL := 2) (ret := none) (by decide) rfl (Nat.le_of_ble_eq_true rfl) ?_
  intro p e s m below meth c A ls E
  obtain ⟨C, hr, hlocks, hnm, hA, hP, hK, hD, hN, hl⟩ := E
  obtain ⟨hx, hb, hml, hown, hts⟩ := id C
  have hS : va_S A s.heap s.heap [] := va_S.rf
  have hl : lv_has ls 2 [(0, .ref q_sound_laws), (1, .int x1)] := hl
  have inX1 : ∀ w ∈ u_ws RX1 TX1 9, w ∈ wsX1_put := fun _ h => List.mem_cons_of_mem _ (List.mem_append_right _ h)
  have L15 : Cond.fieldLink RX1 15 "GuessFerry$Laws" "steps" "[I" ∈ wsX1_put := by decide +kernel
  have L34 : Cond.fieldLink RX1 34 "GuessFerry$Laws" "length" "I" ∈ wsX1_put := by decide +kernel
  refine lv_aload_n hx hb dX1_put_0 rfl (lv_at hl 0 rfl) ?_
  refine q_get (v := .int 3) C inX1 hK hP 0 rfl rfl 6 (by decide) rfl L34 rfl dX1_put_1 ?_
  refine lv_sipush (v := 404) hx hb dX1_put_4 (by decide) ?_
  refine lv_icmp_ge (tgt := 30) hx hb dX1_put_7 (by decide) (fun h => absurd h (by decide +kernel)) (fun _ => ?_)
  refine lv_aload_n hx hb dX1_put_10 rfl (lv_at hl 0 rfl) ?_
  refine q_get (v := .ref q_sound_steps) C inX1 hK hP 0 rfl rfl 0 (by decide) rfl L15 rfl dX1_put_11 ?_
  refine lv_aload_n hx hb dX1_put_14 rfl (lv_at hl 0 rfl) ?_
  refine q_get (v := .int 3) C inX1 hK hP 0 rfl rfl 6 (by decide) rfl L34 rfl dX1_put_15 ?_
  refine lv_iload_n hx hb dX1_put_18 rfl (lv_at hl 1 rfl) ?_
  refine q_iast (f2 := (upd f_sound_steps 3 x1)) (w2 := [(q_sound_laws, .inr (1, [.ref q_sound_steps, u_sound_laws_1, u_sound_laws_2, u_sound_laws_3, u_sound_laws_4, u_sound_laws_5, .int 3, u_sound_laws_7, u_sound_laws_8])), (q_sound_steps, .inl (cI, 404, .inl (upd f_sound_steps 3 x1)))]) C hK hP hD hS 1 1 rfl rfl (vp_lit (by decide +kernel)) dX1_put_19 rfl rfl (fun H locs hP hD hS => ?_)
  refine lv_aload_n hx hb dX1_put_20 rfl (lv_at hl 0 rfl) ?_
  refine lv_dup hx hb dX1_put_21 rfl ?_
  refine q_get (v := .int 3) C inX1 hK hP 0 rfl rfl 6 (by decide) rfl L34 rfl dX1_put_22 ?_
  refine lv_iconst (v := 1) hx hb dX1_put_25 (by decide) ?_
  refine lv_iadd hx hb dX1_put_26 ?_
  refine q_top (y := 4) (by decide +kernel) ?_
  refine q_put (ty := .int) (w2 := [(q_sound_laws, .inr (1, [.ref q_sound_steps, u_sound_laws_1, u_sound_laws_2, u_sound_laws_3, u_sound_laws_4, u_sound_laws_5, .int 4, u_sound_laws_7, u_sound_laws_8])), (q_sound_steps, .inl (cI, 404, .inl (upd f_sound_steps 3 x1)))]) tyX1 tyX1_ok nmX1 C inX1 hK hP hD hS 0 rfl rfl 6 (by decide) rfl L34 rfl (by decide +kernel) (rfl) rfl (Nat.le_of_ble_eq_true rfl) dX1_put_27 rfl (fun H locs hP hD hS => ?_)
  exact q_vret C hr hlocks hK hP hD hS (Nat.le_of_ble_eq_true rfl) (Nat.le_of_ble_eq_true rfl) dX1_put_30 (rfl)
