theorem dL_law_1420 : decode cL_law 1420 = .ok (.aload_n 1, 1) := dc1_43 (by decide +kernel)
theorem dL_law_1421 : decode cL_law 1421 = .ok (.aload_n 0, 1) := dc1_42 (by decide +kernel)
theorem dL_law_1422 : decode cL_law 1422 = .ok (.iload_n 3, 1) := dc1_29 (by decide +kernel)
theorem dL_law_1423 : decode cL_law 1423 = .ok (.iconst 1, 1) := dc1_4 (by decide +kernel)
theorem dL_law_1424 : decode cL_law 1424 = .ok (.iadd, 1) := dc1_96 (by decide +kernel)
theorem dL_law_1425 : decode cL_law 1425 = .ok (.iaload, 1) := dc1_46 (by decide +kernel)
theorem dL_law_1426 : decode cL_law 1426 = .ok (.invokevirtual 198, 3) := dcw_182 (by decide +kernel)
theorem dL_law_1429 : decode cL_law 1429 = .ok (.pop, 1) := dc1_87 (by decide +kernel)
theorem dL_law_1430 : decode cL_law 1430 = .ok (.aload_n 2, 1) := dc1_44 (by decide +kernel)
theorem dL_law_1431 : decode cL_law 1431 = .ok (.aload_n 0, 1) := dc1_42 (by decide +kernel)
theorem dL_law_1432 : decode cL_law 1432 = .ok (.iload_n 3, 1) := dc1_29 (by decide +kernel)
theorem dL_law_1433 : decode cL_law 1433 = .ok (.iconst 1, 1) := dc1_4 (by decide +kernel)
theorem dL_law_1434 : decode cL_law 1434 = .ok (.iadd, 1) := dc1_96 (by decide +kernel)
theorem dL_law_1435 : decode cL_law 1435 = .ok (.iaload, 1) := dc1_46 (by decide +kernel)
theorem dL_law_1436 : decode cL_law 1436 = .ok (.invokevirtual 201, 3) := dcw_182 (by decide +kernel)
theorem dL_law_1439 : decode cL_law 1439 = .ok (.pop, 1) := dc1_87 (by decide +kernel)
theorem dL_law_1440 : decode cL_law 1440 = .ok (.goto 49, 3) := dcs_167 (n := 49) (by decide +kernel)
theorem dL_law_1443 : decode cL_law 1443 = .ok (.aload_n 1, 1) := dc1_43 (by decide +kernel)
theorem dL_law_1444 : decode cL_law 1444 = .ok (.aload_n 0, 1) := dc1_42 (by decide +kernel)
theorem dL_law_1445 : decode cL_law 1445 = .ok (.iload_n 3, 1) := dc1_29 (by decide +kernel)
theorem dL_law_1446 : decode cL_law 1446 = .ok (.iconst 1, 1) := dc1_4 (by decide +kernel)
theorem dL_law_1447 : decode cL_law 1447 = .ok (.iadd, 1) := dc1_96 (by decide +kernel)
theorem dL_law_1448 : decode cL_law 1448 = .ok (.iaload, 1) := dc1_46 (by decide +kernel)
theorem dL_law_1449 : decode cL_law 1449 = .ok (.invokevirtual 202, 3) := dcw_182 (by decide +kernel)
theorem dL_law_1452 : decode cL_law 1452 = .ok (.pop, 1) := dc1_87 (by decide +kernel)
theorem dL_law_1453 : decode cL_law 1453 = .ok (.aload_n 2, 1) := dc1_44 (by decide +kernel)
theorem dL_law_1454 : decode cL_law 1454 = .ok (.aload_n 0, 1) := dc1_42 (by decide +kernel)
theorem dL_law_1455 : decode cL_law 1455 = .ok (.iload_n 3, 1) := dc1_29 (by decide +kernel)
theorem dL_law_1456 : decode cL_law 1456 = .ok (.iconst 1, 1) := dc1_4 (by decide +kernel)
theorem dL_law_1457 : decode cL_law 1457 = .ok (.iadd, 1) := dc1_96 (by decide +kernel)
theorem dL_law_1458 : decode cL_law 1458 = .ok (.iaload, 1) := dc1_46 (by decide +kernel)
theorem dL_law_1459 : decode cL_law 1459 = .ok (.invokevirtual 205, 3) := dcw_182 (by decide +kernel)
theorem dL_law_1462 : decode cL_law 1462 = .ok (.pop, 1) := dc1_87 (by decide +kernel)
theorem dL_law_1463 : decode cL_law 1463 = .ok (.goto 26, 3) := dcs_167 (n := 26) (by decide +kernel)
theorem dL_law_1466 : decode cL_law 1466 = .ok (.aload_n 1, 1) := dc1_43 (by decide +kernel)
theorem dL_law_1467 : decode cL_law 1467 = .ok (.aload_n 0, 1) := dc1_42 (by decide +kernel)
theorem dL_law_1468 : decode cL_law 1468 = .ok (.iload_n 3, 1) := dc1_29 (by decide +kernel)
theorem dL_law_1469 : decode cL_law 1469 = .ok (.iconst 1, 1) := dc1_4 (by decide +kernel)
theorem dL_law_1470 : decode cL_law 1470 = .ok (.iadd, 1) := dc1_96 (by decide +kernel)
theorem dL_law_1471 : decode cL_law 1471 = .ok (.iaload, 1) := dc1_46 (by decide +kernel)
theorem dL_law_1472 : decode cL_law 1472 = .ok (.invokevirtual 206, 3) := dcw_182 (by decide +kernel)
theorem dL_law_1475 : decode cL_law 1475 = .ok (.pop, 1) := dc1_87 (by decide +kernel)
theorem dL_law_1476 : decode cL_law 1476 = .ok (.aload_n 2, 1) := dc1_44 (by decide +kernel)
theorem dL_law_1477 : decode cL_law 1477 = .ok (.aload_n 0, 1) := dc1_42 (by decide +kernel)
theorem dL_law_1478 : decode cL_law 1478 = .ok (.iload_n 3, 1) := dc1_29 (by decide +kernel)
theorem dL_law_1479 : decode cL_law 1479 = .ok (.iconst 1, 1) := dc1_4 (by decide +kernel)
theorem dL_law_1480 : decode cL_law 1480 = .ok (.iadd, 1) := dc1_96 (by decide +kernel)
theorem dL_law_1481 : decode cL_law 1481 = .ok (.iaload, 1) := dc1_46 (by decide +kernel)
theorem dL_law_1482 : decode cL_law 1482 = .ok (.invokevirtual 209, 3) := dcw_182 (by decide +kernel)
theorem dL_law_1485 : decode cL_law 1485 = .ok (.pop, 1) := dc1_87 (by decide +kernel)
theorem dL_law_1486 : decode cL_law 1486 = .ok (.goto 3, 3) := dcs_167 (n := 3) (by decide +kernel)
set_option maxHeartbeats 4000000 in
set_option maxRecDepth 100000 in
theorem law_case_44 {p : Program} {e : Env} {s : State} {m : MethodId} {below : List Frame} {meth : Method} {c : Code} (l : Launch) {b L : Nat} {xs : Nat → Int32} (hL : L ≤ 3072) (C0 : lw_At p s m meth c b L xs) (dC : Nat → ClassId) (dI : Nat → Nat → Nat) (cB cI cJ cZ cS : ClassId) (hK : va_K (dC, dI) vwCl (tysA cB cI cJ cZ cS) s) (hN : nw_ok s) (ak av : Nat) (hXS : xS ak av (fun q : Nat => s.heap.size ≤ q) s s.heap) (a b1 b2 c0 : Nat → Nat) (bb : Nat → Nat → Nat) (hm : Nat) (a9 : Nat → Nat) (i : Nat) (hi : i + 6 ≤ L) (kk : ∀ (y : YS) (z : RS) (H : Heap) (locs : List Loc) (ls : Array Slot), InvK y.x.k → InvG y.x.g → InvR z → Big z → TP y z → va_P (dC, dI) vwCl (mwS cB cI cJ cZ hm a9 z ++ wY cB cI cJ cZ cS a b1 b2 c0 bb y) H → va_D (fun q : Nat => s.heap.size ≤ q) (mwS cB cI cJ cZ hm a9 z ++ wY cB cI cJ cZ cS a b1 b2 c0 bb y) → va_S (fun q : Nat => s.heap.size ≤ q) s.heap H locs → lv_has ls 4 [(3, .int (nI i)), (2, .ref hm), (1, .ref (c0 0)), (0, .ref b)] → W p l e room_1 s m #[Value.ref b] below meth c H locs 361 24806 (lw_Z below #[Value.ref b] s) (F0 m 1489 ls [])) : ∀ (y : YS) (z : RS) (H : Heap) (locs : List Loc) (ls : Array Slot), InvK y.x.k → InvG y.x.g → InvR z → Big z → TP y z → va_P (dC, dI) vwCl (mwS cB cI cJ cZ hm a9 z ++ wY cB cI cJ cZ cS a b1 b2 c0 bb y) H → va_D (fun q : Nat => s.heap.size ≤ q) (mwS cB cI cJ cZ hm a9 z ++ wY cB cI cJ cZ cS a b1 b2 c0 bb y) → va_S (fun q : Nat => s.heap.size ≤ q) s.heap H locs → lv_has ls 4 [(3, .int (nI i)), (2, .ref hm), (1, .ref (c0 0)), (0, .ref b)] → W p l e room_1 s m #[Value.ref b] below meth c H locs 361 24806 (lw_Z below #[Value.ref b] s) (F0 m 1420 ls []) := by
  obtain ⟨hx, hb, hr, hml, hown, hts, hX, hbl, hlocks, hgv⟩ := id C0
  have C : CallFix p m c code 4 s #[Value.ref b] lw_tbl R_law := ⟨hx, hb, hml, hown, hts⟩
  have hA : ∀ q : Nat, s.heap.size ≤ q → (fun q : Nat => s.heap.size ≤ q) q := fun _ h => h
  have hbA : ¬ (fun q : Nat => s.heap.size ≤ q) b := Nat.not_le.mpr hbl
  intro y z H locs ls hIK hIG hIR hBG hTP hP hD hS hl
  refine lv_aload_n hx hb dL_law_1420 rfl (lv_at hl 2 rfl) ?_
  refine lv_aload_n hx hb dL_law_1421 rfl (lv_at hl 3 rfl) ?_
  refine lv_iload_n hx hb dL_law_1422 rfl (lv_at hl 0 rfl) ?_
  refine lv_iconst (v := 1) hx hb dL_law_1423 (by decide) ?_
  refine lv_iadd hx hb dL_law_1424 ?_
  refine q_top (y := nI (i + 1)) (nI_add i 1) ?_
  refine va_sld hx hb hX hbl hbA hS (vp_in_nI (by omega) (by omega)) dL_law_1425 ?_
  obtain ⟨⟨r1, y1⟩, hB1, hq1⟩ := ok_kX10_hold y (xs (Int32.toNatClampNeg (nI (i + 1)))) (hIK) (hIG)
  have hP1 : va_P (dC, dI) vwCl (wY cB cI cJ cZ cS a b1 b2 c0 bb y ++ mwS cB cI cJ cZ hm a9 z) H := sw2P hP
  have hD1 : va_D (fun q : Nat => s.heap.size ≤ q) (wY cB cI cJ cZ cS a b1 b2 c0 bb y ++ mwS cB cI cJ cZ hm a9 z) := sw2D hD
  refine q_goiW (va_runV (As := [.int (xs (Int32.toNatClampNeg (nI (i + 1))))]) (rest := []) C (ckX10_hold hB1 _) (cwV 1 hts glv_X10_hold rfl rfl rfl (by decide +kernel) ⟨Nat.le_of_ble_eq_true rfl, Nat.le_of_ble_eq_true rfl⟩) (q_preV hK (P_left hP1) (ci := 10) (q0 := 0) rfl rfl rfl (q_preF hN hK (P_left hP1) (D_left hD1))) rfl rfl hl.1 rfl (lv_room (Nat.le_of_ble_eq_true rfl)) dL_law_1426 ⟨Nat.le_of_ble_eq_true rfl, Nat.le_of_ble_eq_true rfl⟩) hP1 hD1 hS hA (fun q1 w1 H locs hw hP hD hS => ?_)
  obtain ⟨hr1, hw⟩ := hw
  subst hw
  have hP : va_P (dC, dI) vwCl (mwS cB cI cJ cZ hm a9 z ++ wY cB cI cJ cZ cS a b1 b2 c0 bb y1) H := sw2P hP
  have hD : va_D (fun q : Nat => s.heap.size ≤ q) (mwS cB cI cJ cZ hm a9 z ++ wY cB cI cJ cZ cS a b1 b2 c0 bb y1) := sw2D hD
  refine lv_pop hx hb dL_law_1429 rfl ?_
  refine lv_aload_n hx hb dL_law_1430 rfl (lv_at hl 1 rfl) ?_
  refine lv_aload_n hx hb dL_law_1431 rfl (lv_at hl 3 rfl) ?_
  refine lv_iload_n hx hb dL_law_1432 rfl (lv_at hl 0 rfl) ?_
  refine lv_iconst (v := 1) hx hb dL_law_1433 (by decide) ?_
  refine lv_iadd hx hb dL_law_1434 ?_
  refine q_top (y := nI (i + 1)) (nI_add i 1) ?_
  refine va_sld hx hb hX hbl hbA hS (vp_in_nI (by omega) (by omega)) dL_law_1435 ?_
  obtain ⟨⟨r2, z2⟩, hB2, hq2⟩ := ok_r_hold z (xs (Int32.toNatClampNeg (nI (i + 1)))) (hIR)
  refine q_goiW (va_runV (As := [.int (xs (Int32.toNatClampNeg (nI (i + 1))))]) (rest := []) C (cr_hold hB2 _) (cwV 1 hts glv_X11_hold rfl rfl rfl (by decide +kernel) ⟨Nat.le_of_ble_eq_true rfl, Nat.le_of_ble_eq_true rfl⟩) (q_preV hK (P_left hP) (ci := 11) (q0 := 0) rfl rfl rfl (q_preF hN hK (P_left hP) (D_left hD))) rfl rfl hl.1 rfl (lv_room (Nat.le_of_ble_eq_true rfl)) dL_law_1436 ⟨Nat.le_of_ble_eq_true rfl, Nat.le_of_ble_eq_true rfl⟩) hP hD hS hA (fun q2 w2 H locs hw hP hD hS => ?_)
  obtain ⟨hr2, hw⟩ := hw
  subst hw
  refine lv_pop hx hb dL_law_1439 rfl ?_
  refine lv_goto (tgt := 1489) hx hb dL_law_1440 (by decide) ?_
  exact kk y1 z2 H locs ls (hq1.1) (hq1.2.2.1) (hq2.1) ((hBG).fr (hq2.2.1) (by decide)) ⟨tpr_keep (hq1.2.1) (hq2.2.1) (by decide) (by decide) hTP.1, (hold2_same hTP.2 hIK hIR hB1 hB2).2⟩ hP hD hS hl

set_option maxHeartbeats 4000000 in
set_option maxRecDepth 100000 in
theorem law_case_45 {p : Program} {e : Env} {s : State} {m : MethodId} {below : List Frame} {meth : Method} {c : Code} (l : Launch) {b L : Nat} {xs : Nat → Int32} (hL : L ≤ 3072) (C0 : lw_At p s m meth c b L xs) (dC : Nat → ClassId) (dI : Nat → Nat → Nat) (cB cI cJ cZ cS : ClassId) (hK : va_K (dC, dI) vwCl (tysA cB cI cJ cZ cS) s) (hN : nw_ok s) (ak av : Nat) (hXS : xS ak av (fun q : Nat => s.heap.size ≤ q) s s.heap) (a b1 b2 c0 : Nat → Nat) (bb : Nat → Nat → Nat) (hm : Nat) (a9 : Nat → Nat) (i : Nat) (hi : i + 6 ≤ L) (kk : ∀ (y : YS) (z : RS) (H : Heap) (locs : List Loc) (ls : Array Slot), InvK y.x.k → InvG y.x.g → InvR z → Big z → TP y z → va_P (dC, dI) vwCl (mwS cB cI cJ cZ hm a9 z ++ wY cB cI cJ cZ cS a b1 b2 c0 bb y) H → va_D (fun q : Nat => s.heap.size ≤ q) (mwS cB cI cJ cZ hm a9 z ++ wY cB cI cJ cZ cS a b1 b2 c0 bb y) → va_S (fun q : Nat => s.heap.size ≤ q) s.heap H locs → lv_has ls 4 [(3, .int (nI i)), (2, .ref hm), (1, .ref (c0 0)), (0, .ref b)] → W p l e room_1 s m #[Value.ref b] below meth c H locs 361 24806 (lw_Z below #[Value.ref b] s) (F0 m 1489 ls [])) : ∀ (y : YS) (z : RS) (H : Heap) (locs : List Loc) (ls : Array Slot), InvK y.x.k → InvG y.x.g → InvR z → Big z → TP y z → va_P (dC, dI) vwCl (mwS cB cI cJ cZ hm a9 z ++ wY cB cI cJ cZ cS a b1 b2 c0 bb y) H → va_D (fun q : Nat => s.heap.size ≤ q) (mwS cB cI cJ cZ hm a9 z ++ wY cB cI cJ cZ cS a b1 b2 c0 bb y) → va_S (fun q : Nat => s.heap.size ≤ q) s.heap H locs → lv_has ls 4 [(3, .int (nI i)), (2, .ref hm), (1, .ref (c0 0)), (0, .ref b)] → W p l e room_1 s m #[Value.ref b] below meth c H locs 361 24806 (lw_Z below #[Value.ref b] s) (F0 m 1443 ls []) := by
  obtain ⟨hx, hb, hr, hml, hown, hts, hX, hbl, hlocks, hgv⟩ := id C0
  have C : CallFix p m c code 4 s #[Value.ref b] lw_tbl R_law := ⟨hx, hb, hml, hown, hts⟩
  have hA : ∀ q : Nat, s.heap.size ≤ q → (fun q : Nat => s.heap.size ≤ q) q := fun _ h => h
  have hbA : ¬ (fun q : Nat => s.heap.size ≤ q) b := Nat.not_le.mpr hbl
  intro y z H locs ls hIK hIG hIR hBG hTP hP hD hS hl
  refine lv_aload_n hx hb dL_law_1443 rfl (lv_at hl 2 rfl) ?_
  refine lv_aload_n hx hb dL_law_1444 rfl (lv_at hl 3 rfl) ?_
  refine lv_iload_n hx hb dL_law_1445 rfl (lv_at hl 0 rfl) ?_
  refine lv_iconst (v := 1) hx hb dL_law_1446 (by decide) ?_
  refine lv_iadd hx hb dL_law_1447 ?_
  refine q_top (y := nI (i + 1)) (nI_add i 1) ?_
  refine va_sld hx hb hX hbl hbA hS (vp_in_nI (by omega) (by omega)) dL_law_1448 ?_
  obtain ⟨⟨r1, y1⟩, hB1, hq1⟩ := ok_kX10_restore y (xs (Int32.toNatClampNeg (nI (i + 1)))) (hIK) (hIG)
  have hP1 : va_P (dC, dI) vwCl (wY cB cI cJ cZ cS a b1 b2 c0 bb y ++ mwS cB cI cJ cZ hm a9 z) H := sw2P hP
  have hD1 : va_D (fun q : Nat => s.heap.size ≤ q) (wY cB cI cJ cZ cS a b1 b2 c0 bb y ++ mwS cB cI cJ cZ hm a9 z) := sw2D hD
  refine q_goiW (va_runV (As := [.int (xs (Int32.toNatClampNeg (nI (i + 1))))]) (rest := []) C (ckX10_restore hB1 _) (cwV 1 hts glv_X10_restore rfl rfl rfl (by decide +kernel) ⟨Nat.le_of_ble_eq_true rfl, Nat.le_of_ble_eq_true rfl⟩) (q_preV hK (P_left hP1) (ci := 10) (q0 := 0) rfl rfl rfl (q_preF hN hK (P_left hP1) (D_left hD1))) rfl rfl hl.1 rfl (lv_room (Nat.le_of_ble_eq_true rfl)) dL_law_1449 ⟨Nat.le_of_ble_eq_true rfl, Nat.le_of_ble_eq_true rfl⟩) hP1 hD1 hS hA (fun q1 w1 H locs hw hP hD hS => ?_)
  obtain ⟨hr1, hw⟩ := hw
  subst hw
  have hP : va_P (dC, dI) vwCl (mwS cB cI cJ cZ hm a9 z ++ wY cB cI cJ cZ cS a b1 b2 c0 bb y1) H := sw2P hP
  have hD : va_D (fun q : Nat => s.heap.size ≤ q) (mwS cB cI cJ cZ hm a9 z ++ wY cB cI cJ cZ cS a b1 b2 c0 bb y1) := sw2D hD
  refine lv_pop hx hb dL_law_1452 rfl ?_
  refine lv_aload_n hx hb dL_law_1453 rfl (lv_at hl 1 rfl) ?_
  refine lv_aload_n hx hb dL_law_1454 rfl (lv_at hl 3 rfl) ?_
  refine lv_iload_n hx hb dL_law_1455 rfl (lv_at hl 0 rfl) ?_
  refine lv_iconst (v := 1) hx hb dL_law_1456 (by decide) ?_
  refine lv_iadd hx hb dL_law_1457 ?_
  refine q_top (y := nI (i + 1)) (nI_add i 1) ?_
  refine va_sld hx hb hX hbl hbA hS (vp_in_nI (by omega) (by omega)) dL_law_1458 ?_
  obtain ⟨⟨r2, z2⟩, hB2, hq2⟩ := ok_r_restore z (xs (Int32.toNatClampNeg (nI (i + 1)))) (hIR)
  refine q_goiW (va_runV (As := [.int (xs (Int32.toNatClampNeg (nI (i + 1))))]) (rest := []) C (cr_restore hB2 _) (cwV 1 hts glv_X11_restore rfl rfl rfl (by decide +kernel) ⟨Nat.le_of_ble_eq_true rfl, Nat.le_of_ble_eq_true rfl⟩) (q_preV hK (P_left hP) (ci := 11) (q0 := 0) rfl rfl rfl (q_preF hN hK (P_left hP) (D_left hD))) rfl rfl hl.1 rfl (lv_room (Nat.le_of_ble_eq_true rfl)) dL_law_1459 ⟨Nat.le_of_ble_eq_true rfl, Nat.le_of_ble_eq_true rfl⟩) hP hD hS hA (fun q2 w2 H locs hw hP hD hS => ?_)
  obtain ⟨hr2, hw⟩ := hw
  subst hw
  refine lv_pop hx hb dL_law_1462 rfl ?_
  refine lv_goto (tgt := 1489) hx hb dL_law_1463 (by decide) ?_
  exact kk y1 z2 H locs ls (hq1.1) (hq1.2.2.1) (hq2.1) ((hBG).fr (hq2.2.1) (by decide)) ⟨tpr_keep (hq1.2.1) (hq2.2.1) (by decide) (by decide) hTP.1, (restore_same hTP.2 hIK hIR hB1 hB2).2⟩ hP hD hS hl

set_option maxHeartbeats 4000000 in
set_option maxRecDepth 100000 in
theorem law_case_46 {p : Program} {e : Env} {s : State} {m : MethodId} {below : List Frame} {meth : Method} {c : Code} (l : Launch) {b L : Nat} {xs : Nat → Int32} (hL : L ≤ 3072) (C0 : lw_At p s m meth c b L xs) (dC : Nat → ClassId) (dI : Nat → Nat → Nat) (cB cI cJ cZ cS : ClassId) (hK : va_K (dC, dI) vwCl (tysA cB cI cJ cZ cS) s) (hN : nw_ok s) (ak av : Nat) (hXS : xS ak av (fun q : Nat => s.heap.size ≤ q) s s.heap) (a b1 b2 c0 : Nat → Nat) (bb : Nat → Nat → Nat) (hm : Nat) (a9 : Nat → Nat) (i : Nat) (hi : i + 6 ≤ L) (kk : ∀ (y : YS) (z : RS) (H : Heap) (locs : List Loc) (ls : Array Slot), InvK y.x.k → InvG y.x.g → InvR z → Big z → TP y z → va_P (dC, dI) vwCl (mwS cB cI cJ cZ hm a9 z ++ wY cB cI cJ cZ cS a b1 b2 c0 bb y) H → va_D (fun q : Nat => s.heap.size ≤ q) (mwS cB cI cJ cZ hm a9 z ++ wY cB cI cJ cZ cS a b1 b2 c0 bb y) → va_S (fun q : Nat => s.heap.size ≤ q) s.heap H locs → lv_has ls 4 [(3, .int (nI i)), (2, .ref hm), (1, .ref (c0 0)), (0, .ref b)] → W p l e room_1 s m #[Value.ref b] below meth c H locs 361 24806 (lw_Z below #[Value.ref b] s) (F0 m 1489 ls [])) : ∀ (y : YS) (z : RS) (H : Heap) (locs : List Loc) (ls : Array Slot), InvK y.x.k → InvG y.x.g → InvR z → Big z → TP y z → va_P (dC, dI) vwCl (mwS cB cI cJ cZ hm a9 z ++ wY cB cI cJ cZ cS a b1 b2 c0 bb y) H → va_D (fun q : Nat => s.heap.size ≤ q) (mwS cB cI cJ cZ hm a9 z ++ wY cB cI cJ cZ cS a b1 b2 c0 bb y) → va_S (fun q : Nat => s.heap.size ≤ q) s.heap H locs → lv_has ls 4 [(3, .int (nI i)), (2, .ref hm), (1, .ref (c0 0)), (0, .ref b)] → W p l e room_1 s m #[Value.ref b] below meth c H locs 361 24806 (lw_Z below #[Value.ref b] s) (F0 m 1466 ls []) := by
  obtain ⟨hx, hb, hr, hml, hown, hts, hX, hbl, hlocks, hgv⟩ := id C0
  have C : CallFix p m c code 4 s #[Value.ref b] lw_tbl R_law := ⟨hx, hb, hml, hown, hts⟩
  have hA : ∀ q : Nat, s.heap.size ≤ q → (fun q : Nat => s.heap.size ≤ q) q := fun _ h => h
  have hbA : ¬ (fun q : Nat => s.heap.size ≤ q) b := Nat.not_le.mpr hbl
  intro y z H locs ls hIK hIG hIR hBG hTP hP hD hS hl
  refine lv_aload_n hx hb dL_law_1466 rfl (lv_at hl 2 rfl) ?_
  refine lv_aload_n hx hb dL_law_1467 rfl (lv_at hl 3 rfl) ?_
  refine lv_iload_n hx hb dL_law_1468 rfl (lv_at hl 0 rfl) ?_
  refine lv_iconst (v := 1) hx hb dL_law_1469 (by decide) ?_
  refine lv_iadd hx hb dL_law_1470 ?_
  refine q_top (y := nI (i + 1)) (nI_add i 1) ?_
  refine va_sld hx hb hX hbl hbA hS (vp_in_nI (by omega) (by omega)) dL_law_1471 ?_
  obtain ⟨⟨r1, y1⟩, hB1, hq1⟩ := ok_kX10_count y.x (xs (Int32.toNatClampNeg (nI (i + 1)))) (hIK) (hIG)
  have hP1 : va_P (dC, dI) vwCl (wX cB cI cJ cZ cS a b1 b2 c0 (rgP bb) (slP bb) y.x ++ (wPool cI bb y.r 43 ++ mwS cB cI cJ cZ hm a9 z)) H := sw1P hP
  have hD1 : va_D (fun q : Nat => s.heap.size ≤ q) (wX cB cI cJ cZ cS a b1 b2 c0 (rgP bb) (slP bb) y.x ++ (wPool cI bb y.r 43 ++ mwS cB cI cJ cZ hm a9 z)) := sw1D hD
  refine q_goiW (va_runV (As := [.int (xs (Int32.toNatClampNeg (nI (i + 1))))]) (rest := []) C (ckX10_count hB1 _) (cwV 1 hts glv_X10_count rfl rfl rfl (by decide +kernel) ⟨Nat.le_of_ble_eq_true rfl, Nat.le_of_ble_eq_true rfl⟩) (q_preV hK (P_left hP1) (ci := 10) (q0 := 0) rfl rfl rfl (q_preF hN hK (P_left hP1) (D_left hD1))) rfl rfl hl.1 rfl (lv_room (Nat.le_of_ble_eq_true rfl)) dL_law_1472 ⟨Nat.le_of_ble_eq_true rfl, Nat.le_of_ble_eq_true rfl⟩) hP1 hD1 hS hA (fun q1 w1 H locs hw hP hD hS => ?_)
  obtain ⟨hr1, hw⟩ := hw
  subst hw
  have hP : va_P (dC, dI) vwCl (mwS cB cI cJ cZ hm a9 z ++ wY cB cI cJ cZ cS a b1 b2 c0 bb (YS.mk y1 y.r)) H := sw3P hP
  have hD : va_D (fun q : Nat => s.heap.size ≤ q) (mwS cB cI cJ cZ hm a9 z ++ wY cB cI cJ cZ cS a b1 b2 c0 bb (YS.mk y1 y.r)) := sw3D hD
  refine lv_pop hx hb dL_law_1475 rfl ?_
  refine lv_aload_n hx hb dL_law_1476 rfl (lv_at hl 1 rfl) ?_
  refine lv_aload_n hx hb dL_law_1477 rfl (lv_at hl 3 rfl) ?_
  refine lv_iload_n hx hb dL_law_1478 rfl (lv_at hl 0 rfl) ?_
  refine lv_iconst (v := 1) hx hb dL_law_1479 (by decide) ?_
  refine lv_iadd hx hb dL_law_1480 ?_
  refine q_top (y := nI (i + 1)) (nI_add i 1) ?_
  refine va_sld hx hb hX hbl hbA hS (vp_in_nI (by omega) (by omega)) dL_law_1481 ?_
  obtain ⟨⟨r2, z2⟩, hB2, hq2⟩ := ok_r_count z (xs (Int32.toNatClampNeg (nI (i + 1)))) (hIR) (hBG)
  refine q_goiW (va_runV (As := [.int (xs (Int32.toNatClampNeg (nI (i + 1))))]) (rest := []) C (cr_count hB2 _) (cwV 1 hts glv_X11_count rfl rfl rfl (by decide +kernel) ⟨Nat.le_of_ble_eq_true rfl, Nat.le_of_ble_eq_true rfl⟩) (q_preV hK (P_left hP) (ci := 11) (q0 := 0) rfl rfl rfl (q_preF hN hK (P_left hP) (D_left hD))) rfl rfl hl.1 rfl (lv_room (Nat.le_of_ble_eq_true rfl)) dL_law_1482 ⟨Nat.le_of_ble_eq_true rfl, Nat.le_of_ble_eq_true rfl⟩) hP hD hS hA (fun q2 w2 H locs hw hP hD hS => ?_)
  obtain ⟨hr2, hw⟩ := hw
  subst hw
  refine lv_pop hx hb dL_law_1485 rfl ?_
  refine lv_goto (tgt := 1489) hx hb dL_law_1486 (by decide) ?_
  exact kk (YS.mk y1 y.r) z2 H locs ls (hq1.1) (hq1.2.2.1) (hq2.1) ((hBG).fr (hq2.2.1) (by decide)) ⟨tpr_keep (hq1.2.1) (hq2.2.1) (by decide) (by decide) hTP.1, REL.keep hTP.2 (fr_kX10_count _ _ _ _ ⟨rfl, rfl⟩ _ hB1).1 (fr_kX10_count _ _ _ _ ⟨rfl, rfl⟩ _ hB1).2 (hq1.2.1) (hq2.2.1) ⟨by decide, by decide⟩ ⟨by decide, by decide⟩⟩ hP hD hS hl
