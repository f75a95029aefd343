theorem dL_law_18 : decode cL_law 18 = .ok (.iload_n 3, 1) := dc1_29 (by decide +kernel)
theorem dL_law_19 : decode cL_law 19 = .ok (.aload_n 0, 1) := dc1_42 (by decide +kernel)
theorem dL_law_20 : decode cL_law 20 = .ok (.arraylength, 1) := dc1_190 (by decide +kernel)
theorem dL_law_21 : decode cL_law 21 = .ok (.bipush 6, 2) := dcb_16 (n := 6) (by decide +kernel)
theorem dL_law_23 : decode cL_law 23 = .ok (.isub, 1) := dc1_100 (by decide +kernel)
theorem dL_law_24 : decode cL_law 24 = .ok (.if_icmp .gt 1471, 3) := dcs_163 (n := 1471) (by decide +kernel)
theorem dL_law_27 : decode cL_law 27 = .ok (.aload_n 0, 1) := dc1_42 (by decide +kernel)
theorem dL_law_28 : decode cL_law 28 = .ok (.iload_n 3, 1) := dc1_29 (by decide +kernel)
theorem dL_law_29 : decode cL_law 29 = .ok (.iaload, 1) := dc1_46 (by decide +kernel)
theorem dL_law_30 : decode cL_law 30 = .ok (.bipush 63, 2) := dcb_16 (n := 63) (by decide +kernel)
theorem dL_law_32 : decode cL_law 32 = .ok (.iand, 1) := dc1_126 (by decide +kernel)
theorem dL_law_33 : decode cL_law 33 = .ok (.tableswitch 1456 0 46 #[203, 266, 289, 302, 315, 348, 381, 414, 457, 490, 549, 572, 595, 608, 621, 644, 657, 670, 703, 726, 739, 762, 785, 808, 831, 864, 897, 930, 953, 966, 989, 1012, 1025, 1048, 1061, 1074, 1117, 1140, 1173, 1206, 1265, 1278, 1321, 1354, 1387, 1410, 1433], 203) := by decide +kernel
theorem dL_law_1489 : decode cL_law 1489 = .ok (.iinc 3 6, 3) := dc_iinc (m := 6) (by decide +kernel)
theorem dL_law_1492 : decode cL_law 1492 = .ok (.goto (-1474), 3) := dcs_167 (n := 64062) (by decide +kernel)
theorem dL_law_1495 : decode cL_law 1495 = .ok (.iconst 1, 1) := dc1_4 (by decide +kernel)
theorem dL_law_1496 : decode cL_law 1496 = .ok (.ireturn, 1) := dc1_172 (by decide +kernel)
theorem lw_gt {i L : Nat} (hL : L ≤ 3072) (hi : i ≤ 3078) (h : L < i + 6) : nI i > Int32.ofNat L - 6 := by
  have h1 : (Int32.ofNat L).toInt = (L : Int) := nI_toInt (n := L) (by omega)
  have h2 : (nI i).toInt = (i : Int) := nI_toInt (by omega)
  have h3 : (Int32.ofNat L - 6).toInt = (L : Int) - 6 := tn_sub h1 (by decide) (by omega) (by omega)
  exact Int32.lt_iff_toInt_lt.mpr (by rw [h2, h3]; omega)
theorem lw_ngt {i L : Nat} (hL : L ≤ 3072) (hi : i ≤ 3078) (h : ¬ nI i > Int32.ofNat L - 6) : i + 6 ≤ L := by
  by_cases q : L < i + 6
  · exact absurd (lw_gt hL hi q) h
  · omega
set_option maxHeartbeats 4000000 in
set_option maxRecDepth 100000 in
theorem law_loop {p : Program} {e : Env} {s : State} {m : MethodId} {below : List Frame} {meth : Method} {c : Code} (l : Launch) {b L : Nat} {xs : Nat → Int32} (hL : L ≤ 3072) (C0 : lw_At p s m meth c b L xs) (dC : Nat → ClassId) (dI : Nat → Nat → Nat) (cB cI cJ cZ cS : ClassId) (hK : va_K (dC, dI) vwCl (tysA cB cI cJ cZ cS) s) (hN : nw_ok s) (ak av : Nat) (hXS : xS ak av (fun q : Nat => s.heap.size ≤ q) s s.heap) (a b1 b2 c0 : Nat → Nat) (bb : Nat → Nat → Nat) (hm : Nat) (a9 : Nat → Nat) : ∀ (n i : Nat), L < i + 6 * n → i ≤ 3078 → ∀ (y : YS) (z : RS) (H : Heap) (locs : List Loc) (ls : Array Slot), InvK y.x.k → InvG y.x.g → InvR z → Big z → TP y z → va_P (dC, dI) vwCl (mwS cB cI cJ cZ hm a9 z ++ wY cB cI cJ cZ cS a b1 b2 c0 bb y) H → va_D (fun q : Nat => s.heap.size ≤ q) (mwS cB cI cJ cZ hm a9 z ++ wY cB cI cJ cZ cS a b1 b2 c0 bb y) → va_S (fun q : Nat => s.heap.size ≤ q) s.heap H locs → lv_has ls 4 [(3, .int (nI i)), (2, .ref hm), (1, .ref (c0 0)), (0, .ref b)] → W p l e room_1 s m #[Value.ref b] below meth c H locs 361 24806 (lw_Z below #[Value.ref b] s) (F0 m 18 ls []) := by
  obtain ⟨hx, hb, hr, hml, hown, hts, hX, hbl, hlocks, hgv⟩ := id C0
  have C : CallFix p m c code 4 s #[Value.ref b] lw_tbl R_law := ⟨hx, hb, hml, hown, hts⟩
  have hA : ∀ q : Nat, s.heap.size ≤ q → (fun q : Nat => s.heap.size ≤ q) q := fun _ h => h
  have hbA : ¬ (fun q : Nat => s.heap.size ≤ q) b := Nat.not_le.mpr hbl
  intro n
  induction n with
  | zero =>
    intro i hn hi3 y z H locs ls hIK hIG hIR hBG hTP hP hD hS hl
    refine lv_iload_n hx hb dL_law_18 rfl (lv_at hl 0 rfl) ?_
    refine lv_aload_n hx hb dL_law_19 rfl (lv_at hl 3 rfl) ?_
    refine va_slen hx hb hX hbl hbA hS dL_law_20 ?_
    refine lv_bipush (v := 6) hx hb dL_law_21 (by decide) ?_
    refine lv_isub hx hb dL_law_23 ?_
    refine lv_icmp_gt (tgt := 1495) hx hb dL_law_24 (by decide) (fun _ => ?_) (fun h => absurd (lw_gt (by omega) hi3 (by omega)) h)
    refine lv_iconst (v := 1) hx hb dL_law_1495 (by decide) ?_
    refine va_forget (fun q hq => hS.2.2 q hq) ?_
    refine W.widen (k := 600000) (n := 7302250) (Nat.le_of_ble_eq_true rfl) (Nat.le_of_ble_eq_true rfl) ?_
    exact lw_ret hx hb hr hlocks dL_law_1496
  | succ n ih =>
    intro i hn hi3 y z H locs ls hIK hIG hIR hBG hTP hP hD hS hl
    refine lv_iload_n hx hb dL_law_18 rfl (lv_at hl 0 rfl) ?_
    refine lv_aload_n hx hb dL_law_19 rfl (lv_at hl 3 rfl) ?_
    refine va_slen hx hb hX hbl hbA hS dL_law_20 ?_
    refine lv_bipush (v := 6) hx hb dL_law_21 (by decide) ?_
    refine lv_isub hx hb dL_law_23 ?_
    refine lv_icmp_gt (tgt := 1495) hx hb dL_law_24 (by decide) (fun _ => ?_) (fun h => ?_)
    · refine lv_iconst (v := 1) hx hb dL_law_1495 (by decide) ?_
      refine va_forget (fun q hq => hS.2.2 q hq) ?_
      refine W.widen (k := 600000) (n := 7302250) (Nat.le_of_ble_eq_true rfl) (Nat.le_of_ble_eq_true rfl) ?_
      exact lw_ret hx hb hr hlocks dL_law_1496
    have hi : i + 6 ≤ L := lw_ngt hL hi3 h
    have kk : ∀ (y : YS) (z : RS) (H : Heap) (locs : List Loc) (ls : Array Slot), InvK y.x.k → InvG y.x.g → InvR z → Big z → TP y z → va_P (dC, dI) vwCl (mwS cB cI cJ cZ hm a9 z ++ wY cB cI cJ cZ cS a b1 b2 c0 bb y) H → va_D (fun q : Nat => s.heap.size ≤ q) (mwS cB cI cJ cZ hm a9 z ++ wY cB cI cJ cZ cS a b1 b2 c0 bb y) → va_S (fun q : Nat => s.heap.size ≤ q) s.heap H locs → lv_has ls 4 [(3, .int (nI i)), (2, .ref hm), (1, .ref (c0 0)), (0, .ref b)] → W p l e room_1 s m #[Value.ref b] below meth c H locs 361 24806 (lw_Z below #[Value.ref b] s) (F0 m 1489 ls []) := by
      intro y z H locs ls hIK hIG hIR hBG hTP hP hD hS hl
      refine lv_iinc (v := nI (i + 6)) (lv' := [(3, .int (nI (i + 6))), (2, .ref hm), (1, .ref (c0 0)), (0, .ref b)]) hx hb dL_law_1489 hl (k := 0) rfl (nI_add i 6) (by decide) rfl (fun ls hl => ?_)
      refine lv_goto (tgt := 18) hx hb dL_law_1492 (by decide) ?_
      exact ih (i + 6) (by omega) (by omega) y z H locs ls hIK hIG hIR hBG hTP hP hD hS hl
    refine lv_aload_n hx hb dL_law_27 rfl (lv_at hl 3 rfl) ?_
    refine lv_iload_n hx hb dL_law_28 rfl (lv_at hl 0 rfl) ?_
    refine va_sld hx hb hX hbl hbA hS (vp_in_nI (by omega) (by omega)) dL_law_29 ?_
    refine lv_bipush (v := 63) hx hb dL_law_30 (by decide) ?_
    refine lv_iand hx hb dL_law_32 ?_
    refine lv_topi (fun x ex => ?_)
    by_cases hx47 : ∀ k : Nat, k < 47 → ¬ x = nI k
    · refine lv_tableOut (tgt := 1489) hx hb dL_law_33 (out_47 hx47) (by decide) ?_
      exact kk y z H locs ls hIK hIG hIR hBG hTP hP hD hS hl
    · obtain ⟨k, hk, rfl⟩ : ∃ k : Nat, k < 47 ∧ x = nI k := by
        by_cases hh : ∃ k : Nat, k < 47 ∧ x = nI k
        · exact hh
        · exact absurd (fun k hk e => hh ⟨k, hk, e⟩) hx47
      match k, hk with
      | 0, _ => exact lv_tableIn (off := 203) (tgt := 236) hx hb dL_law_33 (by decide +kernel) (by decide +kernel) (by decide +kernel) (by decide) (law_case_0 l hL C0 dC dI cB cI cJ cZ cS hK hN ak av hXS a b1 b2 c0 bb hm a9 i hi kk y z H locs ls hIK hIG hIR hBG hTP hP hD hS hl)
      | 1, _ => exact lv_tableIn (off := 266) (tgt := 299) hx hb dL_law_33 (by decide +kernel) (by decide +kernel) (by decide +kernel) (by decide) (law_case_1 l hL C0 dC dI cB cI cJ cZ cS hK hN ak av hXS a b1 b2 c0 bb hm a9 i hi kk y z H locs ls hIK hIG hIR hBG hTP hP hD hS hl)
      | 2, _ => exact lv_tableIn (off := 289) (tgt := 322) hx hb dL_law_33 (by decide +kernel) (by decide +kernel) (by decide +kernel) (by decide) (law_case_2 l hL C0 dC dI cB cI cJ cZ cS hK hN ak av hXS a b1 b2 c0 bb hm a9 i hi kk y z H locs ls hIK hIG hIR hBG hTP hP hD hS hl)
      | 3, _ => exact lv_tableIn (off := 302) (tgt := 335) hx hb dL_law_33 (by decide +kernel) (by decide +kernel) (by decide +kernel) (by decide) (law_case_3 l hL C0 dC dI cB cI cJ cZ cS hK hN ak av hXS a b1 b2 c0 bb hm a9 i hi kk y z H locs ls hIK hIG hIR hBG hTP hP hD hS hl)
      | 4, _ => exact lv_tableIn (off := 315) (tgt := 348) hx hb dL_law_33 (by decide +kernel) (by decide +kernel) (by decide +kernel) (by decide) (law_case_4 l hL C0 dC dI cB cI cJ cZ cS hK hN ak av hXS a b1 b2 c0 bb hm a9 i hi kk y z H locs ls hIK hIG hIR hBG hTP hP hD hS hl)
      | 5, _ => exact lv_tableIn (off := 348) (tgt := 381) hx hb dL_law_33 (by decide +kernel) (by decide +kernel) (by decide +kernel) (by decide) (law_case_5 l hL C0 dC dI cB cI cJ cZ cS hK hN ak av hXS a b1 b2 c0 bb hm a9 i hi kk y z H locs ls hIK hIG hIR hBG hTP hP hD hS hl)
      | 6, _ => exact lv_tableIn (off := 381) (tgt := 414) hx hb dL_law_33 (by decide +kernel) (by decide +kernel) (by decide +kernel) (by decide) (law_case_6 l hL C0 dC dI cB cI cJ cZ cS hK hN ak av hXS a b1 b2 c0 bb hm a9 i hi kk y z H locs ls hIK hIG hIR hBG hTP hP hD hS hl)
      | 7, _ => exact lv_tableIn (off := 414) (tgt := 447) hx hb dL_law_33 (by decide +kernel) (by decide +kernel) (by decide +kernel) (by decide) (law_case_7 l hL C0 dC dI cB cI cJ cZ cS hK hN ak av hXS a b1 b2 c0 bb hm a9 i hi kk y z H locs ls hIK hIG hIR hBG hTP hP hD hS hl)
      | 8, _ => exact lv_tableIn (off := 457) (tgt := 490) hx hb dL_law_33 (by decide +kernel) (by decide +kernel) (by decide +kernel) (by decide) (law_case_8 l hL C0 dC dI cB cI cJ cZ cS hK hN ak av hXS a b1 b2 c0 bb hm a9 i hi kk y z H locs ls hIK hIG hIR hBG hTP hP hD hS hl)
      | 9, _ => exact lv_tableIn (off := 490) (tgt := 523) hx hb dL_law_33 (by decide +kernel) (by decide +kernel) (by decide +kernel) (by decide) (law_case_9 l hL C0 dC dI cB cI cJ cZ cS hK hN ak av hXS a b1 b2 c0 bb hm a9 i hi kk y z H locs ls hIK hIG hIR hBG hTP hP hD hS hl)
      | 10, _ => exact lv_tableIn (off := 549) (tgt := 582) hx hb dL_law_33 (by decide +kernel) (by decide +kernel) (by decide +kernel) (by decide) (law_case_10 l hL C0 dC dI cB cI cJ cZ cS hK hN ak av hXS a b1 b2 c0 bb hm a9 i hi kk y z H locs ls hIK hIG hIR hBG hTP hP hD hS hl)
      | 11, _ => exact lv_tableIn (off := 572) (tgt := 605) hx hb dL_law_33 (by decide +kernel) (by decide +kernel) (by decide +kernel) (by decide) (law_case_11 l hL C0 dC dI cB cI cJ cZ cS hK hN ak av hXS a b1 b2 c0 bb hm a9 i hi kk y z H locs ls hIK hIG hIR hBG hTP hP hD hS hl)
      | 12, _ => exact lv_tableIn (off := 595) (tgt := 628) hx hb dL_law_33 (by decide +kernel) (by decide +kernel) (by decide +kernel) (by decide) (law_case_12 l hL C0 dC dI cB cI cJ cZ cS hK hN ak av hXS a b1 b2 c0 bb hm a9 i hi kk y z H locs ls hIK hIG hIR hBG hTP hP hD hS hl)
      | 13, _ => exact lv_tableIn (off := 608) (tgt := 641) hx hb dL_law_33 (by decide +kernel) (by decide +kernel) (by decide +kernel) (by decide) (law_case_13 l hL C0 dC dI cB cI cJ cZ cS hK hN ak av hXS a b1 b2 c0 bb hm a9 i hi kk y z H locs ls hIK hIG hIR hBG hTP hP hD hS hl)
      | 14, _ => exact lv_tableIn (off := 621) (tgt := 654) hx hb dL_law_33 (by decide +kernel) (by decide +kernel) (by decide +kernel) (by decide) (law_case_14 l hL C0 dC dI cB cI cJ cZ cS hK hN ak av hXS a b1 b2 c0 bb hm a9 i hi kk y z H locs ls hIK hIG hIR hBG hTP hP hD hS hl)
      | 15, _ => exact lv_tableIn (off := 644) (tgt := 677) hx hb dL_law_33 (by decide +kernel) (by decide +kernel) (by decide +kernel) (by decide) (law_case_15 l hL C0 dC dI cB cI cJ cZ cS hK hN ak av hXS a b1 b2 c0 bb hm a9 i hi kk y z H locs ls hIK hIG hIR hBG hTP hP hD hS hl)
      | 16, _ => exact lv_tableIn (off := 657) (tgt := 690) hx hb dL_law_33 (by decide +kernel) (by decide +kernel) (by decide +kernel) (by decide) (law_case_16 l hL C0 dC dI cB cI cJ cZ cS hK hN ak av hXS a b1 b2 c0 bb hm a9 i hi kk y z H locs ls hIK hIG hIR hBG hTP hP hD hS hl)
      | 17, _ => exact lv_tableIn (off := 670) (tgt := 703) hx hb dL_law_33 (by decide +kernel) (by decide +kernel) (by decide +kernel) (by decide) (law_case_17 l hL C0 dC dI cB cI cJ cZ cS hK hN ak av hXS a b1 b2 c0 bb hm a9 i hi kk y z H locs ls hIK hIG hIR hBG hTP hP hD hS hl)
      | 18, _ => exact lv_tableIn (off := 703) (tgt := 736) hx hb dL_law_33 (by decide +kernel) (by decide +kernel) (by decide +kernel) (by decide) (law_case_18 l hL C0 dC dI cB cI cJ cZ cS hK hN ak av hXS a b1 b2 c0 bb hm a9 i hi kk y z H locs ls hIK hIG hIR hBG hTP hP hD hS hl)
      | 19, _ => exact lv_tableIn (off := 726) (tgt := 759) hx hb dL_law_33 (by decide +kernel) (by decide +kernel) (by decide +kernel) (by decide) (law_case_19 l hL C0 dC dI cB cI cJ cZ cS hK hN ak av hXS a b1 b2 c0 bb hm a9 i hi kk y z H locs ls hIK hIG hIR hBG hTP hP hD hS hl)
      | 20, _ => exact lv_tableIn (off := 739) (tgt := 772) hx hb dL_law_33 (by decide +kernel) (by decide +kernel) (by decide +kernel) (by decide) (law_case_20 l hL C0 dC dI cB cI cJ cZ cS hK hN ak av hXS a b1 b2 c0 bb hm a9 i hi kk y z H locs ls hIK hIG hIR hBG hTP hP hD hS hl)
      | 21, _ => exact lv_tableIn (off := 762) (tgt := 795) hx hb dL_law_33 (by decide +kernel) (by decide +kernel) (by decide +kernel) (by decide) (law_case_21 l hL C0 dC dI cB cI cJ cZ cS hK hN ak av hXS a b1 b2 c0 bb hm a9 i hi kk y z H locs ls hIK hIG hIR hBG hTP hP hD hS hl)
      | 22, _ => exact lv_tableIn (off := 785) (tgt := 818) hx hb dL_law_33 (by decide +kernel) (by decide +kernel) (by decide +kernel) (by decide) (law_case_22 l hL C0 dC dI cB cI cJ cZ cS hK hN ak av hXS a b1 b2 c0 bb hm a9 i hi kk y z H locs ls hIK hIG hIR hBG hTP hP hD hS hl)
      | 23, _ => exact lv_tableIn (off := 808) (tgt := 841) hx hb dL_law_33 (by decide +kernel) (by decide +kernel) (by decide +kernel) (by decide) (law_case_23 l hL C0 dC dI cB cI cJ cZ cS hK hN ak av hXS a b1 b2 c0 bb hm a9 i hi kk y z H locs ls hIK hIG hIR hBG hTP hP hD hS hl)
      | 24, _ => exact lv_tableIn (off := 831) (tgt := 864) hx hb dL_law_33 (by decide +kernel) (by decide +kernel) (by decide +kernel) (by decide) (law_case_24 l hL C0 dC dI cB cI cJ cZ cS hK hN ak av hXS a b1 b2 c0 bb hm a9 i hi kk y z H locs ls hIK hIG hIR hBG hTP hP hD hS hl)
      | 25, _ => exact lv_tableIn (off := 864) (tgt := 897) hx hb dL_law_33 (by decide +kernel) (by decide +kernel) (by decide +kernel) (by decide) (law_case_25 l hL C0 dC dI cB cI cJ cZ cS hK hN ak av hXS a b1 b2 c0 bb hm a9 i hi kk y z H locs ls hIK hIG hIR hBG hTP hP hD hS hl)
      | 26, _ => exact lv_tableIn (off := 897) (tgt := 930) hx hb dL_law_33 (by decide +kernel) (by decide +kernel) (by decide +kernel) (by decide) (law_case_26 l hL C0 dC dI cB cI cJ cZ cS hK hN ak av hXS a b1 b2 c0 bb hm a9 i hi kk y z H locs ls hIK hIG hIR hBG hTP hP hD hS hl)
      | 27, _ => exact lv_tableIn (off := 930) (tgt := 963) hx hb dL_law_33 (by decide +kernel) (by decide +kernel) (by decide +kernel) (by decide) (law_case_27 l hL C0 dC dI cB cI cJ cZ cS hK hN ak av hXS a b1 b2 c0 bb hm a9 i hi kk y z H locs ls hIK hIG hIR hBG hTP hP hD hS hl)
      | 28, _ => exact lv_tableIn (off := 953) (tgt := 986) hx hb dL_law_33 (by decide +kernel) (by decide +kernel) (by decide +kernel) (by decide) (law_case_28 l hL C0 dC dI cB cI cJ cZ cS hK hN ak av hXS a b1 b2 c0 bb hm a9 i hi kk y z H locs ls hIK hIG hIR hBG hTP hP hD hS hl)
      | 29, _ => exact lv_tableIn (off := 966) (tgt := 999) hx hb dL_law_33 (by decide +kernel) (by decide +kernel) (by decide +kernel) (by decide) (law_case_29 l hL C0 dC dI cB cI cJ cZ cS hK hN ak av hXS a b1 b2 c0 bb hm a9 i hi kk y z H locs ls hIK hIG hIR hBG hTP hP hD hS hl)
      | 30, _ => exact lv_tableIn (off := 989) (tgt := 1022) hx hb dL_law_33 (by decide +kernel) (by decide +kernel) (by decide +kernel) (by decide) (law_case_30 l hL C0 dC dI cB cI cJ cZ cS hK hN ak av hXS a b1 b2 c0 bb hm a9 i hi kk y z H locs ls hIK hIG hIR hBG hTP hP hD hS hl)
      | 31, _ => exact lv_tableIn (off := 1012) (tgt := 1045) hx hb dL_law_33 (by decide +kernel) (by decide +kernel) (by decide +kernel) (by decide) (law_case_31 l hL C0 dC dI cB cI cJ cZ cS hK hN ak av hXS a b1 b2 c0 bb hm a9 i hi kk y z H locs ls hIK hIG hIR hBG hTP hP hD hS hl)
      | 32, _ => exact lv_tableIn (off := 1025) (tgt := 1058) hx hb dL_law_33 (by decide +kernel) (by decide +kernel) (by decide +kernel) (by decide) (law_case_32 l hL C0 dC dI cB cI cJ cZ cS hK hN ak av hXS a b1 b2 c0 bb hm a9 i hi kk y z H locs ls hIK hIG hIR hBG hTP hP hD hS hl)
      | 33, _ => exact lv_tableIn (off := 1048) (tgt := 1081) hx hb dL_law_33 (by decide +kernel) (by decide +kernel) (by decide +kernel) (by decide) (law_case_33 l hL C0 dC dI cB cI cJ cZ cS hK hN ak av hXS a b1 b2 c0 bb hm a9 i hi kk y z H locs ls hIK hIG hIR hBG hTP hP hD hS hl)
      | 34, _ => exact lv_tableIn (off := 1061) (tgt := 1094) hx hb dL_law_33 (by decide +kernel) (by decide +kernel) (by decide +kernel) (by decide) (law_case_34 l hL C0 dC dI cB cI cJ cZ cS hK hN ak av hXS a b1 b2 c0 bb hm a9 i hi kk y z H locs ls hIK hIG hIR hBG hTP hP hD hS hl)
      | 35, _ => exact lv_tableIn (off := 1074) (tgt := 1107) hx hb dL_law_33 (by decide +kernel) (by decide +kernel) (by decide +kernel) (by decide) (law_case_35 l hL C0 dC dI cB cI cJ cZ cS hK hN ak av hXS a b1 b2 c0 bb hm a9 i hi kk y z H locs ls hIK hIG hIR hBG hTP hP hD hS hl)
      | 36, _ => exact lv_tableIn (off := 1117) (tgt := 1150) hx hb dL_law_33 (by decide +kernel) (by decide +kernel) (by decide +kernel) (by decide) (law_case_36 l hL C0 dC dI cB cI cJ cZ cS hK hN ak av hXS a b1 b2 c0 bb hm a9 i hi kk y z H locs ls hIK hIG hIR hBG hTP hP hD hS hl)
      | 37, _ => exact lv_tableIn (off := 1140) (tgt := 1173) hx hb dL_law_33 (by decide +kernel) (by decide +kernel) (by decide +kernel) (by decide) (law_case_37 l hL C0 dC dI cB cI cJ cZ cS hK hN ak av hXS a b1 b2 c0 bb hm a9 i hi kk y z H locs ls hIK hIG hIR hBG hTP hP hD hS hl)
      | 38, _ => exact lv_tableIn (off := 1173) (tgt := 1206) hx hb dL_law_33 (by decide +kernel) (by decide +kernel) (by decide +kernel) (by decide) (law_case_38 l hL C0 dC dI cB cI cJ cZ cS hK hN ak av hXS a b1 b2 c0 bb hm a9 i hi kk y z H locs ls hIK hIG hIR hBG hTP hP hD hS hl)
      | 39, _ => exact lv_tableIn (off := 1206) (tgt := 1239) hx hb dL_law_33 (by decide +kernel) (by decide +kernel) (by decide +kernel) (by decide) (law_case_39 l hL C0 dC dI cB cI cJ cZ cS hK hN ak av hXS a b1 b2 c0 bb hm a9 i hi kk y z H locs ls hIK hIG hIR hBG hTP hP hD hS hl)
      | 40, _ => exact lv_tableIn (off := 1265) (tgt := 1298) hx hb dL_law_33 (by decide +kernel) (by decide +kernel) (by decide +kernel) (by decide) (law_case_40 l hL C0 dC dI cB cI cJ cZ cS hK hN ak av hXS a b1 b2 c0 bb hm a9 i hi kk y z H locs ls hIK hIG hIR hBG hTP hP hD hS hl)
      | 41, _ => exact lv_tableIn (off := 1278) (tgt := 1311) hx hb dL_law_33 (by decide +kernel) (by decide +kernel) (by decide +kernel) (by decide) (law_case_41 l hL C0 dC dI cB cI cJ cZ cS hK hN ak av hXS a b1 b2 c0 bb hm a9 i hi kk y z H locs ls hIK hIG hIR hBG hTP hP hD hS hl)
      | 42, _ => exact lv_tableIn (off := 1321) (tgt := 1354) hx hb dL_law_33 (by decide +kernel) (by decide +kernel) (by decide +kernel) (by decide) (law_case_42 l hL C0 dC dI cB cI cJ cZ cS hK hN ak av hXS a b1 b2 c0 bb hm a9 i hi kk y z H locs ls hIK hIG hIR hBG hTP hP hD hS hl)
      | 43, _ => exact lv_tableIn (off := 1354) (tgt := 1387) hx hb dL_law_33 (by decide +kernel) (by decide +kernel) (by decide +kernel) (by decide) (law_case_43 l hL C0 dC dI cB cI cJ cZ cS hK hN ak av hXS a b1 b2 c0 bb hm a9 i hi kk y z H locs ls hIK hIG hIR hBG hTP hP hD hS hl)
      | 44, _ => exact lv_tableIn (off := 1387) (tgt := 1420) hx hb dL_law_33 (by decide +kernel) (by decide +kernel) (by decide +kernel) (by decide) (law_case_44 l hL C0 dC dI cB cI cJ cZ cS hK hN ak av hXS a b1 b2 c0 bb hm a9 i hi kk y z H locs ls hIK hIG hIR hBG hTP hP hD hS hl)
      | 45, _ => exact lv_tableIn (off := 1410) (tgt := 1443) hx hb dL_law_33 (by decide +kernel) (by decide +kernel) (by decide +kernel) (by decide) (law_case_45 l hL C0 dC dI cB cI cJ cZ cS hK hN ak av hXS a b1 b2 c0 bb hm a9 i hi kk y z H locs ls hIK hIG hIR hBG hTP hP hD hS hl)
      | 46, _ => exact lv_tableIn (off := 1433) (tgt := 1466) hx hb dL_law_33 (by decide +kernel) (by decide +kernel) (by decide +kernel) (by decide) (law_case_46 l hL C0 dC dI cB cI cJ cZ cS hK hN ak av hXS a b1 b2 c0 bb hm a9 i hi kk y z H locs ls hIK hIG hIR hBG hTP hP hD hS hl)
      | k + 47, hk => exact absurd hk (by omega)
