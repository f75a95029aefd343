section
theorem dL_law_18 : decode cL_law 18 = .ok (.iload_n 3, 1) := dc1_29 (by decide +kernel)
theorem dL_law_19 : decode cL_law 19 = .ok (.aload_n 0, 1) := dc1_42 (by decide +kernel)
theorem dL_law_20 : decode cL_law 20 = .ok (.arraylength, 1) := dc1_190 (by decide +kernel)
theorem dL_law_21 : decode cL_law 21 = .ok (.bipush 6, 2) := dcb_16 (n := 6) (by decide +kernel)
theorem dL_law_23 : decode cL_law 23 = .ok (.isub, 1) := dc1_100 (by decide +kernel)
theorem dL_law_24 : decode cL_law 24 = .ok (.if_icmp .gt 1471, 3) := dcs_163 (n := 1471) (by decide +kernel)
theorem dL_law_27 : decode cL_law 27 = .ok (.aload_n 0, 1) := dc1_42 (by decide +kernel)
theorem dL_law_28 : decode cL_law 28 = .ok (.iload_n 3, 1) := dc1_29 (by decide +kernel)
theorem dL_law_29 : decode cL_law 29 = .ok (.iaload, 1) := dc1_46 (by decide +kernel)
theorem dL_law_30 : decode cL_law 30 = .ok (.bipush 63, 2) := dcb_16 (n := 63) (by decide +kernel)
theorem dL_law_32 : decode cL_law 32 = .ok (.iand, 1) := dc1_126 (by decide +kernel)
theorem dL_law_33 : decode cL_law 33 = .ok (.tableswitch 1456 0 46 #[203, 266, 289, 302, 315, 348, 381, 414, 457, 490, 549, 572, 595, 608, 621, 644, 657, 670, 703, 726, 739, 762, 785, 808, 831, 864, 897, 930, 953, 966, 989, 1012, 1025, 1048, 1061, 1074, 1117, 1140, 1173, 1206, 1265, 1278, 1321, 1354, 1387, 1410, 1433], 203) := by decide +kernel
theorem dL_law_1489 : decode cL_law 1489 = .ok (.iinc 3 6, 3) := dc_iinc (m := 6) (by decide +kernel)
theorem dL_law_1492 : decode cL_law 1492 = .ok (.goto (-1474), 3) := dcs_167 (n := 64062) (by decide +kernel)
theorem dL_law_1495 : decode cL_law 1495 = .ok (.iconst 1, 1) := dc1_4 (by decide +kernel)
theorem dL_law_1496 : decode cL_law 1496 = .ok (.ireturn, 1) := dc1_172 (by decide +kernel)
theorem lw_gt {i L : Nat} (hL : L ≤ 3072) (hi : i ≤ 3078) (h : L < i + 6) : nI i > Int32.ofNat L - 6 := by
  have h1 : (Int32.ofNat L).toInt = (L : Int) := nI_toInt (n := L) (by omega)
  have h2 : (nI i).toInt = (i : Int) := nI_toInt (by omega)
  have h3 : (Int32.ofNat L - 6).toInt = (L : Int) - 6 := tn_sub h1 (by decide) (by omega) (by omega)
  exact Int32.lt_iff_toInt_lt.mpr (by rw [h2, h3]; omega)
theorem lw_ngt {i L : Nat} (hL : L ≤ 3072) (hi : i ≤ 3078) (h : ¬ nI i > Int32.ofNat L - 6) : i + 6 ≤ L := by
  by_cases q : L < i + 6
  · exact absurd (lw_gt hL hi q) h
  · omega
set_option maxHeartbeats 4000000 in
set_option maxRecDepth 100000 in
theorem law_loop {p : Program} {e : Env} {s : State} {m : MethodId} {below : List Frame} {meth : Method} {c : Code} (l : Launch) {b L : Nat} {xs : Nat → Int32} (hL : L ≤ 3072) (C0 : lw_At p s m meth c b L xs) (dC : Nat → ClassId) (dI : Nat → Nat → Nat) (cB cI cJ cZ cS : ClassId) (hK : va_K (dC, dI) vwCl (tysA cB cI cJ cZ cS) s) (hN : nw_ok s) (ak av : Nat) (hXS : xS ak av (fun q : Nat => s.heap.size ≤ q) s s.heap) (a b1 b2 c0 : Nat → Nat) (bb : Nat → Nat → Nat) (hm : Nat) (a9 : Nat → Nat) : ∀ (n i : Nat), L < i + 6 * n → i ≤ 3078 → ∀ (y : YS) (z : RS) (H : Heap) (locs : List Loc) (ls : Array Slot), InvK y.x.k → InvG y.x.g → InvR z → Big z → TP y z → va_P (dC, dI) vwCl (mwS cB cI cJ cZ hm a9 z ++ wY cB cI cJ cZ cS a b1 b2 c0 bb y) H → va_D (fun q : Nat => s.heap.size ≤ q) (mwS cB cI cJ cZ hm a9 z ++ wY cB cI cJ cZ cS a b1 b2 c0 bb y) → va_S (fun q : Nat => s.heap.size ≤ q) s.heap H locs → lv_has ls 4 [(3, .int (nI i)), (2, .ref hm), (1, .ref (c0 0)), (0, .ref b)] → W p l e room_1 s m #[Value.ref b] below meth c H locs 361 24806 (lw_Z below #[Value.ref b] s) (F0 m 18 ls []) := by
  obtain ⟨hx, hb, hr, hml, hown, hts, hX, hbl, hlocks, hgv⟩ := id C0
  have C : CallFix p m c code 4 s #[Value.ref b] lw_tbl R_law := ⟨hx, hb, hml, hown, hts⟩
  have hA : ∀ q : Nat, s.heap.size ≤ q → (fun q : Nat => s.heap.size ≤ q) q := fun _ h => h
  have hbA : ¬ (fun q : Nat => s.heap.size ≤ q) b := Nat.not_le.mpr hbl
  intro n
  induction n with
  | zero =>
    intro i hn hi3 y z H locs ls hIK hIG hIR hBG hTP hP hD hS hl
    refine lv_iload_n hx hb dL_law_18 rfl (lv_at hl 0 rfl) ?_
    refine lv_aload_n hx hb dL_law_19 rfl (lv_at hl 3 rfl) ?_
    refine va_slen hx hb hX hbl hbA hS dL_law_20 ?_
    refine lv_bipush (v := 6) hx hb dL_law_21 (by decide) ?_
    refine lv_isub hx hb dL_law_23 ?_
    refine lv_icmp_gt (tgt := 1495) hx hb dL_law_24 (by decide) (fun _ => ?_) (fun h => absurd (lw_gt (by omega) hi3 (by omega)) h)
    refine lv_iconst (v := 1) hx hb dL_law_1495 (by decide) ?_
    refine va_forget (fun q hq => hS.2.2 q hq) ?_
    refine W.widen (k := 600000) (n := 7302250) (Nat.le_of_ble_eq_true rfl) (Nat.le_of_ble_eq_true rfl) ?_
    exact lw_ret hx hb hr hlocks dL_law_1496
  | succ n ih =>
    intro i hn hi3 y z H locs ls hIK hIG hIR hBG hTP hP hD hS hl
    refine lv_iload_n hx hb dL_law_18 rfl (lv_at hl 0 rfl) ?_
    refine lv_aload_n hx hb dL_law_19 rfl (lv_at hl 3 rfl) ?_
    refine va_slen hx hb hX hbl hbA hS dL_law_20 ?_
    refine lv_bipush (v := 6) hx hb dL_law_21 (by decide) ?_
    refine lv_isub hx hb dL_law_23 ?_
    refine lv_icmp_gt (tgt := 1495) hx hb dL_law_24 (by decide) (fun _ => ?_) (fun h => ?_)
    · refine lv_iconst (v := 1) hx hb dL_law_1495 (by decide) ?_
      refine va_forget (fun q hq => hS.2.2 q hq) ?_
      refine W.widen (k := 600000) (n := 7302250) (Nat.le_of_ble_eq_true rfl) (Nat.le_of_ble_eq_true rfl) ?_
      exact lw_ret hx hb hr hlocks dL_law_1496
    have hi : i + 6 ≤ L := lw_ngt hL hi3 h
    have kk : ∀ (y : YS) (z : RS) (H : Heap) (locs : List Loc) (ls : Array Slot), InvK y.x.k → InvG y.x.g → InvR z → Big z → TP y z → va_P (dC, dI) vwCl (mwS cB cI cJ cZ hm a9 z ++ wY cB cI cJ cZ cS a b1 b2 c0 bb y) H → va_D (fun q : Nat => s.heap.size ≤ q) (mwS cB cI cJ cZ hm a9 z ++ wY cB cI cJ cZ cS a b1 b2 c0 bb y) → va_S (fun q : Nat => s.heap.size ≤ q) s.heap H locs → lv_has ls 4 [(3, .int (nI i)), (2, .ref hm), (1, .ref (c0 0)), (0, .ref b)] → W p l e room_1 s m #[Value.ref b] below meth c H locs 361 24806 (lw_Z below #[Value.ref b] s) (F0 m 1489 ls []) := by
      intro y z H locs ls hIK hIG hIR hBG hTP hP hD hS hl
      refine lv_iinc (v := nI (i + 6)) (lv' := [(3, .int (nI (i + 6))), (2, .ref hm), (1, .ref (c0 0)), (0, .ref b)]) hx hb dL_law_1489 hl (k := 0) rfl (nI_add i 6) (by decide) rfl (fun ls hl => ?_)
      refine lv_goto (tgt := 18) hx hb dL_law_1492 (by decide) ?_
      exact ih (i + 6) (by omega) (by omega) y z H locs ls hIK hIG hIR hBG hTP hP hD hS hl
    refine lv_aload_n hx hb dL_law_27 rfl (lv_at hl 3 rfl) ?_
    refine lv_iload_n hx hb dL_law_28 rfl (lv_at hl 0 rfl) ?_
    refine va_sld hx hb hX hbl hbA hS (vp_in_nI (by omega) (by omega)) dL_law_29 ?_
    refine lv_bipush (v := 63) hx hb dL_law_30 (by decide) ?_
    refine lv_iand hx hb dL_law_32 ?_
    refine lv_topi (fun x ex => ?_)
    by_cases hx47 : ∀ k : Nat, k < 47 → ¬ x = nI k
    · refine lv_tableOut (tgt := 1489) hx hb dL_law_33 (out_47 hx47) (by decide) ?_
      exact kk y z H locs ls hIK hIG hIR hBG hTP hP hD hS hl
    · obtain ⟨k, hk, rfl⟩ : ∃ k : Nat, k < 47 ∧ x = nI k := by
        by_cases hh : ∃ k : Nat, k < 47 ∧ x = nI k
        · exact hh
        · exact absurd (fun k hk e => hh ⟨k, hk, e⟩) hx47
      match k, hk with
      | 0, _ => exact lv_tableIn (off := 203) (tgt := 236) hx hb dL_law_33 (by decide +kernel) (by decide +kernel) (by decide +kernel) (by decide) (law_case_0 l hL C0 dC dI cB cI cJ cZ cS hK hN ak av hXS a b1 b2 c0 bb hm a9 i hi kk y z H locs ls hIK hIG hIR hBG hTP hP hD hS hl)
      | 1, _ => exact lv_tableIn (off := 266) (tgt := 299) hx hb dL_law_33 (by decide +kernel) (by decide +kernel) (by decide +kernel) (by decide) (law_case_1 l hL C0 dC dI cB cI cJ cZ cS hK hN ak av hXS a b1 b2 c0 bb hm a9 i hi kk y z H locs ls hIK hIG hIR hBG hTP hP hD hS hl)
      | 2, _ => exact lv_tableIn (off := 289) (tgt := 322) hx hb dL_law_33 (by decide +kernel) (by decide +kernel) (by decide +kernel) (by decide) (law_case_2 l hL C0 dC dI cB cI cJ cZ cS hK hN ak av hXS a b1 b2 c0 bb hm a9 i hi kk y z H locs ls hIK hIG hIR hBG hTP hP hD hS hl)
      | 3, _ => exact lv_tableIn (off := 302) (tgt := 335) hx hb dL_law_33 (by decide +kernel) (by decide +kernel) (by decide +kernel) (by decide) (law_case_3 l hL C0 dC dI cB cI cJ cZ cS hK hN ak av hXS a b1 b2 c0 bb hm a9 i hi kk y z H locs ls hIK hIG hIR hBG hTP hP hD hS hl)
      | 4, _ => exact lv_tableIn (off := 315) (tgt := 348) hx hb dL_law_33 (by decide +kernel) (by decide +kernel) (by decide +kernel) (by decide) (law_case_4 l hL C0 dC dI cB cI cJ cZ cS hK hN ak av hXS a b1 b2 c0 bb hm a9 i hi kk y z H locs ls hIK hIG hIR hBG hTP hP hD hS hl)
      | 5, _ => exact lv_tableIn (off := 348) (tgt := 381) hx hb dL_law_33 (by decide +kernel) (by decide +kernel) (by decide +kernel) (by decide) (law_case_5 l hL C0 dC dI cB cI cJ cZ cS hK hN ak av hXS a b1 b2 c0 bb hm a9 i hi kk y z H locs ls hIK hIG hIR hBG hTP hP hD hS hl)
      | 6, _ => exact lv_tableIn (off := 381) (tgt := 414) hx hb dL_law_33 (by decide +kernel) (by decide +kernel) (by decide +kernel) (by decide) (law_case_6 l hL C0 dC dI cB cI cJ cZ cS hK hN ak av hXS a b1 b2 c0 bb hm a9 i hi kk y z H locs ls hIK hIG hIR hBG hTP hP hD hS hl)
      | 7, _ => exact lv_tableIn (off := 414) (tgt := 447) hx hb dL_law_33 (by decide +kernel) (by decide +kernel) (by decide +kernel) (by decide) (law_case_7 l hL C0 dC dI cB cI cJ cZ cS hK hN ak av hXS a b1 b2 c0 bb hm a9 i hi kk y z H locs ls hIK hIG hIR hBG hTP hP hD hS hl)
      | 8, _ => exact lv_tableIn (off := 457) (tgt := 490) hx hb dL_law_33 (by decide +kernel) (by decide +kernel) (by decide +kernel) (by decide) (law_case_8 l hL C0 dC dI cB cI cJ cZ cS hK hN ak av hXS a b1 b2 c0 bb hm a9 i hi kk y z H locs ls hIK hIG hIR hBG hTP hP hD hS hl)
      | 9, _ => exact lv_tableIn (off := 490) (tgt := 523) hx hb dL_law_33 (by decide +kernel) (by decide +kernel) (by decide +kernel) (by decide) (law_case_9 l hL C0 dC dI cB cI cJ cZ cS hK hN ak av hXS a b1 b2 c0 bb hm a9 i hi kk y z H locs ls hIK hIG hIR hBG hTP hP hD hS hl)
      | 10, _ => exact lv_tableIn (off := 549) (tgt := 582) hx hb dL_law_33 (by decide +kernel) (by decide +kernel) (by decide +kernel) (by decide) (law_case_10 l hL C0 dC dI cB cI cJ cZ cS hK hN ak av hXS a b1 b2 c0 bb hm a9 i hi kk y z H locs ls hIK hIG hIR hBG hTP hP hD hS hl)
      | 11, _ => exact lv_tableIn (off := 572) (tgt := 605) hx hb dL_law_33 (by decide +kernel) (by decide +kernel) (by decide +kernel) (by decide) (law_case_11 l hL C0 dC dI cB cI cJ cZ cS hK hN ak av hXS a b1 b2 c0 bb hm a9 i hi kk y z H locs ls hIK hIG hIR hBG hTP hP hD hS hl)
      | 12, _ => exact lv_tableIn (off := 595) (tgt := 628) hx hb dL_law_33 (by decide +kernel) (by decide +kernel) (by decide +kernel) (by decide) (law_case_12 l hL C0 dC dI cB cI cJ cZ cS hK hN ak av hXS a b1 b2 c0 bb hm a9 i hi kk y z H locs ls hIK hIG hIR hBG hTP hP hD hS hl)
      | 13, _ => exact lv_tableIn (off := 608) (tgt := 641) hx hb dL_law_33 (by decide +kernel) (by decide +kernel) (by decide +kernel) (by decide) (law_case_13 l hL C0 dC dI cB cI cJ cZ cS hK hN ak av hXS a b1 b2 c0 bb hm a9 i hi kk y z H locs ls hIK hIG hIR hBG hTP hP hD hS hl)
      | 14, _ => exact lv_tableIn (off := 621) (tgt := 654) hx hb dL_law_33 (by decide +kernel) (by decide +kernel) (by decide +kernel) (by decide) (law_case_14 l hL C0 dC dI cB cI cJ cZ cS hK hN ak av hXS a b1 b2 c0 bb hm a9 i hi kk y z H locs ls hIK hIG hIR hBG hTP hP hD hS hl)
      | 15, _ => exact lv_tableIn (off := 644) (tgt := 677) hx hb dL_law_33 (by decide +kernel) (by decide +kernel) (by decide +kernel) (by decide) (law_case_15 l hL C0 dC dI cB cI cJ cZ cS hK hN ak av hXS a b1 b2 c0 bb hm a9 i hi kk y z H locs ls hIK hIG hIR hBG hTP hP hD hS hl)
      | 16, _ => exact lv_tableIn (off := 657) (tgt := 690) hx hb dL_law_33 (by decide +kernel) (by decide +kernel) (by decide +kernel) (by decide) (law_case_16 l hL C0 dC dI cB cI cJ cZ cS hK hN ak av hXS a b1 b2 c0 bb hm a9 i hi kk y z H locs ls hIK hIG hIR hBG hTP hP hD hS hl)
      | 17, _ => exact lv_tableIn (off := 670) (tgt := 703) hx hb dL_law_33 (by decide +kernel) (by decide +kernel) (by decide +kernel) (by decide) (law_case_17 l hL C0 dC dI cB cI cJ cZ cS hK hN ak av hXS a b1 b2 c0 bb hm a9 i hi kk y z H locs ls hIK hIG hIR hBG hTP hP hD hS hl)
      | 18, _ => exact lv_tableIn (off := 703) (tgt := 736) hx hb dL_law_33 (by decide +kernel) (by decide +kernel) (by decide +kernel) (by decide) (law_case_18 l hL C0 dC dI cB cI cJ cZ cS hK hN ak av hXS a b1 b2 c0 bb hm a9 i hi kk y z H locs ls hIK hIG hIR hBG hTP hP hD hS hl)
      | 19, _ => exact lv_tableIn (off := 726) (tgt := 759) hx hb dL_law_33 (by decide +kernel) (by decide +kernel) (by decide +kernel) (by decide) (law_case_19 l hL C0 dC dI cB cI cJ cZ cS hK hN ak av hXS a b1 b2 c0 bb hm a9 i hi kk y z H locs ls hIK hIG hIR hBG hTP hP hD hS hl)
      | 20, _ => exact lv_tableIn (off := 739) (tgt := 772) hx hb dL_law_33 (by decide +kernel) (by decide +kernel) (by decide +kernel) (by decide) (law_case_20 l hL C0 dC dI cB cI cJ cZ cS hK hN ak av hXS a b1 b2 c0 bb hm a9 i hi kk y z H locs ls hIK hIG hIR hBG hTP hP hD hS hl)
      | 21, _ => exact lv_tableIn (off := 762) (tgt := 795) hx hb dL_law_33 (by decide +kernel) (by decide +kernel) (by decide +kernel) (by decide) (law_case_21 l hL C0 dC dI cB cI cJ cZ cS hK hN ak av hXS a b1 b2 c0 bb hm a9 i hi kk y z H locs ls hIK hIG hIR hBG hTP hP hD hS hl)
      | 22, _ => exact lv_tableIn (off := 785) (tgt := 818) hx hb dL_law_33 (by decide +kernel) (by decide +kernel) (by decide +kernel) (by decide) (law_case_22 l hL C0 dC dI cB cI cJ cZ cS hK hN ak av hXS a b1 b2 c0 bb hm a9 i hi kk y z H locs ls hIK hIG hIR hBG hTP hP hD hS hl)
      | 23, _ => exact lv_tableIn (off := 808) (tgt := 841) hx hb dL_law_33 (by decide +kernel) (by decide +kernel) (by decide +kernel) (by decide) (law_case_23 l hL C0 dC dI cB cI cJ cZ cS hK hN ak av hXS a b1 b2 c0 bb hm a9 i hi kk y z H locs ls hIK hIG hIR hBG hTP hP hD hS hl)
      | 24, _ => exact lv_tableIn (off := 831) (tgt := 864) hx hb dL_law_33 (by decide +kernel) (by decide +kernel) (by decide +kernel) (by decide) (law_case_24 l hL C0 dC dI cB cI cJ cZ cS hK hN ak av hXS a b1 b2 c0 bb hm a9 i hi kk y z H locs ls hIK hIG hIR hBG hTP hP hD hS hl)
      | 25, _ => exact lv_tableIn (off := 864) (tgt := 897) hx hb dL_law_33 (by decide +kernel) (by decide +kernel) (by decide +kernel) (by decide) (law_case_25 l hL C0 dC dI cB cI cJ cZ cS hK hN ak av hXS a b1 b2 c0 bb hm a9 i hi kk y z H locs ls hIK hIG hIR hBG hTP hP hD hS hl)
      | 26, _ => exact lv_tableIn (off := 897) (tgt := 930) hx hb dL_law_33 (by decide +kernel) (by decide +kernel) (by decide +kernel) (by decide) (law_case_26 l hL C0 dC dI cB cI cJ cZ cS hK hN ak av hXS a b1 b2 c0 bb hm a9 i hi kk y z H locs ls hIK hIG hIR hBG hTP hP hD hS hl)
      | 27, _ => exact lv_tableIn (off := 930) (tgt := 963) hx hb dL_law_33 (by decide +kernel) (by decide +kernel) (by decide +kernel) (by decide) (law_case_27 l hL C0 dC dI cB cI cJ cZ cS hK hN ak av hXS a b1 b2 c0 bb hm a9 i hi kk y z H locs ls hIK hIG hIR hBG hTP hP hD hS hl)
      | 28, _ => exact lv_tableIn (off := 953) (tgt := 986) hx hb dL_law_33 (by decide +kernel) (by decide +kernel) (by decide +kernel) (by decide) (law_case_28 l hL C0 dC dI cB cI cJ cZ cS hK hN ak av hXS a b1 b2 c0 bb hm a9 i hi kk y z H locs ls hIK hIG hIR hBG hTP hP hD hS hl)
      | 29, _ => exact lv_tableIn (off := 966) (tgt := 999) hx hb dL_law_33 (by decide +kernel) (by decide +kernel) (by decide +kernel) (by decide) (law_case_29 l hL C0 dC dI cB cI cJ cZ cS hK hN ak av hXS a b1 b2 c0 bb hm a9 i hi kk y z H locs ls hIK hIG hIR hBG hTP hP hD hS hl)
      | 30, _ => exact lv_tableIn (off := 989) (tgt := 1022) hx hb dL_law_33 (by decide +kernel) (by decide +kernel) (by decide +kernel) (by decide) (law_case_30 l hL C0 dC dI cB cI cJ cZ cS hK hN ak av hXS a b1 b2 c0 bb hm a9 i hi kk y z H locs ls hIK hIG hIR hBG hTP hP hD hS hl)
      | 31, _ => exact lv_tableIn (off := 1012) (tgt := 1045) hx hb dL_law_33 (by decide +kernel) (by decide +kernel) (by decide +kernel) (by decide) (law_case_31 l hL C0 dC dI cB cI cJ cZ cS hK hN ak av hXS a b1 b2 c0 bb hm a9 i hi kk y z H locs ls hIK hIG hIR hBG hTP hP hD hS hl)
      | 32, _ => exact lv_tableIn (off := 1025) (tgt := 1058) hx hb dL_law_33 (by decide +kernel) (by decide +kernel) (by decide +kernel) (by decide) (law_case_32 l hL C0 dC dI cB cI cJ cZ cS hK hN ak av hXS a b1 b2 c0 bb hm a9 i hi kk y z H locs ls hIK hIG hIR hBG hTP hP hD hS hl)
      | 33, _ => exact lv_tableIn (off := 1048) (tgt := 1081) hx hb dL_law_33 (by decide +kernel) (by decide +kernel) (by decide +kernel) (by decide) (law_case_33 l hL C0 dC dI cB cI cJ cZ cS hK hN ak av hXS a b1 b2 c0 bb hm a9 i hi kk y z H locs ls hIK hIG hIR hBG hTP hP hD hS hl)
      | 34, _ => exact lv_tableIn (off := 1061) (tgt := 1094) hx hb dL_law_33 (by decide +kernel) (by decide +kernel) (by decide +kernel) (by decide) (law_case_34 l hL C0 dC dI cB cI cJ cZ cS hK hN ak av hXS a b1 b2 c0 bb hm a9 i hi kk y z H locs ls hIK hIG hIR hBG hTP hP hD hS hl)
      | 35, _ => exact lv_tableIn (off := 1074) (tgt := 1107) hx hb dL_law_33 (by decide +kernel) (by decide +kernel) (by decide +kernel) (by decide) (law_case_35 l hL C0 dC dI cB cI cJ cZ cS hK hN ak av hXS a b1 b2 c0 bb hm a9 i hi kk y z H locs ls hIK hIG hIR hBG hTP hP hD hS hl)
      | 36, _ => exact lv_tableIn (off := 1117) (tgt := 1150) hx hb dL_law_33 (by decide +kernel) (by decide +kernel) (by decide +kernel) (by decide) (law_case_36 l hL C0 dC dI cB cI cJ cZ cS hK hN ak av hXS a b1 b2 c0 bb hm a9 i hi kk y z H locs ls hIK hIG hIR hBG hTP hP hD hS hl)
      | 37, _ => exact lv_tableIn (off := 1140) (tgt := 1173) hx hb dL_law_33 (by decide +kernel) (by decide +kernel) (by decide +kernel) (by decide) (law_case_37 l hL C0 dC dI cB cI cJ cZ cS hK hN ak av hXS a b1 b2 c0 bb hm a9 i hi kk y z H locs ls hIK hIG hIR hBG hTP hP hD hS hl)
      | 38, _ => exact lv_tableIn (off := 1173) (tgt := 1206) hx hb dL_law_33 (by decide +kernel) (by decide +kernel) (by decide +kernel) (by decide) (law_case_38 l hL C0 dC dI cB cI cJ cZ cS hK hN ak av hXS a b1 b2 c0 bb hm a9 i hi kk y z H locs ls hIK hIG hIR hBG hTP hP hD hS hl)
      | 39, _ => exact lv_tableIn (off := 1206) (tgt := 1239) hx hb dL_law_33 (by decide +kernel) (by decide +kernel) (by decide +kernel) (by decide) (law_case_39 l hL C0 dC dI cB cI cJ cZ cS hK hN ak av hXS a b1 b2 c0 bb hm a9 i hi kk y z H locs ls hIK hIG hIR hBG hTP hP hD hS hl)
      | 40, _ => exact lv_tableIn (off := 1265) (tgt := 1298) hx hb dL_law_33 (by decide +kernel) (by decide +kernel) (by decide +kernel) (by decide) (law_case_40 l hL C0 dC dI cB cI cJ cZ cS hK hN ak av hXS a b1 b2 c0 bb hm a9 i hi kk y z H locs ls hIK hIG hIR hBG hTP hP hD hS hl)
      | 41, _ => exact lv_tableIn (off := 1278) (tgt := 1311) hx hb dL_law_33 (by decide +kernel) (by decide +kernel) (by decide +kernel) (by decide) (law_case_41 l hL C0 dC dI cB cI cJ cZ cS hK hN ak av hXS a b1 b2 c0 bb hm a9 i hi kk y z H locs ls hIK hIG hIR hBG hTP hP hD hS hl)
      | 42, _ => exact lv_tableIn (off := 1321) (tgt := 1354) hx hb dL_law_33 (by decide +kernel) (by decide +kernel) (by decide +kernel) (by decide) (law_case_42 l hL C0 dC dI cB cI cJ cZ cS hK hN ak av hXS a b1 b2 c0 bb hm a9 i hi kk y z H locs ls hIK hIG hIR hBG hTP hP hD hS hl)
      | 43, _ => exact lv_tableIn (off := 1354) (tgt := 1387) hx hb dL_law_33 (by decide +kernel) (by decide +kernel) (by decide +kernel) (by decide) (law_case_43 l hL C0 dC dI cB cI cJ cZ cS hK hN ak av hXS a b1 b2 c0 bb hm a9 i hi kk y z H locs ls hIK hIG hIR hBG hTP hP hD hS hl)
      | 44, _ => exact lv_tableIn (off := 1387) (tgt := 1420) hx hb dL_law_33 (by decide +kernel) (by decide +kernel) (by decide +kernel) (by decide) (law_case_44 l hL C0 dC dI cB cI cJ cZ cS hK hN ak av hXS a b1 b2 c0 bb hm a9 i hi kk y z H locs ls hIK hIG hIR hBG hTP hP hD hS hl)
      | 45, _ => exact lv_tableIn (off := 1410) (tgt := 1443) hx hb dL_law_33 (by decide +kernel) (by decide +kernel) (by decide +kernel) (by decide) (law_case_45 l hL C0 dC dI cB cI cJ cZ cS hK hN ak av hXS a b1 b2 c0 bb hm a9 i hi kk y z H locs ls hIK hIG hIR hBG hTP hP hD hS hl)
      | 46, _ => exact lv_tableIn (off := 1433) (tgt := 1466) hx hb dL_law_33 (by decide +kernel) (by decide +kernel) (by decide +kernel) (by decide) (law_case_46 l hL C0 dC dI cB cI cJ cZ cS hK hN ak av hXS a b1 b2 c0 bb hm a9 i hi kk y z H locs ls hIK hIG hIR hBG hTP hP hD hS hl)
      | k + 47, hk => exact absurd hk (by omega)
end
section
theorem dL_law_0 : decode cL_law 0 = .ok (.new 7, 3) := dcw_187 (by decide +kernel)
theorem dL_law_3 : decode cL_law 3 = .ok (.dup, 1) := dc1_89 (by decide +kernel)
theorem dL_law_4 : decode cL_law 4 = .ok (.invokespecial 9, 3) := dcw_183 (by decide +kernel)
theorem dL_law_7 : decode cL_law 7 = .ok (.astore_n 1, 1) := dc1_76 (by decide +kernel)
theorem dL_law_8 : decode cL_law 8 = .ok (.new 10, 3) := dcw_187 (by decide +kernel)
theorem dL_law_11 : decode cL_law 11 = .ok (.dup, 1) := dc1_89 (by decide +kernel)
theorem dL_law_12 : decode cL_law 12 = .ok (.invokespecial 12, 3) := dcw_183 (by decide +kernel)
theorem dL_law_15 : decode cL_law 15 = .ok (.astore_n 2, 1) := dc1_77 (by decide +kernel)
theorem dL_law_16 : decode cL_law 16 = .ok (.iconst 0, 1) := dc1_3 (by decide +kernel)
theorem dL_law_17 : decode cL_law 17 = .ok (.istore_n 3, 1) := dc1_62 (by decide +kernel)
set_option maxHeartbeats 8000000 in
set_option maxRecDepth 100000 in
theorem whole_start {p : Program} {e : Env} {s : State} {m : MethodId} {below : List Frame} {meth : Method} {c : Code} (l : Launch) (hflags : l.flags = flags0) {b L : Nat} {xs : Nat → Int32} (hL : L ≤ 3072) (C0 : lw_At p s m meth c b L xs) : W p l e room_1 s m #[Value.ref b] below meth c s.heap [] 0 0 (lw_Z below #[Value.ref b] s) (entryFrame m ([Value.ref b] : List Value).toArray 4) := by
  obtain ⟨hx, hb, hr, hml, hown, hts, hX, hbl, hlocks, hgv⟩ := id C0
  have C : CallFix p m c code 4 s #[Value.ref b] lw_tbl R_law := ⟨hx, hb, hml, hown, hts⟩
  have hA : ∀ q : Nat, s.heap.size ≤ q → (fun q : Nat => s.heap.size ≤ q) q := fun _ h => h
  have hbA : ¬ (fun q : Nat => s.heap.size ≤ q) b := Nat.not_le.mpr hbl
  obtain ⟨c0, iS0, hKn0⟩ := u_known (C := RX0) (T := TX0) (N := 2) (n := 2) hts inl_X0 (hts (.instantiable RX0 2) (lw_t (tm_2 (List.mem_of_getElem? (i := 123) rfl))))
  obtain ⟨c1, iS1, hKn1⟩ := u_known (C := RX1) (T := TX1) (N := 9) (n := 9) hts inl_X1 (hts (.instantiable RX1 9) (lw_t (tm_1 (List.mem_of_getElem? (i := 53) rfl))))
  obtain ⟨c2, iS2, hKn2⟩ := u_known (C := RX2) (T := TX2) (N := 6) (n := 6) hts inl_X2 (hts (.instantiable RX2 6) (lw_t (tm_2 (List.mem_of_getElem? (i := 136) rfl))))
  obtain ⟨c3, iS3, hKn3⟩ := u_known (C := RX3) (T := TX3) (N := 5) (n := 5) hts inl_X3 (hts (.instantiable RX3 5) (lw_t (tm_2 (List.mem_of_getElem? (i := 96) rfl))))
  obtain ⟨c4, iS4, hKn4⟩ := u_known (C := RX4) (T := TX4) (N := 8) (n := 8) hts inl_X4 (hts (.instantiable RX4 8) (lw_t (tm_1 (List.mem_of_getElem? (i := 169) rfl))))
  obtain ⟨c5, iS5, hKn5⟩ := u_known (C := RX5) (T := TX5) (N := 10) (n := 10) hts inl_X5 (hts (.instantiable RX5 10) (lw_t (tm_1 (List.mem_of_getElem? (i := 47) rfl))))
  obtain ⟨c6, iS6, hKn6⟩ := u_known (C := RX6) (T := TX6) (N := 7) (n := 7) hts inl_X6 (hts (.instantiable RX6 7) (lw_t (tm_2 (List.mem_of_getElem? (i := 51) rfl))))
  obtain ⟨c7, iS7, hKn7⟩ := u_known (C := RX7) (T := TX7) (N := 2) (n := 2) hts inl_X7 (hts (.instantiable RX7 2) (lw_t (tm_1 (List.mem_of_getElem? (i := 31) rfl))))
  obtain ⟨c8, iS8, hKn8⟩ := u_known (C := RX8) (T := TX8) (N := 8) (n := 8) hts inl_X8 (hts (.instantiable RX8 8) (lw_t (tm_2 (List.mem_of_getElem? (i := 161) rfl))))
  obtain ⟨c9, iS9, hKn9⟩ := u_known (C := RX9) (T := TX9) (N := 7) (n := 7) hts inl_X9 (hts (.instantiable RX9 7) (lw_t (tm_1 (List.mem_of_getElem? (i := 177) rfl))))
  obtain ⟨c10, iS10, hKn10⟩ := u_known (C := RX10) (T := TX10) (N := 9) (n := 9) hts inl_X10 (hts (.instantiable RX10 9) (lw_t (tm_1 (List.mem_of_getElem? (i := 23) rfl))))
  obtain ⟨c11, iS11, hKn11⟩ := u_known (C := RX11) (T := TX11) (N := 58) (n := 58) hts inl_X11 (hts (.instantiable RX11 58) (lw_t (tm_5 (List.mem_of_getElem? (i := 212) rfl))))
  obtain ⟨dC, dI, hKc⟩ : ∃ (dC : Nat → ClassId) (dI : Nat → Nat → Nat), ∀ (k : Nat) (q : vw_C), vwCl[k]? = some q → u_Kn s q.1 q.2.1 q.2.2 (dC k) (dI k) := by
    refine ⟨fun k => if k = 0 then c0 else if k = 1 then c1 else if k = 2 then c2 else if k = 3 then c3 else if k = 4 then c4 else if k = 5 then c5 else if k = 6 then c6 else if k = 7 then c7 else if k = 8 then c8 else if k = 9 then c9 else if k = 10 then c10 else c11, fun k => if k = 0 then iS0 else if k = 1 then iS1 else if k = 2 then iS2 else if k = 3 then iS3 else if k = 4 then iS4 else if k = 5 then iS5 else if k = 6 then iS6 else if k = 7 then iS7 else if k = 8 then iS8 else if k = 9 then iS9 else if k = 10 then iS10 else iS11, ?_⟩
    intro k q hq
    match k, hq with
    | 0, hq => cases hq; exact hKn0
    | 1, hq => cases hq; exact hKn1
    | 2, hq => cases hq; exact hKn2
    | 3, hq => cases hq; exact hKn3
    | 4, hq => cases hq; exact hKn4
    | 5, hq => cases hq; exact hKn5
    | 6, hq => cases hq; exact hKn6
    | 7, hq => cases hq; exact hKn7
    | 8, hq => cases hq; exact hKn8
    | 9, hq => cases hq; exact hKn9
    | 10, hq => cases hq; exact hKn10
    | 11, hq => cases hq; exact hKn11
    | k + 12, hq => simp [vwCl] at hq
  obtain ⟨cB, hcB⟩ := arr_ty (ty := .byte) (hts (.arrayClass .byte) (lw_t (tm_1 (List.mem_of_getElem? (i := 45) rfl)))) (fun _ => rfl)
  obtain ⟨cI, hcI⟩ := arr_ty (ty := .int) (hts (.arrayClass .int) (lw_t (tm_1 (List.mem_of_getElem? (i := 87) rfl)))) (fun _ => rfl)
  obtain ⟨cJ, hcJ⟩ := arr_ty (ty := .long) (hts (.arrayClass .long) (lw_t (tm_2 (List.mem_of_getElem? (i := 22) rfl)))) (fun _ => rfl)
  obtain ⟨cZ, hcZ⟩ := arr_ty (ty := .boolean) (hts (.arrayClass .boolean) (lw_t (tm_2 (List.mem_of_getElem? (i := 121) rfl)))) (fun _ => rfl)
  obtain ⟨cS, hcS⟩ := arr_ob (C := "GuessFerry$Standing") (hts (.arrayOver (.object "GuessFerry$Standing")) (lw_t (tm_2 (List.mem_of_getElem? (i := 102) rfl))))
  have hK : va_K (dC, dI) vwCl (tysA cB cI cJ cZ cS) s := ⟨hKc, fun k q h => by
    match k, h with
    | 0, h => cases h; exact hcB
    | 1, h => cases h; exact hcI
    | 2, h => cases h; exact hcJ
    | 3, h => cases h; exact hcZ
    | 4, h => cases h; exact hcS
    | k + 5, h => simp at h⟩
  have hN : nw_ok s := nw_start hts
  obtain ⟨akW, avW, hXW⟩ := xW_start hts hgv
  obtain ⟨ak, av, hXS⟩ := xS_start hts hgv
  have hS : va_S (fun q : Nat => s.heap.size ≤ q) s.heap s.heap [] := va_S.rf
  have hP : va_P (dC, dI) vwCl [] s.heap := fun k q h => by simp at h
  have hD : va_D (fun q : Nat => s.heap.size ≤ q) [] := ⟨fun i j p q h => by simp at h, fun k q h => by simp at h⟩
  have hl := lv_entry ([.ref b]) (n := 4) (Nat.le_of_ble_eq_true rfl)
  rw [lg_entry_eq]
  generalize (lg_sl ([.ref b]) ++ List.replicate (4 - (lg_sl ([.ref b])).length) Slot.unset).toArray = ls at hl ⊢
  have hl : lv_has ls 4 [(0, .ref b)] := hl
  refine va_new (ci := 10) (fs := [.null, .null, .null, .null, .null, .null, .null, .null, .null]) (C := RX10) (T := TX10) (N := 9) hx hb hts inl_X10 tyX10 tyX10_ok hown (hts (.classLink R_law 7 RX10) (lw_t (tm_1 (List.mem_of_getElem? (i := 22) rfl)))) (hts (.instantiable RX10 9) (lw_t (tm_1 (List.mem_of_getElem? (i := 23) rfl)))) (hts (.initialized RX10) (lw_t (tm_1 (List.mem_of_getElem? (i := 1) rfl)))) hK hP hD hS hA rfl (fun j hj => by rcases (show j = 0 ∨ j = 1 ∨ j = 2 ∨ j = 3 ∨ j = 4 ∨ j = 5 ∨ j = 6 ∨ j = 7 ∨ j = 8 by omega) with rfl | rfl | rfl | rfl | rfl | rfl | rfl | rfl | rfl <;> rfl) (Nat.le_of_ble_eq_true rfl) (Nat.le_of_ble_eq_true rfl) dL_law_0 (fun q_G H hP hD hS => ?_)
  refine lv_dup hx hb dL_law_3 rfl ?_
  refine q_gov (wr := []) (va_runI (As := []) (rest := [.ref q_G]) C (k_X10_init l dC dI cB cI cJ cZ cS akW avW q_G _) (cwI 0 hts gp_wsX10_init rfl rfl rfl (hts (.initialized RX10) (lw_t (tm_1 (List.mem_of_getElem? (i := 1) rfl)))) (hts (.methodLink R_law 9 yX10_init) (lw_t (tm_1 (List.mem_of_getElem? (i := 24) rfl)))) (hts (.instanceMethod yX10_init) (lw_t (tm_1 (List.mem_of_getElem? (i := 25) rfl)))) rfl (by decide +kernel) ⟨Nat.le_of_ble_eq_true rfl, Nat.le_of_ble_eq_true rfl⟩) (q_preX hN hK hP hD hS hA hXW [0] rfl (by decide)) rfl rfl hl.1 rfl (lv_room (Nat.le_of_ble_eq_true rfl)) dL_law_4 ⟨Nat.le_of_ble_eq_true rfl, Nat.le_of_ble_eq_true rfl⟩) hP hD hS hA [0] [] rfl rfl (by decide +kernel) (by decide +kernel) (fun w1 H locs hw hP hD hS => ?_)
  obtain ⟨q_tape, q_tape_bytes, q_sound, q_sound_odds, q_sound_oddsSums, q_sound_likely, q_sound_heavy, q_sound_nerve, q_sound_laws, q_sound_laws_steps, q_sound_laws_partEnds, q_sound_laws_lawStarts, q_sound_laws_partCounts, q_sound_laws_vars, q_sound_laws_stack, q_reader, q_draft, q_draft_odds, q_draft_oddsSums, q_draft_likely, q_draft_heavy, q_draft_nerve, q_draft_laws, q_draft_laws_steps, q_draft_laws_partEnds, q_draft_laws_lawStarts, q_draft_laws_partCounts, q_draft_laws_vars, q_draft_laws_stack, q_names, q_tokens, q_words, q_kinds, q_starts, q_values, q_now, q_now_found, q_now_buoys, q_now_shifted, q_now_status, q_now_goes, q_trial, q_trial_found, q_trial_buoys, q_trial_shifted, q_trial_status, q_trial_goes, q_past, q_ring, q_slots, q_isHeld, q_crossing, q_outlook, q_near, q_far, q_topGuesses, q_topOdds, q_tellers, q_toldWaves, q_toldThings, q_t_odds, q_belied, q_byLies, φf1, φf7, φf9, φf11, φf13, φf15, φf3, φf5, hwd, hn0, hn1, hn2, hn3, hn4, bb, hbb1, hbb2, rfl⟩ := hw
  refine lv_astore_n (lv' := [(1, .ref q_G), (0, .ref b)]) hx hb dL_law_7 rfl hl (by decide) rfl (fun ls hl => ?_)
  obtain ⟨a, b1, b2, c0, y, hc0, hks, hy0, hIK, hIG, hP, hD⟩ := bridge (D := (dC, dI)) (A := (fun q : Nat => s.heap.size ≤ q)) (H := H) cB cI cJ cZ cS q_G q_tape q_tape_bytes q_sound q_sound_odds q_sound_oddsSums q_sound_likely q_sound_heavy q_sound_nerve q_sound_laws q_sound_laws_steps q_sound_laws_partEnds q_sound_laws_lawStarts q_sound_laws_partCounts q_sound_laws_vars q_sound_laws_stack q_reader q_draft q_draft_odds q_draft_oddsSums q_draft_likely q_draft_heavy q_draft_nerve q_draft_laws q_draft_laws_steps q_draft_laws_partEnds q_draft_laws_lawStarts q_draft_laws_partCounts q_draft_laws_vars q_draft_laws_stack q_names q_tokens q_words q_kinds q_starts q_values q_now q_now_found q_now_buoys q_now_shifted q_now_status q_now_goes q_trial q_trial_found q_trial_buoys q_trial_shifted q_trial_status q_trial_goes q_past q_ring q_slots q_isHeld q_crossing q_outlook q_near q_far q_topGuesses q_topOdds q_tellers q_toldWaves q_toldThings q_t_odds q_belied q_byLies φf1 φf7 φf9 φf11 φf13 φf15 φf3 φf5 bb hbb1 hbb2 hn0 hn1 hn2 hn3 hn4 hP hD
  rw [← hc0] at hl
  refine va_new (ci := 11) (fs := [.int 0, .null, .int 0, .null, .int 0, .null, .null, .null, .null, .null, .int 0, .int 0, .int 0, .int 0, .int 0, .int 0, .int 0, .int 0, .int 0, .int 0, .null, .null, .null, .null, .null, .null, .null, .null, .null, .int 0, .null, .null, .null, .null, .null, .int 0, .null, .null, .null, .int 0, .null, .null, .int 0, .null, .null, .int 0, .null, .null, .int 0, .null, .null, .int 0, .null, .null, .null, .null, .null, .null]) (C := RX11) (T := TX11) (N := 58) hx hb hts inl_X11 tyX11 tyX11_ok hown (hts (.classLink R_law 10 RX11) (lw_t (tm_5 (List.mem_of_getElem? (i := 211) rfl)))) (hts (.instantiable RX11 58) (lw_t (tm_5 (List.mem_of_getElem? (i := 212) rfl)))) (hts (.initialized RX11) (lw_t (tm_1 (List.mem_of_getElem? (i := 17) rfl)))) hK hP hD hS hA rfl (fun j hj => by rcases (show j = 0 ∨ j = 1 ∨ j = 2 ∨ j = 3 ∨ j = 4 ∨ j = 5 ∨ j = 6 ∨ j = 7 ∨ j = 8 ∨ j = 9 ∨ j = 10 ∨ j = 11 ∨ j = 12 ∨ j = 13 ∨ j = 14 ∨ j = 15 ∨ j = 16 ∨ j = 17 ∨ j = 18 ∨ j = 19 ∨ j = 20 ∨ j = 21 ∨ j = 22 ∨ j = 23 ∨ j = 24 ∨ j = 25 ∨ j = 26 ∨ j = 27 ∨ j = 28 ∨ j = 29 ∨ j = 30 ∨ j = 31 ∨ j = 32 ∨ j = 33 ∨ j = 34 ∨ j = 35 ∨ j = 36 ∨ j = 37 ∨ j = 38 ∨ j = 39 ∨ j = 40 ∨ j = 41 ∨ j = 42 ∨ j = 43 ∨ j = 44 ∨ j = 45 ∨ j = 46 ∨ j = 47 ∨ j = 48 ∨ j = 49 ∨ j = 50 ∨ j = 51 ∨ j = 52 ∨ j = 53 ∨ j = 54 ∨ j = 55 ∨ j = 56 ∨ j = 57 by omega) with rfl | rfl | rfl | rfl | rfl | rfl | rfl | rfl | rfl | rfl | rfl | rfl | rfl | rfl | rfl | rfl | rfl | rfl | rfl | rfl | rfl | rfl | rfl | rfl | rfl | rfl | rfl | rfl | rfl | rfl | rfl | rfl | rfl | rfl | rfl | rfl | rfl | rfl | rfl | rfl | rfl | rfl | rfl | rfl | rfl | rfl | rfl | rfl | rfl | rfl | rfl | rfl | rfl | rfl | rfl | rfl | rfl | rfl <;> rfl) (Nat.le_of_ble_eq_true rfl) (Nat.le_of_ble_eq_true rfl) dL_law_8 (fun hm H hP hD hS => ?_)
  have hP : va_P (dC, dI) vwCl ([(hm, .inr (11, [.int 0, .null, .int 0, .null, .int 0, .null, .null, .null, .null, .null, .int 0, .int 0, .int 0, .int 0, .int 0, .int 0, .int 0, .int 0, .int 0, .int 0, .null, .null, .null, .null, .null, .null, .null, .null, .null, .int 0, .null, .null, .null, .null, .null, .int 0, .null, .null, .null, .int 0, .null, .null, .int 0, .null, .null, .int 0, .null, .null, .int 0, .null, .null, .int 0, .null, .null, .null, .null, .null, .null]))] ++ wY cB cI cJ cZ cS a b1 b2 c0 bb y) H := sw2P hP
  have hD : va_D (fun q : Nat => s.heap.size ≤ q) ([(hm, .inr (11, [.int 0, .null, .int 0, .null, .int 0, .null, .null, .null, .null, .null, .int 0, .int 0, .int 0, .int 0, .int 0, .int 0, .int 0, .int 0, .int 0, .int 0, .null, .null, .null, .null, .null, .null, .null, .null, .null, .int 0, .null, .null, .null, .null, .null, .int 0, .null, .null, .null, .int 0, .null, .null, .int 0, .null, .null, .int 0, .null, .null, .int 0, .null, .null, .int 0, .null, .null, .null, .null, .null, .null]))] ++ wY cB cI cJ cZ cS a b1 b2 c0 bb y) := sw2D hD
  refine lv_dup hx hb dL_law_11 rfl ?_
  refine q_govT (wr := []) (va_runI (As := []) (rest := [.ref hm]) C (c_init l dC dI cB cI cJ cZ cS hm _) (cwI 0 hts gp_wsX11_init rfl rfl rfl (hts (.initialized RX11) (lw_t (tm_1 (List.mem_of_getElem? (i := 17) rfl)))) (hts (.methodLink R_law 12 yX11_init) (lw_t (tm_5 (List.mem_of_getElem? (i := 213) rfl)))) (hts (.instanceMethod yX11_init) (lw_t (tm_5 (List.mem_of_getElem? (i := 214) rfl)))) rfl (by decide +kernel) ⟨Nat.le_of_ble_eq_true rfl, Nat.le_of_ble_eq_true rfl⟩) (q_pre hN hK hP hD [0] rfl (by decide)) rfl rfl hl.1 rfl (lv_room (Nat.le_of_ble_eq_true rfl)) dL_law_12 ⟨Nat.le_of_ble_eq_true rfl, Nat.le_of_ble_eq_true rfl⟩) hP hD hS hA [0] [] rfl rfl (by decide +kernel) (by decide +kernel) (fun w1 H locs hw hP hD hS => ?_)
  obtain ⟨a9, z, hIR, hBG, hz0, rfl⟩ := hw
  have hP : va_P (dC, dI) vwCl (mwS cB cI cJ cZ hm a9 z ++ wY cB cI cJ cZ cS a b1 b2 c0 bb y) H := hP
  have hD : va_D (fun q : Nat => s.heap.size ≤ q) (mwS cB cI cJ cZ hm a9 z ++ wY cB cI cJ cZ cS a b1 b2 c0 bb y) := hD
  refine W.widen (k := 361) (n := 24806) (Nat.le_of_ble_eq_true rfl) (Nat.le_of_ble_eq_true rfl) ?_
  refine lv_astore_n (lv' := [(2, .ref hm), (1, .ref (c0 0)), (0, .ref b)]) hx hb dL_law_15 rfl hl (by decide) rfl (fun ls hl => ?_)
  refine lv_iconst (v := 0) hx hb dL_law_16 (by decide) ?_
  refine lv_istore_n (lv' := [(3, .int 0), (2, .ref hm), (1, .ref (c0 0)), (0, .ref b)]) hx hb dL_law_17 rfl hl (by decide) rfl (fun ls hl => ?_)
  exact law_loop l hL C0 dC dI cB cI cJ cZ cS hK hN ak av hXS a b1 b2 c0 bb hm a9 513 0 (by omega) (by omega) y z H locs ls hIK hIG hIR hBG ⟨tp_start hy0 hwd hz0.1, rel_start hIK hks hz0.2 hz0.1.2.2.2.1 hz0.1.2.2.2.2.1⟩ hP hD hS hl
end
