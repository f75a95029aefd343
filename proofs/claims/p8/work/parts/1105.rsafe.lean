abbrev Q_r_hold (s0 : RS) (y : Int32 × RS) : Prop := InvR y.2 ∧ FrR [156, 157] s0 y.2 ∧ 0 ≤ y.1.toInt ∧ y.1.toInt ≤ 1
set_option maxHeartbeats 1000000 in
theorem ok_r_hold_20 (s0 : RS) (k20 : RS → Int32 → Int32 → Option (Int32 × RS)) (M20 : Nat) (hk20 : ∀ (s : RS) (x1 : Int32) (x2 : Int32), InvR s → FrR [156, 157] s0 s → 0 ≤ x1.toInt → x1.toInt ≤ 2 → 0 ≤ x2.toInt → x2.toInt ≤ 29 → (29 - x2.toInt).toNat < M20 → Ok (k20 s x1 x2) (Q_r_hold s0)) (s : RS) (x1 : Int32) (x2 : Int32) (hI_s : InvR s) (hF_s : FrR [156, 157] s0 s) (h_x1l : 0 ≤ x1.toInt) (h_x1u : x1.toInt ≤ 2) (h_x2l : 0 ≤ x2.toInt) (h_x2u : x2.toInt ≤ 29) (hM20 : (29 - x2.toInt).toNat ≤ M20) : Ok (r_hold_20 k20 s x1 x2) (Q_r_hold s0) := by
  unfold r_hold_20
  refine ok_ite (fun c_1 => ?_) (fun c_1 => ?_)
  · have c_1 := tn_le (a := 29) (b := (x2).toInt) (by decide) rfl c_1
    exact ok_some ⟨hI_s, hF_s, by show 0 ≤ (1 : Int32).toInt; decide, by show (1 : Int32).toInt ≤ 1; decide⟩
  · have c_1 := tn_nle (a := 29) (b := (x2).toInt) (by decide) rfl c_1
    refine ok_grd (vpb_ok (by omega) (by omega)) ?_
    have a_2 : ((29 * x1)).toInt = (x1).toInt * 29 := ti_cmul (c := 29) (by decide) (by omega) (by omega)
    have a_3 : (((29 * x1) + x2)).toInt = ((29 * x1)).toInt + (x2).toInt := tn_add rfl rfl (by omega) (by omega)
    refine ok_grd (vpb_ok (by omega) (by omega)) ?_
    refine ok_let (fun s4 hs4 => ?_)
    have hI_s4 : InvR s4 := by rw [← hs4]; exact hI_s.sfF (k := 57) rfl rfl
    have hF_s4 : FrR [156, 157] s0 s4 := by rw [← hs4]; exact hF_s.sf (k := 57) (by decide)
    have a_4 : ((x2 + 1)).toInt = (x2).toInt + 1 := tn_add rfl (by decide) (by omega) (by omega)
    exact hk20 _ _ _ hI_s4 hF_s4 (by omega) (by omega) (by omega) (by omega) (by omega)
theorem okL_r_hold_20 (s0 : RS)  : ∀ (n : Nat) (s : RS) (x1 : Int32) (x2 : Int32), (29 - x2.toInt).toNat < n → InvR s → FrR [156, 157] s0 s → 0 ≤ x1.toInt → x1.toInt ≤ 2 → 0 ≤ x2.toInt → x2.toInt ≤ 29 → Ok (r_hold_20L  n s x1 x2) (Q_r_hold s0) := by
  intro n
  induction n with
  | zero => intro s x1 x2 hn; omega
  | succ n ih =>
    intro s x1 x2 hn hI_s hF_s h_x1l h_x1u h_x2l h_x2u 
    exact ok_r_hold_20 s0 (r_hold_20L  n) ((29 - x2.toInt).toNat) (fun zs zx1 zx2 g0 g1 g2 g3 g4 g5  hm => ih zs zx1 zx2 (by omega) g0 g1 g2 g3 g4 g5 ) s x1 x2 hI_s hF_s h_x1l h_x1u h_x2l h_x2u (Nat.le_refl _)
set_option maxHeartbeats 1000000 in
theorem ok_r_holdB (s0 : RS)  (s : RS) (x1 : Int32) (hI_s : InvR s) (hF_s : FrR [156, 157] s0 s)  : Ok (r_hold  s x1) (Q_r_hold s0) := by
  unfold r_hold
  refine ok_bindP (ok_r_in _ _ _ (by decide) (by decide) (by decide) (by decide)) (fun r1 hc_1 => ?_)
  have l_0 : (0 : Int32).toInt = 0 := by decide
  have l_2 : (2 : Int32).toInt = 2 := by decide
  have hl_r1 : 0 ≤ r1.toInt := hc_1.1
  have hu_r1 : r1.toInt ≤ 1 := hc_1.2.1
  have hx0_r1 : (¬ r1.toInt = 0 → (0 : Int32).toInt ≤ (x1).toInt ∧ (x1).toInt ≤ (2 : Int32).toInt) := hc_1.2.2
  refine ok_ite (fun c_2 => ?_) (fun c_2 => ?_)
  · have c_2 := tn_eq (a := (r1).toInt) (b := 0) rfl (by decide) c_2
    exact ok_some ⟨hI_s, hF_s, by show 0 ≤ (0 : Int32).toInt; decide, by show (0 : Int32).toInt ≤ 1; decide⟩
  · have c_2 := tn_ne (a := (r1).toInt) (b := 0) rfl (by decide) c_2
    refine ok_grd (vpb_ok (by omega) (by omega)) ?_
    refine ok_let (fun s4 hs4 => ?_)
    have hI_s4 : InvR s4 := by rw [← hs4]; exact hI_s.sfF (k := 56) rfl rfl
    have hF_s4 : FrR [156, 157] s0 s4 := by rw [← hs4]; exact hF_s.sf (k := 56) (by decide)
    exact okL_r_hold_20 s0  fu _ _ _ (by unfold fu; omega) hI_s4 hF_s4 (by omega) (by omega) (by decide) (by decide) 
theorem ok_r_hold (s : RS) (x1 : Int32) (hI_s : InvR s) : Ok (r_hold s x1) (Q_r_hold s) := ok_r_holdB s s x1 hI_s FrR.rfl
abbrev Q_r_restore (s0 : RS) (y : Int32 × RS) : Prop := InvR y.2 ∧ FrR [48, 143] s0 y.2 ∧ 0 ≤ y.1.toInt ∧ y.1.toInt ≤ 1
set_option maxHeartbeats 1000000 in
theorem ok_r_restore_22 (s0 : RS) (k22 : RS → Int32 → Int32 → Option (Int32 × RS)) (M22 : Nat) (hk22 : ∀ (s : RS) (x1 : Int32) (x2 : Int32), InvR s → FrR [48, 143] s0 s → 0 ≤ x1.toInt → x1.toInt ≤ 2 → 0 ≤ x2.toInt → x2.toInt ≤ 29 → (29 - x2.toInt).toNat < M22 → Ok (k22 s x1 x2) (Q_r_restore s0)) (s : RS) (x1 : Int32) (x2 : Int32) (hI_s : InvR s) (hF_s : FrR [48, 143] s0 s) (h_x1l : 0 ≤ x1.toInt) (h_x1u : x1.toInt ≤ 2) (h_x2l : 0 ≤ x2.toInt) (h_x2u : x2.toInt ≤ 29) (hM22 : (29 - x2.toInt).toNat ≤ M22) : Ok (r_restore_22 k22 s x1 x2) (Q_r_restore s0) := by
  unfold r_restore_22
  refine ok_ite (fun c_1 => ?_) (fun c_1 => ?_)
  · have c_1 := tn_le (a := 29) (b := (x2).toInt) (by decide) rfl c_1
    refine ok_let (fun s2 hs2 => ?_)
    have hI_s2 : InvR s2 := by rw [← hs2]; exact hI_s.sv (k := 48) (show (0 : Int) ≤ (0 : Int32).toInt by decide) (show (0 : Int32).toInt ≤ (40 : Int) by decide)
    have hF_s2 : FrR [48, 143] s0 s2 := by rw [← hs2]; exact hF_s.sv (k := 48) (by decide)
    exact ok_some ⟨hI_s2, hF_s2, by show 0 ≤ (1 : Int32).toInt; decide, by show (1 : Int32).toInt ≤ 1; decide⟩
  · have c_1 := tn_nle (a := 29) (b := (x2).toInt) (by decide) rfl c_1
    have a_2 : ((29 * x1)).toInt = (x1).toInt * 29 := ti_cmul (c := 29) (by decide) (by omega) (by omega)
    have a_3 : (((29 * x1) + x2)).toInt = ((29 * x1)).toInt + (x2).toInt := tn_add rfl rfl (by omega) (by omega)
    refine ok_grd (vpb_ok (by omega) (by omega)) ?_
    refine ok_grd (vpb_ok (by omega) (by omega)) ?_
    refine ok_let (fun s6 hs6 => ?_)
    have hI_s6 : InvR s6 := by rw [← hs6]; exact hI_s.sfF (k := 43) rfl rfl
    have hF_s6 : FrR [48, 143] s0 s6 := by rw [← hs6]; exact hF_s.sf (k := 43) (by decide)
    have a_4 : ((x2 + 1)).toInt = (x2).toInt + 1 := tn_add rfl (by decide) (by omega) (by omega)
    exact hk22 _ _ _ hI_s6 hF_s6 (by omega) (by omega) (by omega) (by omega) (by omega)
theorem okL_r_restore_22 (s0 : RS)  : ∀ (n : Nat) (s : RS) (x1 : Int32) (x2 : Int32), (29 - x2.toInt).toNat < n → InvR s → FrR [48, 143] s0 s → 0 ≤ x1.toInt → x1.toInt ≤ 2 → 0 ≤ x2.toInt → x2.toInt ≤ 29 → Ok (r_restore_22L  n s x1 x2) (Q_r_restore s0) := by
  intro n
  induction n with
  | zero => intro s x1 x2 hn; omega
  | succ n ih =>
    intro s x1 x2 hn hI_s hF_s h_x1l h_x1u h_x2l h_x2u 
    exact ok_r_restore_22 s0 (r_restore_22L  n) ((29 - x2.toInt).toNat) (fun zs zx1 zx2 g0 g1 g2 g3 g4 g5  hm => ih zs zx1 zx2 (by omega) g0 g1 g2 g3 g4 g5 ) s x1 x2 hI_s hF_s h_x1l h_x1u h_x2l h_x2u (Nat.le_refl _)
set_option maxHeartbeats 1000000 in
theorem ok_r_restoreB (s0 : RS)  (s : RS) (x1 : Int32) (hI_s : InvR s) (hF_s : FrR [48, 143] s0 s)  : Ok (r_restore  s x1) (Q_r_restore s0) := by
  unfold r_restore
  refine ok_bindP (ok_r_in _ _ _ (by decide) (by decide) (by decide) (by decide)) (fun r1 hc_1 => ?_)
  have l_0 : (0 : Int32).toInt = 0 := by decide
  have l_2 : (2 : Int32).toInt = 2 := by decide
  have hl_r1 : 0 ≤ r1.toInt := hc_1.1
  have hu_r1 : r1.toInt ≤ 1 := hc_1.2.1
  have hx0_r1 : (¬ r1.toInt = 0 → (0 : Int32).toInt ≤ (x1).toInt ∧ (x1).toInt ≤ (2 : Int32).toInt) := hc_1.2.2
  refine ok_ite (fun c_2 => ?_) (fun c_2 => ?_)
  · have c_2 := tn_eq (a := (r1).toInt) (b := 0) rfl (by decide) c_2
    exact ok_some ⟨hI_s, hF_s, by show 0 ≤ (0 : Int32).toInt; decide, by show (0 : Int32).toInt ≤ 1; decide⟩
  · have c_2 := tn_ne (a := (r1).toInt) (b := 0) rfl (by decide) c_2
    refine ok_grd (vpb_ok (by omega) (by omega)) ?_
    refine ok_ite (fun c_3 => ?_) (fun c_3 => ?_)
    · have c_3 := tn_eq (a := ((s.f 56 (Int32.toNatClampNeg x1))).toInt) (b := 0) rfl (by decide) c_3
      exact ok_some ⟨hI_s, hF_s, by show 0 ≤ (0 : Int32).toInt; decide, by show (0 : Int32).toInt ≤ 1; decide⟩
    · have c_3 := tn_ne (a := ((s.f 56 (Int32.toNatClampNeg x1))).toInt) (b := 0) rfl (by decide) c_3
      exact okL_r_restore_22 s0  fu _ _ _ (by unfold fu; omega) hI_s hF_s (by omega) (by omega) (by decide) (by decide) 
theorem ok_r_restore (s : RS) (x1 : Int32) (hI_s : InvR s) : Ok (r_restore s x1) (Q_r_restore s) := ok_r_restoreB s s x1 hI_s FrR.rfl
abbrev Q_r_partiesIn (s0 : RS) (y : Int32 × RS) : Prop := InvR y.2 ∧ FrR [] s0 y.2 ∧ -2147483648 ≤ y.1.toInt ∧ y.1.toInt ≤ 2147483647
set_option maxHeartbeats 1000000 in
theorem ok_r_partiesIn_36 (s0 : RS) (k4 : RS → Int32 → Int32 → Int32 → Option (Int32 × RS)) (M4 : Nat) (hk4 : ∀ (s : RS) (x1 : Int32) (x2 : Int32) (x3 : Int32), InvR s → FrR [] s0 s → 0 ≤ x1.toInt → x1.toInt ≤ 2 → 0 ≤ x3.toInt → x3.toInt ≤ 6 → (6 - x3.toInt).toNat < M4 → Ok (k4 s x1 x2 x3) (Q_r_partiesIn s0)) (s : RS) (x1 : Int32) (x2 : Int32) (x3 : Int32) (hI_s : InvR s) (hF_s : FrR [] s0 s) (h_x1l : 0 ≤ x1.toInt) (h_x1u : x1.toInt ≤ 2) (h_x3l : 0 ≤ x3.toInt) (h_x3u : x3.toInt ≤ 5) (hM4 : (6 - x3.toInt).toNat ≤ M4) : Ok (r_partiesIn_36 k4 s x1 x2 x3) (Q_r_partiesIn s0) := by
  unfold r_partiesIn_36
  have a_1 : ((x3 + 1)).toInt = (x3).toInt + 1 := tn_add rfl (by decide) (by omega) (by omega)
  exact hk4 _ _ _ _ hI_s hF_s (by omega) (by omega) (by omega) (by omega) (by omega)
set_option maxHeartbeats 1000000 in
theorem ok_r_partiesIn_4 (s0 : RS) (k4 : RS → Int32 → Int32 → Int32 → Option (Int32 × RS)) (M4 : Nat) (hk4 : ∀ (s : RS) (x1 : Int32) (x2 : Int32) (x3 : Int32), InvR s → FrR [] s0 s → 0 ≤ x1.toInt → x1.toInt ≤ 2 → 0 ≤ x3.toInt → x3.toInt ≤ 6 → (6 - x3.toInt).toNat < M4 → Ok (k4 s x1 x2 x3) (Q_r_partiesIn s0)) (s : RS) (x1 : Int32) (x2 : Int32) (x3 : Int32) (hI_s : InvR s) (hF_s : FrR [] s0 s) (h_x1l : 0 ≤ x1.toInt) (h_x1u : x1.toInt ≤ 2) (h_x3l : 0 ≤ x3.toInt) (h_x3u : x3.toInt ≤ 6) (hM4 : (6 - x3.toInt).toNat ≤ M4) : Ok (r_partiesIn_4 k4 s x1 x2 x3) (Q_r_partiesIn s0) := by
  unfold r_partiesIn_4
  have a_1 : 0 ≤ (s.v 18).toInt ∧ (s.v 18).toInt ≤ 1 := hI_s.1 18
  refine ok_grd (vpb_ok (by omega) (by omega)) ?_
  have a_2 : 0 ≤ ((s.f 23 (Int32.toNatClampNeg (s.v 18)))).toInt ∧ ((s.f 23 (Int32.toNatClampNeg (s.v 18)))).toInt ≤ 6 := hI_s.2 23 _
  refine ok_ite (fun c_3 => ?_) (fun c_3 => ?_)
  · have c_3 := tn_le (a := ((s.f 23 (Int32.toNatClampNeg (s.v 18)))).toInt) (b := (x3).toInt) rfl rfl c_3
    exact ok_some ⟨hI_s, hF_s, (ti_rng _).1, (ti_rng _).2⟩
  · have c_3 := tn_nle (a := ((s.f 23 (Int32.toNatClampNeg (s.v 18)))).toInt) (b := (x3).toInt) rfl rfl c_3
    have a_4 : ((15 + x3)).toInt = 15 + (x3).toInt := tn_add (by decide) rfl (by omega) (by omega)
    refine ok_grd (vpb_ok (by omega) (by omega)) ?_
    refine ok_ite (fun c_5 => ?_) (fun c_5 => ?_)
    · have c_5 := tn_eq (a := ((s.f 44 (Int32.toNatClampNeg (15 + x3)))).toInt) (b := (x1).toInt) rfl rfl c_5
      exact ok_r_partiesIn_36 s0 k4 M4 hk4 _ _ _ _ hI_s hF_s (by omega) (by omega) (by omega) (by omega) (by omega)
    · have c_5 := tn_ne (a := ((s.f 44 (Int32.toNatClampNeg (15 + x3)))).toInt) (b := (x1).toInt) rfl rfl c_5
      exact ok_r_partiesIn_36 s0 k4 M4 hk4 _ _ _ _ hI_s hF_s (by omega) (by omega) (by omega) (by omega) (by omega)
theorem okL_r_partiesIn_4 (s0 : RS)  : ∀ (n : Nat) (s : RS) (x1 : Int32) (x2 : Int32) (x3 : Int32), (6 - x3.toInt).toNat < n → InvR s → FrR [] s0 s → 0 ≤ x1.toInt → x1.toInt ≤ 2 → 0 ≤ x3.toInt → x3.toInt ≤ 6 → Ok (r_partiesIn_4L  n s x1 x2 x3) (Q_r_partiesIn s0) := by
  intro n
  induction n with
  | zero => intro s x1 x2 x3 hn; omega
  | succ n ih =>
    intro s x1 x2 x3 hn hI_s hF_s h_x1l h_x1u h_x3l h_x3u 
    exact ok_r_partiesIn_4 s0 (r_partiesIn_4L  n) ((6 - x3.toInt).toNat) (fun zs zx1 zx2 zx3 g0 g1 g2 g3 g4 g5  hm => ih zs zx1 zx2 zx3 (by omega) g0 g1 g2 g3 g4 g5 ) s x1 x2 x3 hI_s hF_s h_x1l h_x1u h_x3l h_x3u (Nat.le_refl _)
set_option maxHeartbeats 1000000 in
theorem ok_r_partiesInB (s0 : RS)  (s : RS) (x1 : Int32) (hI_s : InvR s) (hF_s : FrR [] s0 s) (h_x1l : 0 ≤ x1.toInt) (h_x1u : x1.toInt ≤ 2)  : Ok (r_partiesIn  s x1) (Q_r_partiesIn s0) := by
  unfold r_partiesIn
  have l_0 : (0 : Int32).toInt = 0 := by decide
  exact okL_r_partiesIn_4 s0  fu _ _ _ _ (by unfold fu; omega) hI_s hF_s (by omega) (by omega) (by decide) (by decide) 
theorem ok_r_partiesIn (s : RS) (x1 : Int32) (hI_s : InvR s) (h_x1l : 0 ≤ x1.toInt) (h_x1u : x1.toInt ≤ 2) : Ok (r_partiesIn s x1) (Q_r_partiesIn s) := ok_r_partiesInB s s x1 hI_s FrR.rfl h_x1l h_x1u
abbrev Q_r_sumNow (s0 : RS) (y : Int32 × RS) : Prop := InvR y.2 ∧ FrR [] s0 y.2 ∧ -2147483648 ≤ y.1.toInt ∧ y.1.toInt ≤ 2147483647
set_option maxHeartbeats 1000000 in
theorem ok_r_sumNow_5 (s0 : RS) (k5 : RS → Int32 → Int32 → Int32 → Int32 → Option (Int32 × RS)) (M5 : Nat) (hk5 : ∀ (s : RS) (x1 : Int32) (x2 : Int32) (x3 : Int32) (x4 : Int32), InvR s → FrR [] s0 s → 10 ≤ x1.toInt → x1.toInt ≤ 21 → 5 ≤ x2.toInt → x2.toInt ≤ 6 → 10 ≤ x4.toInt → x4.toInt ≤ 29 → (29 - x4.toInt).toNat < M5 → Ok (k5 s x1 x2 x3 x4) (Q_r_sumNow s0)) (s : RS) (x1 : Int32) (x2 : Int32) (x3 : Int32) (x4 : Int32) (hI_s : InvR s) (hF_s : FrR [] s0 s) (h_x1l : 10 ≤ x1.toInt) (h_x1u : x1.toInt ≤ 21) (h_x2l : 5 ≤ x2.toInt) (h_x2u : x2.toInt ≤ 6) (h_x4l : 10 ≤ x4.toInt) (h_x4u : x4.toInt ≤ 29) (hM5 : (29 - x4.toInt).toNat ≤ M5) : Ok (r_sumNow_5 k5 s x1 x2 x3 x4) (Q_r_sumNow s0) := by
  unfold r_sumNow_5
  have a_1 : ((x1 + x2)).toInt = (x1).toInt + (x2).toInt := tn_add rfl rfl (by omega) (by omega)
  refine ok_ite (fun c_2 => ?_) (fun c_2 => ?_)
  · have c_2 := tn_le (a := ((x1 + x2)).toInt) (b := (x4).toInt) rfl rfl c_2
    exact ok_some ⟨hI_s, hF_s, (ti_rng _).1, (ti_rng _).2⟩
  · have c_2 := tn_nle (a := ((x1 + x2)).toInt) (b := (x4).toInt) rfl rfl c_2
    refine ok_grd (vpb_ok (by omega) (by omega)) ?_
    have a_3 : ((x4 + 1)).toInt = (x4).toInt + 1 := tn_add rfl (by decide) (by omega) (by omega)
    exact hk5 _ _ _ _ _ hI_s hF_s (by omega) (by omega) (by omega) (by omega) (by omega) (by omega) (by omega)
theorem okL_r_sumNow_5 (s0 : RS)  : ∀ (n : Nat) (s : RS) (x1 : Int32) (x2 : Int32) (x3 : Int32) (x4 : Int32), (29 - x4.toInt).toNat < n → InvR s → FrR [] s0 s → 10 ≤ x1.toInt → x1.toInt ≤ 21 → 5 ≤ x2.toInt → x2.toInt ≤ 6 → 10 ≤ x4.toInt → x4.toInt ≤ 29 → Ok (r_sumNow_5L  n s x1 x2 x3 x4) (Q_r_sumNow s0) := by
  intro n
  induction n with
  | zero => intro s x1 x2 x3 x4 hn; omega
  | succ n ih =>
    intro s x1 x2 x3 x4 hn hI_s hF_s h_x1l h_x1u h_x2l h_x2u h_x4l h_x4u 
    exact ok_r_sumNow_5 s0 (r_sumNow_5L  n) ((29 - x4.toInt).toNat) (fun zs zx1 zx2 zx3 zx4 g0 g1 g2 g3 g4 g5 g6 g7  hm => ih zs zx1 zx2 zx3 zx4 (by omega) g0 g1 g2 g3 g4 g5 g6 g7 ) s x1 x2 x3 x4 hI_s hF_s h_x1l h_x1u h_x2l h_x2u h_x4l h_x4u (Nat.le_refl _)
set_option maxHeartbeats 1000000 in
theorem ok_r_sumNowB (s0 : RS)  (s : RS) (x1 : Int32) (x2 : Int32) (hI_s : InvR s) (hF_s : FrR [] s0 s) (h_x1l : 10 ≤ x1.toInt) (h_x1u : x1.toInt ≤ 21) (h_x2l : 5 ≤ x2.toInt) (h_x2u : x2.toInt ≤ 6)  : Ok (r_sumNow  s x1 x2) (Q_r_sumNow s0) := by
  unfold r_sumNow
  have l_0 : (0 : Int32).toInt = 0 := by decide
  exact okL_r_sumNow_5 s0  fu _ _ _ _ _ (by unfold fu; omega) hI_s hF_s (by omega) (by omega) (by omega) (by omega) (by omega) (by omega) 
theorem ok_r_sumNow (s : RS) (x1 : Int32) (x2 : Int32) (hI_s : InvR s) (h_x1l : 10 ≤ x1.toInt) (h_x1u : x1.toInt ≤ 21) (h_x2l : 5 ≤ x2.toInt) (h_x2u : x2.toInt ≤ 6) : Ok (r_sumNow s x1 x2) (Q_r_sumNow s) := ok_r_sumNowB s s x1 x2 hI_s FrR.rfl h_x1l h_x1u h_x2l h_x2u
abbrev Q_r_count (s0 : RS) (y : Int32 × RS) : Prop := InvR y.2 ∧ FrR [42, 45, 140, 141, 144] s0 y.2 ∧ -2147483648 ≤ y.1.toInt ∧ y.1.toInt ≤ 2147483647
set_option maxHeartbeats 1000000 in
theorem ok_r_count_202 (s0 : RS) (hB : Big s0)  (s : RS) (t0 : Int32) (t1 : Int32) (hI_s : InvR s) (hF_s : FrR [42, 45, 140, 141, 144] s0 s) (h_t0l : 0 ≤ t0.toInt) (h_t0u : t0.toInt ≤ 1) (h_t1l : 0 ≤ t1.toInt) (h_t1u : t1.toInt ≤ 1)  : Ok (r_count_202  s t0 t1) (Q_r_count s0) := by
  unfold r_count_202
  refine ok_ite (fun c_1 => ?_) (fun c_1 => ?_)
  · have c_1 := tn_eq (a := ((s.f 56 2)).toInt) (b := 0) rfl (by decide) c_1
    have a_2 : ((t1 + t0)).toInt = (t1).toInt + (t0).toInt := tn_add rfl rfl (by omega) (by omega)
    have a_3 : (((t1 + t0) + 0)).toInt = ((t1 + t0)).toInt + 0 := tn_add rfl (by decide) (by omega) (by omega)
    exact ok_some ⟨hI_s, hF_s, (ti_rng _).1, (ti_rng _).2⟩
  · have c_1 := tn_ne (a := ((s.f 56 2)).toInt) (b := 0) rfl (by decide) c_1
    have a_4 : ((t1 + t0)).toInt = (t1).toInt + (t0).toInt := tn_add rfl rfl (by omega) (by omega)
    have a_5 : (((t1 + t0) + 1)).toInt = ((t1 + t0)).toInt + 1 := tn_add rfl (by decide) (by omega) (by omega)
    exact ok_some ⟨hI_s, hF_s, (ti_rng _).1, (ti_rng _).2⟩
set_option maxHeartbeats 1000000 in
theorem ok_r_count_188 (s0 : RS) (hB : Big s0)  (s : RS) (t0 : Int32) (hI_s : InvR s) (hF_s : FrR [42, 45, 140, 141, 144] s0 s) (h_t0l : 0 ≤ t0.toInt) (h_t0u : t0.toInt ≤ 1)  : Ok (r_count_188  s t0) (Q_r_count s0) := by
  unfold r_count_188
  refine ok_ite (fun c_1 => ?_) (fun c_1 => ?_)
  · have c_1 := tn_eq (a := ((s.f 56 1)).toInt) (b := 0) rfl (by decide) c_1
    have l_0 : (0 : Int32).toInt = 0 := by decide
    exact ok_r_count_202 s0 hB  _ _ _ hI_s hF_s (by decide) (by decide) (by omega) (by omega) 
  · have c_1 := tn_ne (a := ((s.f 56 1)).toInt) (b := 0) rfl (by decide) c_1
    have l_1 : (1 : Int32).toInt = 1 := by decide
    exact ok_r_count_202 s0 hB  _ _ _ hI_s hF_s (by decide) (by decide) (by omega) (by omega) 
set_option maxHeartbeats 1000000 in
theorem ok_r_count_301 (s0 : RS) (hB : Big s0) (k271 : RS → Int32 → Int32 → Option (Int32 × RS)) (M271 : Nat) (hk271 : ∀ (s : RS) (x2 : Int32) (x3 : Int32), InvR s → FrR [42, 45, 140, 141, 144] s0 s → 0 ≤ x3.toInt → x3.toInt ≤ 5 → (5 - x3.toInt).toNat < M271 → Ok (k271 s x2 x3) (Q_r_count s0)) (s : RS) (x2 : Int32) (x3 : Int32) (hI_s : InvR s) (hF_s : FrR [42, 45, 140, 141, 144] s0 s) (h_x3l : 0 ≤ x3.toInt) (h_x3u : x3.toInt ≤ 4) (hM271 : (5 - x3.toInt).toNat ≤ M271) : Ok (r_count_301 k271 s x2 x3) (Q_r_count s0) := by
  unfold r_count_301
  have a_1 : ((x3 + 1)).toInt = (x3).toInt + 1 := tn_add rfl (by decide) (by omega) (by omega)
  exact hk271 _ _ _ hI_s hF_s (by omega) (by omega) (by omega)
set_option maxHeartbeats 1000000 in
theorem ok_r_count_271 (s0 : RS) (hB : Big s0) (k271 : RS → Int32 → Int32 → Option (Int32 × RS)) (M271 : Nat) (hk271 : ∀ (s : RS) (x2 : Int32) (x3 : Int32), InvR s → FrR [42, 45, 140, 141, 144] s0 s → 0 ≤ x3.toInt → x3.toInt ≤ 5 → (5 - x3.toInt).toNat < M271 → Ok (k271 s x2 x3) (Q_r_count s0)) (s : RS) (x2 : Int32) (x3 : Int32) (hI_s : InvR s) (hF_s : FrR [42, 45, 140, 141, 144] s0 s) (h_x3l : 0 ≤ x3.toInt) (h_x3u : x3.toInt ≤ 5) (hM271 : (5 - x3.toInt).toNat ≤ M271) : Ok (r_count_271 k271 s x2 x3) (Q_r_count s0) := by
  unfold r_count_271
  have a_1 : 0 ≤ (s.v 18).toInt ∧ (s.v 18).toInt ≤ 1 := hI_s.1 18
  refine ok_grd (vpb_ok (by omega) (by omega)) ?_
  have a_2 : ((s.f 20 (Int32.toNatClampNeg (s.v 18)))).toInt = wv s0 := wv_fr hF_s (by decide) (by decide)
  have a_3 : 0 ≤ ((s.f 20 (Int32.toNatClampNeg (s.v 18)))).toInt ∧ ((s.f 20 (Int32.toNatClampNeg (s.v 18)))).toInt ≤ 5 := hI_s.2 20 _
  refine ok_ite (fun c_4 => ?_) (fun c_4 => ?_)
  · have c_4 := tn_le (a := ((s.f 20 (Int32.toNatClampNeg (s.v 18)))).toInt) (b := (x3).toInt) rfl rfl c_4
    exact ok_some ⟨hI_s, hF_s, (ti_rng _).1, (ti_rng _).2⟩
  · have c_4 := tn_nle (a := ((s.f 20 (Int32.toNatClampNeg (s.v 18)))).toInt) (b := (x3).toInt) rfl rfl c_4
    have a_5 : ((5 + x3)).toInt = 5 + (x3).toInt := tn_add (by decide) rfl (by omega) (by omega)
    refine ok_grd (vpb_ok (by omega) (by omega)) ?_
    refine ok_ite (fun c_6 => ?_) (fun c_6 => ?_)
    · have c_6 := tn_lt (a := ((s.f 44 (Int32.toNatClampNeg (5 + x3)))).toInt) (b := 0) rfl (by decide) c_6
      exact ok_r_count_301 s0 hB k271 M271 hk271 _ _ _ hI_s hF_s (by omega) (by omega) (by omega)
    · have c_6 := tn_nlt (a := ((s.f 44 (Int32.toNatClampNeg (5 + x3)))).toInt) (b := 0) rfl (by decide) c_6
      exact ok_r_count_301 s0 hB k271 M271 hk271 _ _ _ hI_s hF_s (by omega) (by omega) (by omega)
theorem okL_r_count_271 (s0 : RS) (hB : Big s0)  : ∀ (n : Nat) (s : RS) (x2 : Int32) (x3 : Int32), (5 - x3.toInt).toNat < n → InvR s → FrR [42, 45, 140, 141, 144] s0 s → 0 ≤ x3.toInt → x3.toInt ≤ 5 → Ok (r_count_271L  n s x2 x3) (Q_r_count s0) := by
  intro n
  induction n with
  | zero => intro s x2 x3 hn; omega
  | succ n ih =>
    intro s x2 x3 hn hI_s hF_s h_x3l h_x3u 
    exact ok_r_count_271 s0 hB (r_count_271L  n) ((5 - x3.toInt).toNat) (fun zs zx2 zx3 g0 g1 g2 g3  hm => ih zs zx2 zx3 (by omega) g0 g1 g2 g3 ) s x2 x3 hI_s hF_s h_x3l h_x3u (Nat.le_refl _)
set_option maxHeartbeats 1000000 in
theorem ok_r_count_356 (s0 : RS) (hB : Big s0) (k329 : RS → Int32 → Int32 → Option (Int32 × RS)) (M329 : Nat) (hk329 : ∀ (s : RS) (x2 : Int32) (x3 : Int32), InvR s → FrR [42, 45, 140, 141, 144] s0 s → 0 ≤ x3.toInt → x3.toInt ≤ 5 → (5 - x3.toInt).toNat < M329 → Ok (k329 s x2 x3) (Q_r_count s0)) (s : RS) (x2 : Int32) (x3 : Int32) (hI_s : InvR s) (hF_s : FrR [42, 45, 140, 141, 144] s0 s) (h_x3l : 0 ≤ x3.toInt) (h_x3u : x3.toInt ≤ 4) (hM329 : (5 - x3.toInt).toNat ≤ M329) : Ok (r_count_356 k329 s x2 x3) (Q_r_count s0) := by
  unfold r_count_356
  have a_1 : ((x3 + 1)).toInt = (x3).toInt + 1 := tn_add rfl (by decide) (by omega) (by omega)
  exact hk329 _ _ _ hI_s hF_s (by omega) (by omega) (by omega)
set_option maxHeartbeats 1000000 in
theorem ok_r_count_329 (s0 : RS) (hB : Big s0) (k329 : RS → Int32 → Int32 → Option (Int32 × RS)) (M329 : Nat) (hk329 : ∀ (s : RS) (x2 : Int32) (x3 : Int32), InvR s → FrR [42, 45, 140, 141, 144] s0 s → 0 ≤ x3.toInt → x3.toInt ≤ 5 → (5 - x3.toInt).toNat < M329 → Ok (k329 s x2 x3) (Q_r_count s0)) (s : RS) (x2 : Int32) (x3 : Int32) (hI_s : InvR s) (hF_s : FrR [42, 45, 140, 141, 144] s0 s) (h_x3l : 0 ≤ x3.toInt) (h_x3u : x3.toInt ≤ 5) (hM329 : (5 - x3.toInt).toNat ≤ M329) : Ok (r_count_329 k329 s x2 x3) (Q_r_count s0) := by
  unfold r_count_329
  have a_1 : 0 ≤ (s.v 18).toInt ∧ (s.v 18).toInt ≤ 1 := hI_s.1 18
  refine ok_grd (vpb_ok (by omega) (by omega)) ?_
  have a_2 : ((s.f 20 (Int32.toNatClampNeg (s.v 18)))).toInt = wv s0 := wv_fr hF_s (by decide) (by decide)
  have a_3 : 0 ≤ ((s.f 20 (Int32.toNatClampNeg (s.v 18)))).toInt ∧ ((s.f 20 (Int32.toNatClampNeg (s.v 18)))).toInt ≤ 5 := hI_s.2 20 _
  refine ok_ite (fun c_4 => ?_) (fun c_4 => ?_)
  · have c_4 := tn_le (a := ((s.f 20 (Int32.toNatClampNeg (s.v 18)))).toInt) (b := (x3).toInt) rfl rfl c_4
    exact ok_some ⟨hI_s, hF_s, (ti_rng _).1, (ti_rng _).2⟩
  · have c_4 := tn_nle (a := ((s.f 20 (Int32.toNatClampNeg (s.v 18)))).toInt) (b := (x3).toInt) rfl rfl c_4
    refine ok_bindI (ok_r_mayAt _ _ hI_s (by omega) (by omega)) (fun r4 s3 hc_5 => ?_)
    have hI_s3 : InvR s3 := hc_5.1
    have hFc_s3 : FrR [] s s3 := hc_5.2.1
    have hF_s3 : FrR [42, 45, 140, 141, 144] s0 s3 := hF_s.trans hFc_s3 (by decide)
    refine ok_ite (fun c_6 => ?_) (fun c_6 => ?_)
    · have c_6 := tn_eq (a := (r4).toInt) (b := 0) rfl (by decide) c_6
      exact ok_r_count_356 s0 hB k329 M329 hk329 _ _ _ hI_s3 hF_s3 (by omega) (by omega) (by omega)
    · have c_6 := tn_ne (a := (r4).toInt) (b := 0) rfl (by decide) c_6
      exact ok_r_count_356 s0 hB k329 M329 hk329 _ _ _ hI_s3 hF_s3 (by omega) (by omega) (by omega)
theorem okL_r_count_329 (s0 : RS) (hB : Big s0)  : ∀ (n : Nat) (s : RS) (x2 : Int32) (x3 : Int32), (5 - x3.toInt).toNat < n → InvR s → FrR [42, 45, 140, 141, 144] s0 s → 0 ≤ x3.toInt → x3.toInt ≤ 5 → Ok (r_count_329L  n s x2 x3) (Q_r_count s0) := by
  intro n
  induction n with
  | zero => intro s x2 x3 hn; omega
  | succ n ih =>
    intro s x2 x3 hn hI_s hF_s h_x3l h_x3u 
    exact ok_r_count_329 s0 hB (r_count_329L  n) ((5 - x3.toInt).toNat) (fun zs zx2 zx3 g0 g1 g2 g3  hm => ih zs zx2 zx3 (by omega) g0 g1 g2 g3 ) s x2 x3 hI_s hF_s h_x3l h_x3u (Nat.le_refl _)
set_option maxHeartbeats 1000000 in
theorem ok_r_count_395 (s0 : RS) (hB : Big s0) (k366 : RS → Int32 → Int32 → Option (Int32 × RS)) (M366 : Nat) (hk366 : ∀ (s : RS) (x2 : Int32) (x3 : Int32), InvR s → FrR [42, 45, 140, 141, 144] s0 s → 0 ≤ x3.toInt → x3.toInt ≤ 6 → (6 - x3.toInt).toNat < M366 → Ok (k366 s x2 x3) (Q_r_count s0)) (s : RS) (x2 : Int32) (x3 : Int32) (hI_s : InvR s) (hF_s : FrR [42, 45, 140, 141, 144] s0 s) (h_x3l : 0 ≤ x3.toInt) (h_x3u : x3.toInt ≤ 5) (hM366 : (6 - x3.toInt).toNat ≤ M366) : Ok (r_count_395 k366 s x2 x3) (Q_r_count s0) := by
  unfold r_count_395
  have a_1 : ((x3 + 1)).toInt = (x3).toInt + 1 := tn_add rfl (by decide) (by omega) (by omega)
  exact hk366 _ _ _ hI_s hF_s (by omega) (by omega) (by omega)
set_option maxHeartbeats 1000000 in
theorem ok_r_count_366 (s0 : RS) (hB : Big s0) (k366 : RS → Int32 → Int32 → Option (Int32 × RS)) (M366 : Nat) (hk366 : ∀ (s : RS) (x2 : Int32) (x3 : Int32), InvR s → FrR [42, 45, 140, 141, 144] s0 s → 0 ≤ x3.toInt → x3.toInt ≤ 6 → (6 - x3.toInt).toNat < M366 → Ok (k366 s x2 x3) (Q_r_count s0)) (s : RS) (x2 : Int32) (x3 : Int32) (hI_s : InvR s) (hF_s : FrR [42, 45, 140, 141, 144] s0 s) (h_x3l : 0 ≤ x3.toInt) (h_x3u : x3.toInt ≤ 6) (hM366 : (6 - x3.toInt).toNat ≤ M366) : Ok (r_count_366 k366 s x2 x3) (Q_r_count s0) := by
  unfold r_count_366
  have a_1 : 0 ≤ (s.v 18).toInt ∧ (s.v 18).toInt ≤ 1 := hI_s.1 18
  refine ok_grd (vpb_ok (by omega) (by omega)) ?_
  have a_2 : 0 ≤ ((s.f 23 (Int32.toNatClampNeg (s.v 18)))).toInt ∧ ((s.f 23 (Int32.toNatClampNeg (s.v 18)))).toInt ≤ 6 := hI_s.2 23 _
  refine ok_ite (fun c_3 => ?_) (fun c_3 => ?_)
  · have c_3 := tn_le (a := ((s.f 23 (Int32.toNatClampNeg (s.v 18)))).toInt) (b := (x3).toInt) rfl rfl c_3
    exact ok_some ⟨hI_s, hF_s, (ti_rng _).1, (ti_rng _).2⟩
  · have c_3 := tn_nle (a := ((s.f 23 (Int32.toNatClampNeg (s.v 18)))).toInt) (b := (x3).toInt) rfl rfl c_3
    refine ok_bindI (ok_r_isHere _ _ hI_s) (fun r4 s3 hc_4 => ?_)
    have hI_s3 : InvR s3 := hc_4.1
    have hFc_s3 : FrR [] s s3 := hc_4.2.1
    have hF_s3 : FrR [42, 45, 140, 141, 144] s0 s3 := hF_s.trans hFc_s3 (by decide)
    have hl_r4 : 0 ≤ r4.toInt := hc_4.2.2.1
    have hu_r4 : r4.toInt ≤ 1 := hc_4.2.2.2.1
    have hx0_r4 : (¬ r4.toInt = 0 → 0 ≤ (x3).toInt ∧ (x3).toInt ≤ 5) := hc_4.2.2.2.2
    refine ok_ite (fun c_5 => ?_) (fun c_5 => ?_)
    · have c_5 := tn_eq (a := (r4).toInt) (b := 0) rfl (by decide) c_5
      exact ok_r_count_395 s0 hB k366 M366 hk366 _ _ _ hI_s3 hF_s3 (by omega) (by omega) (by omega)
    · have c_5 := tn_ne (a := (r4).toInt) (b := 0) rfl (by decide) c_5
      refine ok_bindI (ok_r_faresOf _ _ hI_s3 (hB.fr hF_s3 (by decide)) (by omega) (by omega)) (fun r7 s6 hc_6 => ?_)
      have hI_s6 : InvR s6 := hc_6.1
      have hFc_s6 : FrR [42, 140, 141] s3 s6 := hc_6.2.1
      have hF_s6 : FrR [42, 45, 140, 141, 144] s0 s6 := hF_s3.trans hFc_s6 (by decide)
      have hl_r7 : 0 ≤ r7.toInt := hc_6.2.2.1
      have hu_r7 : r7.toInt ≤ 100 := hc_6.2.2.2
      exact ok_r_count_395 s0 hB k366 M366 hk366 _ _ _ hI_s6 hF_s6 (by omega) (by omega) (by omega)
theorem okL_r_count_366 (s0 : RS) (hB : Big s0)  : ∀ (n : Nat) (s : RS) (x2 : Int32) (x3 : Int32), (6 - x3.toInt).toNat < n → InvR s → FrR [42, 45, 140, 141, 144] s0 s → 0 ≤ x3.toInt → x3.toInt ≤ 6 → Ok (r_count_366L  n s x2 x3) (Q_r_count s0) := by
  intro n
  induction n with
  | zero => intro s x2 x3 hn; omega
  | succ n ih =>
    intro s x2 x3 hn hI_s hF_s h_x3l h_x3u 
    exact ok_r_count_366 s0 hB (r_count_366L  n) ((6 - x3.toInt).toNat) (fun zs zx2 zx3 g0 g1 g2 g3  hm => ih zs zx2 zx3 (by omega) g0 g1 g2 g3 ) s x2 x3 hI_s hF_s h_x3l h_x3u (Nat.le_refl _)
set_option maxHeartbeats 1000000 in
theorem ok_r_countB (s0 : RS) (hB : Big s0)  (s : RS) (x1 : Int32) (hI_s : InvR s) (hF_s : FrR [42, 45, 140, 141, 144] s0 s)  : Ok (r_count  s x1) (Q_r_count s0) := by
  unfold r_count
  refine ok_bindP (ok_r_copies _  hI_s) (fun s1 hc_1 => ?_)
  have hI_s1 : InvR s1 := hc_1.1
  have hFc_s1 : FrR [45, 144] s s1 := hc_1.2
  have hF_s1 : FrR [42, 45, 140, 141, 144] s0 s1 := hF_s.trans hFc_s1 (by decide)
  refine ok_ite (fun c_2 => ?_) (fun c_2 => ?_)
  · have c_2 := tn_eq (a := (x1).toInt) (b := 0) rfl (by decide) c_2
    have a_3 : 0 ≤ (s.v 18).toInt ∧ (s.v 18).toInt ≤ 1 := hI_s.1 18
    have a_4 : (s1.v 18).toInt = (s.v 18).toInt := congrArg Int32.toInt (hFc_s1.1 18 (by decide))
    refine ok_grd (vpb_ok (by omega) (by omega)) ?_
    have a_5 : ((s1.f 20 (Int32.toNatClampNeg (s1.v 18)))).toInt = wv s0 := wv_fr hF_s1 (by decide) (by decide)
    have a_6 : 0 ≤ ((s1.f 20 (Int32.toNatClampNeg (s1.v 18)))).toInt ∧ ((s1.f 20 (Int32.toNatClampNeg (s1.v 18)))).toInt ≤ 5 := hI_s1.2 20 _
    exact ok_some ⟨hI_s1, hF_s1, (ti_rng _).1, (ti_rng _).2⟩
  · have c_2 := tn_ne (a := (x1).toInt) (b := 0) rfl (by decide) c_2
    refine ok_ite (fun c_7 => ?_) (fun c_7 => ?_)
    · have c_7 := tn_eq (a := (x1).toInt) (b := 1) rfl (by decide) c_7
      have a_8 : 0 ≤ (s.v 18).toInt ∧ (s.v 18).toInt ≤ 1 := hI_s.1 18
      have a_9 : (s1.v 18).toInt = (s.v 18).toInt := congrArg Int32.toInt (hFc_s1.1 18 (by decide))
      refine ok_grd (vpb_ok (by omega) (by omega)) ?_
      have a_10 : 0 ≤ ((s1.f 23 (Int32.toNatClampNeg (s1.v 18)))).toInt ∧ ((s1.f 23 (Int32.toNatClampNeg (s1.v 18)))).toInt ≤ 6 := hI_s1.2 23 _
      exact ok_some ⟨hI_s1, hF_s1, (ti_rng _).1, (ti_rng _).2⟩
    · have c_7 := tn_ne (a := (x1).toInt) (b := 1) rfl (by decide) c_7
      refine ok_ite (fun c_11 => ?_) (fun c_11 => ?_)
      · have c_11 := tn_eq (a := (x1).toInt) (b := 2) rfl (by decide) c_11
        exact ok_some ⟨hI_s1, hF_s1, (ti_rng _).1, (ti_rng _).2⟩
      · have c_11 := tn_ne (a := (x1).toInt) (b := 2) rfl (by decide) c_11
        refine ok_ite (fun c_12 => ?_) (fun c_12 => ?_)
        · have c_12 := tn_eq (a := (x1).toInt) (b := 3) rfl (by decide) c_12
          exact ok_some ⟨hI_s1, hF_s1, (ti_rng _).1, (ti_rng _).2⟩
        · have c_12 := tn_ne (a := (x1).toInt) (b := 3) rfl (by decide) c_12
          refine ok_ite (fun c_13 => ?_) (fun c_13 => ?_)
          · have c_13 := tn_eq (a := (x1).toInt) (b := 4) rfl (by decide) c_13
            refine ok_bindI (ok_r_partiesIn _ _ hI_s1 (by decide) (by decide)) (fun r10 s9 hc_14 => ?_)
            have hI_s9 : InvR s9 := hc_14.1
            have hFc_s9 : FrR [] s1 s9 := hc_14.2.1
            have hF_s9 : FrR [42, 45, 140, 141, 144] s0 s9 := hF_s1.trans hFc_s9 (by decide)
            exact ok_some ⟨hI_s9, hF_s9, (ti_rng _).1, (ti_rng _).2⟩
          · have c_13 := tn_ne (a := (x1).toInt) (b := 4) rfl (by decide) c_13
            refine ok_ite (fun c_15 => ?_) (fun c_15 => ?_)
            · have c_15 := tn_eq (a := (x1).toInt) (b := 5) rfl (by decide) c_15
              refine ok_bindI (ok_r_partiesIn _ _ hI_s1 (by decide) (by decide)) (fun r13 s12 hc_16 => ?_)
              have hI_s12 : InvR s12 := hc_16.1
              have hFc_s12 : FrR [] s1 s12 := hc_16.2.1
              have hF_s12 : FrR [42, 45, 140, 141, 144] s0 s12 := hF_s1.trans hFc_s12 (by decide)
              exact ok_some ⟨hI_s12, hF_s12, (ti_rng _).1, (ti_rng _).2⟩
            · have c_15 := tn_ne (a := (x1).toInt) (b := 5) rfl (by decide) c_15
              refine ok_ite (fun c_17 => ?_) (fun c_17 => ?_)
              · have c_17 := tn_eq (a := (x1).toInt) (b := 6) rfl (by decide) c_17
                refine ok_bindI (ok_r_partiesIn _ _ hI_s1 (by decide) (by decide)) (fun r16 s15 hc_18 => ?_)
                have hI_s15 : InvR s15 := hc_18.1
                have hFc_s15 : FrR [] s1 s15 := hc_18.2.1
                have hF_s15 : FrR [42, 45, 140, 141, 144] s0 s15 := hF_s1.trans hFc_s15 (by decide)
                exact ok_some ⟨hI_s15, hF_s15, (ti_rng _).1, (ti_rng _).2⟩
              · have c_17 := tn_ne (a := (x1).toInt) (b := 6) rfl (by decide) c_17
                refine ok_ite (fun c_19 => ?_) (fun c_19 => ?_)
                · have c_19 := tn_eq (a := (x1).toInt) (b := 7) rfl (by decide) c_19
                  refine ok_bindI (ok_r_sumNow _ _ _ hI_s1 (by decide) (by decide) (by decide) (by decide)) (fun r19 s18 hc_20 => ?_)
                  have hI_s18 : InvR s18 := hc_20.1
                  have hFc_s18 : FrR [] s1 s18 := hc_20.2.1
                  have hF_s18 : FrR [42, 45, 140, 141, 144] s0 s18 := hF_s1.trans hFc_s18 (by decide)
                  exact ok_some ⟨hI_s18, hF_s18, (ti_rng _).1, (ti_rng _).2⟩
                · have c_19 := tn_ne (a := (x1).toInt) (b := 7) rfl (by decide) c_19
                  refine ok_ite (fun c_21 => ?_) (fun c_21 => ?_)
                  · have c_21 := tn_eq (a := (x1).toInt) (b := 8) rfl (by decide) c_21
                    have a_22 : 0 ≤ (s.v 2).toInt ∧ (s.v 2).toInt ≤ 2000 := hI_s.1 2
                    have a_23 : (s1.v 2).toInt = (s.v 2).toInt := congrArg Int32.toInt (hFc_s1.1 2 (by decide))
                    exact ok_some ⟨hI_s1, hF_s1, (ti_rng _).1, (ti_rng _).2⟩
                  · have c_21 := tn_ne (a := (x1).toInt) (b := 8) rfl (by decide) c_21
                    refine ok_ite (fun c_24 => ?_) (fun c_24 => ?_)
                    · have c_24 := tn_eq (a := (x1).toInt) (b := 9) rfl (by decide) c_24
                      have a_25 : 0 ≤ (s.v 48).toInt ∧ (s.v 48).toInt ≤ 40 := hI_s.1 48
                      have a_26 : (s1.v 48).toInt = (s.v 48).toInt := congrArg Int32.toInt (hFc_s1.1 48 (by decide))
                      exact ok_some ⟨hI_s1, hF_s1, (ti_rng _).1, (ti_rng _).2⟩
                    · have c_24 := tn_ne (a := (x1).toInt) (b := 9) rfl (by decide) c_24
                      refine ok_ite (fun c_27 => ?_) (fun c_27 => ?_)
                      · have c_27 := tn_eq (a := (x1).toInt) (b := 10) rfl (by decide) c_27
                        have a_28 : 0 ≤ (s.v 51).toInt ∧ (s.v 51).toInt ≤ 20 := hI_s.1 51
                        have a_29 : (s1.v 51).toInt = (s.v 51).toInt := congrArg Int32.toInt (hFc_s1.1 51 (by decide))
                        exact ok_some ⟨hI_s1, hF_s1, (ti_rng _).1, (ti_rng _).2⟩
                      · have c_27 := tn_ne (a := (x1).toInt) (b := 10) rfl (by decide) c_27
                        refine ok_ite (fun c_30 => ?_) (fun c_30 => ?_)
                        · have c_30 := tn_eq (a := (x1).toInt) (b := 11) rfl (by decide) c_30
                          refine ok_ite (fun c_31 => ?_) (fun c_31 => ?_)
                          · have c_31 := tn_eq (a := ((s1.f 56 0)).toInt) (b := 0) rfl (by decide) c_31
                            have l_0 : (0 : Int32).toInt = 0 := by decide
                            exact ok_r_count_188 s0 hB  _ _ hI_s1 hF_s1 (by decide) (by decide) 
                          · have c_31 := tn_ne (a := ((s1.f 56 0)).toInt) (b := 0) rfl (by decide) c_31
                            have l_1 : (1 : Int32).toInt = 1 := by decide
                            exact ok_r_count_188 s0 hB  _ _ hI_s1 hF_s1 (by decide) (by decide) 
                        · have c_30 := tn_ne (a := (x1).toInt) (b := 11) rfl (by decide) c_30
                          refine ok_ite (fun c_32 => ?_) (fun c_32 => ?_)
                          · have c_32 := tn_eq (a := (x1).toInt) (b := 12) rfl (by decide) c_32
                            refine ok_bindP (ok_r_bits _ ) (fun r26 hc_33 => ?_)
                            have hl_r26 : 0 ≤ r26.toInt := hc_33.1
                            have hu_r26 : r26.toInt ≤ 6 := hc_33.2
                            refine ok_bindP (ok_r_bits _ ) (fun r27 hc_34 => ?_)
                            have hl_r27 : 0 ≤ r27.toInt := hc_34.1
                            have hu_r27 : r27.toInt ≤ 6 := hc_34.2
                            refine ok_bindP (ok_r_bits _ ) (fun r28 hc_35 => ?_)
                            have hl_r28 : 0 ≤ r28.toInt := hc_35.1
                            have hu_r28 : r28.toInt ≤ 6 := hc_35.2
                            refine ok_bindP (ok_r_bits _ ) (fun r29 hc_36 => ?_)
                            have hl_r29 : 0 ≤ r29.toInt := hc_36.1
                            have hu_r29 : r29.toInt ≤ 6 := hc_36.2
                            refine ok_bindP (ok_r_bits _ ) (fun r30 hc_37 => ?_)
                            have hl_r30 : 0 ≤ r30.toInt := hc_37.1
                            have hu_r30 : r30.toInt ≤ 6 := hc_37.2
                            have a_38 : ((r26 + r27)).toInt = (r26).toInt + (r27).toInt := tn_add rfl rfl (by omega) (by omega)
                            have a_39 : (((r26 + r27) + r28)).toInt = ((r26 + r27)).toInt + (r28).toInt := tn_add rfl rfl (by omega) (by omega)
                            have a_40 : ((((r26 + r27) + r28) + r29)).toInt = (((r26 + r27) + r28)).toInt + (r29).toInt := tn_add rfl rfl (by omega) (by omega)
                            have a_41 : (((((r26 + r27) + r28) + r29) + r30)).toInt = ((((r26 + r27) + r28) + r29)).toInt + (r30).toInt := tn_add rfl rfl (by omega) (by omega)
                            exact ok_some ⟨hI_s1, hF_s1, (ti_rng _).1, (ti_rng _).2⟩
                          · have c_32 := tn_ne (a := (x1).toInt) (b := 12) rfl (by decide) c_32
                            refine ok_ite (fun c_42 => ?_) (fun c_42 => ?_)
                            · have c_42 := tn_eq (a := (x1).toInt) (b := 13) rfl (by decide) c_42
                              have l_0 : (0 : Int32).toInt = 0 := by decide
                              exact okL_r_count_271 s0 hB  fu _ _ _ (by unfold fu; omega) hI_s1 hF_s1 (by decide) (by decide) 
                            · have c_42 := tn_ne (a := (x1).toInt) (b := 13) rfl (by decide) c_42
                              refine ok_ite (fun c_43 => ?_) (fun c_43 => ?_)
                              · have c_43 := tn_eq (a := (x1).toInt) (b := 14) rfl (by decide) c_43
                                refine ok_bindI (ok_r_guesses _  hI_s1 (hB.fr hF_s1 (by decide))) (fun r34 s33 hc_44 => ?_)
                                have hI_s33 : InvR s33 := hc_44.1
                                have hFc_s33 : FrR [] s1 s33 := hc_44.2.1
                                have hF_s33 : FrR [42, 45, 140, 141, 144] s0 s33 := hF_s1.trans hFc_s33 (by decide)
                                have hl_r34 : 1 ≤ r34.toInt := hc_44.2.2.1
                                have hu_r34 : r34.toInt ≤ 7776 := hc_44.2.2.2
                                exact ok_some ⟨hI_s33, hF_s33, (ti_rng _).1, (ti_rng _).2⟩
                              · have c_43 := tn_ne (a := (x1).toInt) (b := 14) rfl (by decide) c_43
                                refine ok_ite (fun c_45 => ?_) (fun c_45 => ?_)
                                · have c_45 := tn_eq (a := (x1).toInt) (b := 15) rfl (by decide) c_45
                                  refine ok_bindI (ok_r_thereNumber _  hI_s1 (hB.fr hF_s1 (by decide))) (fun r37 s36 hc_46 => ?_)
                                  have hI_s36 : InvR s36 := hc_46.1
                                  have hFc_s36 : FrR [] s1 s36 := hc_46.2.1
                                  have hF_s36 : FrR [42, 45, 140, 141, 144] s0 s36 := hF_s1.trans hFc_s36 (by decide)
                                  have hl_r37 : 0 ≤ r37.toInt := hc_46.2.2.1
                                  have hu_r37 : r37.toInt ≤ 194400 := hc_46.2.2.2
                                  exact ok_some ⟨hI_s36, hF_s36, (ti_rng _).1, (ti_rng _).2⟩
                                · have c_45 := tn_ne (a := (x1).toInt) (b := 15) rfl (by decide) c_45
                                  refine ok_ite (fun c_47 => ?_) (fun c_47 => ?_)
                                  · have c_47 := tn_eq (a := (x1).toInt) (b := 16) rfl (by decide) c_47
                                    refine ok_bindI (ok_r_sumNow _ _ _ hI_s1 (by decide) (by decide) (by decide) (by decide)) (fun r40 s39 hc_48 => ?_)
                                    have hI_s39 : InvR s39 := hc_48.1
                                    have hFc_s39 : FrR [] s1 s39 := hc_48.2.1
                                    have hF_s39 : FrR [42, 45, 140, 141, 144] s0 s39 := hF_s1.trans hFc_s39 (by decide)
                                    exact ok_some ⟨hI_s39, hF_s39, (ti_rng _).1, (ti_rng _).2⟩
                                  · have c_47 := tn_ne (a := (x1).toInt) (b := 16) rfl (by decide) c_47
                                    refine ok_ite (fun c_49 => ?_) (fun c_49 => ?_)
                                    · have c_49 := tn_eq (a := (x1).toInt) (b := 17) rfl (by decide) c_49
                                      have l_0 : (0 : Int32).toInt = 0 := by decide
                                      exact okL_r_count_329 s0 hB  fu _ _ _ (by unfold fu; omega) hI_s1 hF_s1 (by decide) (by decide) 
                                    · have c_49 := tn_ne (a := (x1).toInt) (b := 17) rfl (by decide) c_49
                                      refine ok_ite (fun c_50 => ?_) (fun c_50 => ?_)
                                      · have c_50 := tn_eq (a := (x1).toInt) (b := 18) rfl (by decide) c_50
                                        have l_0 : (0 : Int32).toInt = 0 := by decide
                                        exact okL_r_count_366 s0 hB  fu _ _ _ (by unfold fu; omega) hI_s1 hF_s1 (by decide) (by decide) 
                                      · have c_50 := tn_ne (a := (x1).toInt) (b := 18) rfl (by decide) c_50
                                        exact ok_some ⟨hI_s1, hF_s1, (ti_rng _).1, (ti_rng _).2⟩
theorem ok_r_count (s : RS) (x1 : Int32) (hI_s : InvR s) (hB : Big s) : Ok (r_count s x1) (Q_r_count s) := ok_r_countB s hB s x1 hI_s FrR.rfl
