abbrev Q_r_goesBy (s0 : RS) (y : Int32 × RS) : Prop := InvR y.2 ∧ FrR [42, 140, 141, 144] s0 y.2 ∧ 0 ≤ y.1.toInt ∧ y.1.toInt ≤ 5
set_option maxHeartbeats 1000000 in
theorem ok_r_goesBy_39 (s0 : RS) (hB : Big s0) (k39 : RS → Int32 → Int32 → Int32 → Int32 → Int32 → Option (Int32 × RS)) (M39 : Nat) (hk39 : ∀ (s : RS) (x1 : Int32) (x2 : Int32) (x3 : Int32) (x4 : Int32) (x5 : Int32), InvR s → FrR [42, 140, 141, 144] s0 s → 0 ≤ x1.toInt → x1.toInt ≤ 5 → 0 ≤ x2.toInt → x2.toInt ≤ 194400 → 0 ≤ x3.toInt → x3.toInt ≤ 194400 → 0 ≤ x4.toInt → x4.toInt ≤ 5 → 0 ≤ x5.toInt → x5.toInt ≤ 5 → (5 - x5.toInt).toNat < M39 → Ok (k39 s x1 x2 x3 x4 x5) (Q_r_goesBy s0)) (s : RS) (x1 : Int32) (x2 : Int32) (x3 : Int32) (x4 : Int32) (x5 : Int32) (hI_s : InvR s) (hF_s : FrR [42, 140, 141, 144] s0 s) (h_x1l : 0 ≤ x1.toInt) (h_x1u : x1.toInt ≤ 5) (h_x2l : 0 ≤ x2.toInt) (h_x2u : x2.toInt ≤ 194400) (h_x3l : 0 ≤ x3.toInt) (h_x3u : x3.toInt ≤ 194400) (h_x4l : 0 ≤ x4.toInt) (h_x4u : x4.toInt ≤ 5) (h_x5l : 0 ≤ x5.toInt) (h_x5u : x5.toInt ≤ 5) (hM39 : (5 - x5.toInt).toNat ≤ M39) : Ok (r_goesBy_39 k39 s x1 x2 x3 x4 x5) (Q_r_goesBy s0) := by
  unfold r_goesBy_39
  have a_1 : 0 ≤ (s.v 18).toInt ∧ (s.v 18).toInt ≤ 1 := hI_s.1 18
  refine ok_grd (vpb_ok (by omega) (by omega)) ?_
  have a_2 : ((s.f 20 (Int32.toNatClampNeg (s.v 18)))).toInt = wv s0 := wv_fr hF_s (by decide) (by decide)
  have a_3 : 0 ≤ ((s.f 20 (Int32.toNatClampNeg (s.v 18)))).toInt ∧ ((s.f 20 (Int32.toNatClampNeg (s.v 18)))).toInt ≤ 5 := hI_s.2 20 _
  refine ok_ite (fun c_4 => ?_) (fun c_4 => ?_)
  · have c_4 := tn_le (a := ((s.f 20 (Int32.toNatClampNeg (s.v 18)))).toInt) (b := (x5).toInt) rfl rfl c_4
    have a_5 : ((15 + x1)).toInt = 15 + (x1).toInt := tn_add (by decide) rfl (by omega) (by omega)
    refine ok_grd (vpb_ok (by omega) (by omega)) ?_
    refine ok_let (fun s4 hs4 => ?_)
    have hI_s4 : InvR s4 := by rw [← hs4]; exact hI_s.sfF (k := 44) rfl rfl
    have hF_s4 : FrR [42, 140, 141, 144] s0 s4 := by rw [← hs4]; exact hF_s.sf (k := 44) (by decide)
    have a_6 : (s4.v 18).toInt = (s.v 18).toInt := congrArg Int32.toInt (show s4.v 18 = s.v 18 by rw [← hs4]; rfl)
    refine ok_grd (vpb_ok (by omega) (by omega)) ?_
    have a_7 : ((s4.f 20 (Int32.toNatClampNeg (s4.v 18)))).toInt = wv s0 := wv_fr hF_s4 (by decide) (by decide)
    have a_8 : 0 ≤ ((s4.f 20 (Int32.toNatClampNeg (s4.v 18)))).toInt ∧ ((s4.f 20 (Int32.toNatClampNeg (s4.v 18)))).toInt ≤ 5 := hI_s4.2 20 _
    exact ok_some ⟨hI_s4, hF_s4, by show 0 ≤ ((s4.f 20 (Int32.toNatClampNeg (s4.v 18)))).toInt; omega, by show ((s4.f 20 (Int32.toNatClampNeg (s4.v 18)))).toInt ≤ 5; omega⟩
  · have c_4 := tn_nle (a := ((s.f 20 (Int32.toNatClampNeg (s.v 18)))).toInt) (b := (x5).toInt) rfl rfl c_4
    refine ok_bindI (ok_r_thingAt _ _ _ hI_s (hB.fr hF_s (by decide)) (by omega) (by omega) (by omega) (by omega)) (fun r8 s7 hc_9 => ?_)
    have hI_s7 : InvR s7 := hc_9.1
    have hFc_s7 : FrR [] s s7 := hc_9.2.1
    have hF_s7 : FrR [42, 140, 141, 144] s0 s7 := hF_s.trans hFc_s7 (by decide)
    have hl_r8 : 0 ≤ r8.toInt := hc_9.2.2.1
    have hu_r8 : r8.toInt ≤ 5 := hc_9.2.2.2
    refine ok_ite (fun c_10 => ?_) (fun c_10 => ?_)
    · have c_10 := tn_eq (a := (x5).toInt) (b := (x4).toInt) rfl rfl c_10
      have a_11 : ((15 + x1)).toInt = 15 + (x1).toInt := tn_add (by decide) rfl (by omega) (by omega)
      refine ok_grd (vpb_ok (by omega) (by omega)) ?_
      refine ok_let (fun s21 hs21 => ?_)
      have hI_s21 : InvR s21 := by rw [← hs21]; exact hI_s7.sfF (k := 44) rfl rfl
      have hF_s21 : FrR [42, 140, 141, 144] s0 s21 := by rw [← hs21]; exact hF_s7.sf (k := 44) (by decide)
      exact ok_some ⟨hI_s21, hF_s21, by show 0 ≤ (x5).toInt; omega, by show (x5).toInt ≤ 5; omega⟩
    · have c_10 := tn_ne (a := (x5).toInt) (b := (x4).toInt) rfl rfl c_10
      refine ok_bindI (ok_r_thingAt _ _ _ hI_s7 (hB.fr hF_s7 (by decide)) (by omega) (by omega) (by omega) (by omega)) (fun r11 s10 hc_12 => ?_)
      have hI_s10 : InvR s10 := hc_12.1
      have hFc_s10 : FrR [] s7 s10 := hc_12.2.1
      have hF_s10 : FrR [42, 140, 141, 144] s0 s10 := hF_s7.trans hFc_s10 (by decide)
      have hl_r11 : 0 ≤ r11.toInt := hc_12.2.2.1
      have hu_r11 : r11.toInt ≤ 5 := hc_12.2.2.2
      refine ok_ite (fun c_13 => ?_) (fun c_13 => ?_)
      · have c_13 := tn_eq (a := (r8).toInt) (b := (r11).toInt) rfl rfl c_13
        have a_14 : ((5 + x5)).toInt = 5 + (x5).toInt := tn_add (by decide) rfl (by omega) (by omega)
        refine ok_grd (vpb_ok (by omega) (by omega)) ?_
        refine ok_let (fun s14 hs14 => ?_)
        have hI_s14 : InvR s14 := by rw [← hs14]; exact hI_s10.sfF (k := 44) rfl rfl
        have hF_s14 : FrR [42, 140, 141, 144] s0 s14 := by rw [← hs14]; exact hF_s10.sf (k := 44) (by decide)
        have a_15 : ((x5 + 1)).toInt = (x5).toInt + 1 := tn_add rfl (by decide) (by omega) (by omega)
        exact hk39 _ _ _ _ _ _ hI_s14 hF_s14 (by omega) (by omega) (by omega) (by omega) (by omega) (by omega) (by omega) (by omega) (by omega) (by omega) (by omega)
      · have c_13 := tn_ne (a := (r8).toInt) (b := (r11).toInt) rfl rfl c_13
        refine ok_grd (vpb_ok (by omega) (by omega)) ?_
        refine ok_grd (vpb_ok (by omega) (by omega)) ?_
        refine ok_let (fun s18 hs18 => ?_)
        have hI_s18 : InvR s18 := by rw [← hs18]; exact hI_s10.sfF (k := 44) rfl rfl
        have hF_s18 : FrR [42, 140, 141, 144] s0 s18 := by rw [← hs18]; exact hF_s10.sf (k := 44) (by decide)
        exact ok_some ⟨hI_s18, hF_s18, by show 0 ≤ (x5).toInt; omega, by show (x5).toInt ≤ 5; omega⟩
theorem okL_r_goesBy_39 (s0 : RS) (hB : Big s0)  : ∀ (n : Nat) (s : RS) (x1 : Int32) (x2 : Int32) (x3 : Int32) (x4 : Int32) (x5 : Int32), (5 - x5.toInt).toNat < n → InvR s → FrR [42, 140, 141, 144] s0 s → 0 ≤ x1.toInt → x1.toInt ≤ 5 → 0 ≤ x2.toInt → x2.toInt ≤ 194400 → 0 ≤ x3.toInt → x3.toInt ≤ 194400 → 0 ≤ x4.toInt → x4.toInt ≤ 5 → 0 ≤ x5.toInt → x5.toInt ≤ 5 → Ok (r_goesBy_39L  n s x1 x2 x3 x4 x5) (Q_r_goesBy s0) := by
  intro n
  induction n with
  | zero => intro s x1 x2 x3 x4 x5 hn; omega
  | succ n ih =>
    intro s x1 x2 x3 x4 x5 hn hI_s hF_s h_x1l h_x1u h_x2l h_x2u h_x3l h_x3u h_x4l h_x4u h_x5l h_x5u 
    exact ok_r_goesBy_39 s0 hB (r_goesBy_39L  n) ((5 - x5.toInt).toNat) (fun zs zx1 zx2 zx3 zx4 zx5 g0 g1 g2 g3 g4 g5 g6 g7 g8 g9 g10 g11  hm => ih zs zx1 zx2 zx3 zx4 zx5 (by omega) g0 g1 g2 g3 g4 g5 g6 g7 g8 g9 g10 g11 ) s x1 x2 x3 x4 x5 hI_s hF_s h_x1l h_x1u h_x2l h_x2u h_x3l h_x3u h_x4l h_x4u h_x5l h_x5u (Nat.le_refl _)
set_option maxHeartbeats 1000000 in
theorem ok_r_goesByB (s0 : RS) (hB : Big s0)  (s : RS) (x1 : Int32) (x2 : Int32) (x3 : Int32) (hI_s : InvR s) (hF_s : FrR [42, 140, 141, 144] s0 s) (h_x1l : 0 ≤ x1.toInt) (h_x1u : x1.toInt ≤ 5) (h_x2l : 0 ≤ x2.toInt) (h_x2u : x2.toInt ≤ 194400) (h_x3l : 0 ≤ x3.toInt) (h_x3u : x3.toInt ≤ 194400)  : Ok (r_goesBy  s x1 x2 x3) (Q_r_goesBy s0) := by
  unfold r_goesBy
  refine ok_bindI (ok_r_bearsBy _ _ _ hI_s (hB.fr hF_s (by decide)) (by omega) (by omega) (by omega) (by omega)) (fun r2 s1 hc_1 => ?_)
  have hI_s1 : InvR s1 := hc_1.1
  have hFc_s1 : FrR [42, 140, 141] s s1 := hc_1.2.1
  have hF_s1 : FrR [42, 140, 141, 144] s0 s1 := hF_s.trans hFc_s1 (by decide)
  have hl_r2 : 0 ≤ r2.toInt := hc_1.2.2.1
  have hu_r2 : r2.toInt ≤ 5 := hc_1.2.2.2
  refine ok_bindI (ok_r_faresOf _ _ hI_s1 (hB.fr hF_s1 (by decide)) (by omega) (by omega)) (fun r4 s3 hc_2 => ?_)
  have hI_s3 : InvR s3 := hc_2.1
  have hFc_s3 : FrR [42, 140, 141] s1 s3 := hc_2.2.1
  have hF_s3 : FrR [42, 140, 141, 144] s0 s3 := hF_s1.trans hFc_s3 (by decide)
  have hl_r4 : 0 ≤ r4.toInt := hc_2.2.2.1
  have hu_r4 : r4.toInt ≤ 100 := hc_2.2.2.2
  refine ok_let (fun s5 hs5 => ?_)
  have hI_s5 : InvR s5 := by rw [← hs5]; exact hI_s3.sfF (k := 44) rfl rfl
  have hF_s5 : FrR [42, 140, 141, 144] s0 s5 := by rw [← hs5]; exact hF_s3.sf (k := 44) (by decide)
  have a_3 : ((21 + x1)).toInt = 21 + (x1).toInt := tn_add (by decide) rfl (by omega) (by omega)
  refine ok_grd (vpb_ok (by omega) (by omega)) ?_
  refine ok_grd (vpb_ok (by omega) (by omega)) ?_
  refine ok_let (fun s9 hs9 => ?_)
  have hI_s9 : InvR s9 := by rw [← hs9]; exact hI_s5.sfF (k := 44) rfl rfl
  have hF_s9 : FrR [42, 140, 141, 144] s0 s9 := by rw [← hs9]; exact hF_s5.sf (k := 44) (by decide)
  have l_0 : (0 : Int32).toInt = 0 := by decide
  exact okL_r_goesBy_39 s0 hB  fu _ _ _ _ _ _ (by unfold fu; omega) hI_s9 hF_s9 (by omega) (by omega) (by omega) (by omega) (by omega) (by omega) (by omega) (by omega) (by decide) (by decide) 
theorem ok_r_goesBy (s : RS) (x1 : Int32) (x2 : Int32) (x3 : Int32) (hI_s : InvR s) (hB : Big s) (h_x1l : 0 ≤ x1.toInt) (h_x1u : x1.toInt ≤ 5) (h_x2l : 0 ≤ x2.toInt) (h_x2u : x2.toInt ≤ 194400) (h_x3l : 0 ≤ x3.toInt) (h_x3u : x3.toInt ≤ 194400) : Ok (r_goesBy s x1 x2 x3) (Q_r_goesBy s) := ok_r_goesByB s hB s x1 x2 x3 hI_s FrR.rfl h_x1l h_x1u h_x2l h_x2u h_x3l h_x3u
abbrev Q_r_yearGoes (s0 : RS) (y : RS) : Prop := InvR y ∧ FrR [42, 140, 141, 144, 147] s0 y
set_option maxHeartbeats 1000000 in
theorem ok_r_yearGoes_119 (s0 : RS) (hB : Big s0) (k64 : RS → Int32 → Option (RS)) (M64 : Nat) (hk64 : ∀ (s : RS) (x1 : Int32), InvR s → FrR [42, 140, 141, 144, 147] s0 s → 0 ≤ x1.toInt → x1.toInt ≤ 5 → (5 - x1.toInt).toNat < M64 → Ok (k64 s x1) (Q_r_yearGoes s0)) (s : RS) (x1 : Int32) (hI_s : InvR s) (hF_s : FrR [42, 140, 141, 144, 147] s0 s) (h_x1l : 0 ≤ x1.toInt) (h_x1u : x1.toInt ≤ 4) (hM64 : (5 - x1.toInt).toNat ≤ M64) : Ok (r_yearGoes_119 k64 s x1) (Q_r_yearGoes s0) := by
  unfold r_yearGoes_119
  have a_1 : ((x1 + 1)).toInt = (x1).toInt + 1 := tn_add rfl (by decide) (by omega) (by omega)
  exact hk64 _ _ hI_s hF_s (by omega) (by omega) (by omega)
set_option maxHeartbeats 1000000 in
theorem ok_r_yearGoes_64 (s0 : RS) (hB : Big s0) (k64 : RS → Int32 → Option (RS)) (M64 : Nat) (hk64 : ∀ (s : RS) (x1 : Int32), InvR s → FrR [42, 140, 141, 144, 147] s0 s → 0 ≤ x1.toInt → x1.toInt ≤ 5 → (5 - x1.toInt).toNat < M64 → Ok (k64 s x1) (Q_r_yearGoes s0)) (s : RS) (x1 : Int32) (hI_s : InvR s) (hF_s : FrR [42, 140, 141, 144, 147] s0 s) (h_x1l : 0 ≤ x1.toInt) (h_x1u : x1.toInt ≤ 5) (hM64 : (5 - x1.toInt).toNat ≤ M64) : Ok (r_yearGoes_64 k64 s x1) (Q_r_yearGoes s0) := by
  unfold r_yearGoes_64
  have a_1 : 0 ≤ (s.v 18).toInt ∧ (s.v 18).toInt ≤ 1 := hI_s.1 18
  refine ok_grd (vpb_ok (by omega) (by omega)) ?_
  have a_2 : ((s.f 20 (Int32.toNatClampNeg (s.v 18)))).toInt = wv s0 := wv_fr hF_s (by decide) (by decide)
  have a_3 : 0 ≤ ((s.f 20 (Int32.toNatClampNeg (s.v 18)))).toInt ∧ ((s.f 20 (Int32.toNatClampNeg (s.v 18)))).toInt ≤ 5 := hI_s.2 20 _
  refine ok_ite (fun c_4 => ?_) (fun c_4 => ?_)
  · have c_4 := tn_le (a := ((s.f 20 (Int32.toNatClampNeg (s.v 18)))).toInt) (b := (x1).toInt) rfl rfl c_4
    refine ok_let (fun s3 hs3 => ?_)
    have hI_s3 : InvR s3 := by rw [← hs3]; exact hI_s.sfF (k := 44) rfl rfl
    have hF_s3 : FrR [42, 140, 141, 144, 147] s0 s3 := by rw [← hs3]; exact hF_s.sf (k := 44) (by decide)
    exact ok_some ⟨hI_s3, hF_s3⟩
  · have c_4 := tn_nle (a := ((s.f 20 (Int32.toNatClampNeg (s.v 18)))).toInt) (b := (x1).toInt) rfl rfl c_4
    refine ok_grd (vpb_ok (by omega) (by omega)) ?_
    refine ok_ite (fun c_5 => ?_) (fun c_5 => ?_)
    · have c_5 := tn_eq (a := ((s.f 47 (Int32.toNatClampNeg x1))).toInt) (b := 0) rfl (by decide) c_5
      exact ok_r_yearGoes_119 s0 hB k64 M64 hk64 _ _ hI_s hF_s (by omega) (by omega) (by omega)
    · have c_5 := tn_ne (a := ((s.f 47 (Int32.toNatClampNeg x1))).toInt) (b := 0) rfl (by decide) c_5
      refine ok_grd (vpb_ok (by omega) (by omega)) ?_
      refine ok_let (fun s8 hs8 => ?_)
      have hI_s8 : InvR s8 := by rw [← hs8]; exact hI_s.sfF (k := 44) rfl rfl
      have hF_s8 : FrR [42, 140, 141, 144, 147] s0 s8 := by rw [← hs8]; exact hF_s.sf (k := 44) (by decide)
      have a_6 : ((5 + x1)).toInt = 5 + (x1).toInt := tn_add (by decide) rfl (by omega) (by omega)
      refine ok_grd (vpb_ok (by omega) (by omega)) ?_
      refine ok_let (fun s11 hs11 => ?_)
      have hI_s11 : InvR s11 := by rw [← hs11]; exact hI_s8.sfF (k := 44) rfl rfl
      have hF_s11 : FrR [42, 140, 141, 144, 147] s0 s11 := by rw [← hs11]; exact hF_s8.sf (k := 44) (by decide)
      have a_7 : ((10 + x1)).toInt = 10 + (x1).toInt := tn_add (by decide) rfl (by omega) (by omega)
      refine ok_grd (vpb_ok (by omega) (by omega)) ?_
      refine ok_grd (vpb_ok (by omega) (by omega)) ?_
      refine ok_let (fun s15 hs15 => ?_)
      have hI_s15 : InvR s15 := by rw [← hs15]; exact hI_s11.sfF (k := 44) rfl rfl
      have hF_s15 : FrR [42, 140, 141, 144, 147] s0 s15 := by rw [← hs15]; exact hF_s11.sf (k := 44) (by decide)
      exact ok_r_yearGoes_119 s0 hB k64 M64 hk64 _ _ hI_s15 hF_s15 (by omega) (by omega) (by omega)
theorem okL_r_yearGoes_64 (s0 : RS) (hB : Big s0)  : ∀ (n : Nat) (s : RS) (x1 : Int32), (5 - x1.toInt).toNat < n → InvR s → FrR [42, 140, 141, 144, 147] s0 s → 0 ≤ x1.toInt → x1.toInt ≤ 5 → Ok (r_yearGoes_64L  n s x1) (Q_r_yearGoes s0) := by
  intro n
  induction n with
  | zero => intro s x1 hn; omega
  | succ n ih =>
    intro s x1 hn hI_s hF_s h_x1l h_x1u 
    exact ok_r_yearGoes_64 s0 hB (r_yearGoes_64L  n) ((5 - x1.toInt).toNat) (fun zs zx1 g0 g1 g2 g3  hm => ih zs zx1 (by omega) g0 g1 g2 g3 ) s x1 hI_s hF_s h_x1l h_x1u (Nat.le_refl _)
set_option maxHeartbeats 1000000 in
theorem ok_r_yearGoes_55 (s0 : RS) (hB : Big s0) (k2 : RS → Int32 → Option (RS)) (M2 : Nat) (hk2 : ∀ (s : RS) (x1 : Int32), InvR s → FrR [42, 140, 141, 144, 147] s0 s → 0 ≤ x1.toInt → x1.toInt ≤ 5 → (5 - x1.toInt).toNat < M2 → Ok (k2 s x1) (Q_r_yearGoes s0)) (s : RS) (x1 : Int32) (t0 : Int32) (t1 : Int32) (hI_s : InvR s) (hF_s : FrR [42, 140, 141, 144, 147] s0 s) (h_x1l : 0 ≤ x1.toInt) (h_x1u : x1.toInt ≤ 4) (h_t0l : 0 ≤ t0.toInt) (h_t0u : t0.toInt ≤ 1) (h_t1l : 0 ≤ t1.toInt) (h_t1u : t1.toInt ≤ 4) (hM2 : (5 - x1.toInt).toNat ≤ M2) : Ok (r_yearGoes_55 k2 s x1 t0 t1) (Q_r_yearGoes s0) := by
  unfold r_yearGoes_55
  refine ok_grd (vpb_ok (by omega) (by omega)) ?_
  refine ok_let (fun s2 hs2 => ?_)
  have hI_s2 : InvR s2 := by rw [← hs2]; exact hI_s.sfF (k := 47) rfl rfl
  have hF_s2 : FrR [42, 140, 141, 144, 147] s0 s2 := by rw [← hs2]; exact hF_s.sf (k := 47) (by decide)
  have a_1 : ((x1 + 1)).toInt = (x1).toInt + 1 := tn_add rfl (by decide) (by omega) (by omega)
  exact hk2 _ _ hI_s2 hF_s2 (by omega) (by omega) (by omega)
set_option maxHeartbeats 1000000 in
theorem ok_r_yearGoes_2 (s0 : RS) (hB : Big s0) (k2 : RS → Int32 → Option (RS)) (M2 : Nat) (hk2 : ∀ (s : RS) (x1 : Int32), InvR s → FrR [42, 140, 141, 144, 147] s0 s → 0 ≤ x1.toInt → x1.toInt ≤ 5 → (5 - x1.toInt).toNat < M2 → Ok (k2 s x1) (Q_r_yearGoes s0)) (s : RS) (x1 : Int32) (hI_s : InvR s) (hF_s : FrR [42, 140, 141, 144, 147] s0 s) (h_x1l : 0 ≤ x1.toInt) (h_x1u : x1.toInt ≤ 5) (hM2 : (5 - x1.toInt).toNat ≤ M2) : Ok (r_yearGoes_2 k2 s x1) (Q_r_yearGoes s0) := by
  unfold r_yearGoes_2
  have a_1 : 0 ≤ (s.v 18).toInt ∧ (s.v 18).toInt ≤ 1 := hI_s.1 18
  refine ok_grd (vpb_ok (by omega) (by omega)) ?_
  have a_2 : ((s.f 20 (Int32.toNatClampNeg (s.v 18)))).toInt = wv s0 := wv_fr hF_s (by decide) (by decide)
  have a_3 : 0 ≤ ((s.f 20 (Int32.toNatClampNeg (s.v 18)))).toInt ∧ ((s.f 20 (Int32.toNatClampNeg (s.v 18)))).toInt ≤ 5 := hI_s.2 20 _
  refine ok_ite (fun c_4 => ?_) (fun c_4 => ?_)
  · have c_4 := tn_le (a := ((s.f 20 (Int32.toNatClampNeg (s.v 18)))).toInt) (b := (x1).toInt) rfl rfl c_4
    have l_0 : (0 : Int32).toInt = 0 := by decide
    exact okL_r_yearGoes_64 s0 hB  fu _ _ (by unfold fu; omega) hI_s hF_s (by decide) (by decide) 
  · have c_4 := tn_nle (a := ((s.f 20 (Int32.toNatClampNeg (s.v 18)))).toInt) (b := (x1).toInt) rfl rfl c_4
    refine ok_bindI (ok_r_lotOf _ _ _ hI_s (by decide) (by decide)) (fun r4 s3 hc_5 => ?_)
    have hI_s3 : InvR s3 := hc_5.1
    have hFc_s3 : FrR [] s s3 := hc_5.2.1
    have hF_s3 : FrR [42, 140, 141, 144, 147] s0 s3 := hF_s.trans hFc_s3 (by decide)
    refine ok_bindI (ok_r_shiftsOf _ _ hI_s3 (hB.fr hF_s3 (by decide)) (by omega) (by omega)) (fun r6 s5 hc_6 => ?_)
    have hI_s5 : InvR s5 := hc_6.1
    have hFc_s5 : FrR [42, 140, 141] s3 s5 := hc_6.2.1
    have hF_s5 : FrR [42, 140, 141, 144, 147] s0 s5 := hF_s3.trans hFc_s5 (by decide)
    have hl_r6 : 0 ≤ r6.toInt := hc_6.2.2.1
    have hu_r6 : r6.toInt ≤ 100 := hc_6.2.2.2
    refine ok_ite (fun c_7 => ?_) (fun c_7 => ?_)
    · have c_7 := tn_le (a := (r6).toInt) (b := (r4).toInt) rfl rfl c_7
      have l_0 : (0 : Int32).toInt = 0 := by decide
      exact ok_r_yearGoes_55 s0 hB k2 M2 hk2 _ _ _ _ hI_s5 hF_s5 (by omega) (by omega) (by decide) (by decide) (by omega) (by omega) (by omega)
    · have c_7 := tn_nle (a := (r6).toInt) (b := (r4).toInt) rfl rfl c_7
      have l_1 : (1 : Int32).toInt = 1 := by decide
      exact ok_r_yearGoes_55 s0 hB k2 M2 hk2 _ _ _ _ hI_s5 hF_s5 (by omega) (by omega) (by decide) (by decide) (by omega) (by omega) (by omega)
theorem okL_r_yearGoes_2 (s0 : RS) (hB : Big s0)  : ∀ (n : Nat) (s : RS) (x1 : Int32), (5 - x1.toInt).toNat < n → InvR s → FrR [42, 140, 141, 144, 147] s0 s → 0 ≤ x1.toInt → x1.toInt ≤ 5 → Ok (r_yearGoes_2L  n s x1) (Q_r_yearGoes s0) := by
  intro n
  induction n with
  | zero => intro s x1 hn; omega
  | succ n ih =>
    intro s x1 hn hI_s hF_s h_x1l h_x1u 
    exact ok_r_yearGoes_2 s0 hB (r_yearGoes_2L  n) ((5 - x1.toInt).toNat) (fun zs zx1 g0 g1 g2 g3  hm => ih zs zx1 (by omega) g0 g1 g2 g3 ) s x1 hI_s hF_s h_x1l h_x1u (Nat.le_refl _)
set_option maxHeartbeats 1000000 in
theorem ok_r_yearGoesB (s0 : RS) (hB : Big s0)  (s : RS) (hI_s : InvR s) (hF_s : FrR [42, 140, 141, 144, 147] s0 s)  : Ok (r_yearGoes  s) (Q_r_yearGoes s0) := by
  unfold r_yearGoes
  have l_0 : (0 : Int32).toInt = 0 := by decide
  exact okL_r_yearGoes_2 s0 hB  fu _ _ (by unfold fu; omega) hI_s hF_s (by decide) (by decide) 
theorem ok_r_yearGoes (s : RS) (hI_s : InvR s) (hB : Big s) : Ok (r_yearGoes s) (Q_r_yearGoes s) := ok_r_yearGoesB s hB s hI_s FrR.rfl
abbrev Q_r_yearsGo (s0 : RS) (y : RS) : Prop := InvR y ∧ FrR [42, 140, 141, 144, 147] s0 y
set_option maxHeartbeats 1000000 in
theorem ok_r_yearsGo_2 (s0 : RS) (hB : Big s0) (k2 : RS → Int32 → Int32 → Option (RS)) (M2 : Nat) (hk2 : ∀ (s : RS) (x1 : Int32) (x2 : Int32), InvR s → FrR [42, 140, 141, 144, 147] s0 s → 0 ≤ x1.toInt → x1.toInt ≤ 40 → 0 ≤ x2.toInt → x2.toInt ≤ 40 → (40 - x2.toInt).toNat < M2 → Ok (k2 s x1 x2) (Q_r_yearsGo s0)) (s : RS) (x1 : Int32) (x2 : Int32) (hI_s : InvR s) (hF_s : FrR [42, 140, 141, 144, 147] s0 s) (h_x1l : 0 ≤ x1.toInt) (h_x1u : x1.toInt ≤ 40) (h_x2l : 0 ≤ x2.toInt) (h_x2u : x2.toInt ≤ 40) (hM2 : (40 - x2.toInt).toNat ≤ M2) : Ok (r_yearsGo_2 k2 s x1 x2) (Q_r_yearsGo s0) := by
  unfold r_yearsGo_2
  refine ok_ite (fun c_1 => ?_) (fun c_1 => ?_)
  · have c_1 := tn_le (a := (x1).toInt) (b := (x2).toInt) rfl rfl c_1
    exact ok_some ⟨hI_s, hF_s⟩
  · have c_1 := tn_nle (a := (x1).toInt) (b := (x2).toInt) rfl rfl c_1
    refine ok_bindP (ok_r_yearGoes _  hI_s (hB.fr hF_s (by decide))) (fun s2 hc_2 => ?_)
    have hI_s2 : InvR s2 := hc_2.1
    have hFc_s2 : FrR [42, 140, 141, 144, 147] s s2 := hc_2.2
    have hF_s2 : FrR [42, 140, 141, 144, 147] s0 s2 := hF_s.trans hFc_s2 (by decide)
    have a_3 : ((x2 + 1)).toInt = (x2).toInt + 1 := tn_add rfl (by decide) (by omega) (by omega)
    exact hk2 _ _ _ hI_s2 hF_s2 (by omega) (by omega) (by omega) (by omega) (by omega)
theorem okL_r_yearsGo_2 (s0 : RS) (hB : Big s0)  : ∀ (n : Nat) (s : RS) (x1 : Int32) (x2 : Int32), (40 - x2.toInt).toNat < n → InvR s → FrR [42, 140, 141, 144, 147] s0 s → 0 ≤ x1.toInt → x1.toInt ≤ 40 → 0 ≤ x2.toInt → x2.toInt ≤ 40 → Ok (r_yearsGo_2L  n s x1 x2) (Q_r_yearsGo s0) := by
  intro n
  induction n with
  | zero => intro s x1 x2 hn; omega
  | succ n ih =>
    intro s x1 x2 hn hI_s hF_s h_x1l h_x1u h_x2l h_x2u 
    exact ok_r_yearsGo_2 s0 hB (r_yearsGo_2L  n) ((40 - x2.toInt).toNat) (fun zs zx1 zx2 g0 g1 g2 g3 g4 g5  hm => ih zs zx1 zx2 (by omega) g0 g1 g2 g3 g4 g5 ) s x1 x2 hI_s hF_s h_x1l h_x1u h_x2l h_x2u (Nat.le_refl _)
set_option maxHeartbeats 1000000 in
theorem ok_r_yearsGoB (s0 : RS) (hB : Big s0)  (s : RS) (x1 : Int32) (hI_s : InvR s) (hF_s : FrR [42, 140, 141, 144, 147] s0 s) (h_x1l : 0 ≤ x1.toInt) (h_x1u : x1.toInt ≤ 40)  : Ok (r_yearsGo  s x1) (Q_r_yearsGo s0) := by
  unfold r_yearsGo
  have l_0 : (0 : Int32).toInt = 0 := by decide
  exact okL_r_yearsGo_2 s0 hB  fu _ _ _ (by unfold fu; omega) hI_s hF_s (by omega) (by omega) (by decide) (by decide) 
theorem ok_r_yearsGo (s : RS) (x1 : Int32) (hI_s : InvR s) (hB : Big s) (h_x1l : 0 ≤ x1.toInt) (h_x1u : x1.toInt ≤ 40) : Ok (r_yearsGo s x1) (Q_r_yearsGo s) := ok_r_yearsGoB s hB s x1 hI_s FrR.rfl h_x1l h_x1u
abbrev Q_r_wave (s0 : RS) (y : Int32 × RS) : Prop := InvR y.2 ∧ FrR [42, 45, 140, 141, 144] s0 y.2 ∧ -2147483648 ≤ y.1.toInt ∧ y.1.toInt ≤ 2147483647
set_option maxHeartbeats 1000000 in
theorem ok_r_waveB (s0 : RS) (hB : Big s0)  (s : RS) (x1 : Int32) (x2 : Int32) (hI_s : InvR s) (hF_s : FrR [42, 45, 140, 141, 144] s0 s)  : Ok (r_wave  s x1 x2) (Q_r_wave s0) := by
  unfold r_wave
  refine ok_bindI (ok_r_isWave _ _ hI_s) (fun r2 s1 hc_1 => ?_)
  have hI_s1 : InvR s1 := hc_1.1
  have hFc_s1 : FrR [] s s1 := hc_1.2.1
  have hF_s1 : FrR [42, 45, 140, 141, 144] s0 s1 := hF_s.trans hFc_s1 (by decide)
  have a_2 : wv s = wv s0 := wv_fr hF_s (by decide) (by decide)
  have hl_r2 : 0 ≤ r2.toInt := hc_1.2.2.1
  have hu_r2 : r2.toInt ≤ 1 := hc_1.2.2.2.1
  have hx0_r2 : (¬ r2.toInt = 0 → 0 ≤ (x1).toInt ∧ (x1).toInt < wv s ∧ wv s ≤ 5) := hc_1.2.2.2.2
  refine ok_ite (fun c_3 => ?_) (fun c_3 => ?_)
  · have c_3 := tn_eq (a := (r2).toInt) (b := 0) rfl (by decide) c_3
    exact ok_some ⟨hI_s1, hF_s1, (ti_rng _).1, (ti_rng _).2⟩
  · have c_3 := tn_ne (a := (r2).toInt) (b := 0) rfl (by decide) c_3
    refine ok_bindP (ok_r_copies _  hI_s1) (fun s4 hc_4 => ?_)
    have hI_s4 : InvR s4 := hc_4.1
    have hFc_s4 : FrR [45, 144] s1 s4 := hc_4.2
    have hF_s4 : FrR [42, 45, 140, 141, 144] s0 s4 := hF_s1.trans hFc_s4 (by decide)
    refine ok_ite (fun c_5 => ?_) (fun c_5 => ?_)
    · have c_5 := tn_eq (a := (x2).toInt) (b := 0) rfl (by decide) c_5
      refine ok_bindI (ok_r_mayAt _ _ hI_s4 (by omega) (by omega)) (fun r7 s6 hc_6 => ?_)
      have hI_s6 : InvR s6 := hc_6.1
      have hFc_s6 : FrR [] s4 s6 := hc_6.2.1
      have hF_s6 : FrR [42, 45, 140, 141, 144] s0 s6 := hF_s4.trans hFc_s6 (by decide)
      exact ok_some ⟨hI_s6, hF_s6, (ti_rng _).1, (ti_rng _).2⟩
    · have c_5 := tn_ne (a := (x2).toInt) (b := 0) rfl (by decide) c_5
      refine ok_ite (fun c_7 => ?_) (fun c_7 => ?_)
      · have c_7 := tn_eq (a := (x2).toInt) (b := 1) rfl (by decide) c_7
        have a_8 : ((5 + x1)).toInt = 5 + (x1).toInt := tn_add (by decide) rfl (by omega) (by omega)
        refine ok_grd (vpb_ok (by omega) (by omega)) ?_
        exact ok_some ⟨hI_s4, hF_s4, (ti_rng _).1, (ti_rng _).2⟩
      · have c_7 := tn_ne (a := (x2).toInt) (b := 1) rfl (by decide) c_7
        refine ok_ite (fun c_9 => ?_) (fun c_9 => ?_)
        · have c_9 := tn_eq (a := (x2).toInt) (b := 2) rfl (by decide) c_9
          refine ok_grd (vpb_ok (by omega) (by omega)) ?_
          exact ok_some ⟨hI_s4, hF_s4, (ti_rng _).1, (ti_rng _).2⟩
        · have c_9 := tn_ne (a := (x2).toInt) (b := 2) rfl (by decide) c_9
          refine ok_ite (fun c_10 => ?_) (fun c_10 => ?_)
          · have c_10 := tn_eq (a := (x2).toInt) (b := 3) rfl (by decide) c_10
            have a_11 : ((10 + x1)).toInt = 10 + (x1).toInt := tn_add (by decide) rfl (by omega) (by omega)
            refine ok_grd (vpb_ok (by omega) (by omega)) ?_
            exact ok_some ⟨hI_s4, hF_s4, (ti_rng _).1, (ti_rng _).2⟩
          · have c_10 := tn_ne (a := (x2).toInt) (b := 3) rfl (by decide) c_10
            refine ok_ite (fun c_12 => ?_) (fun c_12 => ?_)
            · have c_12 := tn_eq (a := (x2).toInt) (b := 4) rfl (by decide) c_12
              have a_14 : wv s4 = wv s0 := wv_fr hF_s4 (by decide) (by decide)
              refine ok_bindI (ok_r_thereAt _ _ hI_s4 (hB.fr hF_s4 (by decide)) (by omega) (by omega) (by omega)) (fun r16 s15 hc_13 => ?_)
              have hI_s15 : InvR s15 := hc_13.1
              have hFc_s15 : FrR [] s4 s15 := hc_13.2.1
              have hF_s15 : FrR [42, 45, 140, 141, 144] s0 s15 := hF_s4.trans hFc_s15 (by decide)
              have hl_r16 : 0 ≤ r16.toInt := hc_13.2.2.1
              have hu_r16 : r16.toInt ≤ 5 := hc_13.2.2.2
              exact ok_some ⟨hI_s15, hF_s15, (ti_rng _).1, (ti_rng _).2⟩
            · have c_12 := tn_ne (a := (x2).toInt) (b := 4) rfl (by decide) c_12
              refine ok_ite (fun c_15 => ?_) (fun c_15 => ?_)
              · have c_15 := tn_eq (a := (x2).toInt) (b := 5) rfl (by decide) c_15
                refine ok_bindI (ok_r_shiftsOf _ _ hI_s4 (hB.fr hF_s4 (by decide)) (by omega) (by omega)) (fun r19 s18 hc_16 => ?_)
                have hI_s18 : InvR s18 := hc_16.1
                have hFc_s18 : FrR [42, 140, 141] s4 s18 := hc_16.2.1
                have hF_s18 : FrR [42, 45, 140, 141, 144] s0 s18 := hF_s4.trans hFc_s18 (by decide)
                have hl_r19 : 0 ≤ r19.toInt := hc_16.2.2.1
                have hu_r19 : r19.toInt ≤ 100 := hc_16.2.2.2
                exact ok_some ⟨hI_s18, hF_s18, (ti_rng _).1, (ti_rng _).2⟩
              · have c_15 := tn_ne (a := (x2).toInt) (b := 5) rfl (by decide) c_15
                exact ok_some ⟨hI_s4, hF_s4, (ti_rng _).1, (ti_rng _).2⟩
theorem ok_r_wave (s : RS) (x1 : Int32) (x2 : Int32) (hI_s : InvR s) (hB : Big s) : Ok (r_wave s x1 x2) (Q_r_wave s) := ok_r_waveB s hB s x1 x2 hI_s FrR.rfl
abbrev Q_r_odds (s0 : RS) (y : Int32 × RS) : Prop := InvR y.2 ∧ FrR [] s0 y.2 ∧ -2147483648 ≤ y.1.toInt ∧ y.1.toInt ≤ 2147483647
set_option maxHeartbeats 1000000 in
theorem ok_r_oddsB (s0 : RS)  (s : RS) (x1 : Int32) (x2 : Int32) (hI_s : InvR s) (hF_s : FrR [] s0 s)  : Ok (r_odds  s x1 x2) (Q_r_odds s0) := by
  unfold r_odds
  refine ok_bindI (ok_r_isWave _ _ hI_s) (fun r2 s1 hc_1 => ?_)
  have hI_s1 : InvR s1 := hc_1.1
  have hFc_s1 : FrR [] s s1 := hc_1.2.1
  have hF_s1 : FrR [] s0 s1 := hF_s.trans hFc_s1 (by decide)
  have a_2 : wv s = wv s0 := wv_fr hF_s (by decide) (by decide)
  have hl_r2 : 0 ≤ r2.toInt := hc_1.2.2.1
  have hu_r2 : r2.toInt ≤ 1 := hc_1.2.2.2.1
  have hx0_r2 : (¬ r2.toInt = 0 → 0 ≤ (x1).toInt ∧ (x1).toInt < wv s ∧ wv s ≤ 5) := hc_1.2.2.2.2
  refine ok_ite (fun c_3 => ?_) (fun c_3 => ?_)
  · have c_3 := tn_eq (a := (r2).toInt) (b := 0) rfl (by decide) c_3
    exact ok_some ⟨hI_s1, hF_s1, (ti_rng _).1, (ti_rng _).2⟩
  · have c_3 := tn_ne (a := (r2).toInt) (b := 0) rfl (by decide) c_3
    refine ok_bindP (ok_r_isThing _ ) (fun r4 hc_4 => ?_)
    have hl_r4 : 0 ≤ r4.toInt := hc_4.1
    have hu_r4 : r4.toInt ≤ 1 := hc_4.2.1
    have hx0_r4 : (¬ r4.toInt = 0 → 0 ≤ (x2).toInt ∧ (x2).toInt ≤ 5) := hc_4.2.2
    refine ok_ite (fun c_5 => ?_) (fun c_5 => ?_)
    · have c_5 := tn_eq (a := (r4).toInt) (b := 0) rfl (by decide) c_5
      exact ok_some ⟨hI_s1, hF_s1, (ti_rng _).1, (ti_rng _).2⟩
    · have c_5 := tn_ne (a := (r4).toInt) (b := 0) rfl (by decide) c_5
      refine ok_bindI (ok_r_oddsAt _ _ _ hI_s1 (by omega) (by omega) (by omega) (by omega)) (fun r7 s6 hc_6 => ?_)
      have hI_s6 : InvR s6 := hc_6.1
      have hFc_s6 : FrR [] s1 s6 := hc_6.2.1
      have hF_s6 : FrR [] s0 s6 := hF_s1.trans hFc_s6 (by decide)
      exact ok_some ⟨hI_s6, hF_s6, (ti_rng _).1, (ti_rng _).2⟩
theorem ok_r_odds (s : RS) (x1 : Int32) (x2 : Int32) (hI_s : InvR s) : Ok (r_odds s x1 x2) (Q_r_odds s) := ok_r_oddsB s s x1 x2 hI_s FrR.rfl
abbrev Q_r_party (s0 : RS) (y : Int32 × RS) : Prop := InvR y.2 ∧ FrR [42, 45, 140, 141, 144] s0 y.2 ∧ -2147483648 ≤ y.1.toInt ∧ y.1.toInt ≤ 2147483647
set_option maxHeartbeats 1000000 in
theorem ok_r_partyB (s0 : RS) (hB : Big s0)  (s : RS) (x1 : Int32) (x2 : Int32) (hI_s : InvR s) (hF_s : FrR [42, 45, 140, 141, 144] s0 s)  : Ok (r_party  s x1 x2) (Q_r_party s0) := by
  unfold r_party
  refine ok_bindI (ok_r_isParty _ _ hI_s) (fun r2 s1 hc_1 => ?_)
  have hI_s1 : InvR s1 := hc_1.1
  have hFc_s1 : FrR [] s s1 := hc_1.2.1
  have hF_s1 : FrR [42, 45, 140, 141, 144] s0 s1 := hF_s.trans hFc_s1 (by decide)
  have hl_r2 : 0 ≤ r2.toInt := hc_1.2.2.1
  have hu_r2 : r2.toInt ≤ 1 := hc_1.2.2.2.1
  have hx0_r2 : (¬ r2.toInt = 0 → 0 ≤ (x1).toInt ∧ (x1).toInt ≤ 5) := hc_1.2.2.2.2
  refine ok_ite (fun c_2 => ?_) (fun c_2 => ?_)
  · have c_2 := tn_eq (a := (r2).toInt) (b := 0) rfl (by decide) c_2
    exact ok_some ⟨hI_s1, hF_s1, (ti_rng _).1, (ti_rng _).2⟩
  · have c_2 := tn_ne (a := (r2).toInt) (b := 0) rfl (by decide) c_2
    refine ok_bindP (ok_r_copies _  hI_s1) (fun s4 hc_3 => ?_)
    have hI_s4 : InvR s4 := hc_3.1
    have hFc_s4 : FrR [45, 144] s1 s4 := hc_3.2
    have hF_s4 : FrR [42, 45, 140, 141, 144] s0 s4 := hF_s1.trans hFc_s4 (by decide)
    refine ok_ite (fun c_4 => ?_) (fun c_4 => ?_)
    · have c_4 := tn_eq (a := (x2).toInt) (b := 0) rfl (by decide) c_4
      have a_5 : 0 ≤ (s.v 18).toInt ∧ (s.v 18).toInt ≤ 1 := hI_s.1 18
      have a_6 : (s1.v 18).toInt = (s.v 18).toInt := congrArg Int32.toInt (hFc_s1.1 18 (by decide))
      have a_7 : (s4.v 18).toInt = (s1.v 18).toInt := congrArg Int32.toInt (hFc_s4.1 18 (by decide))
      have a_8 : ((6 * (s4.v 18))).toInt = ((s4.v 18)).toInt * 6 := ti_cmul (c := 6) (by decide) (by omega) (by omega)
      have a_9 : (((6 * (s4.v 18)) + x1)).toInt = ((6 * (s4.v 18))).toInt + (x1).toInt := tn_add rfl rfl (by omega) (by omega)
      refine ok_grd (vpb_ok (by omega) (by omega)) ?_
      exact ok_some ⟨hI_s4, hF_s4, (ti_rng _).1, (ti_rng _).2⟩
    · have c_4 := tn_ne (a := (x2).toInt) (b := 0) rfl (by decide) c_4
      refine ok_ite (fun c_10 => ?_) (fun c_10 => ?_)
      · have c_10 := tn_eq (a := (x2).toInt) (b := 1) rfl (by decide) c_10
        have a_11 : 0 ≤ (s.v 18).toInt ∧ (s.v 18).toInt ≤ 1 := hI_s.1 18
        have a_12 : (s1.v 18).toInt = (s.v 18).toInt := congrArg Int32.toInt (hFc_s1.1 18 (by decide))
        have a_13 : (s4.v 18).toInt = (s1.v 18).toInt := congrArg Int32.toInt (hFc_s4.1 18 (by decide))
        have a_14 : ((6 * (s4.v 18))).toInt = ((s4.v 18)).toInt * 6 := ti_cmul (c := 6) (by decide) (by omega) (by omega)
        have a_15 : (((6 * (s4.v 18)) + x1)).toInt = ((6 * (s4.v 18))).toInt + (x1).toInt := tn_add rfl rfl (by omega) (by omega)
        refine ok_grd (vpb_ok (by omega) (by omega)) ?_
        exact ok_some ⟨hI_s4, hF_s4, (ti_rng _).1, (ti_rng _).2⟩
      · have c_10 := tn_ne (a := (x2).toInt) (b := 1) rfl (by decide) c_10
        refine ok_ite (fun c_16 => ?_) (fun c_16 => ?_)
        · have c_16 := tn_eq (a := (x2).toInt) (b := 2) rfl (by decide) c_16
          have a_17 : ((15 + x1)).toInt = 15 + (x1).toInt := tn_add (by decide) rfl (by omega) (by omega)
          refine ok_grd (vpb_ok (by omega) (by omega)) ?_
          exact ok_some ⟨hI_s4, hF_s4, (ti_rng _).1, (ti_rng _).2⟩
        · have c_16 := tn_ne (a := (x2).toInt) (b := 2) rfl (by decide) c_16
          refine ok_ite (fun c_18 => ?_) (fun c_18 => ?_)
          · have c_18 := tn_eq (a := (x2).toInt) (b := 3) rfl (by decide) c_18
            have a_19 : ((21 + x1)).toInt = 21 + (x1).toInt := tn_add (by decide) rfl (by omega) (by omega)
            refine ok_grd (vpb_ok (by omega) (by omega)) ?_
            exact ok_some ⟨hI_s4, hF_s4, (ti_rng _).1, (ti_rng _).2⟩
          · have c_18 := tn_ne (a := (x2).toInt) (b := 3) rfl (by decide) c_18
            refine ok_ite (fun c_20 => ?_) (fun c_20 => ?_)
            · have c_20 := tn_eq (a := (x2).toInt) (b := 4) rfl (by decide) c_20
              refine ok_bindI (ok_r_faresOf _ _ hI_s4 (hB.fr hF_s4 (by decide)) (by omega) (by omega)) (fun r15 s14 hc_21 => ?_)
              have hI_s14 : InvR s14 := hc_21.1
              have hFc_s14 : FrR [42, 140, 141] s4 s14 := hc_21.2.1
              have hF_s14 : FrR [42, 45, 140, 141, 144] s0 s14 := hF_s4.trans hFc_s14 (by decide)
              have hl_r15 : 0 ≤ r15.toInt := hc_21.2.2.1
              have hu_r15 : r15.toInt ≤ 100 := hc_21.2.2.2
              exact ok_some ⟨hI_s14, hF_s14, (ti_rng _).1, (ti_rng _).2⟩
            · have c_20 := tn_ne (a := (x2).toInt) (b := 4) rfl (by decide) c_20
              refine ok_ite (fun c_22 => ?_) (fun c_22 => ?_)
              · have c_22 := tn_eq (a := (x2).toInt) (b := 5) rfl (by decide) c_22
                refine ok_bindI (ok_r_doesDare _ _ hI_s4 (hB.fr hF_s4 (by decide)) (by omega) (by omega)) (fun r18 s17 hc_23 => ?_)
                have hI_s17 : InvR s17 := hc_23.1
                have hFc_s17 : FrR [42, 140, 141] s4 s17 := hc_23.2.1
                have hF_s17 : FrR [42, 45, 140, 141, 144] s0 s17 := hF_s4.trans hFc_s17 (by decide)
                have hl_r18 : 0 ≤ r18.toInt := hc_23.2.2.1
                have hu_r18 : r18.toInt ≤ 1 := hc_23.2.2.2
                refine ok_ite (fun c_24 => ?_) (fun c_24 => ?_)
                · have c_24 := tn_eq (a := (r18).toInt) (b := 0) rfl (by decide) c_24
                  exact ok_some ⟨hI_s17, hF_s17, (ti_rng _).1, (ti_rng _).2⟩
                · have c_24 := tn_ne (a := (r18).toInt) (b := 0) rfl (by decide) c_24
                  exact ok_some ⟨hI_s17, hF_s17, (ti_rng _).1, (ti_rng _).2⟩
              · have c_22 := tn_ne (a := (x2).toInt) (b := 5) rfl (by decide) c_22
                exact ok_some ⟨hI_s4, hF_s4, (ti_rng _).1, (ti_rng _).2⟩
theorem ok_r_party (s : RS) (x1 : Int32) (x2 : Int32) (hI_s : InvR s) (hB : Big s) : Ok (r_party s x1 x2) (Q_r_party s) := ok_r_partyB s hB s x1 x2 hI_s FrR.rfl
abbrev Q_r_needs (s0 : RS) (y : Int32 × RS) : Prop := InvR y.2 ∧ FrR [42, 45, 140, 141, 144] s0 y.2 ∧ -1 ≤ y.1.toInt ∧ y.1.toInt ≤ 100
set_option maxHeartbeats 1000000 in
theorem ok_r_needsB (s0 : RS) (hB : Big s0)  (s : RS) (x1 : Int32) (x2 : Int32) (x3 : Int32) (hI_s : InvR s) (hF_s : FrR [42, 45, 140, 141, 144] s0 s)  : Ok (r_needs  s x1 x2 x3) (Q_r_needs s0) := by
  unfold r_needs
  refine ok_bindI (ok_r_isParty _ _ hI_s) (fun r2 s1 hc_1 => ?_)
  have hI_s1 : InvR s1 := hc_1.1
  have hFc_s1 : FrR [] s s1 := hc_1.2.1
  have hF_s1 : FrR [42, 45, 140, 141, 144] s0 s1 := hF_s.trans hFc_s1 (by decide)
  have hl_r2 : 0 ≤ r2.toInt := hc_1.2.2.1
  have hu_r2 : r2.toInt ≤ 1 := hc_1.2.2.2.1
  have hx0_r2 : (¬ r2.toInt = 0 → 0 ≤ (x1).toInt ∧ (x1).toInt ≤ 5) := hc_1.2.2.2.2
  refine ok_ite (fun c_2 => ?_) (fun c_2 => ?_)
  · have c_2 := tn_eq (a := (r2).toInt) (b := 0) rfl (by decide) c_2
    exact ok_some ⟨hI_s1, hF_s1, by show -1 ≤ ((-1) : Int32).toInt; decide, by show ((-1) : Int32).toInt ≤ 100; decide⟩
  · have c_2 := tn_ne (a := (r2).toInt) (b := 0) rfl (by decide) c_2
    refine ok_bindI (ok_r_isWave _ _ hI_s1) (fun r5 s4 hc_3 => ?_)
    have hI_s4 : InvR s4 := hc_3.1
    have hFc_s4 : FrR [] s1 s4 := hc_3.2.1
    have hF_s4 : FrR [42, 45, 140, 141, 144] s0 s4 := hF_s1.trans hFc_s4 (by decide)
    have a_4 : wv s1 = wv s0 := wv_fr hF_s1 (by decide) (by decide)
    have hl_r5 : 0 ≤ r5.toInt := hc_3.2.2.1
    have hu_r5 : r5.toInt ≤ 1 := hc_3.2.2.2.1
    have hx0_r5 : (¬ r5.toInt = 0 → 0 ≤ (x2).toInt ∧ (x2).toInt < wv s1 ∧ wv s1 ≤ 5) := hc_3.2.2.2.2
    refine ok_ite (fun c_5 => ?_) (fun c_5 => ?_)
    · have c_5 := tn_eq (a := (r5).toInt) (b := 0) rfl (by decide) c_5
      exact ok_some ⟨hI_s4, hF_s4, by show -1 ≤ ((-1) : Int32).toInt; decide, by show ((-1) : Int32).toInt ≤ 100; decide⟩
    · have c_5 := tn_ne (a := (r5).toInt) (b := 0) rfl (by decide) c_5
      refine ok_bindP (ok_r_isThing _ ) (fun r7 hc_6 => ?_)
      have hl_r7 : 0 ≤ r7.toInt := hc_6.1
      have hu_r7 : r7.toInt ≤ 1 := hc_6.2.1
      have hx0_r7 : (¬ r7.toInt = 0 → 0 ≤ (x3).toInt ∧ (x3).toInt ≤ 5) := hc_6.2.2
      refine ok_ite (fun c_7 => ?_) (fun c_7 => ?_)
      · have c_7 := tn_eq (a := (r7).toInt) (b := 0) rfl (by decide) c_7
        exact ok_some ⟨hI_s4, hF_s4, by show -1 ≤ ((-1) : Int32).toInt; decide, by show ((-1) : Int32).toInt ≤ 100; decide⟩
      · have c_7 := tn_ne (a := (r7).toInt) (b := 0) rfl (by decide) c_7
        refine ok_bindP (ok_r_copies _  hI_s4) (fun s9 hc_8 => ?_)
        have hI_s9 : InvR s9 := hc_8.1
        have hFc_s9 : FrR [45, 144] s4 s9 := hc_8.2
        have hF_s9 : FrR [42, 45, 140, 141, 144] s0 s9 := hF_s4.trans hFc_s9 (by decide)
        refine ok_bindI (ok_r_needsOf _ _ _ _ hI_s9 (hB.fr hF_s9 (by decide)) (by omega) (by omega) (by omega) (by omega) (by omega) (by omega)) (fun r11 s10 hc_9 => ?_)
        have hI_s10 : InvR s10 := hc_9.1
        have hFc_s10 : FrR [42, 140, 141] s9 s10 := hc_9.2.1
        have hF_s10 : FrR [42, 45, 140, 141, 144] s0 s10 := hF_s9.trans hFc_s10 (by decide)
        have hl_r11 : 0 ≤ r11.toInt := hc_9.2.2.1
        have hu_r11 : r11.toInt ≤ 100 := hc_9.2.2.2
        exact ok_some ⟨hI_s10, hF_s10, by show -1 ≤ (r11).toInt; omega, by show (r11).toInt ≤ 100; omega⟩
theorem ok_r_needs (s : RS) (x1 : Int32) (x2 : Int32) (x3 : Int32) (hI_s : InvR s) (hB : Big s) : Ok (r_needs s x1 x2 x3) (Q_r_needs s) := ok_r_needsB s hB s x1 x2 x3 hI_s FrR.rfl
abbrev Q_r_records (s0 : RS) (y : RS) : Prop := InvR y ∧ FrR [48, 143, 149] s0 y
set_option maxHeartbeats 1000000 in
theorem ok_r_records_51 (s0 : RS) (k51 : RS → Int32 → Option (RS)) (M51 : Nat) (hk51 : ∀ (s : RS) (x1 : Int32), InvR s → FrR [48, 143, 149] s0 s → 0 ≤ x1.toInt → x1.toInt ≤ 29 → (s.v 48).toInt ≤ 39 → (29 - x1.toInt).toNat < M51 → Ok (k51 s x1) (Q_r_records s0)) (s : RS) (x1 : Int32) (hI_s : InvR s) (hF_s : FrR [48, 143, 149] s0 s) (h_x1l : 0 ≤ x1.toInt) (h_x1u : x1.toInt ≤ 29) (h_v48u : (s.v 48).toInt ≤ 39) (hM51 : (29 - x1.toInt).toNat ≤ M51) : Ok (r_records_51 k51 s x1) (Q_r_records s0) := by
  unfold r_records_51
  refine ok_ite (fun c_1 => ?_) (fun c_1 => ?_)
  · have c_1 := tn_le (a := 29) (b := (x1).toInt) (by decide) rfl c_1
    refine ok_let (fun s2 hs2 => ?_)
    have a_2 : 0 ≤ (s.v 48).toInt ∧ (s.v 48).toInt ≤ 40 := hI_s.1 48
    have a_3 : (((s.v 48) + 1)).toInt = ((s.v 48)).toInt + 1 := tn_add rfl (by decide) (by omega) (by omega)
    have hI_s2 : InvR s2 := by rw [← hs2]; exact hI_s.sv (k := 48) (show (0 : Int) ≤ (((s.v 48) + 1)).toInt by omega) (show (((s.v 48) + 1)).toInt ≤ (40 : Int) by omega)
    have hF_s2 : FrR [48, 143, 149] s0 s2 := by rw [← hs2]; exact hF_s.sv (k := 48) (by decide)
    refine ok_bindP (ok_r_keepsRow _  hI_s2) (fun s4 hc_4 => ?_)
    have hI_s4 : InvR s4 := hc_4.1
    have hFc_s4 : FrR [143] s2 s4 := hc_4.2
    have hF_s4 : FrR [48, 143, 149] s0 s4 := hF_s2.trans hFc_s4 (by decide)
    exact ok_some ⟨hI_s4, hF_s4⟩
  · have c_1 := tn_nle (a := 29) (b := (x1).toInt) (by decide) rfl c_1
    refine ok_grd (vpb_ok (by omega) (by omega)) ?_
    have a_5 : 0 ≤ (s.v 48).toInt ∧ (s.v 48).toInt ≤ 40 := hI_s.1 48
    have a_6 : ((29 * (s.v 48))).toInt = ((s.v 48)).toInt * 29 := ti_cmul (c := 29) (by decide) (by omega) (by omega)
    have a_7 : (((29 * (s.v 48)) + x1)).toInt = ((29 * (s.v 48))).toInt + (x1).toInt := tn_add rfl rfl (by omega) (by omega)
    refine ok_grd (vpb_ok (by omega) (by omega)) ?_
    refine ok_let (fun s7 hs7 => ?_)
    have hI_s7 : InvR s7 := by rw [← hs7]; exact hI_s.sfF (k := 49) rfl rfl
    have hF_s7 : FrR [48, 143, 149] s0 s7 := by rw [← hs7]; exact hF_s.sf (k := 49) (by decide)
    have a_8 : ((x1 + 1)).toInt = (x1).toInt + 1 := tn_add rfl (by decide) (by omega) (by omega)
    have a_9 : (s7.v 48).toInt = (s.v 48).toInt := congrArg Int32.toInt (show s7.v 48 = s.v 48 by rw [← hs7]; rfl)
    exact hk51 _ _ hI_s7 hF_s7 (by omega) (by omega) (by omega) (by omega)
theorem okL_r_records_51 (s0 : RS)  : ∀ (n : Nat) (s : RS) (x1 : Int32), (29 - x1.toInt).toNat < n → InvR s → FrR [48, 143, 149] s0 s → 0 ≤ x1.toInt → x1.toInt ≤ 29 → (s.v 48).toInt ≤ 39 → Ok (r_records_51L  n s x1) (Q_r_records s0) := by
  intro n
  induction n with
  | zero => intro s x1 hn; omega
  | succ n ih =>
    intro s x1 hn hI_s hF_s h_x1l h_x1u h_v48u 
    exact ok_r_records_51 s0 (r_records_51L  n) ((29 - x1.toInt).toNat) (fun zs zx1 g0 g1 g2 g3 g4  hm => ih zs zx1 (by omega) g0 g1 g2 g3 g4 ) s x1 hI_s hF_s h_x1l h_x1u h_v48u (Nat.le_refl _)
set_option maxHeartbeats 1000000 in
theorem ok_r_records_49 (s0 : RS)  (s : RS) (hI_s : InvR s) (hF_s : FrR [48, 143, 149] s0 s) (h_v48u : (s.v 48).toInt ≤ 39)  : Ok (r_records_49  s) (Q_r_records s0) := by
  unfold r_records_49
  have a_1 : 0 ≤ (s.v 48).toInt ∧ (s.v 48).toInt ≤ 40 := hI_s.1 48
  have l_0 : (0 : Int32).toInt = 0 := by decide
  exact okL_r_records_51 s0  fu _ _ (by unfold fu; omega) hI_s hF_s (by decide) (by decide) (by omega) 
set_option maxHeartbeats 1000000 in
theorem ok_r_records_11 (s0 : RS) (k11 : RS → Int32 → Option (RS)) (M11 : Nat) (hk11 : ∀ (s : RS) (x1 : Int32), InvR s → FrR [48, 143, 149] s0 s → 0 ≤ x1.toInt → x1.toInt ≤ 1131 → 40 ≤ (s.v 48).toInt → (1131 - x1.toInt).toNat < M11 → Ok (k11 s x1) (Q_r_records s0)) (s : RS) (x1 : Int32) (hI_s : InvR s) (hF_s : FrR [48, 143, 149] s0 s) (h_x1l : 0 ≤ x1.toInt) (h_x1u : x1.toInt ≤ 1131) (h_v48l : 40 ≤ (s.v 48).toInt) (hM11 : (1131 - x1.toInt).toNat ≤ M11) : Ok (r_records_11 k11 s x1) (Q_r_records s0) := by
  unfold r_records_11
  refine ok_ite (fun c_1 => ?_) (fun c_1 => ?_)
  · have c_1 := tn_le (a := 1131) (b := (x1).toInt) (by decide) rfl c_1
    refine ok_let (fun s2 hs2 => ?_)
    have a_2 : 0 ≤ (s.v 48).toInt ∧ (s.v 48).toInt ≤ 40 := hI_s.1 48
    have a_3 : (((s.v 48) - 1)).toInt = ((s.v 48)).toInt - 1 := tn_sub rfl (by decide) (by omega) (by omega)
    have hI_s2 : InvR s2 := by rw [← hs2]; exact hI_s.sv (k := 48) (show (0 : Int) ≤ (((s.v 48) - 1)).toInt by omega) (show (((s.v 48) - 1)).toInt ≤ (40 : Int) by omega)
    have hF_s2 : FrR [48, 143, 149] s0 s2 := by rw [← hs2]; exact hF_s.sv (k := 48) (by decide)
    have a_4 : (s2.v 48).toInt = (((s.v 48) - 1)).toInt := (congrArg Int32.toInt (show s2.v 48 = ((s.v 48) - 1) by rw [← hs2]; rfl)).trans rfl
    exact ok_r_records_49 s0  _ hI_s2 hF_s2 (by omega) 
  · have c_1 := tn_nle (a := 1131) (b := (x1).toInt) (by decide) rfl c_1
    have a_5 : ((x1 + 29)).toInt = (x1).toInt + 29 := tn_add rfl (by decide) (by omega) (by omega)
    refine ok_grd (vpb_ok (by omega) (by omega)) ?_
    refine ok_grd (vpb_ok (by omega) (by omega)) ?_
    refine ok_let (fun s6 hs6 => ?_)
    have hI_s6 : InvR s6 := by rw [← hs6]; exact hI_s.sfF (k := 49) rfl rfl
    have hF_s6 : FrR [48, 143, 149] s0 s6 := by rw [← hs6]; exact hF_s.sf (k := 49) (by decide)
    have a_6 : ((x1 + 1)).toInt = (x1).toInt + 1 := tn_add rfl (by decide) (by omega) (by omega)
    have a_7 : 0 ≤ (s.v 48).toInt ∧ (s.v 48).toInt ≤ 40 := hI_s.1 48
    have a_8 : (s6.v 48).toInt = (s.v 48).toInt := congrArg Int32.toInt (show s6.v 48 = s.v 48 by rw [← hs6]; rfl)
    exact hk11 _ _ hI_s6 hF_s6 (by omega) (by omega) (by omega) (by omega)
theorem okL_r_records_11 (s0 : RS)  : ∀ (n : Nat) (s : RS) (x1 : Int32), (1131 - x1.toInt).toNat < n → InvR s → FrR [48, 143, 149] s0 s → 0 ≤ x1.toInt → x1.toInt ≤ 1131 → 40 ≤ (s.v 48).toInt → Ok (r_records_11L  n s x1) (Q_r_records s0) := by
  intro n
  induction n with
  | zero => intro s x1 hn; omega
  | succ n ih =>
    intro s x1 hn hI_s hF_s h_x1l h_x1u h_v48l 
    exact ok_r_records_11 s0 (r_records_11L  n) ((1131 - x1.toInt).toNat) (fun zs zx1 g0 g1 g2 g3 g4  hm => ih zs zx1 (by omega) g0 g1 g2 g3 g4 ) s x1 hI_s hF_s h_x1l h_x1u h_v48l (Nat.le_refl _)
set_option maxHeartbeats 1000000 in
theorem ok_r_recordsB (s0 : RS)  (s : RS) (hI_s : InvR s) (hF_s : FrR [48, 143, 149] s0 s)  : Ok (r_records  s) (Q_r_records s0) := by
  unfold r_records
  have a_1 : 0 ≤ (s.v 48).toInt ∧ (s.v 48).toInt ≤ 40 := hI_s.1 48
  refine ok_ite (fun c_2 => ?_) (fun c_2 => ?_)
  · have c_2 := tn_eq (a := ((s.v 48)).toInt) (b := 40) rfl (by decide) c_2
    have l_0 : (0 : Int32).toInt = 0 := by decide
    exact okL_r_records_11 s0  fu _ _ (by unfold fu; omega) hI_s hF_s (by decide) (by decide) (by omega) 
  · have c_2 := tn_ne (a := ((s.v 48)).toInt) (b := 40) rfl (by decide) c_2
    exact ok_r_records_49 s0  _ hI_s hF_s (by omega) 
theorem ok_r_records (s : RS) (hI_s : InvR s) : Ok (r_records s) (Q_r_records s) := ok_r_recordsB s s hI_s FrR.rfl
abbrev Q_r_isHere (s0 : RS) (x1 : Int32) (y : Int32 × RS) : Prop := InvR y.2 ∧ FrR [] s0 y.2 ∧ 0 ≤ y.1.toInt ∧ y.1.toInt ≤ 1 ∧ (¬ y.1.toInt = 0 → 0 ≤ (x1).toInt ∧ (x1).toInt ≤ 5)
set_option maxHeartbeats 1000000 in
theorem ok_r_isHereB (s0 : RS)  (s : RS) (x1 : Int32) (hI_s : InvR s) (hF_s : FrR [] s0 s)  : Ok (r_isHere  s x1) (Q_r_isHere s0 x1) := by
  unfold r_isHere
  refine ok_bindI (ok_r_isParty _ _ hI_s) (fun r2 s1 hc_1 => ?_)
  have hI_s1 : InvR s1 := hc_1.1
  have hFc_s1 : FrR [] s s1 := hc_1.2.1
  have hF_s1 : FrR [] s0 s1 := hF_s.trans hFc_s1 (by decide)
  have hl_r2 : 0 ≤ r2.toInt := hc_1.2.2.1
  have hu_r2 : r2.toInt ≤ 1 := hc_1.2.2.2.1
  have hx0_r2 : (¬ r2.toInt = 0 → 0 ≤ (x1).toInt ∧ (x1).toInt ≤ 5) := hc_1.2.2.2.2
  refine ok_ite (fun c_2 => ?_) (fun c_2 => ?_)
  · have c_2 := tn_eq (a := (r2).toInt) (b := 0) rfl (by decide) c_2
    exact ok_some ⟨hI_s1, hF_s1, by show 0 ≤ (0 : Int32).toInt; decide, by show (0 : Int32).toInt ≤ 1; decide, by show (¬ (0 : Int32).toInt = 0 → 0 ≤ (x1).toInt ∧ (x1).toInt ≤ 5); have l := (by decide : (0 : Int32).toInt = 0); omega⟩
  · have c_2 := tn_ne (a := (r2).toInt) (b := 0) rfl (by decide) c_2
    have a_3 : ((15 + x1)).toInt = 15 + (x1).toInt := tn_add (by decide) rfl (by omega) (by omega)
    refine ok_grd (vpb_ok (by omega) (by omega)) ?_
    refine ok_ite (fun c_4 => ?_) (fun c_4 => ?_)
    · have c_4 := tn_eq (a := ((s1.f 43 (Int32.toNatClampNeg (15 + x1)))).toInt) (b := 0) rfl (by decide) c_4
      exact ok_some ⟨hI_s1, hF_s1, by show 0 ≤ (1 : Int32).toInt; decide, by show (1 : Int32).toInt ≤ 1; decide, by show (¬ (1 : Int32).toInt = 0 → 0 ≤ (x1).toInt ∧ (x1).toInt ≤ 5); have l := (by decide : (1 : Int32).toInt = 1); omega⟩
    · have c_4 := tn_ne (a := ((s1.f 43 (Int32.toNatClampNeg (15 + x1)))).toInt) (b := 0) rfl (by decide) c_4
      exact ok_some ⟨hI_s1, hF_s1, by show 0 ≤ (0 : Int32).toInt; decide, by show (0 : Int32).toInt ≤ 1; decide, by show (¬ (0 : Int32).toInt = 0 → 0 ≤ (x1).toInt ∧ (x1).toInt ≤ 5); have l := (by decide : (0 : Int32).toInt = 0); omega⟩
theorem ok_r_isHere (s : RS) (x1 : Int32) (hI_s : InvR s) : Ok (r_isHere s x1) (Q_r_isHere s x1) := ok_r_isHereB s s x1 hI_s FrR.rfl
abbrev Q_r_go (s0 : RS) (y : Int32 × RS) : Prop := InvR y.2 ∧ FrR [42, 45, 48, 140, 141, 143, 144, 149] s0 y.2 ∧ -1 ≤ y.1.toInt ∧ y.1.toInt ≤ 5
set_option maxHeartbeats 1000000 in
theorem ok_r_goB (s0 : RS) (hB : Big s0)  (s : RS) (x1 : Int32) (x2 : Int32) (hI_s : InvR s) (hF_s : FrR [42, 45, 48, 140, 141, 143, 144, 149] s0 s)  : Ok (r_go  s x1 x2) (Q_r_go s0) := by
  unfold r_go
  refine ok_bindI (ok_r_isHere _ _ hI_s) (fun r2 s1 hc_1 => ?_)
  have hI_s1 : InvR s1 := hc_1.1
  have hFc_s1 : FrR [] s s1 := hc_1.2.1
  have hF_s1 : FrR [42, 45, 48, 140, 141, 143, 144, 149] s0 s1 := hF_s.trans hFc_s1 (by decide)
  have hl_r2 : 0 ≤ r2.toInt := hc_1.2.2.1
  have hu_r2 : r2.toInt ≤ 1 := hc_1.2.2.2.1
  have hx0_r2 : (¬ r2.toInt = 0 → 0 ≤ (x1).toInt ∧ (x1).toInt ≤ 5) := hc_1.2.2.2.2
  refine ok_ite (fun c_2 => ?_) (fun c_2 => ?_)
  · have c_2 := tn_eq (a := (r2).toInt) (b := 0) rfl (by decide) c_2
    exact ok_some ⟨hI_s1, hF_s1, by show -1 ≤ ((-1) : Int32).toInt; decide, by show ((-1) : Int32).toInt ≤ 5; decide⟩
  · have c_2 := tn_ne (a := (r2).toInt) (b := 0) rfl (by decide) c_2
    have a_3 : 0 ≤ (s.v 18).toInt ∧ (s.v 18).toInt ≤ 1 := hI_s.1 18
    have a_4 : (s1.v 18).toInt = (s.v 18).toInt := congrArg Int32.toInt (hFc_s1.1 18 (by decide))
    refine ok_grd (vpb_ok (by omega) (by omega)) ?_
    have a_5 : ((s1.f 20 (Int32.toNatClampNeg (s1.v 18)))).toInt = wv s0 := wv_fr hF_s1 (by decide) (by decide)
    have a_6 : 0 ≤ ((s1.f 20 (Int32.toNatClampNeg (s1.v 18)))).toInt ∧ ((s1.f 20 (Int32.toNatClampNeg (s1.v 18)))).toInt ≤ 5 := hI_s1.2 20 _
    refine ok_ite (fun c_7 => ?_) (fun c_7 => ?_)
    · have c_7 := tn_eq (a := ((s1.f 20 (Int32.toNatClampNeg (s1.v 18)))).toInt) (b := 0) rfl (by decide) c_7
      exact ok_some ⟨hI_s1, hF_s1, by show -1 ≤ ((-1) : Int32).toInt; decide, by show ((-1) : Int32).toInt ≤ 5; decide⟩
    · have c_7 := tn_ne (a := ((s1.f 20 (Int32.toNatClampNeg (s1.v 18)))).toInt) (b := 0) rfl (by decide) c_7
      refine ok_bindI (ok_r_isGuess _ _ hI_s1 (hB.fr hF_s1 (by decide))) (fun r7 s6 hc_8 => ?_)
      have hI_s6 : InvR s6 := hc_8.1
      have hFc_s6 : FrR [] s1 s6 := hc_8.2.1
      have hF_s6 : FrR [42, 45, 48, 140, 141, 143, 144, 149] s0 s6 := hF_s1.trans hFc_s6 (by decide)
      have hl_r7 : 0 ≤ r7.toInt := hc_8.2.2.1
      have hu_r7 : r7.toInt ≤ 1 := hc_8.2.2.2.1
      have hx0_r7 : (¬ r7.toInt = 0 → 0 ≤ (x2).toInt ∧ (x2).toInt ≤ 7775) := hc_8.2.2.2.2
      refine ok_ite (fun c_9 => ?_) (fun c_9 => ?_)
      · have c_9 := tn_eq (a := (r7).toInt) (b := 0) rfl (by decide) c_9
        exact ok_some ⟨hI_s6, hF_s6, by show -1 ≤ ((-1) : Int32).toInt; decide, by show ((-1) : Int32).toInt ≤ 5; decide⟩
      · have c_9 := tn_ne (a := (r7).toInt) (b := 0) rfl (by decide) c_9
        refine ok_bindP (ok_r_copies _  hI_s6) (fun s9 hc_10 => ?_)
        have hI_s9 : InvR s9 := hc_10.1
        have hFc_s9 : FrR [45, 144] s6 s9 := hc_10.2
        have hF_s9 : FrR [42, 45, 48, 140, 141, 143, 144, 149] s0 s9 := hF_s6.trans hFc_s9 (by decide)
        refine ok_bindI (ok_r_thereNumber _  hI_s9 (hB.fr hF_s9 (by decide))) (fun r11 s10 hc_11 => ?_)
        have hI_s10 : InvR s10 := hc_11.1
        have hFc_s10 : FrR [] s9 s10 := hc_11.2.1
        have hF_s10 : FrR [42, 45, 48, 140, 141, 143, 144, 149] s0 s10 := hF_s9.trans hFc_s10 (by decide)
        have hl_r11 : 0 ≤ r11.toInt := hc_11.2.2.1
        have hu_r11 : r11.toInt ≤ 194400 := hc_11.2.2.2
        refine ok_bindI (ok_r_goesBy _ _ _ _ hI_s10 (hB.fr hF_s10 (by decide)) (by omega) (by omega) (by omega) (by omega) (by omega) (by omega)) (fun r13 s12 hc_12 => ?_)
        have hI_s12 : InvR s12 := hc_12.1
        have hFc_s12 : FrR [42, 140, 141, 144] s10 s12 := hc_12.2.1
        have hF_s12 : FrR [42, 45, 48, 140, 141, 143, 144, 149] s0 s12 := hF_s10.trans hFc_s12 (by decide)
        have hl_r13 : 0 ≤ r13.toInt := hc_12.2.2.1
        have hu_r13 : r13.toInt ≤ 5 := hc_12.2.2.2
        refine ok_bindP (ok_r_records _  hI_s12) (fun s14 hc_13 => ?_)
        have hI_s14 : InvR s14 := hc_13.1
        have hFc_s14 : FrR [48, 143, 149] s12 s14 := hc_13.2
        have hF_s14 : FrR [42, 45, 48, 140, 141, 143, 144, 149] s0 s14 := hF_s12.trans hFc_s14 (by decide)
        exact ok_some ⟨hI_s14, hF_s14, by show -1 ≤ (r13).toInt; omega, by show (r13).toInt ≤ 5; omega⟩
theorem ok_r_go (s : RS) (x1 : Int32) (x2 : Int32) (hI_s : InvR s) (hB : Big s) : Ok (r_go s x1 x2) (Q_r_go s) := ok_r_goB s hB s x1 x2 hI_s FrR.rfl
abbrev Q_r_buoy (s0 : RS) (y : Int32 × RS) : Prop := InvR y.2 ∧ FrR [45, 48, 143, 144, 149] s0 y.2 ∧ 0 ≤ y.1.toInt ∧ y.1.toInt ≤ 1
set_option maxHeartbeats 1000000 in
theorem ok_r_buoy_34 (s0 : RS)  (s : RS) (x1 : Int32) (x2 : Int32) (x3 : Int32) (t0 : Int32) (hI_s : InvR s) (hF_s : FrR [45, 48, 143, 144, 149] s0 s) (h_x1l : 0 ≤ x1.toInt) (h_x1u : x1.toInt ≤ 4) (h_x2l : 0 ≤ x2.toInt) (h_x2u : x2.toInt ≤ 5) (h_t0l : 0 ≤ t0.toInt) (h_t0u : t0.toInt ≤ 1)  : Ok (r_buoy_34  s x1 x2 x3 t0) (Q_r_buoy s0) := by
  unfold r_buoy_34
  refine ok_ite (fun c_1 => ?_) (fun c_1 => ?_)
  · have c_1 := tn_eq (a := (t0).toInt) (b := (x3).toInt) rfl rfl c_1
    exact ok_some ⟨hI_s, hF_s, by show 0 ≤ (0 : Int32).toInt; decide, by show (0 : Int32).toInt ≤ 1; decide⟩
  · have c_1 := tn_ne (a := (t0).toInt) (b := (x3).toInt) rfl rfl c_1
    refine ok_bindP (ok_r_copies _  hI_s) (fun s2 hc_2 => ?_)
    have hI_s2 : InvR s2 := hc_2.1
    have hFc_s2 : FrR [45, 144] s s2 := hc_2.2
    have hF_s2 : FrR [45, 48, 143, 144, 149] s0 s2 := hF_s.trans hFc_s2 (by decide)
    refine ok_grd (vpb_ok (by omega) (by omega)) ?_
    refine ok_grd (vpb_ok (by omega) (by omega)) ?_
    refine ok_let (fun s5 hs5 => ?_)
    have hI_s5 : InvR s5 := by rw [← hs5]; exact hI_s2.sfF (k := 44) rfl rfl
    have hF_s5 : FrR [45, 48, 143, 144, 149] s0 s5 := by rw [← hs5]; exact hF_s2.sf (k := 44) (by decide)
    refine ok_bindP (ok_r_records _  hI_s5) (fun s7 hc_3 => ?_)
    have hI_s7 : InvR s7 := hc_3.1
    have hFc_s7 : FrR [48, 143, 149] s5 s7 := hc_3.2
    have hF_s7 : FrR [45, 48, 143, 144, 149] s0 s7 := hF_s5.trans hFc_s7 (by decide)
    exact ok_some ⟨hI_s7, hF_s7, by show 0 ≤ (1 : Int32).toInt; decide, by show (1 : Int32).toInt ≤ 1; decide⟩
set_option maxHeartbeats 1000000 in
theorem ok_r_buoyB (s0 : RS)  (s : RS) (x1 : Int32) (x2 : Int32) (x3 : Int32) (hI_s : InvR s) (hF_s : FrR [45, 48, 143, 144, 149] s0 s)  : Ok (r_buoy  s x1 x2 x3) (Q_r_buoy s0) := by
  unfold r_buoy
  refine ok_bindI (ok_r_isWave _ _ hI_s) (fun r2 s1 hc_1 => ?_)
  have hI_s1 : InvR s1 := hc_1.1
  have hFc_s1 : FrR [] s s1 := hc_1.2.1
  have hF_s1 : FrR [45, 48, 143, 144, 149] s0 s1 := hF_s.trans hFc_s1 (by decide)
  have a_2 : wv s = wv s0 := wv_fr hF_s (by decide) (by decide)
  have hl_r2 : 0 ≤ r2.toInt := hc_1.2.2.1
  have hu_r2 : r2.toInt ≤ 1 := hc_1.2.2.2.1
  have hx0_r2 : (¬ r2.toInt = 0 → 0 ≤ (x1).toInt ∧ (x1).toInt < wv s ∧ wv s ≤ 5) := hc_1.2.2.2.2
  refine ok_ite (fun c_3 => ?_) (fun c_3 => ?_)
  · have c_3 := tn_eq (a := (r2).toInt) (b := 0) rfl (by decide) c_3
    exact ok_some ⟨hI_s1, hF_s1, by show 0 ≤ (0 : Int32).toInt; decide, by show (0 : Int32).toInt ≤ 1; decide⟩
  · have c_3 := tn_ne (a := (r2).toInt) (b := 0) rfl (by decide) c_3
    refine ok_bindP (ok_r_isThing _ ) (fun r4 hc_4 => ?_)
    have hl_r4 : 0 ≤ r4.toInt := hc_4.1
    have hu_r4 : r4.toInt ≤ 1 := hc_4.2.1
    have hx0_r4 : (¬ r4.toInt = 0 → 0 ≤ (x2).toInt ∧ (x2).toInt ≤ 5) := hc_4.2.2
    refine ok_ite (fun c_5 => ?_) (fun c_5 => ?_)
    · have c_5 := tn_eq (a := (r4).toInt) (b := 0) rfl (by decide) c_5
      exact ok_some ⟨hI_s1, hF_s1, by show 0 ≤ (0 : Int32).toInt; decide, by show (0 : Int32).toInt ≤ 1; decide⟩
    · have c_5 := tn_ne (a := (r4).toInt) (b := 0) rfl (by decide) c_5
      refine ok_grd (vpb_ok (by omega) (by omega)) ?_
      have a_6 := ti_and1 (((s1.f 43 (Int32.toNatClampNeg x1)) >>> (x2 &&& 31)))
      refine ok_ite (fun c_7 => ?_) (fun c_7 => ?_)
      · have c_7 := tn_eq (a := ((((s1.f 43 (Int32.toNatClampNeg x1)) >>> (x2 &&& 31)) &&& 1)).toInt) (b := 1) rfl (by decide) c_7
        have l_1 : (1 : Int32).toInt = 1 := by decide
        exact ok_r_buoy_34 s0  _ _ _ _ _ hI_s1 hF_s1 (by omega) (by omega) (by omega) (by omega) (by decide) (by decide) 
      · have c_7 := tn_ne (a := ((((s1.f 43 (Int32.toNatClampNeg x1)) >>> (x2 &&& 31)) &&& 1)).toInt) (b := 1) rfl (by decide) c_7
        have l_0 : (0 : Int32).toInt = 0 := by decide
        exact ok_r_buoy_34 s0  _ _ _ _ _ hI_s1 hF_s1 (by omega) (by omega) (by omega) (by omega) (by decide) (by decide) 
theorem ok_r_buoy (s : RS) (x1 : Int32) (x2 : Int32) (x3 : Int32) (hI_s : InvR s) : Ok (r_buoy s x1 x2 x3) (Q_r_buoy s) := ok_r_buoyB s s x1 x2 x3 hI_s FrR.rfl
abbrev Q_r_fetch (s0 : RS) (y : Int32 × RS) : Prop := InvR y.2 ∧ FrR [45, 48, 143, 144, 149] s0 y.2 ∧ 0 ≤ y.1.toInt ∧ y.1.toInt ≤ 1
set_option maxHeartbeats 1000000 in
theorem ok_r_fetchB (s0 : RS)  (s : RS) (x1 : Int32) (hI_s : InvR s) (hF_s : FrR [45, 48, 143, 144, 149] s0 s)  : Ok (r_fetch  s x1) (Q_r_fetch s0) := by
  unfold r_fetch
  refine ok_bindI (ok_r_isParty _ _ hI_s) (fun r2 s1 hc_1 => ?_)
  have hI_s1 : InvR s1 := hc_1.1
  have hFc_s1 : FrR [] s s1 := hc_1.2.1
  have hF_s1 : FrR [45, 48, 143, 144, 149] s0 s1 := hF_s.trans hFc_s1 (by decide)
  have hl_r2 : 0 ≤ r2.toInt := hc_1.2.2.1
  have hu_r2 : r2.toInt ≤ 1 := hc_1.2.2.2.1
  have hx0_r2 : (¬ r2.toInt = 0 → 0 ≤ (x1).toInt ∧ (x1).toInt ≤ 5) := hc_1.2.2.2.2
  refine ok_ite (fun c_2 => ?_) (fun c_2 => ?_)
  · have c_2 := tn_eq (a := (r2).toInt) (b := 0) rfl (by decide) c_2
    exact ok_some ⟨hI_s1, hF_s1, by show 0 ≤ (0 : Int32).toInt; decide, by show (0 : Int32).toInt ≤ 1; decide⟩
  · have c_2 := tn_ne (a := (r2).toInt) (b := 0) rfl (by decide) c_2
    have a_3 : ((15 + x1)).toInt = 15 + (x1).toInt := tn_add (by decide) rfl (by omega) (by omega)
    refine ok_grd (vpb_ok (by omega) (by omega)) ?_
    refine ok_ite (fun c_4 => ?_) (fun c_4 => ?_)
    · have c_4 := tn_eq (a := ((s1.f 43 (Int32.toNatClampNeg (15 + x1)))).toInt) (b := 0) rfl (by decide) c_4
      exact ok_some ⟨hI_s1, hF_s1, by show 0 ≤ (0 : Int32).toInt; decide, by show (0 : Int32).toInt ≤ 1; decide⟩
    · have c_4 := tn_ne (a := ((s1.f 43 (Int32.toNatClampNeg (15 + x1)))).toInt) (b := 0) rfl (by decide) c_4
      refine ok_bindP (ok_r_copies _  hI_s1) (fun s6 hc_5 => ?_)
      have hI_s6 : InvR s6 := hc_5.1
      have hFc_s6 : FrR [45, 144] s1 s6 := hc_5.2
      have hF_s6 : FrR [45, 48, 143, 144, 149] s0 s6 := hF_s1.trans hFc_s6 (by decide)
      refine ok_grd (vpb_ok (by omega) (by omega)) ?_
      refine ok_let (fun s8 hs8 => ?_)
      have hI_s8 : InvR s8 := by rw [← hs8]; exact hI_s6.sfF (k := 44) rfl rfl
      have hF_s8 : FrR [45, 48, 143, 144, 149] s0 s8 := by rw [← hs8]; exact hF_s6.sf (k := 44) (by decide)
      refine ok_bindP (ok_r_records _  hI_s8) (fun s10 hc_6 => ?_)
      have hI_s10 : InvR s10 := hc_6.1
      have hFc_s10 : FrR [48, 143, 149] s8 s10 := hc_6.2
      have hF_s10 : FrR [45, 48, 143, 144, 149] s0 s10 := hF_s8.trans hFc_s10 (by decide)
      exact ok_some ⟨hI_s10, hF_s10, by show 0 ≤ (1 : Int32).toInt; decide, by show (1 : Int32).toInt ≤ 1; decide⟩
theorem ok_r_fetch (s : RS) (x1 : Int32) (hI_s : InvR s) : Ok (r_fetch s x1) (Q_r_fetch s) := ok_r_fetchB s s x1 hI_s FrR.rfl
abbrev Q_r_isLong (x0 : Int32) (y : Int32) : Prop := 0 ≤ y.toInt ∧ y.toInt ≤ 1 ∧ (¬ y.toInt = 0 → 0 ≤ (x0).toInt ∧ (x0).toInt ≤ 40)
set_option maxHeartbeats 1000000 in
theorem ok_r_isLongB  (x0 : Int32)   : Ok (r_isLong  x0) (Q_r_isLong x0) := by
  unfold r_isLong
  refine ok_bindP (ok_r_in _ _ _ (by decide) (by decide) (by decide) (by decide)) (fun r1 hc_1 => ?_)
  have l_0 : (0 : Int32).toInt = 0 := by decide
  have l_40 : (40 : Int32).toInt = 40 := by decide
  have hl_r1 : 0 ≤ r1.toInt := hc_1.1
  have hu_r1 : r1.toInt ≤ 1 := hc_1.2.1
  have hx0_r1 : (¬ r1.toInt = 0 → (0 : Int32).toInt ≤ (x0).toInt ∧ (x0).toInt ≤ (40 : Int32).toInt) := hc_1.2.2
  refine ok_grd (ti_z01 (by omega) (by omega)) ?_
  exact ok_some ⟨by show 0 ≤ (r1).toInt; omega, by show (r1).toInt ≤ 1; omega, by show (¬ (r1).toInt = 0 → 0 ≤ (x0).toInt ∧ (x0).toInt ≤ 40); omega⟩
theorem ok_r_isLong (x0 : Int32)  : Ok (r_isLong x0) (Q_r_isLong x0) := ok_r_isLongB x0 
abbrev Q_r_years (s0 : RS) (y : Int32 × RS) : Prop := InvR y.2 ∧ FrR [42, 45, 48, 140, 141, 143, 144, 147, 149] s0 y.2 ∧ -2147483648 ≤ y.1.toInt ∧ y.1.toInt ≤ 2147483647
set_option maxHeartbeats 1000000 in
theorem ok_r_yearsB (s0 : RS) (hB : Big s0)  (s : RS) (x1 : Int32) (hI_s : InvR s) (hF_s : FrR [42, 45, 48, 140, 141, 143, 144, 147, 149] s0 s)  : Ok (r_years  s x1) (Q_r_years s0) := by
  unfold r_years
  refine ok_bindP (ok_r_isLong _ ) (fun r1 hc_1 => ?_)
  have hl_r1 : 0 ≤ r1.toInt := hc_1.1
  have hu_r1 : r1.toInt ≤ 1 := hc_1.2.1
  have hx0_r1 : (¬ r1.toInt = 0 → 0 ≤ (x1).toInt ∧ (x1).toInt ≤ 40) := hc_1.2.2
  refine ok_ite (fun c_2 => ?_) (fun c_2 => ?_)
  · have c_2 := tn_eq (a := (r1).toInt) (b := 0) rfl (by decide) c_2
    exact ok_some ⟨hI_s, hF_s, (ti_rng _).1, (ti_rng _).2⟩
  · have c_2 := tn_ne (a := (r1).toInt) (b := 0) rfl (by decide) c_2
    refine ok_ite (fun c_3 => ?_) (fun c_3 => ?_)
    · have c_3 := tn_eq (a := (x1).toInt) (b := 0) rfl (by decide) c_3
      exact ok_some ⟨hI_s, hF_s, (ti_rng _).1, (ti_rng _).2⟩
    · have c_3 := tn_ne (a := (x1).toInt) (b := 0) rfl (by decide) c_3
      refine ok_bindP (ok_r_copies _  hI_s) (fun s4 hc_4 => ?_)
      have hI_s4 : InvR s4 := hc_4.1
      have hFc_s4 : FrR [45, 144] s s4 := hc_4.2
      have hF_s4 : FrR [42, 45, 48, 140, 141, 143, 144, 147, 149] s0 s4 := hF_s.trans hFc_s4 (by decide)
      refine ok_bindP (ok_r_yearsGo _ _ hI_s4 (hB.fr hF_s4 (by decide)) (by omega) (by omega)) (fun s5 hc_5 => ?_)
      have hI_s5 : InvR s5 := hc_5.1
      have hFc_s5 : FrR [42, 140, 141, 144, 147] s4 s5 := hc_5.2
      have hF_s5 : FrR [42, 45, 48, 140, 141, 143, 144, 147, 149] s0 s5 := hF_s4.trans hFc_s5 (by decide)
      refine ok_bindP (ok_r_records _  hI_s5) (fun s6 hc_6 => ?_)
      have hI_s6 : InvR s6 := hc_6.1
      have hFc_s6 : FrR [48, 143, 149] s5 s6 := hc_6.2
      have hF_s6 : FrR [42, 45, 48, 140, 141, 143, 144, 147, 149] s0 s6 := hF_s5.trans hFc_s6 (by decide)
      exact ok_some ⟨hI_s6, hF_s6, (ti_rng _).1, (ti_rng _).2⟩
theorem ok_r_years (s : RS) (x1 : Int32) (hI_s : InvR s) (hB : Big s) : Ok (r_years s x1) (Q_r_years s) := ok_r_yearsB s hB s x1 hI_s FrR.rfl
abbrev Q_r_undo (s0 : RS) (y : Int32 × RS) : Prop := InvR y.2 ∧ FrR [48, 143] s0 y.2 ∧ 0 ≤ y.1.toInt ∧ y.1.toInt ≤ 1
set_option maxHeartbeats 1000000 in
theorem ok_r_undo_21 (s0 : RS) (k21 : RS → Int32 → Option (Int32 × RS)) (M21 : Nat) (hk21 : ∀ (s : RS) (x1 : Int32), InvR s → FrR [48, 143] s0 s → 0 ≤ x1.toInt → x1.toInt ≤ 29 → (s.v 48).toInt ≤ 39 → (29 - x1.toInt).toNat < M21 → Ok (k21 s x1) (Q_r_undo s0)) (s : RS) (x1 : Int32) (hI_s : InvR s) (hF_s : FrR [48, 143] s0 s) (h_x1l : 0 ≤ x1.toInt) (h_x1u : x1.toInt ≤ 29) (h_v48u : (s.v 48).toInt ≤ 39) (hM21 : (29 - x1.toInt).toNat ≤ M21) : Ok (r_undo_21 k21 s x1) (Q_r_undo s0) := by
  unfold r_undo_21
  refine ok_ite (fun c_1 => ?_) (fun c_1 => ?_)
  · have c_1 := tn_le (a := 29) (b := (x1).toInt) (by decide) rfl c_1
    exact ok_some ⟨hI_s, hF_s, by show 0 ≤ (1 : Int32).toInt; decide, by show (1 : Int32).toInt ≤ 1; decide⟩
  · have c_1 := tn_nle (a := 29) (b := (x1).toInt) (by decide) rfl c_1
    have a_2 : 0 ≤ (s.v 48).toInt ∧ (s.v 48).toInt ≤ 40 := hI_s.1 48
    have a_3 : ((29 * (s.v 48))).toInt = ((s.v 48)).toInt * 29 := ti_cmul (c := 29) (by decide) (by omega) (by omega)
    have a_4 : (((29 * (s.v 48)) + x1)).toInt = ((29 * (s.v 48))).toInt + (x1).toInt := tn_add rfl rfl (by omega) (by omega)
    refine ok_grd (vpb_ok (by omega) (by omega)) ?_
    refine ok_grd (vpb_ok (by omega) (by omega)) ?_
    refine ok_let (fun s4 hs4 => ?_)
    have hI_s4 : InvR s4 := by rw [← hs4]; exact hI_s.sfF (k := 43) rfl rfl
    have hF_s4 : FrR [48, 143] s0 s4 := by rw [← hs4]; exact hF_s.sf (k := 43) (by decide)
    have a_5 : ((x1 + 1)).toInt = (x1).toInt + 1 := tn_add rfl (by decide) (by omega) (by omega)
    have a_6 : (s4.v 48).toInt = (s.v 48).toInt := congrArg Int32.toInt (show s4.v 48 = s.v 48 by rw [← hs4]; rfl)
    exact hk21 _ _ hI_s4 hF_s4 (by omega) (by omega) (by omega) (by omega)
theorem okL_r_undo_21 (s0 : RS)  : ∀ (n : Nat) (s : RS) (x1 : Int32), (29 - x1.toInt).toNat < n → InvR s → FrR [48, 143] s0 s → 0 ≤ x1.toInt → x1.toInt ≤ 29 → (s.v 48).toInt ≤ 39 → Ok (r_undo_21L  n s x1) (Q_r_undo s0) := by
  intro n
  induction n with
  | zero => intro s x1 hn; omega
  | succ n ih =>
    intro s x1 hn hI_s hF_s h_x1l h_x1u h_v48u 
    exact ok_r_undo_21 s0 (r_undo_21L  n) ((29 - x1.toInt).toNat) (fun zs zx1 g0 g1 g2 g3 g4  hm => ih zs zx1 (by omega) g0 g1 g2 g3 g4 ) s x1 hI_s hF_s h_x1l h_x1u h_v48u (Nat.le_refl _)
set_option maxHeartbeats 1000000 in
theorem ok_r_undoB (s0 : RS)  (s : RS) (hI_s : InvR s) (hF_s : FrR [48, 143] s0 s)  : Ok (r_undo  s) (Q_r_undo s0) := by
  unfold r_undo
  have a_1 : 0 ≤ (s.v 48).toInt ∧ (s.v 48).toInt ≤ 40 := hI_s.1 48
  refine ok_ite (fun c_2 => ?_) (fun c_2 => ?_)
  · have c_2 := tn_eq (a := ((s.v 48)).toInt) (b := 0) rfl (by decide) c_2
    exact ok_some ⟨hI_s, hF_s, by show 0 ≤ (0 : Int32).toInt; decide, by show (0 : Int32).toInt ≤ 1; decide⟩
  · have c_2 := tn_ne (a := ((s.v 48)).toInt) (b := 0) rfl (by decide) c_2
    refine ok_let (fun s2 hs2 => ?_)
    have a_3 : (((s.v 48) - 1)).toInt = ((s.v 48)).toInt - 1 := tn_sub rfl (by decide) (by omega) (by omega)
    have hI_s2 : InvR s2 := by rw [← hs2]; exact hI_s.sv (k := 48) (show (0 : Int) ≤ (((s.v 48) - 1)).toInt by omega) (show (((s.v 48) - 1)).toInt ≤ (40 : Int) by omega)
    have hF_s2 : FrR [48, 143] s0 s2 := by rw [← hs2]; exact hF_s.sv (k := 48) (by decide)
    have a_4 : (s2.v 48).toInt = (((s.v 48) - 1)).toInt := (congrArg Int32.toInt (show s2.v 48 = ((s.v 48) - 1) by rw [← hs2]; rfl)).trans rfl
    have l_0 : (0 : Int32).toInt = 0 := by decide
    exact okL_r_undo_21 s0  fu _ _ (by unfold fu; omega) hI_s2 hF_s2 (by decide) (by decide) (by omega) 
theorem ok_r_undo (s : RS) (hI_s : InvR s) : Ok (r_undo s) (Q_r_undo s) := ok_r_undoB s s hI_s FrR.rfl
abbrev Q_r_casesNow (s0 : RS) (y : Int32 × RS) : Prop := InvR y.2 ∧ FrR [] s0 y.2 ∧ -2147483648 ≤ y.1.toInt ∧ y.1.toInt ≤ 2147483647
set_option maxHeartbeats 1000000 in
theorem ok_r_casesNow_4 (s0 : RS) (k4 : RS → Int32 → Int32 → Option (Int32 × RS)) (M4 : Nat) (hk4 : ∀ (s : RS) (x1 : Int32) (x2 : Int32), InvR s → FrR [] s0 s → 0 ≤ x2.toInt → x2.toInt ≤ 5 → (5 - x2.toInt).toNat < M4 → Ok (k4 s x1 x2) (Q_r_casesNow s0)) (s : RS) (x1 : Int32) (x2 : Int32) (hI_s : InvR s) (hF_s : FrR [] s0 s) (h_x2l : 0 ≤ x2.toInt) (h_x2u : x2.toInt ≤ 5) (hM4 : (5 - x2.toInt).toNat ≤ M4) : Ok (r_casesNow_4 k4 s x1 x2) (Q_r_casesNow s0) := by
  unfold r_casesNow_4
  have a_1 : 0 ≤ (s.v 18).toInt ∧ (s.v 18).toInt ≤ 1 := hI_s.1 18
  refine ok_grd (vpb_ok (by omega) (by omega)) ?_
  have a_2 : ((s.f 20 (Int32.toNatClampNeg (s.v 18)))).toInt = wv s0 := wv_fr hF_s (by decide) (by decide)
  have a_3 : 0 ≤ ((s.f 20 (Int32.toNatClampNeg (s.v 18)))).toInt ∧ ((s.f 20 (Int32.toNatClampNeg (s.v 18)))).toInt ≤ 5 := hI_s.2 20 _
  refine ok_ite (fun c_4 => ?_) (fun c_4 => ?_)
  · have c_4 := tn_le (a := ((s.f 20 (Int32.toNatClampNeg (s.v 18)))).toInt) (b := (x2).toInt) rfl rfl c_4
    exact ok_some ⟨hI_s, hF_s, (ti_rng _).1, (ti_rng _).2⟩
  · have c_4 := tn_nle (a := ((s.f 20 (Int32.toNatClampNeg (s.v 18)))).toInt) (b := (x2).toInt) rfl rfl c_4
    refine ok_bindI (ok_r_mayAt _ _ hI_s (by omega) (by omega)) (fun r4 s3 hc_5 => ?_)
    have hI_s3 : InvR s3 := hc_5.1
    have hFc_s3 : FrR [] s s3 := hc_5.2.1
    have hF_s3 : FrR [] s0 s3 := hF_s.trans hFc_s3 (by decide)
    refine ok_bindP (ok_r_bits _ ) (fun r5 hc_6 => ?_)
    have hl_r5 : 0 ≤ r5.toInt := hc_6.1
    have hu_r5 : r5.toInt ≤ 6 := hc_6.2
    have a_7 : ((x2 + 1)).toInt = (x2).toInt + 1 := tn_add rfl (by decide) (by omega) (by omega)
    exact hk4 _ _ _ hI_s3 hF_s3 (by omega) (by omega) (by omega)
theorem okL_r_casesNow_4 (s0 : RS)  : ∀ (n : Nat) (s : RS) (x1 : Int32) (x2 : Int32), (5 - x2.toInt).toNat < n → InvR s → FrR [] s0 s → 0 ≤ x2.toInt → x2.toInt ≤ 5 → Ok (r_casesNow_4L  n s x1 x2) (Q_r_casesNow s0) := by
  intro n
  induction n with
  | zero => intro s x1 x2 hn; omega
  | succ n ih =>
    intro s x1 x2 hn hI_s hF_s h_x2l h_x2u 
    exact ok_r_casesNow_4 s0 (r_casesNow_4L  n) ((5 - x2.toInt).toNat) (fun zs zx1 zx2 g0 g1 g2 g3  hm => ih zs zx1 zx2 (by omega) g0 g1 g2 g3 ) s x1 x2 hI_s hF_s h_x2l h_x2u (Nat.le_refl _)
set_option maxHeartbeats 1000000 in
theorem ok_r_casesNowB (s0 : RS)  (s : RS) (hI_s : InvR s) (hF_s : FrR [] s0 s)  : Ok (r_casesNow  s) (Q_r_casesNow s0) := by
  unfold r_casesNow
  have l_1 : (1 : Int32).toInt = 1 := by decide
  have l_0 : (0 : Int32).toInt = 0 := by decide
  exact okL_r_casesNow_4 s0  fu _ _ _ (by unfold fu; omega) hI_s hF_s (by decide) (by decide) 
theorem ok_r_casesNow (s : RS) (hI_s : InvR s) : Ok (r_casesNow s) (Q_r_casesNow s) := ok_r_casesNowB s s hI_s FrR.rfl
abbrev Q_r_cases (s0 : RS) (y : Int32 × RS) : Prop := InvR y.2 ∧ FrR [45, 144] s0 y.2 ∧ -2147483648 ≤ y.1.toInt ∧ y.1.toInt ≤ 2147483647
set_option maxHeartbeats 1000000 in
theorem ok_r_casesB (s0 : RS)  (s : RS) (hI_s : InvR s) (hF_s : FrR [45, 144] s0 s)  : Ok (r_cases  s) (Q_r_cases s0) := by
  unfold r_cases
  refine ok_bindP (ok_r_copies _  hI_s) (fun s1 hc_1 => ?_)
  have hI_s1 : InvR s1 := hc_1.1
  have hFc_s1 : FrR [45, 144] s s1 := hc_1.2
  have hF_s1 : FrR [45, 144] s0 s1 := hF_s.trans hFc_s1 (by decide)
  refine ok_bindI (ok_r_casesNow _  hI_s1) (fun r3 s2 hc_2 => ?_)
  have hI_s2 : InvR s2 := hc_2.1
  have hFc_s2 : FrR [] s1 s2 := hc_2.2.1
  have hF_s2 : FrR [45, 144] s0 s2 := hF_s1.trans hFc_s2 (by decide)
  exact ok_some ⟨hI_s2, hF_s2, (ti_rng _).1, (ti_rng _).2⟩
theorem ok_r_cases (s : RS) (hI_s : InvR s) : Ok (r_cases s) (Q_r_cases s) := ok_r_casesB s s hI_s FrR.rfl
abbrev Q_r_mayBe (s0 : RS) (y : Int32 × RS) : Prop := InvR y.2 ∧ FrR [] s0 y.2 ∧ 0 ≤ y.1.toInt ∧ y.1.toInt ≤ 1
set_option maxHeartbeats 1000000 in
theorem ok_r_mayBeB (s0 : RS)  (s : RS) (x1 : Int32) (x2 : Int32) (hI_s : InvR s) (hF_s : FrR [] s0 s) (h_x1l : 0 ≤ x1.toInt) (h_x1u : x1.toInt ≤ 4) (h_x2l : 0 ≤ x2.toInt) (h_x2u : x2.toInt ≤ 5)  : Ok (r_mayBe  s x1 x2) (Q_r_mayBe s0) := by
  unfold r_mayBe
  refine ok_bindI (ok_r_mayAt _ _ hI_s (by omega) (by omega)) (fun r2 s1 hc_1 => ?_)
  have hI_s1 : InvR s1 := hc_1.1
  have hFc_s1 : FrR [] s s1 := hc_1.2.1
  have hF_s1 : FrR [] s0 s1 := hF_s.trans hFc_s1 (by decide)
  have a_2 := ti_and1 ((r2 >>> (x2 &&& 31)))
  refine ok_ite (fun c_3 => ?_) (fun c_3 => ?_)
  · have c_3 := tn_eq (a := (((r2 >>> (x2 &&& 31)) &&& 1)).toInt) (b := 1) rfl (by decide) c_3
    exact ok_some ⟨hI_s1, hF_s1, by show 0 ≤ (1 : Int32).toInt; decide, by show (1 : Int32).toInt ≤ 1; decide⟩
  · have c_3 := tn_ne (a := (((r2 >>> (x2 &&& 31)) &&& 1)).toInt) (b := 1) rfl (by decide) c_3
    exact ok_some ⟨hI_s1, hF_s1, by show 0 ≤ (0 : Int32).toInt; decide, by show (0 : Int32).toInt ≤ 1; decide⟩
theorem ok_r_mayBe (s : RS) (x1 : Int32) (x2 : Int32) (hI_s : InvR s) (h_x1l : 0 ≤ x1.toInt) (h_x1u : x1.toInt ≤ 4) (h_x2l : 0 ≤ x2.toInt) (h_x2u : x2.toInt ≤ 5) : Ok (r_mayBe s x1 x2) (Q_r_mayBe s) := ok_r_mayBeB s s x1 x2 hI_s FrR.rfl h_x1l h_x1u h_x2l h_x2u
abbrev Q_r_chanceOf (s0 : RS) (y : Int32 × RS) : Prop := InvR y.2 ∧ FrR [] s0 y.2 ∧ -2147483648 ≤ y.1.toInt ∧ y.1.toInt ≤ 2147483647
set_option maxHeartbeats 1000000 in
theorem ok_r_chanceOf_47 (s0 : RS) (hB : Big s0) (k4 : RS → Int32 → Int32 → Int32 → Option (Int32 × RS)) (M4 : Nat) (hk4 : ∀ (s : RS) (x1 : Int32) (x2 : Int32) (x3 : Int32), InvR s → FrR [] s0 s → 0 ≤ x1.toInt → x1.toInt ≤ 194400 → 0 ≤ x3.toInt → x3.toInt ≤ 5 → (5 - x3.toInt).toNat < M4 → Ok (k4 s x1 x2 x3) (Q_r_chanceOf s0)) (s : RS) (x1 : Int32) (x3 : Int32) (t0 : Int32) (t1 : Int32) (hI_s : InvR s) (hF_s : FrR [] s0 s) (h_x1l : 0 ≤ x1.toInt) (h_x1u : x1.toInt ≤ 194400) (h_x3l : 0 ≤ x3.toInt) (h_x3u : x3.toInt ≤ 4) (hM4 : (5 - x3.toInt).toNat ≤ M4) : Ok (r_chanceOf_47 k4 s x1 x3 t0 t1) (Q_r_chanceOf s0) := by
  unfold r_chanceOf_47
  have a_1 : ((x3 + 1)).toInt = (x3).toInt + 1 := tn_add rfl (by decide) (by omega) (by omega)
  exact hk4 _ _ _ _ hI_s hF_s (by omega) (by omega) (by omega) (by omega) (by omega)
set_option maxHeartbeats 1000000 in
theorem ok_r_chanceOf_4 (s0 : RS) (hB : Big s0) (k4 : RS → Int32 → Int32 → Int32 → Option (Int32 × RS)) (M4 : Nat) (hk4 : ∀ (s : RS) (x1 : Int32) (x2 : Int32) (x3 : Int32), InvR s → FrR [] s0 s → 0 ≤ x1.toInt → x1.toInt ≤ 194400 → 0 ≤ x3.toInt → x3.toInt ≤ 5 → (5 - x3.toInt).toNat < M4 → Ok (k4 s x1 x2 x3) (Q_r_chanceOf s0)) (s : RS) (x1 : Int32) (x2 : Int32) (x3 : Int32) (hI_s : InvR s) (hF_s : FrR [] s0 s) (h_x1l : 0 ≤ x1.toInt) (h_x1u : x1.toInt ≤ 194400) (h_x3l : 0 ≤ x3.toInt) (h_x3u : x3.toInt ≤ 5) (hM4 : (5 - x3.toInt).toNat ≤ M4) : Ok (r_chanceOf_4 k4 s x1 x2 x3) (Q_r_chanceOf s0) := by
  unfold r_chanceOf_4
  have a_1 : 0 ≤ (s.v 18).toInt ∧ (s.v 18).toInt ≤ 1 := hI_s.1 18
  refine ok_grd (vpb_ok (by omega) (by omega)) ?_
  have a_2 : ((s.f 20 (Int32.toNatClampNeg (s.v 18)))).toInt = wv s0 := wv_fr hF_s (by decide) (by decide)
  have a_3 : 0 ≤ ((s.f 20 (Int32.toNatClampNeg (s.v 18)))).toInt ∧ ((s.f 20 (Int32.toNatClampNeg (s.v 18)))).toInt ≤ 5 := hI_s.2 20 _
  refine ok_ite (fun c_4 => ?_) (fun c_4 => ?_)
  · have c_4 := tn_le (a := ((s.f 20 (Int32.toNatClampNeg (s.v 18)))).toInt) (b := (x3).toInt) rfl rfl c_4
    exact ok_some ⟨hI_s, hF_s, (ti_rng _).1, (ti_rng _).2⟩
  · have c_4 := tn_nle (a := ((s.f 20 (Int32.toNatClampNeg (s.v 18)))).toInt) (b := (x3).toInt) rfl rfl c_4
    refine ok_bindI (ok_r_thingAt _ _ _ hI_s (hB.fr hF_s (by decide)) (by omega) (by omega) (by omega) (by omega)) (fun r4 s3 hc_5 => ?_)
    have hI_s3 : InvR s3 := hc_5.1
    have hFc_s3 : FrR [] s s3 := hc_5.2.1
    have hF_s3 : FrR [] s0 s3 := hF_s.trans hFc_s3 (by decide)
    have hl_r4 : 0 ≤ r4.toInt := hc_5.2.2.1
    have hu_r4 : r4.toInt ≤ 5 := hc_5.2.2.2
    refine ok_bindI (ok_r_mayBe _ _ _ hI_s3 (by omega) (by omega) (by omega) (by omega)) (fun r6 s5 hc_6 => ?_)
    have hI_s5 : InvR s5 := hc_6.1
    have hFc_s5 : FrR [] s3 s5 := hc_6.2.1
    have hF_s5 : FrR [] s0 s5 := hF_s3.trans hFc_s5 (by decide)
    have hl_r6 : 0 ≤ r6.toInt := hc_6.2.2.1
    have hu_r6 : r6.toInt ≤ 1 := hc_6.2.2.2
    refine ok_ite (fun c_7 => ?_) (fun c_7 => ?_)
    · have c_7 := tn_eq (a := (r6).toInt) (b := 0) rfl (by decide) c_7
      have l_0 : (0 : Int32).toInt = 0 := by decide
      exact ok_r_chanceOf_47 s0 hB k4 M4 hk4 _ _ _ _ _ hI_s5 hF_s5 (by omega) (by omega) (by omega) (by omega) (by omega)
    · have c_7 := tn_ne (a := (r6).toInt) (b := 0) rfl (by decide) c_7
      refine ok_bindI (ok_r_oddsAt _ _ _ hI_s5 (by omega) (by omega) (by omega) (by omega)) (fun r9 s8 hc_8 => ?_)
      have hI_s8 : InvR s8 := hc_8.1
      have hFc_s8 : FrR [] s5 s8 := hc_8.2.1
      have hF_s8 : FrR [] s0 s8 := hF_s5.trans hFc_s8 (by decide)
      exact ok_r_chanceOf_47 s0 hB k4 M4 hk4 _ _ _ _ _ hI_s8 hF_s8 (by omega) (by omega) (by omega) (by omega) (by omega)
theorem okL_r_chanceOf_4 (s0 : RS) (hB : Big s0)  : ∀ (n : Nat) (s : RS) (x1 : Int32) (x2 : Int32) (x3 : Int32), (5 - x3.toInt).toNat < n → InvR s → FrR [] s0 s → 0 ≤ x1.toInt → x1.toInt ≤ 194400 → 0 ≤ x3.toInt → x3.toInt ≤ 5 → Ok (r_chanceOf_4L  n s x1 x2 x3) (Q_r_chanceOf s0) := by
  intro n
  induction n with
  | zero => intro s x1 x2 x3 hn; omega
  | succ n ih =>
    intro s x1 x2 x3 hn hI_s hF_s h_x1l h_x1u h_x3l h_x3u 
    exact ok_r_chanceOf_4 s0 hB (r_chanceOf_4L  n) ((5 - x3.toInt).toNat) (fun zs zx1 zx2 zx3 g0 g1 g2 g3 g4 g5  hm => ih zs zx1 zx2 zx3 (by omega) g0 g1 g2 g3 g4 g5 ) s x1 x2 x3 hI_s hF_s h_x1l h_x1u h_x3l h_x3u (Nat.le_refl _)
set_option maxHeartbeats 1000000 in
theorem ok_r_chanceOfB (s0 : RS) (hB : Big s0)  (s : RS) (x1 : Int32) (hI_s : InvR s) (hF_s : FrR [] s0 s) (h_x1l : 0 ≤ x1.toInt) (h_x1u : x1.toInt ≤ 194400)  : Ok (r_chanceOf  s x1) (Q_r_chanceOf s0) := by
  unfold r_chanceOf
  have l_1 : (1 : Int32).toInt = 1 := by decide
  have l_0 : (0 : Int32).toInt = 0 := by decide
  exact okL_r_chanceOf_4 s0 hB  fu _ _ _ _ (by unfold fu; omega) hI_s hF_s (by omega) (by omega) (by decide) (by decide) 
theorem ok_r_chanceOf (s : RS) (x1 : Int32) (hI_s : InvR s) (hB : Big s) (h_x1l : 0 ≤ x1.toInt) (h_x1u : x1.toInt ≤ 194400) : Ok (r_chanceOf s x1) (Q_r_chanceOf s) := ok_r_chanceOfB s hB s x1 hI_s FrR.rfl h_x1l h_x1u
