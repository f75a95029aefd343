abbrev Q_kX8_add (s0 : KS) (y : Int32 × KS) : Prop := InvK y.2 ∧ FrK [21, 142, 143] s0 y.2 ∧ -1 ≤ y.1.toInt ∧ y.1.toInt ≤ 19
set_option maxHeartbeats 1000000 in
theorem ok_kX8_addB (s0 : KS)  (s : KS) (x1 : Int32) (x2 : Int32) (hI_s : InvK s) (hF_s : FrK [21, 142, 143] s0 s) (h_x1l : 0 ≤ x1.toInt) (h_x1u : x1.toInt ≤ 4)  : Ok (kX8_add  s x1 x2) (Q_kX8_add s0) := by
  unfold kX8_add
  have a_1 : 0 ≤ (s.v 21).toInt ∧ (s.v 21).toInt ≤ 20 := hI_s.1 21
  refine ok_ite (fun c_2 => ?_) (fun c_2 => ?_)
  · have c_2 := tn_lt (a := ((s.v 21)).toInt) (b := 20) rfl (by decide) c_2
    refine ok_grd (vpb_ok (by omega) (by omega)) ?_
    refine ok_let (fun s3 hs3 => ?_)
    have hI_s3 : InvK s3 := by rw [← hs3]; exact hI_s.sfF (k := 42) rfl rfl
    have hF_s3 : FrK [21, 142, 143] s0 s3 := by rw [← hs3]; exact hF_s.sf (k := 42) (by decide)
    have a_3 : (s3.v 21).toInt = (s.v 21).toInt := congrArg Int32.toInt (show s3.v 21 = s.v 21 by rw [← hs3]; rfl)
    refine ok_grd (vpb_ok (by omega) (by omega)) ?_
    refine ok_let (fun s6 hs6 => ?_)
    have hI_s6 : InvK s6 := by rw [← hs6]; exact hI_s3.sfF (k := 43) rfl rfl
    have hF_s6 : FrK [21, 142, 143] s0 s6 := by rw [← hs6]; exact hF_s3.sf (k := 43) (by decide)
    refine ok_let (fun s8 hs8 => ?_)
    have a_4 : (s6.v 21).toInt = (s3.v 21).toInt := congrArg Int32.toInt (show s6.v 21 = s3.v 21 by rw [← hs6]; rfl)
    have a_5 : (((s6.v 21) + 1)).toInt = ((s6.v 21)).toInt + 1 := tn_add rfl (by decide) (by omega) (by omega)
    have hI_s8 : InvK s8 := by rw [← hs8]; exact hI_s6.sv (k := 21) (show (0 : Int) ≤ (((s6.v 21) + 1)).toInt by omega) (show (((s6.v 21) + 1)).toInt ≤ (20 : Int) by omega)
    have hF_s8 : FrK [21, 142, 143] s0 s8 := by rw [← hs8]; exact hF_s6.sv (k := 21) (by decide)
    have a_6 : (s8.v 21).toInt = (((s6.v 21) + 1)).toInt := (congrArg Int32.toInt (show s8.v 21 = ((s6.v 21) + 1) by rw [← hs8]; rfl)).trans rfl
    have a_7 : (((s8.v 21) - 1)).toInt = ((s8.v 21)).toInt - 1 := tn_sub rfl (by decide) (by omega) (by omega)
    exact ok_some ⟨hI_s8, hF_s8, by show -1 ≤ (((s8.v 21) - 1)).toInt; omega, by show (((s8.v 21) - 1)).toInt ≤ 19; omega⟩
  · have c_2 := tn_nlt (a := ((s.v 21)).toInt) (b := 20) rfl (by decide) c_2
    exact ok_some ⟨hI_s, hF_s, by show -1 ≤ ((-1) : Int32).toInt; decide, by show ((-1) : Int32).toInt ≤ 19; decide⟩
theorem ok_kX8_add (s : KS) (x1 : Int32) (x2 : Int32) (hI_s : InvK s) (h_x1l : 0 ≤ x1.toInt) (h_x1u : x1.toInt ≤ 4) : Ok (kX8_add s x1 x2) (Q_kX8_add s) := ok_kX8_addB s s x1 x2 hI_s FrK.rfl h_x1l h_x1u
abbrev Q_kX8_areSuch (s0 : KS) (x1 : Int32) (x2 : Int32) (y : Int32 × KS) : Prop := InvK y.2 ∧ FrK [] s0 y.2 ∧ 0 ≤ y.1.toInt ∧ y.1.toInt ≤ 1 ∧ (¬ y.1.toInt = 0 → 0 ≤ (x1).toInt ∧ (x1).toInt ≤ 20 ∧ 0 ≤ (x2).toInt ∧ (x2).toInt ≤ 3)
set_option maxHeartbeats 1000000 in
theorem ok_kX8_areSuchB (s0 : KS)  (s : KS) (x1 : Int32) (x2 : Int32) (hI_s : InvK s) (hF_s : FrK [] s0 s)  : Ok (kX8_areSuch  s x1 x2) (Q_kX8_areSuch s0 x1 x2) := by
  unfold kX8_areSuch
  refine ok_ite (fun c_1 => ?_) (fun c_1 => ?_)
  · have c_1 := tn_lt (a := (x1).toInt) (b := 0) rfl (by decide) c_1
    exact ok_some ⟨hI_s, hF_s, by show 0 ≤ (0 : Int32).toInt; decide, by show (0 : Int32).toInt ≤ 1; decide, by show (¬ (0 : Int32).toInt = 0 → 0 ≤ (x1).toInt ∧ (x1).toInt ≤ 20 ∧ 0 ≤ (x2).toInt ∧ (x2).toInt ≤ 3); have l := (by decide : (0 : Int32).toInt = 0); omega⟩
  · have c_1 := tn_nlt (a := (x1).toInt) (b := 0) rfl (by decide) c_1
    have a_2 : 0 ≤ (s.v 21).toInt ∧ (s.v 21).toInt ≤ 20 := hI_s.1 21
    refine ok_ite (fun c_3 => ?_) (fun c_3 => ?_)
    · have c_3 := tn_lt (a := ((s.v 21)).toInt) (b := (x1).toInt) rfl rfl c_3
      exact ok_some ⟨hI_s, hF_s, by show 0 ≤ (0 : Int32).toInt; decide, by show (0 : Int32).toInt ≤ 1; decide, by show (¬ (0 : Int32).toInt = 0 → 0 ≤ (x1).toInt ∧ (x1).toInt ≤ 20 ∧ 0 ≤ (x2).toInt ∧ (x2).toInt ≤ 3); have l := (by decide : (0 : Int32).toInt = 0); omega⟩
    · have c_3 := tn_nlt (a := ((s.v 21)).toInt) (b := (x1).toInt) rfl rfl c_3
      refine ok_ite (fun c_4 => ?_) (fun c_4 => ?_)
      · have c_4 := tn_lt (a := (x2).toInt) (b := 0) rfl (by decide) c_4
        exact ok_some ⟨hI_s, hF_s, by show 0 ≤ (0 : Int32).toInt; decide, by show (0 : Int32).toInt ≤ 1; decide, by show (¬ (0 : Int32).toInt = 0 → 0 ≤ (x1).toInt ∧ (x1).toInt ≤ 20 ∧ 0 ≤ (x2).toInt ∧ (x2).toInt ≤ 3); have l := (by decide : (0 : Int32).toInt = 0); omega⟩
      · have c_4 := tn_nlt (a := (x2).toInt) (b := 0) rfl (by decide) c_4
        refine ok_ite (fun c_5 => ?_) (fun c_5 => ?_)
        · have c_5 := tn_lt (a := 3) (b := (x2).toInt) (by decide) rfl c_5
          exact ok_some ⟨hI_s, hF_s, by show 0 ≤ (0 : Int32).toInt; decide, by show (0 : Int32).toInt ≤ 1; decide, by show (¬ (0 : Int32).toInt = 0 → 0 ≤ (x1).toInt ∧ (x1).toInt ≤ 20 ∧ 0 ≤ (x2).toInt ∧ (x2).toInt ≤ 3); have l := (by decide : (0 : Int32).toInt = 0); omega⟩
        · have c_5 := tn_nlt (a := 3) (b := (x2).toInt) (by decide) rfl c_5
          exact ok_some ⟨hI_s, hF_s, by show 0 ≤ (1 : Int32).toInt; decide, by show (1 : Int32).toInt ≤ 1; decide, by show (¬ (1 : Int32).toInt = 0 → 0 ≤ (x1).toInt ∧ (x1).toInt ≤ 20 ∧ 0 ≤ (x2).toInt ∧ (x2).toInt ≤ 3); have l := (by decide : (1 : Int32).toInt = 1); omega⟩
theorem ok_kX8_areSuch (s : KS) (x1 : Int32) (x2 : Int32) (hI_s : InvK s) : Ok (kX8_areSuch s x1 x2) (Q_kX8_areSuch s x1 x2) := ok_kX8_areSuchB s s x1 x2 hI_s FrK.rfl
abbrev Q_kX8_withWave (s0 : KS) (y : Int32 × KS) : Prop := InvK y.2 ∧ FrK [] s0 y.2 ∧ -2147483648 ≤ y.1.toInt ∧ y.1.toInt ≤ 2147483647
set_option maxHeartbeats 1000000 in
theorem ok_kX8_withWave_78 (s0 : KS) (k6 : KS → Int32 → Int32 → Int32 → Int32 → Int32 → Option (Int32 × KS)) (M6 : Nat) (hk6 : ∀ (s : KS) (x1 : Int32) (x2 : Int32) (x3 : Int32) (x4 : Int32) (x5 : Int32), InvK s → FrK [] s0 s → 0 ≤ x1.toInt → x1.toInt ≤ 4 → 0 ≤ x2.toInt → x2.toInt ≤ 3 → 0 ≤ x3.toInt → x3.toInt ≤ 1 → 0 ≤ x5.toInt → x5.toInt ≤ 6 → (6 - x5.toInt).toNat < M6 → Ok (k6 s x1 x2 x3 x4 x5) (Q_kX8_withWave s0)) (s : KS) (x1 : Int32) (x2 : Int32) (x3 : Int32) (x4 : Int32) (x5 : Int32) (hI_s : InvK s) (hF_s : FrK [] s0 s) (h_x1l : 0 ≤ x1.toInt) (h_x1u : x1.toInt ≤ 4) (h_x2l : 0 ≤ x2.toInt) (h_x2u : x2.toInt ≤ 3) (h_x3l : 0 ≤ x3.toInt) (h_x3u : x3.toInt ≤ 1) (h_x5l : 0 ≤ x5.toInt) (h_x5u : x5.toInt ≤ 5) (hM6 : (6 - x5.toInt).toNat ≤ M6) : Ok (kX8_withWave_78 k6 s x1 x2 x3 x4 x5) (Q_kX8_withWave s0) := by
  unfold kX8_withWave_78
  have a_1 : ((x5 + 1)).toInt = (x5).toInt + 1 := tn_add rfl (by decide) (by omega) (by omega)
  exact hk6 _ _ _ _ _ _ hI_s hF_s (by omega) (by omega) (by omega) (by omega) (by omega) (by omega) (by omega) (by omega) (by omega)
set_option maxHeartbeats 1000000 in
theorem ok_kX8_withWave_74 (s0 : KS) (k6 : KS → Int32 → Int32 → Int32 → Int32 → Int32 → Option (Int32 × KS)) (M6 : Nat) (hk6 : ∀ (s : KS) (x1 : Int32) (x2 : Int32) (x3 : Int32) (x4 : Int32) (x5 : Int32), InvK s → FrK [] s0 s → 0 ≤ x1.toInt → x1.toInt ≤ 4 → 0 ≤ x2.toInt → x2.toInt ≤ 3 → 0 ≤ x3.toInt → x3.toInt ≤ 1 → 0 ≤ x5.toInt → x5.toInt ≤ 6 → (6 - x5.toInt).toNat < M6 → Ok (k6 s x1 x2 x3 x4 x5) (Q_kX8_withWave s0)) (s : KS) (x1 : Int32) (x2 : Int32) (x3 : Int32) (x5 : Int32) (t0 : Int32) (t1 : Int32) (t2 : Int32) (hI_s : InvK s) (hF_s : FrK [] s0 s) (h_x1l : 0 ≤ x1.toInt) (h_x1u : x1.toInt ≤ 4) (h_x2l : 0 ≤ x2.toInt) (h_x2u : x2.toInt ≤ 3) (h_x3l : 0 ≤ x3.toInt) (h_x3u : x3.toInt ≤ 1) (h_x5l : 0 ≤ x5.toInt) (h_x5u : x5.toInt ≤ 5) (h_t0l : 1 ≤ t0.toInt) (hM6 : (6 - x5.toInt).toNat ≤ M6) : Ok (kX8_withWave_74 k6 s x1 x2 x3 x5 t0 t1 t2) (Q_kX8_withWave s0) := by
  unfold kX8_withWave_74
  exact ok_kX8_withWave_78 s0 k6 M6 hk6 _ _ _ _ _ _ hI_s hF_s (by omega) (by omega) (by omega) (by omega) (by omega) (by omega) (by omega) (by omega) (by omega)
set_option maxHeartbeats 1000000 in
theorem ok_kX8_withWave_6 (s0 : KS) (k6 : KS → Int32 → Int32 → Int32 → Int32 → Int32 → Option (Int32 × KS)) (M6 : Nat) (hk6 : ∀ (s : KS) (x1 : Int32) (x2 : Int32) (x3 : Int32) (x4 : Int32) (x5 : Int32), InvK s → FrK [] s0 s → 0 ≤ x1.toInt → x1.toInt ≤ 4 → 0 ≤ x2.toInt → x2.toInt ≤ 3 → 0 ≤ x3.toInt → x3.toInt ≤ 1 → 0 ≤ x5.toInt → x5.toInt ≤ 6 → (6 - x5.toInt).toNat < M6 → Ok (k6 s x1 x2 x3 x4 x5) (Q_kX8_withWave s0)) (s : KS) (x1 : Int32) (x2 : Int32) (x3 : Int32) (x4 : Int32) (x5 : Int32) (hI_s : InvK s) (hF_s : FrK [] s0 s) (h_x1l : 0 ≤ x1.toInt) (h_x1u : x1.toInt ≤ 4) (h_x2l : 0 ≤ x2.toInt) (h_x2u : x2.toInt ≤ 3) (h_x3l : 0 ≤ x3.toInt) (h_x3u : x3.toInt ≤ 1) (h_x5l : 0 ≤ x5.toInt) (h_x5u : x5.toInt ≤ 6) (hM6 : (6 - x5.toInt).toNat ≤ M6) : Ok (kX8_withWave_6 k6 s x1 x2 x3 x4 x5) (Q_kX8_withWave s0) := by
  unfold kX8_withWave_6
  refine ok_ite (fun c_1 => ?_) (fun c_1 => ?_)
  · have c_1 := tn_le (a := 6) (b := (x5).toInt) (by decide) rfl c_1
    exact ok_some ⟨hI_s, hF_s, (ti_rng _).1, (ti_rng _).2⟩
  · have c_1 := tn_nle (a := 6) (b := (x5).toInt) (by decide) rfl c_1
    have a_2 : ((x1 * 6)).toInt = (x1).toInt * 6 := ti_mulc (c := 6) (by decide) (by omega) (by omega)
    have a_3 : (((x1 * 6) + x5)).toInt = ((x1 * 6)).toInt + (x5).toInt := tn_add rfl rfl (by omega) (by omega)
    refine ok_grd (vpb_ok (by omega) (by omega)) ?_
    refine ok_ite (fun c_4 => ?_) (fun c_4 => ?_)
    · have c_4 := tn_le (a := (((s.f 44) (Int32.toNatClampNeg ((x1 * 6) + x5)))).toInt) (b := 0) rfl (by decide) c_4
      exact ok_kX8_withWave_78 s0 k6 M6 hk6 _ _ _ _ _ _ hI_s hF_s (by omega) (by omega) (by omega) (by omega) (by omega) (by omega) (by omega) (by omega) (by omega)
    · have c_4 := tn_nle (a := (((s.f 44) (Int32.toNatClampNeg ((x1 * 6) + x5)))).toInt) (b := 0) rfl (by decide) c_4
      refine ok_grd (vpb_ok (by omega) (by omega)) ?_
      have a_5 : 0 ≤ (((s.f 45) (Int32.toNatClampNeg ((x1 * 6) + x5)))).toInt ∧ (((s.f 45) (Int32.toNatClampNeg ((x1 * 6) + x5)))).toInt ≤ 20 := hI_s.2 45 _
      refine ok_ite (fun c_6 => ?_) (fun c_6 => ?_)
      · have c_6 := tn_lt (a := (x2).toInt) (b := (((s.f 45) (Int32.toNatClampNeg ((x1 * 6) + x5)))).toInt) rfl rfl c_6
        exact ok_kX8_withWave_78 s0 k6 M6 hk6 _ _ _ _ _ _ hI_s hF_s (by omega) (by omega) (by omega) (by omega) (by omega) (by omega) (by omega) (by omega) (by omega)
      · have c_6 := tn_nlt (a := (x2).toInt) (b := (((s.f 45) (Int32.toNatClampNeg ((x1 * 6) + x5)))).toInt) rfl rfl c_6
        refine ok_grd (vpb_ok (by omega) (by omega)) ?_
        have a_7 : ((x2 - ((s.f 45) (Int32.toNatClampNeg ((x1 * 6) + x5))))).toInt = (x2).toInt - (((s.f 45) (Int32.toNatClampNeg ((x1 * 6) + x5)))).toInt := tn_sub rfl rfl (by omega) (by omega)
        refine ok_grd (vpb_ok (by omega) (by omega)) ?_
        refine ok_ite (fun c_8 => ?_) (fun c_8 => ?_)
        · have c_8 := tn_eq (a := (x3).toInt) (b := 0) rfl (by decide) c_8
          have l_1 : (1 : Int32).toInt = 1 := by decide
          exact ok_kX8_withWave_74 s0 k6 M6 hk6 _ _ _ _ _ _ _ _ hI_s hF_s (by omega) (by omega) (by omega) (by omega) (by omega) (by omega) (by omega) (by omega) (by decide) (by omega)
        · have c_8 := tn_ne (a := (x3).toInt) (b := 0) rfl (by decide) c_8
          refine ok_grd (vpb_ok (by omega) (by omega)) ?_
          exact ok_kX8_withWave_74 s0 k6 M6 hk6 _ _ _ _ _ _ _ _ hI_s hF_s (by omega) (by omega) (by omega) (by omega) (by omega) (by omega) (by omega) (by omega) (by omega) (by omega)
theorem okL_kX8_withWave_6 (s0 : KS)  : ∀ (n : Nat) (s : KS) (x1 : Int32) (x2 : Int32) (x3 : Int32) (x4 : Int32) (x5 : Int32), (6 - x5.toInt).toNat < n → InvK s → FrK [] s0 s → 0 ≤ x1.toInt → x1.toInt ≤ 4 → 0 ≤ x2.toInt → x2.toInt ≤ 3 → 0 ≤ x3.toInt → x3.toInt ≤ 1 → 0 ≤ x5.toInt → x5.toInt ≤ 6 → Ok (kX8_withWave_6L  n s x1 x2 x3 x4 x5) (Q_kX8_withWave s0) := by
  intro n
  induction n with
  | zero => intro s x1 x2 x3 x4 x5 hn; omega
  | succ n ih =>
    intro s x1 x2 x3 x4 x5 hn hI_s hF_s h_x1l h_x1u h_x2l h_x2u h_x3l h_x3u h_x5l h_x5u 
    exact ok_kX8_withWave_6 s0 (kX8_withWave_6L  n) ((6 - x5.toInt).toNat) (fun zs zx1 zx2 zx3 zx4 zx5 g0 g1 g2 g3 g4 g5 g6 g7 g8 g9  hm => ih zs zx1 zx2 zx3 zx4 zx5 (by omega) g0 g1 g2 g3 g4 g5 g6 g7 g8 g9 ) s x1 x2 x3 x4 x5 hI_s hF_s h_x1l h_x1u h_x2l h_x2u h_x3l h_x3u h_x5l h_x5u (Nat.le_refl _)
set_option maxHeartbeats 1000000 in
theorem ok_kX8_withWaveB (s0 : KS)  (s : KS) (x1 : Int32) (x2 : Int32) (x3 : Int32) (hI_s : InvK s) (hF_s : FrK [] s0 s) (h_x1l : 0 ≤ x1.toInt) (h_x1u : x1.toInt ≤ 4) (h_x2l : 0 ≤ x2.toInt) (h_x2u : x2.toInt ≤ 3) (h_x3l : 0 ≤ x3.toInt) (h_x3u : x3.toInt ≤ 1)  : Ok (kX8_withWave  s x1 x2 x3) (Q_kX8_withWave s0) := by
  unfold kX8_withWave
  have l_0 : (0 : Int32).toInt = 0 := by decide
  exact okL_kX8_withWave_6 s0  fu _ _ _ _ _ _ (by unfold fu; omega) hI_s hF_s (by omega) (by omega) (by omega) (by omega) (by omega) (by omega) (by decide) (by decide) 
theorem ok_kX8_withWave (s : KS) (x1 : Int32) (x2 : Int32) (x3 : Int32) (hI_s : InvK s) (h_x1l : 0 ≤ x1.toInt) (h_x1u : x1.toInt ≤ 4) (h_x2l : 0 ≤ x2.toInt) (h_x2u : x2.toInt ≤ 3) (h_x3l : 0 ≤ x3.toInt) (h_x3u : x3.toInt ≤ 1) : Ok (kX8_withWave s x1 x2 x3) (Q_kX8_withWave s) := ok_kX8_withWaveB s s x1 x2 x3 hI_s FrK.rfl h_x1l h_x1u h_x2l h_x2u h_x3l h_x3u
abbrev Q_kX8_upTo (s0 : KS) (y : Int32 × KS) : Prop := InvK y.2 ∧ FrK [] s0 y.2 ∧ -2147483648 ≤ y.1.toInt ∧ y.1.toInt ≤ 2147483647
set_option maxHeartbeats 1000000 in
theorem ok_kX8_upTo_4 (s0 : KS) (k4 : KS → Int32 → Int32 → Int32 → Option (Int32 × KS)) (M4 : Nat) (hk4 : ∀ (s : KS) (x1 : Int32) (x2 : Int32) (x3 : Int32), InvK s → FrK [] s0 s → -20 ≤ x1.toInt → x1.toInt ≤ 3 → 0 ≤ x3.toInt → x3.toInt ≤ 4 → (4 - x3.toInt).toNat < M4 → Ok (k4 s x1 x2 x3) (Q_kX8_upTo s0)) (s : KS) (x1 : Int32) (x2 : Int32) (x3 : Int32) (hI_s : InvK s) (hF_s : FrK [] s0 s) (h_x1l : -20 ≤ x1.toInt) (h_x1u : x1.toInt ≤ 3) (h_x3l : 0 ≤ x3.toInt) (h_x3u : x3.toInt ≤ 4) (hM4 : (4 - x3.toInt).toNat ≤ M4) : Ok (kX8_upTo_4 k4 s x1 x2 x3) (Q_kX8_upTo s0) := by
  unfold kX8_upTo_4
  refine ok_ite (fun c_1 => ?_) (fun c_1 => ?_)
  · have c_1 := tn_lt (a := (x1).toInt) (b := (x3).toInt) rfl rfl c_1
    exact ok_some ⟨hI_s, hF_s, (ti_rng _).1, (ti_rng _).2⟩
  · have c_1 := tn_nlt (a := (x1).toInt) (b := (x3).toInt) rfl rfl c_1
    refine ok_ite (fun c_2 => ?_) (fun c_2 => ?_)
    · have c_2 := tn_lt (a := 3) (b := (x3).toInt) (by decide) rfl c_2
      omega
    · have c_2 := tn_nlt (a := 3) (b := (x3).toInt) (by decide) rfl c_2
      refine ok_grd (vpb_ok (by omega) (by omega)) ?_
      have a_3 : ((x3 + 1)).toInt = (x3).toInt + 1 := tn_add rfl (by decide) (by omega) (by omega)
      exact hk4 _ _ _ _ hI_s hF_s (by omega) (by omega) (by omega) (by omega) (by omega)
theorem okL_kX8_upTo_4 (s0 : KS)  : ∀ (n : Nat) (s : KS) (x1 : Int32) (x2 : Int32) (x3 : Int32), (4 - x3.toInt).toNat < n → InvK s → FrK [] s0 s → -20 ≤ x1.toInt → x1.toInt ≤ 3 → 0 ≤ x3.toInt → x3.toInt ≤ 4 → Ok (kX8_upTo_4L  n s x1 x2 x3) (Q_kX8_upTo s0) := by
  intro n
  induction n with
  | zero => intro s x1 x2 x3 hn; omega
  | succ n ih =>
    intro s x1 x2 x3 hn hI_s hF_s h_x1l h_x1u h_x3l h_x3u 
    exact ok_kX8_upTo_4 s0 (kX8_upTo_4L  n) ((4 - x3.toInt).toNat) (fun zs zx1 zx2 zx3 g0 g1 g2 g3 g4 g5  hm => ih zs zx1 zx2 zx3 (by omega) g0 g1 g2 g3 g4 g5 ) s x1 x2 x3 hI_s hF_s h_x1l h_x1u h_x3l h_x3u (Nat.le_refl _)
set_option maxHeartbeats 1000000 in
theorem ok_kX8_upToB (s0 : KS)  (s : KS) (x1 : Int32) (hI_s : InvK s) (hF_s : FrK [] s0 s) (h_x1l : -20 ≤ x1.toInt) (h_x1u : x1.toInt ≤ 3)  : Ok (kX8_upTo  s x1) (Q_kX8_upTo s0) := by
  unfold kX8_upTo
  have l_0 : (0 : Int32).toInt = 0 := by decide
  exact okL_kX8_upTo_4 s0  fu _ _ _ _ (by unfold fu; omega) hI_s hF_s (by omega) (by omega) (by decide) (by decide) 
theorem ok_kX8_upTo (s : KS) (x1 : Int32) (hI_s : InvK s) (h_x1l : -20 ≤ x1.toInt) (h_x1u : x1.toInt ≤ 3) : Ok (kX8_upTo s x1) (Q_kX8_upTo s) := ok_kX8_upToB s s x1 hI_s FrK.rfl h_x1l h_x1u
abbrev Q_kX8_fittingWith (s0 : KS) (y : Int32 × KS) : Prop := InvK y.2 ∧ FrK [] s0 y.2 ∧ -2147483648 ≤ y.1.toInt ∧ y.1.toInt ≤ 2147483647
set_option maxHeartbeats 1000000 in
theorem ok_kX8_fittingWithB (s0 : KS)  (s : KS) (x1 : Int32) (x2 : Int32) (x3 : Int32) (hI_s : InvK s) (hF_s : FrK [] s0 s) (h_x1l : 0 ≤ x1.toInt) (h_x1u : x1.toInt ≤ 4) (h_x2l : 0 ≤ x2.toInt) (h_x2u : x2.toInt ≤ 5) (h_x3l : 0 ≤ x3.toInt) (h_x3u : x3.toInt ≤ 3)  : Ok (kX8_fittingWith  s x1 x2 x3) (Q_kX8_fittingWith s0) := by
  unfold kX8_fittingWith
  have a_1 : ((x1 * 6)).toInt = (x1).toInt * 6 := ti_mulc (c := 6) (by decide) (by omega) (by omega)
  have a_2 : (((x1 * 6) + x2)).toInt = ((x1 * 6)).toInt + (x2).toInt := tn_add rfl rfl (by omega) (by omega)
  refine ok_grd (vpb_ok (by omega) (by omega)) ?_
  refine ok_ite (fun c_3 => ?_) (fun c_3 => ?_)
  · have c_3 := tn_le (a := (((s.f 44) (Int32.toNatClampNeg ((x1 * 6) + x2)))).toInt) (b := 0) rfl (by decide) c_3
    exact ok_some ⟨hI_s, hF_s, (ti_rng _).1, (ti_rng _).2⟩
  · have c_3 := tn_nle (a := (((s.f 44) (Int32.toNatClampNeg ((x1 * 6) + x2)))).toInt) (b := 0) rfl (by decide) c_3
    refine ok_grd (vpb_ok (by omega) (by omega)) ?_
    have a_4 : 0 ≤ (((s.f 45) (Int32.toNatClampNeg ((x1 * 6) + x2)))).toInt ∧ (((s.f 45) (Int32.toNatClampNeg ((x1 * 6) + x2)))).toInt ≤ 20 := hI_s.2 45 _
    have a_5 : ((x3 - ((s.f 45) (Int32.toNatClampNeg ((x1 * 6) + x2))))).toInt = (x3).toInt - (((s.f 45) (Int32.toNatClampNeg ((x1 * 6) + x2)))).toInt := tn_sub rfl rfl (by omega) (by omega)
    refine ok_bindI (ok_kX8_upTo _ _ hI_s (by omega) (by omega)) (fun r5 s4 hc_6 => ?_)
    have hI_s4 : InvK s4 := hc_6.1
    have hFc_s4 : FrK [] s s4 := hc_6.2.1
    have hF_s4 : FrK [] s0 s4 := hF_s.trans hFc_s4 (by decide)
    exact ok_some ⟨hI_s4, hF_s4, (ti_rng _).1, (ti_rng _).2⟩
theorem ok_kX8_fittingWith (s : KS) (x1 : Int32) (x2 : Int32) (x3 : Int32) (hI_s : InvK s) (h_x1l : 0 ≤ x1.toInt) (h_x1u : x1.toInt ≤ 4) (h_x2l : 0 ≤ x2.toInt) (h_x2u : x2.toInt ≤ 5) (h_x3l : 0 ≤ x3.toInt) (h_x3u : x3.toInt ≤ 3) : Ok (kX8_fittingWith s x1 x2 x3) (Q_kX8_fittingWith s) := ok_kX8_fittingWithB s s x1 x2 x3 hI_s FrK.rfl h_x1l h_x1u h_x2l h_x2u h_x3l h_x3u
abbrev Q_kX9_isBlank (y : Int32) : Prop := 0 ≤ y.toInt ∧ y.toInt ≤ 1
set_option maxHeartbeats 1000000 in
theorem ok_kX9_isBlankB  (x0 : Int32)   : Ok (kX9_isBlank  x0) Q_kX9_isBlank := by
  unfold kX9_isBlank
  refine ok_ite (fun c_1 => ?_) (fun c_1 => ?_)
  · have c_1 := tn_eq (a := (x0).toInt) (b := 9) rfl (by decide) c_1
    exact ok_some ⟨by show 0 ≤ (1 : Int32).toInt; decide, by show (1 : Int32).toInt ≤ 1; decide⟩
  · have c_1 := tn_ne (a := (x0).toInt) (b := 9) rfl (by decide) c_1
    refine ok_ite (fun c_2 => ?_) (fun c_2 => ?_)
    · have c_2 := tn_eq (a := (x0).toInt) (b := 10) rfl (by decide) c_2
      exact ok_some ⟨by show 0 ≤ (1 : Int32).toInt; decide, by show (1 : Int32).toInt ≤ 1; decide⟩
    · have c_2 := tn_ne (a := (x0).toInt) (b := 10) rfl (by decide) c_2
      refine ok_ite (fun c_3 => ?_) (fun c_3 => ?_)
      · have c_3 := tn_eq (a := (x0).toInt) (b := 13) rfl (by decide) c_3
        exact ok_some ⟨by show 0 ≤ (1 : Int32).toInt; decide, by show (1 : Int32).toInt ≤ 1; decide⟩
      · have c_3 := tn_ne (a := (x0).toInt) (b := 13) rfl (by decide) c_3
        refine ok_ite (fun c_4 => ?_) (fun c_4 => ?_)
        · have c_4 := tn_eq (a := (x0).toInt) (b := 32) rfl (by decide) c_4
          exact ok_some ⟨by show 0 ≤ (1 : Int32).toInt; decide, by show (1 : Int32).toInt ≤ 1; decide⟩
        · have c_4 := tn_ne (a := (x0).toInt) (b := 32) rfl (by decide) c_4
          exact ok_some ⟨by show 0 ≤ (0 : Int32).toInt; decide, by show (0 : Int32).toInt ≤ 1; decide⟩
theorem ok_kX9_isBlank (x0 : Int32)  : Ok (kX9_isBlank x0) Q_kX9_isBlank := ok_kX9_isBlankB x0 
abbrev Q_kX9_isLetter (y : Int32) : Prop := 0 ≤ y.toInt ∧ y.toInt ≤ 1
set_option maxHeartbeats 1000000 in
theorem ok_kX9_isLetterB  (x0 : Int32)   : Ok (kX9_isLetter  x0) Q_kX9_isLetter := by
  unfold kX9_isLetter
  refine ok_ite (fun c_1 => ?_) (fun c_1 => ?_)
  · have c_1 := tn_lt (a := (x0).toInt) (b := 97) rfl (by decide) c_1
    exact ok_some ⟨by show 0 ≤ (0 : Int32).toInt; decide, by show (0 : Int32).toInt ≤ 1; decide⟩
  · have c_1 := tn_nlt (a := (x0).toInt) (b := 97) rfl (by decide) c_1
    refine ok_ite (fun c_2 => ?_) (fun c_2 => ?_)
    · have c_2 := tn_lt (a := 122) (b := (x0).toInt) (by decide) rfl c_2
      exact ok_some ⟨by show 0 ≤ (0 : Int32).toInt; decide, by show (0 : Int32).toInt ≤ 1; decide⟩
    · have c_2 := tn_nlt (a := 122) (b := (x0).toInt) (by decide) rfl c_2
      exact ok_some ⟨by show 0 ≤ (1 : Int32).toInt; decide, by show (1 : Int32).toInt ≤ 1; decide⟩
theorem ok_kX9_isLetter (x0 : Int32)  : Ok (kX9_isLetter x0) Q_kX9_isLetter := ok_kX9_isLetterB x0 
abbrev Q_kX9_isDigit (y : Int32) : Prop := 0 ≤ y.toInt ∧ y.toInt ≤ 1
set_option maxHeartbeats 1000000 in
theorem ok_kX9_isDigitB  (x0 : Int32)   : Ok (kX9_isDigit  x0) Q_kX9_isDigit := by
  unfold kX9_isDigit
  refine ok_ite (fun c_1 => ?_) (fun c_1 => ?_)
  · have c_1 := tn_lt (a := (x0).toInt) (b := 48) rfl (by decide) c_1
    exact ok_some ⟨by show 0 ≤ (0 : Int32).toInt; decide, by show (0 : Int32).toInt ≤ 1; decide⟩
  · have c_1 := tn_nlt (a := (x0).toInt) (b := 48) rfl (by decide) c_1
    refine ok_ite (fun c_2 => ?_) (fun c_2 => ?_)
    · have c_2 := tn_lt (a := 57) (b := (x0).toInt) (by decide) rfl c_2
      exact ok_some ⟨by show 0 ≤ (0 : Int32).toInt; decide, by show (0 : Int32).toInt ≤ 1; decide⟩
    · have c_2 := tn_nlt (a := 57) (b := (x0).toInt) (by decide) rfl c_2
      exact ok_some ⟨by show 0 ≤ (1 : Int32).toInt; decide, by show (1 : Int32).toInt ≤ 1; decide⟩
theorem ok_kX9_isDigit (x0 : Int32)  : Ok (kX9_isDigit x0) Q_kX9_isDigit := ok_kX9_isDigitB x0 
abbrev Q_kX9_withLetter (y : Int64) : Prop := True
set_option maxHeartbeats 1000000 in
theorem ok_kX9_withLetterB  (x0 : Int64) (x2 : Int32)   : Ok (kX9_withLetter  x0 x2) Q_kX9_withLetter := by
  unfold kX9_withLetter
  exact ok_some (trivial)
theorem ok_kX9_withLetter (x0 : Int64) (x2 : Int32)  : Ok (kX9_withLetter x0 x2) Q_kX9_withLetter := ok_kX9_withLetterB x0 x2 
abbrev Q_kX9_skipBlanks (s0 : KS) (y : KS) : Prop := InvK y ∧ FrK [20] s0 y
set_option maxHeartbeats 1000000 in
theorem ok_kX9_skipBlanks_0 (s0 : KS) (k0 : KS → Option (KS)) (M0 : Nat) (hk0 : ∀ (s : KS), InvK s → FrK [20] s0 s → (2000 - (s.v 20).toInt).toNat < M0 → Ok (k0 s) (Q_kX9_skipBlanks s0)) (s : KS) (hI_s : InvK s) (hF_s : FrK [20] s0 s) (hM0 : (2000 - (s.v 20).toInt).toNat ≤ M0) : Ok (kX9_skipBlanks_0 k0 s) (Q_kX9_skipBlanks s0) := by
  unfold kX9_skipBlanks_0
  have a_1 : 0 ≤ (s.v 20).toInt ∧ (s.v 20).toInt ≤ 2000 := hI_s.1 20
  have a_2 : 0 ≤ (s.v 0).toInt ∧ (s.v 0).toInt ≤ 2000 := hI_s.1 0
  refine ok_ite (fun c_3 => ?_) (fun c_3 => ?_)
  · have c_3 := tn_le (a := ((s.v 0)).toInt) (b := ((s.v 20)).toInt) rfl rfl c_3
    exact ok_some ⟨hI_s, hF_s⟩
  · have c_3 := tn_nle (a := ((s.v 0)).toInt) (b := ((s.v 20)).toInt) rfl rfl c_3
    refine ok_bindI (ok_kX7_byteAt _ _ hI_s (by omega) (by omega)) (fun r3 s2 hc_4 => ?_)
    have hI_s2 : InvK s2 := hc_4.1
    have hFc_s2 : FrK [] s s2 := hc_4.2.1
    have hF_s2 : FrK [20] s0 s2 := hF_s.trans hFc_s2 (by decide)
    have hx0_r3 : (¬ r3.toInt = -1 → ((s.v 20)).toInt < (s.v 0).toInt) := hc_4.2.2.2.2
    refine ok_bindP (ok_kX9_isBlank _ ) (fun r4 hc_5 => ?_)
    have hl_r4 : 0 ≤ r4.toInt := hc_5.1
    have hu_r4 : r4.toInt ≤ 1 := hc_5.2
    refine ok_ite (fun c_6 => ?_) (fun c_6 => ?_)
    · have c_6 := tn_eq (a := (r4).toInt) (b := 0) rfl (by decide) c_6
      exact ok_some ⟨hI_s2, hF_s2⟩
    · have c_6 := tn_ne (a := (r4).toInt) (b := 0) rfl (by decide) c_6
      refine ok_let (fun s6 hs6 => ?_)
      have a_7 : (s2.v 20).toInt = (s.v 20).toInt := congrArg Int32.toInt (hFc_s2.1 20 (by decide))
      have a_8 : (((s2.v 20) + 1)).toInt = ((s2.v 20)).toInt + 1 := tn_add rfl (by decide) (by omega) (by omega)
      have hI_s6 : InvK s6 := by rw [← hs6]; exact hI_s2.sv (k := 20) (show (0 : Int) ≤ (((s2.v 20) + 1)).toInt by omega) (show (((s2.v 20) + 1)).toInt ≤ (2000 : Int) by omega)
      have hF_s6 : FrK [20] s0 s6 := by rw [← hs6]; exact hF_s2.sv (k := 20) (by decide)
      have a_9 : (s6.v 20).toInt = (((s2.v 20) + 1)).toInt := (congrArg Int32.toInt (show s6.v 20 = ((s2.v 20) + 1) by rw [← hs6]; rfl)).trans rfl
      exact hk0 _ hI_s6 hF_s6 (by omega)
theorem okL_kX9_skipBlanks_0 (s0 : KS)  : ∀ (n : Nat) (s : KS), (2000 - (s.v 20).toInt).toNat < n → InvK s → FrK [20] s0 s → Ok (kX9_skipBlanks_0L  n s) (Q_kX9_skipBlanks s0) := by
  intro n
  induction n with
  | zero => intro s hn; omega
  | succ n ih =>
    intro s hn hI_s hF_s 
    exact ok_kX9_skipBlanks_0 s0 (kX9_skipBlanks_0L  n) ((2000 - (s.v 20).toInt).toNat) (fun zs g0 g1  hm => ih zs (by omega) g0 g1 ) s hI_s hF_s (Nat.le_refl _)
set_option maxHeartbeats 1000000 in
theorem ok_kX9_skipBlanksB (s0 : KS)  (s : KS) (hI_s : InvK s) (hF_s : FrK [20] s0 s)  : Ok (kX9_skipBlanks  s) (Q_kX9_skipBlanks s0) := by
  unfold kX9_skipBlanks
  have a_1 : 0 ≤ (s.v 20).toInt ∧ (s.v 20).toInt ≤ 2000 := hI_s.1 20
  exact okL_kX9_skipBlanks_0 s0  fu _ (by unfold fu; omega) hI_s hF_s 
theorem ok_kX9_skipBlanks (s : KS) (hI_s : InvK s) : Ok (kX9_skipBlanks s) (Q_kX9_skipBlanks s) := ok_kX9_skipBlanksB s s hI_s FrK.rfl
abbrev Q_kX9_splitLetters (s0 : KS) (y : Int32 × KS) : Prop := InvK y.2 ∧ FrK [20] s0 y.2 ∧ 256 ≤ y.1.toInt ∧ y.1.toInt ≤ 303
set_option maxHeartbeats 1000000 in
theorem ok_kX9_splitLetters_88 (s0 : KS) (k88 : KS → Int32 → Option (Int32 × KS)) (M88 : Nat) (hk88 : ∀ (s : KS) (x2 : Int32), InvK s → FrK [20] s0 s → 0 ≤ x2.toInt → x2.toInt ≤ 19 → (19 - x2.toInt).toNat < M88 → Ok (k88 s x2) (Q_kX9_splitLetters s0)) (s : KS) (x2 : Int32) (hI_s : InvK s) (hF_s : FrK [20] s0 s) (h_x2l : 0 ≤ x2.toInt) (h_x2u : x2.toInt ≤ 19) (hM88 : (19 - x2.toInt).toNat ≤ M88) : Ok (kX9_splitLetters_88 k88 s x2) (Q_kX9_splitLetters s0) := by
  unfold kX9_splitLetters_88
  refine ok_ite (fun c_1 => ?_) (fun c_1 => ?_)
  · have c_1 := tn_le (a := 19) (b := (x2).toInt) (by decide) rfl c_1
    exact ok_some ⟨hI_s, hF_s, by show 256 ≤ (300 : Int32).toInt; decide, by show (300 : Int32).toInt ≤ 303; decide⟩
  · have c_1 := tn_nle (a := 19) (b := (x2).toInt) (by decide) rfl c_1
    refine ok_grd (vpb_ok (by omega) (by omega)) ?_
    refine ok_ite (fun c_2 => ?_) (fun c_2 => ?_)
    · have c_2 := tn_eq (a := ((lg_cmp ((s.g 31) (Int32.toNatClampNeg x2)) (s.u 0))).toInt) (b := 0) rfl (by decide) c_2
      have a_3 : ((256 + x2)).toInt = 256 + (x2).toInt := tn_add (by decide) rfl (by omega) (by omega)
      exact ok_some ⟨hI_s, hF_s, by show 256 ≤ ((256 + x2)).toInt; omega, by show ((256 + x2)).toInt ≤ 303; omega⟩
    · have c_2 := tn_ne (a := ((lg_cmp ((s.g 31) (Int32.toNatClampNeg x2)) (s.u 0))).toInt) (b := 0) rfl (by decide) c_2
      have a_4 : ((x2 + 1)).toInt = (x2).toInt + 1 := tn_add rfl (by decide) (by omega) (by omega)
      exact hk88 _ _ hI_s hF_s (by omega) (by omega) (by omega)
theorem okL_kX9_splitLetters_88 (s0 : KS)  : ∀ (n : Nat) (s : KS) (x2 : Int32), (19 - x2.toInt).toNat < n → InvK s → FrK [20] s0 s → 0 ≤ x2.toInt → x2.toInt ≤ 19 → Ok (kX9_splitLetters_88L  n s x2) (Q_kX9_splitLetters s0) := by
  intro n
  induction n with
  | zero => intro s x2 hn; omega
  | succ n ih =>
    intro s x2 hn hI_s hF_s h_x2l h_x2u 
    exact ok_kX9_splitLetters_88 s0 (kX9_splitLetters_88L  n) ((19 - x2.toInt).toNat) (fun zs zx2 g0 g1 g2 g3  hm => ih zs zx2 (by omega) g0 g1 g2 g3 ) s x2 hI_s hF_s h_x2l h_x2u (Nat.le_refl _)
set_option maxHeartbeats 1000000 in
theorem ok_kX9_splitLetters_71 (s0 : KS)  (s : KS) (x1 : Int32) (hI_s : InvK s) (hF_s : FrK [20] s0 s) (h_x1l : 0 ≤ x1.toInt) (h_x1u : x1.toInt ≤ 2000)  : Ok (kX9_splitLetters_71  s x1) (Q_kX9_splitLetters s0) := by
  unfold kX9_splitLetters_71
  have a_1 : 0 ≤ (s.v 20).toInt ∧ (s.v 20).toInt ≤ 2000 := hI_s.1 20
  have a_2 : (((s.v 20) - x1)).toInt = ((s.v 20)).toInt - (x1).toInt := tn_sub rfl rfl (by omega) (by omega)
  refine ok_ite (fun c_3 => ?_) (fun c_3 => ?_)
  · have c_3 := tn_le (a := (((s.v 20) - x1)).toInt) (b := 8) rfl (by decide) c_3
    have l_0 : (0 : Int32).toInt = 0 := by decide
    exact okL_kX9_splitLetters_88 s0  fu _ _ (by unfold fu; omega) hI_s hF_s (by decide) (by decide) 
  · have c_3 := tn_nle (a := (((s.v 20) - x1)).toInt) (b := 8) rfl (by decide) c_3
    exact ok_some ⟨hI_s, hF_s, by show 256 ≤ (303 : Int32).toInt; decide, by show (303 : Int32).toInt ≤ 303; decide⟩
set_option maxHeartbeats 1000000 in
theorem ok_kX9_splitLetters_5 (s0 : KS) (k5 : KS → Int32 → Option (Int32 × KS)) (M5 : Nat) (hk5 : ∀ (s : KS) (x1 : Int32), InvK s → FrK [20] s0 s → 0 ≤ x1.toInt → x1.toInt ≤ 2000 → (2000 - (s.v 20).toInt).toNat < M5 → Ok (k5 s x1) (Q_kX9_splitLetters s0)) (s : KS) (x1 : Int32) (hI_s : InvK s) (hF_s : FrK [20] s0 s) (h_x1l : 0 ≤ x1.toInt) (h_x1u : x1.toInt ≤ 2000) (hM5 : (2000 - (s.v 20).toInt).toNat ≤ M5) : Ok (kX9_splitLetters_5 k5 s x1) (Q_kX9_splitLetters s0) := by
  unfold kX9_splitLetters_5
  have a_1 : 0 ≤ (s.v 20).toInt ∧ (s.v 20).toInt ≤ 2000 := hI_s.1 20
  have a_2 : 0 ≤ (s.v 0).toInt ∧ (s.v 0).toInt ≤ 2000 := hI_s.1 0
  refine ok_ite (fun c_3 => ?_) (fun c_3 => ?_)
  · have c_3 := tn_le (a := ((s.v 0)).toInt) (b := ((s.v 20)).toInt) rfl rfl c_3
    exact ok_kX9_splitLetters_71 s0  _ _ hI_s hF_s (by omega) (by omega) 
  · have c_3 := tn_nle (a := ((s.v 0)).toInt) (b := ((s.v 20)).toInt) rfl rfl c_3
    refine ok_bindI (ok_kX7_byteAt _ _ hI_s (by omega) (by omega)) (fun r3 s2 hc_4 => ?_)
    have hI_s2 : InvK s2 := hc_4.1
    have hFc_s2 : FrK [] s s2 := hc_4.2.1
    have hF_s2 : FrK [20] s0 s2 := hF_s.trans hFc_s2 (by decide)
    have hx0_r3 : (¬ r3.toInt = -1 → ((s.v 20)).toInt < (s.v 0).toInt) := hc_4.2.2.2.2
    refine ok_bindP (ok_kX9_isLetter _ ) (fun r4 hc_5 => ?_)
    have hl_r4 : 0 ≤ r4.toInt := hc_5.1
    have hu_r4 : r4.toInt ≤ 1 := hc_5.2
    refine ok_ite (fun c_6 => ?_) (fun c_6 => ?_)
    · have c_6 := tn_eq (a := (r4).toInt) (b := 0) rfl (by decide) c_6
      exact ok_kX9_splitLetters_71 s0  _ _ hI_s2 hF_s2 (by omega) (by omega) 
    · have c_6 := tn_ne (a := (r4).toInt) (b := 0) rfl (by decide) c_6
      have a_7 : (s2.v 20).toInt = (s.v 20).toInt := congrArg Int32.toInt (hFc_s2.1 20 (by decide))
      refine ok_bindI (ok_kX7_byteAt _ _ hI_s2 (by omega) (by omega)) (fun r7 s6 hc_8 => ?_)
      have hI_s6 : InvK s6 := hc_8.1
      have hFc_s6 : FrK [] s2 s6 := hc_8.2.1
      have hF_s6 : FrK [20] s0 s6 := hF_s2.trans hFc_s6 (by decide)
      have a_9 : (s2.v 0).toInt = (s.v 0).toInt := congrArg Int32.toInt (hFc_s2.1 0 (by decide))
      have hx0_r7 : (¬ r7.toInt = -1 → ((s2.v 20)).toInt < (s2.v 0).toInt) := hc_8.2.2.2.2
      refine ok_bindP (ok_kX9_withLetter _ _ ) (fun r8 hc_10 => ?_)
      refine ok_let (fun s9 hs9 => ?_)
      have hI_s9 : InvK s9 := by rw [← hs9]; exact hI_s6.su
      have hF_s9 : FrK [20] s0 s9 := by rw [← hs9]; exact hF_s6.su
      refine ok_let (fun s11 hs11 => ?_)
      have a_11 : (s6.v 20).toInt = (s2.v 20).toInt := congrArg Int32.toInt (hFc_s6.1 20 (by decide))
      have a_12 : (s9.v 20).toInt = (s6.v 20).toInt := congrArg Int32.toInt (show s9.v 20 = s6.v 20 by rw [← hs9]; rfl)
      have a_13 : (((s9.v 20) + 1)).toInt = ((s9.v 20)).toInt + 1 := tn_add rfl (by decide) (by omega) (by omega)
      have hI_s11 : InvK s11 := by rw [← hs11]; exact hI_s9.sv (k := 20) (show (0 : Int) ≤ (((s9.v 20) + 1)).toInt by omega) (show (((s9.v 20) + 1)).toInt ≤ (2000 : Int) by omega)
      have hF_s11 : FrK [20] s0 s11 := by rw [← hs11]; exact hF_s9.sv (k := 20) (by decide)
      have a_14 : (s11.v 20).toInt = (((s9.v 20) + 1)).toInt := (congrArg Int32.toInt (show s11.v 20 = ((s9.v 20) + 1) by rw [← hs11]; rfl)).trans rfl
      exact hk5 _ _ hI_s11 hF_s11 (by omega) (by omega) (by omega)
theorem okL_kX9_splitLetters_5 (s0 : KS)  : ∀ (n : Nat) (s : KS) (x1 : Int32), (2000 - (s.v 20).toInt).toNat < n → InvK s → FrK [20] s0 s → 0 ≤ x1.toInt → x1.toInt ≤ 2000 → Ok (kX9_splitLetters_5L  n s x1) (Q_kX9_splitLetters s0) := by
  intro n
  induction n with
  | zero => intro s x1 hn; omega
  | succ n ih =>
    intro s x1 hn hI_s hF_s h_x1l h_x1u 
    exact ok_kX9_splitLetters_5 s0 (kX9_splitLetters_5L  n) ((2000 - (s.v 20).toInt).toNat) (fun zs zx1 g0 g1 g2 g3  hm => ih zs zx1 (by omega) g0 g1 g2 g3 ) s x1 hI_s hF_s h_x1l h_x1u (Nat.le_refl _)
set_option maxHeartbeats 1000000 in
theorem ok_kX9_splitLettersB (s0 : KS)  (s : KS) (hI_s : InvK s) (hF_s : FrK [20] s0 s)  : Ok (kX9_splitLetters  s) (Q_kX9_splitLetters s0) := by
  unfold kX9_splitLetters
  have a_1 : 0 ≤ (s.v 20).toInt ∧ (s.v 20).toInt ≤ 2000 := hI_s.1 20
  exact okL_kX9_splitLetters_5 s0  fu _ _ (by unfold fu; omega) hI_s hF_s (by omega) (by omega) 
theorem ok_kX9_splitLetters (s : KS) (hI_s : InvK s) : Ok (kX9_splitLetters s) (Q_kX9_splitLetters s) := ok_kX9_splitLettersB s s hI_s FrK.rfl
abbrev Q_kX9_splitDigits (s0 : KS) (y : Int32 × KS) : Prop := InvK y.2 ∧ FrK [20] s0 y.2 ∧ 301 ≤ y.1.toInt ∧ y.1.toInt ≤ 303
set_option maxHeartbeats 1000000 in
theorem ok_kX9_splitDigits_78 (s0 : KS)  (s : KS) (x1 : Int32) (hI_s : InvK s) (hF_s : FrK [20] s0 s) (h_x1l : 0 ≤ x1.toInt) (h_x1u : x1.toInt ≤ 2000)  : Ok (kX9_splitDigits_78  s x1) (Q_kX9_splitDigits s0) := by
  unfold kX9_splitDigits_78
  have a_1 : 0 ≤ (s.v 20).toInt ∧ (s.v 20).toInt ≤ 2000 := hI_s.1 20
  have a_2 : (((s.v 20) - x1)).toInt = ((s.v 20)).toInt - (x1).toInt := tn_sub rfl rfl (by omega) (by omega)
  refine ok_ite (fun c_3 => ?_) (fun c_3 => ?_)
  · have c_3 := tn_le (a := (((s.v 20) - x1)).toInt) (b := 4) rfl (by decide) c_3
    exact ok_some ⟨hI_s, hF_s, by show 301 ≤ (301 : Int32).toInt; decide, by show (301 : Int32).toInt ≤ 303; decide⟩
  · have c_3 := tn_nle (a := (((s.v 20) - x1)).toInt) (b := 4) rfl (by decide) c_3
    exact ok_some ⟨hI_s, hF_s, by show 301 ≤ (303 : Int32).toInt; decide, by show (303 : Int32).toInt ≤ 303; decide⟩
set_option maxHeartbeats 1000000 in
theorem ok_kX9_splitDigits_5 (s0 : KS) (k5 : KS → Int32 → Option (Int32 × KS)) (M5 : Nat) (hk5 : ∀ (s : KS) (x1 : Int32), InvK s → FrK [20] s0 s → 0 ≤ x1.toInt → x1.toInt ≤ 2000 → (2000 - (s.v 20).toInt).toNat < M5 → Ok (k5 s x1) (Q_kX9_splitDigits s0)) (s : KS) (x1 : Int32) (hI_s : InvK s) (hF_s : FrK [20] s0 s) (h_x1l : 0 ≤ x1.toInt) (h_x1u : x1.toInt ≤ 2000) (hM5 : (2000 - (s.v 20).toInt).toNat ≤ M5) : Ok (kX9_splitDigits_5 k5 s x1) (Q_kX9_splitDigits s0) := by
  unfold kX9_splitDigits_5
  have a_1 : 0 ≤ (s.v 20).toInt ∧ (s.v 20).toInt ≤ 2000 := hI_s.1 20
  have a_2 : 0 ≤ (s.v 0).toInt ∧ (s.v 0).toInt ≤ 2000 := hI_s.1 0
  refine ok_ite (fun c_3 => ?_) (fun c_3 => ?_)
  · have c_3 := tn_le (a := ((s.v 0)).toInt) (b := ((s.v 20)).toInt) rfl rfl c_3
    exact ok_kX9_splitDigits_78 s0  _ _ hI_s hF_s (by omega) (by omega) 
  · have c_3 := tn_nle (a := ((s.v 0)).toInt) (b := ((s.v 20)).toInt) rfl rfl c_3
    refine ok_bindI (ok_kX7_byteAt _ _ hI_s (by omega) (by omega)) (fun r3 s2 hc_4 => ?_)
    have hI_s2 : InvK s2 := hc_4.1
    have hFc_s2 : FrK [] s s2 := hc_4.2.1
    have hF_s2 : FrK [20] s0 s2 := hF_s.trans hFc_s2 (by decide)
    have hx0_r3 : (¬ r3.toInt = -1 → ((s.v 20)).toInt < (s.v 0).toInt) := hc_4.2.2.2.2
    refine ok_bindP (ok_kX9_isDigit _ ) (fun r4 hc_5 => ?_)
    have hl_r4 : 0 ≤ r4.toInt := hc_5.1
    have hu_r4 : r4.toInt ≤ 1 := hc_5.2
    refine ok_ite (fun c_6 => ?_) (fun c_6 => ?_)
    · have c_6 := tn_eq (a := (r4).toInt) (b := 0) rfl (by decide) c_6
      exact ok_kX9_splitDigits_78 s0  _ _ hI_s2 hF_s2 (by omega) (by omega) 
    · have c_6 := tn_ne (a := (r4).toInt) (b := 0) rfl (by decide) c_6
      have a_7 : (s2.v 20).toInt = (s.v 20).toInt := congrArg Int32.toInt (hFc_s2.1 20 (by decide))
      refine ok_bindI (ok_kX7_byteAt _ _ hI_s2 (by omega) (by omega)) (fun r7 s6 hc_8 => ?_)
      have hI_s6 : InvK s6 := hc_8.1
      have hFc_s6 : FrK [] s2 s6 := hc_8.2.1
      have hF_s6 : FrK [20] s0 s6 := hF_s2.trans hFc_s6 (by decide)
      have a_9 : (s2.v 0).toInt = (s.v 0).toInt := congrArg Int32.toInt (hFc_s2.1 0 (by decide))
      have hx0_r7 : (¬ r7.toInt = -1 → ((s2.v 20)).toInt < (s2.v 0).toInt) := hc_8.2.2.2.2
      refine ok_let (fun s8 hs8 => ?_)
      have hI_s8 : InvK s8 := by rw [← hs8]; exact hI_s6.su
      have hF_s8 : FrK [20] s0 s8 := by rw [← hs8]; exact hF_s6.su
      refine ok_let (fun s10 hs10 => ?_)
      have a_10 : (s6.v 20).toInt = (s2.v 20).toInt := congrArg Int32.toInt (hFc_s6.1 20 (by decide))
      have a_11 : (s8.v 20).toInt = (s6.v 20).toInt := congrArg Int32.toInt (show s8.v 20 = s6.v 20 by rw [← hs8]; rfl)
      have a_12 : (((s8.v 20) + 1)).toInt = ((s8.v 20)).toInt + 1 := tn_add rfl (by decide) (by omega) (by omega)
      have hI_s10 : InvK s10 := by rw [← hs10]; exact hI_s8.sv (k := 20) (show (0 : Int) ≤ (((s8.v 20) + 1)).toInt by omega) (show (((s8.v 20) + 1)).toInt ≤ (2000 : Int) by omega)
      have hF_s10 : FrK [20] s0 s10 := by rw [← hs10]; exact hF_s8.sv (k := 20) (by decide)
      have a_13 : (s10.v 20).toInt = (((s8.v 20) + 1)).toInt := (congrArg Int32.toInt (show s10.v 20 = ((s8.v 20) + 1) by rw [← hs10]; rfl)).trans rfl
      exact hk5 _ _ hI_s10 hF_s10 (by omega) (by omega) (by omega)
theorem okL_kX9_splitDigits_5 (s0 : KS)  : ∀ (n : Nat) (s : KS) (x1 : Int32), (2000 - (s.v 20).toInt).toNat < n → InvK s → FrK [20] s0 s → 0 ≤ x1.toInt → x1.toInt ≤ 2000 → Ok (kX9_splitDigits_5L  n s x1) (Q_kX9_splitDigits s0) := by
  intro n
  induction n with
  | zero => intro s x1 hn; omega
  | succ n ih =>
    intro s x1 hn hI_s hF_s h_x1l h_x1u 
    exact ok_kX9_splitDigits_5 s0 (kX9_splitDigits_5L  n) ((2000 - (s.v 20).toInt).toNat) (fun zs zx1 g0 g1 g2 g3  hm => ih zs zx1 (by omega) g0 g1 g2 g3 ) s x1 hI_s hF_s h_x1l h_x1u (Nat.le_refl _)
set_option maxHeartbeats 1000000 in
theorem ok_kX9_splitDigitsB (s0 : KS)  (s : KS) (hI_s : InvK s) (hF_s : FrK [20] s0 s)  : Ok (kX9_splitDigits  s) (Q_kX9_splitDigits s0) := by
  unfold kX9_splitDigits
  have a_1 : 0 ≤ (s.v 20).toInt ∧ (s.v 20).toInt ≤ 2000 := hI_s.1 20
  exact okL_kX9_splitDigits_5 s0  fu _ _ (by unfold fu; omega) hI_s hF_s (by omega) (by omega) 
theorem ok_kX9_splitDigits (s : KS) (hI_s : InvK s) : Ok (kX9_splitDigits s) (Q_kX9_splitDigits s) := ok_kX9_splitDigitsB s s hI_s FrK.rfl
abbrev Q_kX10_feed (s0 : XS) (y : Int32 × XS) : Prop := InvK y.2.k ∧ FrK [0, 101] s0.k y.2.k ∧ InvG y.2.g ∧ -1 ≤ y.1.toInt ∧ y.1.toInt ≤ 2000
set_option maxHeartbeats 1000000 in
theorem ok_kX10_feedB (s0 : XS)  (s : XS) (x1 : Int32) (x2 : Int32) (x3 : Int32) (x4 : Int32) (x5 : Int32) (hI_s_k : InvK s.k) (hF_s_k : FrK [0, 101] s0.k s.k) (hI_s_g : InvG s.g)  : Ok (kX10_feed  s x1 x2 x3 x4 x5) (Q_kX10_feed s0) := by
  unfold kX10_feed
  refine ok_bindI (ok_kX7_hasRoomFor _ _ hI_s_k (by decide) (by decide)) (fun r2 s1 hc_1 => ?_)
  have hI_s1 : InvK s1 := hc_1.1
  have hFc_s1 : FrK [] s.k s1 := hc_1.2.1
  have hF_s1 : FrK [0, 101] s0.k s1 := hF_s_k.trans hFc_s1 (by decide)
  have hl_r2 : 0 ≤ r2.toInt := hc_1.2.2.1
  have hu_r2 : r2.toInt ≤ 1 := hc_1.2.2.2
  refine ok_let (fun s3 hs3 => ?_)
  have hI_s3_g : InvG s3.g := by rw [← hs3]; exact hI_s_g
  have hI_s3_k : InvK s3.k := by rw [← hs3]; exact hI_s1
  have hF_s3_k : FrK [0, 101] s0.k s3.k := by rw [← hs3]; exact hF_s1
  refine ok_ite (fun c_2 => ?_) (fun c_2 => ?_)
  · have c_2 := tn_eq (a := (r2).toInt) (b := 0) rfl (by decide) c_2
    exact ok_some ⟨hI_s3_k, hF_s3_k, hI_s3_g, by show -1 ≤ ((-1) : Int32).toInt; decide, by show ((-1) : Int32).toInt ≤ 2000; decide⟩
  · have c_2 := tn_ne (a := (r2).toInt) (b := 0) rfl (by decide) c_2
    refine ok_bindP (ok_kX7_addFour _ _ hI_s3_k) (fun s6 hc_3 => ?_)
    have hI_s6 : InvK s6 := hc_3.1
    have hFc_s6 : FrK [0, 101] s3.k s6 := hc_3.2
    have hF_s6 : FrK [0, 101] s0.k s6 := hF_s3_k.trans hFc_s6 (by decide)
    refine ok_let (fun s7 hs7 => ?_)
    have hI_s7_g : InvG s7.g := by rw [← hs7]; exact hI_s3_g
    have hI_s7_k : InvK s7.k := by rw [← hs7]; exact hI_s6
    have hF_s7_k : FrK [0, 101] s0.k s7.k := by rw [← hs7]; exact hF_s6
    refine ok_bindP (ok_kX7_addFour _ _ hI_s7_k) (fun s9 hc_4 => ?_)
    have hI_s9 : InvK s9 := hc_4.1
    have hFc_s9 : FrK [0, 101] s7.k s9 := hc_4.2
    have hF_s9 : FrK [0, 101] s0.k s9 := hF_s7_k.trans hFc_s9 (by decide)
    refine ok_let (fun s10 hs10 => ?_)
    have hI_s10_g : InvG s10.g := by rw [← hs10]; exact hI_s7_g
    have hI_s10_k : InvK s10.k := by rw [← hs10]; exact hI_s9
    have hF_s10_k : FrK [0, 101] s0.k s10.k := by rw [← hs10]; exact hF_s9
    refine ok_bindP (ok_kX7_addFour _ _ hI_s10_k) (fun s12 hc_5 => ?_)
    have hI_s12 : InvK s12 := hc_5.1
    have hFc_s12 : FrK [0, 101] s10.k s12 := hc_5.2
    have hF_s12 : FrK [0, 101] s0.k s12 := hF_s10_k.trans hFc_s12 (by decide)
    refine ok_let (fun s13 hs13 => ?_)
    have hI_s13_g : InvG s13.g := by rw [← hs13]; exact hI_s10_g
    have hI_s13_k : InvK s13.k := by rw [← hs13]; exact hI_s12
    have hF_s13_k : FrK [0, 101] s0.k s13.k := by rw [← hs13]; exact hF_s12
    refine ok_bindP (ok_kX7_addFour _ _ hI_s13_k) (fun s15 hc_6 => ?_)
    have hI_s15 : InvK s15 := hc_6.1
    have hFc_s15 : FrK [0, 101] s13.k s15 := hc_6.2
    have hF_s15 : FrK [0, 101] s0.k s15 := hF_s13_k.trans hFc_s15 (by decide)
    refine ok_let (fun s16 hs16 => ?_)
    have hI_s16_g : InvG s16.g := by rw [← hs16]; exact hI_s13_g
    have hI_s16_k : InvK s16.k := by rw [← hs16]; exact hI_s15
    have hF_s16_k : FrK [0, 101] s0.k s16.k := by rw [← hs16]; exact hF_s15
    refine ok_bindP (ok_kX7_addFour _ _ hI_s16_k) (fun s18 hc_7 => ?_)
    have hI_s18 : InvK s18 := hc_7.1
    have hFc_s18 : FrK [0, 101] s16.k s18 := hc_7.2
    have hF_s18 : FrK [0, 101] s0.k s18 := hF_s16_k.trans hFc_s18 (by decide)
    refine ok_let (fun s19 hs19 => ?_)
    have hI_s19_g : InvG s19.g := by rw [← hs19]; exact hI_s16_g
    have hI_s19_k : InvK s19.k := by rw [← hs19]; exact hI_s18
    have hF_s19_k : FrK [0, 101] s0.k s19.k := by rw [← hs19]; exact hF_s18
    have a_8 : 0 ≤ (s18.v 0).toInt ∧ (s18.v 0).toInt ≤ 2000 := hI_s18.1 0
    have a_9 : (s19.k.v 0).toInt = (s18.v 0).toInt := congrArg Int32.toInt (show s19.k.v 0 = s18.v 0 by rw [← hs19]; rfl)
    exact ok_some ⟨hI_s19_k, hF_s19_k, hI_s19_g, by show -1 ≤ ((s19.k.v 0)).toInt; omega, by show ((s19.k.v 0)).toInt ≤ 2000; omega⟩
theorem ok_kX10_feed (s : XS) (x1 : Int32) (x2 : Int32) (x3 : Int32) (x4 : Int32) (x5 : Int32) (hI_s_k : InvK s.k) (hI_s_g : InvG s.g) : Ok (kX10_feed s x1 x2 x3 x4 x5) (Q_kX10_feed s) := ok_kX10_feedB s s x1 x2 x3 x4 x5 hI_s_k FrK.rfl hI_s_g
abbrev Q_kX10_back (s0 : XS) (y : Int32 × XS) : Prop := InvK y.2.k ∧ FrK [0] s0.k y.2.k ∧ InvG y.2.g ∧ -1 ≤ y.1.toInt ∧ y.1.toInt ≤ 2000
set_option maxHeartbeats 1000000 in
theorem ok_kX10_backB (s0 : XS)  (s : XS) (x1 : Int32) (hI_s_k : InvK s.k) (hF_s_k : FrK [0] s0.k s.k) (hI_s_g : InvG s.g)  : Ok (kX10_back  s x1) (Q_kX10_back s0) := by
  unfold kX10_back
  refine ok_ite (fun c_1 => ?_) (fun c_1 => ?_)
  · have c_1 := tn_lt (a := (x1).toInt) (b := 0) rfl (by decide) c_1
    exact ok_some ⟨hI_s_k, hF_s_k, hI_s_g, by show -1 ≤ ((-1) : Int32).toInt; decide, by show ((-1) : Int32).toInt ≤ 2000; decide⟩
  · have c_1 := tn_nlt (a := (x1).toInt) (b := 0) rfl (by decide) c_1
    have a_2 : 0 ≤ (s.k.v 0).toInt ∧ (s.k.v 0).toInt ≤ 2000 := hI_s_k.1 0
    refine ok_ite (fun c_3 => ?_) (fun c_3 => ?_)
    · have c_3 := tn_le (a := (x1).toInt) (b := ((s.k.v 0)).toInt) rfl rfl c_3
      refine ok_let (fun s3 hs3 => ?_)
      have a_4 : (((s.k.v 0) - x1)).toInt = ((s.k.v 0)).toInt - (x1).toInt := tn_sub rfl rfl (by omega) (by omega)
      have hI_s3_k : InvK s3.k := by rw [← hs3]; exact hI_s_k.sv (k := 0) (show (0 : Int) ≤ (((s.k.v 0) - x1)).toInt by omega) (show (((s.k.v 0) - x1)).toInt ≤ (2000 : Int) by omega)
      have hF_s3_k : FrK [0] s0.k s3.k := by rw [← hs3]; exact hF_s_k.sv (k := 0) (by decide)
      have hI_s3_g : InvG s3.g := by rw [← hs3]; exact hI_s_g
      have a_5 : (s3.k.v 0).toInt = (((s.k.v 0) - x1)).toInt := (congrArg Int32.toInt (show s3.k.v 0 = ((s.k.v 0) - x1) by rw [← hs3]; rfl)).trans rfl
      exact ok_some ⟨hI_s3_k, hF_s3_k, hI_s3_g, by show -1 ≤ ((s3.k.v 0)).toInt; omega, by show ((s3.k.v 0)).toInt ≤ 2000; omega⟩
    · have c_3 := tn_nle (a := (x1).toInt) (b := ((s.k.v 0)).toInt) rfl rfl c_3
      exact ok_some ⟨hI_s_k, hF_s_k, hI_s_g, by show -1 ≤ ((-1) : Int32).toInt; decide, by show ((-1) : Int32).toInt ≤ 2000; decide⟩
theorem ok_kX10_back (s : XS) (x1 : Int32) (hI_s_k : InvK s.k) (hI_s_g : InvG s.g) : Ok (kX10_back s x1) (Q_kX10_back s) := ok_kX10_backB s s x1 hI_s_k FrK.rfl hI_s_g
abbrev Q_kX10_place (s0 : XS) (y : Int32 × XS) : Prop := InvK y.2.k ∧ FrK [] s0.k y.2.k ∧ InvG y.2.g ∧ -2147483648 ≤ y.1.toInt ∧ y.1.toInt ≤ 2147483647
set_option maxHeartbeats 1000000 in
theorem ok_kX10_placeB (s0 : XS)  (s : XS) (hI_s_k : InvK s.k) (hF_s_k : FrK [] s0.k s.k) (hI_s_g : InvG s.g)  : Ok (kX10_place  s) (Q_kX10_place s0) := by
  unfold kX10_place
  exact ok_some ⟨hI_s_k, hF_s_k, hI_s_g, (ti_rng _).1, (ti_rng _).2⟩
theorem ok_kX10_place (s : XS) (hI_s_k : InvK s.k) (hI_s_g : InvG s.g) : Ok (kX10_place s) (Q_kX10_place s) := ok_kX10_placeB s s hI_s_k FrK.rfl hI_s_g
abbrev Q_kX10_tell (s0 : XS) (y : Int32 × XS) : Prop := InvK y.2.k ∧ FrK [21, 142, 143] s0.k y.2.k ∧ InvG y.2.g ∧ -1 ≤ y.1.toInt ∧ y.1.toInt ≤ 19
set_option maxHeartbeats 1000000 in
theorem ok_kX10_tell_43 (s0 : XS)  (s : XS) (t0 : Int32) (t1 : Int32) (hI_s_k : InvK s.k) (hF_s_k : FrK [21, 142, 143] s0.k s.k) (hI_s_g : InvG s.g) (h_t1l : 0 ≤ t1.toInt) (h_t1u : t1.toInt ≤ 4)  : Ok (kX10_tell_43  s t0 t1) (Q_kX10_tell s0) := by
  unfold kX10_tell_43
  refine ok_bindI (ok_kX8_add _ _ _ hI_s_k (by omega) (by omega)) (fun r2 s1 hc_1 => ?_)
  have hI_s1 : InvK s1 := hc_1.1
  have hFc_s1 : FrK [21, 142, 143] s.k s1 := hc_1.2.1
  have hF_s1 : FrK [21, 142, 143] s0.k s1 := hF_s_k.trans hFc_s1 (by decide)
  have hl_r2 : -1 ≤ r2.toInt := hc_1.2.2.1
  have hu_r2 : r2.toInt ≤ 19 := hc_1.2.2.2
  refine ok_let (fun s3 hs3 => ?_)
  have hI_s3_g : InvG s3.g := by rw [← hs3]; exact hI_s_g
  have hI_s3_k : InvK s3.k := by rw [← hs3]; exact hI_s1
  have hF_s3_k : FrK [21, 142, 143] s0.k s3.k := by rw [← hs3]; exact hF_s1
  exact ok_some ⟨hI_s3_k, hF_s3_k, hI_s3_g, by show -1 ≤ (r2).toInt; omega, by show (r2).toInt ≤ 19; omega⟩
set_option maxHeartbeats 1000000 in
theorem ok_kX10_tellB (s0 : XS)  (s : XS) (x1 : Int32) (x2 : Int32) (x3 : Int32) (hI_s_k : InvK s.k) (hF_s_k : FrK [21, 142, 143] s0.k s.k) (hI_s_g : InvG s.g)  : Ok (kX10_tell  s x1 x2 x3) (Q_kX10_tell s0) := by
  unfold kX10_tell
  refine ok_bindI (ok_kX5_hasWave _ _ hI_s_k) (fun r2 s1 hc_1 => ?_)
  have hI_s1 : InvK s1 := hc_1.1
  have hFc_s1 : FrK [] s.k s1 := hc_1.2.1
  have hF_s1 : FrK [21, 142, 143] s0.k s1 := hF_s_k.trans hFc_s1 (by decide)
  have hl_r2 : 0 ≤ r2.toInt := hc_1.2.2.1
  have hu_r2 : r2.toInt ≤ 1 := hc_1.2.2.2.1
  have hx0_r2 : (¬ r2.toInt = 0 → 0 ≤ (x1).toInt ∧ (x1).toInt ≤ 4) := hc_1.2.2.2.2
  refine ok_let (fun s3 hs3 => ?_)
  have hI_s3_g : InvG s3.g := by rw [← hs3]; exact hI_s_g
  have hI_s3_k : InvK s3.k := by rw [← hs3]; exact hI_s1
  have hF_s3_k : FrK [21, 142, 143] s0.k s3.k := by rw [← hs3]; exact hF_s1
  refine ok_ite (fun c_2 => ?_) (fun c_2 => ?_)
  · have c_2 := tn_eq (a := (r2).toInt) (b := 0) rfl (by decide) c_2
    exact ok_some ⟨hI_s3_k, hF_s3_k, hI_s3_g, by show -1 ≤ ((-1) : Int32).toInt; decide, by show ((-1) : Int32).toInt ≤ 19; decide⟩
  · have c_2 := tn_ne (a := (r2).toInt) (b := 0) rfl (by decide) c_2
    refine ok_ite (fun c_3 => ?_) (fun c_3 => ?_)
    · have c_3 := tn_lt (a := (x2).toInt) (b := 1) rfl (by decide) c_3
      exact ok_some ⟨hI_s3_k, hF_s3_k, hI_s3_g, by show -1 ≤ ((-1) : Int32).toInt; decide, by show ((-1) : Int32).toInt ≤ 19; decide⟩
    · have c_3 := tn_nlt (a := (x2).toInt) (b := 1) rfl (by decide) c_3
      refine ok_ite (fun c_4 => ?_) (fun c_4 => ?_)
      · have c_4 := tn_le (a := (x2).toInt) (b := 63) rfl (by decide) c_4
        refine ok_ite (fun c_5 => ?_) (fun c_5 => ?_)
        · have c_5 := tn_eq (a := (x3).toInt) (b := 0) rfl (by decide) c_5
          exact ok_kX10_tell_43 s0  _ _ _ hI_s3_k hF_s3_k hI_s3_g (by omega) (by omega) 
        · have c_5 := tn_ne (a := (x3).toInt) (b := 0) rfl (by decide) c_5
          exact ok_kX10_tell_43 s0  _ _ _ hI_s3_k hF_s3_k hI_s3_g (by omega) (by omega) 
      · have c_4 := tn_nle (a := (x2).toInt) (b := 63) rfl (by decide) c_4
        exact ok_some ⟨hI_s3_k, hF_s3_k, hI_s3_g, by show -1 ≤ ((-1) : Int32).toInt; decide, by show ((-1) : Int32).toInt ≤ 19; decide⟩
theorem ok_kX10_tell (s : XS) (x1 : Int32) (x2 : Int32) (x3 : Int32) (hI_s_k : InvK s.k) (hI_s_g : InvG s.g) : Ok (kX10_tell s x1 x2 x3) (Q_kX10_tell s) := ok_kX10_tellB s s x1 x2 x3 hI_s_k FrK.rfl hI_s_g
abbrev Q_kX10_forget (s0 : XS) (y : Int32 × XS) : Prop := InvK y.2.k ∧ FrK [21] s0.k y.2.k ∧ InvG y.2.g ∧ 0 ≤ y.1.toInt ∧ y.1.toInt ≤ 20
set_option maxHeartbeats 1000000 in
theorem ok_kX10_forgetB (s0 : XS)  (s : XS) (hI_s_k : InvK s.k) (hF_s_k : FrK [21] s0.k s.k) (hI_s_g : InvG s.g)  : Ok (kX10_forget  s) (Q_kX10_forget s0) := by
  unfold kX10_forget
  refine ok_let (fun s1 hs1 => ?_)
  have hI_s1_k : InvK s1.k := by rw [← hs1]; exact hI_s_k.sv (k := 21) (show (0 : Int) ≤ (0 : Int32).toInt by decide) (show (0 : Int32).toInt ≤ (20 : Int) by decide)
  have hF_s1_k : FrK [21] s0.k s1.k := by rw [← hs1]; exact hF_s_k.sv (k := 21) (by decide)
  have hI_s1_g : InvG s1.g := by rw [← hs1]; exact hI_s_g
  have a_1 : 0 ≤ (s.k.v 21).toInt ∧ (s.k.v 21).toInt ≤ 20 := hI_s_k.1 21
  exact ok_some ⟨hI_s1_k, hF_s1_k, hI_s1_g, by show 0 ≤ ((s.k.v 21)).toInt; omega, by show ((s.k.v 21)).toInt ≤ 20; omega⟩
theorem ok_kX10_forget (s : XS) (hI_s_k : InvK s.k) (hI_s_g : InvG s.g) : Ok (kX10_forget s) (Q_kX10_forget s) := ok_kX10_forgetB s s hI_s_k FrK.rfl hI_s_g
abbrev Q_kX10_isHere (s0 : XS) (x1 : Int32) (y : Int32 × XS) : Prop := InvK y.2.k ∧ FrK [] s0.k y.2.k ∧ InvG y.2.g ∧ 0 ≤ y.1.toInt ∧ y.1.toInt ≤ 1 ∧ (¬ y.1.toInt = 0 → 0 ≤ (x1).toInt ∧ (x1).toInt ≤ 5)
set_option maxHeartbeats 1000000 in
theorem ok_kX10_isHereB (s0 : XS)  (s : XS) (x1 : Int32) (hI_s_k : InvK s.k) (hF_s_k : FrK [] s0.k s.k) (hI_s_g : InvG s.g)  : Ok (kX10_isHere  s x1) (Q_kX10_isHere s0 x1) := by
  unfold kX10_isHere
  refine ok_bindI (ok_kX5_hasParty _ _ hI_s_k) (fun r2 s1 hc_1 => ?_)
  have hI_s1 : InvK s1 := hc_1.1
  have hFc_s1 : FrK [] s.k s1 := hc_1.2.1
  have hF_s1 : FrK [] s0.k s1 := hF_s_k.trans hFc_s1 (by decide)
  have hl_r2 : 0 ≤ r2.toInt := hc_1.2.2.1
  have hu_r2 : r2.toInt ≤ 1 := hc_1.2.2.2.1
  have hx0_r2 : (¬ r2.toInt = 0 → 0 ≤ (x1).toInt ∧ (x1).toInt ≤ 5) := hc_1.2.2.2.2
  refine ok_let (fun s3 hs3 => ?_)
  have hI_s3_g : InvG s3.g := by rw [← hs3]; exact hI_s_g
  have hI_s3_k : InvK s3.k := by rw [← hs3]; exact hI_s1
  have hF_s3_k : FrK [] s0.k s3.k := by rw [← hs3]; exact hF_s1
  refine ok_ite (fun c_2 => ?_) (fun c_2 => ?_)
  · have c_2 := tn_eq (a := (r2).toInt) (b := 0) rfl (by decide) c_2
    exact ok_some ⟨hI_s3_k, hF_s3_k, hI_s3_g, by show 0 ≤ (0 : Int32).toInt; decide, by show (0 : Int32).toInt ≤ 1; decide, by show (¬ (0 : Int32).toInt = 0 → 0 ≤ (x1).toInt ∧ (x1).toInt ≤ 5); have l := (by decide : (0 : Int32).toInt = 0); omega⟩
  · have c_2 := tn_ne (a := (r2).toInt) (b := 0) rfl (by decide) c_2
    refine ok_grd (vpb_ok (by omega) (by omega)) ?_
    refine ok_ite (fun c_3 => ?_) (fun c_3 => ?_)
    · have c_3 := tn_eq (a := (((s3.n.f 3) (Int32.toNatClampNeg x1))).toInt) (b := 0) rfl (by decide) c_3
      exact ok_some ⟨hI_s3_k, hF_s3_k, hI_s3_g, by show 0 ≤ (1 : Int32).toInt; decide, by show (1 : Int32).toInt ≤ 1; decide, by show (¬ (1 : Int32).toInt = 0 → 0 ≤ (x1).toInt ∧ (x1).toInt ≤ 5); have l := (by decide : (1 : Int32).toInt = 1); omega⟩
    · have c_3 := tn_ne (a := (((s3.n.f 3) (Int32.toNatClampNeg x1))).toInt) (b := 0) rfl (by decide) c_3
      exact ok_some ⟨hI_s3_k, hF_s3_k, hI_s3_g, by show 0 ≤ (0 : Int32).toInt; decide, by show (0 : Int32).toInt ≤ 1; decide, by show (¬ (0 : Int32).toInt = 0 → 0 ≤ (x1).toInt ∧ (x1).toInt ≤ 5); have l := (by decide : (0 : Int32).toInt = 0); omega⟩
theorem ok_kX10_isHere (s : XS) (x1 : Int32) (hI_s_k : InvK s.k) (hI_s_g : InvG s.g) : Ok (kX10_isHere s x1) (Q_kX10_isHere s x1) := ok_kX10_isHereB s s x1 hI_s_k FrK.rfl hI_s_g
abbrev Q_kX10_partiesThatAre (s0 : XS) (y : Int32 × XS) : Prop := InvK y.2.k ∧ FrK [] s0.k y.2.k ∧ InvG y.2.g ∧ -2147483648 ≤ y.1.toInt ∧ y.1.toInt ≤ 2147483647
set_option maxHeartbeats 1000000 in
theorem ok_kX10_partiesThatAre_35 (s0 : XS) (k5 : XS → Int32 → Int32 → Int32 → Option (Int32 × XS)) (M5 : Nat) (hk5 : ∀ (s : XS) (x2 : Int32) (x3 : Int32) (x4 : Int32), InvK s.k → FrK [] s0.k s.k → InvG s.g → 0 ≤ x2.toInt → x2.toInt ≤ 2 → 0 ≤ x4.toInt → x4.toInt ≤ 6 → (6 - x4.toInt).toNat < M5 → Ok (k5 s x2 x3 x4) (Q_kX10_partiesThatAre s0)) (s : XS) (x2 : Int32) (x3 : Int32) (x4 : Int32) (hI_s_k : InvK s.k) (hF_s_k : FrK [] s0.k s.k) (hI_s_g : InvG s.g) (h_x2l : 0 ≤ x2.toInt) (h_x2u : x2.toInt ≤ 2) (h_x4l : 0 ≤ x4.toInt) (h_x4u : x4.toInt ≤ 5) (hM5 : (6 - x4.toInt).toNat ≤ M5) : Ok (kX10_partiesThatAre_35 k5 s x2 x3 x4) (Q_kX10_partiesThatAre s0) := by
  unfold kX10_partiesThatAre_35
  have a_1 : ((x4 + 1)).toInt = (x4).toInt + 1 := tn_add rfl (by decide) (by omega) (by omega)
  exact hk5 _ _ _ _ hI_s_k hF_s_k hI_s_g (by omega) (by omega) (by omega) (by omega) (by omega)
set_option maxHeartbeats 1000000 in
theorem ok_kX10_partiesThatAre_5 (s0 : XS) (k5 : XS → Int32 → Int32 → Int32 → Option (Int32 × XS)) (M5 : Nat) (hk5 : ∀ (s : XS) (x2 : Int32) (x3 : Int32) (x4 : Int32), InvK s.k → FrK [] s0.k s.k → InvG s.g → 0 ≤ x2.toInt → x2.toInt ≤ 2 → 0 ≤ x4.toInt → x4.toInt ≤ 6 → (6 - x4.toInt).toNat < M5 → Ok (k5 s x2 x3 x4) (Q_kX10_partiesThatAre s0)) (s : XS) (x2 : Int32) (x3 : Int32) (x4 : Int32) (hI_s_k : InvK s.k) (hF_s_k : FrK [] s0.k s.k) (hI_s_g : InvG s.g) (h_x2l : 0 ≤ x2.toInt) (h_x2u : x2.toInt ≤ 2) (h_x4l : 0 ≤ x4.toInt) (h_x4u : x4.toInt ≤ 6) (hM5 : (6 - x4.toInt).toNat ≤ M5) : Ok (kX10_partiesThatAre_5 k5 s x2 x3 x4) (Q_kX10_partiesThatAre s0) := by
  unfold kX10_partiesThatAre_5
  have a_1 : 0 ≤ (s.k.v 2).toInt ∧ (s.k.v 2).toInt ≤ 6 := hI_s_k.1 2
  refine ok_ite (fun c_2 => ?_) (fun c_2 => ?_)
  · have c_2 := tn_le (a := ((s.k.v 2)).toInt) (b := (x4).toInt) rfl rfl c_2
    exact ok_some ⟨hI_s_k, hF_s_k, hI_s_g, (ti_rng _).1, (ti_rng _).2⟩
  · have c_2 := tn_nle (a := ((s.k.v 2)).toInt) (b := (x4).toInt) rfl rfl c_2
    refine ok_grd (vpb_ok (by omega) (by omega)) ?_
    refine ok_ite (fun c_3 => ?_) (fun c_3 => ?_)
    · have c_3 := tn_eq (a := (((s.n.f 3) (Int32.toNatClampNeg x4))).toInt) (b := (x2).toInt) rfl rfl c_3
      exact ok_kX10_partiesThatAre_35 s0 k5 M5 hk5 _ _ _ _ hI_s_k hF_s_k hI_s_g (by omega) (by omega) (by omega) (by omega) (by omega)
    · have c_3 := tn_ne (a := (((s.n.f 3) (Int32.toNatClampNeg x4))).toInt) (b := (x2).toInt) rfl rfl c_3
      exact ok_kX10_partiesThatAre_35 s0 k5 M5 hk5 _ _ _ _ hI_s_k hF_s_k hI_s_g (by omega) (by omega) (by omega) (by omega) (by omega)
theorem okL_kX10_partiesThatAre_5 (s0 : XS)  : ∀ (n : Nat) (s : XS) (x2 : Int32) (x3 : Int32) (x4 : Int32), (6 - x4.toInt).toNat < n → InvK s.k → FrK [] s0.k s.k → InvG s.g → 0 ≤ x2.toInt → x2.toInt ≤ 2 → 0 ≤ x4.toInt → x4.toInt ≤ 6 → Ok (kX10_partiesThatAre_5L  n s x2 x3 x4) (Q_kX10_partiesThatAre s0) := by
  intro n
  induction n with
  | zero => intro s x2 x3 x4 hn; omega
  | succ n ih =>
    intro s x2 x3 x4 hn hI_s_k hF_s_k hI_s_g h_x2l h_x2u h_x4l h_x4u 
    exact ok_kX10_partiesThatAre_5 s0 (kX10_partiesThatAre_5L  n) ((6 - x4.toInt).toNat) (fun zs zx2 zx3 zx4 g0 g1 g2 g3 g4 g5 g6  hm => ih zs zx2 zx3 zx4 (by omega) g0 g1 g2 g3 g4 g5 g6 ) s x2 x3 x4 hI_s_k hF_s_k hI_s_g h_x2l h_x2u h_x4l h_x4u (Nat.le_refl _)
set_option maxHeartbeats 1000000 in
theorem ok_kX10_partiesThatAreB (s0 : XS)  (s : XS) (x2 : Int32) (hI_s_k : InvK s.k) (hF_s_k : FrK [] s0.k s.k) (hI_s_g : InvG s.g) (h_x2l : 0 ≤ x2.toInt) (h_x2u : x2.toInt ≤ 2)  : Ok (kX10_partiesThatAre  s x2) (Q_kX10_partiesThatAre s0) := by
  unfold kX10_partiesThatAre
  have l_0 : (0 : Int32).toInt = 0 := by decide
  exact okL_kX10_partiesThatAre_5 s0  fu _ _ _ _ (by unfold fu; omega) hI_s_k hF_s_k hI_s_g (by omega) (by omega) (by decide) (by decide) 
theorem ok_kX10_partiesThatAre (s : XS) (x2 : Int32) (hI_s_k : InvK s.k) (hI_s_g : InvG s.g) (h_x2l : 0 ≤ x2.toInt) (h_x2u : x2.toInt ≤ 2) : Ok (kX10_partiesThatAre s x2) (Q_kX10_partiesThatAre s) := ok_kX10_partiesThatAreB s s x2 hI_s_k FrK.rfl hI_s_g h_x2l h_x2u
abbrev Q_kX10_partiesThatAre_t (s0 : XS) (y : Int32 × XS) : Prop := InvK y.2.k ∧ FrK [] s0.k y.2.k ∧ InvG y.2.g ∧ -2147483648 ≤ y.1.toInt ∧ y.1.toInt ≤ 2147483647
set_option maxHeartbeats 1000000 in
theorem ok_kX10_partiesThatAre_t_35 (s0 : XS) (k5 : XS → Int32 → Int32 → Int32 → Option (Int32 × XS)) (M5 : Nat) (hk5 : ∀ (s : XS) (x2 : Int32) (x3 : Int32) (x4 : Int32), InvK s.k → FrK [] s0.k s.k → InvG s.g → 1 ≤ x2.toInt → x2.toInt ≤ 2 → 0 ≤ x4.toInt → x4.toInt ≤ 6 → (6 - x4.toInt).toNat < M5 → Ok (k5 s x2 x3 x4) (Q_kX10_partiesThatAre_t s0)) (s : XS) (x2 : Int32) (x3 : Int32) (x4 : Int32) (hI_s_k : InvK s.k) (hF_s_k : FrK [] s0.k s.k) (hI_s_g : InvG s.g) (h_x2l : 1 ≤ x2.toInt) (h_x2u : x2.toInt ≤ 2) (h_x4l : 0 ≤ x4.toInt) (h_x4u : x4.toInt ≤ 5) (hM5 : (6 - x4.toInt).toNat ≤ M5) : Ok (kX10_partiesThatAre_t_35 k5 s x2 x3 x4) (Q_kX10_partiesThatAre_t s0) := by
  unfold kX10_partiesThatAre_t_35
  have a_1 : ((x4 + 1)).toInt = (x4).toInt + 1 := tn_add rfl (by decide) (by omega) (by omega)
  exact hk5 _ _ _ _ hI_s_k hF_s_k hI_s_g (by omega) (by omega) (by omega) (by omega) (by omega)
set_option maxHeartbeats 1000000 in
theorem ok_kX10_partiesThatAre_t_5 (s0 : XS) (k5 : XS → Int32 → Int32 → Int32 → Option (Int32 × XS)) (M5 : Nat) (hk5 : ∀ (s : XS) (x2 : Int32) (x3 : Int32) (x4 : Int32), InvK s.k → FrK [] s0.k s.k → InvG s.g → 1 ≤ x2.toInt → x2.toInt ≤ 2 → 0 ≤ x4.toInt → x4.toInt ≤ 6 → (6 - x4.toInt).toNat < M5 → Ok (k5 s x2 x3 x4) (Q_kX10_partiesThatAre_t s0)) (s : XS) (x2 : Int32) (x3 : Int32) (x4 : Int32) (hI_s_k : InvK s.k) (hF_s_k : FrK [] s0.k s.k) (hI_s_g : InvG s.g) (h_x2l : 1 ≤ x2.toInt) (h_x2u : x2.toInt ≤ 2) (h_x4l : 0 ≤ x4.toInt) (h_x4u : x4.toInt ≤ 6) (hM5 : (6 - x4.toInt).toNat ≤ M5) : Ok (kX10_partiesThatAre_t_5 k5 s x2 x3 x4) (Q_kX10_partiesThatAre_t s0) := by
  unfold kX10_partiesThatAre_t_5
  have a_1 : 0 ≤ (s.k.v 2).toInt ∧ (s.k.v 2).toInt ≤ 6 := hI_s_k.1 2
  refine ok_ite (fun c_2 => ?_) (fun c_2 => ?_)
  · have c_2 := tn_le (a := ((s.k.v 2)).toInt) (b := (x4).toInt) rfl rfl c_2
    exact ok_some ⟨hI_s_k, hF_s_k, hI_s_g, (ti_rng _).1, (ti_rng _).2⟩
  · have c_2 := tn_nle (a := ((s.k.v 2)).toInt) (b := (x4).toInt) rfl rfl c_2
    refine ok_grd (vpb_ok (by omega) (by omega)) ?_
    refine ok_ite (fun c_3 => ?_) (fun c_3 => ?_)
    · have c_3 := tn_eq (a := (((s.t.f 3) (Int32.toNatClampNeg x4))).toInt) (b := (x2).toInt) rfl rfl c_3
      exact ok_kX10_partiesThatAre_t_35 s0 k5 M5 hk5 _ _ _ _ hI_s_k hF_s_k hI_s_g (by omega) (by omega) (by omega) (by omega) (by omega)
    · have c_3 := tn_ne (a := (((s.t.f 3) (Int32.toNatClampNeg x4))).toInt) (b := (x2).toInt) rfl rfl c_3
      exact ok_kX10_partiesThatAre_t_35 s0 k5 M5 hk5 _ _ _ _ hI_s_k hF_s_k hI_s_g (by omega) (by omega) (by omega) (by omega) (by omega)
theorem okL_kX10_partiesThatAre_t_5 (s0 : XS)  : ∀ (n : Nat) (s : XS) (x2 : Int32) (x3 : Int32) (x4 : Int32), (6 - x4.toInt).toNat < n → InvK s.k → FrK [] s0.k s.k → InvG s.g → 1 ≤ x2.toInt → x2.toInt ≤ 2 → 0 ≤ x4.toInt → x4.toInt ≤ 6 → Ok (kX10_partiesThatAre_t_5L  n s x2 x3 x4) (Q_kX10_partiesThatAre_t s0) := by
  intro n
  induction n with
  | zero => intro s x2 x3 x4 hn; omega
  | succ n ih =>
    intro s x2 x3 x4 hn hI_s_k hF_s_k hI_s_g h_x2l h_x2u h_x4l h_x4u 
    exact ok_kX10_partiesThatAre_t_5 s0 (kX10_partiesThatAre_t_5L  n) ((6 - x4.toInt).toNat) (fun zs zx2 zx3 zx4 g0 g1 g2 g3 g4 g5 g6  hm => ih zs zx2 zx3 zx4 (by omega) g0 g1 g2 g3 g4 g5 g6 ) s x2 x3 x4 hI_s_k hF_s_k hI_s_g h_x2l h_x2u h_x4l h_x4u (Nat.le_refl _)
set_option maxHeartbeats 1000000 in
theorem ok_kX10_partiesThatAre_tB (s0 : XS)  (s : XS) (x2 : Int32) (hI_s_k : InvK s.k) (hF_s_k : FrK [] s0.k s.k) (hI_s_g : InvG s.g) (h_x2l : 1 ≤ x2.toInt) (h_x2u : x2.toInt ≤ 2)  : Ok (kX10_partiesThatAre_t  s x2) (Q_kX10_partiesThatAre_t s0) := by
  unfold kX10_partiesThatAre_t
  have l_0 : (0 : Int32).toInt = 0 := by decide
  exact okL_kX10_partiesThatAre_t_5 s0  fu _ _ _ _ (by unfold fu; omega) hI_s_k hF_s_k hI_s_g (by omega) (by omega) (by decide) (by decide) 
theorem ok_kX10_partiesThatAre_t (s : XS) (x2 : Int32) (hI_s_k : InvK s.k) (hI_s_g : InvG s.g) (h_x2l : 1 ≤ x2.toInt) (h_x2u : x2.toInt ≤ 2) : Ok (kX10_partiesThatAre_t s x2) (Q_kX10_partiesThatAre_t s) := ok_kX10_partiesThatAre_tB s s x2 hI_s_k FrK.rfl hI_s_g h_x2l h_x2u
abbrev Q_kX10_wavesFound (s0 : XS) (y : Int32 × XS) : Prop := InvK y.2.k ∧ FrK [] s0.k y.2.k ∧ InvG y.2.g ∧ -2147483648 ≤ y.1.toInt ∧ y.1.toInt ≤ 2147483647
set_option maxHeartbeats 1000000 in
theorem ok_kX10_wavesFound_34 (s0 : XS) (k4 : XS → Int32 → Int32 → Option (Int32 × XS)) (M4 : Nat) (hk4 : ∀ (s : XS) (x1 : Int32) (x2 : Int32), InvK s.k → FrK [] s0.k s.k → InvG s.g → 0 ≤ x2.toInt → x2.toInt ≤ 5 → (5 - x2.toInt).toNat < M4 → Ok (k4 s x1 x2) (Q_kX10_wavesFound s0)) (s : XS) (x1 : Int32) (x2 : Int32) (hI_s_k : InvK s.k) (hF_s_k : FrK [] s0.k s.k) (hI_s_g : InvG s.g) (h_x2l : 0 ≤ x2.toInt) (h_x2u : x2.toInt ≤ 4) (hM4 : (5 - x2.toInt).toNat ≤ M4) : Ok (kX10_wavesFound_34 k4 s x1 x2) (Q_kX10_wavesFound s0) := by
  unfold kX10_wavesFound_34
  have a_1 : ((x2 + 1)).toInt = (x2).toInt + 1 := tn_add rfl (by decide) (by omega) (by omega)
  exact hk4 _ _ _ hI_s_k hF_s_k hI_s_g (by omega) (by omega) (by omega)
set_option maxHeartbeats 1000000 in
theorem ok_kX10_wavesFound_4 (s0 : XS) (k4 : XS → Int32 → Int32 → Option (Int32 × XS)) (M4 : Nat) (hk4 : ∀ (s : XS) (x1 : Int32) (x2 : Int32), InvK s.k → FrK [] s0.k s.k → InvG s.g → 0 ≤ x2.toInt → x2.toInt ≤ 5 → (5 - x2.toInt).toNat < M4 → Ok (k4 s x1 x2) (Q_kX10_wavesFound s0)) (s : XS) (x1 : Int32) (x2 : Int32) (hI_s_k : InvK s.k) (hF_s_k : FrK [] s0.k s.k) (hI_s_g : InvG s.g) (h_x2l : 0 ≤ x2.toInt) (h_x2u : x2.toInt ≤ 5) (hM4 : (5 - x2.toInt).toNat ≤ M4) : Ok (kX10_wavesFound_4 k4 s x1 x2) (Q_kX10_wavesFound s0) := by
  unfold kX10_wavesFound_4
  have a_1 : 0 ≤ (s.k.v 1).toInt ∧ (s.k.v 1).toInt ≤ 5 := hI_s_k.1 1
  refine ok_ite (fun c_2 => ?_) (fun c_2 => ?_)
  · have c_2 := tn_le (a := ((s.k.v 1)).toInt) (b := (x2).toInt) rfl rfl c_2
    exact ok_some ⟨hI_s_k, hF_s_k, hI_s_g, (ti_rng _).1, (ti_rng _).2⟩
  · have c_2 := tn_nle (a := ((s.k.v 1)).toInt) (b := (x2).toInt) rfl rfl c_2
    refine ok_grd (vpb_ok (by omega) (by omega)) ?_
    refine ok_ite (fun c_3 => ?_) (fun c_3 => ?_)
    · have c_3 := tn_eq (a := (((s.n.f 0) (Int32.toNatClampNeg x2))).toInt) (b := (-1)) rfl (by decide) c_3
      exact ok_kX10_wavesFound_34 s0 k4 M4 hk4 _ _ _ hI_s_k hF_s_k hI_s_g (by omega) (by omega) (by omega)
    · have c_3 := tn_ne (a := (((s.n.f 0) (Int32.toNatClampNeg x2))).toInt) (b := (-1)) rfl (by decide) c_3
      exact ok_kX10_wavesFound_34 s0 k4 M4 hk4 _ _ _ hI_s_k hF_s_k hI_s_g (by omega) (by omega) (by omega)
theorem okL_kX10_wavesFound_4 (s0 : XS)  : ∀ (n : Nat) (s : XS) (x1 : Int32) (x2 : Int32), (5 - x2.toInt).toNat < n → InvK s.k → FrK [] s0.k s.k → InvG s.g → 0 ≤ x2.toInt → x2.toInt ≤ 5 → Ok (kX10_wavesFound_4L  n s x1 x2) (Q_kX10_wavesFound s0) := by
  intro n
  induction n with
  | zero => intro s x1 x2 hn; omega
  | succ n ih =>
    intro s x1 x2 hn hI_s_k hF_s_k hI_s_g h_x2l h_x2u 
    exact ok_kX10_wavesFound_4 s0 (kX10_wavesFound_4L  n) ((5 - x2.toInt).toNat) (fun zs zx1 zx2 g0 g1 g2 g3 g4  hm => ih zs zx1 zx2 (by omega) g0 g1 g2 g3 g4 ) s x1 x2 hI_s_k hF_s_k hI_s_g h_x2l h_x2u (Nat.le_refl _)
set_option maxHeartbeats 1000000 in
theorem ok_kX10_wavesFoundB (s0 : XS)  (s : XS) (hI_s_k : InvK s.k) (hF_s_k : FrK [] s0.k s.k) (hI_s_g : InvG s.g)  : Ok (kX10_wavesFound  s) (Q_kX10_wavesFound s0) := by
  unfold kX10_wavesFound
  have l_0 : (0 : Int32).toInt = 0 := by decide
  exact okL_kX10_wavesFound_4 s0  fu _ _ _ (by unfold fu; omega) hI_s_k hF_s_k hI_s_g (by decide) (by decide) 
theorem ok_kX10_wavesFound (s : XS) (hI_s_k : InvK s.k) (hI_s_g : InvG s.g) : Ok (kX10_wavesFound s) (Q_kX10_wavesFound s) := ok_kX10_wavesFoundB s s hI_s_k FrK.rfl hI_s_g
abbrev Q_kX10_wavesWithNothing (s0 : XS) (y : Int32 × XS) : Prop := InvK y.2.k ∧ FrK [] s0.k y.2.k ∧ InvG y.2.g ∧ -2147483648 ≤ y.1.toInt ∧ y.1.toInt ≤ 2147483647
set_option maxHeartbeats 1000000 in
theorem ok_kX10_wavesWithNothing_36 (s0 : XS) (k4 : XS → Int32 → Int32 → Option (Int32 × XS)) (M4 : Nat) (hk4 : ∀ (s : XS) (x1 : Int32) (x2 : Int32), InvK s.k → FrK [] s0.k s.k → InvG s.g → 0 ≤ x2.toInt → x2.toInt ≤ 5 → (5 - x2.toInt).toNat < M4 → Ok (k4 s x1 x2) (Q_kX10_wavesWithNothing s0)) (s : XS) (x1 : Int32) (x2 : Int32) (hI_s_k : InvK s.k) (hF_s_k : FrK [] s0.k s.k) (hI_s_g : InvG s.g) (h_x2l : 0 ≤ x2.toInt) (h_x2u : x2.toInt ≤ 4) (hM4 : (5 - x2.toInt).toNat ≤ M4) : Ok (kX10_wavesWithNothing_36 k4 s x1 x2) (Q_kX10_wavesWithNothing s0) := by
  unfold kX10_wavesWithNothing_36
  have a_1 : ((x2 + 1)).toInt = (x2).toInt + 1 := tn_add rfl (by decide) (by omega) (by omega)
  exact hk4 _ _ _ hI_s_k hF_s_k hI_s_g (by omega) (by omega) (by omega)
set_option maxHeartbeats 1000000 in
theorem ok_kX10_wavesWithNothing_4 (s0 : XS) (k4 : XS → Int32 → Int32 → Option (Int32 × XS)) (M4 : Nat) (hk4 : ∀ (s : XS) (x1 : Int32) (x2 : Int32), InvK s.k → FrK [] s0.k s.k → InvG s.g → 0 ≤ x2.toInt → x2.toInt ≤ 5 → (5 - x2.toInt).toNat < M4 → Ok (k4 s x1 x2) (Q_kX10_wavesWithNothing s0)) (s : XS) (x1 : Int32) (x2 : Int32) (hI_s_k : InvK s.k) (hF_s_k : FrK [] s0.k s.k) (hI_s_g : InvG s.g) (h_x2l : 0 ≤ x2.toInt) (h_x2u : x2.toInt ≤ 5) (hM4 : (5 - x2.toInt).toNat ≤ M4) : Ok (kX10_wavesWithNothing_4 k4 s x1 x2) (Q_kX10_wavesWithNothing s0) := by
  unfold kX10_wavesWithNothing_4
  have a_1 : 0 ≤ (s.k.v 1).toInt ∧ (s.k.v 1).toInt ≤ 5 := hI_s_k.1 1
  refine ok_ite (fun c_2 => ?_) (fun c_2 => ?_)
  · have c_2 := tn_le (a := ((s.k.v 1)).toInt) (b := (x2).toInt) rfl rfl c_2
    exact ok_some ⟨hI_s_k, hF_s_k, hI_s_g, (ti_rng _).1, (ti_rng _).2⟩
  · have c_2 := tn_nle (a := ((s.k.v 1)).toInt) (b := (x2).toInt) rfl rfl c_2
    refine ok_bindI (ok_kX0_mayBe _ _ hI_s_k (by omega) (by omega)) (fun r3 s2 hc_3 => ?_)
    have hI_s2_k : InvK s2.k := hc_3.1
    have hFc_s2_k : FrK [] s.k s2.k := hc_3.2.1
    have hF_s2_k : FrK [] s0.k s2.k := hF_s_k.trans hFc_s2_k (by decide)
    refine ok_let (fun s4 hs4 => ?_)
    have hI_s4_g : InvG s4.g := by rw [← hs4]; exact hI_s_g
    have hI_s4_k : InvK s4.k := by rw [← hs4]; exact hI_s2_k
    have hF_s4_k : FrK [] s0.k s4.k := by rw [← hs4]; exact hF_s2_k
    refine ok_ite (fun c_4 => ?_) (fun c_4 => ?_)
    · have c_4 := tn_eq (a := (r3).toInt) (b := 0) rfl (by decide) c_4
      exact ok_kX10_wavesWithNothing_36 s0 k4 M4 hk4 _ _ _ hI_s4_k hF_s4_k hI_s4_g (by omega) (by omega) (by omega)
    · have c_4 := tn_ne (a := (r3).toInt) (b := 0) rfl (by decide) c_4
      exact ok_kX10_wavesWithNothing_36 s0 k4 M4 hk4 _ _ _ hI_s4_k hF_s4_k hI_s4_g (by omega) (by omega) (by omega)
theorem okL_kX10_wavesWithNothing_4 (s0 : XS)  : ∀ (n : Nat) (s : XS) (x1 : Int32) (x2 : Int32), (5 - x2.toInt).toNat < n → InvK s.k → FrK [] s0.k s.k → InvG s.g → 0 ≤ x2.toInt → x2.toInt ≤ 5 → Ok (kX10_wavesWithNothing_4L  n s x1 x2) (Q_kX10_wavesWithNothing s0) := by
  intro n
  induction n with
  | zero => intro s x1 x2 hn; omega
  | succ n ih =>
    intro s x1 x2 hn hI_s_k hF_s_k hI_s_g h_x2l h_x2u 
    exact ok_kX10_wavesWithNothing_4 s0 (kX10_wavesWithNothing_4L  n) ((5 - x2.toInt).toNat) (fun zs zx1 zx2 g0 g1 g2 g3 g4  hm => ih zs zx1 zx2 (by omega) g0 g1 g2 g3 g4 ) s x1 x2 hI_s_k hF_s_k hI_s_g h_x2l h_x2u (Nat.le_refl _)
set_option maxHeartbeats 1000000 in
theorem ok_kX10_wavesWithNothingB (s0 : XS)  (s : XS) (hI_s_k : InvK s.k) (hF_s_k : FrK [] s0.k s.k) (hI_s_g : InvG s.g)  : Ok (kX10_wavesWithNothing  s) (Q_kX10_wavesWithNothing s0) := by
  unfold kX10_wavesWithNothing
  have l_0 : (0 : Int32).toInt = 0 := by decide
  exact okL_kX10_wavesWithNothing_4 s0  fu _ _ _ (by unfold fu; omega) hI_s_k hF_s_k hI_s_g (by decide) (by decide) 
theorem ok_kX10_wavesWithNothing (s : XS) (hI_s_k : InvK s.k) (hI_s_g : InvG s.g) : Ok (kX10_wavesWithNothing s) (Q_kX10_wavesWithNothing s) := ok_kX10_wavesWithNothingB s s hI_s_k FrK.rfl hI_s_g
abbrev Q_kX10_isThing (x0 : Int32) (y : Int32) : Prop := 0 ≤ y.toInt ∧ y.toInt ≤ 1 ∧ (¬ y.toInt = 0 → 0 ≤ (x0).toInt ∧ (x0).toInt ≤ 5)
set_option maxHeartbeats 1000000 in
theorem ok_kX10_isThingB  (x0 : Int32)   : Ok (kX10_isThing  x0) (Q_kX10_isThing x0) := by
  unfold kX10_isThing
  refine ok_ite (fun c_1 => ?_) (fun c_1 => ?_)
  · have c_1 := tn_lt (a := (x0).toInt) (b := 0) rfl (by decide) c_1
    exact ok_some ⟨by show 0 ≤ (0 : Int32).toInt; decide, by show (0 : Int32).toInt ≤ 1; decide, by show (¬ (0 : Int32).toInt = 0 → 0 ≤ (x0).toInt ∧ (x0).toInt ≤ 5); have l := (by decide : (0 : Int32).toInt = 0); omega⟩
  · have c_1 := tn_nlt (a := (x0).toInt) (b := 0) rfl (by decide) c_1
    refine ok_ite (fun c_2 => ?_) (fun c_2 => ?_)
    · have c_2 := tn_le (a := 6) (b := (x0).toInt) (by decide) rfl c_2
      exact ok_some ⟨by show 0 ≤ (0 : Int32).toInt; decide, by show (0 : Int32).toInt ≤ 1; decide, by show (¬ (0 : Int32).toInt = 0 → 0 ≤ (x0).toInt ∧ (x0).toInt ≤ 5); have l := (by decide : (0 : Int32).toInt = 0); omega⟩
    · have c_2 := tn_nle (a := 6) (b := (x0).toInt) (by decide) rfl c_2
      exact ok_some ⟨by show 0 ≤ (1 : Int32).toInt; decide, by show (1 : Int32).toInt ≤ 1; decide, by show (¬ (1 : Int32).toInt = 0 → 0 ≤ (x0).toInt ∧ (x0).toInt ≤ 5); have l := (by decide : (1 : Int32).toInt = 1); omega⟩
theorem ok_kX10_isThing (x0 : Int32)  : Ok (kX10_isThing x0) (Q_kX10_isThing x0) := ok_kX10_isThingB x0 
abbrev Q_kX10_has (y : Int32) : Prop := 0 ≤ y.toInt ∧ y.toInt ≤ 1
set_option maxHeartbeats 1000000 in
theorem ok_kX10_hasB  (x0 : Int32) (x1 : Int32)   : Ok (kX10_has  x0 x1) Q_kX10_has := by
  unfold kX10_has
  have a_1 := ti_and1 ((x0 >>> (x1 &&& 31)))
  refine ok_ite (fun c_2 => ?_) (fun c_2 => ?_)
  · have c_2 := tn_eq (a := (((x0 >>> (x1 &&& 31)) &&& 1)).toInt) (b := 1) rfl (by decide) c_2
    exact ok_some ⟨by show 0 ≤ (1 : Int32).toInt; decide, by show (1 : Int32).toInt ≤ 1; decide⟩
  · have c_2 := tn_ne (a := (((x0 >>> (x1 &&& 31)) &&& 1)).toInt) (b := 1) rfl (by decide) c_2
    exact ok_some ⟨by show 0 ≤ (0 : Int32).toInt; decide, by show (0 : Int32).toInt ≤ 1; decide⟩
theorem ok_kX10_has (x0 : Int32) (x1 : Int32)  : Ok (kX10_has x0 x1) Q_kX10_has := ok_kX10_hasB x0 x1 
