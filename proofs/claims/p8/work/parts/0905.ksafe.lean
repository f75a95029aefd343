abbrev Q_kX10_ranked (s0 : XS) (y : Int32 × XS) : Prop := InvK y.2.k ∧ FrK [137, 138, 139, 140] s0.k y.2.k ∧ InvG y.2.g ∧ -2147483648 ≤ y.1.toInt ∧ y.1.toInt ≤ 2147483647
set_option maxHeartbeats 1000000 in
theorem ok_kX10_rankedB (s0 : XS)  (s : XS) (x1 : Int32) (hI_s_k : InvK s.k) (hF_s_k : FrK [137, 138, 139, 140] s0.k s.k) (hI_s_g : InvG s.g)  : Ok (kX10_ranked  s x1) (Q_kX10_ranked s0) := by
  unfold kX10_ranked
  refine ok_ite (fun c_1 => ?_) (fun c_1 => ?_)
  · have c_1 := tn_lt (a := (x1).toInt) (b := 0) rfl (by decide) c_1
    exact ok_some ⟨hI_s_k, hF_s_k, hI_s_g, (ti_rng _).1, (ti_rng _).2⟩
  · have c_1 := tn_nlt (a := (x1).toInt) (b := 0) rfl (by decide) c_1
    refine ok_ite (fun c_2 => ?_) (fun c_2 => ?_)
    · have c_2 := tn_lt (a := (x1).toInt) (b := 20) rfl (by decide) c_2
      refine ok_bindI (ok_kX2_caseAtRank _ _ hI_s_k (by omega) (by omega)) (fun r4 s3 hc_3 => ?_)
      have hI_s3_k : InvK s3.k := hc_3.1
      have hFc_s3_k : FrK [137, 138, 139, 140] s.k s3.k := hc_3.2.1
      have hF_s3_k : FrK [137, 138, 139, 140] s0.k s3.k := hF_s_k.trans hFc_s3_k (by decide)
      refine ok_let (fun s5 hs5 => ?_)
      have hI_s5_g : InvG s5.g := by rw [← hs5]; exact hI_s_g
      have hI_s5_k : InvK s5.k := by rw [← hs5]; exact hI_s3_k
      have hF_s5_k : FrK [137, 138, 139, 140] s0.k s5.k := by rw [← hs5]; exact hF_s3_k
      exact ok_some ⟨hI_s5_k, hF_s5_k, hI_s5_g, (ti_rng _).1, (ti_rng _).2⟩
    · have c_2 := tn_nlt (a := (x1).toInt) (b := 20) rfl (by decide) c_2
      exact ok_some ⟨hI_s_k, hF_s_k, hI_s_g, (ti_rng _).1, (ti_rng _).2⟩
theorem ok_kX10_ranked (s : XS) (x1 : Int32) (hI_s_k : InvK s.k) (hI_s_g : InvG s.g) : Ok (kX10_ranked s x1) (Q_kX10_ranked s) := ok_kX10_rankedB s s x1 hI_s_k FrK.rfl hI_s_g
abbrev Q_kX10_alike (s0 : XS) (y : Int32 × XS) : Prop := InvK y.2.k ∧ FrK [] s0.k y.2.k ∧ InvG y.2.g ∧ -1 ≤ y.1.toInt ∧ y.1.toInt ≤ 5
set_option maxHeartbeats 1000000 in
theorem ok_kX10_alike_26 (s0 : XS) (k26 : XS → Int32 → Int32 → Int32 → Option (Int32 × XS)) (M26 : Nat) (hk26 : ∀ (s : XS) (x1 : Int32) (x2 : Int32) (x3 : Int32), InvK s.k → FrK [] s0.k s.k → InvG s.g → 0 ≤ x1.toInt → 0 ≤ x2.toInt → 0 ≤ x3.toInt → x3.toInt ≤ 5 → (5 - x3.toInt).toNat < M26 → Ok (k26 s x1 x2 x3) (Q_kX10_alike s0)) (s : XS) (x1 : Int32) (x2 : Int32) (x3 : Int32) (hI_s_k : InvK s.k) (hF_s_k : FrK [] s0.k s.k) (hI_s_g : InvG s.g) (h_x1l : 0 ≤ x1.toInt) (h_x2l : 0 ≤ x2.toInt) (h_x3l : 0 ≤ x3.toInt) (h_x3u : x3.toInt ≤ 5) (hM26 : (5 - x3.toInt).toNat ≤ M26) : Ok (kX10_alike_26 k26 s x1 x2 x3) (Q_kX10_alike s0) := by
  unfold kX10_alike_26
  have a_1 : 0 ≤ (s.k.v 1).toInt ∧ (s.k.v 1).toInt ≤ 5 := hI_s_k.1 1
  refine ok_ite (fun c_2 => ?_) (fun c_2 => ?_)
  · have c_2 := tn_le (a := ((s.k.v 1)).toInt) (b := (x3).toInt) rfl rfl c_2
    exact ok_some ⟨hI_s_k, hF_s_k, hI_s_g, by show -1 ≤ (x3).toInt; omega, by show (x3).toInt ≤ 5; omega⟩
  · have c_2 := tn_nle (a := ((s.k.v 1)).toInt) (b := (x3).toInt) rfl rfl c_2
    refine ok_bindP (ok_kX10_thingIn _ _ (by omega) (by omega)) (fun r2 hc_3 => ?_)
    have hx0_r2 : (0 ≤ (x1).toInt → 0 ≤ r2.toInt ∧ r2.toInt ≤ 5) := hc_3.2.2
    refine ok_bindP (ok_kX10_thingIn _ _ (by omega) (by omega)) (fun r3 hc_4 => ?_)
    have hx0_r3 : (0 ≤ (x2).toInt → 0 ≤ r3.toInt ∧ r3.toInt ≤ 5) := hc_4.2.2
    refine ok_ite (fun c_5 => ?_) (fun c_5 => ?_)
    · have c_5 := tn_eq (a := (r2).toInt) (b := (r3).toInt) rfl rfl c_5
      have a_6 : ((x3 + 1)).toInt = (x3).toInt + 1 := tn_add rfl (by decide) (by omega) (by omega)
      exact hk26 _ _ _ _ hI_s_k hF_s_k hI_s_g (by omega) (by omega) (by omega) (by omega) (by omega)
    · have c_5 := tn_ne (a := (r2).toInt) (b := (r3).toInt) rfl rfl c_5
      exact ok_some ⟨hI_s_k, hF_s_k, hI_s_g, by show -1 ≤ (x3).toInt; omega, by show (x3).toInt ≤ 5; omega⟩
theorem okL_kX10_alike_26 (s0 : XS)  : ∀ (n : Nat) (s : XS) (x1 : Int32) (x2 : Int32) (x3 : Int32), (5 - x3.toInt).toNat < n → InvK s.k → FrK [] s0.k s.k → InvG s.g → 0 ≤ x1.toInt → 0 ≤ x2.toInt → 0 ≤ x3.toInt → x3.toInt ≤ 5 → Ok (kX10_alike_26L  n s x1 x2 x3) (Q_kX10_alike s0) := by
  intro n
  induction n with
  | zero => intro s x1 x2 x3 hn; omega
  | succ n ih =>
    intro s x1 x2 x3 hn hI_s_k hF_s_k hI_s_g h_x1l h_x2l h_x3l h_x3u 
    exact ok_kX10_alike_26 s0 (kX10_alike_26L  n) ((5 - x3.toInt).toNat) (fun zs zx1 zx2 zx3 g0 g1 g2 g3 g4 g5 g6  hm => ih zs zx1 zx2 zx3 (by omega) g0 g1 g2 g3 g4 g5 g6 ) s x1 x2 x3 hI_s_k hF_s_k hI_s_g h_x1l h_x2l h_x3l h_x3u (Nat.le_refl _)
set_option maxHeartbeats 1000000 in
theorem ok_kX10_alikeB (s0 : XS)  (s : XS) (x1 : Int32) (x2 : Int32) (hI_s_k : InvK s.k) (hF_s_k : FrK [] s0.k s.k) (hI_s_g : InvG s.g)  : Ok (kX10_alike  s x1 x2) (Q_kX10_alike s0) := by
  unfold kX10_alike
  refine ok_bindI (ok_kX5_hasGuess _ _ hI_s_k) (fun r2 s1 hc_1 => ?_)
  have hI_s1 : InvK s1 := hc_1.1
  have hFc_s1 : FrK [] s.k s1 := hc_1.2.1
  have hF_s1 : FrK [] s0.k s1 := hF_s_k.trans hFc_s1 (by decide)
  have hl_r2 : 0 ≤ r2.toInt := hc_1.2.2.1
  have hu_r2 : r2.toInt ≤ 1 := hc_1.2.2.2.1
  have hx0_r2 : (¬ r2.toInt = 0 → 0 ≤ (x1).toInt) := hc_1.2.2.2.2
  refine ok_let (fun s3 hs3 => ?_)
  have hI_s3_g : InvG s3.g := by rw [← hs3]; exact hI_s_g
  have hI_s3_k : InvK s3.k := by rw [← hs3]; exact hI_s1
  have hF_s3_k : FrK [] s0.k s3.k := by rw [← hs3]; exact hF_s1
  refine ok_ite (fun c_2 => ?_) (fun c_2 => ?_)
  · have c_2 := tn_eq (a := (r2).toInt) (b := 0) rfl (by decide) c_2
    exact ok_some ⟨hI_s3_k, hF_s3_k, hI_s3_g, by show -1 ≤ ((-1) : Int32).toInt; decide, by show ((-1) : Int32).toInt ≤ 5; decide⟩
  · have c_2 := tn_ne (a := (r2).toInt) (b := 0) rfl (by decide) c_2
    refine ok_bindI (ok_kX5_hasGuess _ _ hI_s3_k) (fun r7 s6 hc_3 => ?_)
    have hI_s6 : InvK s6 := hc_3.1
    have hFc_s6 : FrK [] s3.k s6 := hc_3.2.1
    have hF_s6 : FrK [] s0.k s6 := hF_s3_k.trans hFc_s6 (by decide)
    have hl_r7 : 0 ≤ r7.toInt := hc_3.2.2.1
    have hu_r7 : r7.toInt ≤ 1 := hc_3.2.2.2.1
    have hx0_r7 : (¬ r7.toInt = 0 → 0 ≤ (x2).toInt) := hc_3.2.2.2.2
    refine ok_let (fun s8 hs8 => ?_)
    have hI_s8_g : InvG s8.g := by rw [← hs8]; exact hI_s3_g
    have hI_s8_k : InvK s8.k := by rw [← hs8]; exact hI_s6
    have hF_s8_k : FrK [] s0.k s8.k := by rw [← hs8]; exact hF_s6
    refine ok_ite (fun c_4 => ?_) (fun c_4 => ?_)
    · have c_4 := tn_eq (a := (r7).toInt) (b := 0) rfl (by decide) c_4
      exact ok_some ⟨hI_s8_k, hF_s8_k, hI_s8_g, by show -1 ≤ ((-1) : Int32).toInt; decide, by show ((-1) : Int32).toInt ≤ 5; decide⟩
    · have c_4 := tn_ne (a := (r7).toInt) (b := 0) rfl (by decide) c_4
      have l_0 : (0 : Int32).toInt = 0 := by decide
      exact okL_kX10_alike_26 s0  fu _ _ _ _ (by unfold fu; omega) hI_s8_k hF_s8_k hI_s8_g (by omega) (by omega) (by decide) (by decide) 
theorem ok_kX10_alike (s : XS) (x1 : Int32) (x2 : Int32) (hI_s_k : InvK s.k) (hI_s_g : InvG s.g) : Ok (kX10_alike s x1 x2) (Q_kX10_alike s) := ok_kX10_alikeB s s x1 x2 hI_s_k FrK.rfl hI_s_g
abbrev Q_kX10_spread (s0 : XS) (y : Int32 × XS) : Prop := InvK y.2.k ∧ FrK [] s0.k y.2.k ∧ InvG y.2.g ∧ -1 ≤ y.1.toInt ∧ y.1.toInt ≤ 2147483647
set_option maxHeartbeats 1000000 in
theorem ok_kX10_spreadB (s0 : XS)  (s : XS) (x1 : Int32) (hI_s_k : InvK s.k) (hF_s_k : FrK [] s0.k s.k) (hI_s_g : InvG s.g)  : Ok (kX10_spread  s x1) (Q_kX10_spread s0) := by
  unfold kX10_spread
  refine ok_bindI (ok_kX5_hasWave _ _ hI_s_k) (fun r2 s1 hc_1 => ?_)
  have hI_s1 : InvK s1 := hc_1.1
  have hFc_s1 : FrK [] s.k s1 := hc_1.2.1
  have hF_s1 : FrK [] s0.k s1 := hF_s_k.trans hFc_s1 (by decide)
  have hl_r2 : 0 ≤ r2.toInt := hc_1.2.2.1
  have hu_r2 : r2.toInt ≤ 1 := hc_1.2.2.2.1
  have hx0_r2 : (¬ r2.toInt = 0 → 0 ≤ (x1).toInt ∧ (x1).toInt ≤ 4) := hc_1.2.2.2.2
  refine ok_let (fun s3 hs3 => ?_)
  have hI_s3_g : InvG s3.g := by rw [← hs3]; exact hI_s_g
  have hI_s3_k : InvK s3.k := by rw [← hs3]; exact hI_s1
  have hF_s3_k : FrK [] s0.k s3.k := by rw [← hs3]; exact hF_s1
  refine ok_ite (fun c_2 => ?_) (fun c_2 => ?_)
  · have c_2 := tn_eq (a := (r2).toInt) (b := 0) rfl (by decide) c_2
    exact ok_some ⟨hI_s3_k, hF_s3_k, hI_s3_g, by show -1 ≤ ((-1) : Int32).toInt; decide, (ti_rng _).2⟩
  · have c_2 := tn_ne (a := (r2).toInt) (b := 0) rfl (by decide) c_2
    refine ok_bindI (ok_kX2_oddsApart _ _ hI_s3_k (by omega) (by omega)) (fun r7 s6 hc_3 => ?_)
    have hI_s6_k : InvK s6.k := hc_3.1
    have hFc_s6_k : FrK [] s3.k s6.k := hc_3.2.1
    have hF_s6_k : FrK [] s0.k s6.k := hF_s3_k.trans hFc_s6_k (by decide)
    have hl_r7 : 0 ≤ r7.toInt := hc_3.2.2.1
    refine ok_let (fun s8 hs8 => ?_)
    have hI_s8_g : InvG s8.g := by rw [← hs8]; exact hI_s3_g
    have hI_s8_k : InvK s8.k := by rw [← hs8]; exact hI_s6_k
    have hF_s8_k : FrK [] s0.k s8.k := by rw [← hs8]; exact hF_s6_k
    exact ok_some ⟨hI_s8_k, hF_s8_k, hI_s8_g, by show -1 ≤ (r7).toInt; omega, (ti_rng _).2⟩
theorem ok_kX10_spread (s : XS) (x1 : Int32) (hI_s_k : InvK s.k) (hI_s_g : InvG s.g) : Ok (kX10_spread s x1) (Q_kX10_spread s) := ok_kX10_spreadB s s x1 hI_s_k FrK.rfl hI_s_g
abbrev Q_kX10_open (s0 : XS) (y : Int32 × XS) : Prop := InvK y.2.k ∧ FrK [] s0.k y.2.k ∧ InvG y.2.g ∧ -2147483648 ≤ y.1.toInt ∧ y.1.toInt ≤ 2147483647
set_option maxHeartbeats 1000000 in
theorem ok_kX10_open_40 (s0 : XS) (k4 : XS → Int32 → Int32 → Option (Int32 × XS)) (M4 : Nat) (hk4 : ∀ (s : XS) (x1 : Int32) (x2 : Int32), InvK s.k → FrK [] s0.k s.k → InvG s.g → 0 ≤ x2.toInt → x2.toInt ≤ 5 → (5 - x2.toInt).toNat < M4 → Ok (k4 s x1 x2) (Q_kX10_open s0)) (s : XS) (x1 : Int32) (x2 : Int32) (hI_s_k : InvK s.k) (hF_s_k : FrK [] s0.k s.k) (hI_s_g : InvG s.g) (h_x2l : 0 ≤ x2.toInt) (h_x2u : x2.toInt ≤ 4) (hM4 : (5 - x2.toInt).toNat ≤ M4) : Ok (kX10_open_40 k4 s x1 x2) (Q_kX10_open s0) := by
  unfold kX10_open_40
  have a_1 : ((x2 + 1)).toInt = (x2).toInt + 1 := tn_add rfl (by decide) (by omega) (by omega)
  exact hk4 _ _ _ hI_s_k hF_s_k hI_s_g (by omega) (by omega) (by omega)
set_option maxHeartbeats 1000000 in
theorem ok_kX10_open_4 (s0 : XS) (k4 : XS → Int32 → Int32 → Option (Int32 × XS)) (M4 : Nat) (hk4 : ∀ (s : XS) (x1 : Int32) (x2 : Int32), InvK s.k → FrK [] s0.k s.k → InvG s.g → 0 ≤ x2.toInt → x2.toInt ≤ 5 → (5 - x2.toInt).toNat < M4 → Ok (k4 s x1 x2) (Q_kX10_open s0)) (s : XS) (x1 : Int32) (x2 : Int32) (hI_s_k : InvK s.k) (hF_s_k : FrK [] s0.k s.k) (hI_s_g : InvG s.g) (h_x2l : 0 ≤ x2.toInt) (h_x2u : x2.toInt ≤ 5) (hM4 : (5 - x2.toInt).toNat ≤ M4) : Ok (kX10_open_4 k4 s x1 x2) (Q_kX10_open s0) := by
  unfold kX10_open_4
  have a_1 : 0 ≤ (s.k.v 1).toInt ∧ (s.k.v 1).toInt ≤ 5 := hI_s_k.1 1
  refine ok_ite (fun c_2 => ?_) (fun c_2 => ?_)
  · have c_2 := tn_le (a := ((s.k.v 1)).toInt) (b := (x2).toInt) rfl rfl c_2
    exact ok_some ⟨hI_s_k, hF_s_k, hI_s_g, (ti_rng _).1, (ti_rng _).2⟩
  · have c_2 := tn_nle (a := ((s.k.v 1)).toInt) (b := (x2).toInt) rfl rfl c_2
    refine ok_bindI (ok_kX0_mayBe _ _ hI_s_k (by omega) (by omega)) (fun r3 s2 hc_3 => ?_)
    have hI_s2_k : InvK s2.k := hc_3.1
    have hFc_s2_k : FrK [] s.k s2.k := hc_3.2.1
    have hF_s2_k : FrK [] s0.k s2.k := hF_s_k.trans hFc_s2_k (by decide)
    refine ok_let (fun s4 hs4 => ?_)
    have hI_s4_g : InvG s4.g := by rw [← hs4]; exact hI_s_g
    have hI_s4_k : InvK s4.k := by rw [← hs4]; exact hI_s2_k
    have hF_s4_k : FrK [] s0.k s4.k := by rw [← hs4]; exact hF_s2_k
    refine ok_bindP (ok_kJ6_bitCount_0f7a4 _ ) (fun r6 hc_4 => ?_)
    refine ok_ite (fun c_5 => ?_) (fun c_5 => ?_)
    · have c_5 := tn_le (a := (r6).toInt) (b := 1) rfl (by decide) c_5
      exact ok_kX10_open_40 s0 k4 M4 hk4 _ _ _ hI_s4_k hF_s4_k hI_s4_g (by omega) (by omega) (by omega)
    · have c_5 := tn_nle (a := (r6).toInt) (b := 1) rfl (by decide) c_5
      exact ok_kX10_open_40 s0 k4 M4 hk4 _ _ _ hI_s4_k hF_s4_k hI_s4_g (by omega) (by omega) (by omega)
theorem okL_kX10_open_4 (s0 : XS)  : ∀ (n : Nat) (s : XS) (x1 : Int32) (x2 : Int32), (5 - x2.toInt).toNat < n → InvK s.k → FrK [] s0.k s.k → InvG s.g → 0 ≤ x2.toInt → x2.toInt ≤ 5 → Ok (kX10_open_4L  n s x1 x2) (Q_kX10_open s0) := by
  intro n
  induction n with
  | zero => intro s x1 x2 hn; omega
  | succ n ih =>
    intro s x1 x2 hn hI_s_k hF_s_k hI_s_g h_x2l h_x2u 
    exact ok_kX10_open_4 s0 (kX10_open_4L  n) ((5 - x2.toInt).toNat) (fun zs zx1 zx2 g0 g1 g2 g3 g4  hm => ih zs zx1 zx2 (by omega) g0 g1 g2 g3 g4 ) s x1 x2 hI_s_k hF_s_k hI_s_g h_x2l h_x2u (Nat.le_refl _)
set_option maxHeartbeats 1000000 in
theorem ok_kX10_openB (s0 : XS)  (s : XS) (hI_s_k : InvK s.k) (hF_s_k : FrK [] s0.k s.k) (hI_s_g : InvG s.g)  : Ok (kX10_open  s) (Q_kX10_open s0) := by
  unfold kX10_open
  have l_0 : (0 : Int32).toInt = 0 := by decide
  exact okL_kX10_open_4 s0  fu _ _ _ (by unfold fu; omega) hI_s_k hF_s_k hI_s_g (by decide) (by decide) 
theorem ok_kX10_open (s : XS) (hI_s_k : InvK s.k) (hI_s_g : InvG s.g) : Ok (kX10_open s) (Q_kX10_open s) := ok_kX10_openB s s hI_s_k FrK.rfl hI_s_g
abbrev Q_kX10_hold (s0 : YS) (y : Int32 × YS) : Prop := InvK y.2.x.k ∧ FrK [] s0.x.k y.2.x.k ∧ InvG y.2.x.g ∧ 0 ≤ y.1.toInt ∧ y.1.toInt ≤ 1
set_option maxHeartbeats 1000000 in
theorem ok_kX10_holdB (s0 : YS)  (s : YS) (x1 : Int32) (hI_s_x_k : InvK s.x.k) (hF_s_x_k : FrK [] s0.x.k s.x.k) (hI_s_x_g : InvG s.x.g)  : Ok (kX10_hold  s x1) (Q_kX10_hold s0) := by
  unfold kX10_hold
  refine ok_bindI (ok_kX3_keepIn _ _ hI_s_x_g) (fun r2 s1 hc_1 => ?_)
  have hI_s1_g : InvG s1.g := hc_1.1
  have hl_r2 : 0 ≤ r2.toInt := hc_1.2.1
  have hu_r2 : r2.toInt ≤ 1 := hc_1.2.2
  refine ok_let (fun s3 hs3 => ?_)
  have hI_s3_x_k : InvK s3.x.k := by rw [← hs3]; exact hI_s_x_k
  have hF_s3_x_k : FrK [] s0.x.k s3.x.k := by rw [← hs3]; exact hF_s_x_k
  have hI_s3_x_g : InvG s3.x.g := by rw [← hs3]; exact hI_s1_g
  refine ok_grd (ti_z01 (by omega) (by omega)) ?_
  exact ok_some ⟨hI_s3_x_k, hF_s3_x_k, hI_s3_x_g, by show 0 ≤ (r2).toInt; omega, by show (r2).toInt ≤ 1; omega⟩
theorem ok_kX10_hold (s : YS) (x1 : Int32) (hI_s_x_k : InvK s.x.k) (hI_s_x_g : InvG s.x.g) : Ok (kX10_hold s x1) (Q_kX10_hold s) := ok_kX10_holdB s s x1 hI_s_x_k FrK.rfl hI_s_x_g
abbrev Q_kX10_restore (s0 : YS) (y : Int32 × YS) : Prop := InvK y.2.x.k ∧ FrK [] s0.x.k y.2.x.k ∧ InvG y.2.x.g ∧ 0 ≤ y.1.toInt ∧ y.1.toInt ≤ 1
set_option maxHeartbeats 1000000 in
theorem ok_kX10_restoreB (s0 : YS)  (s : YS) (x1 : Int32) (hI_s_x_k : InvK s.x.k) (hF_s_x_k : FrK [] s0.x.k s.x.k) (hI_s_x_g : InvG s.x.g)  : Ok (kX10_restore  s x1) (Q_kX10_restore s0) := by
  unfold kX10_restore
  refine ok_bindI (ok_kX3_goOnFrom _ _ hI_s_x_g) (fun r2 s1 hc_1 => ?_)
  have hI_s1_g : InvG s1.g := hc_1.1
  have hl_r2 : 0 ≤ r2.toInt := hc_1.2.1
  have hu_r2 : r2.toInt ≤ 1 := hc_1.2.2
  refine ok_let (fun s3 hs3 => ?_)
  have hI_s3_x_k : InvK s3.x.k := by rw [← hs3]; exact hI_s_x_k
  have hF_s3_x_k : FrK [] s0.x.k s3.x.k := by rw [← hs3]; exact hF_s_x_k
  have hI_s3_x_g : InvG s3.x.g := by rw [← hs3]; exact hI_s1_g
  refine ok_grd (ti_z01 (by omega) (by omega)) ?_
  exact ok_some ⟨hI_s3_x_k, hF_s3_x_k, hI_s3_x_g, by show 0 ≤ (r2).toInt; omega, by show (r2).toInt ≤ 1; omega⟩
theorem ok_kX10_restore (s : YS) (x1 : Int32) (hI_s_x_k : InvK s.x.k) (hI_s_x_g : InvG s.x.g) : Ok (kX10_restore s x1) (Q_kX10_restore s) := ok_kX10_restoreB s s x1 hI_s_x_k FrK.rfl hI_s_x_g
abbrev Q_kX10_buoysLying (s0 : XS) (y : Int32 × XS) : Prop := InvK y.2.k ∧ FrK [] s0.k y.2.k ∧ InvG y.2.g ∧ -2147483648 ≤ y.1.toInt ∧ y.1.toInt ≤ 2147483647
set_option maxHeartbeats 1000000 in
theorem ok_kX10_buoysLying_4 (s0 : XS) (k4 : XS → Int32 → Int32 → Option (Int32 × XS)) (M4 : Nat) (hk4 : ∀ (s : XS) (x1 : Int32) (x2 : Int32), InvK s.k → FrK [] s0.k s.k → InvG s.g → 0 ≤ x2.toInt → x2.toInt ≤ 5 → (5 - x2.toInt).toNat < M4 → Ok (k4 s x1 x2) (Q_kX10_buoysLying s0)) (s : XS) (x1 : Int32) (x2 : Int32) (hI_s_k : InvK s.k) (hF_s_k : FrK [] s0.k s.k) (hI_s_g : InvG s.g) (h_x2l : 0 ≤ x2.toInt) (h_x2u : x2.toInt ≤ 5) (hM4 : (5 - x2.toInt).toNat ≤ M4) : Ok (kX10_buoysLying_4 k4 s x1 x2) (Q_kX10_buoysLying s0) := by
  unfold kX10_buoysLying_4
  have a_1 : 0 ≤ (s.k.v 1).toInt ∧ (s.k.v 1).toInt ≤ 5 := hI_s_k.1 1
  refine ok_ite (fun c_2 => ?_) (fun c_2 => ?_)
  · have c_2 := tn_le (a := ((s.k.v 1)).toInt) (b := (x2).toInt) rfl rfl c_2
    exact ok_some ⟨hI_s_k, hF_s_k, hI_s_g, (ti_rng _).1, (ti_rng _).2⟩
  · have c_2 := tn_nle (a := ((s.k.v 1)).toInt) (b := (x2).toInt) rfl rfl c_2
    refine ok_grd (vpb_ok (by omega) (by omega)) ?_
    refine ok_bindP (ok_kJ6_bitCount_0f7a4 _ ) (fun r3 hc_3 => ?_)
    have a_4 : ((x2 + 1)).toInt = (x2).toInt + 1 := tn_add rfl (by decide) (by omega) (by omega)
    exact hk4 _ _ _ hI_s_k hF_s_k hI_s_g (by omega) (by omega) (by omega)
theorem okL_kX10_buoysLying_4 (s0 : XS)  : ∀ (n : Nat) (s : XS) (x1 : Int32) (x2 : Int32), (5 - x2.toInt).toNat < n → InvK s.k → FrK [] s0.k s.k → InvG s.g → 0 ≤ x2.toInt → x2.toInt ≤ 5 → Ok (kX10_buoysLying_4L  n s x1 x2) (Q_kX10_buoysLying s0) := by
  intro n
  induction n with
  | zero => intro s x1 x2 hn; omega
  | succ n ih =>
    intro s x1 x2 hn hI_s_k hF_s_k hI_s_g h_x2l h_x2u 
    exact ok_kX10_buoysLying_4 s0 (kX10_buoysLying_4L  n) ((5 - x2.toInt).toNat) (fun zs zx1 zx2 g0 g1 g2 g3 g4  hm => ih zs zx1 zx2 (by omega) g0 g1 g2 g3 g4 ) s x1 x2 hI_s_k hF_s_k hI_s_g h_x2l h_x2u (Nat.le_refl _)
set_option maxHeartbeats 1000000 in
theorem ok_kX10_buoysLyingB (s0 : XS)  (s : XS) (hI_s_k : InvK s.k) (hF_s_k : FrK [] s0.k s.k) (hI_s_g : InvG s.g)  : Ok (kX10_buoysLying  s) (Q_kX10_buoysLying s0) := by
  unfold kX10_buoysLying
  have l_0 : (0 : Int32).toInt = 0 := by decide
  exact okL_kX10_buoysLying_4 s0  fu _ _ _ (by unfold fu; omega) hI_s_k hF_s_k hI_s_g (by decide) (by decide) 
theorem ok_kX10_buoysLying (s : XS) (hI_s_k : InvK s.k) (hI_s_g : InvG s.g) : Ok (kX10_buoysLying s) (Q_kX10_buoysLying s) := ok_kX10_buoysLyingB s s hI_s_k FrK.rfl hI_s_g
abbrev Q_kX10_lot (y : Int32) : Prop := -2147483648 ≤ y.toInt ∧ y.toInt ≤ 2147483647
set_option maxHeartbeats 1000000 in
theorem ok_kX10_lotB  (x0 : Int32) (x1 : Int32) (x2 : Int32)   : Ok (kX10_lot  x0 x1 x2) Q_kX10_lot := by
  unfold kX10_lot
  refine ok_ite (fun c_1 => ?_) (fun c_1 => ?_)
  · have c_1 := tn_lt (a := 0) (b := (x0).toInt) (by decide) rfl c_1
    refine ok_bindP (ok_kX10_stirred _ _ ) (fun r2 hc_2 => ?_)
    refine ok_bindP (ok_kX10_stirred _ _ ) (fun r3 hc_3 => ?_)
    refine ok_grd (fun h => by have := tn_eq rfl (b := 0) (by decide) h; omega) ?_
    exact ok_some ⟨(ti_rng _).1, (ti_rng _).2⟩
  · have c_1 := tn_nlt (a := 0) (b := (x0).toInt) (by decide) rfl c_1
    exact ok_some ⟨(ti_rng _).1, (ti_rng _).2⟩
theorem ok_kX10_lot (x0 : Int32) (x1 : Int32) (x2 : Int32)  : Ok (kX10_lot x0 x1 x2) Q_kX10_lot := ok_kX10_lotB x0 x1 x2 
abbrev Q_kX1_clear (s0 : KS) (y : KS) : Prop := InvK y ∧ FrK [12, 13, 122, 123, 124, 125] s0 y
set_option maxHeartbeats 1000000 in
theorem ok_kX1_clearB (s0 : KS)  (s : KS) (hI_s : InvK s) (hF_s : FrK [12, 13, 122, 123, 124, 125] s0 s)  : Ok (kX1_clear  s) (Q_kX1_clear s0) := by
  unfold kX1_clear
  refine ok_let (fun s1 hs1 => ?_)
  have hI_s1 : InvK s1 := by rw [← hs1]; exact hI_s.sv (k := 12) (show (0 : Int) ≤ (0 : Int32).toInt by decide) (show (0 : Int32).toInt ≤ (404 : Int) by decide)
  have hF_s1 : FrK [12, 13, 122, 123, 124, 125] s0 s1 := by rw [← hs1]; exact hF_s.sv (k := 12) (by decide)
  refine ok_bindP (ok_kX1_begin _ _ hI_s1 (by decide) (by decide)) (fun s3 hc_1 => ?_)
  have hI_s3 : InvK s3 := hc_1.1
  have hFc_s3 : FrK [13, 124, 125] s1 s3 := hc_1.2
  have hF_s3 : FrK [12, 13, 122, 123, 124, 125] s0 s3 := hF_s1.trans hFc_s3 (by decide)
  refine ok_bindP (ok_kX1_putVar _ _ hI_s3 (by decide) (by decide)) (fun s4 hc_2 => ?_)
  have hI_s4 : InvK s4 := hc_2.1
  have hFc_s4 : FrK [12, 122] s3 s4 := hc_2.2
  have hF_s4 : FrK [12, 13, 122, 123, 124, 125] s0 s4 := hF_s3.trans hFc_s4 (by decide)
  refine ok_bindP (ok_kX1_endPart _  hI_s4) (fun s5 hc_3 => ?_)
  have hI_s5 : InvK s5 := hc_3.1
  have hFc_s5 : FrK [123, 125] s4 s5 := hc_3.2
  have hF_s5 : FrK [12, 13, 122, 123, 124, 125] s0 s5 := hF_s4.trans hFc_s5 (by decide)
  refine ok_bindP (ok_kX1_begin _ _ hI_s5 (by decide) (by decide)) (fun s6 hc_4 => ?_)
  have hI_s6 : InvK s6 := hc_4.1
  have hFc_s6 : FrK [13, 124, 125] s5 s6 := hc_4.2
  have hF_s6 : FrK [12, 13, 122, 123, 124, 125] s0 s6 := hF_s5.trans hFc_s6 (by decide)
  refine ok_bindP (ok_kX1_putNumber _ _ hI_s6) (fun s7 hc_5 => ?_)
  have hI_s7 : InvK s7 := hc_5.1
  have hFc_s7 : FrK [12, 122] s6 s7 := hc_5.2
  have hF_s7 : FrK [12, 13, 122, 123, 124, 125] s0 s7 := hF_s6.trans hFc_s7 (by decide)
  refine ok_bindP (ok_kX1_endPart _  hI_s7) (fun s8 hc_6 => ?_)
  have hI_s8 : InvK s8 := hc_6.1
  have hFc_s8 : FrK [123, 125] s7 s8 := hc_6.2
  have hF_s8 : FrK [12, 13, 122, 123, 124, 125] s0 s8 := hF_s7.trans hFc_s8 (by decide)
  refine ok_bindP (ok_kX1_begin _ _ hI_s8 (by decide) (by decide)) (fun s9 hc_7 => ?_)
  have hI_s9 : InvK s9 := hc_7.1
  have hFc_s9 : FrK [13, 124, 125] s8 s9 := hc_7.2
  have hF_s9 : FrK [12, 13, 122, 123, 124, 125] s0 s9 := hF_s8.trans hFc_s9 (by decide)
  refine ok_bindP (ok_kX1_putNumber _ _ hI_s9) (fun s10 hc_8 => ?_)
  have hI_s10 : InvK s10 := hc_8.1
  have hFc_s10 : FrK [12, 122] s9 s10 := hc_8.2
  have hF_s10 : FrK [12, 13, 122, 123, 124, 125] s0 s10 := hF_s9.trans hFc_s10 (by decide)
  refine ok_bindP (ok_kX1_endPart _  hI_s10) (fun s11 hc_9 => ?_)
  have hI_s11 : InvK s11 := hc_9.1
  have hFc_s11 : FrK [123, 125] s10 s11 := hc_9.2
  have hF_s11 : FrK [12, 13, 122, 123, 124, 125] s0 s11 := hF_s10.trans hFc_s11 (by decide)
  refine ok_bindP (ok_kX1_begin _ _ hI_s11 (by decide) (by decide)) (fun s12 hc_10 => ?_)
  have hI_s12 : InvK s12 := hc_10.1
  have hFc_s12 : FrK [13, 124, 125] s11 s12 := hc_10.2
  have hF_s12 : FrK [12, 13, 122, 123, 124, 125] s0 s12 := hF_s11.trans hFc_s12 (by decide)
  refine ok_bindP (ok_kX1_putNumber _ _ hI_s12) (fun s13 hc_11 => ?_)
  have hI_s13 : InvK s13 := hc_11.1
  have hFc_s13 : FrK [12, 122] s12 s13 := hc_11.2
  have hF_s13 : FrK [12, 13, 122, 123, 124, 125] s0 s13 := hF_s12.trans hFc_s13 (by decide)
  refine ok_bindP (ok_kX1_endPart _  hI_s13) (fun s14 hc_12 => ?_)
  have hI_s14 : InvK s14 := hc_12.1
  have hFc_s14 : FrK [123, 125] s13 s14 := hc_12.2
  have hF_s14 : FrK [12, 13, 122, 123, 124, 125] s0 s14 := hF_s13.trans hFc_s14 (by decide)
  exact ok_some ⟨hI_s14, hF_s14⟩
theorem ok_kX1_clear (s : KS) (hI_s : InvK s) : Ok (kX1_clear s) (Q_kX1_clear s) := ok_kX1_clearB s s hI_s FrK.rfl
abbrev Q_kX1_valueOf (s0 : KS) (y : Int32 × KS) : Prop := InvK y.2 ∧ FrK [7, 114] s0 y.2 ∧ -2147483648 ≤ y.1.toInt ∧ y.1.toInt ≤ 2147483647
set_option maxHeartbeats 1000000 in
theorem ok_kX1_valueOf_77 (s0 : KS)  (s : KS) (x1 : Int32) (x3 : Int32) (hI_s : InvK s) (hF_s : FrK [7, 114] s0 s) (h_x1l : 0 ≤ x1.toInt) (h_x1u : x1.toInt ≤ 3) (h_x3l : -1 ≤ x3.toInt) (h_x3u : x3.toInt ≤ 12)  : Ok (kX1_valueOf_77  s x1 x3) (Q_kX1_valueOf s0) := by
  unfold kX1_valueOf_77
  refine ok_bindI (ok_kX1_partValue _ _ _ hI_s (by omega) (by omega) (by omega) (by omega)) (fun r2 s1 hc_1 => ?_)
  have hI_s1 : InvK s1 := hc_1.1
  have hFc_s1 : FrK [7, 114] s s1 := hc_1.2.1
  have hF_s1 : FrK [7, 114] s0 s1 := hF_s.trans hFc_s1 (by decide)
  refine ok_ite (fun c_2 => ?_) (fun c_2 => ?_)
  · have c_2 := tn_eq (a := ((s1.v 7)).toInt) (b := 0) rfl (by decide) c_2
    exact ok_some ⟨hI_s1, hF_s1, (ti_rng _).1, (ti_rng _).2⟩
  · have c_2 := tn_ne (a := ((s1.v 7)).toInt) (b := 0) rfl (by decide) c_2
    exact ok_some ⟨hI_s1, hF_s1, (ti_rng _).1, (ti_rng _).2⟩
set_option maxHeartbeats 1000000 in
theorem ok_kX1_valueOf_19 (s0 : KS) (k19 : KS → Int32 → Int32 → Int32 → Int32 → Option (Int32 × KS)) (M19 : Nat) (hk19 : ∀ (s : KS) (x1 : Int32) (x2 : Int32) (x3 : Int32) (x4 : Int32), InvK s → FrK [7, 114] s0 s → 0 ≤ x1.toInt → x1.toInt ≤ 3 → -1 ≤ x2.toInt → x2.toInt ≤ 12 → -1 ≤ x3.toInt → x3.toInt ≤ 12 → 0 ≤ x4.toInt → x4.toInt ≤ 12 → (12 - x4.toInt).toNat < M19 → Ok (k19 s x1 x2 x3 x4) (Q_kX1_valueOf s0)) (s : KS) (x1 : Int32) (x2 : Int32) (x3 : Int32) (x4 : Int32) (hI_s : InvK s) (hF_s : FrK [7, 114] s0 s) (h_x1l : 0 ≤ x1.toInt) (h_x1u : x1.toInt ≤ 3) (h_x2l : -1 ≤ x2.toInt) (h_x2u : x2.toInt ≤ 12) (h_x3l : -1 ≤ x3.toInt) (h_x3u : x3.toInt ≤ 12) (h_x4l : 0 ≤ x4.toInt) (h_x4u : x4.toInt ≤ 12) (hM19 : (12 - x4.toInt).toNat ≤ M19) : Ok (kX1_valueOf_19 k19 s x1 x2 x3 x4) (Q_kX1_valueOf s0) := by
  unfold kX1_valueOf_19
  have a_1 : ((x4 + 2)).toInt = (x4).toInt + 2 := tn_add rfl (by decide) (by omega) (by omega)
  refine ok_ite (fun c_2 => ?_) (fun c_2 => ?_)
  · have c_2 := tn_le (a := (x2).toInt) (b := ((x4 + 2)).toInt) rfl rfl c_2
    exact ok_kX1_valueOf_77 s0  _ _ _ hI_s hF_s (by omega) (by omega) (by omega) (by omega) 
  · have c_2 := tn_nle (a := (x2).toInt) (b := ((x4 + 2)).toInt) rfl rfl c_2
    refine ok_bindI (ok_kX1_partValue _ _ _ hI_s (by omega) (by omega) (by omega) (by omega)) (fun r3 s2 hc_3 => ?_)
    have hI_s2 : InvK s2 := hc_3.1
    have hFc_s2 : FrK [7, 114] s s2 := hc_3.2.1
    have hF_s2 : FrK [7, 114] s0 s2 := hF_s.trans hFc_s2 (by decide)
    have a_4 : ((x4 + 1)).toInt = (x4).toInt + 1 := tn_add rfl (by decide) (by omega) (by omega)
    refine ok_bindI (ok_kX1_partValue _ _ _ hI_s2 (by omega) (by omega) (by omega) (by omega)) (fun r5 s4 hc_5 => ?_)
    have hI_s4 : InvK s4 := hc_5.1
    have hFc_s4 : FrK [7, 114] s2 s4 := hc_5.2.1
    have hF_s4 : FrK [7, 114] s0 s4 := hF_s2.trans hFc_s4 (by decide)
    refine ok_ite (fun c_6 => ?_) (fun c_6 => ?_)
    · have c_6 := tn_eq (a := ((s4.v 7)).toInt) (b := 0) rfl (by decide) c_6
      refine ok_ite (fun c_7 => ?_) (fun c_7 => ?_)
      · have c_7 := tn_le (a := (r5).toInt) (b := (r3).toInt) rfl rfl c_7
        have a_8 : ((x4 + 3)).toInt = (x4).toInt + 3 := tn_add rfl (by decide) (by omega) (by omega)
        exact hk19 _ _ _ _ _ hI_s4 hF_s4 (by omega) (by omega) (by omega) (by omega) (by omega) (by omega) (by omega) (by omega) (by omega)
      · have c_7 := tn_nle (a := (r5).toInt) (b := (r3).toInt) rfl rfl c_7
        exact ok_kX1_valueOf_77 s0  _ _ _ hI_s4 hF_s4 (by omega) (by omega) (by omega) (by omega) 
    · have c_6 := tn_ne (a := ((s4.v 7)).toInt) (b := 0) rfl (by decide) c_6
      exact ok_some ⟨hI_s4, hF_s4, (ti_rng _).1, (ti_rng _).2⟩
theorem okL_kX1_valueOf_19 (s0 : KS)  : ∀ (n : Nat) (s : KS) (x1 : Int32) (x2 : Int32) (x3 : Int32) (x4 : Int32), (12 - x4.toInt).toNat < n → InvK s → FrK [7, 114] s0 s → 0 ≤ x1.toInt → x1.toInt ≤ 3 → -1 ≤ x2.toInt → x2.toInt ≤ 12 → -1 ≤ x3.toInt → x3.toInt ≤ 12 → 0 ≤ x4.toInt → x4.toInt ≤ 12 → Ok (kX1_valueOf_19L  n s x1 x2 x3 x4) (Q_kX1_valueOf s0) := by
  intro n
  induction n with
  | zero => intro s x1 x2 x3 x4 hn; omega
  | succ n ih =>
    intro s x1 x2 x3 x4 hn hI_s hF_s h_x1l h_x1u h_x2l h_x2u h_x3l h_x3u h_x4l h_x4u 
    exact ok_kX1_valueOf_19 s0 (kX1_valueOf_19L  n) ((12 - x4.toInt).toNat) (fun zs zx1 zx2 zx3 zx4 g0 g1 g2 g3 g4 g5 g6 g7 g8 g9  hm => ih zs zx1 zx2 zx3 zx4 (by omega) g0 g1 g2 g3 g4 g5 g6 g7 g8 g9 ) s x1 x2 x3 x4 hI_s hF_s h_x1l h_x1u h_x2l h_x2u h_x3l h_x3u h_x4l h_x4u (Nat.le_refl _)
set_option maxHeartbeats 1000000 in
theorem ok_kX1_valueOfB (s0 : KS)  (s : KS) (x1 : Int32) (hI_s : InvK s) (hF_s : FrK [7, 114] s0 s) (h_x1l : 0 ≤ x1.toInt) (h_x1u : x1.toInt ≤ 3)  : Ok (kX1_valueOf  s x1) (Q_kX1_valueOf s0) := by
  unfold kX1_valueOf
  refine ok_let (fun s1 hs1 => ?_)
  have hI_s1 : InvK s1 := by rw [← hs1]; exact hI_s.svF (k := 7) rfl rfl
  have hF_s1 : FrK [7, 114] s0 s1 := by rw [← hs1]; exact hF_s.sv (k := 7) (by decide)
  refine ok_grd (vpb_ok (by omega) (by omega)) ?_
  have a_1 : 0 ≤ (((s1.f 12) (Int32.toNatClampNeg x1))).toInt ∧ (((s1.f 12) (Int32.toNatClampNeg x1))).toInt ≤ 13 := hI_s1.2 12 _
  have a_2 : ((((s1.f 12) (Int32.toNatClampNeg x1)) - 1)).toInt = (((s1.f 12) (Int32.toNatClampNeg x1))).toInt - 1 := tn_sub rfl (by decide) (by omega) (by omega)
  have l_0 : (0 : Int32).toInt = 0 := by decide
  exact okL_kX1_valueOf_19 s0  fu _ _ _ _ _ (by unfold fu; omega) hI_s1 hF_s1 (by omega) (by omega) (by omega) (by omega) (by omega) (by omega) (by decide) (by decide) 
theorem ok_kX1_valueOf (s : KS) (x1 : Int32) (hI_s : InvK s) (h_x1l : 0 ≤ x1.toInt) (h_x1u : x1.toInt ≤ 3) : Ok (kX1_valueOf s x1) (Q_kX1_valueOf s) := ok_kX1_valueOfB s s x1 hI_s FrK.rfl h_x1l h_x1u
abbrev Q_kX2_oddsOfAll (s0 : JS) (y : Int32 × JS) : Prop := InvK y.2.k ∧ FrK [] s0.k y.2.k ∧ -2147483648 ≤ y.1.toInt ∧ y.1.toInt ≤ 2147483647
set_option maxHeartbeats 1000000 in
theorem ok_kX2_oddsOfAll_61 (s0 : JS) (k5 : JS → Int32 → Int32 → Int32 → Option (Int32 × JS)) (M5 : Nat) (hk5 : ∀ (s : JS) (x2 : Int32) (x3 : Int32) (x4 : Int32), InvK s.k → FrK [] s0.k s.k → -1 ≤ x2.toInt → x2.toInt ≤ 4 → 0 ≤ x4.toInt → x4.toInt ≤ 5 → (5 - x4.toInt).toNat < M5 → Ok (k5 s x2 x3 x4) (Q_kX2_oddsOfAll s0)) (s : JS) (x2 : Int32) (x3 : Int32) (x4 : Int32) (hI_s_k : InvK s.k) (hF_s_k : FrK [] s0.k s.k) (h_x2l : -1 ≤ x2.toInt) (h_x2u : x2.toInt ≤ 4) (h_x4l : 0 ≤ x4.toInt) (h_x4u : x4.toInt ≤ 4) (hM5 : (5 - x4.toInt).toNat ≤ M5) : Ok (kX2_oddsOfAll_61 k5 s x2 x3 x4) (Q_kX2_oddsOfAll s0) := by
  unfold kX2_oddsOfAll_61
  have a_1 : ((x4 + 1)).toInt = (x4).toInt + 1 := tn_add rfl (by decide) (by omega) (by omega)
  exact hk5 _ _ _ _ hI_s_k hF_s_k (by omega) (by omega) (by omega) (by omega) (by omega)
set_option maxHeartbeats 1000000 in
theorem ok_kX2_oddsOfAll_29 (s0 : JS) (k5 : JS → Int32 → Int32 → Int32 → Option (Int32 × JS)) (M5 : Nat) (hk5 : ∀ (s : JS) (x2 : Int32) (x3 : Int32) (x4 : Int32), InvK s.k → FrK [] s0.k s.k → -1 ≤ x2.toInt → x2.toInt ≤ 4 → 0 ≤ x4.toInt → x4.toInt ≤ 5 → (5 - x4.toInt).toNat < M5 → Ok (k5 s x2 x3 x4) (Q_kX2_oddsOfAll s0)) (k29 : JS → Int32 → Int32 → Int32 → Int32 → Int32 → Option (Int32 × JS)) (M29 : Nat) (hk29 : ∀ (s : JS) (x2 : Int32) (x3 : Int32) (x4 : Int32) (x5 : Int32) (x6 : Int32), InvK s.k → FrK [] s0.k s.k → -1 ≤ x2.toInt → x2.toInt ≤ 4 → 0 ≤ x4.toInt → x4.toInt ≤ 4 → 0 ≤ x6.toInt → x6.toInt ≤ 6 → (5 - x4.toInt).toNat ≤ M5 → (6 - x6.toInt).toNat < M29 → Ok (k29 s x2 x3 x4 x5 x6) (Q_kX2_oddsOfAll s0)) (s : JS) (x2 : Int32) (x3 : Int32) (x4 : Int32) (x5 : Int32) (x6 : Int32) (hI_s_k : InvK s.k) (hF_s_k : FrK [] s0.k s.k) (h_x2l : -1 ≤ x2.toInt) (h_x2u : x2.toInt ≤ 4) (h_x4l : 0 ≤ x4.toInt) (h_x4u : x4.toInt ≤ 4) (h_x6l : 0 ≤ x6.toInt) (h_x6u : x6.toInt ≤ 6) (hM5 : (5 - x4.toInt).toNat ≤ M5) (hM29 : (6 - x6.toInt).toNat ≤ M29) : Ok (kX2_oddsOfAll_29 k5 k29 s x2 x3 x4 x5 x6) (Q_kX2_oddsOfAll s0) := by
  unfold kX2_oddsOfAll_29
  refine ok_ite (fun c_1 => ?_) (fun c_1 => ?_)
  · have c_1 := tn_le (a := 6) (b := (x6).toInt) (by decide) rfl c_1
    exact ok_kX2_oddsOfAll_61 s0 k5 M5 hk5 _ _ _ _ hI_s_k hF_s_k (by omega) (by omega) (by omega) (by omega) (by omega)
  · have c_1 := tn_nle (a := 6) (b := (x6).toInt) (by decide) rfl c_1
    refine ok_bindI (ok_kX2_oddsIfMay _ _ _ hI_s_k (by omega) (by omega) (by omega) (by omega)) (fun r3 s2 hc_2 => ?_)
    have hI_s2_k : InvK s2.k := hc_2.1
    have hFc_s2_k : FrK [] s.k s2.k := hc_2.2.1
    have hF_s2_k : FrK [] s0.k s2.k := hF_s_k.trans hFc_s2_k (by decide)
    have a_3 : ((x6 + 1)).toInt = (x6).toInt + 1 := tn_add rfl (by decide) (by omega) (by omega)
    exact hk29 _ _ _ _ _ _ hI_s2_k hF_s2_k (by omega) (by omega) (by omega) (by omega) (by omega) (by omega) (by omega) (by omega)
theorem okL_kX2_oddsOfAll_29 (s0 : JS) (k5 : JS → Int32 → Int32 → Int32 → Option (Int32 × JS)) (M5 : Nat) (hk5 : ∀ (s : JS) (x2 : Int32) (x3 : Int32) (x4 : Int32), InvK s.k → FrK [] s0.k s.k → -1 ≤ x2.toInt → x2.toInt ≤ 4 → 0 ≤ x4.toInt → x4.toInt ≤ 5 → (5 - x4.toInt).toNat < M5 → Ok (k5 s x2 x3 x4) (Q_kX2_oddsOfAll s0)) : ∀ (n : Nat) (s : JS) (x2 : Int32) (x3 : Int32) (x4 : Int32) (x5 : Int32) (x6 : Int32), (6 - x6.toInt).toNat < n → InvK s.k → FrK [] s0.k s.k → -1 ≤ x2.toInt → x2.toInt ≤ 4 → 0 ≤ x4.toInt → x4.toInt ≤ 4 → 0 ≤ x6.toInt → x6.toInt ≤ 6 → (5 - x4.toInt).toNat ≤ M5 → Ok (kX2_oddsOfAll_29L k5 n s x2 x3 x4 x5 x6) (Q_kX2_oddsOfAll s0) := by
  intro n
  induction n with
  | zero => intro s x2 x3 x4 x5 x6 hn; omega
  | succ n ih =>
    intro s x2 x3 x4 x5 x6 hn hI_s_k hF_s_k h_x2l h_x2u h_x4l h_x4u h_x6l h_x6u hM5
    exact ok_kX2_oddsOfAll_29 s0 k5 M5 hk5 (kX2_oddsOfAll_29L k5 n) ((6 - x6.toInt).toNat) (fun zs zx2 zx3 zx4 zx5 zx6 g0 g1 g2 g3 g4 g5 g6 g7 o5 hm => ih zs zx2 zx3 zx4 zx5 zx6 (by omega) g0 g1 g2 g3 g4 g5 g6 g7 o5) s x2 x3 x4 x5 x6 hI_s_k hF_s_k h_x2l h_x2u h_x4l h_x4u h_x6l h_x6u hM5 (Nat.le_refl _)
set_option maxHeartbeats 1000000 in
theorem ok_kX2_oddsOfAll_5 (s0 : JS) (k5 : JS → Int32 → Int32 → Int32 → Option (Int32 × JS)) (M5 : Nat) (hk5 : ∀ (s : JS) (x2 : Int32) (x3 : Int32) (x4 : Int32), InvK s.k → FrK [] s0.k s.k → -1 ≤ x2.toInt → x2.toInt ≤ 4 → 0 ≤ x4.toInt → x4.toInt ≤ 5 → (5 - x4.toInt).toNat < M5 → Ok (k5 s x2 x3 x4) (Q_kX2_oddsOfAll s0)) (s : JS) (x2 : Int32) (x3 : Int32) (x4 : Int32) (hI_s_k : InvK s.k) (hF_s_k : FrK [] s0.k s.k) (h_x2l : -1 ≤ x2.toInt) (h_x2u : x2.toInt ≤ 4) (h_x4l : 0 ≤ x4.toInt) (h_x4u : x4.toInt ≤ 5) (hM5 : (5 - x4.toInt).toNat ≤ M5) : Ok (kX2_oddsOfAll_5 k5 s x2 x3 x4) (Q_kX2_oddsOfAll s0) := by
  unfold kX2_oddsOfAll_5
  have a_1 : 0 ≤ (s.k.v 1).toInt ∧ (s.k.v 1).toInt ≤ 5 := hI_s_k.1 1
  refine ok_ite (fun c_2 => ?_) (fun c_2 => ?_)
  · have c_2 := tn_le (a := ((s.k.v 1)).toInt) (b := (x4).toInt) rfl rfl c_2
    exact ok_some ⟨hI_s_k, hF_s_k, (ti_rng _).1, (ti_rng _).2⟩
  · have c_2 := tn_nle (a := ((s.k.v 1)).toInt) (b := (x4).toInt) rfl rfl c_2
    refine ok_ite (fun c_3 => ?_) (fun c_3 => ?_)
    · have c_3 := tn_eq (a := (x4).toInt) (b := (x2).toInt) rfl rfl c_3
      exact ok_kX2_oddsOfAll_61 s0 k5 M5 hk5 _ _ _ _ hI_s_k hF_s_k (by omega) (by omega) (by omega) (by omega) (by omega)
    · have c_3 := tn_ne (a := (x4).toInt) (b := (x2).toInt) rfl rfl c_3
      have l_0 : (0 : Int32).toInt = 0 := by decide
      exact okL_kX2_oddsOfAll_29 s0 k5 M5 hk5 fu _ _ _ _ _ _ (by unfold fu; omega) hI_s_k hF_s_k (by omega) (by omega) (by omega) (by omega) (by decide) (by decide) (by omega)
theorem okL_kX2_oddsOfAll_5 (s0 : JS)  : ∀ (n : Nat) (s : JS) (x2 : Int32) (x3 : Int32) (x4 : Int32), (5 - x4.toInt).toNat < n → InvK s.k → FrK [] s0.k s.k → -1 ≤ x2.toInt → x2.toInt ≤ 4 → 0 ≤ x4.toInt → x4.toInt ≤ 5 → Ok (kX2_oddsOfAll_5L  n s x2 x3 x4) (Q_kX2_oddsOfAll s0) := by
  intro n
  induction n with
  | zero => intro s x2 x3 x4 hn; omega
  | succ n ih =>
    intro s x2 x3 x4 hn hI_s_k hF_s_k h_x2l h_x2u h_x4l h_x4u 
    exact ok_kX2_oddsOfAll_5 s0 (kX2_oddsOfAll_5L  n) ((5 - x4.toInt).toNat) (fun zs zx2 zx3 zx4 g0 g1 g2 g3 g4 g5  hm => ih zs zx2 zx3 zx4 (by omega) g0 g1 g2 g3 g4 g5 ) s x2 x3 x4 hI_s_k hF_s_k h_x2l h_x2u h_x4l h_x4u (Nat.le_refl _)
set_option maxHeartbeats 1000000 in
theorem ok_kX2_oddsOfAllB (s0 : JS)  (s : JS) (x2 : Int32) (hI_s_k : InvK s.k) (hF_s_k : FrK [] s0.k s.k) (h_x2l : -1 ≤ x2.toInt) (h_x2u : x2.toInt ≤ 4)  : Ok (kX2_oddsOfAll  s x2) (Q_kX2_oddsOfAll s0) := by
  unfold kX2_oddsOfAll
  have l_1 : (1 : Int32).toInt = 1 := by decide
  have l_0 : (0 : Int32).toInt = 0 := by decide
  exact okL_kX2_oddsOfAll_5 s0  fu _ _ _ _ (by unfold fu; omega) hI_s_k hF_s_k (by omega) (by omega) (by decide) (by decide) 
theorem ok_kX2_oddsOfAll (s : JS) (x2 : Int32) (hI_s_k : InvK s.k) (h_x2l : -1 ≤ x2.toInt) (h_x2u : x2.toInt ≤ 4) : Ok (kX2_oddsOfAll s x2) (Q_kX2_oddsOfAll s) := ok_kX2_oddsOfAllB s s x2 hI_s_k FrK.rfl h_x2l h_x2u
abbrev Q_kX4_readProduct (s0 : KS) (y : KS) : Prop := InvK y ∧ FrK [12, 15, 16, 17, 122] s0 y
set_option maxHeartbeats 1000000 in
theorem ok_kX4_readProduct_32 (R : KS → Int32 → Option KS) (D : Nat) (hR : ∀ (s : KS) (x1 : Int32), InvK s → 0 ≤ x1.toInt → x1.toInt ≤ 6 → (6 - x1.toInt).toNat < D → Ok (R s x1) (fun y => InvK y ∧ FrK [12, 15, 16, 17, 122] s y)) (s0 : KS) (k7 : KS → Int32 → Int32 → Option (KS)) (M7 : Nat) (hk7 : ∀ (s : KS) (x1 : Int32) (x2 : Int32), InvK s → FrK [12, 15, 16, 17, 122] s0 s → 0 ≤ x1.toInt → x1.toInt ≤ 6 → 0 ≤ x2.toInt → x2.toInt ≤ 400 → (6 - x1.toInt).toNat ≤ D → (400 - x2.toInt).toNat < M7 → Ok (k7 s x1 x2) (Q_kX4_readProduct s0)) (s : KS) (x1 : Int32) (x2 : Int32) (hI_s : InvK s) (hF_s : FrK [12, 15, 16, 17, 122] s0 s) (h_x1l : 0 ≤ x1.toInt) (h_x1u : x1.toInt ≤ 6) (h_x2l : 0 ≤ x2.toInt) (h_x2u : x2.toInt ≤ 399) (hD : (6 - x1.toInt).toNat ≤ D) (hM7 : (400 - x2.toInt).toNat ≤ M7) : Ok (kX4_readProduct_32 R k7 s x1 x2) (Q_kX4_readProduct s0) := by
  unfold kX4_readProduct_32
  have a_1 : 0 ≤ (s.v 15).toInt ∧ (s.v 15).toInt ≤ 400 := hI_s.1 15
  refine ok_grd (vpb_ok (by omega) (by omega)) ?_
  refine ok_bindP (ok_kX4_take _ _ hI_s) (fun s2 hc_2 => ?_)
  have hI_s2 : InvK s2 := hc_2.1
  have hFc_s2 : FrK [15, 16, 17] s s2 := hc_2.2
  have hF_s2 : FrK [12, 15, 16, 17, 122] s0 s2 := hF_s.trans hFc_s2 (by decide)
  refine ok_bindP (ok_kX4_readUnit R D hR _ _ hI_s2 (by omega) (by omega) (by omega)) (fun s3 hc_3 => ?_)
  have hI_s3 : InvK s3 := hc_3.1
  have hFc_s3 : FrK [12, 15, 16, 17, 122] s2 s3 := hc_3.2
  have hF_s3 : FrK [12, 15, 16, 17, 122] s0 s3 := hF_s2.trans hFc_s3 (by decide)
  refine ok_bindP (ok_kX1_putSign _ _ hI_s3) (fun s4 hc_4 => ?_)
  have hI_s4 : InvK s4 := hc_4.1
  have hFc_s4 : FrK [12, 122] s3 s4 := hc_4.2
  have hF_s4 : FrK [12, 15, 16, 17, 122] s0 s4 := hF_s3.trans hFc_s4 (by decide)
  have a_5 : ((x2 + 1)).toInt = (x2).toInt + 1 := tn_add rfl (by decide) (by omega) (by omega)
  exact hk7 _ _ _ hI_s4 hF_s4 (by omega) (by omega) (by omega) (by omega) (by omega) (by omega)
set_option maxHeartbeats 1000000 in
theorem ok_kX4_readProduct_7 (R : KS → Int32 → Option KS) (D : Nat) (hR : ∀ (s : KS) (x1 : Int32), InvK s → 0 ≤ x1.toInt → x1.toInt ≤ 6 → (6 - x1.toInt).toNat < D → Ok (R s x1) (fun y => InvK y ∧ FrK [12, 15, 16, 17, 122] s y)) (s0 : KS) (k7 : KS → Int32 → Int32 → Option (KS)) (M7 : Nat) (hk7 : ∀ (s : KS) (x1 : Int32) (x2 : Int32), InvK s → FrK [12, 15, 16, 17, 122] s0 s → 0 ≤ x1.toInt → x1.toInt ≤ 6 → 0 ≤ x2.toInt → x2.toInt ≤ 400 → (6 - x1.toInt).toNat ≤ D → (400 - x2.toInt).toNat < M7 → Ok (k7 s x1 x2) (Q_kX4_readProduct s0)) (s : KS) (x1 : Int32) (x2 : Int32) (hI_s : InvK s) (hF_s : FrK [12, 15, 16, 17, 122] s0 s) (h_x1l : 0 ≤ x1.toInt) (h_x1u : x1.toInt ≤ 6) (h_x2l : 0 ≤ x2.toInt) (h_x2u : x2.toInt ≤ 400) (hD : (6 - x1.toInt).toNat ≤ D) (hM7 : (400 - x2.toInt).toNat ≤ M7) : Ok (kX4_readProduct_7 R k7 s x1 x2) (Q_kX4_readProduct s0) := by
  unfold kX4_readProduct_7
  refine ok_ite (fun c_1 => ?_) (fun c_1 => ?_)
  · have c_1 := tn_le (a := 400) (b := (x2).toInt) (by decide) rfl c_1
    exact ok_some ⟨hI_s, hF_s⟩
  · have c_1 := tn_nle (a := 400) (b := (x2).toInt) (by decide) rfl c_1
    refine ok_bindI (ok_kX4_isAt _ _ hI_s) (fun r3 s2 hc_2 => ?_)
    have hI_s2 : InvK s2 := hc_2.1
    have hFc_s2 : FrK [] s s2 := hc_2.2.1
    have hF_s2 : FrK [12, 15, 16, 17, 122] s0 s2 := hF_s.trans hFc_s2 (by decide)
    have hl_r3 : 0 ≤ r3.toInt := hc_2.2.2.1
    have hu_r3 : r3.toInt ≤ 1 := hc_2.2.2.2
    refine ok_ite (fun c_3 => ?_) (fun c_3 => ?_)
    · have c_3 := tn_eq (a := (r3).toInt) (b := 0) rfl (by decide) c_3
      refine ok_bindI (ok_kX4_isAt _ _ hI_s2) (fun r6 s5 hc_4 => ?_)
      have hI_s5 : InvK s5 := hc_4.1
      have hFc_s5 : FrK [] s2 s5 := hc_4.2.1
      have hF_s5 : FrK [12, 15, 16, 17, 122] s0 s5 := hF_s2.trans hFc_s5 (by decide)
      have hl_r6 : 0 ≤ r6.toInt := hc_4.2.2.1
      have hu_r6 : r6.toInt ≤ 1 := hc_4.2.2.2
      refine ok_ite (fun c_5 => ?_) (fun c_5 => ?_)
      · have c_5 := tn_eq (a := (r6).toInt) (b := 0) rfl (by decide) c_5
        exact ok_some ⟨hI_s5, hF_s5⟩
      · have c_5 := tn_ne (a := (r6).toInt) (b := 0) rfl (by decide) c_5
        exact ok_kX4_readProduct_32 R D hR s0 k7 M7 hk7 _ _ _ hI_s5 hF_s5 (by omega) (by omega) (by omega) (by omega) (by omega) (by omega)
    · have c_3 := tn_ne (a := (r3).toInt) (b := 0) rfl (by decide) c_3
      exact ok_kX4_readProduct_32 R D hR s0 k7 M7 hk7 _ _ _ hI_s2 hF_s2 (by omega) (by omega) (by omega) (by omega) (by omega) (by omega)
theorem okL_kX4_readProduct_7 (R : KS → Int32 → Option KS) (D : Nat) (hR : ∀ (s : KS) (x1 : Int32), InvK s → 0 ≤ x1.toInt → x1.toInt ≤ 6 → (6 - x1.toInt).toNat < D → Ok (R s x1) (fun y => InvK y ∧ FrK [12, 15, 16, 17, 122] s y)) (s0 : KS)  : ∀ (n : Nat) (s : KS) (x1 : Int32) (x2 : Int32), (400 - x2.toInt).toNat < n → InvK s → FrK [12, 15, 16, 17, 122] s0 s → 0 ≤ x1.toInt → x1.toInt ≤ 6 → 0 ≤ x2.toInt → x2.toInt ≤ 400 → (6 - x1.toInt).toNat ≤ D → Ok (kX4_readProduct_7L R  n s x1 x2) (Q_kX4_readProduct s0) := by
  intro n
  induction n with
  | zero => intro s x1 x2 hn; omega
  | succ n ih =>
    intro s x1 x2 hn hI_s hF_s h_x1l h_x1u h_x2l h_x2u hD 
    exact ok_kX4_readProduct_7 R D hR s0 (kX4_readProduct_7L R  n) ((400 - x2.toInt).toNat) (fun zs zx1 zx2 g0 g1 g2 g3 g4 g5 g6  hm => ih zs zx1 zx2 (by omega) g0 g1 g2 g3 g4 g5 g6 ) s x1 x2 hI_s hF_s h_x1l h_x1u h_x2l h_x2u hD (Nat.le_refl _)
set_option maxHeartbeats 1000000 in
theorem ok_kX4_readProductB (R : KS → Int32 → Option KS) (D : Nat) (hR : ∀ (s : KS) (x1 : Int32), InvK s → 0 ≤ x1.toInt → x1.toInt ≤ 6 → (6 - x1.toInt).toNat < D → Ok (R s x1) (fun y => InvK y ∧ FrK [12, 15, 16, 17, 122] s y)) (s0 : KS)  (s : KS) (x1 : Int32) (hI_s : InvK s) (hF_s : FrK [12, 15, 16, 17, 122] s0 s) (h_x1l : 0 ≤ x1.toInt) (h_x1u : x1.toInt ≤ 6) (hD : (6 - x1.toInt).toNat ≤ D)  : Ok (kX4_readProduct R  s x1) (Q_kX4_readProduct s0) := by
  unfold kX4_readProduct
  refine ok_bindP (ok_kX4_readUnit R D hR _ _ hI_s (by omega) (by omega) (by omega)) (fun s1 hc_1 => ?_)
  have hI_s1 : InvK s1 := hc_1.1
  have hFc_s1 : FrK [12, 15, 16, 17, 122] s s1 := hc_1.2
  have hF_s1 : FrK [12, 15, 16, 17, 122] s0 s1 := hF_s.trans hFc_s1 (by decide)
  have l_0 : (0 : Int32).toInt = 0 := by decide
  exact okL_kX4_readProduct_7 R D hR s0  fu _ _ _ (by unfold fu; omega) hI_s1 hF_s1 (by omega) (by omega) (by decide) (by decide) (by omega) 
theorem ok_kX4_readProduct (R : KS → Int32 → Option KS) (D : Nat) (hR : ∀ (s : KS) (x1 : Int32), InvK s → 0 ≤ x1.toInt → x1.toInt ≤ 6 → (6 - x1.toInt).toNat < D → Ok (R s x1) (fun y => InvK y ∧ FrK [12, 15, 16, 17, 122] s y)) (s : KS) (x1 : Int32) (hI_s : InvK s) (h_x1l : 0 ≤ x1.toInt) (h_x1u : x1.toInt ≤ 6) (hD : (6 - x1.toInt).toNat ≤ D) : Ok (kX4_readProduct R s x1) (Q_kX4_readProduct s) := ok_kX4_readProductB R D hR s s x1 hI_s FrK.rfl h_x1l h_x1u hD
abbrev Q_kX5_clear (s0 : KS) (y : KS) : Prop := InvK y ∧ FrK [8, 9, 10, 11, 12, 13, 122, 123, 124, 125] s0 y
set_option maxHeartbeats 1000000 in
theorem ok_kX5_clearB (s0 : KS)  (s : KS) (hI_s : InvK s) (hF_s : FrK [8, 9, 10, 11, 12, 13, 122, 123, 124, 125] s0 s)  : Ok (kX5_clear  s) (Q_kX5_clear s0) := by
  unfold kX5_clear
  refine ok_let (fun s1 hs1 => ?_)
  have hI_s1 : InvK s1 := by rw [← hs1]; exact hI_s.sv (k := 8) (show (0 : Int) ≤ (0 : Int32).toInt by decide) (show (0 : Int32).toInt ≤ (5 : Int) by decide)
  have hF_s1 : FrK [8, 9, 10, 11, 12, 13, 122, 123, 124, 125] s0 s1 := by rw [← hs1]; exact hF_s.sv (k := 8) (by decide)
  refine ok_let (fun s3 hs3 => ?_)
  have hI_s3 : InvK s3 := by rw [← hs3]; exact hI_s1.sv (k := 9) (show (0 : Int) ≤ (0 : Int32).toInt by decide) (show (0 : Int32).toInt ≤ (6 : Int) by decide)
  have hF_s3 : FrK [8, 9, 10, 11, 12, 13, 122, 123, 124, 125] s0 s3 := by rw [← hs3]; exact hF_s1.sv (k := 9) (by decide)
  refine ok_let (fun s5 hs5 => ?_)
  have hI_s5 : InvK s5 := by rw [← hs5]; exact hI_s3.svF (k := 10) rfl rfl
  have hF_s5 : FrK [8, 9, 10, 11, 12, 13, 122, 123, 124, 125] s0 s5 := by rw [← hs5]; exact hF_s3.sv (k := 10) (by decide)
  refine ok_let (fun s7 hs7 => ?_)
  have hI_s7 : InvK s7 := by rw [← hs7]; exact hI_s5.svF (k := 11) rfl rfl
  have hF_s7 : FrK [8, 9, 10, 11, 12, 13, 122, 123, 124, 125] s0 s7 := by rw [← hs7]; exact hF_s5.sv (k := 11) (by decide)
  refine ok_bindP (ok_kX1_clear _  hI_s7) (fun s9 hc_1 => ?_)
  have hI_s9 : InvK s9 := hc_1.1
  have hFc_s9 : FrK [12, 13, 122, 123, 124, 125] s7 s9 := hc_1.2
  have hF_s9 : FrK [8, 9, 10, 11, 12, 13, 122, 123, 124, 125] s0 s9 := hF_s7.trans hFc_s9 (by decide)
  exact ok_some ⟨hI_s9, hF_s9⟩
theorem ok_kX5_clear (s : KS) (hI_s : InvK s) : Ok (kX5_clear s) (Q_kX5_clear s) := ok_kX5_clearB s s hI_s FrK.rfl
abbrev Q_kX5_thingThere (s0 : KS) (y : Int32 × KS) : Prop := InvK y.2 ∧ FrK [] s0 y.2 ∧ 0 ≤ y.1.toInt ∧ y.1.toInt ≤ 5
set_option maxHeartbeats 1000000 in
theorem ok_kX5_thingThere_24 (s0 : KS) (k24 : KS → Int32 → Int32 → Int32 → Int32 → Option (Int32 × KS)) (M24 : Nat) (hk24 : ∀ (s : KS) (x1 : Int32) (x4 : Int32) (x5 : Int32) (x6 : Int32), InvK s → FrK [] s0 s → 0 ≤ x1.toInt → x1.toInt ≤ 4 → 0 ≤ x6.toInt → x6.toInt ≤ 6 → (6 - x6.toInt).toNat < M24 → Ok (k24 s x1 x4 x5 x6) (Q_kX5_thingThere s0)) (s : KS) (x1 : Int32) (x4 : Int32) (x5 : Int32) (x6 : Int32) (hI_s : InvK s) (hF_s : FrK [] s0 s) (h_x1l : 0 ≤ x1.toInt) (h_x1u : x1.toInt ≤ 4) (h_x6l : 0 ≤ x6.toInt) (h_x6u : x6.toInt ≤ 6) (hM24 : (6 - x6.toInt).toNat ≤ M24) : Ok (kX5_thingThere_24 k24 s x1 x4 x5 x6) (Q_kX5_thingThere s0) := by
  unfold kX5_thingThere_24
  refine ok_ite (fun c_1 => ?_) (fun c_1 => ?_)
  · have c_1 := tn_le (a := 6) (b := (x6).toInt) (by decide) rfl c_1
    exact ok_some ⟨hI_s, hF_s, by show 0 ≤ (5 : Int32).toInt; decide, by show (5 : Int32).toInt ≤ 5; decide⟩
  · have c_1 := tn_nle (a := 6) (b := (x6).toInt) (by decide) rfl c_1
    refine ok_bindI (ok_kX5_oddsAt _ _ _ hI_s (by omega) (by omega) (by omega) (by omega)) (fun r3 s2 hc_2 => ?_)
    have hI_s2 : InvK s2 := hc_2.1
    have hFc_s2 : FrK [] s s2 := hc_2.2.1
    have hF_s2 : FrK [] s0 s2 := hF_s.trans hFc_s2 (by decide)
    refine ok_ite (fun c_3 => ?_) (fun c_3 => ?_)
    · have c_3 := tn_le (a := ((x5 + r3)).toInt) (b := (x4).toInt) rfl rfl c_3
      have a_4 : ((x6 + 1)).toInt = (x6).toInt + 1 := tn_add rfl (by decide) (by omega) (by omega)
      exact hk24 _ _ _ _ _ hI_s2 hF_s2 (by omega) (by omega) (by omega) (by omega) (by omega)
    · have c_3 := tn_nle (a := ((x5 + r3)).toInt) (b := (x4).toInt) rfl rfl c_3
      exact ok_some ⟨hI_s2, hF_s2, by show 0 ≤ (x6).toInt; omega, by show (x6).toInt ≤ 5; omega⟩
theorem okL_kX5_thingThere_24 (s0 : KS)  : ∀ (n : Nat) (s : KS) (x1 : Int32) (x4 : Int32) (x5 : Int32) (x6 : Int32), (6 - x6.toInt).toNat < n → InvK s → FrK [] s0 s → 0 ≤ x1.toInt → x1.toInt ≤ 4 → 0 ≤ x6.toInt → x6.toInt ≤ 6 → Ok (kX5_thingThere_24L  n s x1 x4 x5 x6) (Q_kX5_thingThere s0) := by
  intro n
  induction n with
  | zero => intro s x1 x4 x5 x6 hn; omega
  | succ n ih =>
    intro s x1 x4 x5 x6 hn hI_s hF_s h_x1l h_x1u h_x6l h_x6u 
    exact ok_kX5_thingThere_24 s0 (kX5_thingThere_24L  n) ((6 - x6.toInt).toNat) (fun zs zx1 zx4 zx5 zx6 g0 g1 g2 g3 g4 g5  hm => ih zs zx1 zx4 zx5 zx6 (by omega) g0 g1 g2 g3 g4 g5 ) s x1 x4 x5 x6 hI_s hF_s h_x1l h_x1u h_x6l h_x6u (Nat.le_refl _)
set_option maxHeartbeats 1000000 in
theorem ok_kX5_thingThereB (s0 : KS)  (s : KS) (x1 : Int32) (x2 : Int32) (x3 : Int32) (hI_s : InvK s) (hF_s : FrK [] s0 s) (h_x1l : 0 ≤ x1.toInt) (h_x1u : x1.toInt ≤ 4)  : Ok (kX5_thingThere  s x1 x2 x3) (Q_kX5_thingThere s0) := by
  unfold kX5_thingThere
  refine ok_grd (vpb_ok (by omega) (by omega)) ?_
  refine ok_bindP (ok_kX10_lot _ _ _ ) (fun r2 hc_1 => ?_)
  have l_0 : (0 : Int32).toInt = 0 := by decide
  exact okL_kX5_thingThere_24 s0  fu _ _ _ _ _ (by unfold fu; omega) hI_s hF_s (by omega) (by omega) (by decide) (by decide) 
theorem ok_kX5_thingThere (s : KS) (x1 : Int32) (x2 : Int32) (x3 : Int32) (hI_s : InvK s) (h_x1l : 0 ≤ x1.toInt) (h_x1u : x1.toInt ≤ 4) : Ok (kX5_thingThere s x1 x2 x3) (Q_kX5_thingThere s) := ok_kX5_thingThereB s s x1 x2 x3 hI_s FrK.rfl h_x1l h_x1u
abbrev Q_kX8_believe (s0 : JS) (y : JS) : Prop := InvK y.k ∧ FrK [144, 145] s0.k y.k
set_option maxHeartbeats 1000000 in
theorem ok_kX8_believe_73 (s0 : JS) (k2 : JS → Int32 → Int32 → Option (JS)) (M2 : Nat) (hk2 : ∀ (s : JS) (x2 : Int32) (x3 : Int32), InvK s.k → FrK [144, 145] s0.k s.k → 0 ≤ x2.toInt → x2.toInt ≤ 20 → 0 ≤ x3.toInt → x3.toInt ≤ 5 → (5 - x3.toInt).toNat < M2 → Ok (k2 s x2 x3) (Q_kX8_believe s0)) (k27 : JS → Int32 → Int32 → Int32 → Int32 → Option (JS)) (M27 : Nat) (hk27 : ∀ (s : JS) (x2 : Int32) (x3 : Int32) (x4 : Int32) (x5 : Int32), InvK s.k → FrK [144, 145] s0.k s.k → 0 ≤ x2.toInt → x2.toInt ≤ 20 → 0 ≤ x3.toInt → x3.toInt ≤ 4 → 0 ≤ x5.toInt → x5.toInt ≤ 6 → (5 - x3.toInt).toNat ≤ M2 → (6 - x5.toInt).toNat < M27 → Ok (k27 s x2 x3 x4 x5) (Q_kX8_believe s0)) (s : JS) (x2 : Int32) (x3 : Int32) (x4 : Int32) (x5 : Int32) (x6 : Int32) (t0 : Int32) (t1 : Int32) (hI_s_k : InvK s.k) (hF_s_k : FrK [144, 145] s0.k s.k) (h_x2l : 0 ≤ x2.toInt) (h_x2u : x2.toInt ≤ 20) (h_x3l : 0 ≤ x3.toInt) (h_x3u : x3.toInt ≤ 4) (h_x5l : 0 ≤ x5.toInt) (h_x5u : x5.toInt ≤ 5) (h_x6l : 0 ≤ x6.toInt) (h_x6u : x6.toInt ≤ 29) (h_t1l : 0 ≤ t1.toInt) (h_t1u : t1.toInt ≤ 29) (hM2 : (5 - x3.toInt).toNat ≤ M2) (hM27 : (6 - x5.toInt).toNat ≤ M27) : Ok (kX8_believe_73 k2 k27 s x2 x3 x4 x5 x6 t0 t1) (Q_kX8_believe s0) := by
  unfold kX8_believe_73
  refine ok_grd (vpb_ok (by omega) (by omega)) ?_
  refine ok_let (fun s2 hs2 => ?_)
  have hI_s2_k : InvK s2.k := by rw [← hs2]; exact hI_s_k.sfF (k := 44) rfl rfl
  have hF_s2_k : FrK [144, 145] s0.k s2.k := by rw [← hs2]; exact hF_s_k.sf (k := 44) (by decide)
  refine ok_bindI (ok_kX8_beliedBy _ _ _ _ hI_s2_k (by omega) (by omega) (by omega) (by omega) (by omega) (by omega)) (fun r5 s4 hc_1 => ?_)
  have hI_s4 : InvK s4 := hc_1.1
  have hFc_s4 : FrK [] s2.k s4 := hc_1.2.1
  have hF_s4 : FrK [144, 145] s0.k s4 := hF_s2_k.trans hFc_s4 (by decide)
  have hl_r5 : 0 ≤ r5.toInt := hc_1.2.2.1
  have hu_r5 : r5.toInt ≤ 20 := hc_1.2.2.2
  refine ok_let (fun s6 hs6 => ?_)
  have hI_s6_k : InvK s6.k := by rw [← hs6]; exact hI_s4
  have hF_s6_k : FrK [144, 145] s0.k s6.k := by rw [← hs6]; exact hF_s4
  refine ok_grd (vpb_ok (by omega) (by omega)) ?_
  refine ok_let (fun s9 hs9 => ?_)
  have hI_s9_k : InvK s9.k := by rw [← hs9]; exact hI_s6_k.sf (k := 45) (show (0 : Int) ≤ (r5).toInt by omega) (show (r5).toInt ≤ (20 : Int) by omega)
  have hF_s9_k : FrK [144, 145] s0.k s9.k := by rw [← hs9]; exact hF_s6_k.sf (k := 45) (by decide)
  have a_2 : ((x5 + 1)).toInt = (x5).toInt + 1 := tn_add rfl (by decide) (by omega) (by omega)
  exact hk27 _ _ _ _ _ hI_s9_k hF_s9_k (by omega) (by omega) (by omega) (by omega) (by omega) (by omega) (by omega) (by omega)
set_option maxHeartbeats 1000000 in
theorem ok_kX8_believe_27 (s0 : JS) (k2 : JS → Int32 → Int32 → Option (JS)) (M2 : Nat) (hk2 : ∀ (s : JS) (x2 : Int32) (x3 : Int32), InvK s.k → FrK [144, 145] s0.k s.k → 0 ≤ x2.toInt → x2.toInt ≤ 20 → 0 ≤ x3.toInt → x3.toInt ≤ 5 → (5 - x3.toInt).toNat < M2 → Ok (k2 s x2 x3) (Q_kX8_believe s0)) (k27 : JS → Int32 → Int32 → Int32 → Int32 → Option (JS)) (M27 : Nat) (hk27 : ∀ (s : JS) (x2 : Int32) (x3 : Int32) (x4 : Int32) (x5 : Int32), InvK s.k → FrK [144, 145] s0.k s.k → 0 ≤ x2.toInt → x2.toInt ≤ 20 → 0 ≤ x3.toInt → x3.toInt ≤ 4 → 0 ≤ x5.toInt → x5.toInt ≤ 6 → (5 - x3.toInt).toNat ≤ M2 → (6 - x5.toInt).toNat < M27 → Ok (k27 s x2 x3 x4 x5) (Q_kX8_believe s0)) (s : JS) (x2 : Int32) (x3 : Int32) (x4 : Int32) (x5 : Int32) (hI_s_k : InvK s.k) (hF_s_k : FrK [144, 145] s0.k s.k) (h_x2l : 0 ≤ x2.toInt) (h_x2u : x2.toInt ≤ 20) (h_x3l : 0 ≤ x3.toInt) (h_x3u : x3.toInt ≤ 4) (h_x5l : 0 ≤ x5.toInt) (h_x5u : x5.toInt ≤ 6) (hM2 : (5 - x3.toInt).toNat ≤ M2) (hM27 : (6 - x5.toInt).toNat ≤ M27) : Ok (kX8_believe_27 k2 k27 s x2 x3 x4 x5) (Q_kX8_believe s0) := by
  unfold kX8_believe_27
  refine ok_ite (fun c_1 => ?_) (fun c_1 => ?_)
  · have c_1 := tn_le (a := 6) (b := (x5).toInt) (by decide) rfl c_1
    have a_2 : ((x3 + 1)).toInt = (x3).toInt + 1 := tn_add rfl (by decide) (by omega) (by omega)
    exact hk2 _ _ _ hI_s_k hF_s_k (by omega) (by omega) (by omega) (by omega) (by omega)
  · have c_1 := tn_nle (a := 6) (b := (x5).toInt) (by decide) rfl c_1
    refine ok_bindP (ok_kX10_has _ _ ) (fun r2 hc_3 => ?_)
    have hl_r2 : 0 ≤ r2.toInt := hc_3.1
    have hu_r2 : r2.toInt ≤ 1 := hc_3.2
    refine ok_ite (fun c_4 => ?_) (fun c_4 => ?_)
    · have c_4 := tn_eq (a := (r2).toInt) (b := 0) rfl (by decide) c_4
      have a_5 : ((x3 * 6)).toInt = (x3).toInt * 6 := ti_mulc (c := 6) (by decide) (by omega) (by omega)
      have a_6 : (((x3 * 6) + x5)).toInt = ((x3 * 6)).toInt + (x5).toInt := tn_add rfl rfl (by omega) (by omega)
      have l_0 : (0 : Int32).toInt = 0 := by decide
      exact ok_kX8_believe_73 s0 k2 M2 hk2 k27 M27 hk27 _ _ _ _ _ _ _ _ hI_s_k hF_s_k (by omega) (by omega) (by omega) (by omega) (by omega) (by omega) (by omega) (by omega) (by omega) (by omega) (by omega) (by omega)
    · have c_4 := tn_ne (a := (r2).toInt) (b := 0) rfl (by decide) c_4
      refine ok_bindI (ok_kX5_oddsAt _ _ _ hI_s_k (by omega) (by omega) (by omega) (by omega)) (fun r5 s4 hc_7 => ?_)
      have hI_s4 : InvK s4 := hc_7.1
      have hFc_s4 : FrK [] s.k s4 := hc_7.2.1
      have hF_s4 : FrK [144, 145] s0.k s4 := hF_s_k.trans hFc_s4 (by decide)
      refine ok_let (fun s6 hs6 => ?_)
      have hI_s6_k : InvK s6.k := by rw [← hs6]; exact hI_s4
      have hF_s6_k : FrK [144, 145] s0.k s6.k := by rw [← hs6]; exact hF_s4
      have a_8 : ((x3 * 6)).toInt = (x3).toInt * 6 := ti_mulc (c := 6) (by decide) (by omega) (by omega)
      have a_9 : (((x3 * 6) + x5)).toInt = ((x3 * 6)).toInt + (x5).toInt := tn_add rfl rfl (by omega) (by omega)
      exact ok_kX8_believe_73 s0 k2 M2 hk2 k27 M27 hk27 _ _ _ _ _ _ _ _ hI_s6_k hF_s6_k (by omega) (by omega) (by omega) (by omega) (by omega) (by omega) (by omega) (by omega) (by omega) (by omega) (by omega) (by omega)
theorem okL_kX8_believe_27 (s0 : JS) (k2 : JS → Int32 → Int32 → Option (JS)) (M2 : Nat) (hk2 : ∀ (s : JS) (x2 : Int32) (x3 : Int32), InvK s.k → FrK [144, 145] s0.k s.k → 0 ≤ x2.toInt → x2.toInt ≤ 20 → 0 ≤ x3.toInt → x3.toInt ≤ 5 → (5 - x3.toInt).toNat < M2 → Ok (k2 s x2 x3) (Q_kX8_believe s0)) : ∀ (n : Nat) (s : JS) (x2 : Int32) (x3 : Int32) (x4 : Int32) (x5 : Int32), (6 - x5.toInt).toNat < n → InvK s.k → FrK [144, 145] s0.k s.k → 0 ≤ x2.toInt → x2.toInt ≤ 20 → 0 ≤ x3.toInt → x3.toInt ≤ 4 → 0 ≤ x5.toInt → x5.toInt ≤ 6 → (5 - x3.toInt).toNat ≤ M2 → Ok (kX8_believe_27L k2 n s x2 x3 x4 x5) (Q_kX8_believe s0) := by
  intro n
  induction n with
  | zero => intro s x2 x3 x4 x5 hn; omega
  | succ n ih =>
    intro s x2 x3 x4 x5 hn hI_s_k hF_s_k h_x2l h_x2u h_x3l h_x3u h_x5l h_x5u hM2
    exact ok_kX8_believe_27 s0 k2 M2 hk2 (kX8_believe_27L k2 n) ((6 - x5.toInt).toNat) (fun zs zx2 zx3 zx4 zx5 g0 g1 g2 g3 g4 g5 g6 g7 o2 hm => ih zs zx2 zx3 zx4 zx5 (by omega) g0 g1 g2 g3 g4 g5 g6 g7 o2) s x2 x3 x4 x5 hI_s_k hF_s_k h_x2l h_x2u h_x3l h_x3u h_x5l h_x5u hM2 (Nat.le_refl _)
set_option maxHeartbeats 1000000 in
theorem ok_kX8_believe_2 (s0 : JS) (k2 : JS → Int32 → Int32 → Option (JS)) (M2 : Nat) (hk2 : ∀ (s : JS) (x2 : Int32) (x3 : Int32), InvK s.k → FrK [144, 145] s0.k s.k → 0 ≤ x2.toInt → x2.toInt ≤ 20 → 0 ≤ x3.toInt → x3.toInt ≤ 5 → (5 - x3.toInt).toNat < M2 → Ok (k2 s x2 x3) (Q_kX8_believe s0)) (s : JS) (x2 : Int32) (x3 : Int32) (hI_s_k : InvK s.k) (hF_s_k : FrK [144, 145] s0.k s.k) (h_x2l : 0 ≤ x2.toInt) (h_x2u : x2.toInt ≤ 20) (h_x3l : 0 ≤ x3.toInt) (h_x3u : x3.toInt ≤ 5) (hM2 : (5 - x3.toInt).toNat ≤ M2) : Ok (kX8_believe_2 k2 s x2 x3) (Q_kX8_believe s0) := by
  unfold kX8_believe_2
  have a_1 : 0 ≤ (s.k.v 1).toInt ∧ (s.k.v 1).toInt ≤ 5 := hI_s_k.1 1
  refine ok_ite (fun c_2 => ?_) (fun c_2 => ?_)
  · have c_2 := tn_le (a := ((s.k.v 1)).toInt) (b := (x3).toInt) rfl rfl c_2
    exact ok_some ⟨hI_s_k, hF_s_k⟩
  · have c_2 := tn_nle (a := ((s.k.v 1)).toInt) (b := (x3).toInt) rfl rfl c_2
    refine ok_bindI (ok_kX0_mayBe _ _ hI_s_k (by omega) (by omega)) (fun r3 s2 hc_3 => ?_)
    have hI_s2_k : InvK s2.k := hc_3.1
    have hFc_s2_k : FrK [] s.k s2.k := hc_3.2.1
    have hF_s2_k : FrK [144, 145] s0.k s2.k := hF_s_k.trans hFc_s2_k (by decide)
    have l_0 : (0 : Int32).toInt = 0 := by decide
    exact okL_kX8_believe_27 s0 k2 M2 hk2 fu _ _ _ _ _ (by unfold fu; omega) hI_s2_k hF_s2_k (by omega) (by omega) (by omega) (by omega) (by decide) (by decide) (by omega)
theorem okL_kX8_believe_2 (s0 : JS)  : ∀ (n : Nat) (s : JS) (x2 : Int32) (x3 : Int32), (5 - x3.toInt).toNat < n → InvK s.k → FrK [144, 145] s0.k s.k → 0 ≤ x2.toInt → x2.toInt ≤ 20 → 0 ≤ x3.toInt → x3.toInt ≤ 5 → Ok (kX8_believe_2L  n s x2 x3) (Q_kX8_believe s0) := by
  intro n
  induction n with
  | zero => intro s x2 x3 hn; omega
  | succ n ih =>
    intro s x2 x3 hn hI_s_k hF_s_k h_x2l h_x2u h_x3l h_x3u 
    exact ok_kX8_believe_2 s0 (kX8_believe_2L  n) ((5 - x3.toInt).toNat) (fun zs zx2 zx3 g0 g1 g2 g3 g4 g5  hm => ih zs zx2 zx3 (by omega) g0 g1 g2 g3 g4 g5 ) s x2 x3 hI_s_k hF_s_k h_x2l h_x2u h_x3l h_x3u (Nat.le_refl _)
set_option maxHeartbeats 1000000 in
theorem ok_kX8_believeB (s0 : JS)  (s : JS) (x2 : Int32) (hI_s_k : InvK s.k) (hF_s_k : FrK [144, 145] s0.k s.k) (h_x2l : 0 ≤ x2.toInt) (h_x2u : x2.toInt ≤ 20)  : Ok (kX8_believe  s x2) (Q_kX8_believe s0) := by
  unfold kX8_believe
  have l_0 : (0 : Int32).toInt = 0 := by decide
  exact okL_kX8_believe_2 s0  fu _ _ _ (by unfold fu; omega) hI_s_k hF_s_k (by omega) (by omega) (by decide) (by decide) 
theorem ok_kX8_believe (s : JS) (x2 : Int32) (hI_s_k : InvK s.k) (h_x2l : 0 ≤ x2.toInt) (h_x2u : x2.toInt ≤ 20) : Ok (kX8_believe s x2) (Q_kX8_believe s) := ok_kX8_believeB s s x2 hI_s_k FrK.rfl h_x2l h_x2u
abbrev Q_kX9_split (s0 : KS) (y : KS) : Prop := InvK y ∧ FrK [20, 132, 133, 134] s0 y
set_option maxHeartbeats 1000000 in
theorem ok_kX9_split_36 (s0 : KS) (k11 : KS → Int32 → Int32 → Option (KS)) (M11 : Nat) (hk11 : ∀ (s : KS) (x1 : Int32) (x2 : Int32), InvK s → FrK [20, 132, 133, 134] s0 s → 0 ≤ x2.toInt → x2.toInt ≤ 401 → (401 - x2.toInt).toNat < M11 → Ok (k11 s x1 x2) (Q_kX9_split s0)) (s : KS) (x2 : Int32) (hI_s : InvK s) (hF_s : FrK [20, 132, 133, 134] s0 s) (h_x2l : 0 ≤ x2.toInt) (h_x2u : x2.toInt ≤ 400) (hM11 : (401 - x2.toInt).toNat ≤ M11) : Ok (kX9_split_36 k11 s x2) (Q_kX9_split s0) := by
  unfold kX9_split_36
  refine ok_bindP (ok_kX9_skipBlanks _  hI_s) (fun s1 hc_1 => ?_)
  have hI_s1 : InvK s1 := hc_1.1
  have hFc_s1 : FrK [20] s s1 := hc_1.2
  have hF_s1 : FrK [20, 132, 133, 134] s0 s1 := hF_s.trans hFc_s1 (by decide)
  refine ok_grd (vpb_ok (by omega) (by omega)) ?_
  refine ok_let (fun s3 hs3 => ?_)
  have hI_s3 : InvK s3 := by rw [← hs3]; exact hI_s1.sfF (k := 33) rfl rfl
  have hF_s3 : FrK [20, 132, 133, 134] s0 s3 := by rw [← hs3]; exact hF_s1.sf (k := 33) (by decide)
  refine ok_bindI (ok_kX9_splitOne _  hI_s3) (fun r6 s5 hc_2 => ?_)
  have hI_s5 : InvK s5 := hc_2.1
  have hFc_s5 : FrK [20] s3 s5 := hc_2.2.1
  have hF_s5 : FrK [20, 132, 133, 134] s0 s5 := hF_s3.trans hFc_s5 (by decide)
  refine ok_grd (vpb_ok (by omega) (by omega)) ?_
  refine ok_let (fun s8 hs8 => ?_)
  have hI_s8 : InvK s8 := by rw [← hs8]; exact hI_s5.sfF (k := 32) rfl rfl
  have hF_s8 : FrK [20, 132, 133, 134] s0 s8 := by rw [← hs8]; exact hF_s5.sf (k := 32) (by decide)
  refine ok_grd (vpb_ok (by omega) (by omega)) ?_
  refine ok_let (fun s11 hs11 => ?_)
  have hI_s11 : InvK s11 := by rw [← hs11]; exact hI_s8.sg
  have hF_s11 : FrK [20, 132, 133, 134] s0 s11 := by rw [← hs11]; exact hF_s8.sg (k := 34) (by decide)
  have a_3 : ((x2 + 1)).toInt = (x2).toInt + 1 := tn_add rfl (by decide) (by omega) (by omega)
  exact hk11 _ _ _ hI_s11 hF_s11 (by omega) (by omega) (by omega)
set_option maxHeartbeats 1000000 in
theorem ok_kX9_split_11 (s0 : KS) (k11 : KS → Int32 → Int32 → Option (KS)) (M11 : Nat) (hk11 : ∀ (s : KS) (x1 : Int32) (x2 : Int32), InvK s → FrK [20, 132, 133, 134] s0 s → 0 ≤ x2.toInt → x2.toInt ≤ 401 → (401 - x2.toInt).toNat < M11 → Ok (k11 s x1 x2) (Q_kX9_split s0)) (s : KS) (x1 : Int32) (x2 : Int32) (hI_s : InvK s) (hF_s : FrK [20, 132, 133, 134] s0 s) (h_x2l : 0 ≤ x2.toInt) (h_x2u : x2.toInt ≤ 401) (hM11 : (401 - x2.toInt).toNat ≤ M11) : Ok (kX9_split_11 k11 s x1 x2) (Q_kX9_split s0) := by
  unfold kX9_split_11
  refine ok_ite (fun c_1 => ?_) (fun c_1 => ?_)
  · have c_1 := tn_lt (a := 400) (b := (x2).toInt) (by decide) rfl c_1
    exact ok_some ⟨hI_s, hF_s⟩
  · have c_1 := tn_nlt (a := 400) (b := (x2).toInt) (by decide) rfl c_1
    refine ok_ite (fun c_2 => ?_) (fun c_2 => ?_)
    · have c_2 := tn_eq (a := (x2).toInt) (b := 0) rfl (by decide) c_2
      exact ok_kX9_split_36 s0 k11 M11 hk11 _ _ hI_s hF_s (by omega) (by omega) (by omega)
    · have c_2 := tn_ne (a := (x2).toInt) (b := 0) rfl (by decide) c_2
      refine ok_ite (fun c_3 => ?_) (fun c_3 => ?_)
      · have c_3 := tn_eq (a := (x1).toInt) (b := 302) rfl (by decide) c_3
        exact ok_some ⟨hI_s, hF_s⟩
      · have c_3 := tn_ne (a := (x1).toInt) (b := 302) rfl (by decide) c_3
        refine ok_ite (fun c_4 => ?_) (fun c_4 => ?_)
        · have c_4 := tn_eq (a := (x1).toInt) (b := 303) rfl (by decide) c_4
          exact ok_some ⟨hI_s, hF_s⟩
        · have c_4 := tn_ne (a := (x1).toInt) (b := 303) rfl (by decide) c_4
          exact ok_kX9_split_36 s0 k11 M11 hk11 _ _ hI_s hF_s (by omega) (by omega) (by omega)
theorem okL_kX9_split_11 (s0 : KS)  : ∀ (n : Nat) (s : KS) (x1 : Int32) (x2 : Int32), (401 - x2.toInt).toNat < n → InvK s → FrK [20, 132, 133, 134] s0 s → 0 ≤ x2.toInt → x2.toInt ≤ 401 → Ok (kX9_split_11L  n s x1 x2) (Q_kX9_split s0) := by
  intro n
  induction n with
  | zero => intro s x1 x2 hn; omega
  | succ n ih =>
    intro s x1 x2 hn hI_s hF_s h_x2l h_x2u 
    exact ok_kX9_split_11 s0 (kX9_split_11L  n) ((401 - x2.toInt).toNat) (fun zs zx1 zx2 g0 g1 g2 g3  hm => ih zs zx1 zx2 (by omega) g0 g1 g2 g3 ) s x1 x2 hI_s hF_s h_x2l h_x2u (Nat.le_refl _)
set_option maxHeartbeats 1000000 in
theorem ok_kX9_splitB (s0 : KS)  (s : KS) (hI_s : InvK s) (hF_s : FrK [20, 132, 133, 134] s0 s)  : Ok (kX9_split  s) (Q_kX9_split s0) := by
  unfold kX9_split
  refine ok_let (fun s1 hs1 => ?_)
  have hI_s1 : InvK s1 := by rw [← hs1]; exact hI_s.sv (k := 20) (show (0 : Int) ≤ (0 : Int32).toInt by decide) (show (0 : Int32).toInt ≤ (2000 : Int) by decide)
  have hF_s1 : FrK [20, 132, 133, 134] s0 s1 := by rw [← hs1]; exact hF_s.sv (k := 20) (by decide)
  have l_303 : (303 : Int32).toInt = 303 := by decide
  have l_0 : (0 : Int32).toInt = 0 := by decide
  exact okL_kX9_split_11 s0  fu _ _ _ (by unfold fu; omega) hI_s1 hF_s1 (by decide) (by decide) 
theorem ok_kX9_split (s : KS) (hI_s : InvK s) : Ok (kX9_split s) (Q_kX9_split s) := ok_kX9_splitB s s hI_s FrK.rfl
abbrev Q_kX10_all (s0 : XS) (y : Int32 × XS) : Prop := InvK y.2.k ∧ FrK [] s0.k y.2.k ∧ InvG y.2.g ∧ -2147483648 ≤ y.1.toInt ∧ y.1.toInt ≤ 2147483647
set_option maxHeartbeats 1000000 in
theorem ok_kX10_allB (s0 : XS)  (s : XS) (hI_s_k : InvK s.k) (hF_s_k : FrK [] s0.k s.k) (hI_s_g : InvG s.g)  : Ok (kX10_all  s) (Q_kX10_all s0) := by
  unfold kX10_all
  refine ok_bindI (ok_kX2_oddsOfAll _ _ hI_s_k (by decide) (by decide)) (fun r2 s1 hc_1 => ?_)
  have hI_s1_k : InvK s1.k := hc_1.1
  have hFc_s1_k : FrK [] s.k s1.k := hc_1.2.1
  have hF_s1_k : FrK [] s0.k s1.k := hF_s_k.trans hFc_s1_k (by decide)
  refine ok_let (fun s3 hs3 => ?_)
  have hI_s3_g : InvG s3.g := by rw [← hs3]; exact hI_s_g
  have hI_s3_k : InvK s3.k := by rw [← hs3]; exact hI_s1_k
  have hF_s3_k : FrK [] s0.k s3.k := by rw [← hs3]; exact hF_s1_k
  exact ok_some ⟨hI_s3_k, hF_s3_k, hI_s3_g, (ti_rng _).1, (ti_rng _).2⟩
theorem ok_kX10_all (s : XS) (hI_s_k : InvK s.k) (hI_s_g : InvG s.g) : Ok (kX10_all s) (Q_kX10_all s) := ok_kX10_allB s s hI_s_k FrK.rfl hI_s_g
abbrev Q_kX10_share (s0 : XS) (y : Int32 × XS) : Prop := InvK y.2.k ∧ FrK [] s0.k y.2.k ∧ InvG y.2.g ∧ -2147483648 ≤ y.1.toInt ∧ y.1.toInt ≤ 2147483647
set_option maxHeartbeats 1000000 in
theorem ok_kX10_shareB (s0 : XS)  (s : XS) (x1 : Int32) (x2 : Int32) (hI_s_k : InvK s.k) (hF_s_k : FrK [] s0.k s.k) (hI_s_g : InvG s.g)  : Ok (kX10_share  s x1 x2) (Q_kX10_share s0) := by
  unfold kX10_share
  refine ok_bindI (ok_kX5_hasWave _ _ hI_s_k) (fun r2 s1 hc_1 => ?_)
  have hI_s1 : InvK s1 := hc_1.1
  have hFc_s1 : FrK [] s.k s1 := hc_1.2.1
  have hF_s1 : FrK [] s0.k s1 := hF_s_k.trans hFc_s1 (by decide)
  have hl_r2 : 0 ≤ r2.toInt := hc_1.2.2.1
  have hu_r2 : r2.toInt ≤ 1 := hc_1.2.2.2.1
  have hx0_r2 : (¬ r2.toInt = 0 → 0 ≤ (x1).toInt ∧ (x1).toInt ≤ 4) := hc_1.2.2.2.2
  refine ok_let (fun s3 hs3 => ?_)
  have hI_s3_g : InvG s3.g := by rw [← hs3]; exact hI_s_g
  have hI_s3_k : InvK s3.k := by rw [← hs3]; exact hI_s1
  have hF_s3_k : FrK [] s0.k s3.k := by rw [← hs3]; exact hF_s1
  refine ok_ite (fun c_2 => ?_) (fun c_2 => ?_)
  · have c_2 := tn_eq (a := (r2).toInt) (b := 0) rfl (by decide) c_2
    exact ok_some ⟨hI_s3_k, hF_s3_k, hI_s3_g, (ti_rng _).1, (ti_rng _).2⟩
  · have c_2 := tn_ne (a := (r2).toInt) (b := 0) rfl (by decide) c_2
    refine ok_bindP (ok_kX10_isThing _ ) (fun r6 hc_3 => ?_)
    have hl_r6 : 0 ≤ r6.toInt := hc_3.1
    have hu_r6 : r6.toInt ≤ 1 := hc_3.2.1
    have hx0_r6 : (¬ r6.toInt = 0 → 0 ≤ (x2).toInt ∧ (x2).toInt ≤ 5) := hc_3.2.2
    refine ok_ite (fun c_4 => ?_) (fun c_4 => ?_)
    · have c_4 := tn_eq (a := (r6).toInt) (b := 0) rfl (by decide) c_4
      exact ok_some ⟨hI_s3_k, hF_s3_k, hI_s3_g, (ti_rng _).1, (ti_rng _).2⟩
    · have c_4 := tn_ne (a := (r6).toInt) (b := 0) rfl (by decide) c_4
      refine ok_bindI (ok_kX0_mayBe _ _ hI_s3_k (by omega) (by omega)) (fun r9 s8 hc_5 => ?_)
      have hI_s8_k : InvK s8.k := hc_5.1
      have hFc_s8_k : FrK [] s3.k s8.k := hc_5.2.1
      have hF_s8_k : FrK [] s0.k s8.k := hF_s3_k.trans hFc_s8_k (by decide)
      refine ok_let (fun s10 hs10 => ?_)
      have hI_s10_g : InvG s10.g := by rw [← hs10]; exact hI_s3_g
      have hI_s10_k : InvK s10.k := by rw [← hs10]; exact hI_s8_k
      have hF_s10_k : FrK [] s0.k s10.k := by rw [← hs10]; exact hF_s8_k
      refine ok_bindP (ok_kX10_has _ _ ) (fun r12 hc_6 => ?_)
      have hl_r12 : 0 ≤ r12.toInt := hc_6.1
      have hu_r12 : r12.toInt ≤ 1 := hc_6.2
      refine ok_ite (fun c_7 => ?_) (fun c_7 => ?_)
      · have c_7 := tn_eq (a := (r12).toInt) (b := 0) rfl (by decide) c_7
        exact ok_some ⟨hI_s10_k, hF_s10_k, hI_s10_g, (ti_rng _).1, (ti_rng _).2⟩
      · have c_7 := tn_ne (a := (r12).toInt) (b := 0) rfl (by decide) c_7
        refine ok_bindI (ok_kX5_oddsAt _ _ _ hI_s10_k (by omega) (by omega) (by omega) (by omega)) (fun r15 s14 hc_8 => ?_)
        have hI_s14 : InvK s14 := hc_8.1
        have hFc_s14 : FrK [] s10.k s14 := hc_8.2.1
        have hF_s14 : FrK [] s0.k s14 := hF_s10_k.trans hFc_s14 (by decide)
        refine ok_let (fun s16 hs16 => ?_)
        have hI_s16_g : InvG s16.g := by rw [← hs16]; exact hI_s10_g
        have hI_s16_k : InvK s16.k := by rw [← hs16]; exact hI_s14
        have hF_s16_k : FrK [] s0.k s16.k := by rw [← hs16]; exact hF_s14
        refine ok_bindI (ok_kX2_oddsOfAll _ _ hI_s16_k (by omega) (by omega)) (fun r19 s18 hc_9 => ?_)
        have hI_s18_k : InvK s18.k := hc_9.1
        have hFc_s18_k : FrK [] s16.k s18.k := hc_9.2.1
        have hF_s18_k : FrK [] s0.k s18.k := hF_s16_k.trans hFc_s18_k (by decide)
        refine ok_let (fun s20 hs20 => ?_)
        have hI_s20_g : InvG s20.g := by rw [← hs20]; exact hI_s16_g
        have hI_s20_k : InvK s20.k := by rw [← hs20]; exact hI_s18_k
        have hF_s20_k : FrK [] s0.k s20.k := by rw [← hs20]; exact hF_s18_k
        exact ok_some ⟨hI_s20_k, hF_s20_k, hI_s20_g, (ti_rng _).1, (ti_rng _).2⟩
theorem ok_kX10_share (s : XS) (x1 : Int32) (x2 : Int32) (hI_s_k : InvK s.k) (hI_s_g : InvG s.g) : Ok (kX10_share s x1 x2) (Q_kX10_share s) := ok_kX10_shareB s s x1 x2 hI_s_k FrK.rfl hI_s_g
abbrev Q_kX10_drawn (s0 : XS) (y : Int32 × XS) : Prop := InvK y.2.k ∧ FrK [] s0.k y.2.k ∧ InvG y.2.g ∧ -2147483648 ≤ y.1.toInt ∧ y.1.toInt ≤ 2147483647
set_option maxHeartbeats 1000000 in
theorem ok_kX10_drawn_29 (s0 : XS) (k29 : XS → Int32 → Int32 → Int32 → Int32 → Option (Int32 × XS)) (M29 : Nat) (hk29 : ∀ (s : XS) (x1 : Int32) (x2 : Int32) (x3 : Int32) (x4 : Int32), InvK s.k → FrK [] s0.k s.k → InvG s.g → 0 ≤ x1.toInt → x1.toInt ≤ 4 → 1 ≤ x2.toInt → x2.toInt ≤ 20 → 0 ≤ x4.toInt → x4.toInt ≤ 20 → (20 - x4.toInt).toNat < M29 → Ok (k29 s x1 x2 x3 x4) (Q_kX10_drawn s0)) (s : XS) (x1 : Int32) (x2 : Int32) (x3 : Int32) (x4 : Int32) (hI_s_k : InvK s.k) (hF_s_k : FrK [] s0.k s.k) (hI_s_g : InvG s.g) (h_x1l : 0 ≤ x1.toInt) (h_x1u : x1.toInt ≤ 4) (h_x2l : 1 ≤ x2.toInt) (h_x2u : x2.toInt ≤ 20) (h_x4l : 0 ≤ x4.toInt) (h_x4u : x4.toInt ≤ 20) (hM29 : (20 - x4.toInt).toNat ≤ M29) : Ok (kX10_drawn_29 k29 s x1 x2 x3 x4) (Q_kX10_drawn s0) := by
  unfold kX10_drawn_29
  refine ok_ite (fun c_1 => ?_) (fun c_1 => ?_)
  · have c_1 := tn_le (a := (x2).toInt) (b := (x4).toInt) rfl rfl c_1
    refine ok_bindP (ok_kJ6_bitCount_0f7a4 _ ) (fun r2 hc_2 => ?_)
    exact ok_some ⟨hI_s_k, hF_s_k, hI_s_g, (ti_rng _).1, (ti_rng _).2⟩
  · have c_1 := tn_nle (a := (x2).toInt) (b := (x4).toInt) rfl rfl c_1
    refine ok_grd (vpb_ok (by omega) (by omega)) ?_
    refine ok_bindI (ok_kX5_thingThere _ _ _ _ hI_s_k (by omega) (by omega)) (fun r5 s4 hc_3 => ?_)
    have hI_s4 : InvK s4 := hc_3.1
    have hFc_s4 : FrK [] s.k s4 := hc_3.2.1
    have hF_s4 : FrK [] s0.k s4 := hF_s_k.trans hFc_s4 (by decide)
    have hl_r5 : 0 ≤ r5.toInt := hc_3.2.2.1
    have hu_r5 : r5.toInt ≤ 5 := hc_3.2.2.2
    refine ok_let (fun s6 hs6 => ?_)
    have hI_s6_g : InvG s6.g := by rw [← hs6]; exact hI_s_g
    have hI_s6_k : InvK s6.k := by rw [← hs6]; exact hI_s4
    have hF_s6_k : FrK [] s0.k s6.k := by rw [← hs6]; exact hF_s4
    have a_4 : ((x4 + 1)).toInt = (x4).toInt + 1 := tn_add rfl (by decide) (by omega) (by omega)
    exact hk29 _ _ _ _ _ hI_s6_k hF_s6_k hI_s6_g (by omega) (by omega) (by omega) (by omega) (by omega) (by omega) (by omega)
theorem okL_kX10_drawn_29 (s0 : XS)  : ∀ (n : Nat) (s : XS) (x1 : Int32) (x2 : Int32) (x3 : Int32) (x4 : Int32), (20 - x4.toInt).toNat < n → InvK s.k → FrK [] s0.k s.k → InvG s.g → 0 ≤ x1.toInt → x1.toInt ≤ 4 → 1 ≤ x2.toInt → x2.toInt ≤ 20 → 0 ≤ x4.toInt → x4.toInt ≤ 20 → Ok (kX10_drawn_29L  n s x1 x2 x3 x4) (Q_kX10_drawn s0) := by
  intro n
  induction n with
  | zero => intro s x1 x2 x3 x4 hn; omega
  | succ n ih =>
    intro s x1 x2 x3 x4 hn hI_s_k hF_s_k hI_s_g h_x1l h_x1u h_x2l h_x2u h_x4l h_x4u 
    exact ok_kX10_drawn_29 s0 (kX10_drawn_29L  n) ((20 - x4.toInt).toNat) (fun zs zx1 zx2 zx3 zx4 g0 g1 g2 g3 g4 g5 g6 g7 g8  hm => ih zs zx1 zx2 zx3 zx4 (by omega) g0 g1 g2 g3 g4 g5 g6 g7 g8 ) s x1 x2 x3 x4 hI_s_k hF_s_k hI_s_g h_x1l h_x1u h_x2l h_x2u h_x4l h_x4u (Nat.le_refl _)
set_option maxHeartbeats 1000000 in
theorem ok_kX10_drawnB (s0 : XS)  (s : XS) (x1 : Int32) (x2 : Int32) (hI_s_k : InvK s.k) (hF_s_k : FrK [] s0.k s.k) (hI_s_g : InvG s.g)  : Ok (kX10_drawn  s x1 x2) (Q_kX10_drawn s0) := by
  unfold kX10_drawn
  refine ok_bindI (ok_kX5_hasWave _ _ hI_s_k) (fun r2 s1 hc_1 => ?_)
  have hI_s1 : InvK s1 := hc_1.1
  have hFc_s1 : FrK [] s.k s1 := hc_1.2.1
  have hF_s1 : FrK [] s0.k s1 := hF_s_k.trans hFc_s1 (by decide)
  have hl_r2 : 0 ≤ r2.toInt := hc_1.2.2.1
  have hu_r2 : r2.toInt ≤ 1 := hc_1.2.2.2.1
  have hx0_r2 : (¬ r2.toInt = 0 → 0 ≤ (x1).toInt ∧ (x1).toInt ≤ 4) := hc_1.2.2.2.2
  refine ok_let (fun s3 hs3 => ?_)
  have hI_s3_g : InvG s3.g := by rw [← hs3]; exact hI_s_g
  have hI_s3_k : InvK s3.k := by rw [← hs3]; exact hI_s1
  have hF_s3_k : FrK [] s0.k s3.k := by rw [← hs3]; exact hF_s1
  refine ok_ite (fun c_2 => ?_) (fun c_2 => ?_)
  · have c_2 := tn_eq (a := (r2).toInt) (b := 0) rfl (by decide) c_2
    exact ok_some ⟨hI_s3_k, hF_s3_k, hI_s3_g, (ti_rng _).1, (ti_rng _).2⟩
  · have c_2 := tn_ne (a := (r2).toInt) (b := 0) rfl (by decide) c_2
    refine ok_ite (fun c_3 => ?_) (fun c_3 => ?_)
    · have c_3 := tn_lt (a := (x2).toInt) (b := 1) rfl (by decide) c_3
      exact ok_some ⟨hI_s3_k, hF_s3_k, hI_s3_g, (ti_rng _).1, (ti_rng _).2⟩
    · have c_3 := tn_nlt (a := (x2).toInt) (b := 1) rfl (by decide) c_3
      refine ok_ite (fun c_4 => ?_) (fun c_4 => ?_)
      · have c_4 := tn_le (a := (x2).toInt) (b := 20) rfl (by decide) c_4
        have l_0 : (0 : Int32).toInt = 0 := by decide
        exact okL_kX10_drawn_29 s0  fu _ _ _ _ _ (by unfold fu; omega) hI_s3_k hF_s3_k hI_s3_g (by omega) (by omega) (by omega) (by omega) (by decide) (by decide) 
      · have c_4 := tn_nle (a := (x2).toInt) (b := 20) rfl (by decide) c_4
        exact ok_some ⟨hI_s3_k, hF_s3_k, hI_s3_g, (ti_rng _).1, (ti_rng _).2⟩
theorem ok_kX10_drawn (s : XS) (x1 : Int32) (x2 : Int32) (hI_s_k : InvK s.k) (hI_s_g : InvG s.g) : Ok (kX10_drawn s x1 x2) (Q_kX10_drawn s) := ok_kX10_drawnB s s x1 x2 hI_s_k FrK.rfl hI_s_g
