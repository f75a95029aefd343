abbrev Q_kX10_bears (s0 : XS) (y : Int32 × XS) : Prop := InvK y.2.k ∧ FrK [7, 113, 114] s0.k y.2.k ∧ InvG y.2.g ∧ -1 ≤ y.1.toInt ∧ y.1.toInt ≤ 5
set_option maxHeartbeats 1000000 in
theorem ok_kX10_bearsB (s0 : XS)  (s : XS) (x1 : Int32) (x2 : Int32) (hI_s_k : InvK s.k) (hF_s_k : FrK [7, 113, 114] s0.k s.k) (hI_s_g : InvG s.g)  : Ok (kX10_bears  s x1 x2) (Q_kX10_bears s0) := by
  unfold kX10_bears
  refine ok_bindI (ok_kX5_hasParty _ _ hI_s_k) (fun r2 s1 hc_1 => ?_)
  have hI_s1 : InvK s1 := hc_1.1
  have hFc_s1 : FrK [] s.k s1 := hc_1.2.1
  have hF_s1 : FrK [7, 113, 114] s0.k s1 := hF_s_k.trans hFc_s1 (by decide)
  have hl_r2 : 0 ≤ r2.toInt := hc_1.2.2.1
  have hu_r2 : r2.toInt ≤ 1 := hc_1.2.2.2.1
  have hx0_r2 : (¬ r2.toInt = 0 → 0 ≤ (x1).toInt ∧ (x1).toInt ≤ 5) := hc_1.2.2.2.2
  refine ok_let (fun s3 hs3 => ?_)
  have hI_s3_g : InvG s3.g := by rw [← hs3]; exact hI_s_g
  have hI_s3_k : InvK s3.k := by rw [← hs3]; exact hI_s1
  have hF_s3_k : FrK [7, 113, 114] s0.k s3.k := by rw [← hs3]; exact hF_s1
  refine ok_ite (fun c_2 => ?_) (fun c_2 => ?_)
  · have c_2 := tn_eq (a := (r2).toInt) (b := 0) rfl (by decide) c_2
    exact ok_some ⟨hI_s3_k, hF_s3_k, hI_s3_g, by show -1 ≤ ((-1) : Int32).toInt; decide, by show ((-1) : Int32).toInt ≤ 5; decide⟩
  · have c_2 := tn_ne (a := (r2).toInt) (b := 0) rfl (by decide) c_2
    refine ok_bindI (ok_kX5_hasGuess _ _ hI_s3_k) (fun r7 s6 hc_3 => ?_)
    have hI_s6 : InvK s6 := hc_3.1
    have hFc_s6 : FrK [] s3.k s6 := hc_3.2.1
    have hF_s6 : FrK [7, 113, 114] s0.k s6 := hF_s3_k.trans hFc_s6 (by decide)
    have hl_r7 : 0 ≤ r7.toInt := hc_3.2.2.1
    have hu_r7 : r7.toInt ≤ 1 := hc_3.2.2.2.1
    have hx0_r7 : (¬ r7.toInt = 0 → 0 ≤ (x2).toInt) := hc_3.2.2.2.2
    refine ok_let (fun s8 hs8 => ?_)
    have hI_s8_g : InvG s8.g := by rw [← hs8]; exact hI_s3_g
    have hI_s8_k : InvK s8.k := by rw [← hs8]; exact hI_s6
    have hF_s8_k : FrK [7, 113, 114] s0.k s8.k := by rw [← hs8]; exact hF_s6
    refine ok_ite (fun c_4 => ?_) (fun c_4 => ?_)
    · have c_4 := tn_eq (a := (r7).toInt) (b := 0) rfl (by decide) c_4
      exact ok_some ⟨hI_s8_k, hF_s8_k, hI_s8_g, by show -1 ≤ ((-1) : Int32).toInt; decide, by show ((-1) : Int32).toInt ≤ 5; decide⟩
    · have c_4 := tn_ne (a := (r7).toInt) (b := 0) rfl (by decide) c_4
      refine ok_bindI (ok_kX2_borneOver _ _ _ hI_s8_k (by omega) (by omega) (by omega)) (fun r12 s11 hc_5 => ?_)
      have hI_s11_k : InvK s11.k := hc_5.1
      have hFc_s11_k : FrK [7, 113, 114] s8.k s11.k := hc_5.2.1
      have hF_s11_k : FrK [7, 113, 114] s0.k s11.k := hF_s8_k.trans hFc_s11_k (by decide)
      have hl_r12 : 0 ≤ r12.toInt := hc_5.2.2.1
      have hu_r12 : r12.toInt ≤ 5 := hc_5.2.2.2
      refine ok_let (fun s13 hs13 => ?_)
      have hI_s13_g : InvG s13.g := by rw [← hs13]; exact hI_s8_g
      have hI_s13_k : InvK s13.k := by rw [← hs13]; exact hI_s11_k
      have hF_s13_k : FrK [7, 113, 114] s0.k s13.k := by rw [← hs13]; exact hF_s11_k
      exact ok_some ⟨hI_s13_k, hF_s13_k, hI_s13_g, by show -1 ≤ (r12).toInt; omega, by show (r12).toInt ≤ 5; omega⟩
theorem ok_kX10_bears (s : XS) (x1 : Int32) (x2 : Int32) (hI_s_k : InvK s.k) (hI_s_g : InvG s.g) : Ok (kX10_bears s x1 x2) (Q_kX10_bears s) := ok_kX10_bearsB s s x1 x2 hI_s_k FrK.rfl hI_s_g
abbrev Q_kX10_sunk (s0 : XS) (y : Int32 × XS) : Prop := InvK y.2.k ∧ FrK [7, 113, 114] s0.k y.2.k ∧ InvG y.2.g ∧ -2147483648 ≤ y.1.toInt ∧ y.1.toInt ≤ 2147483647
set_option maxHeartbeats 1000000 in
theorem ok_kX10_sunk_69 (s0 : XS) (k17 : XS → Int32 → Int32 → Int32 → Option (Int32 × XS)) (M17 : Nat) (hk17 : ∀ (s : XS) (x1 : Int32) (x2 : Int32) (x3 : Int32), InvK s.k → FrK [7, 113, 114] s0.k s.k → InvG s.g → 0 ≤ x1.toInt → 0 ≤ x3.toInt → x3.toInt ≤ 6 → (6 - x3.toInt).toNat < M17 → Ok (k17 s x1 x2 x3) (Q_kX10_sunk s0)) (s : XS) (x1 : Int32) (x2 : Int32) (x3 : Int32) (hI_s_k : InvK s.k) (hF_s_k : FrK [7, 113, 114] s0.k s.k) (hI_s_g : InvG s.g) (h_x1l : 0 ≤ x1.toInt) (h_x3l : 0 ≤ x3.toInt) (h_x3u : x3.toInt ≤ 5) (hM17 : (6 - x3.toInt).toNat ≤ M17) : Ok (kX10_sunk_69 k17 s x1 x2 x3) (Q_kX10_sunk s0) := by
  unfold kX10_sunk_69
  have a_1 : ((x3 + 1)).toInt = (x3).toInt + 1 := tn_add rfl (by decide) (by omega) (by omega)
  exact hk17 _ _ _ _ hI_s_k hF_s_k hI_s_g (by omega) (by omega) (by omega) (by omega)
set_option maxHeartbeats 1000000 in
theorem ok_kX10_sunk_17 (s0 : XS) (k17 : XS → Int32 → Int32 → Int32 → Option (Int32 × XS)) (M17 : Nat) (hk17 : ∀ (s : XS) (x1 : Int32) (x2 : Int32) (x3 : Int32), InvK s.k → FrK [7, 113, 114] s0.k s.k → InvG s.g → 0 ≤ x1.toInt → 0 ≤ x3.toInt → x3.toInt ≤ 6 → (6 - x3.toInt).toNat < M17 → Ok (k17 s x1 x2 x3) (Q_kX10_sunk s0)) (s : XS) (x1 : Int32) (x2 : Int32) (x3 : Int32) (hI_s_k : InvK s.k) (hF_s_k : FrK [7, 113, 114] s0.k s.k) (hI_s_g : InvG s.g) (h_x1l : 0 ≤ x1.toInt) (h_x3l : 0 ≤ x3.toInt) (h_x3u : x3.toInt ≤ 6) (hM17 : (6 - x3.toInt).toNat ≤ M17) : Ok (kX10_sunk_17 k17 s x1 x2 x3) (Q_kX10_sunk s0) := by
  unfold kX10_sunk_17
  have a_1 : 0 ≤ (s.k.v 2).toInt ∧ (s.k.v 2).toInt ≤ 6 := hI_s_k.1 2
  refine ok_ite (fun c_2 => ?_) (fun c_2 => ?_)
  · have c_2 := tn_le (a := ((s.k.v 2)).toInt) (b := (x3).toInt) rfl rfl c_2
    exact ok_some ⟨hI_s_k, hF_s_k, hI_s_g, (ti_rng _).1, (ti_rng _).2⟩
  · have c_2 := tn_nle (a := ((s.k.v 2)).toInt) (b := (x3).toInt) rfl rfl c_2
    refine ok_grd (vpb_ok (by omega) (by omega)) ?_
    refine ok_ite (fun c_3 => ?_) (fun c_3 => ?_)
    · have c_3 := tn_eq (a := (((s.n.f 3) (Int32.toNatClampNeg x3))).toInt) (b := 0) rfl (by decide) c_3
      refine ok_bindI (ok_kX2_borneOver _ _ _ hI_s_k (by omega) (by omega) (by omega)) (fun r5 s4 hc_4 => ?_)
      have hI_s4_k : InvK s4.k := hc_4.1
      have hFc_s4_k : FrK [7, 113, 114] s.k s4.k := hc_4.2.1
      have hF_s4_k : FrK [7, 113, 114] s0.k s4.k := hF_s_k.trans hFc_s4_k (by decide)
      have hl_r5 : 0 ≤ r5.toInt := hc_4.2.2.1
      have hu_r5 : r5.toInt ≤ 5 := hc_4.2.2.2
      refine ok_let (fun s6 hs6 => ?_)
      have hI_s6_g : InvG s6.g := by rw [← hs6]; exact hI_s_g
      have hI_s6_k : InvK s6.k := by rw [← hs6]; exact hI_s4_k
      have hF_s6_k : FrK [7, 113, 114] s0.k s6.k := by rw [← hs6]; exact hF_s4_k
      have a_5 : 0 ≤ (s.k.v 1).toInt ∧ (s.k.v 1).toInt ≤ 5 := hI_s_k.1 1
      have a_6 : (s4.k.v 1).toInt = (s.k.v 1).toInt := congrArg Int32.toInt (hFc_s4_k.1 1 (by decide))
      have a_7 : (s6.k.v 1).toInt = (s4.k.v 1).toInt := congrArg Int32.toInt (show s6.k.v 1 = s4.k.v 1 by rw [← hs6]; rfl)
      refine ok_ite (fun c_8 => ?_) (fun c_8 => ?_)
      · have c_8 := tn_le (a := ((s6.k.v 1)).toInt) (b := (r5).toInt) rfl rfl c_8
        exact ok_kX10_sunk_69 s0 k17 M17 hk17 _ _ _ _ hI_s6_k hF_s6_k hI_s6_g (by omega) (by omega) (by omega) (by omega)
      · have c_8 := tn_nle (a := ((s6.k.v 1)).toInt) (b := (r5).toInt) rfl rfl c_8
        exact ok_kX10_sunk_69 s0 k17 M17 hk17 _ _ _ _ hI_s6_k hF_s6_k hI_s6_g (by omega) (by omega) (by omega) (by omega)
    · have c_3 := tn_ne (a := (((s.n.f 3) (Int32.toNatClampNeg x3))).toInt) (b := 0) rfl (by decide) c_3
      exact ok_kX10_sunk_69 s0 k17 M17 hk17 _ _ _ _ hI_s_k hF_s_k hI_s_g (by omega) (by omega) (by omega) (by omega)
theorem okL_kX10_sunk_17 (s0 : XS)  : ∀ (n : Nat) (s : XS) (x1 : Int32) (x2 : Int32) (x3 : Int32), (6 - x3.toInt).toNat < n → InvK s.k → FrK [7, 113, 114] s0.k s.k → InvG s.g → 0 ≤ x1.toInt → 0 ≤ x3.toInt → x3.toInt ≤ 6 → Ok (kX10_sunk_17L  n s x1 x2 x3) (Q_kX10_sunk s0) := by
  intro n
  induction n with
  | zero => intro s x1 x2 x3 hn; omega
  | succ n ih =>
    intro s x1 x2 x3 hn hI_s_k hF_s_k hI_s_g h_x1l h_x3l h_x3u 
    exact ok_kX10_sunk_17 s0 (kX10_sunk_17L  n) ((6 - x3.toInt).toNat) (fun zs zx1 zx2 zx3 g0 g1 g2 g3 g4 g5  hm => ih zs zx1 zx2 zx3 (by omega) g0 g1 g2 g3 g4 g5 ) s x1 x2 x3 hI_s_k hF_s_k hI_s_g h_x1l h_x3l h_x3u (Nat.le_refl _)
set_option maxHeartbeats 1000000 in
theorem ok_kX10_sunkB (s0 : XS)  (s : XS) (x1 : Int32) (hI_s_k : InvK s.k) (hF_s_k : FrK [7, 113, 114] s0.k s.k) (hI_s_g : InvG s.g)  : Ok (kX10_sunk  s x1) (Q_kX10_sunk s0) := by
  unfold kX10_sunk
  refine ok_bindI (ok_kX5_hasGuess _ _ hI_s_k) (fun r2 s1 hc_1 => ?_)
  have hI_s1 : InvK s1 := hc_1.1
  have hFc_s1 : FrK [] s.k s1 := hc_1.2.1
  have hF_s1 : FrK [7, 113, 114] s0.k s1 := hF_s_k.trans hFc_s1 (by decide)
  have hl_r2 : 0 ≤ r2.toInt := hc_1.2.2.1
  have hu_r2 : r2.toInt ≤ 1 := hc_1.2.2.2.1
  have hx0_r2 : (¬ r2.toInt = 0 → 0 ≤ (x1).toInt) := hc_1.2.2.2.2
  refine ok_let (fun s3 hs3 => ?_)
  have hI_s3_g : InvG s3.g := by rw [← hs3]; exact hI_s_g
  have hI_s3_k : InvK s3.k := by rw [← hs3]; exact hI_s1
  have hF_s3_k : FrK [7, 113, 114] s0.k s3.k := by rw [← hs3]; exact hF_s1
  refine ok_ite (fun c_2 => ?_) (fun c_2 => ?_)
  · have c_2 := tn_eq (a := (r2).toInt) (b := 0) rfl (by decide) c_2
    exact ok_some ⟨hI_s3_k, hF_s3_k, hI_s3_g, (ti_rng _).1, (ti_rng _).2⟩
  · have c_2 := tn_ne (a := (r2).toInt) (b := 0) rfl (by decide) c_2
    have l_0 : (0 : Int32).toInt = 0 := by decide
    exact okL_kX10_sunk_17 s0  fu _ _ _ _ (by unfold fu; omega) hI_s3_k hF_s3_k hI_s3_g (by omega) (by decide) (by decide) 
theorem ok_kX10_sunk (s : XS) (x1 : Int32) (hI_s_k : InvK s.k) (hI_s_g : InvG s.g) : Ok (kX10_sunk s x1) (Q_kX10_sunk s) := ok_kX10_sunkB s s x1 hI_s_k FrK.rfl hI_s_g
abbrev Q_kX10_dearest (s0 : XS) (y : Int32 × XS) : Prop := InvK y.2.k ∧ FrK [7, 113, 114] s0.k y.2.k ∧ InvG y.2.g ∧ -2 ≤ y.1.toInt ∧ y.1.toInt ≤ 100
set_option maxHeartbeats 1000000 in
theorem ok_kX10_dearest_59 (s0 : XS) (k20 : XS → Int32 → Int32 → Int32 → Int32 → Option (Int32 × XS)) (M20 : Nat) (hk20 : ∀ (s : XS) (x1 : Int32) (x2 : Int32) (x3 : Int32) (x4 : Int32), InvK s.k → FrK [7, 113, 114] s0.k s.k → InvG s.g → 0 ≤ x1.toInt → x1.toInt ≤ 1 → -2 ≤ x2.toInt → x2.toInt ≤ 5 → -2 ≤ x3.toInt → x3.toInt ≤ 100 → 0 ≤ x4.toInt → x4.toInt ≤ 6 → (6 - x4.toInt).toNat < M20 → Ok (k20 s x1 x2 x3 x4) (Q_kX10_dearest s0)) (s : XS) (x1 : Int32) (x2 : Int32) (x3 : Int32) (x4 : Int32) (hI_s_k : InvK s.k) (hF_s_k : FrK [7, 113, 114] s0.k s.k) (hI_s_g : InvG s.g) (h_x1l : 0 ≤ x1.toInt) (h_x1u : x1.toInt ≤ 1) (h_x2l : -2 ≤ x2.toInt) (h_x2u : x2.toInt ≤ 5) (h_x3l : 0 ≤ x3.toInt) (h_x3u : x3.toInt ≤ 100) (h_x4l : 0 ≤ x4.toInt) (h_x4u : x4.toInt ≤ 5) (hM20 : (6 - x4.toInt).toNat ≤ M20) : Ok (kX10_dearest_59 k20 s x1 x2 x3 x4) (Q_kX10_dearest s0) := by
  unfold kX10_dearest_59
  have a_1 : ((x4 + 1)).toInt = (x4).toInt + 1 := tn_add rfl (by decide) (by omega) (by omega)
  exact hk20 _ _ _ _ _ hI_s_k hF_s_k hI_s_g (by omega) (by omega) (by omega) (by omega) (by omega) (by omega) (by omega) (by omega) (by omega)
set_option maxHeartbeats 1000000 in
theorem ok_kX10_dearest_20 (s0 : XS) (k20 : XS → Int32 → Int32 → Int32 → Int32 → Option (Int32 × XS)) (M20 : Nat) (hk20 : ∀ (s : XS) (x1 : Int32) (x2 : Int32) (x3 : Int32) (x4 : Int32), InvK s.k → FrK [7, 113, 114] s0.k s.k → InvG s.g → 0 ≤ x1.toInt → x1.toInt ≤ 1 → -2 ≤ x2.toInt → x2.toInt ≤ 5 → -2 ≤ x3.toInt → x3.toInt ≤ 100 → 0 ≤ x4.toInt → x4.toInt ≤ 6 → (6 - x4.toInt).toNat < M20 → Ok (k20 s x1 x2 x3 x4) (Q_kX10_dearest s0)) (s : XS) (x1 : Int32) (x2 : Int32) (x3 : Int32) (x4 : Int32) (hI_s_k : InvK s.k) (hF_s_k : FrK [7, 113, 114] s0.k s.k) (hI_s_g : InvG s.g) (h_x1l : 0 ≤ x1.toInt) (h_x1u : x1.toInt ≤ 1) (h_x2l : -2 ≤ x2.toInt) (h_x2u : x2.toInt ≤ 5) (h_x3l : -2 ≤ x3.toInt) (h_x3u : x3.toInt ≤ 100) (h_x4l : 0 ≤ x4.toInt) (h_x4u : x4.toInt ≤ 6) (hM20 : (6 - x4.toInt).toNat ≤ M20) : Ok (kX10_dearest_20 k20 s x1 x2 x3 x4) (Q_kX10_dearest s0) := by
  unfold kX10_dearest_20
  have a_1 : 0 ≤ (s.k.v 2).toInt ∧ (s.k.v 2).toInt ≤ 6 := hI_s_k.1 2
  refine ok_ite (fun c_2 => ?_) (fun c_2 => ?_)
  · have c_2 := tn_le (a := ((s.k.v 2)).toInt) (b := (x4).toInt) rfl rfl c_2
    refine ok_ite (fun c_3 => ?_) (fun c_3 => ?_)
    · have c_3 := tn_eq (a := (x1).toInt) (b := 0) rfl (by decide) c_3
      exact ok_some ⟨hI_s_k, hF_s_k, hI_s_g, by show -2 ≤ (x2).toInt; omega, by show (x2).toInt ≤ 100; omega⟩
    · have c_3 := tn_ne (a := (x1).toInt) (b := 0) rfl (by decide) c_3
      exact ok_some ⟨hI_s_k, hF_s_k, hI_s_g, by show -2 ≤ (x3).toInt; omega, by show (x3).toInt ≤ 100; omega⟩
  · have c_2 := tn_nle (a := ((s.k.v 2)).toInt) (b := (x4).toInt) rfl rfl c_2
    refine ok_bindI (ok_kX0_fareOf _ _ hI_s_k (by omega) (by omega)) (fun r4 s3 hc_4 => ?_)
    have hI_s3_k : InvK s3.k := hc_4.1
    have hFc_s3_k : FrK [7, 113, 114] s.k s3.k := hc_4.2.1
    have hF_s3_k : FrK [7, 113, 114] s0.k s3.k := hF_s_k.trans hFc_s3_k (by decide)
    have hl_r4 : 0 ≤ r4.toInt := hc_4.2.2.1
    have hu_r4 : r4.toInt ≤ 100 := hc_4.2.2.2
    refine ok_let (fun s5 hs5 => ?_)
    have hI_s5_g : InvG s5.g := by rw [← hs5]; exact hI_s_g
    have hI_s5_k : InvK s5.k := by rw [← hs5]; exact hI_s3_k
    have hF_s5_k : FrK [7, 113, 114] s0.k s5.k := by rw [← hs5]; exact hF_s3_k
    refine ok_ite (fun c_5 => ?_) (fun c_5 => ?_)
    · have c_5 := tn_le (a := (r4).toInt) (b := (x3).toInt) rfl rfl c_5
      exact ok_kX10_dearest_59 s0 k20 M20 hk20 _ _ _ _ _ hI_s5_k hF_s5_k hI_s5_g (by omega) (by omega) (by omega) (by omega) (by omega) (by omega) (by omega) (by omega) (by omega)
    · have c_5 := tn_nle (a := (r4).toInt) (b := (x3).toInt) rfl rfl c_5
      exact ok_kX10_dearest_59 s0 k20 M20 hk20 _ _ _ _ _ hI_s5_k hF_s5_k hI_s5_g (by omega) (by omega) (by omega) (by omega) (by omega) (by omega) (by omega) (by omega) (by omega)
theorem okL_kX10_dearest_20 (s0 : XS)  : ∀ (n : Nat) (s : XS) (x1 : Int32) (x2 : Int32) (x3 : Int32) (x4 : Int32), (6 - x4.toInt).toNat < n → InvK s.k → FrK [7, 113, 114] s0.k s.k → InvG s.g → 0 ≤ x1.toInt → x1.toInt ≤ 1 → -2 ≤ x2.toInt → x2.toInt ≤ 5 → -2 ≤ x3.toInt → x3.toInt ≤ 100 → 0 ≤ x4.toInt → x4.toInt ≤ 6 → Ok (kX10_dearest_20L  n s x1 x2 x3 x4) (Q_kX10_dearest s0) := by
  intro n
  induction n with
  | zero => intro s x1 x2 x3 x4 hn; omega
  | succ n ih =>
    intro s x1 x2 x3 x4 hn hI_s_k hF_s_k hI_s_g h_x1l h_x1u h_x2l h_x2u h_x3l h_x3u h_x4l h_x4u 
    exact ok_kX10_dearest_20 s0 (kX10_dearest_20L  n) ((6 - x4.toInt).toNat) (fun zs zx1 zx2 zx3 zx4 g0 g1 g2 g3 g4 g5 g6 g7 g8 g9 g10  hm => ih zs zx1 zx2 zx3 zx4 (by omega) g0 g1 g2 g3 g4 g5 g6 g7 g8 g9 g10 ) s x1 x2 x3 x4 hI_s_k hF_s_k hI_s_g h_x1l h_x1u h_x2l h_x2u h_x3l h_x3u h_x4l h_x4u (Nat.le_refl _)
set_option maxHeartbeats 1000000 in
theorem ok_kX10_dearest_11 (s0 : XS)  (s : XS) (x1 : Int32) (hI_s_k : InvK s.k) (hF_s_k : FrK [7, 113, 114] s0.k s.k) (hI_s_g : InvG s.g) (h_x1l : 0 ≤ x1.toInt) (h_x1u : x1.toInt ≤ 1)  : Ok (kX10_dearest_11  s x1) (Q_kX10_dearest s0) := by
  unfold kX10_dearest_11
  have l_m2 : ((-2) : Int32).toInt = -2 := by decide
  have l_0 : (0 : Int32).toInt = 0 := by decide
  exact okL_kX10_dearest_20 s0  fu _ _ _ _ _ (by unfold fu; omega) hI_s_k hF_s_k hI_s_g (by omega) (by omega) (by decide) (by decide) (by decide) (by decide) (by decide) (by decide) 
set_option maxHeartbeats 1000000 in
theorem ok_kX10_dearestB (s0 : XS)  (s : XS) (x1 : Int32) (hI_s_k : InvK s.k) (hF_s_k : FrK [7, 113, 114] s0.k s.k) (hI_s_g : InvG s.g)  : Ok (kX10_dearest  s x1) (Q_kX10_dearest s0) := by
  unfold kX10_dearest
  refine ok_ite (fun c_1 => ?_) (fun c_1 => ?_)
  · have c_1 := tn_eq (a := (x1).toInt) (b := 0) rfl (by decide) c_1
    exact ok_kX10_dearest_11 s0  _ _ hI_s_k hF_s_k hI_s_g (by omega) (by omega) 
  · have c_1 := tn_ne (a := (x1).toInt) (b := 0) rfl (by decide) c_1
    refine ok_ite (fun c_2 => ?_) (fun c_2 => ?_)
    · have c_2 := tn_eq (a := (x1).toInt) (b := 1) rfl (by decide) c_2
      exact ok_kX10_dearest_11 s0  _ _ hI_s_k hF_s_k hI_s_g (by omega) (by omega) 
    · have c_2 := tn_ne (a := (x1).toInt) (b := 1) rfl (by decide) c_2
      exact ok_some ⟨hI_s_k, hF_s_k, hI_s_g, by show -2 ≤ ((-1) : Int32).toInt; decide, by show ((-1) : Int32).toInt ≤ 100; decide⟩
theorem ok_kX10_dearest (s : XS) (x1 : Int32) (hI_s_k : InvK s.k) (hI_s_g : InvG s.g) : Ok (kX10_dearest s x1) (Q_kX10_dearest s) := ok_kX10_dearestB s s x1 hI_s_k FrK.rfl hI_s_g
abbrev Q_kX10_darers (s0 : XS) (y : Int32 × XS) : Prop := InvK y.2.k ∧ FrK [7, 113, 114] s0.k y.2.k ∧ InvG y.2.g ∧ -2147483648 ≤ y.1.toInt ∧ y.1.toInt ≤ 2147483647
set_option maxHeartbeats 1000000 in
theorem ok_kX10_darers_48 (s0 : XS) (k4 : XS → Int32 → Int32 → Option (Int32 × XS)) (M4 : Nat) (hk4 : ∀ (s : XS) (x1 : Int32) (x2 : Int32), InvK s.k → FrK [7, 113, 114] s0.k s.k → InvG s.g → 0 ≤ x2.toInt → x2.toInt ≤ 6 → (6 - x2.toInt).toNat < M4 → Ok (k4 s x1 x2) (Q_kX10_darers s0)) (s : XS) (x1 : Int32) (x2 : Int32) (hI_s_k : InvK s.k) (hF_s_k : FrK [7, 113, 114] s0.k s.k) (hI_s_g : InvG s.g) (h_x2l : 0 ≤ x2.toInt) (h_x2u : x2.toInt ≤ 5) (hM4 : (6 - x2.toInt).toNat ≤ M4) : Ok (kX10_darers_48 k4 s x1 x2) (Q_kX10_darers s0) := by
  unfold kX10_darers_48
  have a_1 : ((x2 + 1)).toInt = (x2).toInt + 1 := tn_add rfl (by decide) (by omega) (by omega)
  exact hk4 _ _ _ hI_s_k hF_s_k hI_s_g (by omega) (by omega) (by omega)
set_option maxHeartbeats 1000000 in
theorem ok_kX10_darers_4 (s0 : XS) (k4 : XS → Int32 → Int32 → Option (Int32 × XS)) (M4 : Nat) (hk4 : ∀ (s : XS) (x1 : Int32) (x2 : Int32), InvK s.k → FrK [7, 113, 114] s0.k s.k → InvG s.g → 0 ≤ x2.toInt → x2.toInt ≤ 6 → (6 - x2.toInt).toNat < M4 → Ok (k4 s x1 x2) (Q_kX10_darers s0)) (s : XS) (x1 : Int32) (x2 : Int32) (hI_s_k : InvK s.k) (hF_s_k : FrK [7, 113, 114] s0.k s.k) (hI_s_g : InvG s.g) (h_x2l : 0 ≤ x2.toInt) (h_x2u : x2.toInt ≤ 6) (hM4 : (6 - x2.toInt).toNat ≤ M4) : Ok (kX10_darers_4 k4 s x1 x2) (Q_kX10_darers s0) := by
  unfold kX10_darers_4
  have a_1 : 0 ≤ (s.k.v 2).toInt ∧ (s.k.v 2).toInt ≤ 6 := hI_s_k.1 2
  refine ok_ite (fun c_2 => ?_) (fun c_2 => ?_)
  · have c_2 := tn_le (a := ((s.k.v 2)).toInt) (b := (x2).toInt) rfl rfl c_2
    exact ok_some ⟨hI_s_k, hF_s_k, hI_s_g, (ti_rng _).1, (ti_rng _).2⟩
  · have c_2 := tn_nle (a := ((s.k.v 2)).toInt) (b := (x2).toInt) rfl rfl c_2
    refine ok_grd (vpb_ok (by omega) (by omega)) ?_
    refine ok_ite (fun c_3 => ?_) (fun c_3 => ?_)
    · have c_3 := tn_eq (a := (((s.n.f 3) (Int32.toNatClampNeg x2))).toInt) (b := 0) rfl (by decide) c_3
      refine ok_bindI (ok_kX0_isDaring _ _ hI_s_k (by omega) (by omega)) (fun r5 s4 hc_4 => ?_)
      have hI_s4_k : InvK s4.k := hc_4.1
      have hFc_s4_k : FrK [7, 113, 114] s.k s4.k := hc_4.2.1
      have hF_s4_k : FrK [7, 113, 114] s0.k s4.k := hF_s_k.trans hFc_s4_k (by decide)
      have hl_r5 : 0 ≤ r5.toInt := hc_4.2.2.1
      have hu_r5 : r5.toInt ≤ 1 := hc_4.2.2.2
      refine ok_let (fun s6 hs6 => ?_)
      have hI_s6_g : InvG s6.g := by rw [← hs6]; exact hI_s_g
      have hI_s6_k : InvK s6.k := by rw [← hs6]; exact hI_s4_k
      have hF_s6_k : FrK [7, 113, 114] s0.k s6.k := by rw [← hs6]; exact hF_s4_k
      refine ok_ite (fun c_5 => ?_) (fun c_5 => ?_)
      · have c_5 := tn_eq (a := (r5).toInt) (b := 0) rfl (by decide) c_5
        exact ok_kX10_darers_48 s0 k4 M4 hk4 _ _ _ hI_s6_k hF_s6_k hI_s6_g (by omega) (by omega) (by omega)
      · have c_5 := tn_ne (a := (r5).toInt) (b := 0) rfl (by decide) c_5
        exact ok_kX10_darers_48 s0 k4 M4 hk4 _ _ _ hI_s6_k hF_s6_k hI_s6_g (by omega) (by omega) (by omega)
    · have c_3 := tn_ne (a := (((s.n.f 3) (Int32.toNatClampNeg x2))).toInt) (b := 0) rfl (by decide) c_3
      exact ok_kX10_darers_48 s0 k4 M4 hk4 _ _ _ hI_s_k hF_s_k hI_s_g (by omega) (by omega) (by omega)
theorem okL_kX10_darers_4 (s0 : XS)  : ∀ (n : Nat) (s : XS) (x1 : Int32) (x2 : Int32), (6 - x2.toInt).toNat < n → InvK s.k → FrK [7, 113, 114] s0.k s.k → InvG s.g → 0 ≤ x2.toInt → x2.toInt ≤ 6 → Ok (kX10_darers_4L  n s x1 x2) (Q_kX10_darers s0) := by
  intro n
  induction n with
  | zero => intro s x1 x2 hn; omega
  | succ n ih =>
    intro s x1 x2 hn hI_s_k hF_s_k hI_s_g h_x2l h_x2u 
    exact ok_kX10_darers_4 s0 (kX10_darers_4L  n) ((6 - x2.toInt).toNat) (fun zs zx1 zx2 g0 g1 g2 g3 g4  hm => ih zs zx1 zx2 (by omega) g0 g1 g2 g3 g4 ) s x1 x2 hI_s_k hF_s_k hI_s_g h_x2l h_x2u (Nat.le_refl _)
set_option maxHeartbeats 1000000 in
theorem ok_kX10_darersB (s0 : XS)  (s : XS) (hI_s_k : InvK s.k) (hF_s_k : FrK [7, 113, 114] s0.k s.k) (hI_s_g : InvG s.g)  : Ok (kX10_darers  s) (Q_kX10_darers s0) := by
  unfold kX10_darers
  have l_0 : (0 : Int32).toInt = 0 := by decide
  exact okL_kX10_darers_4 s0  fu _ _ _ (by unfold fu; omega) hI_s_k hF_s_k hI_s_g (by decide) (by decide) 
theorem ok_kX10_darers (s : XS) (hI_s_k : InvK s.k) (hI_s_g : InvG s.g) : Ok (kX10_darers s) (Q_kX10_darers s) := ok_kX10_darersB s s hI_s_k FrK.rfl hI_s_g
abbrev Q_kX10_year (s0 : XS) (y : Int32 × XS) : Prop := InvK y.2.k ∧ FrK [] s0.k y.2.k ∧ InvG y.2.g ∧ -2147483648 ≤ y.1.toInt ∧ y.1.toInt ≤ 2147483647
set_option maxHeartbeats 1000000 in
theorem ok_kX10_year_63 (s0 : XS) (k29 : XS → Int32 → Int32 → Int32 → Int32 → Option (Int32 × XS)) (M29 : Nat) (hk29 : ∀ (s : XS) (x1 : Int32) (x2 : Int32) (x3 : Int32) (x4 : Int32), InvK s.k → FrK [] s0.k s.k → InvG s.g → 0 ≤ x1.toInt → 1 ≤ x2.toInt → x2.toInt ≤ 20 → 0 ≤ x4.toInt → x4.toInt ≤ 20 → (20 - x4.toInt).toNat < M29 → Ok (k29 s x1 x2 x3 x4) (Q_kX10_year s0)) (s : XS) (x1 : Int32) (x2 : Int32) (x3 : Int32) (x4 : Int32) (hI_s_k : InvK s.k) (hF_s_k : FrK [] s0.k s.k) (hI_s_g : InvG s.g) (h_x1l : 0 ≤ x1.toInt) (h_x2l : 1 ≤ x2.toInt) (h_x2u : x2.toInt ≤ 20) (h_x4l : 0 ≤ x4.toInt) (h_x4u : x4.toInt ≤ 19) (hM29 : (20 - x4.toInt).toNat ≤ M29) : Ok (kX10_year_63 k29 s x1 x2 x3 x4) (Q_kX10_year s0) := by
  unfold kX10_year_63
  have a_1 : ((x4 + 1)).toInt = (x4).toInt + 1 := tn_add rfl (by decide) (by omega) (by omega)
  exact hk29 _ _ _ _ _ hI_s_k hF_s_k hI_s_g (by omega) (by omega) (by omega) (by omega) (by omega) (by omega)
set_option maxHeartbeats 1000000 in
theorem ok_kX10_year_29 (s0 : XS) (k29 : XS → Int32 → Int32 → Int32 → Int32 → Option (Int32 × XS)) (M29 : Nat) (hk29 : ∀ (s : XS) (x1 : Int32) (x2 : Int32) (x3 : Int32) (x4 : Int32), InvK s.k → FrK [] s0.k s.k → InvG s.g → 0 ≤ x1.toInt → 1 ≤ x2.toInt → x2.toInt ≤ 20 → 0 ≤ x4.toInt → x4.toInt ≤ 20 → (20 - x4.toInt).toNat < M29 → Ok (k29 s x1 x2 x3 x4) (Q_kX10_year s0)) (s : XS) (x1 : Int32) (x2 : Int32) (x3 : Int32) (x4 : Int32) (hI_s_k : InvK s.k) (hF_s_k : FrK [] s0.k s.k) (hI_s_g : InvG s.g) (h_x1l : 0 ≤ x1.toInt) (h_x2l : 1 ≤ x2.toInt) (h_x2u : x2.toInt ≤ 20) (h_x4l : 0 ≤ x4.toInt) (h_x4u : x4.toInt ≤ 20) (hM29 : (20 - x4.toInt).toNat ≤ M29) : Ok (kX10_year_29 k29 s x1 x2 x3 x4) (Q_kX10_year s0) := by
  unfold kX10_year_29
  refine ok_ite (fun c_1 => ?_) (fun c_1 => ?_)
  · have c_1 := tn_le (a := (x2).toInt) (b := (x4).toInt) rfl rfl c_1
    exact ok_some ⟨hI_s_k, hF_s_k, hI_s_g, (ti_rng _).1, (ti_rng _).2⟩
  · have c_1 := tn_nle (a := (x2).toInt) (b := (x4).toInt) rfl rfl c_1
    refine ok_bindI (ok_kX0_guessThere _ _ hI_s_k) (fun r3 s2 hc_2 => ?_)
    have hI_s2_k : InvK s2.k := hc_2.1
    have hFc_s2_k : FrK [] s.k s2.k := hc_2.2.1
    have hF_s2_k : FrK [] s0.k s2.k := hF_s_k.trans hFc_s2_k (by decide)
    refine ok_let (fun s4 hs4 => ?_)
    have hI_s4_g : InvG s4.g := by rw [← hs4]; exact hI_s_g
    have hI_s4_k : InvK s4.k := by rw [← hs4]; exact hI_s2_k
    have hF_s4_k : FrK [] s0.k s4.k := by rw [← hs4]; exact hF_s2_k
    refine ok_ite (fun c_3 => ?_) (fun c_3 => ?_)
    · have c_3 := tn_eq (a := (r3).toInt) (b := (x1).toInt) rfl rfl c_3
      exact ok_kX10_year_63 s0 k29 M29 hk29 _ _ _ _ _ hI_s4_k hF_s4_k hI_s4_g (by omega) (by omega) (by omega) (by omega) (by omega) (by omega)
    · have c_3 := tn_ne (a := (r3).toInt) (b := (x1).toInt) rfl rfl c_3
      exact ok_kX10_year_63 s0 k29 M29 hk29 _ _ _ _ _ hI_s4_k hF_s4_k hI_s4_g (by omega) (by omega) (by omega) (by omega) (by omega) (by omega)
theorem okL_kX10_year_29 (s0 : XS)  : ∀ (n : Nat) (s : XS) (x1 : Int32) (x2 : Int32) (x3 : Int32) (x4 : Int32), (20 - x4.toInt).toNat < n → InvK s.k → FrK [] s0.k s.k → InvG s.g → 0 ≤ x1.toInt → 1 ≤ x2.toInt → x2.toInt ≤ 20 → 0 ≤ x4.toInt → x4.toInt ≤ 20 → Ok (kX10_year_29L  n s x1 x2 x3 x4) (Q_kX10_year s0) := by
  intro n
  induction n with
  | zero => intro s x1 x2 x3 x4 hn; omega
  | succ n ih =>
    intro s x1 x2 x3 x4 hn hI_s_k hF_s_k hI_s_g h_x1l h_x2l h_x2u h_x4l h_x4u 
    exact ok_kX10_year_29 s0 (kX10_year_29L  n) ((20 - x4.toInt).toNat) (fun zs zx1 zx2 zx3 zx4 g0 g1 g2 g3 g4 g5 g6 g7  hm => ih zs zx1 zx2 zx3 zx4 (by omega) g0 g1 g2 g3 g4 g5 g6 g7 ) s x1 x2 x3 x4 hI_s_k hF_s_k hI_s_g h_x1l h_x2l h_x2u h_x4l h_x4u (Nat.le_refl _)
set_option maxHeartbeats 1000000 in
theorem ok_kX10_yearB (s0 : XS)  (s : XS) (x1 : Int32) (x2 : Int32) (hI_s_k : InvK s.k) (hF_s_k : FrK [] s0.k s.k) (hI_s_g : InvG s.g)  : Ok (kX10_year  s x1 x2) (Q_kX10_year s0) := by
  unfold kX10_year
  refine ok_bindI (ok_kX5_hasGuess _ _ hI_s_k) (fun r2 s1 hc_1 => ?_)
  have hI_s1 : InvK s1 := hc_1.1
  have hFc_s1 : FrK [] s.k s1 := hc_1.2.1
  have hF_s1 : FrK [] s0.k s1 := hF_s_k.trans hFc_s1 (by decide)
  have hl_r2 : 0 ≤ r2.toInt := hc_1.2.2.1
  have hu_r2 : r2.toInt ≤ 1 := hc_1.2.2.2.1
  have hx0_r2 : (¬ r2.toInt = 0 → 0 ≤ (x1).toInt) := hc_1.2.2.2.2
  refine ok_let (fun s3 hs3 => ?_)
  have hI_s3_g : InvG s3.g := by rw [← hs3]; exact hI_s_g
  have hI_s3_k : InvK s3.k := by rw [← hs3]; exact hI_s1
  have hF_s3_k : FrK [] s0.k s3.k := by rw [← hs3]; exact hF_s1
  refine ok_ite (fun c_2 => ?_) (fun c_2 => ?_)
  · have c_2 := tn_eq (a := (r2).toInt) (b := 0) rfl (by decide) c_2
    exact ok_some ⟨hI_s3_k, hF_s3_k, hI_s3_g, (ti_rng _).1, (ti_rng _).2⟩
  · have c_2 := tn_ne (a := (r2).toInt) (b := 0) rfl (by decide) c_2
    refine ok_ite (fun c_3 => ?_) (fun c_3 => ?_)
    · have c_3 := tn_lt (a := (x2).toInt) (b := 1) rfl (by decide) c_3
      exact ok_some ⟨hI_s3_k, hF_s3_k, hI_s3_g, (ti_rng _).1, (ti_rng _).2⟩
    · have c_3 := tn_nlt (a := (x2).toInt) (b := 1) rfl (by decide) c_3
      refine ok_ite (fun c_4 => ?_) (fun c_4 => ?_)
      · have c_4 := tn_le (a := (x2).toInt) (b := 20) rfl (by decide) c_4
        have l_0 : (0 : Int32).toInt = 0 := by decide
        exact okL_kX10_year_29 s0  fu _ _ _ _ _ (by unfold fu; omega) hI_s3_k hF_s3_k hI_s3_g (by omega) (by omega) (by omega) (by decide) (by decide) 
      · have c_4 := tn_nle (a := (x2).toInt) (b := 20) rfl (by decide) c_4
        exact ok_some ⟨hI_s3_k, hF_s3_k, hI_s3_g, (ti_rng _).1, (ti_rng _).2⟩
theorem ok_kX10_year (s : XS) (x1 : Int32) (x2 : Int32) (hI_s_k : InvK s.k) (hI_s_g : InvG s.g) : Ok (kX10_year s x1 x2) (Q_kX10_year s) := ok_kX10_yearB s s x1 x2 hI_s_k FrK.rfl hI_s_g
abbrev Q_kX10_faresOfAllHere (s0 : XS) (y : Int32 × XS) : Prop := InvK y.2.k ∧ FrK [7, 113, 114] s0.k y.2.k ∧ InvG y.2.g ∧ -2147483648 ≤ y.1.toInt ∧ y.1.toInt ≤ 2147483647
set_option maxHeartbeats 1000000 in
theorem ok_kX10_faresOfAllHere_42 (s0 : XS) (k4 : XS → Int32 → Int32 → Option (Int32 × XS)) (M4 : Nat) (hk4 : ∀ (s : XS) (x1 : Int32) (x2 : Int32), InvK s.k → FrK [7, 113, 114] s0.k s.k → InvG s.g → 0 ≤ x2.toInt → x2.toInt ≤ 6 → (6 - x2.toInt).toNat < M4 → Ok (k4 s x1 x2) (Q_kX10_faresOfAllHere s0)) (s : XS) (x1 : Int32) (x2 : Int32) (hI_s_k : InvK s.k) (hF_s_k : FrK [7, 113, 114] s0.k s.k) (hI_s_g : InvG s.g) (h_x2l : 0 ≤ x2.toInt) (h_x2u : x2.toInt ≤ 5) (hM4 : (6 - x2.toInt).toNat ≤ M4) : Ok (kX10_faresOfAllHere_42 k4 s x1 x2) (Q_kX10_faresOfAllHere s0) := by
  unfold kX10_faresOfAllHere_42
  have a_1 : ((x2 + 1)).toInt = (x2).toInt + 1 := tn_add rfl (by decide) (by omega) (by omega)
  exact hk4 _ _ _ hI_s_k hF_s_k hI_s_g (by omega) (by omega) (by omega)
set_option maxHeartbeats 1000000 in
theorem ok_kX10_faresOfAllHere_4 (s0 : XS) (k4 : XS → Int32 → Int32 → Option (Int32 × XS)) (M4 : Nat) (hk4 : ∀ (s : XS) (x1 : Int32) (x2 : Int32), InvK s.k → FrK [7, 113, 114] s0.k s.k → InvG s.g → 0 ≤ x2.toInt → x2.toInt ≤ 6 → (6 - x2.toInt).toNat < M4 → Ok (k4 s x1 x2) (Q_kX10_faresOfAllHere s0)) (s : XS) (x1 : Int32) (x2 : Int32) (hI_s_k : InvK s.k) (hF_s_k : FrK [7, 113, 114] s0.k s.k) (hI_s_g : InvG s.g) (h_x2l : 0 ≤ x2.toInt) (h_x2u : x2.toInt ≤ 6) (hM4 : (6 - x2.toInt).toNat ≤ M4) : Ok (kX10_faresOfAllHere_4 k4 s x1 x2) (Q_kX10_faresOfAllHere s0) := by
  unfold kX10_faresOfAllHere_4
  have a_1 : 0 ≤ (s.k.v 2).toInt ∧ (s.k.v 2).toInt ≤ 6 := hI_s_k.1 2
  refine ok_ite (fun c_2 => ?_) (fun c_2 => ?_)
  · have c_2 := tn_le (a := ((s.k.v 2)).toInt) (b := (x2).toInt) rfl rfl c_2
    exact ok_some ⟨hI_s_k, hF_s_k, hI_s_g, (ti_rng _).1, (ti_rng _).2⟩
  · have c_2 := tn_nle (a := ((s.k.v 2)).toInt) (b := (x2).toInt) rfl rfl c_2
    refine ok_grd (vpb_ok (by omega) (by omega)) ?_
    refine ok_ite (fun c_3 => ?_) (fun c_3 => ?_)
    · have c_3 := tn_eq (a := (((s.n.f 3) (Int32.toNatClampNeg x2))).toInt) (b := 0) rfl (by decide) c_3
      refine ok_bindI (ok_kX0_fareOf _ _ hI_s_k (by omega) (by omega)) (fun r5 s4 hc_4 => ?_)
      have hI_s4_k : InvK s4.k := hc_4.1
      have hFc_s4_k : FrK [7, 113, 114] s.k s4.k := hc_4.2.1
      have hF_s4_k : FrK [7, 113, 114] s0.k s4.k := hF_s_k.trans hFc_s4_k (by decide)
      have hl_r5 : 0 ≤ r5.toInt := hc_4.2.2.1
      have hu_r5 : r5.toInt ≤ 100 := hc_4.2.2.2
      refine ok_let (fun s6 hs6 => ?_)
      have hI_s6_g : InvG s6.g := by rw [← hs6]; exact hI_s_g
      have hI_s6_k : InvK s6.k := by rw [← hs6]; exact hI_s4_k
      have hF_s6_k : FrK [7, 113, 114] s0.k s6.k := by rw [← hs6]; exact hF_s4_k
      exact ok_kX10_faresOfAllHere_42 s0 k4 M4 hk4 _ _ _ hI_s6_k hF_s6_k hI_s6_g (by omega) (by omega) (by omega)
    · have c_3 := tn_ne (a := (((s.n.f 3) (Int32.toNatClampNeg x2))).toInt) (b := 0) rfl (by decide) c_3
      exact ok_kX10_faresOfAllHere_42 s0 k4 M4 hk4 _ _ _ hI_s_k hF_s_k hI_s_g (by omega) (by omega) (by omega)
theorem okL_kX10_faresOfAllHere_4 (s0 : XS)  : ∀ (n : Nat) (s : XS) (x1 : Int32) (x2 : Int32), (6 - x2.toInt).toNat < n → InvK s.k → FrK [7, 113, 114] s0.k s.k → InvG s.g → 0 ≤ x2.toInt → x2.toInt ≤ 6 → Ok (kX10_faresOfAllHere_4L  n s x1 x2) (Q_kX10_faresOfAllHere s0) := by
  intro n
  induction n with
  | zero => intro s x1 x2 hn; omega
  | succ n ih =>
    intro s x1 x2 hn hI_s_k hF_s_k hI_s_g h_x2l h_x2u 
    exact ok_kX10_faresOfAllHere_4 s0 (kX10_faresOfAllHere_4L  n) ((6 - x2.toInt).toNat) (fun zs zx1 zx2 g0 g1 g2 g3 g4  hm => ih zs zx1 zx2 (by omega) g0 g1 g2 g3 g4 ) s x1 x2 hI_s_k hF_s_k hI_s_g h_x2l h_x2u (Nat.le_refl _)
set_option maxHeartbeats 1000000 in
theorem ok_kX10_faresOfAllHereB (s0 : XS)  (s : XS) (hI_s_k : InvK s.k) (hF_s_k : FrK [7, 113, 114] s0.k s.k) (hI_s_g : InvG s.g)  : Ok (kX10_faresOfAllHere  s) (Q_kX10_faresOfAllHere s0) := by
  unfold kX10_faresOfAllHere
  have l_0 : (0 : Int32).toInt = 0 := by decide
  exact okL_kX10_faresOfAllHere_4 s0  fu _ _ _ (by unfold fu; omega) hI_s_k hF_s_k hI_s_g (by decide) (by decide) 
theorem ok_kX10_faresOfAllHere (s : XS) (hI_s_k : InvK s.k) (hI_s_g : InvG s.g) : Ok (kX10_faresOfAllHere s) (Q_kX10_faresOfAllHere s) := ok_kX10_faresOfAllHereB s s hI_s_k FrK.rfl hI_s_g
abbrev Q_kX0_passYears (s0 : JS) (y : JS) : Prop := InvK y.k ∧ FrK [7, 113, 114] s0.k y.k
set_option maxHeartbeats 1000000 in
theorem ok_kX0_passYears_10 (s0 : JS) (k2 : JS → Int32 → Int32 → Option (JS)) (M2 : Nat) (hk2 : ∀ (s : JS) (x2 : Int32) (x3 : Int32), InvK s.k → FrK [7, 113, 114] s0.k s.k → 0 ≤ x2.toInt → x2.toInt ≤ 40 → 0 ≤ x3.toInt → x3.toInt ≤ 40 → (40 - x3.toInt).toNat < M2 → Ok (k2 s x2 x3) (Q_kX0_passYears s0)) (k10 : JS → Int32 → Int32 → Int32 → Option (JS)) (M10 : Nat) (hk10 : ∀ (s : JS) (x2 : Int32) (x3 : Int32) (x4 : Int32), InvK s.k → FrK [7, 113, 114] s0.k s.k → 1 ≤ x2.toInt → x2.toInt ≤ 40 → 0 ≤ x3.toInt → x3.toInt ≤ 39 → 0 ≤ x4.toInt → x4.toInt ≤ 5 → (40 - x3.toInt).toNat ≤ M2 → (5 - x4.toInt).toNat < M10 → Ok (k10 s x2 x3 x4) (Q_kX0_passYears s0)) (s : JS) (x2 : Int32) (x3 : Int32) (x4 : Int32) (hI_s_k : InvK s.k) (hF_s_k : FrK [7, 113, 114] s0.k s.k) (h_x2l : 1 ≤ x2.toInt) (h_x2u : x2.toInt ≤ 40) (h_x3l : 0 ≤ x3.toInt) (h_x3u : x3.toInt ≤ 39) (h_x4l : 0 ≤ x4.toInt) (h_x4u : x4.toInt ≤ 5) (hM2 : (40 - x3.toInt).toNat ≤ M2) (hM10 : (5 - x4.toInt).toNat ≤ M10) : Ok (kX0_passYears_10 k2 k10 s x2 x3 x4) (Q_kX0_passYears s0) := by
  unfold kX0_passYears_10
  have a_1 : 0 ≤ (s.k.v 1).toInt ∧ (s.k.v 1).toInt ≤ 5 := hI_s_k.1 1
  refine ok_ite (fun c_2 => ?_) (fun c_2 => ?_)
  · have c_2 := tn_le (a := ((s.k.v 1)).toInt) (b := (x4).toInt) rfl rfl c_2
    refine ok_let (fun s2 hs2 => ?_)
    have hI_s2_k : InvK s2.k := by rw [← hs2]; exact hI_s_k
    have hF_s2_k : FrK [7, 113, 114] s0.k s2.k := by rw [← hs2]; exact hF_s_k
    have a_3 : ((x3 + 1)).toInt = (x3).toInt + 1 := tn_add rfl (by decide) (by omega) (by omega)
    exact hk2 _ _ _ hI_s2_k hF_s2_k (by omega) (by omega) (by omega) (by omega) (by omega)
  · have c_2 := tn_nle (a := ((s.k.v 1)).toInt) (b := (x4).toInt) rfl rfl c_2
    refine ok_bindP (ok_kX0_passYearOver _ _ hI_s_k (by omega) (by omega)) (fun s4 hc_4 => ?_)
    have hI_s4_k : InvK s4.k := hc_4.1
    have hFc_s4_k : FrK [7, 113, 114] s.k s4.k := hc_4.2
    have hF_s4_k : FrK [7, 113, 114] s0.k s4.k := hF_s_k.trans hFc_s4_k (by decide)
    have a_5 : ((x4 + 1)).toInt = (x4).toInt + 1 := tn_add rfl (by decide) (by omega) (by omega)
    exact hk10 _ _ _ _ hI_s4_k hF_s4_k (by omega) (by omega) (by omega) (by omega) (by omega) (by omega) (by omega) (by omega)
theorem okL_kX0_passYears_10 (s0 : JS) (k2 : JS → Int32 → Int32 → Option (JS)) (M2 : Nat) (hk2 : ∀ (s : JS) (x2 : Int32) (x3 : Int32), InvK s.k → FrK [7, 113, 114] s0.k s.k → 0 ≤ x2.toInt → x2.toInt ≤ 40 → 0 ≤ x3.toInt → x3.toInt ≤ 40 → (40 - x3.toInt).toNat < M2 → Ok (k2 s x2 x3) (Q_kX0_passYears s0)) : ∀ (n : Nat) (s : JS) (x2 : Int32) (x3 : Int32) (x4 : Int32), (5 - x4.toInt).toNat < n → InvK s.k → FrK [7, 113, 114] s0.k s.k → 1 ≤ x2.toInt → x2.toInt ≤ 40 → 0 ≤ x3.toInt → x3.toInt ≤ 39 → 0 ≤ x4.toInt → x4.toInt ≤ 5 → (40 - x3.toInt).toNat ≤ M2 → Ok (kX0_passYears_10L k2 n s x2 x3 x4) (Q_kX0_passYears s0) := by
  intro n
  induction n with
  | zero => intro s x2 x3 x4 hn; omega
  | succ n ih =>
    intro s x2 x3 x4 hn hI_s_k hF_s_k h_x2l h_x2u h_x3l h_x3u h_x4l h_x4u hM2
    exact ok_kX0_passYears_10 s0 k2 M2 hk2 (kX0_passYears_10L k2 n) ((5 - x4.toInt).toNat) (fun zs zx2 zx3 zx4 g0 g1 g2 g3 g4 g5 g6 g7 o2 hm => ih zs zx2 zx3 zx4 (by omega) g0 g1 g2 g3 g4 g5 g6 g7 o2) s x2 x3 x4 hI_s_k hF_s_k h_x2l h_x2u h_x3l h_x3u h_x4l h_x4u hM2 (Nat.le_refl _)
set_option maxHeartbeats 1000000 in
theorem ok_kX0_passYears_2 (s0 : JS) (k2 : JS → Int32 → Int32 → Option (JS)) (M2 : Nat) (hk2 : ∀ (s : JS) (x2 : Int32) (x3 : Int32), InvK s.k → FrK [7, 113, 114] s0.k s.k → 0 ≤ x2.toInt → x2.toInt ≤ 40 → 0 ≤ x3.toInt → x3.toInt ≤ 40 → (40 - x3.toInt).toNat < M2 → Ok (k2 s x2 x3) (Q_kX0_passYears s0)) (s : JS) (x2 : Int32) (x3 : Int32) (hI_s_k : InvK s.k) (hF_s_k : FrK [7, 113, 114] s0.k s.k) (h_x2l : 0 ≤ x2.toInt) (h_x2u : x2.toInt ≤ 40) (h_x3l : 0 ≤ x3.toInt) (h_x3u : x3.toInt ≤ 40) (hM2 : (40 - x3.toInt).toNat ≤ M2) : Ok (kX0_passYears_2 k2 s x2 x3) (Q_kX0_passYears s0) := by
  unfold kX0_passYears_2
  refine ok_ite (fun c_1 => ?_) (fun c_1 => ?_)
  · have c_1 := tn_le (a := (x2).toInt) (b := (x3).toInt) rfl rfl c_1
    exact ok_some ⟨hI_s_k, hF_s_k⟩
  · have c_1 := tn_nle (a := (x2).toInt) (b := (x3).toInt) rfl rfl c_1
    have l_0 : (0 : Int32).toInt = 0 := by decide
    exact okL_kX0_passYears_10 s0 k2 M2 hk2 fu _ _ _ _ (by unfold fu; omega) hI_s_k hF_s_k (by omega) (by omega) (by omega) (by omega) (by decide) (by decide) (by omega)
theorem okL_kX0_passYears_2 (s0 : JS)  : ∀ (n : Nat) (s : JS) (x2 : Int32) (x3 : Int32), (40 - x3.toInt).toNat < n → InvK s.k → FrK [7, 113, 114] s0.k s.k → 0 ≤ x2.toInt → x2.toInt ≤ 40 → 0 ≤ x3.toInt → x3.toInt ≤ 40 → Ok (kX0_passYears_2L  n s x2 x3) (Q_kX0_passYears s0) := by
  intro n
  induction n with
  | zero => intro s x2 x3 hn; omega
  | succ n ih =>
    intro s x2 x3 hn hI_s_k hF_s_k h_x2l h_x2u h_x3l h_x3u 
    exact ok_kX0_passYears_2 s0 (kX0_passYears_2L  n) ((40 - x3.toInt).toNat) (fun zs zx2 zx3 g0 g1 g2 g3 g4 g5  hm => ih zs zx2 zx3 (by omega) g0 g1 g2 g3 g4 g5 ) s x2 x3 hI_s_k hF_s_k h_x2l h_x2u h_x3l h_x3u (Nat.le_refl _)
set_option maxHeartbeats 1000000 in
theorem ok_kX0_passYearsB (s0 : JS)  (s : JS) (x2 : Int32) (hI_s_k : InvK s.k) (hF_s_k : FrK [7, 113, 114] s0.k s.k) (h_x2l : 0 ≤ x2.toInt) (h_x2u : x2.toInt ≤ 40)  : Ok (kX0_passYears  s x2) (Q_kX0_passYears s0) := by
  unfold kX0_passYears
  have l_0 : (0 : Int32).toInt = 0 := by decide
  exact okL_kX0_passYears_2 s0  fu _ _ _ (by unfold fu; omega) hI_s_k hF_s_k (by omega) (by omega) (by decide) (by decide) 
theorem ok_kX0_passYears (s : JS) (x2 : Int32) (hI_s_k : InvK s.k) (h_x2l : 0 ≤ x2.toInt) (h_x2u : x2.toInt ≤ 40) : Ok (kX0_passYears s x2) (Q_kX0_passYears s) := ok_kX0_passYearsB s s x2 hI_s_k FrK.rfl h_x2l h_x2u
abbrev Q_kX2_bestGuess (s0 : JS) (y : Int32 × JS) : Prop := InvK y.2.k ∧ FrK [7, 113, 114] s0.k y.2.k ∧ -2 ≤ y.1.toInt ∧ y.1.toInt ≤ 7775 ∧ (¬ y.1.toInt = -2 → 0 ≤ y.1.toInt)
set_option maxHeartbeats 1000000 in
theorem ok_kX2_bestGuess_13 (s0 : JS) (k13 : JS → Int32 → Int32 → Int32 → Option (Int32 × JS)) (M13 : Nat) (hk13 : ∀ (s : JS) (x2 : Int32) (x3 : Int32) (x4 : Int32), InvK s.k → FrK [7, 113, 114] s0.k s.k → -1 ≤ x2.toInt → x2.toInt ≤ 5 → 0 ≤ x3.toInt → x3.toInt ≤ 7775 → -1 ≤ x4.toInt → x4.toInt ≤ 4 → (4 ≤ x4.toInt → x3.toInt ≤ 0) → (3 ≤ x4.toInt → x3.toInt ≤ 5) → (2 ≤ x4.toInt → x3.toInt ≤ 35) → (1 ≤ x4.toInt → x3.toInt ≤ 215) → (0 ≤ x4.toInt → x3.toInt ≤ 1295) → (x4.toInt - (-1)).toNat < M13 → Ok (k13 s x2 x3 x4) (Q_kX2_bestGuess s0)) (s : JS) (x2 : Int32) (x3 : Int32) (x4 : Int32) (hI_s_k : InvK s.k) (hF_s_k : FrK [7, 113, 114] s0.k s.k) (h_x2l : -1 ≤ x2.toInt) (h_x2u : x2.toInt ≤ 5) (h_x3l : 0 ≤ x3.toInt) (h_x3u : x3.toInt ≤ 7775) (h_x4l : -1 ≤ x4.toInt) (h_x4u : x4.toInt ≤ 4) (hx0 : (4 ≤ x4.toInt → x3.toInt ≤ 0)) (hx1 : (3 ≤ x4.toInt → x3.toInt ≤ 5)) (hx2 : (2 ≤ x4.toInt → x3.toInt ≤ 35)) (hx3 : (1 ≤ x4.toInt → x3.toInt ≤ 215)) (hx4 : (0 ≤ x4.toInt → x3.toInt ≤ 1295)) (hM13 : (x4.toInt - (-1)).toNat ≤ M13) : Ok (kX2_bestGuess_13 k13 s x2 x3 x4) (Q_kX2_bestGuess s0) := by
  unfold kX2_bestGuess_13
  rw [show x4 + (-1) = x4 - 1 from (Int32.sub_eq_add_neg x4 1).symm]
  refine ok_ite (fun c_1 => ?_) (fun c_1 => ?_)
  · have c_1 := tn_lt (a := (x4).toInt) (b := 0) rfl (by decide) c_1
    exact ok_some ⟨hI_s_k, hF_s_k, by show -2 ≤ (x3).toInt; omega, by show (x3).toInt ≤ 7775; omega, by show (¬ (x3).toInt = -2 → 0 ≤ (x3).toInt); omega⟩
  · have c_1 := tn_nlt (a := (x4).toInt) (b := 0) rfl (by decide) c_1
    refine ok_bindI (ok_kX2_bestThing _ _ _ hI_s_k (by omega) (by omega) (by omega) (by omega)) (fun r3 s2 hc_2 => ?_)
    have hI_s2_k : InvK s2.k := hc_2.1
    have hFc_s2_k : FrK [7, 113, 114] s.k s2.k := hc_2.2.1
    have hF_s2_k : FrK [7, 113, 114] s0.k s2.k := hF_s_k.trans hFc_s2_k (by decide)
    have hl_r3 : -1 ≤ r3.toInt := hc_2.2.2.1
    have hu_r3 : r3.toInt ≤ 5 := hc_2.2.2.2
    refine ok_ite (fun c_3 => ?_) (fun c_3 => ?_)
    · have c_3 := tn_eq (a := (r3).toInt) (b := (-1)) rfl (by decide) c_3
      exact ok_some ⟨hI_s2_k, hF_s2_k, by show -2 ≤ ((-2) : Int32).toInt; decide, by show ((-2) : Int32).toInt ≤ 7775; decide, by show (¬ ((-2) : Int32).toInt = -2 → 0 ≤ ((-2) : Int32).toInt); have l := (by decide : ((-2) : Int32).toInt = -2); omega⟩
    · have c_3 := tn_ne (a := (r3).toInt) (b := (-1)) rfl (by decide) c_3
      have a_4 : ((x3 * 6)).toInt = (x3).toInt * 6 := ti_mulc (c := 6) (by decide) (by omega) (by omega)
      have a_5 : (((x3 * 6) + r3)).toInt = ((x3 * 6)).toInt + (r3).toInt := tn_add rfl rfl (by omega) (by omega)
      have a_6 : ((x4 - 1)).toInt = (x4).toInt - 1 := tn_sub rfl (by decide) (by omega) (by omega)
      exact hk13 _ _ _ _ hI_s2_k hF_s2_k (by first | (clear hx0 hx1 hx2 hx3 hx4; omega) | omega) (by first | (clear hx0 hx1 hx2 hx3 hx4; omega) | omega) (by first | (clear hx0 hx1 hx2 hx3 hx4; omega) | omega) (by first | (clear hx0 hx1 hx2 hx3 hx4; omega) | omega) (by first | (clear hx0 hx1 hx2 hx3 hx4; omega) | omega) (by first | (clear hx0 hx1 hx2 hx3 hx4; omega) | omega) (by omega) (by omega) (by omega) (by omega) (by omega) (by first | (clear hx0 hx1 hx2 hx3 hx4; omega) | omega)
theorem okL_kX2_bestGuess_13 (s0 : JS)  : ∀ (n : Nat) (s : JS) (x2 : Int32) (x3 : Int32) (x4 : Int32), (x4.toInt - (-1)).toNat < n → InvK s.k → FrK [7, 113, 114] s0.k s.k → -1 ≤ x2.toInt → x2.toInt ≤ 5 → 0 ≤ x3.toInt → x3.toInt ≤ 7775 → -1 ≤ x4.toInt → x4.toInt ≤ 4 → (4 ≤ x4.toInt → x3.toInt ≤ 0) → (3 ≤ x4.toInt → x3.toInt ≤ 5) → (2 ≤ x4.toInt → x3.toInt ≤ 35) → (1 ≤ x4.toInt → x3.toInt ≤ 215) → (0 ≤ x4.toInt → x3.toInt ≤ 1295) → Ok (kX2_bestGuess_13L  n s x2 x3 x4) (Q_kX2_bestGuess s0) := by
  intro n
  induction n with
  | zero => intro s x2 x3 x4 hn; omega
  | succ n ih =>
    intro s x2 x3 x4 hn hI_s_k hF_s_k h_x2l h_x2u h_x3l h_x3u h_x4l h_x4u hx0 hx1 hx2 hx3 hx4 
    exact ok_kX2_bestGuess_13 s0 (kX2_bestGuess_13L  n) ((x4.toInt - (-1)).toNat) (fun zs zx2 zx3 zx4 g0 g1 g2 g3 g4 g5 g6 g7 g8 g9 g10 g11 g12  hm => ih zs zx2 zx3 zx4 (by omega) g0 g1 g2 g3 g4 g5 g6 g7 g8 g9 g10 g11 g12 ) s x2 x3 x4 hI_s_k hF_s_k h_x2l h_x2u h_x3l h_x3u h_x4l h_x4u hx0 hx1 hx2 hx3 hx4 (Nat.le_refl _)
set_option maxHeartbeats 1000000 in
theorem ok_kX2_bestGuessB (s0 : JS)  (s : JS) (x2 : Int32) (hI_s_k : InvK s.k) (hF_s_k : FrK [7, 113, 114] s0.k s.k) (h_x2l : -1 ≤ x2.toInt) (h_x2u : x2.toInt ≤ 5)  : Ok (kX2_bestGuess  s x2) (Q_kX2_bestGuess s0) := by
  unfold kX2_bestGuess
  have a_1 : 0 ≤ (s.k.v 1).toInt ∧ (s.k.v 1).toInt ≤ 5 := hI_s_k.1 1
  have a_2 : (((s.k.v 1) - 1)).toInt = ((s.k.v 1)).toInt - 1 := tn_sub rfl (by decide) (by omega) (by omega)
  have l_0 : (0 : Int32).toInt = 0 := by decide
  exact okL_kX2_bestGuess_13 s0  fu _ _ _ _ (by unfold fu; omega) hI_s_k hF_s_k (by omega) (by omega) (by decide) (by decide) (by omega) (by omega) (by omega) (by omega) (by omega) (by omega) (by omega) 
theorem ok_kX2_bestGuess (s : JS) (x2 : Int32) (hI_s_k : InvK s.k) (h_x2l : -1 ≤ x2.toInt) (h_x2u : x2.toInt ≤ 5) : Ok (kX2_bestGuess s x2) (Q_kX2_bestGuess s) := ok_kX2_bestGuessB s s x2 hI_s_k FrK.rfl h_x2l h_x2u
abbrev Q_kX2_oddsOverWithin (s0 : JS) (y : Int32 × JS) : Prop := InvK y.2.k ∧ FrK [7, 113, 114] s0.k y.2.k ∧ -2147483648 ≤ y.1.toInt ∧ y.1.toInt ≤ 2147483647
set_option maxHeartbeats 1000000 in
theorem ok_kX2_oddsOverWithin_158 (R : JS → Int32 → Int32 → Option (Int32 × JS)) (D : Nat) (hR : ∀ (s : JS) (x2 x3 : Int32), InvK s.k → 0 ≤ x2.toInt → x2.toInt ≤ 5 → 0 ≤ x3.toInt → x3.toInt ≤ 8 → x3.toInt.toNat < D → Ok (R s x2 x3) (fun y => InvK y.2.k ∧ FrK [7, 113, 114] s.k y.2.k ∧ -2147483648 ≤ y.1.toInt ∧ y.1.toInt ≤ 2147483647)) (s0 : JS) (k55 : JS → Int32 → Int32 → Int32 → Int32 → Int32 → Int32 → Option (Int32 × JS)) (M55 : Nat) (hk55 : ∀ (s : JS) (x2 : Int32) (x3 : Int32) (x4 : Int32) (x5 : Int32) (x6 : Int32) (x7 : Int32), InvK s.k → FrK [7, 113, 114] s0.k s.k → 0 ≤ x2.toInt → x2.toInt ≤ 5 → 2 ≤ x3.toInt → x3.toInt ≤ 8 → 0 ≤ x4.toInt → x4.toInt ≤ 7775 → 0 ≤ x7.toInt → x7.toInt ≤ 5 → x3.toInt.toNat ≤ D → (5 - x7.toInt).toNat < M55 → Ok (k55 s x2 x3 x4 x5 x6 x7) (Q_kX2_oddsOverWithin s0)) (s : JS) (x2 : Int32) (x3 : Int32) (x4 : Int32) (x5 : Int32) (x6 : Int32) (x7 : Int32) (hI_s_k : InvK s.k) (hF_s_k : FrK [7, 113, 114] s0.k s.k) (h_x2l : 0 ≤ x2.toInt) (h_x2u : x2.toInt ≤ 5) (h_x3l : 2 ≤ x3.toInt) (h_x3u : x3.toInt ≤ 8) (h_x4l : 0 ≤ x4.toInt) (h_x4u : x4.toInt ≤ 7775) (h_x7l : 0 ≤ x7.toInt) (h_x7u : x7.toInt ≤ 4) (hD : x3.toInt.toNat ≤ D) (hM55 : (5 - x7.toInt).toNat ≤ M55) : Ok (kX2_oddsOverWithin_158 R k55 s x2 x3 x4 x5 x6 x7) (Q_kX2_oddsOverWithin s0) := by
  unfold kX2_oddsOverWithin_158
  have a_1 : ((x7 + 1)).toInt = (x7).toInt + 1 := tn_add rfl (by decide) (by omega) (by omega)
  exact hk55 _ _ _ _ _ _ _ hI_s_k hF_s_k (by omega) (by omega) (by omega) (by omega) (by omega) (by omega) (by omega) (by omega) (by omega) (by omega)
set_option maxHeartbeats 1000000 in
theorem ok_kX2_oddsOverWithin_129 (R : JS → Int32 → Int32 → Option (Int32 × JS)) (D : Nat) (hR : ∀ (s : JS) (x2 x3 : Int32), InvK s.k → 0 ≤ x2.toInt → x2.toInt ≤ 5 → 0 ≤ x3.toInt → x3.toInt ≤ 8 → x3.toInt.toNat < D → Ok (R s x2 x3) (fun y => InvK y.2.k ∧ FrK [7, 113, 114] s.k y.2.k ∧ -2147483648 ≤ y.1.toInt ∧ y.1.toInt ≤ 2147483647)) (s0 : JS) (k55 : JS → Int32 → Int32 → Int32 → Int32 → Int32 → Int32 → Option (Int32 × JS)) (M55 : Nat) (hk55 : ∀ (s : JS) (x2 : Int32) (x3 : Int32) (x4 : Int32) (x5 : Int32) (x6 : Int32) (x7 : Int32), InvK s.k → FrK [7, 113, 114] s0.k s.k → 0 ≤ x2.toInt → x2.toInt ≤ 5 → 2 ≤ x3.toInt → x3.toInt ≤ 8 → 0 ≤ x4.toInt → x4.toInt ≤ 7775 → 0 ≤ x7.toInt → x7.toInt ≤ 5 → x3.toInt.toNat ≤ D → (5 - x7.toInt).toNat < M55 → Ok (k55 s x2 x3 x4 x5 x6 x7) (Q_kX2_oddsOverWithin s0)) (s : JS) (x2 : Int32) (x3 : Int32) (x4 : Int32) (x5 : Int32) (x6 : Int32) (x7 : Int32) (x8 : Int32) (hI_s_k : InvK s.k) (hF_s_k : FrK [7, 113, 114] s0.k s.k) (h_x2l : 0 ≤ x2.toInt) (h_x2u : x2.toInt ≤ 5) (h_x3l : 2 ≤ x3.toInt) (h_x3u : x3.toInt ≤ 8) (h_x4l : 0 ≤ x4.toInt) (h_x4u : x4.toInt ≤ 7775) (h_x7l : 0 ≤ x7.toInt) (h_x7u : x7.toInt ≤ 4) (h_x8l : 0 ≤ x8.toInt) (h_x8u : x8.toInt ≤ 5) (hD : x3.toInt.toNat ≤ D) (hM55 : (5 - x7.toInt).toNat ≤ M55) : Ok (kX2_oddsOverWithin_129 R k55 s x2 x3 x4 x5 x6 x7 x8) (Q_kX2_oddsOverWithin s0) := by
  unfold kX2_oddsOverWithin_129
  refine ok_grd (vpb_ok (by omega) (by omega)) ?_
  refine ok_ite (fun c_1 => ?_) (fun c_1 => ?_)
  · have c_1 := tn_eq (a := (((s.d.f 0) (Int32.toNatClampNeg x7))).toInt) (b := (-1)) rfl (by decide) c_1
    refine ok_grd (vpb_ok (by omega) (by omega)) ?_
    refine ok_let (fun s4 hs4 => ?_)
    have hI_s4_k : InvK s4.k := by rw [← hs4]; exact hI_s_k
    have hF_s4_k : FrK [7, 113, 114] s0.k s4.k := by rw [← hs4]; exact hF_s_k
    exact ok_kX2_oddsOverWithin_158 R D hR s0 k55 M55 hk55 _ _ _ _ _ _ _ hI_s4_k hF_s4_k (by omega) (by omega) (by omega) (by omega) (by omega) (by omega) (by omega) (by omega) (by omega) (by omega)
  · have c_1 := tn_ne (a := (((s.d.f 0) (Int32.toNatClampNeg x7))).toInt) (b := (-1)) rfl (by decide) c_1
    exact ok_kX2_oddsOverWithin_158 R D hR s0 k55 M55 hk55 _ _ _ _ _ _ _ hI_s_k hF_s_k (by omega) (by omega) (by omega) (by omega) (by omega) (by omega) (by omega) (by omega) (by omega) (by omega)
set_option maxHeartbeats 1000000 in
theorem ok_kX2_oddsOverWithin_55 (R : JS → Int32 → Int32 → Option (Int32 × JS)) (D : Nat) (hR : ∀ (s : JS) (x2 x3 : Int32), InvK s.k → 0 ≤ x2.toInt → x2.toInt ≤ 5 → 0 ≤ x3.toInt → x3.toInt ≤ 8 → x3.toInt.toNat < D → Ok (R s x2 x3) (fun y => InvK y.2.k ∧ FrK [7, 113, 114] s.k y.2.k ∧ -2147483648 ≤ y.1.toInt ∧ y.1.toInt ≤ 2147483647)) (s0 : JS) (k55 : JS → Int32 → Int32 → Int32 → Int32 → Int32 → Int32 → Option (Int32 × JS)) (M55 : Nat) (hk55 : ∀ (s : JS) (x2 : Int32) (x3 : Int32) (x4 : Int32) (x5 : Int32) (x6 : Int32) (x7 : Int32), InvK s.k → FrK [7, 113, 114] s0.k s.k → 0 ≤ x2.toInt → x2.toInt ≤ 5 → 2 ≤ x3.toInt → x3.toInt ≤ 8 → 0 ≤ x4.toInt → x4.toInt ≤ 7775 → 0 ≤ x7.toInt → x7.toInt ≤ 5 → x3.toInt.toNat ≤ D → (5 - x7.toInt).toNat < M55 → Ok (k55 s x2 x3 x4 x5 x6 x7) (Q_kX2_oddsOverWithin s0)) (s : JS) (x2 : Int32) (x3 : Int32) (x4 : Int32) (x5 : Int32) (x6 : Int32) (x7 : Int32) (hI_s_k : InvK s.k) (hF_s_k : FrK [7, 113, 114] s0.k s.k) (h_x2l : 0 ≤ x2.toInt) (h_x2u : x2.toInt ≤ 5) (h_x3l : 2 ≤ x3.toInt) (h_x3u : x3.toInt ≤ 8) (h_x4l : 0 ≤ x4.toInt) (h_x4u : x4.toInt ≤ 7775) (h_x7l : 0 ≤ x7.toInt) (h_x7u : x7.toInt ≤ 5) (hD : x3.toInt.toNat ≤ D) (hM55 : (5 - x7.toInt).toNat ≤ M55) : Ok (kX2_oddsOverWithin_55 R k55 s x2 x3 x4 x5 x6 x7) (Q_kX2_oddsOverWithin s0) := by
  unfold kX2_oddsOverWithin_55
  have a_1 : 0 ≤ (s.k.v 1).toInt ∧ (s.k.v 1).toInt ≤ 5 := hI_s_k.1 1
  refine ok_ite (fun c_2 => ?_) (fun c_2 => ?_)
  · have c_2 := tn_le (a := ((s.k.v 1)).toInt) (b := (x7).toInt) rfl rfl c_2
    refine ok_bindP (ok_kX2_unfind _ _ hI_s_k) (fun s2 hc_3 => ?_)
    have hI_s2_k : InvK s2.k := hc_3.1
    have hFc_s2_k : FrK [] s.k s2.k := hc_3.2
    have hF_s2_k : FrK [7, 113, 114] s0.k s2.k := hF_s_k.trans hFc_s2_k (by decide)
    refine ok_grd (vpb_ok (by omega) (by omega)) ?_
    refine ok_grd (vpb_ok (by omega) (by omega)) ?_
    refine ok_let (fun s5 hs5 => ?_)
    have hI_s5_k : InvK s5.k := by rw [← hs5]; exact hI_s2_k
    have hF_s5_k : FrK [7, 113, 114] s0.k s5.k := by rw [← hs5]; exact hF_s2_k
    exact ok_some ⟨hI_s5_k, hF_s5_k, (ti_rng _).1, (ti_rng _).2⟩
  · have c_2 := tn_nle (a := ((s.k.v 1)).toInt) (b := (x7).toInt) rfl rfl c_2
    refine ok_bindP (ok_kX10_thingIn _ _ (by omega) (by omega)) (fun r7 hc_4 => ?_)
    have hx0_r7 : (0 ≤ (x4).toInt → 0 ≤ r7.toInt ∧ r7.toInt ≤ 5) := hc_4.2.2
    refine ok_bindI (ok_kX2_mayCount _ _ hI_s_k (by omega) (by omega)) (fun r9 s8 hc_5 => ?_)
    have hI_s8_k : InvK s8.k := hc_5.1
    have hFc_s8_k : FrK [] s.k s8.k := hc_5.2.1
    have hF_s8_k : FrK [7, 113, 114] s0.k s8.k := hF_s_k.trans hFc_s8_k (by decide)
    refine ok_ite (fun c_6 => ?_) (fun c_6 => ?_)
    · have c_6 := tn_le (a := (r9).toInt) (b := 1) rfl (by decide) c_6
      exact ok_kX2_oddsOverWithin_129 R D hR s0 k55 M55 hk55 _ _ _ _ _ _ _ _ hI_s8_k hF_s8_k (by omega) (by omega) (by omega) (by omega) (by omega) (by omega) (by omega) (by omega) (by omega) (by omega) (by omega) (by omega)
    · have c_6 := tn_nle (a := (r9).toInt) (b := 1) rfl (by decide) c_6
      refine ok_grd (vpb_ok (by omega) (by omega)) ?_
      refine ok_grd (vpb_ok (by omega) (by omega)) ?_
      refine ok_let (fun s13 hs13 => ?_)
      have hI_s13_k : InvK s13.k := by rw [← hs13]; exact hI_s8_k
      have hF_s13_k : FrK [7, 113, 114] s0.k s13.k := by rw [← hs13]; exact hF_s8_k
      have a_7 : ((x3 - 1)).toInt = (x3).toInt - 1 := tn_sub rfl (by decide) (by omega) (by omega)
      refine ok_bindI (hR _ _ _ hI_s13_k (by omega) (by omega) (by omega) (by omega) (by omega)) (fun r16 s15 hc_8 => ?_)
      have hI_s15_k : InvK s15.k := hc_8.1
      have hFc_s15_k : FrK [7, 113, 114] s13.k s15.k := hc_8.2.1
      have hF_s15_k : FrK [7, 113, 114] s0.k s15.k := hF_s13_k.trans hFc_s15_k (by decide)
      refine ok_grd (vpb_ok (by omega) (by omega)) ?_
      refine ok_grd (vpb_ok (by omega) (by omega)) ?_
      refine ok_let (fun s19 hs19 => ?_)
      have hI_s19_k : InvK s19.k := by rw [← hs19]; exact hI_s15_k
      have hF_s19_k : FrK [7, 113, 114] s0.k s19.k := by rw [← hs19]; exact hF_s15_k
      exact ok_kX2_oddsOverWithin_129 R D hR s0 k55 M55 hk55 _ _ _ _ _ _ _ _ hI_s19_k hF_s19_k (by omega) (by omega) (by omega) (by omega) (by omega) (by omega) (by omega) (by omega) (by omega) (by omega) (by omega) (by omega)
theorem okL_kX2_oddsOverWithin_55 (R : JS → Int32 → Int32 → Option (Int32 × JS)) (D : Nat) (hR : ∀ (s : JS) (x2 x3 : Int32), InvK s.k → 0 ≤ x2.toInt → x2.toInt ≤ 5 → 0 ≤ x3.toInt → x3.toInt ≤ 8 → x3.toInt.toNat < D → Ok (R s x2 x3) (fun y => InvK y.2.k ∧ FrK [7, 113, 114] s.k y.2.k ∧ -2147483648 ≤ y.1.toInt ∧ y.1.toInt ≤ 2147483647)) (s0 : JS)  : ∀ (n : Nat) (s : JS) (x2 : Int32) (x3 : Int32) (x4 : Int32) (x5 : Int32) (x6 : Int32) (x7 : Int32), (5 - x7.toInt).toNat < n → InvK s.k → FrK [7, 113, 114] s0.k s.k → 0 ≤ x2.toInt → x2.toInt ≤ 5 → 2 ≤ x3.toInt → x3.toInt ≤ 8 → 0 ≤ x4.toInt → x4.toInt ≤ 7775 → 0 ≤ x7.toInt → x7.toInt ≤ 5 → x3.toInt.toNat ≤ D → Ok (kX2_oddsOverWithin_55L R  n s x2 x3 x4 x5 x6 x7) (Q_kX2_oddsOverWithin s0) := by
  intro n
  induction n with
  | zero => intro s x2 x3 x4 x5 x6 x7 hn; omega
  | succ n ih =>
    intro s x2 x3 x4 x5 x6 x7 hn hI_s_k hF_s_k h_x2l h_x2u h_x3l h_x3u h_x4l h_x4u h_x7l h_x7u hD 
    exact ok_kX2_oddsOverWithin_55 R D hR s0 (kX2_oddsOverWithin_55L R  n) ((5 - x7.toInt).toNat) (fun zs zx2 zx3 zx4 zx5 zx6 zx7 g0 g1 g2 g3 g4 g5 g6 g7 g8 g9 g10  hm => ih zs zx2 zx3 zx4 zx5 zx6 zx7 (by omega) g0 g1 g2 g3 g4 g5 g6 g7 g8 g9 g10 ) s x2 x3 x4 x5 x6 x7 hI_s_k hF_s_k h_x2l h_x2u h_x3l h_x3u h_x4l h_x4u h_x7l h_x7u hD (Nat.le_refl _)
set_option maxHeartbeats 1000000 in
theorem ok_kX2_oddsOverWithinB (R : JS → Int32 → Int32 → Option (Int32 × JS)) (D : Nat) (hR : ∀ (s : JS) (x2 x3 : Int32), InvK s.k → 0 ≤ x2.toInt → x2.toInt ≤ 5 → 0 ≤ x3.toInt → x3.toInt ≤ 8 → x3.toInt.toNat < D → Ok (R s x2 x3) (fun y => InvK y.2.k ∧ FrK [7, 113, 114] s.k y.2.k ∧ -2147483648 ≤ y.1.toInt ∧ y.1.toInt ≤ 2147483647)) (s0 : JS)  (s : JS) (x2 : Int32) (x3 : Int32) (hI_s_k : InvK s.k) (hF_s_k : FrK [7, 113, 114] s0.k s.k) (h_x2l : 0 ≤ x2.toInt) (h_x2u : x2.toInt ≤ 5) (h_x3l : 0 ≤ x3.toInt) (h_x3u : x3.toInt ≤ 8) (hD : x3.toInt.toNat ≤ D)  : Ok (kX2_oddsOverWithin R  s x2 x3) (Q_kX2_oddsOverWithin s0) := by
  unfold kX2_oddsOverWithin
  refine ok_bindI (ok_kX2_bestGuess _ _ hI_s_k (by omega) (by omega)) (fun r2 s1 hc_1 => ?_)
  have hI_s1_k : InvK s1.k := hc_1.1
  have hFc_s1_k : FrK [7, 113, 114] s.k s1.k := hc_1.2.1
  have hF_s1_k : FrK [7, 113, 114] s0.k s1.k := hF_s_k.trans hFc_s1_k (by decide)
  have hl_r2 : -2 ≤ r2.toInt := hc_1.2.2.1
  have hu_r2 : r2.toInt ≤ 7775 := hc_1.2.2.2.1
  have hx0_r2 : (¬ r2.toInt = -2 → 0 ≤ r2.toInt) := hc_1.2.2.2.2
  refine ok_ite (fun c_2 => ?_) (fun c_2 => ?_)
  · have c_2 := tn_eq (a := (r2).toInt) (b := (-2)) rfl (by decide) c_2
    exact ok_some ⟨hI_s1_k, hF_s1_k, (ti_rng _).1, (ti_rng _).2⟩
  · have c_2 := tn_ne (a := (r2).toInt) (b := (-2)) rfl (by decide) c_2
    refine ok_ite (fun c_3 => ?_) (fun c_3 => ?_)
    · have c_3 := tn_le (a := 1) (b := (x3).toInt) (by decide) rfl c_3
      refine ok_bindI (ok_kX2_oddsOf _ _ hI_s1_k (by omega)) (fun r6 s5 hc_4 => ?_)
      have hI_s5_k : InvK s5.k := hc_4.1
      have hFc_s5_k : FrK [] s1.k s5.k := hc_4.2.1
      have hF_s5_k : FrK [7, 113, 114] s0.k s5.k := hF_s1_k.trans hFc_s5_k (by decide)
      refine ok_ite (fun c_5 => ?_) (fun c_5 => ?_)
      · have c_5 := tn_eq (a := (x3).toInt) (b := 1) rfl (by decide) c_5
        exact ok_some ⟨hI_s5_k, hF_s5_k, (ti_rng _).1, (ti_rng _).2⟩
      · have c_5 := tn_ne (a := (x3).toInt) (b := 1) rfl (by decide) c_5
        refine ok_grd (vpb_ok (by omega) (by omega)) ?_
        refine ok_grd (vpb_ok (by omega) (by omega)) ?_
        refine ok_let (fun s10 hs10 => ?_)
        have hI_s10_k : InvK s10.k := by rw [← hs10]; exact hI_s5_k
        have hF_s10_k : FrK [7, 113, 114] s0.k s10.k := by rw [← hs10]; exact hF_s5_k
        have l_0 : (0 : Int32).toInt = 0 := by decide
        exact okL_kX2_oddsOverWithin_55 R D hR s0  fu _ _ _ _ _ _ _ (by unfold fu; omega) hI_s10_k hF_s10_k (by omega) (by omega) (by omega) (by omega) (by omega) (by omega) (by decide) (by decide) (by omega) 
    · have c_3 := tn_nle (a := 1) (b := (x3).toInt) (by decide) rfl c_3
      exact ok_some ⟨hI_s1_k, hF_s1_k, (ti_rng _).1, (ti_rng _).2⟩
theorem ok_kX2_oddsOverWithin (R : JS → Int32 → Int32 → Option (Int32 × JS)) (D : Nat) (hR : ∀ (s : JS) (x2 x3 : Int32), InvK s.k → 0 ≤ x2.toInt → x2.toInt ≤ 5 → 0 ≤ x3.toInt → x3.toInt ≤ 8 → x3.toInt.toNat < D → Ok (R s x2 x3) (fun y => InvK y.2.k ∧ FrK [7, 113, 114] s.k y.2.k ∧ -2147483648 ≤ y.1.toInt ∧ y.1.toInt ≤ 2147483647)) (s : JS) (x2 : Int32) (x3 : Int32) (hI_s_k : InvK s.k) (h_x2l : 0 ≤ x2.toInt) (h_x2u : x2.toInt ≤ 5) (h_x3l : 0 ≤ x3.toInt) (h_x3u : x3.toInt ≤ 8) (hD : x3.toInt.toNat ≤ D) : Ok (kX2_oddsOverWithin R s x2 x3) (Q_kX2_oddsOverWithin s) := ok_kX2_oddsOverWithinB R D hR s s x2 x3 hI_s_k FrK.rfl h_x2l h_x2u h_x3l h_x3u hD
theorem ok_kX2_oddsOverWithinR : ∀ (n : Nat) (s : JS) (x2 x3 : Int32), InvK s.k → 0 ≤ x2.toInt → x2.toInt ≤ 5 → 0 ≤ x3.toInt → x3.toInt ≤ 8 → x3.toInt.toNat < n → Ok (kX2_oddsOverWithinR n s x2 x3) (Q_kX2_oddsOverWithin s) := by
  intro n
  induction n with
  | zero => intro s x2 x3 _ _ _ _ _ h; omega
  | succ n ih => intro s x2 x3 hI h0 h1 h2 h3 h; exact ok_kX2_oddsOverWithin (kX2_oddsOverWithinR n) n ih s x2 x3 hI h0 h1 h2 h3 (by omega)
theorem ok_kX2_oddsOverWithinR9 (s : JS) (x2 x3 : Int32) (hI : InvK s.k) (h0 : 0 ≤ x2.toInt) (h1 : x2.toInt ≤ 5) (h2 : 1 ≤ x3.toInt) (h3 : x3.toInt ≤ 8) : Ok (kX2_oddsOverWithinR 9 s x2 x3) (Q_kX2_oddsOverWithin s) := ok_kX2_oddsOverWithinR 9 s x2 x3 hI h0 h1 (by omega) h3 (by omega)
abbrev Q_kX4_readPart (s0 : KS) (y : KS) : Prop := InvK y ∧ FrK [12, 15, 16, 17, 122, 123, 125] s0 y
set_option maxHeartbeats 1000000 in
theorem ok_kX4_readPartB (s0 : KS)  (s : KS) (x1 : Int32) (hI_s : InvK s) (hF_s : FrK [12, 15, 16, 17, 122, 123, 125] s0 s) (h_x1l : 59 ≤ x1.toInt) (h_x1u : x1.toInt ≤ 265)  : Ok (kX4_readPart  s x1) (Q_kX4_readPart s0) := by
  unfold kX4_readPart
  refine ok_bindP (ok_kX4_readSumR8 _ _ hI_s (by decide) (by decide)) (fun s1 hc_1 => ?_)
  have hI_s1 : InvK s1 := hc_1.1
  have hFc_s1 : FrK [12, 15, 16, 17, 122] s s1 := hc_1.2
  have hF_s1 : FrK [12, 15, 16, 17, 122, 123, 125] s0 s1 := hF_s.trans hFc_s1 (by decide)
  refine ok_bindP (ok_kX1_endPart _  hI_s1) (fun s2 hc_2 => ?_)
  have hI_s2 : InvK s2 := hc_2.1
  have hFc_s2 : FrK [123, 125] s1 s2 := hc_2.2
  have hF_s2 : FrK [12, 15, 16, 17, 122, 123, 125] s0 s2 := hF_s1.trans hFc_s2 (by decide)
  refine ok_bindP (ok_kX4_take _ _ hI_s2) (fun s3 hc_3 => ?_)
  have hI_s3 : InvK s3 := hc_3.1
  have hFc_s3 : FrK [15, 16, 17] s2 s3 := hc_3.2
  have hF_s3 : FrK [12, 15, 16, 17, 122, 123, 125] s0 s3 := hF_s2.trans hFc_s3 (by decide)
  exact ok_some ⟨hI_s3, hF_s3⟩
theorem ok_kX4_readPart (s : KS) (x1 : Int32) (hI_s : InvK s) (h_x1l : 59 ≤ x1.toInt) (h_x1u : x1.toInt ≤ 265) : Ok (kX4_readPart s x1) (Q_kX4_readPart s) := ok_kX4_readPartB s s x1 hI_s FrK.rfl h_x1l h_x1u
abbrev Q_kX10_years (s0 : YS) (y : Int32 × YS) : Prop := InvK y.2.x.k ∧ FrK [7, 113, 114] s0.x.k y.2.x.k ∧ InvG y.2.x.g ∧ -2147483648 ≤ y.1.toInt ∧ y.1.toInt ≤ 2147483647
set_option maxHeartbeats 1000000 in
theorem ok_kX10_yearsB (s0 : YS)  (s : YS) (x1 : Int32) (hI_s_x_k : InvK s.x.k) (hF_s_x_k : FrK [7, 113, 114] s0.x.k s.x.k) (hI_s_x_g : InvG s.x.g)  : Ok (kX10_years  s x1) (Q_kX10_years s0) := by
  unfold kX10_years
  refine ok_ite (fun c_1 => ?_) (fun c_1 => ?_)
  · have c_1 := tn_lt (a := (x1).toInt) (b := 0) rfl (by decide) c_1
    exact ok_some ⟨hI_s_x_k, hF_s_x_k, hI_s_x_g, (ti_rng _).1, (ti_rng _).2⟩
  · have c_1 := tn_nlt (a := (x1).toInt) (b := 0) rfl (by decide) c_1
    refine ok_ite (fun c_2 => ?_) (fun c_2 => ?_)
    · have c_2 := tn_le (a := (x1).toInt) (b := 40) rfl (by decide) c_2
      refine ok_ite (fun c_3 => ?_) (fun c_3 => ?_)
      · have c_3 := tn_le (a := (x1).toInt) (b := 0) rfl (by decide) c_3
        exact ok_some ⟨hI_s_x_k, hF_s_x_k, hI_s_x_g, (ti_rng _).1, (ti_rng _).2⟩
      · have c_3 := tn_nle (a := (x1).toInt) (b := 0) rfl (by decide) c_3
        refine ok_bindP (ok_kX3_remember _  hI_s_x_g) (fun s4 hc_4 => ?_)
        have hI_s4_g : InvG s4.g := hc_4
        refine ok_let (fun s5 hs5 => ?_)
        have hI_s5_x_k : InvK s5.x.k := by rw [← hs5]; exact hI_s_x_k
        have hF_s5_x_k : FrK [7, 113, 114] s0.x.k s5.x.k := by rw [← hs5]; exact hF_s_x_k
        have hI_s5_x_g : InvG s5.x.g := by rw [← hs5]; exact hI_s4_g
        refine ok_bindP (ok_kX0_passYears _ _ hI_s5_x_k (by omega) (by omega)) (fun s7 hc_5 => ?_)
        have hI_s7_k : InvK s7.k := hc_5.1
        have hFc_s7_k : FrK [7, 113, 114] s5.x.k s7.k := hc_5.2
        have hF_s7_k : FrK [7, 113, 114] s0.x.k s7.k := hF_s5_x_k.trans hFc_s7_k (by decide)
        refine ok_let (fun s8 hs8 => ?_)
        have hI_s8_x_k : InvK s8.x.k := by rw [← hs8]; exact hI_s7_k
        have hF_s8_x_k : FrK [7, 113, 114] s0.x.k s8.x.k := by rw [← hs8]; exact hF_s7_k
        have hI_s8_x_g : InvG s8.x.g := by rw [← hs8]; exact hI_s5_x_g
        exact ok_some ⟨hI_s8_x_k, hF_s8_x_k, hI_s8_x_g, (ti_rng _).1, (ti_rng _).2⟩
    · have c_2 := tn_nle (a := (x1).toInt) (b := 40) rfl (by decide) c_2
      exact ok_some ⟨hI_s_x_k, hF_s_x_k, hI_s_x_g, (ti_rng _).1, (ti_rng _).2⟩
theorem ok_kX10_years (s : YS) (x1 : Int32) (hI_s_x_k : InvK s.x.k) (hI_s_x_g : InvG s.x.g) : Ok (kX10_years s x1) (Q_kX10_years s) := ok_kX10_yearsB s s x1 hI_s_x_k FrK.rfl hI_s_x_g
abbrev Q_kX10_likeliest (s0 : XS) (y : Int32 × XS) : Prop := InvK y.2.k ∧ FrK [7, 113, 114] s0.k y.2.k ∧ InvG y.2.g ∧ -2 ≤ y.1.toInt ∧ y.1.toInt ≤ 7775
set_option maxHeartbeats 1000000 in
theorem ok_kX10_likeliestB (s0 : XS)  (s : XS) (hI_s_k : InvK s.k) (hF_s_k : FrK [7, 113, 114] s0.k s.k) (hI_s_g : InvG s.g)  : Ok (kX10_likeliest  s) (Q_kX10_likeliest s0) := by
  unfold kX10_likeliest
  refine ok_bindI (ok_kX2_bestGuess _ _ hI_s_k (by decide) (by decide)) (fun r2 s1 hc_1 => ?_)
  have hI_s1_k : InvK s1.k := hc_1.1
  have hFc_s1_k : FrK [7, 113, 114] s.k s1.k := hc_1.2.1
  have hF_s1_k : FrK [7, 113, 114] s0.k s1.k := hF_s_k.trans hFc_s1_k (by decide)
  have hl_r2 : -2 ≤ r2.toInt := hc_1.2.2.1
  have hu_r2 : r2.toInt ≤ 7775 := hc_1.2.2.2.1
  have hx0_r2 : (¬ r2.toInt = -2 → 0 ≤ r2.toInt) := hc_1.2.2.2.2
  refine ok_let (fun s3 hs3 => ?_)
  have hI_s3_g : InvG s3.g := by rw [← hs3]; exact hI_s_g
  have hI_s3_k : InvK s3.k := by rw [← hs3]; exact hI_s1_k
  have hF_s3_k : FrK [7, 113, 114] s0.k s3.k := by rw [← hs3]; exact hF_s1_k
  exact ok_some ⟨hI_s3_k, hF_s3_k, hI_s3_g, by show -2 ≤ (r2).toInt; omega, by show (r2).toInt ≤ 7775; omega⟩
theorem ok_kX10_likeliest (s : XS) (hI_s_k : InvK s.k) (hI_s_g : InvG s.g) : Ok (kX10_likeliest s) (Q_kX10_likeliest s) := ok_kX10_likeliestB s s hI_s_k FrK.rfl hI_s_g
abbrev Q_kX10_safest (s0 : XS) (y : Int32 × XS) : Prop := InvK y.2.k ∧ FrK [7, 113, 114] s0.k y.2.k ∧ InvG y.2.g ∧ -2 ≤ y.1.toInt ∧ y.1.toInt ≤ 7775
set_option maxHeartbeats 1000000 in
theorem ok_kX10_safestB (s0 : XS)  (s : XS) (x1 : Int32) (hI_s_k : InvK s.k) (hF_s_k : FrK [7, 113, 114] s0.k s.k) (hI_s_g : InvG s.g)  : Ok (kX10_safest  s x1) (Q_kX10_safest s0) := by
  unfold kX10_safest
  refine ok_bindI (ok_kX5_hasParty _ _ hI_s_k) (fun r2 s1 hc_1 => ?_)
  have hI_s1 : InvK s1 := hc_1.1
  have hFc_s1 : FrK [] s.k s1 := hc_1.2.1
  have hF_s1 : FrK [7, 113, 114] s0.k s1 := hF_s_k.trans hFc_s1 (by decide)
  have hl_r2 : 0 ≤ r2.toInt := hc_1.2.2.1
  have hu_r2 : r2.toInt ≤ 1 := hc_1.2.2.2.1
  have hx0_r2 : (¬ r2.toInt = 0 → 0 ≤ (x1).toInt ∧ (x1).toInt ≤ 5) := hc_1.2.2.2.2
  refine ok_let (fun s3 hs3 => ?_)
  have hI_s3_g : InvG s3.g := by rw [← hs3]; exact hI_s_g
  have hI_s3_k : InvK s3.k := by rw [← hs3]; exact hI_s1
  have hF_s3_k : FrK [7, 113, 114] s0.k s3.k := by rw [← hs3]; exact hF_s1
  refine ok_ite (fun c_2 => ?_) (fun c_2 => ?_)
  · have c_2 := tn_eq (a := (r2).toInt) (b := 0) rfl (by decide) c_2
    exact ok_some ⟨hI_s3_k, hF_s3_k, hI_s3_g, by show -2 ≤ ((-1) : Int32).toInt; decide, by show ((-1) : Int32).toInt ≤ 7775; decide⟩
  · have c_2 := tn_ne (a := (r2).toInt) (b := 0) rfl (by decide) c_2
    refine ok_bindI (ok_kX2_bestGuess _ _ hI_s3_k (by omega) (by omega)) (fun r7 s6 hc_3 => ?_)
    have hI_s6_k : InvK s6.k := hc_3.1
    have hFc_s6_k : FrK [7, 113, 114] s3.k s6.k := hc_3.2.1
    have hF_s6_k : FrK [7, 113, 114] s0.k s6.k := hF_s3_k.trans hFc_s6_k (by decide)
    have hl_r7 : -2 ≤ r7.toInt := hc_3.2.2.1
    have hu_r7 : r7.toInt ≤ 7775 := hc_3.2.2.2.1
    have hx0_r7 : (¬ r7.toInt = -2 → 0 ≤ r7.toInt) := hc_3.2.2.2.2
    refine ok_let (fun s8 hs8 => ?_)
    have hI_s8_g : InvG s8.g := by rw [← hs8]; exact hI_s3_g
    have hI_s8_k : InvK s8.k := by rw [← hs8]; exact hI_s6_k
    have hF_s8_k : FrK [7, 113, 114] s0.k s8.k := by rw [← hs8]; exact hF_s6_k
    exact ok_some ⟨hI_s8_k, hF_s8_k, hI_s8_g, by show -2 ≤ (r7).toInt; omega, by show (r7).toInt ≤ 7775; omega⟩
theorem ok_kX10_safest (s : XS) (x1 : Int32) (hI_s_k : InvK s.k) (hI_s_g : InvG s.g) : Ok (kX10_safest s x1) (Q_kX10_safest s) := ok_kX10_safestB s s x1 hI_s_k FrK.rfl hI_s_g
abbrev Q_kX10_sure (s0 : XS) (y : Int32 × XS) : Prop := InvK y.2.k ∧ FrK [7, 113, 114] s0.k y.2.k ∧ InvG y.2.g ∧ -2147483648 ≤ y.1.toInt ∧ y.1.toInt ≤ 2147483647
set_option maxHeartbeats 1000000 in
theorem ok_kX10_sureB (s0 : XS)  (s : XS) (x1 : Int32) (x2 : Int32) (hI_s_k : InvK s.k) (hF_s_k : FrK [7, 113, 114] s0.k s.k) (hI_s_g : InvG s.g)  : Ok (kX10_sure  s x1 x2) (Q_kX10_sure s0) := by
  unfold kX10_sure
  refine ok_bindI (ok_kX10_isHere _ _ hI_s_k hI_s_g) (fun r2 s1 hc_1 => ?_)
  have hI_s1_k : InvK s1.k := hc_1.1
  have hFc_s1_k : FrK [] s.k s1.k := hc_1.2.1
  have hF_s1_k : FrK [7, 113, 114] s0.k s1.k := hF_s_k.trans hFc_s1_k (by decide)
  have hI_s1_g : InvG s1.g := hc_1.2.2.1
  have hl_r2 : 0 ≤ r2.toInt := hc_1.2.2.2.1
  have hu_r2 : r2.toInt ≤ 1 := hc_1.2.2.2.2.1
  have hx0_r2 : (¬ r2.toInt = 0 → 0 ≤ (x1).toInt ∧ (x1).toInt ≤ 5) := hc_1.2.2.2.2.2
  refine ok_ite (fun c_2 => ?_) (fun c_2 => ?_)
  · have c_2 := tn_eq (a := (r2).toInt) (b := 0) rfl (by decide) c_2
    exact ok_some ⟨hI_s1_k, hF_s1_k, hI_s1_g, (ti_rng _).1, (ti_rng _).2⟩
  · have c_2 := tn_ne (a := (r2).toInt) (b := 0) rfl (by decide) c_2
    have a_3 : 0 ≤ (s.k.v 1).toInt ∧ (s.k.v 1).toInt ≤ 5 := hI_s_k.1 1
    have a_4 : (s1.k.v 1).toInt = (s.k.v 1).toInt := congrArg Int32.toInt (hFc_s1_k.1 1 (by decide))
    refine ok_ite (fun c_5 => ?_) (fun c_5 => ?_)
    · have c_5 := tn_eq (a := ((s1.k.v 1)).toInt) (b := 0) rfl (by decide) c_5
      exact ok_some ⟨hI_s1_k, hF_s1_k, hI_s1_g, (ti_rng _).1, (ti_rng _).2⟩
    · have c_5 := tn_ne (a := ((s1.k.v 1)).toInt) (b := 0) rfl (by decide) c_5
      refine ok_ite (fun c_6 => ?_) (fun c_6 => ?_)
      · have c_6 := tn_lt (a := (x2).toInt) (b := 1) rfl (by decide) c_6
        exact ok_some ⟨hI_s1_k, hF_s1_k, hI_s1_g, (ti_rng _).1, (ti_rng _).2⟩
      · have c_6 := tn_nlt (a := (x2).toInt) (b := 1) rfl (by decide) c_6
        refine ok_ite (fun c_7 => ?_) (fun c_7 => ?_)
        · have c_7 := tn_le (a := (x2).toInt) (b := 8) rfl (by decide) c_7
          refine ok_bindP (ok_kX6_copyFrom _  ) (fun s7 hc_8 => ?_)
          refine ok_let (fun s8 hs8 => ?_)
          have hI_s8_g : InvG s8.g := by rw [← hs8]; exact hI_s1_g
          have hI_s8_k : InvK s8.k := by rw [← hs8]; exact hI_s1_k
          have hF_s8_k : FrK [7, 113, 114] s0.k s8.k := by rw [← hs8]; exact hF_s1_k
          refine ok_bindI (ok_kX2_oddsOverWithinR9 _ _ _ hI_s8_k (by omega) (by omega) (by omega) (by omega)) (fun r11 s10 hc_9 => ?_)
          have hI_s10_k : InvK s10.k := hc_9.1
          have hFc_s10_k : FrK [7, 113, 114] s8.k s10.k := hc_9.2.1
          have hF_s10_k : FrK [7, 113, 114] s0.k s10.k := hF_s8_k.trans hFc_s10_k (by decide)
          refine ok_let (fun s12 hs12 => ?_)
          have hI_s12_g : InvG s12.g := by rw [← hs12]; exact hI_s8_g
          have hI_s12_k : InvK s12.k := by rw [← hs12]; exact hI_s10_k
          have hF_s12_k : FrK [7, 113, 114] s0.k s12.k := by rw [← hs12]; exact hF_s10_k
          exact ok_some ⟨hI_s12_k, hF_s12_k, hI_s12_g, (ti_rng _).1, (ti_rng _).2⟩
        · have c_7 := tn_nle (a := (x2).toInt) (b := 8) rfl (by decide) c_7
          exact ok_some ⟨hI_s1_k, hF_s1_k, hI_s1_g, (ti_rng _).1, (ti_rng _).2⟩
theorem ok_kX10_sure (s : XS) (x1 : Int32) (x2 : Int32) (hI_s_k : InvK s.k) (hI_s_g : InvG s.g) : Ok (kX10_sure s x1 x2) (Q_kX10_sure s) := ok_kX10_sureB s s x1 x2 hI_s_k FrK.rfl hI_s_g
abbrev Q_kX10_stuck (s0 : XS) (y : Int32 × XS) : Prop := InvK y.2.k ∧ FrK [7, 113, 114] s0.k y.2.k ∧ InvG y.2.g ∧ -2147483648 ≤ y.1.toInt ∧ y.1.toInt ≤ 2147483647
set_option maxHeartbeats 1000000 in
theorem ok_kX10_stuck_50 (s0 : XS) (k4 : XS → Int32 → Int32 → Option (Int32 × XS)) (M4 : Nat) (hk4 : ∀ (s : XS) (x1 : Int32) (x2 : Int32), InvK s.k → FrK [7, 113, 114] s0.k s.k → InvG s.g → 0 ≤ x2.toInt → x2.toInt ≤ 6 → (6 - x2.toInt).toNat < M4 → Ok (k4 s x1 x2) (Q_kX10_stuck s0)) (s : XS) (x1 : Int32) (x2 : Int32) (hI_s_k : InvK s.k) (hF_s_k : FrK [7, 113, 114] s0.k s.k) (hI_s_g : InvG s.g) (h_x2l : 0 ≤ x2.toInt) (h_x2u : x2.toInt ≤ 5) (hM4 : (6 - x2.toInt).toNat ≤ M4) : Ok (kX10_stuck_50 k4 s x1 x2) (Q_kX10_stuck s0) := by
  unfold kX10_stuck_50
  have a_1 : ((x2 + 1)).toInt = (x2).toInt + 1 := tn_add rfl (by decide) (by omega) (by omega)
  exact hk4 _ _ _ hI_s_k hF_s_k hI_s_g (by omega) (by omega) (by omega)
set_option maxHeartbeats 1000000 in
theorem ok_kX10_stuck_4 (s0 : XS) (k4 : XS → Int32 → Int32 → Option (Int32 × XS)) (M4 : Nat) (hk4 : ∀ (s : XS) (x1 : Int32) (x2 : Int32), InvK s.k → FrK [7, 113, 114] s0.k s.k → InvG s.g → 0 ≤ x2.toInt → x2.toInt ≤ 6 → (6 - x2.toInt).toNat < M4 → Ok (k4 s x1 x2) (Q_kX10_stuck s0)) (s : XS) (x1 : Int32) (x2 : Int32) (hI_s_k : InvK s.k) (hF_s_k : FrK [7, 113, 114] s0.k s.k) (hI_s_g : InvG s.g) (h_x2l : 0 ≤ x2.toInt) (h_x2u : x2.toInt ≤ 6) (hM4 : (6 - x2.toInt).toNat ≤ M4) : Ok (kX10_stuck_4 k4 s x1 x2) (Q_kX10_stuck s0) := by
  unfold kX10_stuck_4
  have a_1 : 0 ≤ (s.k.v 2).toInt ∧ (s.k.v 2).toInt ≤ 6 := hI_s_k.1 2
  refine ok_ite (fun c_2 => ?_) (fun c_2 => ?_)
  · have c_2 := tn_le (a := ((s.k.v 2)).toInt) (b := (x2).toInt) rfl rfl c_2
    exact ok_some ⟨hI_s_k, hF_s_k, hI_s_g, (ti_rng _).1, (ti_rng _).2⟩
  · have c_2 := tn_nle (a := ((s.k.v 2)).toInt) (b := (x2).toInt) rfl rfl c_2
    refine ok_grd (vpb_ok (by omega) (by omega)) ?_
    refine ok_ite (fun c_3 => ?_) (fun c_3 => ?_)
    · have c_3 := tn_eq (a := (((s.n.f 3) (Int32.toNatClampNeg x2))).toInt) (b := 0) rfl (by decide) c_3
      refine ok_bindI (ok_kX2_bestGuess _ _ hI_s_k (by omega) (by omega)) (fun r5 s4 hc_4 => ?_)
      have hI_s4_k : InvK s4.k := hc_4.1
      have hFc_s4_k : FrK [7, 113, 114] s.k s4.k := hc_4.2.1
      have hF_s4_k : FrK [7, 113, 114] s0.k s4.k := hF_s_k.trans hFc_s4_k (by decide)
      have hl_r5 : -2 ≤ r5.toInt := hc_4.2.2.1
      have hu_r5 : r5.toInt ≤ 7775 := hc_4.2.2.2.1
      have hx0_r5 : (¬ r5.toInt = -2 → 0 ≤ r5.toInt) := hc_4.2.2.2.2
      refine ok_let (fun s6 hs6 => ?_)
      have hI_s6_g : InvG s6.g := by rw [← hs6]; exact hI_s_g
      have hI_s6_k : InvK s6.k := by rw [← hs6]; exact hI_s4_k
      have hF_s6_k : FrK [7, 113, 114] s0.k s6.k := by rw [← hs6]; exact hF_s4_k
      refine ok_ite (fun c_5 => ?_) (fun c_5 => ?_)
      · have c_5 := tn_eq (a := (r5).toInt) (b := (-2)) rfl (by decide) c_5
        exact ok_kX10_stuck_50 s0 k4 M4 hk4 _ _ _ hI_s6_k hF_s6_k hI_s6_g (by omega) (by omega) (by omega)
      · have c_5 := tn_ne (a := (r5).toInt) (b := (-2)) rfl (by decide) c_5
        exact ok_kX10_stuck_50 s0 k4 M4 hk4 _ _ _ hI_s6_k hF_s6_k hI_s6_g (by omega) (by omega) (by omega)
    · have c_3 := tn_ne (a := (((s.n.f 3) (Int32.toNatClampNeg x2))).toInt) (b := 0) rfl (by decide) c_3
      exact ok_kX10_stuck_50 s0 k4 M4 hk4 _ _ _ hI_s_k hF_s_k hI_s_g (by omega) (by omega) (by omega)
theorem okL_kX10_stuck_4 (s0 : XS)  : ∀ (n : Nat) (s : XS) (x1 : Int32) (x2 : Int32), (6 - x2.toInt).toNat < n → InvK s.k → FrK [7, 113, 114] s0.k s.k → InvG s.g → 0 ≤ x2.toInt → x2.toInt ≤ 6 → Ok (kX10_stuck_4L  n s x1 x2) (Q_kX10_stuck s0) := by
  intro n
  induction n with
  | zero => intro s x1 x2 hn; omega
  | succ n ih =>
    intro s x1 x2 hn hI_s_k hF_s_k hI_s_g h_x2l h_x2u 
    exact ok_kX10_stuck_4 s0 (kX10_stuck_4L  n) ((6 - x2.toInt).toNat) (fun zs zx1 zx2 g0 g1 g2 g3 g4  hm => ih zs zx1 zx2 (by omega) g0 g1 g2 g3 g4 ) s x1 x2 hI_s_k hF_s_k hI_s_g h_x2l h_x2u (Nat.le_refl _)
set_option maxHeartbeats 1000000 in
theorem ok_kX10_stuckB (s0 : XS)  (s : XS) (hI_s_k : InvK s.k) (hF_s_k : FrK [7, 113, 114] s0.k s.k) (hI_s_g : InvG s.g)  : Ok (kX10_stuck  s) (Q_kX10_stuck s0) := by
  unfold kX10_stuck
  have l_0 : (0 : Int32).toInt = 0 := by decide
  exact okL_kX10_stuck_4 s0  fu _ _ _ (by unfold fu; omega) hI_s_k hF_s_k hI_s_g (by decide) (by decide) 
theorem ok_kX10_stuck (s : XS) (hI_s_k : InvK s.k) (hI_s_g : InvG s.g) : Ok (kX10_stuck s) (Q_kX10_stuck s) := ok_kX10_stuckB s s hI_s_k FrK.rfl hI_s_g
