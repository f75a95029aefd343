abbrev Q_kX10_chosen (s0 : XS) (y : Int32 × XS) : Prop := InvK y.2.k ∧ FrK [7, 113, 114] s0.k y.2.k ∧ InvG y.2.g ∧ -2 ≤ y.1.toInt ∧ y.1.toInt ≤ 5
set_option maxHeartbeats 1000000 in
theorem ok_kX10_chosen_86 (s0 : XS) (k7 : XS → Int32 → Int32 → Int32 → Option (Int32 × XS)) (M7 : Nat) (hk7 : ∀ (s : XS) (x1 : Int32) (x2 : Int32) (x3 : Int32), InvK s.k → FrK [7, 113, 114] s0.k s.k → InvG s.g → -2 ≤ x1.toInt → x1.toInt ≤ 5 → 0 ≤ x2.toInt → 0 ≤ x3.toInt → x3.toInt ≤ 6 → (6 - x3.toInt).toNat < M7 → Ok (k7 s x1 x2 x3) (Q_kX10_chosen s0)) (s : XS) (x1 : Int32) (x2 : Int32) (x3 : Int32) (hI_s_k : InvK s.k) (hF_s_k : FrK [7, 113, 114] s0.k s.k) (hI_s_g : InvG s.g) (h_x1l : -2 ≤ x1.toInt) (h_x1u : x1.toInt ≤ 5) (h_x2l : 0 ≤ x2.toInt) (h_x3l : 0 ≤ x3.toInt) (h_x3u : x3.toInt ≤ 5) (hM7 : (6 - x3.toInt).toNat ≤ M7) : Ok (kX10_chosen_86 k7 s x1 x2 x3) (Q_kX10_chosen s0) := by
  unfold kX10_chosen_86
  have a_1 : ((x3 + 1)).toInt = (x3).toInt + 1 := tn_add rfl (by decide) (by omega) (by omega)
  exact hk7 _ _ _ _ hI_s_k hF_s_k hI_s_g (by omega) (by omega) (by omega) (by omega) (by omega) (by omega)
set_option maxHeartbeats 1000000 in
theorem ok_kX10_chosen_73 (s0 : XS) (k7 : XS → Int32 → Int32 → Int32 → Option (Int32 × XS)) (M7 : Nat) (hk7 : ∀ (s : XS) (x1 : Int32) (x2 : Int32) (x3 : Int32), InvK s.k → FrK [7, 113, 114] s0.k s.k → InvG s.g → -2 ≤ x1.toInt → x1.toInt ≤ 5 → 0 ≤ x2.toInt → 0 ≤ x3.toInt → x3.toInt ≤ 6 → (6 - x3.toInt).toNat < M7 → Ok (k7 s x1 x2 x3) (Q_kX10_chosen s0)) (s : XS) (x1 : Int32) (x2 : Int32) (x3 : Int32) (t0 : Int32) (hI_s_k : InvK s.k) (hF_s_k : FrK [7, 113, 114] s0.k s.k) (hI_s_g : InvG s.g) (h_x1l : -2 ≤ x1.toInt) (h_x1u : x1.toInt ≤ 5) (h_x2l : 0 ≤ x2.toInt) (h_x3l : 0 ≤ x3.toInt) (h_x3u : x3.toInt ≤ 5) (hM7 : (6 - x3.toInt).toNat ≤ M7) : Ok (kX10_chosen_73 k7 s x1 x2 x3 t0) (Q_kX10_chosen s0) := by
  unfold kX10_chosen_73
  refine ok_ite (fun c_1 => ?_) (fun c_1 => ?_)
  · have c_1 := tn_le (a := (t0).toInt) (b := (x2).toInt) rfl rfl c_1
    exact ok_kX10_chosen_86 s0 k7 M7 hk7 _ _ _ _ hI_s_k hF_s_k hI_s_g (by omega) (by omega) (by omega) (by omega) (by omega) (by omega)
  · have c_1 := tn_nle (a := (t0).toInt) (b := (x2).toInt) rfl rfl c_1
    exact ok_kX10_chosen_86 s0 k7 M7 hk7 _ _ _ _ hI_s_k hF_s_k hI_s_g (by omega) (by omega) (by omega) (by omega) (by omega) (by omega)
set_option maxHeartbeats 1000000 in
theorem ok_kX10_chosen_47 (s0 : XS) (k7 : XS → Int32 → Int32 → Int32 → Option (Int32 × XS)) (M7 : Nat) (hk7 : ∀ (s : XS) (x1 : Int32) (x2 : Int32) (x3 : Int32), InvK s.k → FrK [7, 113, 114] s0.k s.k → InvG s.g → -2 ≤ x1.toInt → x1.toInt ≤ 5 → 0 ≤ x2.toInt → 0 ≤ x3.toInt → x3.toInt ≤ 6 → (6 - x3.toInt).toNat < M7 → Ok (k7 s x1 x2 x3) (Q_kX10_chosen s0)) (s : XS) (x1 : Int32) (x2 : Int32) (x3 : Int32) (t0 : Int32) (hI_s_k : InvK s.k) (hF_s_k : FrK [7, 113, 114] s0.k s.k) (hI_s_g : InvG s.g) (h_x1l : -2 ≤ x1.toInt) (h_x1u : x1.toInt ≤ 5) (h_x2l : 0 ≤ x2.toInt) (h_x3l : 0 ≤ x3.toInt) (h_x3u : x3.toInt ≤ 5) (h_t0l : -2 ≤ t0.toInt) (h_t0u : t0.toInt ≤ 7775) (hx0 : (¬ t0.toInt = -2 → 0 ≤ t0.toInt)) (hM7 : (6 - x3.toInt).toNat ≤ M7) : Ok (kX10_chosen_47 k7 s x1 x2 x3 t0) (Q_kX10_chosen s0) := by
  unfold kX10_chosen_47
  refine ok_ite (fun c_1 => ?_) (fun c_1 => ?_)
  · have c_1 := tn_eq (a := (t0).toInt) (b := (-2)) rfl (by decide) c_1
    have l_0 : (0 : Int32).toInt = 0 := by decide
    exact ok_kX10_chosen_73 s0 k7 M7 hk7 _ _ _ _ _ hI_s_k hF_s_k hI_s_g (by first | (clear hx0; omega) | omega) (by first | (clear hx0; omega) | omega) (by first | (clear hx0; omega) | omega) (by first | (clear hx0; omega) | omega) (by first | (clear hx0; omega) | omega) (by first | (clear hx0; omega) | omega)
  · have c_1 := tn_ne (a := (t0).toInt) (b := (-2)) rfl (by decide) c_1
    refine ok_bindI (ok_kX2_oddsOf _ _ hI_s_k (by omega)) (fun r3 s2 hc_2 => ?_)
    have hI_s2_k : InvK s2.k := hc_2.1
    have hFc_s2_k : FrK [] s.k s2.k := hc_2.2.1
    have hF_s2_k : FrK [7, 113, 114] s0.k s2.k := hF_s_k.trans hFc_s2_k (by decide)
    refine ok_let (fun s4 hs4 => ?_)
    have hI_s4_g : InvG s4.g := by rw [← hs4]; exact hI_s_g
    have hI_s4_k : InvK s4.k := by rw [← hs4]; exact hI_s2_k
    have hF_s4_k : FrK [7, 113, 114] s0.k s4.k := by rw [← hs4]; exact hF_s2_k
    exact ok_kX10_chosen_73 s0 k7 M7 hk7 _ _ _ _ _ hI_s4_k hF_s4_k hI_s4_g (by first | (clear hx0; omega) | omega) (by first | (clear hx0; omega) | omega) (by first | (clear hx0; omega) | omega) (by first | (clear hx0; omega) | omega) (by first | (clear hx0; omega) | omega) (by first | (clear hx0; omega) | omega)
set_option maxHeartbeats 1000000 in
theorem ok_kX10_chosen_7 (s0 : XS) (k7 : XS → Int32 → Int32 → Int32 → Option (Int32 × XS)) (M7 : Nat) (hk7 : ∀ (s : XS) (x1 : Int32) (x2 : Int32) (x3 : Int32), InvK s.k → FrK [7, 113, 114] s0.k s.k → InvG s.g → -2 ≤ x1.toInt → x1.toInt ≤ 5 → 0 ≤ x2.toInt → 0 ≤ x3.toInt → x3.toInt ≤ 6 → (6 - x3.toInt).toNat < M7 → Ok (k7 s x1 x2 x3) (Q_kX10_chosen s0)) (s : XS) (x1 : Int32) (x2 : Int32) (x3 : Int32) (hI_s_k : InvK s.k) (hF_s_k : FrK [7, 113, 114] s0.k s.k) (hI_s_g : InvG s.g) (h_x1l : -2 ≤ x1.toInt) (h_x1u : x1.toInt ≤ 5) (h_x2l : 0 ≤ x2.toInt) (h_x3l : 0 ≤ x3.toInt) (h_x3u : x3.toInt ≤ 6) (hM7 : (6 - x3.toInt).toNat ≤ M7) : Ok (kX10_chosen_7 k7 s x1 x2 x3) (Q_kX10_chosen s0) := by
  unfold kX10_chosen_7
  have a_1 : 0 ≤ (s.k.v 2).toInt ∧ (s.k.v 2).toInt ≤ 6 := hI_s_k.1 2
  refine ok_ite (fun c_2 => ?_) (fun c_2 => ?_)
  · have c_2 := tn_le (a := ((s.k.v 2)).toInt) (b := (x3).toInt) rfl rfl c_2
    exact ok_some ⟨hI_s_k, hF_s_k, hI_s_g, by show -2 ≤ (x1).toInt; omega, by show (x1).toInt ≤ 5; omega⟩
  · have c_2 := tn_nle (a := ((s.k.v 2)).toInt) (b := (x3).toInt) rfl rfl c_2
    refine ok_grd (vpb_ok (by omega) (by omega)) ?_
    refine ok_ite (fun c_3 => ?_) (fun c_3 => ?_)
    · have c_3 := tn_eq (a := (((s.n.f 3) (Int32.toNatClampNeg x3))).toInt) (b := 0) rfl (by decide) c_3
      refine ok_bindI (ok_kX2_bestGuess _ _ hI_s_k (by omega) (by omega)) (fun r5 s4 hc_4 => ?_)
      have hI_s4_k : InvK s4.k := hc_4.1
      have hFc_s4_k : FrK [7, 113, 114] s.k s4.k := hc_4.2.1
      have hF_s4_k : FrK [7, 113, 114] s0.k s4.k := hF_s_k.trans hFc_s4_k (by decide)
      have hl_r5 : -2 ≤ r5.toInt := hc_4.2.2.1
      have hu_r5 : r5.toInt ≤ 7775 := hc_4.2.2.2.1
      have hx0_r5 : (¬ r5.toInt = -2 → 0 ≤ r5.toInt) := hc_4.2.2.2.2
      refine ok_let (fun s6 hs6 => ?_)
      have hI_s6_g : InvG s6.g := by rw [← hs6]; exact hI_s_g
      have hI_s6_k : InvK s6.k := by rw [← hs6]; exact hI_s4_k
      have hF_s6_k : FrK [7, 113, 114] s0.k s6.k := by rw [← hs6]; exact hF_s4_k
      exact ok_kX10_chosen_47 s0 k7 M7 hk7 _ _ _ _ _ hI_s6_k hF_s6_k hI_s6_g (by omega) (by omega) (by omega) (by omega) (by omega) (by omega) (by omega) (by omega) (by omega)
    · have c_3 := tn_ne (a := (((s.n.f 3) (Int32.toNatClampNeg x3))).toInt) (b := 0) rfl (by decide) c_3
      have l_m2 : ((-2) : Int32).toInt = -2 := by decide
      exact ok_kX10_chosen_47 s0 k7 M7 hk7 _ _ _ _ _ hI_s_k hF_s_k hI_s_g (by omega) (by omega) (by omega) (by omega) (by omega) (by decide) (by decide) (by omega) (by omega)
theorem okL_kX10_chosen_7 (s0 : XS)  : ∀ (n : Nat) (s : XS) (x1 : Int32) (x2 : Int32) (x3 : Int32), (6 - x3.toInt).toNat < n → InvK s.k → FrK [7, 113, 114] s0.k s.k → InvG s.g → -2 ≤ x1.toInt → x1.toInt ≤ 5 → 0 ≤ x2.toInt → 0 ≤ x3.toInt → x3.toInt ≤ 6 → Ok (kX10_chosen_7L  n s x1 x2 x3) (Q_kX10_chosen s0) := by
  intro n
  induction n with
  | zero => intro s x1 x2 x3 hn; omega
  | succ n ih =>
    intro s x1 x2 x3 hn hI_s_k hF_s_k hI_s_g h_x1l h_x1u h_x2l h_x3l h_x3u 
    exact ok_kX10_chosen_7 s0 (kX10_chosen_7L  n) ((6 - x3.toInt).toNat) (fun zs zx1 zx2 zx3 g0 g1 g2 g3 g4 g5 g6 g7  hm => ih zs zx1 zx2 zx3 (by omega) g0 g1 g2 g3 g4 g5 g6 g7 ) s x1 x2 x3 hI_s_k hF_s_k hI_s_g h_x1l h_x1u h_x2l h_x3l h_x3u (Nat.le_refl _)
set_option maxHeartbeats 1000000 in
theorem ok_kX10_chosenB (s0 : XS)  (s : XS) (hI_s_k : InvK s.k) (hF_s_k : FrK [7, 113, 114] s0.k s.k) (hI_s_g : InvG s.g)  : Ok (kX10_chosen  s) (Q_kX10_chosen s0) := by
  unfold kX10_chosen
  have l_m2 : ((-2) : Int32).toInt = -2 := by decide
  have l_0 : (0 : Int32).toInt = 0 := by decide
  exact okL_kX10_chosen_7 s0  fu _ _ _ _ (by unfold fu; omega) hI_s_k hF_s_k hI_s_g (by decide) (by decide) (by decide) (by decide) (by decide) 
theorem ok_kX10_chosen (s : XS) (hI_s_k : InvK s.k) (hI_s_g : InvG s.g) : Ok (kX10_chosen s) (Q_kX10_chosen s) := ok_kX10_chosenB s s hI_s_k FrK.rfl hI_s_g
abbrev Q_kX10_allGo (s0 : XS) (y : Int32 × XS) : Prop := InvK y.2.k ∧ FrK [7, 113, 114] s0.k y.2.k ∧ InvG y.2.g ∧ -2147483648 ≤ y.1.toInt ∧ y.1.toInt ≤ 2147483647
set_option maxHeartbeats 1000000 in
theorem ok_kX10_allGo_136 (s0 : XS)  (s : XS) (t0 : Int32) (hI_s_k : InvK s.k) (hF_s_k : FrK [7, 113, 114] s0.k s.k) (hI_s_g : InvG s.g) (h_t0l : 1 ≤ t0.toInt) (h_t0u : t0.toInt ≤ 2)  : Ok (kX10_allGo_136  s t0) (Q_kX10_allGo s0) := by
  unfold kX10_allGo_136
  refine ok_bindI (ok_kX10_partiesThatAre_t _ _ hI_s_k hI_s_g (by omega) (by omega)) (fun r2 s1 hc_1 => ?_)
  have hI_s1_k : InvK s1.k := hc_1.1
  have hFc_s1_k : FrK [] s.k s1.k := hc_1.2.1
  have hF_s1_k : FrK [7, 113, 114] s0.k s1.k := hF_s_k.trans hFc_s1_k (by decide)
  have hI_s1_g : InvG s1.g := hc_1.2.2.1
  refine ok_bindP (ok_kJ6_bitCount_0f7a4 _ ) (fun r3 hc_2 => ?_)
  exact ok_some ⟨hI_s1_k, hF_s1_k, hI_s1_g, (ti_rng _).1, (ti_rng _).2⟩
set_option maxHeartbeats 1000000 in
theorem ok_kX10_allGo_95 (s0 : XS) (k24 : XS → Int32 → Int32 → Option (Int32 × XS)) (M24 : Nat) (hk24 : ∀ (s : XS) (x1 : Int32) (x2 : Int32), InvK s.k → FrK [7, 113, 114] s0.k s.k → InvG s.g → 0 ≤ x1.toInt → x1.toInt ≤ 2 → 0 ≤ x2.toInt → x2.toInt ≤ 6 → (6 - x2.toInt).toNat < M24 → Ok (k24 s x1 x2) (Q_kX10_allGo s0)) (s : XS) (x1 : Int32) (x2 : Int32) (hI_s_k : InvK s.k) (hF_s_k : FrK [7, 113, 114] s0.k s.k) (hI_s_g : InvG s.g) (h_x1l : 0 ≤ x1.toInt) (h_x1u : x1.toInt ≤ 2) (h_x2l : 0 ≤ x2.toInt) (h_x2u : x2.toInt ≤ 5) (hM24 : (6 - x2.toInt).toNat ≤ M24) : Ok (kX10_allGo_95 k24 s x1 x2) (Q_kX10_allGo s0) := by
  unfold kX10_allGo_95
  have a_1 : ((x2 + 1)).toInt = (x2).toInt + 1 := tn_add rfl (by decide) (by omega) (by omega)
  exact hk24 _ _ _ hI_s_k hF_s_k hI_s_g (by omega) (by omega) (by omega) (by omega) (by omega)
set_option maxHeartbeats 1000000 in
theorem ok_kX10_allGo_24 (s0 : XS) (k24 : XS → Int32 → Int32 → Option (Int32 × XS)) (M24 : Nat) (hk24 : ∀ (s : XS) (x1 : Int32) (x2 : Int32), InvK s.k → FrK [7, 113, 114] s0.k s.k → InvG s.g → 0 ≤ x1.toInt → x1.toInt ≤ 2 → 0 ≤ x2.toInt → x2.toInt ≤ 6 → (6 - x2.toInt).toNat < M24 → Ok (k24 s x1 x2) (Q_kX10_allGo s0)) (s : XS) (x1 : Int32) (x2 : Int32) (hI_s_k : InvK s.k) (hF_s_k : FrK [7, 113, 114] s0.k s.k) (hI_s_g : InvG s.g) (h_x1l : 0 ≤ x1.toInt) (h_x1u : x1.toInt ≤ 2) (h_x2l : 0 ≤ x2.toInt) (h_x2u : x2.toInt ≤ 6) (hM24 : (6 - x2.toInt).toNat ≤ M24) : Ok (kX10_allGo_24 k24 s x1 x2) (Q_kX10_allGo s0) := by
  unfold kX10_allGo_24
  have a_1 : 0 ≤ (s.k.v 2).toInt ∧ (s.k.v 2).toInt ≤ 6 := hI_s_k.1 2
  refine ok_ite (fun c_2 => ?_) (fun c_2 => ?_)
  · have c_2 := tn_le (a := ((s.k.v 2)).toInt) (b := (x2).toInt) rfl rfl c_2
    refine ok_ite (fun c_3 => ?_) (fun c_3 => ?_)
    · have c_3 := tn_eq (a := (x1).toInt) (b := 2) rfl (by decide) c_3
      exact ok_some ⟨hI_s_k, hF_s_k, hI_s_g, (ti_rng _).1, (ti_rng _).2⟩
    · have c_3 := tn_ne (a := (x1).toInt) (b := 2) rfl (by decide) c_3
      refine ok_ite (fun c_4 => ?_) (fun c_4 => ?_)
      · have c_4 := tn_eq (a := (x1).toInt) (b := 0) rfl (by decide) c_4
        have l_2 : (2 : Int32).toInt = 2 := by decide
        exact ok_kX10_allGo_136 s0  _ _ hI_s_k hF_s_k hI_s_g (by decide) (by decide) 
      · have c_4 := tn_ne (a := (x1).toInt) (b := 0) rfl (by decide) c_4
        have l_1 : (1 : Int32).toInt = 1 := by decide
        exact ok_kX10_allGo_136 s0  _ _ hI_s_k hF_s_k hI_s_g (by decide) (by decide) 
  · have c_2 := tn_nle (a := ((s.k.v 2)).toInt) (b := (x2).toInt) rfl rfl c_2
    refine ok_grd (vpb_ok (by omega) (by omega)) ?_
    refine ok_ite (fun c_5 => ?_) (fun c_5 => ?_)
    · have c_5 := tn_eq (a := (((s.t.f 3) (Int32.toNatClampNeg x2))).toInt) (b := 0) rfl (by decide) c_5
      refine ok_bindI (ok_kX0_isDaring _ _ hI_s_k (by omega) (by omega)) (fun r7 s6 hc_6 => ?_)
      have hI_s6_k : InvK s6.k := hc_6.1
      have hFc_s6_k : FrK [7, 113, 114] s.k s6.k := hc_6.2.1
      have hF_s6_k : FrK [7, 113, 114] s0.k s6.k := hF_s_k.trans hFc_s6_k (by decide)
      have hl_r7 : 0 ≤ r7.toInt := hc_6.2.2.1
      have hu_r7 : r7.toInt ≤ 1 := hc_6.2.2.2
      refine ok_let (fun s8 hs8 => ?_)
      have hI_s8_g : InvG s8.g := by rw [← hs8]; exact hI_s_g
      have hI_s8_k : InvK s8.k := by rw [← hs8]; exact hI_s6_k
      have hF_s8_k : FrK [7, 113, 114] s0.k s8.k := by rw [← hs8]; exact hF_s6_k
      refine ok_ite (fun c_7 => ?_) (fun c_7 => ?_)
      · have c_7 := tn_eq (a := (r7).toInt) (b := 0) rfl (by decide) c_7
        exact ok_kX10_allGo_95 s0 k24 M24 hk24 _ _ _ hI_s8_k hF_s8_k hI_s8_g (by omega) (by omega) (by omega) (by omega) (by omega)
      · have c_7 := tn_ne (a := (r7).toInt) (b := 0) rfl (by decide) c_7
        refine ok_bindI (ok_kX2_bestGuess _ _ hI_s8_k (by omega) (by omega)) (fun r12 s11 hc_8 => ?_)
        have hI_s11_k : InvK s11.k := hc_8.1
        have hFc_s11_k : FrK [7, 113, 114] s8.k s11.k := hc_8.2.1
        have hF_s11_k : FrK [7, 113, 114] s0.k s11.k := hF_s8_k.trans hFc_s11_k (by decide)
        have hl_r12 : -2 ≤ r12.toInt := hc_8.2.2.1
        have hu_r12 : r12.toInt ≤ 7775 := hc_8.2.2.2.1
        have hx0_r12 : (¬ r12.toInt = -2 → 0 ≤ r12.toInt) := hc_8.2.2.2.2
        refine ok_let (fun s13 hs13 => ?_)
        have hI_s13_g : InvG s13.g := by rw [← hs13]; exact hI_s8_g
        have hI_s13_k : InvK s13.k := by rw [← hs13]; exact hI_s11_k
        have hF_s13_k : FrK [7, 113, 114] s0.k s13.k := by rw [← hs13]; exact hF_s11_k
        refine ok_ite (fun c_9 => ?_) (fun c_9 => ?_)
        · have c_9 := tn_eq (a := (r12).toInt) (b := (-2)) rfl (by decide) c_9
          exact ok_kX10_allGo_95 s0 k24 M24 hk24 _ _ _ hI_s13_k hF_s13_k hI_s13_g (by omega) (by omega) (by omega) (by omega) (by omega)
        · have c_9 := tn_ne (a := (r12).toInt) (b := (-2)) rfl (by decide) c_9
          refine ok_bindI (ok_kX0_sendBy _ _ _ hI_s13_k (by omega) (by omega) (by omega)) (fun r17 s16 hc_10 => ?_)
          have hI_s16_k : InvK s16.k := hc_10.1
          have hFc_s16_k : FrK [7, 113, 114] s13.k s16.k := hc_10.2.1
          have hF_s16_k : FrK [7, 113, 114] s0.k s16.k := hF_s13_k.trans hFc_s16_k (by decide)
          refine ok_let (fun s18 hs18 => ?_)
          have hI_s18_g : InvG s18.g := by rw [← hs18]; exact hI_s13_g
          have hI_s18_k : InvK s18.k := by rw [← hs18]; exact hI_s16_k
          have hF_s18_k : FrK [7, 113, 114] s0.k s18.k := by rw [← hs18]; exact hF_s16_k
          exact ok_kX10_allGo_95 s0 k24 M24 hk24 _ _ _ hI_s18_k hF_s18_k hI_s18_g (by omega) (by omega) (by omega) (by omega) (by omega)
    · have c_5 := tn_ne (a := (((s.t.f 3) (Int32.toNatClampNeg x2))).toInt) (b := 0) rfl (by decide) c_5
      exact ok_kX10_allGo_95 s0 k24 M24 hk24 _ _ _ hI_s_k hF_s_k hI_s_g (by omega) (by omega) (by omega) (by omega) (by omega)
theorem okL_kX10_allGo_24 (s0 : XS)  : ∀ (n : Nat) (s : XS) (x1 : Int32) (x2 : Int32), (6 - x2.toInt).toNat < n → InvK s.k → FrK [7, 113, 114] s0.k s.k → InvG s.g → 0 ≤ x1.toInt → x1.toInt ≤ 2 → 0 ≤ x2.toInt → x2.toInt ≤ 6 → Ok (kX10_allGo_24L  n s x1 x2) (Q_kX10_allGo s0) := by
  intro n
  induction n with
  | zero => intro s x1 x2 hn; omega
  | succ n ih =>
    intro s x1 x2 hn hI_s_k hF_s_k hI_s_g h_x1l h_x1u h_x2l h_x2u 
    exact ok_kX10_allGo_24 s0 (kX10_allGo_24L  n) ((6 - x2.toInt).toNat) (fun zs zx1 zx2 g0 g1 g2 g3 g4 g5 g6  hm => ih zs zx1 zx2 (by omega) g0 g1 g2 g3 g4 g5 g6 ) s x1 x2 hI_s_k hF_s_k hI_s_g h_x1l h_x1u h_x2l h_x2u (Nat.le_refl _)
set_option maxHeartbeats 1000000 in
theorem ok_kX10_allGoB (s0 : XS)  (s : XS) (x1 : Int32) (hI_s_k : InvK s.k) (hF_s_k : FrK [7, 113, 114] s0.k s.k) (hI_s_g : InvG s.g)  : Ok (kX10_allGo  s x1) (Q_kX10_allGo s0) := by
  unfold kX10_allGo
  refine ok_ite (fun c_1 => ?_) (fun c_1 => ?_)
  · have c_1 := tn_lt (a := (x1).toInt) (b := 0) rfl (by decide) c_1
    exact ok_some ⟨hI_s_k, hF_s_k, hI_s_g, (ti_rng _).1, (ti_rng _).2⟩
  · have c_1 := tn_nlt (a := (x1).toInt) (b := 0) rfl (by decide) c_1
    refine ok_ite (fun c_2 => ?_) (fun c_2 => ?_)
    · have c_2 := tn_le (a := (x1).toInt) (b := 2) rfl (by decide) c_2
      refine ok_bindP (ok_kX6_copyFrom _  ) (fun s3 hc_3 => ?_)
      refine ok_let (fun s4 hs4 => ?_)
      have hI_s4_g : InvG s4.g := by rw [← hs4]; exact hI_s_g
      have hI_s4_k : InvK s4.k := by rw [← hs4]; exact hI_s_k
      have hF_s4_k : FrK [7, 113, 114] s0.k s4.k := by rw [← hs4]; exact hF_s_k
      have l_0 : (0 : Int32).toInt = 0 := by decide
      exact okL_kX10_allGo_24 s0  fu _ _ _ (by unfold fu; omega) hI_s4_k hF_s4_k hI_s4_g (by omega) (by omega) (by decide) (by decide) 
    · have c_2 := tn_nle (a := (x1).toInt) (b := 2) rfl (by decide) c_2
      exact ok_some ⟨hI_s_k, hF_s_k, hI_s_g, (ti_rng _).1, (ti_rng _).2⟩
theorem ok_kX10_allGo (s : XS) (x1 : Int32) (hI_s_k : InvK s.k) (hI_s_g : InvG s.g) : Ok (kX10_allGo s x1) (Q_kX10_allGo s) := ok_kX10_allGoB s s x1 hI_s_k FrK.rfl hI_s_g
abbrev Q_kX10_then (s0 : XS) (y : Int32 × XS) : Prop := InvK y.2.k ∧ FrK [7, 113, 114] s0.k y.2.k ∧ InvG y.2.g ∧ -2147483648 ≤ y.1.toInt ∧ y.1.toInt ≤ 2147483647
set_option maxHeartbeats 1000000 in
theorem ok_kX10_thenB (s0 : XS)  (s : XS) (x1 : Int32) (x2 : Int32) (x3 : Int32) (hI_s_k : InvK s.k) (hF_s_k : FrK [7, 113, 114] s0.k s.k) (hI_s_g : InvG s.g)  : Ok (kX10_then  s x1 x2 x3) (Q_kX10_then s0) := by
  unfold kX10_then
  refine ok_bindI (ok_kX5_hasWave _ _ hI_s_k) (fun r2 s1 hc_1 => ?_)
  have hI_s1 : InvK s1 := hc_1.1
  have hFc_s1 : FrK [] s.k s1 := hc_1.2.1
  have hF_s1 : FrK [7, 113, 114] s0.k s1 := hF_s_k.trans hFc_s1 (by decide)
  have hl_r2 : 0 ≤ r2.toInt := hc_1.2.2.1
  have hu_r2 : r2.toInt ≤ 1 := hc_1.2.2.2.1
  have hx0_r2 : (¬ r2.toInt = 0 → 0 ≤ (x1).toInt ∧ (x1).toInt ≤ 4) := hc_1.2.2.2.2
  refine ok_let (fun s3 hs3 => ?_)
  have hI_s3_g : InvG s3.g := by rw [← hs3]; exact hI_s_g
  have hI_s3_k : InvK s3.k := by rw [← hs3]; exact hI_s1
  have hF_s3_k : FrK [7, 113, 114] s0.k s3.k := by rw [← hs3]; exact hF_s1
  refine ok_ite (fun c_2 => ?_) (fun c_2 => ?_)
  · have c_2 := tn_eq (a := (r2).toInt) (b := 0) rfl (by decide) c_2
    exact ok_some ⟨hI_s3_k, hF_s3_k, hI_s3_g, (ti_rng _).1, (ti_rng _).2⟩
  · have c_2 := tn_ne (a := (r2).toInt) (b := 0) rfl (by decide) c_2
    refine ok_ite (fun c_3 => ?_) (fun c_3 => ?_)
    · have c_3 := tn_lt (a := (x2).toInt) (b := 0) rfl (by decide) c_3
      exact ok_some ⟨hI_s3_k, hF_s3_k, hI_s3_g, (ti_rng _).1, (ti_rng _).2⟩
    · have c_3 := tn_nlt (a := (x2).toInt) (b := 0) rfl (by decide) c_3
      refine ok_ite (fun c_4 => ?_) (fun c_4 => ?_)
      · have c_4 := tn_le (a := (x2).toInt) (b := 40) rfl (by decide) c_4
        refine ok_bindP (ok_kX6_copyFrom _  ) (fun s8 hc_5 => ?_)
        refine ok_let (fun s9 hs9 => ?_)
        have hI_s9_g : InvG s9.g := by rw [← hs9]; exact hI_s3_g
        have hI_s9_k : InvK s9.k := by rw [← hs9]; exact hI_s3_k
        have hF_s9_k : FrK [7, 113, 114] s0.k s9.k := by rw [← hs9]; exact hF_s3_k
        refine ok_bindP (ok_kX0_passYears _ _ hI_s9_k (by omega) (by omega)) (fun s11 hc_6 => ?_)
        have hI_s11_k : InvK s11.k := hc_6.1
        have hFc_s11_k : FrK [7, 113, 114] s9.k s11.k := hc_6.2
        have hF_s11_k : FrK [7, 113, 114] s0.k s11.k := hF_s9_k.trans hFc_s11_k (by decide)
        refine ok_let (fun s12 hs12 => ?_)
        have hI_s12_g : InvG s12.g := by rw [← hs12]; exact hI_s9_g
        have hI_s12_k : InvK s12.k := by rw [← hs12]; exact hI_s11_k
        have hF_s12_k : FrK [7, 113, 114] s0.k s12.k := by rw [← hs12]; exact hF_s11_k
        refine ok_ite (fun c_7 => ?_) (fun c_7 => ?_)
        · have c_7 := tn_eq (a := (x3).toInt) (b := 0) rfl (by decide) c_7
          refine ok_bindI (ok_kX0_mayBe _ _ hI_s12_k (by omega) (by omega)) (fun r16 s15 hc_8 => ?_)
          have hI_s15_k : InvK s15.k := hc_8.1
          have hFc_s15_k : FrK [] s12.k s15.k := hc_8.2.1
          have hF_s15_k : FrK [7, 113, 114] s0.k s15.k := hF_s12_k.trans hFc_s15_k (by decide)
          refine ok_let (fun s17 hs17 => ?_)
          have hI_s17_g : InvG s17.g := by rw [← hs17]; exact hI_s12_g
          have hI_s17_k : InvK s17.k := by rw [← hs17]; exact hI_s15_k
          have hF_s17_k : FrK [7, 113, 114] s0.k s17.k := by rw [← hs17]; exact hF_s15_k
          exact ok_some ⟨hI_s17_k, hF_s17_k, hI_s17_g, (ti_rng _).1, (ti_rng _).2⟩
        · have c_7 := tn_ne (a := (x3).toInt) (b := 0) rfl (by decide) c_7
          refine ok_ite (fun c_9 => ?_) (fun c_9 => ?_)
          · have c_9 := tn_eq (a := (x3).toInt) (b := 1) rfl (by decide) c_9
            refine ok_grd (vpb_ok (by omega) (by omega)) ?_
            exact ok_some ⟨hI_s12_k, hF_s12_k, hI_s12_g, (ti_rng _).1, (ti_rng _).2⟩
          · have c_9 := tn_ne (a := (x3).toInt) (b := 1) rfl (by decide) c_9
            refine ok_ite (fun c_10 => ?_) (fun c_10 => ?_)
            · have c_10 := tn_eq (a := (x3).toInt) (b := 2) rfl (by decide) c_10
              refine ok_bindI (ok_kX0_thereNow _ _ hI_s12_k (by omega) (by omega)) (fun r23 s22 hc_11 => ?_)
              have hI_s22_k : InvK s22.k := hc_11.1
              have hFc_s22_k : FrK [] s12.k s22.k := hc_11.2.1
              have hF_s22_k : FrK [7, 113, 114] s0.k s22.k := hF_s12_k.trans hFc_s22_k (by decide)
              have hl_r23 : 0 ≤ r23.toInt := hc_11.2.2.1
              have hu_r23 : r23.toInt ≤ 5 := hc_11.2.2.2
              refine ok_let (fun s24 hs24 => ?_)
              have hI_s24_g : InvG s24.g := by rw [← hs24]; exact hI_s12_g
              have hI_s24_k : InvK s24.k := by rw [← hs24]; exact hI_s22_k
              have hF_s24_k : FrK [7, 113, 114] s0.k s24.k := by rw [← hs24]; exact hF_s22_k
              exact ok_some ⟨hI_s24_k, hF_s24_k, hI_s24_g, (ti_rng _).1, (ti_rng _).2⟩
            · have c_10 := tn_ne (a := (x3).toInt) (b := 2) rfl (by decide) c_10
              exact ok_some ⟨hI_s12_k, hF_s12_k, hI_s12_g, (ti_rng _).1, (ti_rng _).2⟩
      · have c_4 := tn_nle (a := (x2).toInt) (b := 40) rfl (by decide) c_4
        exact ok_some ⟨hI_s3_k, hF_s3_k, hI_s3_g, (ti_rng _).1, (ti_rng _).2⟩
theorem ok_kX10_then (s : XS) (x1 : Int32) (x2 : Int32) (x3 : Int32) (hI_s_k : InvK s.k) (hI_s_g : InvG s.g) : Ok (kX10_then s x1 x2 x3) (Q_kX10_then s) := ok_kX10_thenB s s x1 x2 x3 hI_s_k FrK.rfl hI_s_g
abbrev Q_kX10_next (s0 : XS) (y : Int32 × XS) : Prop := InvK y.2.k ∧ FrK [7, 113, 114] s0.k y.2.k ∧ InvG y.2.g ∧ -2 ≤ y.1.toInt ∧ y.1.toInt ≤ 40
set_option maxHeartbeats 1000000 in
theorem ok_kX10_next_26 (s0 : XS) (k26 : XS → Int32 → Int32 → Option (Int32 × XS)) (M26 : Nat) (hk26 : ∀ (s : XS) (x1 : Int32) (x2 : Int32), InvK s.k → FrK [7, 113, 114] s0.k s.k → InvG s.g → 0 ≤ x1.toInt → x1.toInt ≤ 4 → 1 ≤ x2.toInt → x2.toInt ≤ 41 → (41 - x2.toInt).toNat < M26 → Ok (k26 s x1 x2) (Q_kX10_next s0)) (s : XS) (x1 : Int32) (x2 : Int32) (hI_s_k : InvK s.k) (hF_s_k : FrK [7, 113, 114] s0.k s.k) (hI_s_g : InvG s.g) (h_x1l : 0 ≤ x1.toInt) (h_x1u : x1.toInt ≤ 4) (h_x2l : 1 ≤ x2.toInt) (h_x2u : x2.toInt ≤ 41) (hM26 : (41 - x2.toInt).toNat ≤ M26) : Ok (kX10_next_26 k26 s x1 x2) (Q_kX10_next s0) := by
  unfold kX10_next_26
  refine ok_ite (fun c_1 => ?_) (fun c_1 => ?_)
  · have c_1 := tn_lt (a := 40) (b := (x2).toInt) (by decide) rfl c_1
    exact ok_some ⟨hI_s_k, hF_s_k, hI_s_g, by show -2 ≤ ((-2) : Int32).toInt; decide, by show ((-2) : Int32).toInt ≤ 40; decide⟩
  · have c_1 := tn_nlt (a := 40) (b := (x2).toInt) (by decide) rfl c_1
    refine ok_bindP (ok_kX0_passYears _ _ hI_s_k (by decide) (by decide)) (fun s2 hc_2 => ?_)
    have hI_s2_k : InvK s2.k := hc_2.1
    have hFc_s2_k : FrK [7, 113, 114] s.k s2.k := hc_2.2
    have hF_s2_k : FrK [7, 113, 114] s0.k s2.k := hF_s_k.trans hFc_s2_k (by decide)
    refine ok_let (fun s3 hs3 => ?_)
    have hI_s3_g : InvG s3.g := by rw [← hs3]; exact hI_s_g
    have hI_s3_k : InvK s3.k := by rw [← hs3]; exact hI_s2_k
    have hF_s3_k : FrK [7, 113, 114] s0.k s3.k := by rw [← hs3]; exact hF_s2_k
    refine ok_grd (vpb_ok (by omega) (by omega)) ?_
    refine ok_grd (vpb_ok (by omega) (by omega)) ?_
    refine ok_ite (fun c_3 => ?_) (fun c_3 => ?_)
    · have c_3 := tn_eq (a := (((s3.t.f 2) (Int32.toNatClampNeg x1))).toInt) (b := (((s3.n.f 2) (Int32.toNatClampNeg x1))).toInt) rfl rfl c_3
      have a_4 : ((x2 + 1)).toInt = (x2).toInt + 1 := tn_add rfl (by decide) (by omega) (by omega)
      exact hk26 _ _ _ hI_s3_k hF_s3_k hI_s3_g (by omega) (by omega) (by omega) (by omega) (by omega)
    · have c_3 := tn_ne (a := (((s3.t.f 2) (Int32.toNatClampNeg x1))).toInt) (b := (((s3.n.f 2) (Int32.toNatClampNeg x1))).toInt) rfl rfl c_3
      exact ok_some ⟨hI_s3_k, hF_s3_k, hI_s3_g, by show -2 ≤ (x2).toInt; omega, by show (x2).toInt ≤ 40; omega⟩
theorem okL_kX10_next_26 (s0 : XS)  : ∀ (n : Nat) (s : XS) (x1 : Int32) (x2 : Int32), (41 - x2.toInt).toNat < n → InvK s.k → FrK [7, 113, 114] s0.k s.k → InvG s.g → 0 ≤ x1.toInt → x1.toInt ≤ 4 → 1 ≤ x2.toInt → x2.toInt ≤ 41 → Ok (kX10_next_26L  n s x1 x2) (Q_kX10_next s0) := by
  intro n
  induction n with
  | zero => intro s x1 x2 hn; omega
  | succ n ih =>
    intro s x1 x2 hn hI_s_k hF_s_k hI_s_g h_x1l h_x1u h_x2l h_x2u 
    exact ok_kX10_next_26 s0 (kX10_next_26L  n) ((41 - x2.toInt).toNat) (fun zs zx1 zx2 g0 g1 g2 g3 g4 g5 g6  hm => ih zs zx1 zx2 (by omega) g0 g1 g2 g3 g4 g5 g6 ) s x1 x2 hI_s_k hF_s_k hI_s_g h_x1l h_x1u h_x2l h_x2u (Nat.le_refl _)
set_option maxHeartbeats 1000000 in
theorem ok_kX10_nextB (s0 : XS)  (s : XS) (x1 : Int32) (hI_s_k : InvK s.k) (hF_s_k : FrK [7, 113, 114] s0.k s.k) (hI_s_g : InvG s.g)  : Ok (kX10_next  s x1) (Q_kX10_next s0) := by
  unfold kX10_next
  refine ok_bindI (ok_kX5_hasWave _ _ hI_s_k) (fun r2 s1 hc_1 => ?_)
  have hI_s1 : InvK s1 := hc_1.1
  have hFc_s1 : FrK [] s.k s1 := hc_1.2.1
  have hF_s1 : FrK [7, 113, 114] s0.k s1 := hF_s_k.trans hFc_s1 (by decide)
  have hl_r2 : 0 ≤ r2.toInt := hc_1.2.2.1
  have hu_r2 : r2.toInt ≤ 1 := hc_1.2.2.2.1
  have hx0_r2 : (¬ r2.toInt = 0 → 0 ≤ (x1).toInt ∧ (x1).toInt ≤ 4) := hc_1.2.2.2.2
  refine ok_let (fun s3 hs3 => ?_)
  have hI_s3_g : InvG s3.g := by rw [← hs3]; exact hI_s_g
  have hI_s3_k : InvK s3.k := by rw [← hs3]; exact hI_s1
  have hF_s3_k : FrK [7, 113, 114] s0.k s3.k := by rw [← hs3]; exact hF_s1
  refine ok_ite (fun c_2 => ?_) (fun c_2 => ?_)
  · have c_2 := tn_eq (a := (r2).toInt) (b := 0) rfl (by decide) c_2
    exact ok_some ⟨hI_s3_k, hF_s3_k, hI_s3_g, by show -2 ≤ ((-1) : Int32).toInt; decide, by show ((-1) : Int32).toInt ≤ 40; decide⟩
  · have c_2 := tn_ne (a := (r2).toInt) (b := 0) rfl (by decide) c_2
    refine ok_bindP (ok_kX6_copyFrom _  ) (fun s6 hc_3 => ?_)
    refine ok_let (fun s7 hs7 => ?_)
    have hI_s7_g : InvG s7.g := by rw [← hs7]; exact hI_s3_g
    have hI_s7_k : InvK s7.k := by rw [← hs7]; exact hI_s3_k
    have hF_s7_k : FrK [7, 113, 114] s0.k s7.k := by rw [← hs7]; exact hF_s3_k
    have l_1 : (1 : Int32).toInt = 1 := by decide
    exact okL_kX10_next_26 s0  fu _ _ _ (by unfold fu; omega) hI_s7_k hF_s7_k hI_s7_g (by omega) (by omega) (by decide) (by decide) 
theorem ok_kX10_next (s : XS) (x1 : Int32) (hI_s_k : InvK s.k) (hI_s_g : InvG s.g) : Ok (kX10_next s x1) (Q_kX10_next s) := ok_kX10_nextB s s x1 hI_s_k FrK.rfl hI_s_g
abbrev Q_kX10_count (s0 : XS) (y : Int32 × XS) : Prop := InvK y.2.k ∧ FrK [7, 113, 114] s0.k y.2.k ∧ InvG y.2.g ∧ -2147483648 ≤ y.1.toInt ∧ y.1.toInt ≤ 2147483647
set_option maxHeartbeats 1000000 in
theorem ok_kX10_countB (s0 : XS)  (s : XS) (x1 : Int32) (hI_s_k : InvK s.k) (hF_s_k : FrK [7, 113, 114] s0.k s.k) (hI_s_g : InvG s.g)  : Ok (kX10_count  s x1) (Q_kX10_count s0) := by
  unfold kX10_count
  refine ok_ite (fun c_1 => ?_) (fun c_1 => ?_)
  · have c_1 := tn_eq (a := (x1).toInt) (b := 0) rfl (by decide) c_1
    have a_2 : 0 ≤ (s.k.v 1).toInt ∧ (s.k.v 1).toInt ≤ 5 := hI_s_k.1 1
    exact ok_some ⟨hI_s_k, hF_s_k, hI_s_g, (ti_rng _).1, (ti_rng _).2⟩
  · have c_1 := tn_ne (a := (x1).toInt) (b := 0) rfl (by decide) c_1
    refine ok_ite (fun c_3 => ?_) (fun c_3 => ?_)
    · have c_3 := tn_eq (a := (x1).toInt) (b := 1) rfl (by decide) c_3
      have a_4 : 0 ≤ (s.k.v 2).toInt ∧ (s.k.v 2).toInt ≤ 6 := hI_s_k.1 2
      exact ok_some ⟨hI_s_k, hF_s_k, hI_s_g, (ti_rng _).1, (ti_rng _).2⟩
    · have c_3 := tn_ne (a := (x1).toInt) (b := 1) rfl (by decide) c_3
      refine ok_ite (fun c_5 => ?_) (fun c_5 => ?_)
      · have c_5 := tn_eq (a := (x1).toInt) (b := 2) rfl (by decide) c_5
        exact ok_some ⟨hI_s_k, hF_s_k, hI_s_g, (ti_rng _).1, (ti_rng _).2⟩
      · have c_5 := tn_ne (a := (x1).toInt) (b := 2) rfl (by decide) c_5
        refine ok_ite (fun c_6 => ?_) (fun c_6 => ?_)
        · have c_6 := tn_eq (a := (x1).toInt) (b := 3) rfl (by decide) c_6
          exact ok_some ⟨hI_s_k, hF_s_k, hI_s_g, (ti_rng _).1, (ti_rng _).2⟩
        · have c_6 := tn_ne (a := (x1).toInt) (b := 3) rfl (by decide) c_6
          refine ok_ite (fun c_7 => ?_) (fun c_7 => ?_)
          · have c_7 := tn_eq (a := (x1).toInt) (b := 4) rfl (by decide) c_7
            refine ok_bindI (ok_kX10_partiesThatAre _ _ hI_s_k hI_s_g (by decide) (by decide)) (fun r7 s6 hc_8 => ?_)
            have hI_s6_k : InvK s6.k := hc_8.1
            have hFc_s6_k : FrK [] s.k s6.k := hc_8.2.1
            have hF_s6_k : FrK [7, 113, 114] s0.k s6.k := hF_s_k.trans hFc_s6_k (by decide)
            have hI_s6_g : InvG s6.g := hc_8.2.2.1
            exact ok_some ⟨hI_s6_k, hF_s6_k, hI_s6_g, (ti_rng _).1, (ti_rng _).2⟩
          · have c_7 := tn_ne (a := (x1).toInt) (b := 4) rfl (by decide) c_7
            refine ok_ite (fun c_9 => ?_) (fun c_9 => ?_)
            · have c_9 := tn_eq (a := (x1).toInt) (b := 5) rfl (by decide) c_9
              refine ok_bindI (ok_kX10_partiesThatAre _ _ hI_s_k hI_s_g (by decide) (by decide)) (fun r10 s9 hc_10 => ?_)
              have hI_s9_k : InvK s9.k := hc_10.1
              have hFc_s9_k : FrK [] s.k s9.k := hc_10.2.1
              have hF_s9_k : FrK [7, 113, 114] s0.k s9.k := hF_s_k.trans hFc_s9_k (by decide)
              have hI_s9_g : InvG s9.g := hc_10.2.2.1
              exact ok_some ⟨hI_s9_k, hF_s9_k, hI_s9_g, (ti_rng _).1, (ti_rng _).2⟩
            · have c_9 := tn_ne (a := (x1).toInt) (b := 5) rfl (by decide) c_9
              refine ok_ite (fun c_11 => ?_) (fun c_11 => ?_)
              · have c_11 := tn_eq (a := (x1).toInt) (b := 6) rfl (by decide) c_11
                refine ok_bindI (ok_kX10_partiesThatAre _ _ hI_s_k hI_s_g (by decide) (by decide)) (fun r13 s12 hc_12 => ?_)
                have hI_s12_k : InvK s12.k := hc_12.1
                have hFc_s12_k : FrK [] s.k s12.k := hc_12.2.1
                have hF_s12_k : FrK [7, 113, 114] s0.k s12.k := hF_s_k.trans hFc_s12_k (by decide)
                have hI_s12_g : InvG s12.g := hc_12.2.2.1
                exact ok_some ⟨hI_s12_k, hF_s12_k, hI_s12_g, (ti_rng _).1, (ti_rng _).2⟩
              · have c_11 := tn_ne (a := (x1).toInt) (b := 6) rfl (by decide) c_11
                refine ok_ite (fun c_13 => ?_) (fun c_13 => ?_)
                · have c_13 := tn_eq (a := (x1).toInt) (b := 7) rfl (by decide) c_13
                  refine ok_bindI (ok_kX10_sumOf_6 _  ) (fun r16 s15 hc_14 => ?_)
                  refine ok_let (fun s17 hs17 => ?_)
                  have hI_s17_k : InvK s17.k := by rw [← hs17]; exact hI_s_k
                  have hF_s17_k : FrK [7, 113, 114] s0.k s17.k := by rw [← hs17]; exact hF_s_k
                  have hI_s17_g : InvG s17.g := by rw [← hs17]; exact hI_s_g
                  exact ok_some ⟨hI_s17_k, hF_s17_k, hI_s17_g, (ti_rng _).1, (ti_rng _).2⟩
                · have c_13 := tn_ne (a := (x1).toInt) (b := 7) rfl (by decide) c_13
                  refine ok_ite (fun c_15 => ?_) (fun c_15 => ?_)
                  · have c_15 := tn_eq (a := (x1).toInt) (b := 8) rfl (by decide) c_15
                    have a_16 : 0 ≤ (s.k.v 0).toInt ∧ (s.k.v 0).toInt ≤ 2000 := hI_s_k.1 0
                    exact ok_some ⟨hI_s_k, hF_s_k, hI_s_g, (ti_rng _).1, (ti_rng _).2⟩
                  · have c_15 := tn_ne (a := (x1).toInt) (b := 8) rfl (by decide) c_15
                    refine ok_ite (fun c_17 => ?_) (fun c_17 => ?_)
                    · have c_17 := tn_eq (a := (x1).toInt) (b := 9) rfl (by decide) c_17
                      have a_18 : 0 ≤ (s.g.v 4).toInt ∧ (s.g.v 4).toInt ≤ 40 := hI_s_g.1 4
                      exact ok_some ⟨hI_s_k, hF_s_k, hI_s_g, (ti_rng _).1, (ti_rng _).2⟩
                    · have c_17 := tn_ne (a := (x1).toInt) (b := 9) rfl (by decide) c_17
                      refine ok_ite (fun c_19 => ?_) (fun c_19 => ?_)
                      · have c_19 := tn_eq (a := (x1).toInt) (b := 10) rfl (by decide) c_19
                        have a_20 : 0 ≤ (s.k.v 21).toInt ∧ (s.k.v 21).toInt ≤ 20 := hI_s_k.1 21
                        exact ok_some ⟨hI_s_k, hF_s_k, hI_s_g, (ti_rng _).1, (ti_rng _).2⟩
                      · have c_19 := tn_ne (a := (x1).toInt) (b := 10) rfl (by decide) c_19
                        refine ok_ite (fun c_21 => ?_) (fun c_21 => ?_)
                        · have c_21 := tn_eq (a := (x1).toInt) (b := 11) rfl (by decide) c_21
                          refine ok_bindI (ok_kX3_slotsHeld _  hI_s_g) (fun r24 s23 hc_22 => ?_)
                          have hI_s23 : InvG s23 := hc_22.1
                          refine ok_let (fun s25 hs25 => ?_)
                          have hI_s25_g : InvG s25.g := by rw [← hs25]; exact hI_s23
                          have hI_s25_k : InvK s25.k := by rw [← hs25]; exact hI_s_k
                          have hF_s25_k : FrK [7, 113, 114] s0.k s25.k := by rw [← hs25]; exact hF_s_k
                          exact ok_some ⟨hI_s25_k, hF_s25_k, hI_s25_g, (ti_rng _).1, (ti_rng _).2⟩
                        · have c_21 := tn_ne (a := (x1).toInt) (b := 11) rfl (by decide) c_21
                          refine ok_ite (fun c_23 => ?_) (fun c_23 => ?_)
                          · have c_23 := tn_eq (a := (x1).toInt) (b := 12) rfl (by decide) c_23
                            refine ok_bindI (ok_kX10_buoysLying _  hI_s_k hI_s_g) (fun r29 s28 hc_24 => ?_)
                            have hI_s28_k : InvK s28.k := hc_24.1
                            have hFc_s28_k : FrK [] s.k s28.k := hc_24.2.1
                            have hF_s28_k : FrK [7, 113, 114] s0.k s28.k := hF_s_k.trans hFc_s28_k (by decide)
                            have hI_s28_g : InvG s28.g := hc_24.2.2.1
                            exact ok_some ⟨hI_s28_k, hF_s28_k, hI_s28_g, (ti_rng _).1, (ti_rng _).2⟩
                          · have c_23 := tn_ne (a := (x1).toInt) (b := 12) rfl (by decide) c_23
                            refine ok_ite (fun c_25 => ?_) (fun c_25 => ?_)
                            · have c_25 := tn_eq (a := (x1).toInt) (b := 13) rfl (by decide) c_25
                              refine ok_bindI (ok_kX10_wavesFound _  hI_s_k hI_s_g) (fun r32 s31 hc_26 => ?_)
                              have hI_s31_k : InvK s31.k := hc_26.1
                              have hFc_s31_k : FrK [] s.k s31.k := hc_26.2.1
                              have hF_s31_k : FrK [7, 113, 114] s0.k s31.k := hF_s_k.trans hFc_s31_k (by decide)
                              have hI_s31_g : InvG s31.g := hc_26.2.2.1
                              exact ok_some ⟨hI_s31_k, hF_s31_k, hI_s31_g, (ti_rng _).1, (ti_rng _).2⟩
                            · have c_25 := tn_ne (a := (x1).toInt) (b := 13) rfl (by decide) c_25
                              refine ok_ite (fun c_27 => ?_) (fun c_27 => ?_)
                              · have c_27 := tn_eq (a := (x1).toInt) (b := 14) rfl (by decide) c_27
                                exact ok_some ⟨hI_s_k, hF_s_k, hI_s_g, (ti_rng _).1, (ti_rng _).2⟩
                              · have c_27 := tn_ne (a := (x1).toInt) (b := 14) rfl (by decide) c_27
                                refine ok_ite (fun c_28 => ?_) (fun c_28 => ?_)
                                · have c_28 := tn_eq (a := (x1).toInt) (b := 15) rfl (by decide) c_28
                                  refine ok_bindI (ok_kX0_guessThere _ _ hI_s_k) (fun r36 s35 hc_29 => ?_)
                                  have hI_s35_k : InvK s35.k := hc_29.1
                                  have hFc_s35_k : FrK [] s.k s35.k := hc_29.2.1
                                  have hF_s35_k : FrK [7, 113, 114] s0.k s35.k := hF_s_k.trans hFc_s35_k (by decide)
                                  refine ok_let (fun s37 hs37 => ?_)
                                  have hI_s37_g : InvG s37.g := by rw [← hs37]; exact hI_s_g
                                  have hI_s37_k : InvK s37.k := by rw [← hs37]; exact hI_s35_k
                                  have hF_s37_k : FrK [7, 113, 114] s0.k s37.k := by rw [← hs37]; exact hF_s35_k
                                  exact ok_some ⟨hI_s37_k, hF_s37_k, hI_s37_g, (ti_rng _).1, (ti_rng _).2⟩
                                · have c_28 := tn_ne (a := (x1).toInt) (b := 15) rfl (by decide) c_28
                                  refine ok_ite (fun c_30 => ?_) (fun c_30 => ?_)
                                  · have c_30 := tn_eq (a := (x1).toInt) (b := 16) rfl (by decide) c_30
                                    refine ok_bindI (ok_kX10_sumOf_5 _  ) (fun r41 s40 hc_31 => ?_)
                                    refine ok_let (fun s42 hs42 => ?_)
                                    have hI_s42_k : InvK s42.k := by rw [← hs42]; exact hI_s_k
                                    have hF_s42_k : FrK [7, 113, 114] s0.k s42.k := by rw [← hs42]; exact hF_s_k
                                    have hI_s42_g : InvG s42.g := by rw [← hs42]; exact hI_s_g
                                    exact ok_some ⟨hI_s42_k, hF_s42_k, hI_s42_g, (ti_rng _).1, (ti_rng _).2⟩
                                  · have c_30 := tn_ne (a := (x1).toInt) (b := 16) rfl (by decide) c_30
                                    refine ok_ite (fun c_32 => ?_) (fun c_32 => ?_)
                                    · have c_32 := tn_eq (a := (x1).toInt) (b := 17) rfl (by decide) c_32
                                      refine ok_bindI (ok_kX10_wavesWithNothing _  hI_s_k hI_s_g) (fun r46 s45 hc_33 => ?_)
                                      have hI_s45_k : InvK s45.k := hc_33.1
                                      have hFc_s45_k : FrK [] s.k s45.k := hc_33.2.1
                                      have hF_s45_k : FrK [7, 113, 114] s0.k s45.k := hF_s_k.trans hFc_s45_k (by decide)
                                      have hI_s45_g : InvG s45.g := hc_33.2.2.1
                                      exact ok_some ⟨hI_s45_k, hF_s45_k, hI_s45_g, (ti_rng _).1, (ti_rng _).2⟩
                                    · have c_32 := tn_ne (a := (x1).toInt) (b := 17) rfl (by decide) c_32
                                      refine ok_ite (fun c_34 => ?_) (fun c_34 => ?_)
                                      · have c_34 := tn_eq (a := (x1).toInt) (b := 18) rfl (by decide) c_34
                                        refine ok_bindI (ok_kX10_faresOfAllHere _  hI_s_k hI_s_g) (fun r49 s48 hc_35 => ?_)
                                        have hI_s48_k : InvK s48.k := hc_35.1
                                        have hFc_s48_k : FrK [7, 113, 114] s.k s48.k := hc_35.2.1
                                        have hF_s48_k : FrK [7, 113, 114] s0.k s48.k := hF_s_k.trans hFc_s48_k (by decide)
                                        have hI_s48_g : InvG s48.g := hc_35.2.2.1
                                        exact ok_some ⟨hI_s48_k, hF_s48_k, hI_s48_g, (ti_rng _).1, (ti_rng _).2⟩
                                      · have c_34 := tn_ne (a := (x1).toInt) (b := 18) rfl (by decide) c_34
                                        exact ok_some ⟨hI_s_k, hF_s_k, hI_s_g, (ti_rng _).1, (ti_rng _).2⟩
theorem ok_kX10_count (s : XS) (x1 : Int32) (hI_s_k : InvK s.k) (hI_s_g : InvG s.g) : Ok (kX10_count s x1) (Q_kX10_count s) := ok_kX10_countB s s x1 hI_s_k FrK.rfl hI_s_g
abbrev Q_kX4_readLaw (s0 : KS) (y : KS) : Prop := InvK y ∧ FrK [12, 13, 15, 16, 17, 122, 123, 124, 125] s0 y
set_option maxHeartbeats 1000000 in
theorem ok_kX4_readLaw_77 (s0 : KS)  (s : KS) (hI_s : InvK s) (hF_s : FrK [12, 13, 15, 16, 17, 122, 123, 124, 125] s0 s)  : Ok (kX4_readLaw_77  s) (Q_kX4_readLaw s0) := by
  unfold kX4_readLaw_77
  refine ok_bindP (ok_kX4_readPart _ _ hI_s (by decide) (by decide)) (fun s1 hc_1 => ?_)
  have hI_s1 : InvK s1 := hc_1.1
  have hFc_s1 : FrK [12, 15, 16, 17, 122, 123, 125] s s1 := hc_1.2
  have hF_s1 : FrK [12, 13, 15, 16, 17, 122, 123, 124, 125] s0 s1 := hF_s.trans hFc_s1 (by decide)
  exact ok_some ⟨hI_s1, hF_s1⟩
set_option maxHeartbeats 1000000 in
theorem ok_kX4_readLaw_44 (s0 : KS) (k19 : KS → Int32 → Option (KS)) (M19 : Nat) (hk19 : ∀ (s : KS) (x2 : Int32), InvK s → FrK [12, 13, 15, 16, 17, 122, 123, 124, 125] s0 s → 0 ≤ x2.toInt → x2.toInt ≤ 5 → (5 - x2.toInt).toNat < M19 → Ok (k19 s x2) (Q_kX4_readLaw s0)) (s : KS) (x2 : Int32) (hI_s : InvK s) (hF_s : FrK [12, 13, 15, 16, 17, 122, 123, 124, 125] s0 s) (h_x2l : 0 ≤ x2.toInt) (h_x2u : x2.toInt ≤ 4) (hM19 : (5 - x2.toInt).toNat ≤ M19) : Ok (kX4_readLaw_44 k19 s x2) (Q_kX4_readLaw s0) := by
  unfold kX4_readLaw_44
  refine ok_bindP (ok_kX4_take _ _ hI_s) (fun s1 hc_1 => ?_)
  have hI_s1 : InvK s1 := hc_1.1
  have hFc_s1 : FrK [15, 16, 17] s s1 := hc_1.2
  have hF_s1 : FrK [12, 13, 15, 16, 17, 122, 123, 124, 125] s0 s1 := hF_s.trans hFc_s1 (by decide)
  refine ok_bindP (ok_kX4_readPart _ _ hI_s1 (by decide) (by decide)) (fun s2 hc_2 => ?_)
  have hI_s2 : InvK s2 := hc_2.1
  have hFc_s2 : FrK [12, 15, 16, 17, 122, 123, 125] s1 s2 := hc_2.2
  have hF_s2 : FrK [12, 13, 15, 16, 17, 122, 123, 124, 125] s0 s2 := hF_s1.trans hFc_s2 (by decide)
  refine ok_bindP (ok_kX4_readPart _ _ hI_s2 (by decide) (by decide)) (fun s3 hc_3 => ?_)
  have hI_s3 : InvK s3 := hc_3.1
  have hFc_s3 : FrK [12, 15, 16, 17, 122, 123, 125] s2 s3 := hc_3.2
  have hF_s3 : FrK [12, 13, 15, 16, 17, 122, 123, 124, 125] s0 s3 := hF_s2.trans hFc_s3 (by decide)
  refine ok_bindP (ok_kX4_readPart _ _ hI_s3 (by decide) (by decide)) (fun s4 hc_4 => ?_)
  have hI_s4 : InvK s4 := hc_4.1
  have hFc_s4 : FrK [12, 15, 16, 17, 122, 123, 125] s3 s4 := hc_4.2
  have hF_s4 : FrK [12, 13, 15, 16, 17, 122, 123, 124, 125] s0 s4 := hF_s3.trans hFc_s4 (by decide)
  have a_5 : ((x2 + 1)).toInt = (x2).toInt + 1 := tn_add rfl (by decide) (by omega) (by omega)
  exact hk19 _ _ hI_s4 hF_s4 (by omega) (by omega) (by omega)
set_option maxHeartbeats 1000000 in
theorem ok_kX4_readLaw_19 (s0 : KS) (k19 : KS → Int32 → Option (KS)) (M19 : Nat) (hk19 : ∀ (s : KS) (x2 : Int32), InvK s → FrK [12, 13, 15, 16, 17, 122, 123, 124, 125] s0 s → 0 ≤ x2.toInt → x2.toInt ≤ 5 → (5 - x2.toInt).toNat < M19 → Ok (k19 s x2) (Q_kX4_readLaw s0)) (s : KS) (x2 : Int32) (hI_s : InvK s) (hF_s : FrK [12, 13, 15, 16, 17, 122, 123, 124, 125] s0 s) (h_x2l : 0 ≤ x2.toInt) (h_x2u : x2.toInt ≤ 5) (hM19 : (5 - x2.toInt).toNat ≤ M19) : Ok (kX4_readLaw_19 k19 s x2) (Q_kX4_readLaw s0) := by
  unfold kX4_readLaw_19
  refine ok_ite (fun c_1 => ?_) (fun c_1 => ?_)
  · have c_1 := tn_lt (a := 4) (b := (x2).toInt) (by decide) rfl c_1
    exact ok_kX4_readLaw_77 s0  _ hI_s hF_s 
  · have c_1 := tn_nlt (a := 4) (b := (x2).toInt) (by decide) rfl c_1
    refine ok_bindI (ok_kX4_isAt _ _ hI_s) (fun r3 s2 hc_2 => ?_)
    have hI_s2 : InvK s2 := hc_2.1
    have hFc_s2 : FrK [] s s2 := hc_2.2.1
    have hF_s2 : FrK [12, 13, 15, 16, 17, 122, 123, 124, 125] s0 s2 := hF_s.trans hFc_s2 (by decide)
    have hl_r3 : 0 ≤ r3.toInt := hc_2.2.2.1
    have hu_r3 : r3.toInt ≤ 1 := hc_2.2.2.2
    refine ok_ite (fun c_3 => ?_) (fun c_3 => ?_)
    · have c_3 := tn_eq (a := (r3).toInt) (b := 0) rfl (by decide) c_3
      exact ok_kX4_readLaw_77 s0  _ hI_s2 hF_s2 
    · have c_3 := tn_ne (a := (r3).toInt) (b := 0) rfl (by decide) c_3
      refine ok_ite (fun c_4 => ?_) (fun c_4 => ?_)
      · have c_4 := tn_eq (a := (x2).toInt) (b := 4) rfl (by decide) c_4
        refine ok_bindP (ok_kX4_fail _ _ hI_s2 (by decide) (by decide)) (fun s6 hc_5 => ?_)
        have hI_s6 : InvK s6 := hc_5.1
        have hFc_s6 : FrK [16, 17] s2 s6 := hc_5.2
        have hF_s6 : FrK [12, 13, 15, 16, 17, 122, 123, 124, 125] s0 s6 := hF_s2.trans hFc_s6 (by decide)
        exact ok_kX4_readLaw_44 s0 k19 M19 hk19 _ _ hI_s6 hF_s6 (by omega) (by omega) (by omega)
      · have c_4 := tn_ne (a := (x2).toInt) (b := 4) rfl (by decide) c_4
        exact ok_kX4_readLaw_44 s0 k19 M19 hk19 _ _ hI_s2 hF_s2 (by omega) (by omega) (by omega)
theorem okL_kX4_readLaw_19 (s0 : KS)  : ∀ (n : Nat) (s : KS) (x2 : Int32), (5 - x2.toInt).toNat < n → InvK s → FrK [12, 13, 15, 16, 17, 122, 123, 124, 125] s0 s → 0 ≤ x2.toInt → x2.toInt ≤ 5 → Ok (kX4_readLaw_19L  n s x2) (Q_kX4_readLaw s0) := by
  intro n
  induction n with
  | zero => intro s x2 hn; omega
  | succ n ih =>
    intro s x2 hn hI_s hF_s h_x2l h_x2u 
    exact ok_kX4_readLaw_19 s0 (kX4_readLaw_19L  n) ((5 - x2.toInt).toNat) (fun zs zx2 g0 g1 g2 g3  hm => ih zs zx2 (by omega) g0 g1 g2 g3 ) s x2 hI_s hF_s h_x2l h_x2u (Nat.le_refl _)
set_option maxHeartbeats 1000000 in
theorem ok_kX4_readLawB (s0 : KS)  (s : KS) (x1 : Int32) (hI_s : InvK s) (hF_s : FrK [12, 13, 15, 16, 17, 122, 123, 124, 125] s0 s) (h_x1l : 0 ≤ x1.toInt) (h_x1u : x1.toInt ≤ 3)  : Ok (kX4_readLaw  s x1) (Q_kX4_readLaw s0) := by
  unfold kX4_readLaw
  refine ok_bindP (ok_kX4_take _ _ hI_s) (fun s1 hc_1 => ?_)
  have hI_s1 : InvK s1 := hc_1.1
  have hFc_s1 : FrK [15, 16, 17] s s1 := hc_1.2
  have hF_s1 : FrK [12, 13, 15, 16, 17, 122, 123, 124, 125] s0 s1 := hF_s.trans hFc_s1 (by decide)
  refine ok_bindP (ok_kX1_begin _ _ hI_s1 (by omega) (by omega)) (fun s2 hc_2 => ?_)
  have hI_s2 : InvK s2 := hc_2.1
  have hFc_s2 : FrK [13, 124, 125] s1 s2 := hc_2.2
  have hF_s2 : FrK [12, 13, 15, 16, 17, 122, 123, 124, 125] s0 s2 := hF_s1.trans hFc_s2 (by decide)
  have l_0 : (0 : Int32).toInt = 0 := by decide
  exact okL_kX4_readLaw_19 s0  fu _ _ (by unfold fu; omega) hI_s2 hF_s2 (by decide) (by decide) 
theorem ok_kX4_readLaw (s : KS) (x1 : Int32) (hI_s : InvK s) (h_x1l : 0 ≤ x1.toInt) (h_x1u : x1.toInt ≤ 3) : Ok (kX4_readLaw s x1) (Q_kX4_readLaw s) := ok_kX4_readLawB s s x1 hI_s FrK.rfl h_x1l h_x1u
abbrev Q_kX4_readTell (s0 : KS) (y : KS) : Prop := InvK y ∧ FrK [8, 9, 11, 12, 13, 15, 16, 17, 18, 19, 116, 119, 120, 122, 123, 124, 125, 129] s0 y
set_option maxHeartbeats 1000000 in
theorem ok_kX4_readTell_106 (s0 : KS)  (s : KS) (hI_s : InvK s) (hF_s : FrK [8, 9, 11, 12, 13, 15, 16, 17, 18, 19, 116, 119, 120, 122, 123, 124, 125, 129] s0 s)  : Ok (kX4_readTell_106  s) (Q_kX4_readTell s0) := by
  unfold kX4_readTell_106
  refine ok_bindP (ok_kX4_fail _ _ hI_s (by decide) (by decide)) (fun s1 hc_1 => ?_)
  have hI_s1 : InvK s1 := hc_1.1
  have hFc_s1 : FrK [16, 17] s s1 := hc_1.2
  have hF_s1 : FrK [8, 9, 11, 12, 13, 15, 16, 17, 18, 19, 116, 119, 120, 122, 123, 124, 125, 129] s0 s1 := hF_s.trans hFc_s1 (by decide)
  exact ok_some ⟨hI_s1, hF_s1⟩
set_option maxHeartbeats 1000000 in
theorem ok_kX4_readTellB (s0 : KS)  (s : KS) (hI_s : InvK s) (hF_s : FrK [8, 9, 11, 12, 13, 15, 16, 17, 18, 19, 116, 119, 120, 122, 123, 124, 125, 129] s0 s)  : Ok (kX4_readTell  s) (Q_kX4_readTell s0) := by
  unfold kX4_readTell
  have a_1 : 0 ≤ (s.v 15).toInt ∧ (s.v 15).toInt ≤ 400 := hI_s.1 15
  refine ok_grd (vpb_ok (by omega) (by omega)) ?_
  refine ok_ite (fun c_2 => ?_) (fun c_2 => ?_)
  · have c_2 := tn_eq (a := (((s.f 32) (Int32.toNatClampNeg (s.v 15)))).toInt) (b := 256) rfl (by decide) c_2
    refine ok_bindP (ok_kX4_readWave _  hI_s) (fun s16 hc_3 => ?_)
    have hI_s16 : InvK s16 := hc_3.1
    have hFc_s16 : FrK [8, 15, 16, 17, 18, 19, 116] s s16 := hc_3.2
    have hF_s16 : FrK [8, 9, 11, 12, 13, 15, 16, 17, 18, 19, 116, 119, 120, 122, 123, 124, 125, 129] s0 s16 := hF_s.trans hFc_s16 (by decide)
    exact ok_some ⟨hI_s16, hF_s16⟩
  · have c_2 := tn_ne (a := (((s.f 32) (Int32.toNatClampNeg (s.v 15)))).toInt) (b := 256) rfl (by decide) c_2
    refine ok_ite (fun c_4 => ?_) (fun c_4 => ?_)
    · have c_4 := tn_eq (a := (((s.f 32) (Int32.toNatClampNeg (s.v 15)))).toInt) (b := 257) rfl (by decide) c_4
      refine ok_bindP (ok_kX4_readParty _  hI_s) (fun s15 hc_5 => ?_)
      have hI_s15 : InvK s15 := hc_5.1
      have hFc_s15 : FrK [9, 15, 16, 17, 18, 19, 119, 120, 129] s s15 := hc_5.2
      have hF_s15 : FrK [8, 9, 11, 12, 13, 15, 16, 17, 18, 19, 116, 119, 120, 122, 123, 124, 125, 129] s0 s15 := hF_s.trans hFc_s15 (by decide)
      exact ok_some ⟨hI_s15, hF_s15⟩
    · have c_4 := tn_ne (a := (((s.f 32) (Int32.toNatClampNeg (s.v 15)))).toInt) (b := 257) rfl (by decide) c_4
      refine ok_ite (fun c_6 => ?_) (fun c_6 => ?_)
      · have c_6 := tn_eq (a := (((s.f 32) (Int32.toNatClampNeg (s.v 15)))).toInt) (b := 262) rfl (by decide) c_6
        refine ok_bindP (ok_kX4_take _ _ hI_s) (fun s9 hc_7 => ?_)
        have hI_s9 : InvK s9 := hc_7.1
        have hFc_s9 : FrK [15, 16, 17] s s9 := hc_7.2
        have hF_s9 : FrK [8, 9, 11, 12, 13, 15, 16, 17, 18, 19, 116, 119, 120, 122, 123, 124, 125, 129] s0 s9 := hF_s.trans hFc_s9 (by decide)
        refine ok_bindI (ok_kX4_takeInt _ _ hI_s9 (by decide) (by decide)) (fun r11 s10 hc_8 => ?_)
        have hI_s10 : InvK s10 := hc_8.1
        have hFc_s10 : FrK [15, 16, 17, 18, 19] s9 s10 := hc_8.2.1
        have hF_s10 : FrK [8, 9, 11, 12, 13, 15, 16, 17, 18, 19, 116, 119, 120, 122, 123, 124, 125, 129] s0 s10 := hF_s9.trans hFc_s10 (by decide)
        refine ok_let (fun s12 hs12 => ?_)
        have hI_s12 : InvK s12 := by rw [← hs12]; exact hI_s10.svF (k := 11) rfl rfl
        have hF_s12 : FrK [8, 9, 11, 12, 13, 15, 16, 17, 18, 19, 116, 119, 120, 122, 123, 124, 125, 129] s0 s12 := by rw [← hs12]; exact hF_s10.sv (k := 11) (by decide)
        refine ok_bindP (ok_kX4_take _ _ hI_s12) (fun s14 hc_9 => ?_)
        have hI_s14 : InvK s14 := hc_9.1
        have hFc_s14 : FrK [15, 16, 17] s12 s14 := hc_9.2
        have hF_s14 : FrK [8, 9, 11, 12, 13, 15, 16, 17, 18, 19, 116, 119, 120, 122, 123, 124, 125, 129] s0 s14 := hF_s12.trans hFc_s14 (by decide)
        exact ok_some ⟨hI_s14, hF_s14⟩
      · have c_6 := tn_ne (a := (((s.f 32) (Int32.toNatClampNeg (s.v 15)))).toInt) (b := 262) rfl (by decide) c_6
        refine ok_ite (fun c_10 => ?_) (fun c_10 => ?_)
        · have c_10 := tn_lt (a := ((((s.f 32) (Int32.toNatClampNeg (s.v 15))) - 258)).toInt) (b := 0) rfl (by decide) c_10
          exact ok_kX4_readTell_106 s0  _ hI_s hF_s 
        · have c_10 := tn_nlt (a := ((((s.f 32) (Int32.toNatClampNeg (s.v 15))) - 258)).toInt) (b := 0) rfl (by decide) c_10
          refine ok_ite (fun c_11 => ?_) (fun c_11 => ?_)
          · have c_11 := tn_le (a := 4) (b := ((((s.f 32) (Int32.toNatClampNeg (s.v 15))) - 258)).toInt) (by decide) rfl c_11
            exact ok_kX4_readTell_106 s0  _ hI_s hF_s 
          · have c_11 := tn_nle (a := 4) (b := ((((s.f 32) (Int32.toNatClampNeg (s.v 15))) - 258)).toInt) (by decide) rfl c_11
            refine ok_bindP (ok_kX4_take _ _ hI_s) (fun s7 hc_12 => ?_)
            have hI_s7 : InvK s7 := hc_12.1
            have hFc_s7 : FrK [15, 16, 17] s s7 := hc_12.2
            have hF_s7 : FrK [8, 9, 11, 12, 13, 15, 16, 17, 18, 19, 116, 119, 120, 122, 123, 124, 125, 129] s0 s7 := hF_s.trans hFc_s7 (by decide)
            refine ok_bindP (ok_kX4_readLaw _ _ hI_s7 (by omega) (by omega)) (fun s8 hc_13 => ?_)
            have hI_s8 : InvK s8 := hc_13.1
            have hFc_s8 : FrK [12, 13, 15, 16, 17, 122, 123, 124, 125] s7 s8 := hc_13.2
            have hF_s8 : FrK [8, 9, 11, 12, 13, 15, 16, 17, 18, 19, 116, 119, 120, 122, 123, 124, 125, 129] s0 s8 := hF_s7.trans hFc_s8 (by decide)
            exact ok_some ⟨hI_s8, hF_s8⟩
theorem ok_kX4_readTell (s : KS) (hI_s : InvK s) : Ok (kX4_readTell s) (Q_kX4_readTell s) := ok_kX4_readTellB s s hI_s FrK.rfl
abbrev Q_kX4_readTape (s0 : KS) (y : Int32 × KS) : Prop := InvK y.2 ∧ FrK [8, 9, 10, 11, 12, 13, 15, 16, 17, 18, 19, 20, 116, 117, 118, 119, 120, 122, 123, 124, 125, 129, 132, 133, 134] s0 y.2 ∧ -2147483648 ≤ y.1.toInt ∧ y.1.toInt ≤ 2147483647
set_option maxHeartbeats 1000000 in
theorem ok_kX4_readTape_98 (s0 : KS)  (s : KS) (hI_s : InvK s) (hF_s : FrK [8, 9, 10, 11, 12, 13, 15, 16, 17, 18, 19, 20, 116, 117, 118, 119, 120, 122, 123, 124, 125, 129, 132, 133, 134] s0 s)  : Ok (kX4_readTape_98  s) (Q_kX4_readTape s0) := by
  unfold kX4_readTape_98
  refine ok_ite (fun c_1 => ?_) (fun c_1 => ?_)
  · have c_1 := tn_eq (a := ((s.v 16)).toInt) (b := 0) rfl (by decide) c_1
    refine ok_bindP (ok_kX5_addUp _  hI_s) (fun s2 hc_2 => ?_)
    have hI_s2 : InvK s2 := hc_2.1
    have hFc_s2 : FrK [10, 117, 118] s s2 := hc_2.2
    have hF_s2 : FrK [8, 9, 10, 11, 12, 13, 15, 16, 17, 18, 19, 20, 116, 117, 118, 119, 120, 122, 123, 124, 125, 129, 132, 133, 134] s0 s2 := hF_s.trans hFc_s2 (by decide)
    have a_3 : (s2.v 16).toInt = (s.v 16).toInt := congrArg Int32.toInt (hFc_s2.1 16 (by decide))
    exact ok_some ⟨hI_s2, hF_s2, (ti_rng _).1, (ti_rng _).2⟩
  · have c_1 := tn_ne (a := ((s.v 16)).toInt) (b := 0) rfl (by decide) c_1
    exact ok_some ⟨hI_s, hF_s, (ti_rng _).1, (ti_rng _).2⟩
set_option maxHeartbeats 1000000 in
theorem ok_kX4_readTape_75 (s0 : KS)  (s : KS) (hI_s : InvK s) (hF_s : FrK [8, 9, 10, 11, 12, 13, 15, 16, 17, 18, 19, 20, 116, 117, 118, 119, 120, 122, 123, 124, 125, 129, 132, 133, 134] s0 s)  : Ok (kX4_readTape_75  s) (Q_kX4_readTape s0) := by
  unfold kX4_readTape_75
  refine ok_ite (fun c_1 => ?_) (fun c_1 => ?_)
  · have c_1 := tn_eq (a := ((s.v 16)).toInt) (b := 0) rfl (by decide) c_1
    refine ok_let (fun s2 hs2 => ?_)
    have hI_s2 : InvK s2 := by rw [← hs2]; exact hI_s.svF (k := 16) rfl rfl
    have hF_s2 : FrK [8, 9, 10, 11, 12, 13, 15, 16, 17, 18, 19, 20, 116, 117, 118, 119, 120, 122, 123, 124, 125, 129, 132, 133, 134] s0 s2 := by rw [← hs2]; exact hF_s.sv (k := 16) (by decide)
    refine ok_let (fun s4 hs4 => ?_)
    have a_2 : (s2.v 19).toInt = (s.v 19).toInt := congrArg Int32.toInt (show s2.v 19 = s.v 19 by rw [← hs2]; rfl)
    have hI_s4 : InvK s4 := by rw [← hs4]; exact hI_s2.svF (k := 17) rfl rfl
    have hF_s4 : FrK [8, 9, 10, 11, 12, 13, 15, 16, 17, 18, 19, 20, 116, 117, 118, 119, 120, 122, 123, 124, 125, 129, 132, 133, 134] s0 s4 := by rw [← hs4]; exact hF_s2.sv (k := 17) (by decide)
    exact ok_kX4_readTape_98 s0  _ hI_s4 hF_s4 
  · have c_1 := tn_ne (a := ((s.v 16)).toInt) (b := 0) rfl (by decide) c_1
    exact ok_kX4_readTape_98 s0  _ hI_s hF_s 
set_option maxHeartbeats 1000000 in
theorem ok_kX4_readTape_41 (s0 : KS) (k41 : KS → Int32 → Option (Int32 × KS)) (M41 : Nat) (hk41 : ∀ (s : KS) (x1 : Int32), InvK s → FrK [8, 9, 10, 11, 12, 13, 15, 16, 17, 18, 19, 20, 116, 117, 118, 119, 120, 122, 123, 124, 125, 129, 132, 133, 134] s0 s → 0 ≤ x1.toInt → x1.toInt ≤ 401 → (401 - x1.toInt).toNat < M41 → Ok (k41 s x1) (Q_kX4_readTape s0)) (s : KS) (x1 : Int32) (hI_s : InvK s) (hF_s : FrK [8, 9, 10, 11, 12, 13, 15, 16, 17, 18, 19, 20, 116, 117, 118, 119, 120, 122, 123, 124, 125, 129, 132, 133, 134] s0 s) (h_x1l : 0 ≤ x1.toInt) (h_x1u : x1.toInt ≤ 401) (hM41 : (401 - x1.toInt).toNat ≤ M41) : Ok (kX4_readTape_41 k41 s x1) (Q_kX4_readTape s0) := by
  unfold kX4_readTape_41
  refine ok_ite (fun c_1 => ?_) (fun c_1 => ?_)
  · have c_1 := tn_lt (a := 400) (b := (x1).toInt) (by decide) rfl c_1
    exact ok_kX4_readTape_75 s0  _ hI_s hF_s 
  · have c_1 := tn_nlt (a := 400) (b := (x1).toInt) (by decide) rfl c_1
    refine ok_ite (fun c_2 => ?_) (fun c_2 => ?_)
    · have c_2 := tn_eq (a := ((s.v 16)).toInt) (b := 0) rfl (by decide) c_2
      refine ok_bindI (ok_kX4_isAt _ _ hI_s) (fun r4 s3 hc_3 => ?_)
      have hI_s3 : InvK s3 := hc_3.1
      have hFc_s3 : FrK [] s s3 := hc_3.2.1
      have hF_s3 : FrK [8, 9, 10, 11, 12, 13, 15, 16, 17, 18, 19, 20, 116, 117, 118, 119, 120, 122, 123, 124, 125, 129, 132, 133, 134] s0 s3 := hF_s.trans hFc_s3 (by decide)
      have hl_r4 : 0 ≤ r4.toInt := hc_3.2.2.1
      have hu_r4 : r4.toInt ≤ 1 := hc_3.2.2.2
      refine ok_ite (fun c_4 => ?_) (fun c_4 => ?_)
      · have c_4 := tn_eq (a := (r4).toInt) (b := 0) rfl (by decide) c_4
        refine ok_bindP (ok_kX4_readTell _  hI_s3) (fun s6 hc_5 => ?_)
        have hI_s6 : InvK s6 := hc_5.1
        have hFc_s6 : FrK [8, 9, 11, 12, 13, 15, 16, 17, 18, 19, 116, 119, 120, 122, 123, 124, 125, 129] s3 s6 := hc_5.2
        have hF_s6 : FrK [8, 9, 10, 11, 12, 13, 15, 16, 17, 18, 19, 20, 116, 117, 118, 119, 120, 122, 123, 124, 125, 129, 132, 133, 134] s0 s6 := hF_s3.trans hFc_s6 (by decide)
        have a_6 : ((x1 + 1)).toInt = (x1).toInt + 1 := tn_add rfl (by decide) (by omega) (by omega)
        exact hk41 _ _ hI_s6 hF_s6 (by omega) (by omega) (by omega)
      · have c_4 := tn_ne (a := (r4).toInt) (b := 0) rfl (by decide) c_4
        exact ok_kX4_readTape_75 s0  _ hI_s3 hF_s3 
    · have c_2 := tn_ne (a := ((s.v 16)).toInt) (b := 0) rfl (by decide) c_2
      exact ok_kX4_readTape_75 s0  _ hI_s hF_s 
theorem okL_kX4_readTape_41 (s0 : KS)  : ∀ (n : Nat) (s : KS) (x1 : Int32), (401 - x1.toInt).toNat < n → InvK s → FrK [8, 9, 10, 11, 12, 13, 15, 16, 17, 18, 19, 20, 116, 117, 118, 119, 120, 122, 123, 124, 125, 129, 132, 133, 134] s0 s → 0 ≤ x1.toInt → x1.toInt ≤ 401 → Ok (kX4_readTape_41L  n s x1) (Q_kX4_readTape s0) := by
  intro n
  induction n with
  | zero => intro s x1 hn; omega
  | succ n ih =>
    intro s x1 hn hI_s hF_s h_x1l h_x1u 
    exact ok_kX4_readTape_41 s0 (kX4_readTape_41L  n) ((401 - x1.toInt).toNat) (fun zs zx1 g0 g1 g2 g3  hm => ih zs zx1 (by omega) g0 g1 g2 g3 ) s x1 hI_s hF_s h_x1l h_x1u (Nat.le_refl _)
set_option maxHeartbeats 1000000 in
theorem ok_kX4_readTapeB (s0 : KS)  (s : KS) (hI_s : InvK s) (hF_s : FrK [8, 9, 10, 11, 12, 13, 15, 16, 17, 18, 19, 20, 116, 117, 118, 119, 120, 122, 123, 124, 125, 129, 132, 133, 134] s0 s)  : Ok (kX4_readTape  s) (Q_kX4_readTape s0) := by
  unfold kX4_readTape
  refine ok_bindP (ok_kX5_clear _  hI_s) (fun s1 hc_1 => ?_)
  have hI_s1 : InvK s1 := hc_1.1
  have hFc_s1 : FrK [8, 9, 10, 11, 12, 13, 122, 123, 124, 125] s s1 := hc_1.2
  have hF_s1 : FrK [8, 9, 10, 11, 12, 13, 15, 16, 17, 18, 19, 20, 116, 117, 118, 119, 120, 122, 123, 124, 125, 129, 132, 133, 134] s0 s1 := hF_s.trans hFc_s1 (by decide)
  refine ok_let (fun s2 hs2 => ?_)
  have hI_s2 : InvK s2 := by rw [← hs2]; exact hI_s1.sv (k := 15) (show (0 : Int) ≤ (0 : Int32).toInt by decide) (show (0 : Int32).toInt ≤ (400 : Int) by decide)
  have hF_s2 : FrK [8, 9, 10, 11, 12, 13, 15, 16, 17, 18, 19, 20, 116, 117, 118, 119, 120, 122, 123, 124, 125, 129, 132, 133, 134] s0 s2 := by rw [← hs2]; exact hF_s1.sv (k := 15) (by decide)
  refine ok_let (fun s4 hs4 => ?_)
  have hI_s4 : InvK s4 := by rw [← hs4]; exact hI_s2.svF (k := 16) rfl rfl
  have hF_s4 : FrK [8, 9, 10, 11, 12, 13, 15, 16, 17, 18, 19, 20, 116, 117, 118, 119, 120, 122, 123, 124, 125, 129, 132, 133, 134] s0 s4 := by rw [← hs4]; exact hF_s2.sv (k := 16) (by decide)
  refine ok_let (fun s6 hs6 => ?_)
  have hI_s6 : InvK s6 := by rw [← hs6]; exact hI_s4.svF (k := 17) rfl rfl
  have hF_s6 : FrK [8, 9, 10, 11, 12, 13, 15, 16, 17, 18, 19, 20, 116, 117, 118, 119, 120, 122, 123, 124, 125, 129, 132, 133, 134] s0 s6 := by rw [← hs6]; exact hF_s4.sv (k := 17) (by decide)
  refine ok_let (fun s8 hs8 => ?_)
  have hI_s8 : InvK s8 := by rw [← hs8]; exact hI_s6.svF (k := 18) rfl rfl
  have hF_s8 : FrK [8, 9, 10, 11, 12, 13, 15, 16, 17, 18, 19, 20, 116, 117, 118, 119, 120, 122, 123, 124, 125, 129, 132, 133, 134] s0 s8 := by rw [← hs8]; exact hF_s6.sv (k := 18) (by decide)
  refine ok_let (fun s10 hs10 => ?_)
  have hI_s10 : InvK s10 := by rw [← hs10]; exact hI_s8.svF (k := 19) rfl rfl
  have hF_s10 : FrK [8, 9, 10, 11, 12, 13, 15, 16, 17, 18, 19, 20, 116, 117, 118, 119, 120, 122, 123, 124, 125, 129, 132, 133, 134] s0 s10 := by rw [← hs10]; exact hF_s8.sv (k := 19) (by decide)
  refine ok_bindP (ok_kX9_split _  hI_s10) (fun s12 hc_2 => ?_)
  have hI_s12 : InvK s12 := hc_2.1
  have hFc_s12 : FrK [20, 132, 133, 134] s10 s12 := hc_2.2
  have hF_s12 : FrK [8, 9, 10, 11, 12, 13, 15, 16, 17, 18, 19, 20, 116, 117, 118, 119, 120, 122, 123, 124, 125, 129, 132, 133, 134] s0 s12 := hF_s10.trans hFc_s12 (by decide)
  have l_0 : (0 : Int32).toInt = 0 := by decide
  exact okL_kX4_readTape_41 s0  fu _ _ (by unfold fu; omega) hI_s12 hF_s12 (by decide) (by decide) 
theorem ok_kX4_readTape (s : KS) (hI_s : InvK s) : Ok (kX4_readTape s) (Q_kX4_readTape s) := ok_kX4_readTapeB s s hI_s FrK.rfl
abbrev Q_kX10_read (s0 : XS) (y : Int32 × XS) : Prop := InvK y.2.k ∧ FrK [0, 1, 2, 3, 4, 5, 8, 9, 10, 11, 12, 13, 15, 16, 17, 18, 19, 20, 21, 103, 104, 105, 106, 107, 109, 110, 111, 112, 116, 117, 118, 119, 120, 122, 123, 124, 125, 129, 132, 133, 134] s0.k y.2.k ∧ InvG y.2.g ∧ -2147483648 ≤ y.1.toInt ∧ y.1.toInt ≤ 2147483647
set_option maxHeartbeats 1000000 in
theorem ok_kX10_readB (s0 : XS)  (s : XS) (hI_s_k : InvK s.k) (hF_s_k : FrK [0, 1, 2, 3, 4, 5, 8, 9, 10, 11, 12, 13, 15, 16, 17, 18, 19, 20, 21, 103, 104, 105, 106, 107, 109, 110, 111, 112, 116, 117, 118, 119, 120, 122, 123, 124, 125, 129, 132, 133, 134] s0.k s.k) (hI_s_g : InvG s.g)  : Ok (kX10_read  s) (Q_kX10_read s0) := by
  unfold kX10_read
  refine ok_bindI (ok_kX4_readTape _  hI_s_k) (fun r2 s1 hc_1 => ?_)
  have hI_s1 : InvK s1 := hc_1.1
  have hFc_s1 : FrK [8, 9, 10, 11, 12, 13, 15, 16, 17, 18, 19, 20, 116, 117, 118, 119, 120, 122, 123, 124, 125, 129, 132, 133, 134] s.k s1 := hc_1.2.1
  have hF_s1 : FrK [0, 1, 2, 3, 4, 5, 8, 9, 10, 11, 12, 13, 15, 16, 17, 18, 19, 20, 21, 103, 104, 105, 106, 107, 109, 110, 111, 112, 116, 117, 118, 119, 120, 122, 123, 124, 125, 129, 132, 133, 134] s0.k s1 := hF_s_k.trans hFc_s1 (by decide)
  refine ok_let (fun s3 hs3 => ?_)
  have hI_s3_g : InvG s3.g := by rw [← hs3]; exact hI_s_g
  have hI_s3_k : InvK s3.k := by rw [← hs3]; exact hI_s1
  have hF_s3_k : FrK [0, 1, 2, 3, 4, 5, 8, 9, 10, 11, 12, 13, 15, 16, 17, 18, 19, 20, 21, 103, 104, 105, 106, 107, 109, 110, 111, 112, 116, 117, 118, 119, 120, 122, 123, 124, 125, 129, 132, 133, 134] s0.k s3.k := by rw [← hs3]; exact hF_s1
  refine ok_let (fun s5 hs5 => ?_)
  have hI_s5_k : InvK s5.k := by rw [← hs5]; exact hI_s3_k.sv (k := 0) (show (0 : Int) ≤ (0 : Int32).toInt by decide) (show (0 : Int32).toInt ≤ (2000 : Int) by decide)
  have hF_s5_k : FrK [0, 1, 2, 3, 4, 5, 8, 9, 10, 11, 12, 13, 15, 16, 17, 18, 19, 20, 21, 103, 104, 105, 106, 107, 109, 110, 111, 112, 116, 117, 118, 119, 120, 122, 123, 124, 125, 129, 132, 133, 134] s0.k s5.k := by rw [← hs5]; exact hF_s3_k.sv (k := 0) (by decide)
  have hI_s5_g : InvG s5.g := by rw [← hs5]; exact hI_s3_g
  refine ok_ite (fun c_2 => ?_) (fun c_2 => ?_)
  · have c_2 := tn_eq (a := (r2).toInt) (b := 0) rfl (by decide) c_2
    refine ok_bindP (ok_kX5_copyFrom _  hI_s5_k) (fun s8 hc_3 => ?_)
    have hI_s8 : InvK s8 := hc_3.1
    have hFc_s8 : FrK [1, 2, 3, 4, 5, 103, 104, 105, 106, 107, 109, 110, 111, 112] s5.k s8 := hc_3.2
    have hF_s8 : FrK [0, 1, 2, 3, 4, 5, 8, 9, 10, 11, 12, 13, 15, 16, 17, 18, 19, 20, 21, 103, 104, 105, 106, 107, 109, 110, 111, 112, 116, 117, 118, 119, 120, 122, 123, 124, 125, 129, 132, 133, 134] s0.k s8 := hF_s5_k.trans hFc_s8 (by decide)
    refine ok_let (fun s9 hs9 => ?_)
    have hI_s9_g : InvG s9.g := by rw [← hs9]; exact hI_s5_g
    have hI_s9_k : InvK s9.k := by rw [← hs9]; exact hI_s8
    have hF_s9_k : FrK [0, 1, 2, 3, 4, 5, 8, 9, 10, 11, 12, 13, 15, 16, 17, 18, 19, 20, 21, 103, 104, 105, 106, 107, 109, 110, 111, 112, 116, 117, 118, 119, 120, 122, 123, 124, 125, 129, 132, 133, 134] s0.k s9.k := by rw [← hs9]; exact hF_s8
    refine ok_bindP (ok_kX6_startOver _  ) (fun s11 hc_4 => ?_)
    refine ok_let (fun s12 hs12 => ?_)
    have hI_s12_g : InvG s12.g := by rw [← hs12]; exact hI_s9_g
    have hI_s12_k : InvK s12.k := by rw [← hs12]; exact hI_s9_k
    have hF_s12_k : FrK [0, 1, 2, 3, 4, 5, 8, 9, 10, 11, 12, 13, 15, 16, 17, 18, 19, 20, 21, 103, 104, 105, 106, 107, 109, 110, 111, 112, 116, 117, 118, 119, 120, 122, 123, 124, 125, 129, 132, 133, 134] s0.k s12.k := by rw [← hs12]; exact hF_s9_k
    refine ok_bindP (ok_kX3_forgetAll _  hI_s12_g) (fun s14 hc_5 => ?_)
    have hI_s14 : InvG s14 := hc_5
    refine ok_let (fun s15 hs15 => ?_)
    have hI_s15_g : InvG s15.g := by rw [← hs15]; exact hI_s14
    have hI_s15_k : InvK s15.k := by rw [← hs15]; exact hI_s12_k
    have hF_s15_k : FrK [0, 1, 2, 3, 4, 5, 8, 9, 10, 11, 12, 13, 15, 16, 17, 18, 19, 20, 21, 103, 104, 105, 106, 107, 109, 110, 111, 112, 116, 117, 118, 119, 120, 122, 123, 124, 125, 129, 132, 133, 134] s0.k s15.k := by rw [← hs15]; exact hF_s12_k
    refine ok_let (fun s17 hs17 => ?_)
    have hI_s17_k : InvK s17.k := by rw [← hs17]; exact hI_s15_k.sv (k := 21) (show (0 : Int) ≤ (0 : Int32).toInt by decide) (show (0 : Int32).toInt ≤ (20 : Int) by decide)
    have hF_s17_k : FrK [0, 1, 2, 3, 4, 5, 8, 9, 10, 11, 12, 13, 15, 16, 17, 18, 19, 20, 21, 103, 104, 105, 106, 107, 109, 110, 111, 112, 116, 117, 118, 119, 120, 122, 123, 124, 125, 129, 132, 133, 134] s0.k s17.k := by rw [← hs17]; exact hF_s15_k.sv (k := 21) (by decide)
    have hI_s17_g : InvG s17.g := by rw [← hs17]; exact hI_s15_g
    exact ok_some ⟨hI_s17_k, hF_s17_k, hI_s17_g, (ti_rng _).1, (ti_rng _).2⟩
  · have c_2 := tn_ne (a := (r2).toInt) (b := 0) rfl (by decide) c_2
    exact ok_some ⟨hI_s5_k, hF_s5_k, hI_s5_g, (ti_rng _).1, (ti_rng _).2⟩
theorem ok_kX10_read (s : XS) (hI_s_k : InvK s.k) (hI_s_g : InvG s.g) : Ok (kX10_read s) (Q_kX10_read s) := ok_kX10_readB s s hI_s_k FrK.rfl hI_s_g
