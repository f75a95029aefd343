abbrev Q_kX10_fit (s0 : XS) (y : Int32 × XS) : Prop := InvK y.2.k ∧ FrK [144, 145, 146] s0.k y.2.k ∧ InvG y.2.g ∧ -2147483648 ≤ y.1.toInt ∧ y.1.toInt ≤ 2147483647
set_option maxHeartbeats 1000000 in
theorem ok_kX10_fit_50 (s0 : XS)  (s : XS) (t0 : Int32) (t1 : Int32) (hI_s_k : InvK s.k) (hF_s_k : FrK [144, 145, 146] s0.k s.k) (hI_s_g : InvG s.g) (h_t0l : 0 ≤ t0.toInt) (h_t0u : t0.toInt ≤ 1) (h_t1l : 0 ≤ t1.toInt) (h_t1u : t1.toInt ≤ 3)  : Ok (kX10_fit_50  s t0 t1) (Q_kX10_fit s0) := by
  unfold kX10_fit_50
  refine ok_bindI (ok_kX8_fitting _ _ _ hI_s_k (by omega) (by omega) (by omega) (by omega)) (fun r2 s1 hc_1 => ?_)
  have hI_s1 : InvK s1 := hc_1.1
  have hFc_s1 : FrK [146] s.k s1 := hc_1.2.1
  have hF_s1 : FrK [144, 145, 146] s0.k s1 := hF_s_k.trans hFc_s1 (by decide)
  refine ok_let (fun s3 hs3 => ?_)
  have hI_s3_g : InvG s3.g := by rw [← hs3]; exact hI_s_g
  have hI_s3_k : InvK s3.k := by rw [← hs3]; exact hI_s1
  have hF_s3_k : FrK [144, 145, 146] s0.k s3.k := by rw [← hs3]; exact hF_s1
  exact ok_some ⟨hI_s3_k, hF_s3_k, hI_s3_g, (ti_rng _).1, (ti_rng _).2⟩
set_option maxHeartbeats 1000000 in
theorem ok_kX10_fitB (s0 : XS)  (s : XS) (x1 : Int32) (x2 : Int32) (x3 : Int32) (hI_s_k : InvK s.k) (hF_s_k : FrK [144, 145, 146] s0.k s.k) (hI_s_g : InvG s.g)  : Ok (kX10_fit  s x1 x2 x3) (Q_kX10_fit s0) := by
  unfold kX10_fit
  refine ok_bindI (ok_kX8_areSuch _ _ _ hI_s_k) (fun r2 s1 hc_1 => ?_)
  have hI_s1 : InvK s1 := hc_1.1
  have hFc_s1 : FrK [] s.k s1 := hc_1.2.1
  have hF_s1 : FrK [144, 145, 146] s0.k s1 := hF_s_k.trans hFc_s1 (by decide)
  have hl_r2 : 0 ≤ r2.toInt := hc_1.2.2.1
  have hu_r2 : r2.toInt ≤ 1 := hc_1.2.2.2.1
  have hx0_r2 : (¬ r2.toInt = 0 → 0 ≤ (x1).toInt ∧ (x1).toInt ≤ 20 ∧ 0 ≤ (x2).toInt ∧ (x2).toInt ≤ 3) := hc_1.2.2.2.2
  refine ok_let (fun s3 hs3 => ?_)
  have hI_s3_g : InvG s3.g := by rw [← hs3]; exact hI_s_g
  have hI_s3_k : InvK s3.k := by rw [← hs3]; exact hI_s1
  have hF_s3_k : FrK [144, 145, 146] s0.k s3.k := by rw [← hs3]; exact hF_s1
  refine ok_ite (fun c_2 => ?_) (fun c_2 => ?_)
  · have c_2 := tn_eq (a := (r2).toInt) (b := 0) rfl (by decide) c_2
    exact ok_some ⟨hI_s3_k, hF_s3_k, hI_s3_g, (ti_rng _).1, (ti_rng _).2⟩
  · have c_2 := tn_ne (a := (r2).toInt) (b := 0) rfl (by decide) c_2
    refine ok_ite (fun c_3 => ?_) (fun c_3 => ?_)
    · have c_3 := tn_lt (a := (x3).toInt) (b := 0) rfl (by decide) c_3
      exact ok_some ⟨hI_s3_k, hF_s3_k, hI_s3_g, (ti_rng _).1, (ti_rng _).2⟩
    · have c_3 := tn_nlt (a := (x3).toInt) (b := 0) rfl (by decide) c_3
      refine ok_ite (fun c_4 => ?_) (fun c_4 => ?_)
      · have c_4 := tn_le (a := (x3).toInt) (b := 1) rfl (by decide) c_4
        refine ok_bindP (ok_kX8_believe _ _ hI_s3_k (by omega) (by omega)) (fun s8 hc_5 => ?_)
        have hI_s8_k : InvK s8.k := hc_5.1
        have hFc_s8_k : FrK [144, 145] s3.k s8.k := hc_5.2
        have hF_s8_k : FrK [144, 145, 146] s0.k s8.k := hF_s3_k.trans hFc_s8_k (by decide)
        refine ok_let (fun s9 hs9 => ?_)
        have hI_s9_g : InvG s9.g := by rw [← hs9]; exact hI_s3_g
        have hI_s9_k : InvK s9.k := by rw [← hs9]; exact hI_s8_k
        have hF_s9_k : FrK [144, 145, 146] s0.k s9.k := by rw [← hs9]; exact hF_s8_k
        refine ok_ite (fun c_6 => ?_) (fun c_6 => ?_)
        · have c_6 := tn_eq (a := (x3).toInt) (b := 1) rfl (by decide) c_6
          have l_1 : (1 : Int32).toInt = 1 := by decide
          exact ok_kX10_fit_50 s0  _ _ _ hI_s9_k hF_s9_k hI_s9_g (by decide) (by decide) (by omega) (by omega) 
        · have c_6 := tn_ne (a := (x3).toInt) (b := 1) rfl (by decide) c_6
          have l_0 : (0 : Int32).toInt = 0 := by decide
          exact ok_kX10_fit_50 s0  _ _ _ hI_s9_k hF_s9_k hI_s9_g (by decide) (by decide) (by omega) (by omega) 
      · have c_4 := tn_nle (a := (x3).toInt) (b := 1) rfl (by decide) c_4
        exact ok_some ⟨hI_s3_k, hF_s3_k, hI_s3_g, (ti_rng _).1, (ti_rng _).2⟩
theorem ok_kX10_fit (s : XS) (x1 : Int32) (x2 : Int32) (x3 : Int32) (hI_s_k : InvK s.k) (hI_s_g : InvG s.g) : Ok (kX10_fit s x1 x2 x3) (Q_kX10_fit s) := ok_kX10_fitB s s x1 x2 x3 hI_s_k FrK.rfl hI_s_g
abbrev Q_kX10_lie (s0 : XS) (y : Int32 × XS) : Prop := InvK y.2.k ∧ FrK [144, 145, 146] s0.k y.2.k ∧ InvG y.2.g ∧ -2147483648 ≤ y.1.toInt ∧ y.1.toInt ≤ 2147483647
set_option maxHeartbeats 1000000 in
theorem ok_kX10_lieB (s0 : XS)  (s : XS) (x1 : Int32) (x2 : Int32) (hI_s_k : InvK s.k) (hF_s_k : FrK [144, 145, 146] s0.k s.k) (hI_s_g : InvG s.g)  : Ok (kX10_lie  s x1 x2) (Q_kX10_lie s0) := by
  unfold kX10_lie
  refine ok_bindI (ok_kX8_areSuch _ _ _ hI_s_k) (fun r2 s1 hc_1 => ?_)
  have hI_s1 : InvK s1 := hc_1.1
  have hFc_s1 : FrK [] s.k s1 := hc_1.2.1
  have hF_s1 : FrK [144, 145, 146] s0.k s1 := hF_s_k.trans hFc_s1 (by decide)
  have hl_r2 : 0 ≤ r2.toInt := hc_1.2.2.1
  have hu_r2 : r2.toInt ≤ 1 := hc_1.2.2.2.1
  have hx0_r2 : (¬ r2.toInt = 0 → 0 ≤ (x1).toInt ∧ (x1).toInt ≤ 20 ∧ 0 ≤ (x2).toInt ∧ (x2).toInt ≤ 3) := hc_1.2.2.2.2
  refine ok_let (fun s3 hs3 => ?_)
  have hI_s3_g : InvG s3.g := by rw [← hs3]; exact hI_s_g
  have hI_s3_k : InvK s3.k := by rw [← hs3]; exact hI_s1
  have hF_s3_k : FrK [144, 145, 146] s0.k s3.k := by rw [← hs3]; exact hF_s1
  refine ok_ite (fun c_2 => ?_) (fun c_2 => ?_)
  · have c_2 := tn_eq (a := (r2).toInt) (b := 0) rfl (by decide) c_2
    exact ok_some ⟨hI_s3_k, hF_s3_k, hI_s3_g, (ti_rng _).1, (ti_rng _).2⟩
  · have c_2 := tn_ne (a := (r2).toInt) (b := 0) rfl (by decide) c_2
    refine ok_bindP (ok_kX8_believe _ _ hI_s3_k (by omega) (by omega)) (fun s6 hc_3 => ?_)
    have hI_s6_k : InvK s6.k := hc_3.1
    have hFc_s6_k : FrK [144, 145] s3.k s6.k := hc_3.2
    have hF_s6_k : FrK [144, 145, 146] s0.k s6.k := hF_s3_k.trans hFc_s6_k (by decide)
    refine ok_let (fun s7 hs7 => ?_)
    have hI_s7_g : InvG s7.g := by rw [← hs7]; exact hI_s3_g
    have hI_s7_k : InvK s7.k := by rw [← hs7]; exact hI_s6_k
    have hF_s7_k : FrK [144, 145, 146] s0.k s7.k := by rw [← hs7]; exact hF_s6_k
    refine ok_bindI (ok_kX8_liars _ _ _ hI_s7_k (by omega) (by omega) (by omega) (by omega)) (fun r10 s9 hc_4 => ?_)
    have hI_s9 : InvK s9 := hc_4.1
    have hFc_s9 : FrK [146] s7.k s9 := hc_4.2.1
    have hF_s9 : FrK [144, 145, 146] s0.k s9 := hF_s7_k.trans hFc_s9 (by decide)
    refine ok_let (fun s11 hs11 => ?_)
    have hI_s11_g : InvG s11.g := by rw [← hs11]; exact hI_s7_g
    have hI_s11_k : InvK s11.k := by rw [← hs11]; exact hI_s9
    have hF_s11_k : FrK [144, 145, 146] s0.k s11.k := by rw [← hs11]; exact hF_s9
    exact ok_some ⟨hI_s11_k, hF_s11_k, hI_s11_g, (ti_rng _).1, (ti_rng _).2⟩
theorem ok_kX10_lie (s : XS) (x1 : Int32) (x2 : Int32) (hI_s_k : InvK s.k) (hI_s_g : InvG s.g) : Ok (kX10_lie s x1 x2) (Q_kX10_lie s) := ok_kX10_lieB s s x1 x2 hI_s_k FrK.rfl hI_s_g
abbrev Q_kX10_ask (s0 : XS) (y : Int32 × XS) : Prop := InvK y.2.k ∧ FrK [144, 145, 146] s0.k y.2.k ∧ InvG y.2.g ∧ -2 ≤ y.1.toInt ∧ y.1.toInt ≤ 4
set_option maxHeartbeats 1000000 in
theorem ok_kX10_askB (s0 : XS)  (s : XS) (x1 : Int32) (x2 : Int32) (hI_s_k : InvK s.k) (hF_s_k : FrK [144, 145, 146] s0.k s.k) (hI_s_g : InvG s.g)  : Ok (kX10_ask  s x1 x2) (Q_kX10_ask s0) := by
  unfold kX10_ask
  refine ok_bindI (ok_kX8_areSuch _ _ _ hI_s_k) (fun r2 s1 hc_1 => ?_)
  have hI_s1 : InvK s1 := hc_1.1
  have hFc_s1 : FrK [] s.k s1 := hc_1.2.1
  have hF_s1 : FrK [144, 145, 146] s0.k s1 := hF_s_k.trans hFc_s1 (by decide)
  have hl_r2 : 0 ≤ r2.toInt := hc_1.2.2.1
  have hu_r2 : r2.toInt ≤ 1 := hc_1.2.2.2.1
  have hx0_r2 : (¬ r2.toInt = 0 → 0 ≤ (x1).toInt ∧ (x1).toInt ≤ 20 ∧ 0 ≤ (x2).toInt ∧ (x2).toInt ≤ 3) := hc_1.2.2.2.2
  refine ok_let (fun s3 hs3 => ?_)
  have hI_s3_g : InvG s3.g := by rw [← hs3]; exact hI_s_g
  have hI_s3_k : InvK s3.k := by rw [← hs3]; exact hI_s1
  have hF_s3_k : FrK [144, 145, 146] s0.k s3.k := by rw [← hs3]; exact hF_s1
  refine ok_ite (fun c_2 => ?_) (fun c_2 => ?_)
  · have c_2 := tn_eq (a := (r2).toInt) (b := 0) rfl (by decide) c_2
    exact ok_some ⟨hI_s3_k, hF_s3_k, hI_s3_g, by show -2 ≤ ((-1) : Int32).toInt; decide, by show ((-1) : Int32).toInt ≤ 4; decide⟩
  · have c_2 := tn_ne (a := (r2).toInt) (b := 0) rfl (by decide) c_2
    refine ok_bindP (ok_kX8_believe _ _ hI_s3_k (by omega) (by omega)) (fun s6 hc_3 => ?_)
    have hI_s6_k : InvK s6.k := hc_3.1
    have hFc_s6_k : FrK [144, 145] s3.k s6.k := hc_3.2
    have hF_s6_k : FrK [144, 145, 146] s0.k s6.k := hF_s3_k.trans hFc_s6_k (by decide)
    refine ok_let (fun s7 hs7 => ?_)
    have hI_s7_g : InvG s7.g := by rw [← hs7]; exact hI_s3_g
    have hI_s7_k : InvK s7.k := by rw [← hs7]; exact hI_s6_k
    have hF_s7_k : FrK [144, 145, 146] s0.k s7.k := by rw [← hs7]; exact hF_s6_k
    refine ok_bindI (ok_kX8_waveToAsk _ _ hI_s7_k (by omega) (by omega)) (fun r10 s9 hc_4 => ?_)
    have hI_s9 : InvK s9 := hc_4.1
    have hFc_s9 : FrK [146] s7.k s9 := hc_4.2.1
    have hF_s9 : FrK [144, 145, 146] s0.k s9 := hF_s7_k.trans hFc_s9 (by decide)
    have hl_r10 : -2 ≤ r10.toInt := hc_4.2.2.1
    have hu_r10 : r10.toInt ≤ 4 := hc_4.2.2.2
    refine ok_let (fun s11 hs11 => ?_)
    have hI_s11_g : InvG s11.g := by rw [← hs11]; exact hI_s7_g
    have hI_s11_k : InvK s11.k := by rw [← hs11]; exact hI_s9
    have hF_s11_k : FrK [144, 145, 146] s0.k s11.k := by rw [← hs11]; exact hF_s9
    exact ok_some ⟨hI_s11_k, hF_s11_k, hI_s11_g, by show -2 ≤ (r10).toInt; omega, by show (r10).toInt ≤ 4; omega⟩
theorem ok_kX10_ask (s : XS) (x1 : Int32) (x2 : Int32) (hI_s_k : InvK s.k) (hI_s_g : InvG s.g) : Ok (kX10_ask s x1 x2) (Q_kX10_ask s) := ok_kX10_askB s s x1 x2 hI_s_k FrK.rfl hI_s_g
abbrev Q_kX0_thereNow (s0 : JS) (y : Int32 × JS) : Prop := InvK y.2.k ∧ FrK [] s0.k y.2.k ∧ 0 ≤ y.1.toInt ∧ y.1.toInt ≤ 5
set_option maxHeartbeats 1000000 in
theorem ok_kX0_thereNowB (s0 : JS)  (s : JS) (x2 : Int32) (hI_s_k : InvK s.k) (hF_s_k : FrK [] s0.k s.k) (h_x2l : 0 ≤ x2.toInt) (h_x2u : x2.toInt ≤ 4)  : Ok (kX0_thereNow  s x2) (Q_kX0_thereNow s0) := by
  unfold kX0_thereNow
  refine ok_grd (vpb_ok (by omega) (by omega)) ?_
  refine ok_bindI (ok_kX5_thingThere _ _ _ _ hI_s_k (by omega) (by omega)) (fun r3 s2 hc_1 => ?_)
  have hI_s2 : InvK s2 := hc_1.1
  have hFc_s2 : FrK [] s.k s2 := hc_1.2.1
  have hF_s2 : FrK [] s0.k s2 := hF_s_k.trans hFc_s2 (by decide)
  have hl_r3 : 0 ≤ r3.toInt := hc_1.2.2.1
  have hu_r3 : r3.toInt ≤ 5 := hc_1.2.2.2
  refine ok_let (fun s4 hs4 => ?_)
  have hI_s4_k : InvK s4.k := by rw [← hs4]; exact hI_s2
  have hF_s4_k : FrK [] s0.k s4.k := by rw [← hs4]; exact hF_s2
  exact ok_some ⟨hI_s4_k, hF_s4_k, by show 0 ≤ (r3).toInt; omega, by show (r3).toInt ≤ 5; omega⟩
theorem ok_kX0_thereNow (s : JS) (x2 : Int32) (hI_s_k : InvK s.k) (h_x2l : 0 ≤ x2.toInt) (h_x2u : x2.toInt ≤ 4) : Ok (kX0_thereNow s x2) (Q_kX0_thereNow s) := ok_kX0_thereNowB s s x2 hI_s_k FrK.rfl h_x2l h_x2u
abbrev Q_kX0_guessThere (s0 : JS) (y : Int32 × JS) : Prop := InvK y.2.k ∧ FrK [] s0.k y.2.k ∧ -2147483648 ≤ y.1.toInt ∧ y.1.toInt ≤ 2147483647
set_option maxHeartbeats 1000000 in
theorem ok_kX0_guessThere_13 (s0 : JS) (k13 : JS → Int32 → Int32 → Int32 → Option (Int32 × JS)) (M13 : Nat) (hk13 : ∀ (s : JS) (x2 : Int32) (x3 : Int32) (x4 : Int32), InvK s.k → FrK [] s0.k s.k → -1 ≤ x4.toInt → x4.toInt ≤ 4 → (x4.toInt - (-1)).toNat < M13 → Ok (k13 s x2 x3 x4) (Q_kX0_guessThere s0)) (s : JS) (x2 : Int32) (x3 : Int32) (x4 : Int32) (hI_s_k : InvK s.k) (hF_s_k : FrK [] s0.k s.k) (h_x4l : -1 ≤ x4.toInt) (h_x4u : x4.toInt ≤ 4) (hM13 : (x4.toInt - (-1)).toNat ≤ M13) : Ok (kX0_guessThere_13 k13 s x2 x3 x4) (Q_kX0_guessThere s0) := by
  unfold kX0_guessThere_13
  rw [show x4 + (-1) = x4 - 1 from (Int32.sub_eq_add_neg x4 1).symm]
  refine ok_ite (fun c_1 => ?_) (fun c_1 => ?_)
  · have c_1 := tn_lt (a := (x4).toInt) (b := 0) rfl (by decide) c_1
    exact ok_some ⟨hI_s_k, hF_s_k, (ti_rng _).1, (ti_rng _).2⟩
  · have c_1 := tn_nlt (a := (x4).toInt) (b := 0) rfl (by decide) c_1
    refine ok_grd (vpb_ok (by omega) (by omega)) ?_
    refine ok_bindI (ok_kX5_thingThere _ _ _ _ hI_s_k (by omega) (by omega)) (fun r4 s3 hc_2 => ?_)
    have hI_s3 : InvK s3 := hc_2.1
    have hFc_s3 : FrK [] s.k s3 := hc_2.2.1
    have hF_s3 : FrK [] s0.k s3 := hF_s_k.trans hFc_s3 (by decide)
    have hl_r4 : 0 ≤ r4.toInt := hc_2.2.2.1
    have hu_r4 : r4.toInt ≤ 5 := hc_2.2.2.2
    refine ok_let (fun s5 hs5 => ?_)
    have hI_s5_k : InvK s5.k := by rw [← hs5]; exact hI_s3
    have hF_s5_k : FrK [] s0.k s5.k := by rw [← hs5]; exact hF_s3
    have a_3 : ((x4 - 1)).toInt = (x4).toInt - 1 := tn_sub rfl (by decide) (by omega) (by omega)
    exact hk13 _ _ _ _ hI_s5_k hF_s5_k (by omega) (by omega) (by omega)
theorem okL_kX0_guessThere_13 (s0 : JS)  : ∀ (n : Nat) (s : JS) (x2 : Int32) (x3 : Int32) (x4 : Int32), (x4.toInt - (-1)).toNat < n → InvK s.k → FrK [] s0.k s.k → -1 ≤ x4.toInt → x4.toInt ≤ 4 → Ok (kX0_guessThere_13L  n s x2 x3 x4) (Q_kX0_guessThere s0) := by
  intro n
  induction n with
  | zero => intro s x2 x3 x4 hn; omega
  | succ n ih =>
    intro s x2 x3 x4 hn hI_s_k hF_s_k h_x4l h_x4u 
    exact ok_kX0_guessThere_13 s0 (kX0_guessThere_13L  n) ((x4.toInt - (-1)).toNat) (fun zs zx2 zx3 zx4 g0 g1 g2 g3  hm => ih zs zx2 zx3 zx4 (by omega) g0 g1 g2 g3 ) s x2 x3 x4 hI_s_k hF_s_k h_x4l h_x4u (Nat.le_refl _)
set_option maxHeartbeats 1000000 in
theorem ok_kX0_guessThereB (s0 : JS)  (s : JS) (x2 : Int32) (hI_s_k : InvK s.k) (hF_s_k : FrK [] s0.k s.k)  : Ok (kX0_guessThere  s x2) (Q_kX0_guessThere s0) := by
  unfold kX0_guessThere
  have a_1 : 0 ≤ (s.k.v 1).toInt ∧ (s.k.v 1).toInt ≤ 5 := hI_s_k.1 1
  have a_2 : (((s.k.v 1) - 1)).toInt = ((s.k.v 1)).toInt - 1 := tn_sub rfl (by decide) (by omega) (by omega)
  have l_0 : (0 : Int32).toInt = 0 := by decide
  exact okL_kX0_guessThere_13 s0  fu _ _ _ _ (by unfold fu; omega) hI_s_k hF_s_k (by omega) (by omega) 
theorem ok_kX0_guessThere (s : JS) (x2 : Int32) (hI_s_k : InvK s.k) : Ok (kX0_guessThere s x2) (Q_kX0_guessThere s) := ok_kX0_guessThereB s s x2 hI_s_k FrK.rfl
abbrev Q_kX0_needOf (s0 : JS) (y : Int32 × JS) : Prop := InvK y.2.k ∧ FrK [7, 113, 114] s0.k y.2.k ∧ 0 ≤ y.1.toInt ∧ y.1.toInt ≤ 100
set_option maxHeartbeats 1000000 in
theorem ok_kX0_needOfB (s0 : JS)  (s : JS) (x2 : Int32) (x3 : Int32) (x4 : Int32) (hI_s_k : InvK s.k) (hF_s_k : FrK [7, 113, 114] s0.k s.k) (h_x2l : 0 ≤ x2.toInt) (h_x2u : x2.toInt ≤ 5) (h_x3l : 0 ≤ x3.toInt) (h_x3u : x3.toInt ≤ 4) (h_x4l : 0 ≤ x4.toInt) (h_x4u : x4.toInt ≤ 5)  : Ok (kX0_needOf  s x2 x3 x4) (Q_kX0_needOf s0) := by
  unfold kX0_needOf
  refine ok_bindP (ok_kX0_clearVars _  hI_s_k) (fun s1 hc_1 => ?_)
  have hI_s1_k : InvK s1.k := hc_1.1
  have hFc_s1_k : FrK [113] s.k s1.k := hc_1.2
  have hF_s1_k : FrK [7, 113, 114] s0.k s1.k := hF_s_k.trans hFc_s1_k (by decide)
  refine ok_bindP (ok_kX0_setParty _ _ hI_s1_k (by omega) (by omega)) (fun s2 hc_2 => ?_)
  have hI_s2_k : InvK s2.k := hc_2.1
  have hFc_s2_k : FrK [113] s1.k s2.k := hc_2.2
  have hF_s2_k : FrK [7, 113, 114] s0.k s2.k := hF_s1_k.trans hFc_s2_k (by decide)
  refine ok_bindP (ok_kX0_setWave _ _ hI_s2_k (by omega) (by omega)) (fun s3 hc_3 => ?_)
  have hI_s3_k : InvK s3.k := hc_3.1
  have hFc_s3_k : FrK [113] s2.k s3.k := hc_3.2
  have hF_s3_k : FrK [7, 113, 114] s0.k s3.k := hF_s2_k.trans hFc_s3_k (by decide)
  refine ok_bindI (ok_kX5_oddsAt _ _ _ hI_s3_k (by omega) (by omega) (by omega) (by omega)) (fun r5 s4 hc_4 => ?_)
  have hI_s4 : InvK s4 := hc_4.1
  have hFc_s4 : FrK [] s3.k s4 := hc_4.2.1
  have hF_s4 : FrK [7, 113, 114] s0.k s4 := hF_s3_k.trans hFc_s4 (by decide)
  refine ok_let (fun s6 hs6 => ?_)
  have hI_s6_k : InvK s6.k := by rw [← hs6]; exact hI_s4
  have hF_s6_k : FrK [7, 113, 114] s0.k s6.k := by rw [← hs6]; exact hF_s4
  refine ok_let (fun s8 hs8 => ?_)
  have hI_s8_k : InvK s8.k := by rw [← hs8]; exact hI_s6_k.sfF (k := 13) rfl rfl
  have hF_s8_k : FrK [7, 113, 114] s0.k s8.k := by rw [← hs8]; exact hF_s6_k.sf (k := 13) (by decide)
  refine ok_bindI (ok_kX1_valueOf _ _ hI_s8_k (by decide) (by decide)) (fun r11 s10 hc_5 => ?_)
  have hI_s10 : InvK s10 := hc_5.1
  have hFc_s10 : FrK [7, 114] s8.k s10 := hc_5.2.1
  have hF_s10 : FrK [7, 113, 114] s0.k s10 := hF_s8_k.trans hFc_s10 (by decide)
  refine ok_let (fun s12 hs12 => ?_)
  have hI_s12_k : InvK s12.k := by rw [← hs12]; exact hI_s10
  have hF_s12_k : FrK [7, 113, 114] s0.k s12.k := by rw [← hs12]; exact hF_s10
  refine ok_bindP (ok_kX10_heldTo _ _ (by decide) (by decide)) (fun r14 hc_6 => ?_)
  have hl_r14 : 0 ≤ r14.toInt := hc_6.1
  have hu_r14 : r14.toInt ≤ 100 := hc_6.2
  exact ok_some ⟨hI_s12_k, hF_s12_k, by show 0 ≤ (r14).toInt; omega, by show (r14).toInt ≤ 100; omega⟩
theorem ok_kX0_needOf (s : JS) (x2 : Int32) (x3 : Int32) (x4 : Int32) (hI_s_k : InvK s.k) (h_x2l : 0 ≤ x2.toInt) (h_x2u : x2.toInt ≤ 5) (h_x3l : 0 ≤ x3.toInt) (h_x3u : x3.toInt ≤ 4) (h_x4l : 0 ≤ x4.toInt) (h_x4u : x4.toInt ≤ 5) : Ok (kX0_needOf s x2 x3 x4) (Q_kX0_needOf s) := ok_kX0_needOfB s s x2 x3 x4 hI_s_k FrK.rfl h_x2l h_x2u h_x3l h_x3u h_x4l h_x4u
abbrev Q_kX0_isBearing (s0 : JS) (y : Int32 × JS) : Prop := InvK y.2.k ∧ FrK [7, 113, 114] s0.k y.2.k ∧ 0 ≤ y.1.toInt ∧ y.1.toInt ≤ 1
set_option maxHeartbeats 1000000 in
theorem ok_kX0_isBearingB (s0 : JS)  (s : JS) (x2 : Int32) (x3 : Int32) (x4 : Int32) (hI_s_k : InvK s.k) (hF_s_k : FrK [7, 113, 114] s0.k s.k) (h_x2l : 0 ≤ x2.toInt) (h_x2u : x2.toInt ≤ 5) (h_x3l : 0 ≤ x3.toInt) (h_x3u : x3.toInt ≤ 4) (h_x4l : 0 ≤ x4.toInt) (h_x4u : x4.toInt ≤ 5)  : Ok (kX0_isBearing  s x2 x3 x4) (Q_kX0_isBearing s0) := by
  unfold kX0_isBearing
  refine ok_bindI (ok_kX5_oddsAt _ _ _ hI_s_k (by omega) (by omega) (by omega) (by omega)) (fun r2 s1 hc_1 => ?_)
  have hI_s1 : InvK s1 := hc_1.1
  have hFc_s1 : FrK [] s.k s1 := hc_1.2.1
  have hF_s1 : FrK [7, 113, 114] s0.k s1 := hF_s_k.trans hFc_s1 (by decide)
  refine ok_let (fun s3 hs3 => ?_)
  have hI_s3_k : InvK s3.k := by rw [← hs3]; exact hI_s1
  have hF_s3_k : FrK [7, 113, 114] s0.k s3.k := by rw [← hs3]; exact hF_s1
  refine ok_bindI (ok_kX0_needOf _ _ _ _ hI_s3_k (by omega) (by omega) (by omega) (by omega) (by omega) (by omega)) (fun r6 s5 hc_2 => ?_)
  have hI_s5_k : InvK s5.k := hc_2.1
  have hFc_s5_k : FrK [7, 113, 114] s3.k s5.k := hc_2.2.1
  have hF_s5_k : FrK [7, 113, 114] s0.k s5.k := hF_s3_k.trans hFc_s5_k (by decide)
  have hl_r6 : 0 ≤ r6.toInt := hc_2.2.2.1
  have hu_r6 : r6.toInt ≤ 100 := hc_2.2.2.2
  refine ok_ite (fun c_3 => ?_) (fun c_3 => ?_)
  · have c_3 := tn_lt (a := (r2).toInt) (b := (r6).toInt) rfl rfl c_3
    exact ok_some ⟨hI_s5_k, hF_s5_k, by show 0 ≤ (0 : Int32).toInt; decide, by show (0 : Int32).toInt ≤ 1; decide⟩
  · have c_3 := tn_nlt (a := (r2).toInt) (b := (r6).toInt) rfl rfl c_3
    exact ok_some ⟨hI_s5_k, hF_s5_k, by show 0 ≤ (1 : Int32).toInt; decide, by show (1 : Int32).toInt ≤ 1; decide⟩
theorem ok_kX0_isBearing (s : JS) (x2 : Int32) (x3 : Int32) (x4 : Int32) (hI_s_k : InvK s.k) (h_x2l : 0 ≤ x2.toInt) (h_x2u : x2.toInt ≤ 5) (h_x3l : 0 ≤ x3.toInt) (h_x3u : x3.toInt ≤ 4) (h_x4l : 0 ≤ x4.toInt) (h_x4u : x4.toInt ≤ 5) : Ok (kX0_isBearing s x2 x3 x4) (Q_kX0_isBearing s) := ok_kX0_isBearingB s s x2 x3 x4 hI_s_k FrK.rfl h_x2l h_x2u h_x3l h_x3u h_x4l h_x4u
abbrev Q_kX0_fareOf (s0 : JS) (y : Int32 × JS) : Prop := InvK y.2.k ∧ FrK [7, 113, 114] s0.k y.2.k ∧ 0 ≤ y.1.toInt ∧ y.1.toInt ≤ 100
set_option maxHeartbeats 1000000 in
theorem ok_kX0_fareOfB (s0 : JS)  (s : JS) (x2 : Int32) (hI_s_k : InvK s.k) (hF_s_k : FrK [7, 113, 114] s0.k s.k) (h_x2l : 0 ≤ x2.toInt) (h_x2u : x2.toInt ≤ 5)  : Ok (kX0_fareOf  s x2) (Q_kX0_fareOf s0) := by
  unfold kX0_fareOf
  refine ok_bindP (ok_kX0_clearVars _  hI_s_k) (fun s1 hc_1 => ?_)
  have hI_s1_k : InvK s1.k := hc_1.1
  have hFc_s1_k : FrK [113] s.k s1.k := hc_1.2
  have hF_s1_k : FrK [7, 113, 114] s0.k s1.k := hF_s_k.trans hFc_s1_k (by decide)
  refine ok_bindP (ok_kX0_setParty _ _ hI_s1_k (by omega) (by omega)) (fun s2 hc_2 => ?_)
  have hI_s2_k : InvK s2.k := hc_2.1
  have hFc_s2_k : FrK [113] s1.k s2.k := hc_2.2
  have hF_s2_k : FrK [7, 113, 114] s0.k s2.k := hF_s1_k.trans hFc_s2_k (by decide)
  refine ok_bindI (ok_kX1_valueOf _ _ hI_s2_k (by decide) (by decide)) (fun r4 s3 hc_3 => ?_)
  have hI_s3 : InvK s3 := hc_3.1
  have hFc_s3 : FrK [7, 114] s2.k s3 := hc_3.2.1
  have hF_s3 : FrK [7, 113, 114] s0.k s3 := hF_s2_k.trans hFc_s3 (by decide)
  refine ok_let (fun s5 hs5 => ?_)
  have hI_s5_k : InvK s5.k := by rw [← hs5]; exact hI_s3
  have hF_s5_k : FrK [7, 113, 114] s0.k s5.k := by rw [← hs5]; exact hF_s3
  refine ok_bindP (ok_kX10_heldTo _ _ (by decide) (by decide)) (fun r7 hc_4 => ?_)
  have hl_r7 : 0 ≤ r7.toInt := hc_4.1
  have hu_r7 : r7.toInt ≤ 100 := hc_4.2
  exact ok_some ⟨hI_s5_k, hF_s5_k, by show 0 ≤ (r7).toInt; omega, by show (r7).toInt ≤ 100; omega⟩
theorem ok_kX0_fareOf (s : JS) (x2 : Int32) (hI_s_k : InvK s.k) (h_x2l : 0 ≤ x2.toInt) (h_x2u : x2.toInt ≤ 5) : Ok (kX0_fareOf s x2) (Q_kX0_fareOf s) := ok_kX0_fareOfB s s x2 hI_s_k FrK.rfl h_x2l h_x2u
abbrev Q_kX0_isDaring (s0 : JS) (y : Int32 × JS) : Prop := InvK y.2.k ∧ FrK [7, 113, 114] s0.k y.2.k ∧ 0 ≤ y.1.toInt ∧ y.1.toInt ≤ 1
set_option maxHeartbeats 1000000 in
theorem ok_kX0_isDaringB (s0 : JS)  (s : JS) (x2 : Int32) (hI_s_k : InvK s.k) (hF_s_k : FrK [7, 113, 114] s0.k s.k) (h_x2l : 0 ≤ x2.toInt) (h_x2u : x2.toInt ≤ 5)  : Ok (kX0_isDaring  s x2) (Q_kX0_isDaring s0) := by
  unfold kX0_isDaring
  refine ok_bindP (ok_kX0_clearVars _  hI_s_k) (fun s1 hc_1 => ?_)
  have hI_s1_k : InvK s1.k := hc_1.1
  have hFc_s1_k : FrK [113] s.k s1.k := hc_1.2
  have hF_s1_k : FrK [7, 113, 114] s0.k s1.k := hF_s_k.trans hFc_s1_k (by decide)
  refine ok_bindP (ok_kX0_setParty _ _ hI_s1_k (by omega) (by omega)) (fun s2 hc_2 => ?_)
  have hI_s2_k : InvK s2.k := hc_2.1
  have hFc_s2_k : FrK [113] s1.k s2.k := hc_2.2
  have hF_s2_k : FrK [7, 113, 114] s0.k s2.k := hF_s1_k.trans hFc_s2_k (by decide)
  refine ok_bindI (ok_kX1_valueOf _ _ hI_s2_k (by decide) (by decide)) (fun r4 s3 hc_3 => ?_)
  have hI_s3 : InvK s3 := hc_3.1
  have hFc_s3 : FrK [7, 114] s2.k s3 := hc_3.2.1
  have hF_s3 : FrK [7, 113, 114] s0.k s3 := hF_s2_k.trans hFc_s3 (by decide)
  refine ok_let (fun s5 hs5 => ?_)
  have hI_s5_k : InvK s5.k := by rw [← hs5]; exact hI_s3
  have hF_s5_k : FrK [7, 113, 114] s0.k s5.k := by rw [← hs5]; exact hF_s3
  refine ok_ite (fun c_4 => ?_) (fun c_4 => ?_)
  · have c_4 := tn_le (a := (r4).toInt) (b := 0) rfl (by decide) c_4
    exact ok_some ⟨hI_s5_k, hF_s5_k, by show 0 ≤ (0 : Int32).toInt; decide, by show (0 : Int32).toInt ≤ 1; decide⟩
  · have c_4 := tn_nle (a := (r4).toInt) (b := 0) rfl (by decide) c_4
    exact ok_some ⟨hI_s5_k, hF_s5_k, by show 0 ≤ (1 : Int32).toInt; decide, by show (1 : Int32).toInt ≤ 1; decide⟩
theorem ok_kX0_isDaring (s : JS) (x2 : Int32) (hI_s_k : InvK s.k) (h_x2l : 0 ≤ x2.toInt) (h_x2u : x2.toInt ≤ 5) : Ok (kX0_isDaring s x2) (Q_kX0_isDaring s) := ok_kX0_isDaringB s s x2 hI_s_k FrK.rfl h_x2l h_x2u
abbrev Q_kX0_shiftsOf (s0 : JS) (y : Int32 × JS) : Prop := InvK y.2.k ∧ FrK [7, 113, 114] s0.k y.2.k ∧ 0 ≤ y.1.toInt ∧ y.1.toInt ≤ 100
set_option maxHeartbeats 1000000 in
theorem ok_kX0_shiftsOfB (s0 : JS)  (s : JS) (x2 : Int32) (hI_s_k : InvK s.k) (hF_s_k : FrK [7, 113, 114] s0.k s.k) (h_x2l : 0 ≤ x2.toInt) (h_x2u : x2.toInt ≤ 4)  : Ok (kX0_shiftsOf  s x2) (Q_kX0_shiftsOf s0) := by
  unfold kX0_shiftsOf
  refine ok_bindP (ok_kX0_clearVars _  hI_s_k) (fun s1 hc_1 => ?_)
  have hI_s1_k : InvK s1.k := hc_1.1
  have hFc_s1_k : FrK [113] s.k s1.k := hc_1.2
  have hF_s1_k : FrK [7, 113, 114] s0.k s1.k := hF_s_k.trans hFc_s1_k (by decide)
  refine ok_bindP (ok_kX0_setWave _ _ hI_s1_k (by omega) (by omega)) (fun s2 hc_2 => ?_)
  have hI_s2_k : InvK s2.k := hc_2.1
  have hFc_s2_k : FrK [113] s1.k s2.k := hc_2.2
  have hF_s2_k : FrK [7, 113, 114] s0.k s2.k := hF_s1_k.trans hFc_s2_k (by decide)
  refine ok_bindI (ok_kX1_valueOf _ _ hI_s2_k (by decide) (by decide)) (fun r4 s3 hc_3 => ?_)
  have hI_s3 : InvK s3 := hc_3.1
  have hFc_s3 : FrK [7, 114] s2.k s3 := hc_3.2.1
  have hF_s3 : FrK [7, 113, 114] s0.k s3 := hF_s2_k.trans hFc_s3 (by decide)
  refine ok_let (fun s5 hs5 => ?_)
  have hI_s5_k : InvK s5.k := by rw [← hs5]; exact hI_s3
  have hF_s5_k : FrK [7, 113, 114] s0.k s5.k := by rw [← hs5]; exact hF_s3
  refine ok_bindP (ok_kX10_heldTo _ _ (by decide) (by decide)) (fun r7 hc_4 => ?_)
  have hl_r7 : 0 ≤ r7.toInt := hc_4.1
  have hu_r7 : r7.toInt ≤ 100 := hc_4.2
  exact ok_some ⟨hI_s5_k, hF_s5_k, by show 0 ≤ (r7).toInt; omega, by show (r7).toInt ≤ 100; omega⟩
theorem ok_kX0_shiftsOf (s : JS) (x2 : Int32) (hI_s_k : InvK s.k) (h_x2l : 0 ≤ x2.toInt) (h_x2u : x2.toInt ≤ 4) : Ok (kX0_shiftsOf s x2) (Q_kX0_shiftsOf s) := ok_kX0_shiftsOfB s s x2 hI_s_k FrK.rfl h_x2l h_x2u
abbrev Q_kX0_sendBy (s0 : JS) (y : Int32 × JS) : Prop := InvK y.2.k ∧ FrK [7, 113, 114] s0.k y.2.k ∧ -2147483648 ≤ y.1.toInt ∧ y.1.toInt ≤ 2147483647
set_option maxHeartbeats 1000000 in
theorem ok_kX0_sendBy_119 (s0 : JS)  (s : JS) (x2 : Int32) (x4 : Int32) (x5 : Int32) (hI_s_k : InvK s.k) (hF_s_k : FrK [7, 113, 114] s0.k s.k) (h_x2l : 0 ≤ x2.toInt) (h_x2u : x2.toInt ≤ 5) (h_x4l : 0 ≤ x4.toInt) (h_x4u : x4.toInt ≤ 2)  : Ok (kX0_sendBy_119  s x2 x4 x5) (Q_kX0_sendBy s0) := by
  unfold kX0_sendBy_119
  refine ok_grd (vpb_ok (by omega) (by omega)) ?_
  refine ok_let (fun s2 hs2 => ?_)
  have hI_s2_k : InvK s2.k := by rw [← hs2]; exact hI_s_k
  have hF_s2_k : FrK [7, 113, 114] s0.k s2.k := by rw [← hs2]; exact hF_s_k
  refine ok_grd (vpb_ok (by omega) (by omega)) ?_
  refine ok_grd (vpb_ok (by omega) (by omega)) ?_
  refine ok_let (fun s6 hs6 => ?_)
  have hI_s6_k : InvK s6.k := by rw [← hs6]; exact hI_s2_k
  have hF_s6_k : FrK [7, 113, 114] s0.k s6.k := by rw [← hs6]; exact hF_s2_k
  exact ok_some ⟨hI_s6_k, hF_s6_k, (ti_rng _).1, (ti_rng _).2⟩
set_option maxHeartbeats 1000000 in
theorem ok_kX0_sendBy_113 (s0 : JS) (k24 : JS → Int32 → Int32 → Int32 → Int32 → Int32 → Option (Int32 × JS)) (M24 : Nat) (hk24 : ∀ (s : JS) (x2 : Int32) (x3 : Int32) (x4 : Int32) (x5 : Int32) (x6 : Int32), InvK s.k → FrK [7, 113, 114] s0.k s.k → 0 ≤ x2.toInt → x2.toInt ≤ 5 → 0 ≤ x3.toInt → 0 ≤ x4.toInt → x4.toInt ≤ 2 → 0 ≤ x6.toInt → x6.toInt ≤ 5 → (5 - x6.toInt).toNat < M24 → Ok (k24 s x2 x3 x4 x5 x6) (Q_kX0_sendBy s0)) (s : JS) (x2 : Int32) (x3 : Int32) (x4 : Int32) (x5 : Int32) (x6 : Int32) (hI_s_k : InvK s.k) (hF_s_k : FrK [7, 113, 114] s0.k s.k) (h_x2l : 0 ≤ x2.toInt) (h_x2u : x2.toInt ≤ 5) (h_x3l : 0 ≤ x3.toInt) (h_x4l : 0 ≤ x4.toInt) (h_x4u : x4.toInt ≤ 2) (h_x6l : 0 ≤ x6.toInt) (h_x6u : x6.toInt ≤ 4) (hM24 : (5 - x6.toInt).toNat ≤ M24) : Ok (kX0_sendBy_113 k24 s x2 x3 x4 x5 x6) (Q_kX0_sendBy s0) := by
  unfold kX0_sendBy_113
  have a_1 : ((x6 + 1)).toInt = (x6).toInt + 1 := tn_add rfl (by decide) (by omega) (by omega)
  exact hk24 _ _ _ _ _ _ hI_s_k hF_s_k (by omega) (by omega) (by omega) (by omega) (by omega) (by omega) (by omega) (by omega)
set_option maxHeartbeats 1000000 in
theorem ok_kX0_sendBy_24 (s0 : JS) (k24 : JS → Int32 → Int32 → Int32 → Int32 → Int32 → Option (Int32 × JS)) (M24 : Nat) (hk24 : ∀ (s : JS) (x2 : Int32) (x3 : Int32) (x4 : Int32) (x5 : Int32) (x6 : Int32), InvK s.k → FrK [7, 113, 114] s0.k s.k → 0 ≤ x2.toInt → x2.toInt ≤ 5 → 0 ≤ x3.toInt → 0 ≤ x4.toInt → x4.toInt ≤ 2 → 0 ≤ x6.toInt → x6.toInt ≤ 5 → (5 - x6.toInt).toNat < M24 → Ok (k24 s x2 x3 x4 x5 x6) (Q_kX0_sendBy s0)) (s : JS) (x2 : Int32) (x3 : Int32) (x4 : Int32) (x5 : Int32) (x6 : Int32) (hI_s_k : InvK s.k) (hF_s_k : FrK [7, 113, 114] s0.k s.k) (h_x2l : 0 ≤ x2.toInt) (h_x2u : x2.toInt ≤ 5) (h_x3l : 0 ≤ x3.toInt) (h_x4l : 0 ≤ x4.toInt) (h_x4u : x4.toInt ≤ 2) (h_x6l : 0 ≤ x6.toInt) (h_x6u : x6.toInt ≤ 5) (hM24 : (5 - x6.toInt).toNat ≤ M24) : Ok (kX0_sendBy_24 k24 s x2 x3 x4 x5 x6) (Q_kX0_sendBy s0) := by
  unfold kX0_sendBy_24
  have a_1 : 0 ≤ (s.k.v 1).toInt ∧ (s.k.v 1).toInt ≤ 5 := hI_s_k.1 1
  refine ok_ite (fun c_2 => ?_) (fun c_2 => ?_)
  · have c_2 := tn_le (a := ((s.k.v 1)).toInt) (b := (x6).toInt) rfl rfl c_2
    exact ok_kX0_sendBy_119 s0  _ _ _ _ hI_s_k hF_s_k (by omega) (by omega) (by omega) (by omega) 
  · have c_2 := tn_nle (a := ((s.k.v 1)).toInt) (b := (x6).toInt) rfl rfl c_2
    refine ok_ite (fun c_3 => ?_) (fun c_3 => ?_)
    · have c_3 := tn_eq (a := (x4).toInt) (b := 2) rfl (by decide) c_3
      refine ok_bindP (ok_kX10_thingIn _ _ (by omega) (by omega)) (fun r3 hc_4 => ?_)
      have hx0_r3 : (0 ≤ (x3).toInt → 0 ≤ r3.toInt ∧ r3.toInt ≤ 5) := hc_4.2.2
      refine ok_bindI (ok_kX0_isBearing _ _ _ _ hI_s_k (by omega) (by omega) (by omega) (by omega) (by omega) (by omega)) (fun r5 s4 hc_5 => ?_)
      have hI_s4_k : InvK s4.k := hc_5.1
      have hFc_s4_k : FrK [7, 113, 114] s.k s4.k := hc_5.2.1
      have hF_s4_k : FrK [7, 113, 114] s0.k s4.k := hF_s_k.trans hFc_s4_k (by decide)
      have hl_r5 : 0 ≤ r5.toInt := hc_5.2.2.1
      have hu_r5 : r5.toInt ≤ 1 := hc_5.2.2.2
      refine ok_ite (fun c_6 => ?_) (fun c_6 => ?_)
      · have c_6 := tn_eq (a := (r5).toInt) (b := 0) rfl (by decide) c_6
        have l_1 : (1 : Int32).toInt = 1 := by decide
        exact ok_kX0_sendBy_113 s0 k24 M24 hk24 _ _ _ _ _ _ hI_s4_k hF_s4_k (by omega) (by omega) (by omega) (by decide) (by decide) (by omega) (by omega) (by omega)
      · have c_6 := tn_ne (a := (r5).toInt) (b := 0) rfl (by decide) c_6
        refine ok_bindI (ok_kX0_thereNow _ _ hI_s4_k (by omega) (by omega)) (fun r8 s7 hc_7 => ?_)
        have hI_s7_k : InvK s7.k := hc_7.1
        have hFc_s7_k : FrK [] s4.k s7.k := hc_7.2.1
        have hF_s7_k : FrK [7, 113, 114] s0.k s7.k := hF_s4_k.trans hFc_s7_k (by decide)
        have hl_r8 : 0 ≤ r8.toInt := hc_7.2.2.1
        have hu_r8 : r8.toInt ≤ 5 := hc_7.2.2.2
        refine ok_ite (fun c_8 => ?_) (fun c_8 => ?_)
        · have c_8 := tn_eq (a := (r3).toInt) (b := (r8).toInt) rfl rfl c_8
          refine ok_grd (vpb_ok (by omega) (by omega)) ?_
          refine ok_let (fun s11 hs11 => ?_)
          have hI_s11_k : InvK s11.k := by rw [← hs11]; exact hI_s7_k
          have hF_s11_k : FrK [7, 113, 114] s0.k s11.k := by rw [← hs11]; exact hF_s7_k
          exact ok_kX0_sendBy_113 s0 k24 M24 hk24 _ _ _ _ _ _ hI_s11_k hF_s11_k (by omega) (by omega) (by omega) (by omega) (by omega) (by omega) (by omega) (by omega)
        · have c_8 := tn_ne (a := (r3).toInt) (b := (r8).toInt) rfl rfl c_8
          refine ok_grd (vpb_ok (by omega) (by omega)) ?_
          refine ok_grd (vpb_ok (by omega) (by omega)) ?_
          refine ok_let (fun s15 hs15 => ?_)
          have hI_s15_k : InvK s15.k := by rw [← hs15]; exact hI_s7_k
          have hF_s15_k : FrK [7, 113, 114] s0.k s15.k := by rw [← hs15]; exact hF_s7_k
          have l_0 : (0 : Int32).toInt = 0 := by decide
          exact ok_kX0_sendBy_113 s0 k24 M24 hk24 _ _ _ _ _ _ hI_s15_k hF_s15_k (by omega) (by omega) (by omega) (by decide) (by decide) (by omega) (by omega) (by omega)
    · have c_3 := tn_ne (a := (x4).toInt) (b := 2) rfl (by decide) c_3
      exact ok_kX0_sendBy_119 s0  _ _ _ _ hI_s_k hF_s_k (by omega) (by omega) (by omega) (by omega) 
theorem okL_kX0_sendBy_24 (s0 : JS)  : ∀ (n : Nat) (s : JS) (x2 : Int32) (x3 : Int32) (x4 : Int32) (x5 : Int32) (x6 : Int32), (5 - x6.toInt).toNat < n → InvK s.k → FrK [7, 113, 114] s0.k s.k → 0 ≤ x2.toInt → x2.toInt ≤ 5 → 0 ≤ x3.toInt → 0 ≤ x4.toInt → x4.toInt ≤ 2 → 0 ≤ x6.toInt → x6.toInt ≤ 5 → Ok (kX0_sendBy_24L  n s x2 x3 x4 x5 x6) (Q_kX0_sendBy s0) := by
  intro n
  induction n with
  | zero => intro s x2 x3 x4 x5 x6 hn; omega
  | succ n ih =>
    intro s x2 x3 x4 x5 x6 hn hI_s_k hF_s_k h_x2l h_x2u h_x3l h_x4l h_x4u h_x6l h_x6u 
    exact ok_kX0_sendBy_24 s0 (kX0_sendBy_24L  n) ((5 - x6.toInt).toNat) (fun zs zx2 zx3 zx4 zx5 zx6 g0 g1 g2 g3 g4 g5 g6 g7 g8  hm => ih zs zx2 zx3 zx4 zx5 zx6 (by omega) g0 g1 g2 g3 g4 g5 g6 g7 g8 ) s x2 x3 x4 x5 x6 hI_s_k hF_s_k h_x2l h_x2u h_x3l h_x4l h_x4u h_x6l h_x6u (Nat.le_refl _)
set_option maxHeartbeats 1000000 in
theorem ok_kX0_sendByB (s0 : JS)  (s : JS) (x2 : Int32) (x3 : Int32) (hI_s_k : InvK s.k) (hF_s_k : FrK [7, 113, 114] s0.k s.k) (h_x2l : 0 ≤ x2.toInt) (h_x2u : x2.toInt ≤ 5) (h_x3l : 0 ≤ x3.toInt)  : Ok (kX0_sendBy  s x2 x3) (Q_kX0_sendBy s0) := by
  unfold kX0_sendBy
  refine ok_bindI (ok_kX0_fareOf _ _ hI_s_k (by omega) (by omega)) (fun r2 s1 hc_1 => ?_)
  have hI_s1_k : InvK s1.k := hc_1.1
  have hFc_s1_k : FrK [7, 113, 114] s.k s1.k := hc_1.2.1
  have hF_s1_k : FrK [7, 113, 114] s0.k s1.k := hF_s_k.trans hFc_s1_k (by decide)
  have hl_r2 : 0 ≤ r2.toInt := hc_1.2.2.1
  have hu_r2 : r2.toInt ≤ 100 := hc_1.2.2.2
  refine ok_let (fun s3 hs3 => ?_)
  have hI_s3_k : InvK s3.k := by rw [← hs3]; exact hI_s1_k
  have hF_s3_k : FrK [7, 113, 114] s0.k s3.k := by rw [← hs3]; exact hF_s1_k
  have l_2 : (2 : Int32).toInt = 2 := by decide
  have l_0 : (0 : Int32).toInt = 0 := by decide
  exact okL_kX0_sendBy_24 s0  fu _ _ _ _ _ _ (by unfold fu; omega) hI_s3_k hF_s3_k (by omega) (by omega) (by omega) (by decide) (by decide) (by decide) (by decide) 
theorem ok_kX0_sendBy (s : JS) (x2 : Int32) (x3 : Int32) (hI_s_k : InvK s.k) (h_x2l : 0 ≤ x2.toInt) (h_x2u : x2.toInt ≤ 5) (h_x3l : 0 ≤ x3.toInt) : Ok (kX0_sendBy s x2 x3) (Q_kX0_sendBy s) := ok_kX0_sendByB s s x2 x3 hI_s_k FrK.rfl h_x2l h_x2u h_x3l
abbrev Q_kX0_passYearOver (s0 : JS) (y : JS) : Prop := InvK y.k ∧ FrK [7, 113, 114] s0.k y.k
set_option maxHeartbeats 1000000 in
theorem ok_kX0_passYearOverB (s0 : JS)  (s : JS) (x2 : Int32) (hI_s_k : InvK s.k) (hF_s_k : FrK [7, 113, 114] s0.k s.k) (h_x2l : 0 ≤ x2.toInt) (h_x2u : x2.toInt ≤ 4)  : Ok (kX0_passYearOver  s x2) (Q_kX0_passYearOver s0) := by
  unfold kX0_passYearOver
  refine ok_bindP (ok_kX10_lot _ _ _ ) (fun r1 hc_1 => ?_)
  refine ok_bindI (ok_kX0_shiftsOf _ _ hI_s_k (by omega) (by omega)) (fun r3 s2 hc_2 => ?_)
  have hI_s2_k : InvK s2.k := hc_2.1
  have hFc_s2_k : FrK [7, 113, 114] s.k s2.k := hc_2.2.1
  have hF_s2_k : FrK [7, 113, 114] s0.k s2.k := hF_s_k.trans hFc_s2_k (by decide)
  have hl_r3 : 0 ≤ r3.toInt := hc_2.2.2.1
  have hu_r3 : r3.toInt ≤ 100 := hc_2.2.2.2
  refine ok_ite (fun c_3 => ?_) (fun c_3 => ?_)
  · have c_3 := tn_le (a := (r3).toInt) (b := (r1).toInt) rfl rfl c_3
    exact ok_some ⟨hI_s2_k, hF_s2_k⟩
  · have c_3 := tn_nle (a := (r3).toInt) (b := (r1).toInt) rfl rfl c_3
    refine ok_grd (vpb_ok (by omega) (by omega)) ?_
    refine ok_grd (vpb_ok (by omega) (by omega)) ?_
    refine ok_let (fun s7 hs7 => ?_)
    have hI_s7_k : InvK s7.k := by rw [← hs7]; exact hI_s2_k
    have hF_s7_k : FrK [7, 113, 114] s0.k s7.k := by rw [← hs7]; exact hF_s2_k
    refine ok_grd (vpb_ok (by omega) (by omega)) ?_
    refine ok_let (fun s10 hs10 => ?_)
    have hI_s10_k : InvK s10.k := by rw [← hs10]; exact hI_s7_k
    have hF_s10_k : FrK [7, 113, 114] s0.k s10.k := by rw [← hs10]; exact hF_s7_k
    refine ok_grd (vpb_ok (by omega) (by omega)) ?_
    refine ok_let (fun s13 hs13 => ?_)
    have hI_s13_k : InvK s13.k := by rw [← hs13]; exact hI_s10_k
    have hF_s13_k : FrK [7, 113, 114] s0.k s13.k := by rw [← hs13]; exact hF_s10_k
    exact ok_some ⟨hI_s13_k, hF_s13_k⟩
theorem ok_kX0_passYearOver (s : JS) (x2 : Int32) (hI_s_k : InvK s.k) (h_x2l : 0 ≤ x2.toInt) (h_x2u : x2.toInt ≤ 4) : Ok (kX0_passYearOver s x2) (Q_kX0_passYearOver s) := ok_kX0_passYearOverB s s x2 hI_s_k FrK.rfl h_x2l h_x2u
abbrev Q_kX2_bestThing (s0 : JS) (y : Int32 × JS) : Prop := InvK y.2.k ∧ FrK [7, 113, 114] s0.k y.2.k ∧ -1 ≤ y.1.toInt ∧ y.1.toInt ≤ 5
set_option maxHeartbeats 1000000 in
theorem ok_kX2_bestThing_63 (s0 : JS) (k9 : JS → Int32 → Int32 → Int32 → Int32 → Int32 → Option (Int32 × JS)) (M9 : Nat) (hk9 : ∀ (s : JS) (x2 : Int32) (x3 : Int32) (x4 : Int32) (x5 : Int32) (x6 : Int32), InvK s.k → FrK [7, 113, 114] s0.k s.k → -1 ≤ x2.toInt → x2.toInt ≤ 5 → 0 ≤ x3.toInt → x3.toInt ≤ 4 → -1 ≤ x4.toInt → x4.toInt ≤ 5 → 0 ≤ x5.toInt → 0 ≤ x6.toInt → x6.toInt ≤ 6 → (6 - x6.toInt).toNat < M9 → Ok (k9 s x2 x3 x4 x5 x6) (Q_kX2_bestThing s0)) (s : JS) (x2 : Int32) (x3 : Int32) (x4 : Int32) (x5 : Int32) (x6 : Int32) (hI_s_k : InvK s.k) (hF_s_k : FrK [7, 113, 114] s0.k s.k) (h_x2l : -1 ≤ x2.toInt) (h_x2u : x2.toInt ≤ 5) (h_x3l : 0 ≤ x3.toInt) (h_x3u : x3.toInt ≤ 4) (h_x4l : -1 ≤ x4.toInt) (h_x4u : x4.toInt ≤ 5) (h_x5l : 0 ≤ x5.toInt) (h_x6l : 0 ≤ x6.toInt) (h_x6u : x6.toInt ≤ 5) (hM9 : (6 - x6.toInt).toNat ≤ M9) : Ok (kX2_bestThing_63 k9 s x2 x3 x4 x5 x6) (Q_kX2_bestThing s0) := by
  unfold kX2_bestThing_63
  have a_1 : ((x6 + 1)).toInt = (x6).toInt + 1 := tn_add rfl (by decide) (by omega) (by omega)
  exact hk9 _ _ _ _ _ _ hI_s_k hF_s_k (by omega) (by omega) (by omega) (by omega) (by omega) (by omega) (by omega) (by omega) (by omega) (by omega)
set_option maxHeartbeats 1000000 in
theorem ok_kX2_bestThing_55 (s0 : JS) (k9 : JS → Int32 → Int32 → Int32 → Int32 → Int32 → Option (Int32 × JS)) (M9 : Nat) (hk9 : ∀ (s : JS) (x2 : Int32) (x3 : Int32) (x4 : Int32) (x5 : Int32) (x6 : Int32), InvK s.k → FrK [7, 113, 114] s0.k s.k → -1 ≤ x2.toInt → x2.toInt ≤ 5 → 0 ≤ x3.toInt → x3.toInt ≤ 4 → -1 ≤ x4.toInt → x4.toInt ≤ 5 → 0 ≤ x5.toInt → 0 ≤ x6.toInt → x6.toInt ≤ 6 → (6 - x6.toInt).toNat < M9 → Ok (k9 s x2 x3 x4 x5 x6) (Q_kX2_bestThing s0)) (s : JS) (x2 : Int32) (x3 : Int32) (x6 : Int32) (x7 : Int32) (hI_s_k : InvK s.k) (hF_s_k : FrK [7, 113, 114] s0.k s.k) (h_x2l : -1 ≤ x2.toInt) (h_x2u : x2.toInt ≤ 5) (h_x3l : 0 ≤ x3.toInt) (h_x3u : x3.toInt ≤ 4) (h_x6l : 0 ≤ x6.toInt) (h_x6u : x6.toInt ≤ 5) (h_x7l : 1 ≤ x7.toInt) (hM9 : (6 - x6.toInt).toNat ≤ M9) : Ok (kX2_bestThing_55 k9 s x2 x3 x6 x7) (Q_kX2_bestThing s0) := by
  unfold kX2_bestThing_55
  exact ok_kX2_bestThing_63 s0 k9 M9 hk9 _ _ _ _ _ _ hI_s_k hF_s_k (by omega) (by omega) (by omega) (by omega) (by omega) (by omega) (by omega) (by omega) (by omega) (by omega)
set_option maxHeartbeats 1000000 in
theorem ok_kX2_bestThing_9 (s0 : JS) (k9 : JS → Int32 → Int32 → Int32 → Int32 → Int32 → Option (Int32 × JS)) (M9 : Nat) (hk9 : ∀ (s : JS) (x2 : Int32) (x3 : Int32) (x4 : Int32) (x5 : Int32) (x6 : Int32), InvK s.k → FrK [7, 113, 114] s0.k s.k → -1 ≤ x2.toInt → x2.toInt ≤ 5 → 0 ≤ x3.toInt → x3.toInt ≤ 4 → -1 ≤ x4.toInt → x4.toInt ≤ 5 → 0 ≤ x5.toInt → 0 ≤ x6.toInt → x6.toInt ≤ 6 → (6 - x6.toInt).toNat < M9 → Ok (k9 s x2 x3 x4 x5 x6) (Q_kX2_bestThing s0)) (s : JS) (x2 : Int32) (x3 : Int32) (x4 : Int32) (x5 : Int32) (x6 : Int32) (hI_s_k : InvK s.k) (hF_s_k : FrK [7, 113, 114] s0.k s.k) (h_x2l : -1 ≤ x2.toInt) (h_x2u : x2.toInt ≤ 5) (h_x3l : 0 ≤ x3.toInt) (h_x3u : x3.toInt ≤ 4) (h_x4l : -1 ≤ x4.toInt) (h_x4u : x4.toInt ≤ 5) (h_x5l : 0 ≤ x5.toInt) (h_x6l : 0 ≤ x6.toInt) (h_x6u : x6.toInt ≤ 6) (hM9 : (6 - x6.toInt).toNat ≤ M9) : Ok (kX2_bestThing_9 k9 s x2 x3 x4 x5 x6) (Q_kX2_bestThing s0) := by
  unfold kX2_bestThing_9
  refine ok_ite (fun c_1 => ?_) (fun c_1 => ?_)
  · have c_1 := tn_le (a := 6) (b := (x6).toInt) (by decide) rfl c_1
    exact ok_some ⟨hI_s_k, hF_s_k, by show -1 ≤ (x4).toInt; omega, by show (x4).toInt ≤ 5; omega⟩
  · have c_1 := tn_nle (a := 6) (b := (x6).toInt) (by decide) rfl c_1
    refine ok_bindI (ok_kX2_oddsIfMay _ _ _ hI_s_k (by omega) (by omega) (by omega) (by omega)) (fun r3 s2 hc_2 => ?_)
    have hI_s2_k : InvK s2.k := hc_2.1
    have hFc_s2_k : FrK [] s.k s2.k := hc_2.2.1
    have hF_s2_k : FrK [7, 113, 114] s0.k s2.k := hF_s_k.trans hFc_s2_k (by decide)
    refine ok_ite (fun c_3 => ?_) (fun c_3 => ?_)
    · have c_3 := tn_le (a := (r3).toInt) (b := (x5).toInt) rfl rfl c_3
      exact ok_kX2_bestThing_63 s0 k9 M9 hk9 _ _ _ _ _ _ hI_s2_k hF_s2_k (by omega) (by omega) (by omega) (by omega) (by omega) (by omega) (by omega) (by omega) (by omega) (by omega)
    · have c_3 := tn_nle (a := (r3).toInt) (b := (x5).toInt) rfl rfl c_3
      refine ok_ite (fun c_4 => ?_) (fun c_4 => ?_)
      · have c_4 := tn_eq (a := (x2).toInt) (b := (-1)) rfl (by decide) c_4
        exact ok_kX2_bestThing_55 s0 k9 M9 hk9 _ _ _ _ _ hI_s2_k hF_s2_k (by omega) (by omega) (by omega) (by omega) (by omega) (by omega) (by omega) (by omega)
      · have c_4 := tn_ne (a := (x2).toInt) (b := (-1)) rfl (by decide) c_4
        refine ok_bindI (ok_kX0_needOf _ _ _ _ hI_s2_k (by omega) (by omega) (by omega) (by omega) (by omega) (by omega)) (fun r7 s6 hc_5 => ?_)
        have hI_s6_k : InvK s6.k := hc_5.1
        have hFc_s6_k : FrK [7, 113, 114] s2.k s6.k := hc_5.2.1
        have hF_s6_k : FrK [7, 113, 114] s0.k s6.k := hF_s2_k.trans hFc_s6_k (by decide)
        have hl_r7 : 0 ≤ r7.toInt := hc_5.2.2.1
        have hu_r7 : r7.toInt ≤ 100 := hc_5.2.2.2
        refine ok_ite (fun c_6 => ?_) (fun c_6 => ?_)
        · have c_6 := tn_lt (a := (r3).toInt) (b := (r7).toInt) rfl rfl c_6
          exact ok_kX2_bestThing_63 s0 k9 M9 hk9 _ _ _ _ _ _ hI_s6_k hF_s6_k (by omega) (by omega) (by omega) (by omega) (by omega) (by omega) (by omega) (by omega) (by omega) (by omega)
        · have c_6 := tn_nlt (a := (r3).toInt) (b := (r7).toInt) rfl rfl c_6
          exact ok_kX2_bestThing_55 s0 k9 M9 hk9 _ _ _ _ _ hI_s6_k hF_s6_k (by omega) (by omega) (by omega) (by omega) (by omega) (by omega) (by omega) (by omega)
theorem okL_kX2_bestThing_9 (s0 : JS)  : ∀ (n : Nat) (s : JS) (x2 : Int32) (x3 : Int32) (x4 : Int32) (x5 : Int32) (x6 : Int32), (6 - x6.toInt).toNat < n → InvK s.k → FrK [7, 113, 114] s0.k s.k → -1 ≤ x2.toInt → x2.toInt ≤ 5 → 0 ≤ x3.toInt → x3.toInt ≤ 4 → -1 ≤ x4.toInt → x4.toInt ≤ 5 → 0 ≤ x5.toInt → 0 ≤ x6.toInt → x6.toInt ≤ 6 → Ok (kX2_bestThing_9L  n s x2 x3 x4 x5 x6) (Q_kX2_bestThing s0) := by
  intro n
  induction n with
  | zero => intro s x2 x3 x4 x5 x6 hn; omega
  | succ n ih =>
    intro s x2 x3 x4 x5 x6 hn hI_s_k hF_s_k h_x2l h_x2u h_x3l h_x3u h_x4l h_x4u h_x5l h_x6l h_x6u 
    exact ok_kX2_bestThing_9 s0 (kX2_bestThing_9L  n) ((6 - x6.toInt).toNat) (fun zs zx2 zx3 zx4 zx5 zx6 g0 g1 g2 g3 g4 g5 g6 g7 g8 g9 g10  hm => ih zs zx2 zx3 zx4 zx5 zx6 (by omega) g0 g1 g2 g3 g4 g5 g6 g7 g8 g9 g10 ) s x2 x3 x4 x5 x6 hI_s_k hF_s_k h_x2l h_x2u h_x3l h_x3u h_x4l h_x4u h_x5l h_x6l h_x6u (Nat.le_refl _)
set_option maxHeartbeats 1000000 in
theorem ok_kX2_bestThingB (s0 : JS)  (s : JS) (x2 : Int32) (x3 : Int32) (hI_s_k : InvK s.k) (hF_s_k : FrK [7, 113, 114] s0.k s.k) (h_x2l : -1 ≤ x2.toInt) (h_x2u : x2.toInt ≤ 5) (h_x3l : 0 ≤ x3.toInt) (h_x3u : x3.toInt ≤ 4)  : Ok (kX2_bestThing  s x2 x3) (Q_kX2_bestThing s0) := by
  unfold kX2_bestThing
  have l_m1 : ((-1) : Int32).toInt = -1 := by decide
  have l_0 : (0 : Int32).toInt = 0 := by decide
  exact okL_kX2_bestThing_9 s0  fu _ _ _ _ _ _ (by unfold fu; omega) hI_s_k hF_s_k (by omega) (by omega) (by omega) (by omega) (by decide) (by decide) (by decide) (by decide) (by decide) 
theorem ok_kX2_bestThing (s : JS) (x2 : Int32) (x3 : Int32) (hI_s_k : InvK s.k) (h_x2l : -1 ≤ x2.toInt) (h_x2u : x2.toInt ≤ 5) (h_x3l : 0 ≤ x3.toInt) (h_x3u : x3.toInt ≤ 4) : Ok (kX2_bestThing s x2 x3) (Q_kX2_bestThing s) := ok_kX2_bestThingB s s x2 x3 hI_s_k FrK.rfl h_x2l h_x2u h_x3l h_x3u
abbrev Q_kX2_borneOver (s0 : JS) (y : Int32 × JS) : Prop := InvK y.2.k ∧ FrK [7, 113, 114] s0.k y.2.k ∧ 0 ≤ y.1.toInt ∧ y.1.toInt ≤ 5
set_option maxHeartbeats 1000000 in
theorem ok_kX2_borneOver_3 (s0 : JS) (k3 : JS → Int32 → Int32 → Int32 → Option (Int32 × JS)) (M3 : Nat) (hk3 : ∀ (s : JS) (x2 : Int32) (x3 : Int32) (x4 : Int32), InvK s.k → FrK [7, 113, 114] s0.k s.k → 0 ≤ x2.toInt → x2.toInt ≤ 5 → 0 ≤ x3.toInt → 0 ≤ x4.toInt → x4.toInt ≤ 5 → (5 - x4.toInt).toNat < M3 → Ok (k3 s x2 x3 x4) (Q_kX2_borneOver s0)) (s : JS) (x2 : Int32) (x3 : Int32) (x4 : Int32) (hI_s_k : InvK s.k) (hF_s_k : FrK [7, 113, 114] s0.k s.k) (h_x2l : 0 ≤ x2.toInt) (h_x2u : x2.toInt ≤ 5) (h_x3l : 0 ≤ x3.toInt) (h_x4l : 0 ≤ x4.toInt) (h_x4u : x4.toInt ≤ 5) (hM3 : (5 - x4.toInt).toNat ≤ M3) : Ok (kX2_borneOver_3 k3 s x2 x3 x4) (Q_kX2_borneOver s0) := by
  unfold kX2_borneOver_3
  have a_1 : 0 ≤ (s.k.v 1).toInt ∧ (s.k.v 1).toInt ≤ 5 := hI_s_k.1 1
  refine ok_ite (fun c_2 => ?_) (fun c_2 => ?_)
  · have c_2 := tn_le (a := ((s.k.v 1)).toInt) (b := (x4).toInt) rfl rfl c_2
    exact ok_some ⟨hI_s_k, hF_s_k, by show 0 ≤ (x4).toInt; omega, by show (x4).toInt ≤ 5; omega⟩
  · have c_2 := tn_nle (a := ((s.k.v 1)).toInt) (b := (x4).toInt) rfl rfl c_2
    refine ok_bindP (ok_kX10_thingIn _ _ (by omega) (by omega)) (fun r2 hc_3 => ?_)
    have hx0_r2 : (0 ≤ (x3).toInt → 0 ≤ r2.toInt ∧ r2.toInt ≤ 5) := hc_3.2.2
    refine ok_bindI (ok_kX0_isBearing _ _ _ _ hI_s_k (by omega) (by omega) (by omega) (by omega) (by omega) (by omega)) (fun r4 s3 hc_4 => ?_)
    have hI_s3_k : InvK s3.k := hc_4.1
    have hFc_s3_k : FrK [7, 113, 114] s.k s3.k := hc_4.2.1
    have hF_s3_k : FrK [7, 113, 114] s0.k s3.k := hF_s_k.trans hFc_s3_k (by decide)
    have hl_r4 : 0 ≤ r4.toInt := hc_4.2.2.1
    have hu_r4 : r4.toInt ≤ 1 := hc_4.2.2.2
    refine ok_ite (fun c_5 => ?_) (fun c_5 => ?_)
    · have c_5 := tn_eq (a := (r4).toInt) (b := 0) rfl (by decide) c_5
      exact ok_some ⟨hI_s3_k, hF_s3_k, by show 0 ≤ (x4).toInt; omega, by show (x4).toInt ≤ 5; omega⟩
    · have c_5 := tn_ne (a := (r4).toInt) (b := 0) rfl (by decide) c_5
      have a_6 : ((x4 + 1)).toInt = (x4).toInt + 1 := tn_add rfl (by decide) (by omega) (by omega)
      exact hk3 _ _ _ _ hI_s3_k hF_s3_k (by omega) (by omega) (by omega) (by omega) (by omega) (by omega)
theorem okL_kX2_borneOver_3 (s0 : JS)  : ∀ (n : Nat) (s : JS) (x2 : Int32) (x3 : Int32) (x4 : Int32), (5 - x4.toInt).toNat < n → InvK s.k → FrK [7, 113, 114] s0.k s.k → 0 ≤ x2.toInt → x2.toInt ≤ 5 → 0 ≤ x3.toInt → 0 ≤ x4.toInt → x4.toInt ≤ 5 → Ok (kX2_borneOver_3L  n s x2 x3 x4) (Q_kX2_borneOver s0) := by
  intro n
  induction n with
  | zero => intro s x2 x3 x4 hn; omega
  | succ n ih =>
    intro s x2 x3 x4 hn hI_s_k hF_s_k h_x2l h_x2u h_x3l h_x4l h_x4u 
    exact ok_kX2_borneOver_3 s0 (kX2_borneOver_3L  n) ((5 - x4.toInt).toNat) (fun zs zx2 zx3 zx4 g0 g1 g2 g3 g4 g5 g6  hm => ih zs zx2 zx3 zx4 (by omega) g0 g1 g2 g3 g4 g5 g6 ) s x2 x3 x4 hI_s_k hF_s_k h_x2l h_x2u h_x3l h_x4l h_x4u (Nat.le_refl _)
set_option maxHeartbeats 1000000 in
theorem ok_kX2_borneOverB (s0 : JS)  (s : JS) (x2 : Int32) (x3 : Int32) (hI_s_k : InvK s.k) (hF_s_k : FrK [7, 113, 114] s0.k s.k) (h_x2l : 0 ≤ x2.toInt) (h_x2u : x2.toInt ≤ 5) (h_x3l : 0 ≤ x3.toInt)  : Ok (kX2_borneOver  s x2 x3) (Q_kX2_borneOver s0) := by
  unfold kX2_borneOver
  have l_0 : (0 : Int32).toInt = 0 := by decide
  exact okL_kX2_borneOver_3 s0  fu _ _ _ _ (by unfold fu; omega) hI_s_k hF_s_k (by omega) (by omega) (by omega) (by decide) (by decide) 
theorem ok_kX2_borneOver (s : JS) (x2 : Int32) (x3 : Int32) (hI_s_k : InvK s.k) (h_x2l : 0 ≤ x2.toInt) (h_x2u : x2.toInt ≤ 5) (h_x3l : 0 ≤ x3.toInt) : Ok (kX2_borneOver s x2 x3) (Q_kX2_borneOver s) := ok_kX2_borneOverB s s x2 x3 hI_s_k FrK.rfl h_x2l h_x2u h_x3l
abbrev Q_kX4_readSum (s0 : KS) (y : KS) : Prop := InvK y ∧ FrK [12, 15, 16, 17, 122] s0 y
set_option maxHeartbeats 1000000 in
theorem ok_kX4_readSum_32 (R : KS → Int32 → Option KS) (D : Nat) (hR : ∀ (s : KS) (x1 : Int32), InvK s → 0 ≤ x1.toInt → x1.toInt ≤ 6 → (6 - x1.toInt).toNat < D → Ok (R s x1) (fun y => InvK y ∧ FrK [12, 15, 16, 17, 122] s y)) (s0 : KS) (k7 : KS → Int32 → Int32 → Option (KS)) (M7 : Nat) (hk7 : ∀ (s : KS) (x1 : Int32) (x2 : Int32), InvK s → FrK [12, 15, 16, 17, 122] s0 s → 0 ≤ x1.toInt → x1.toInt ≤ 6 → 0 ≤ x2.toInt → x2.toInt ≤ 400 → (6 - x1.toInt).toNat ≤ D → (400 - x2.toInt).toNat < M7 → Ok (k7 s x1 x2) (Q_kX4_readSum s0)) (s : KS) (x1 : Int32) (x2 : Int32) (hI_s : InvK s) (hF_s : FrK [12, 15, 16, 17, 122] s0 s) (h_x1l : 0 ≤ x1.toInt) (h_x1u : x1.toInt ≤ 6) (h_x2l : 0 ≤ x2.toInt) (h_x2u : x2.toInt ≤ 399) (hD : (6 - x1.toInt).toNat ≤ D) (hM7 : (400 - x2.toInt).toNat ≤ M7) : Ok (kX4_readSum_32 R k7 s x1 x2) (Q_kX4_readSum s0) := by
  unfold kX4_readSum_32
  have a_1 : 0 ≤ (s.v 15).toInt ∧ (s.v 15).toInt ≤ 400 := hI_s.1 15
  refine ok_grd (vpb_ok (by omega) (by omega)) ?_
  refine ok_bindP (ok_kX4_take _ _ hI_s) (fun s2 hc_2 => ?_)
  have hI_s2 : InvK s2 := hc_2.1
  have hFc_s2 : FrK [15, 16, 17] s s2 := hc_2.2
  have hF_s2 : FrK [12, 15, 16, 17, 122] s0 s2 := hF_s.trans hFc_s2 (by decide)
  refine ok_bindP (ok_kX4_readProduct R D hR _ _ hI_s2 (by omega) (by omega) (by omega)) (fun s3 hc_3 => ?_)
  have hI_s3 : InvK s3 := hc_3.1
  have hFc_s3 : FrK [12, 15, 16, 17, 122] s2 s3 := hc_3.2
  have hF_s3 : FrK [12, 15, 16, 17, 122] s0 s3 := hF_s2.trans hFc_s3 (by decide)
  refine ok_bindP (ok_kX1_putSign _ _ hI_s3) (fun s4 hc_4 => ?_)
  have hI_s4 : InvK s4 := hc_4.1
  have hFc_s4 : FrK [12, 122] s3 s4 := hc_4.2
  have hF_s4 : FrK [12, 15, 16, 17, 122] s0 s4 := hF_s3.trans hFc_s4 (by decide)
  have a_5 : ((x2 + 1)).toInt = (x2).toInt + 1 := tn_add rfl (by decide) (by omega) (by omega)
  exact hk7 _ _ _ hI_s4 hF_s4 (by omega) (by omega) (by omega) (by omega) (by omega) (by omega)
set_option maxHeartbeats 1000000 in
theorem ok_kX4_readSum_7 (R : KS → Int32 → Option KS) (D : Nat) (hR : ∀ (s : KS) (x1 : Int32), InvK s → 0 ≤ x1.toInt → x1.toInt ≤ 6 → (6 - x1.toInt).toNat < D → Ok (R s x1) (fun y => InvK y ∧ FrK [12, 15, 16, 17, 122] s y)) (s0 : KS) (k7 : KS → Int32 → Int32 → Option (KS)) (M7 : Nat) (hk7 : ∀ (s : KS) (x1 : Int32) (x2 : Int32), InvK s → FrK [12, 15, 16, 17, 122] s0 s → 0 ≤ x1.toInt → x1.toInt ≤ 6 → 0 ≤ x2.toInt → x2.toInt ≤ 400 → (6 - x1.toInt).toNat ≤ D → (400 - x2.toInt).toNat < M7 → Ok (k7 s x1 x2) (Q_kX4_readSum s0)) (s : KS) (x1 : Int32) (x2 : Int32) (hI_s : InvK s) (hF_s : FrK [12, 15, 16, 17, 122] s0 s) (h_x1l : 0 ≤ x1.toInt) (h_x1u : x1.toInt ≤ 6) (h_x2l : 0 ≤ x2.toInt) (h_x2u : x2.toInt ≤ 400) (hD : (6 - x1.toInt).toNat ≤ D) (hM7 : (400 - x2.toInt).toNat ≤ M7) : Ok (kX4_readSum_7 R k7 s x1 x2) (Q_kX4_readSum s0) := by
  unfold kX4_readSum_7
  refine ok_ite (fun c_1 => ?_) (fun c_1 => ?_)
  · have c_1 := tn_le (a := 400) (b := (x2).toInt) (by decide) rfl c_1
    exact ok_some ⟨hI_s, hF_s⟩
  · have c_1 := tn_nle (a := 400) (b := (x2).toInt) (by decide) rfl c_1
    refine ok_bindI (ok_kX4_isAt _ _ hI_s) (fun r3 s2 hc_2 => ?_)
    have hI_s2 : InvK s2 := hc_2.1
    have hFc_s2 : FrK [] s s2 := hc_2.2.1
    have hF_s2 : FrK [12, 15, 16, 17, 122] s0 s2 := hF_s.trans hFc_s2 (by decide)
    have hl_r3 : 0 ≤ r3.toInt := hc_2.2.2.1
    have hu_r3 : r3.toInt ≤ 1 := hc_2.2.2.2
    refine ok_ite (fun c_3 => ?_) (fun c_3 => ?_)
    · have c_3 := tn_eq (a := (r3).toInt) (b := 0) rfl (by decide) c_3
      refine ok_bindI (ok_kX4_isAt _ _ hI_s2) (fun r6 s5 hc_4 => ?_)
      have hI_s5 : InvK s5 := hc_4.1
      have hFc_s5 : FrK [] s2 s5 := hc_4.2.1
      have hF_s5 : FrK [12, 15, 16, 17, 122] s0 s5 := hF_s2.trans hFc_s5 (by decide)
      have hl_r6 : 0 ≤ r6.toInt := hc_4.2.2.1
      have hu_r6 : r6.toInt ≤ 1 := hc_4.2.2.2
      refine ok_ite (fun c_5 => ?_) (fun c_5 => ?_)
      · have c_5 := tn_eq (a := (r6).toInt) (b := 0) rfl (by decide) c_5
        exact ok_some ⟨hI_s5, hF_s5⟩
      · have c_5 := tn_ne (a := (r6).toInt) (b := 0) rfl (by decide) c_5
        exact ok_kX4_readSum_32 R D hR s0 k7 M7 hk7 _ _ _ hI_s5 hF_s5 (by omega) (by omega) (by omega) (by omega) (by omega) (by omega)
    · have c_3 := tn_ne (a := (r3).toInt) (b := 0) rfl (by decide) c_3
      exact ok_kX4_readSum_32 R D hR s0 k7 M7 hk7 _ _ _ hI_s2 hF_s2 (by omega) (by omega) (by omega) (by omega) (by omega) (by omega)
theorem okL_kX4_readSum_7 (R : KS → Int32 → Option KS) (D : Nat) (hR : ∀ (s : KS) (x1 : Int32), InvK s → 0 ≤ x1.toInt → x1.toInt ≤ 6 → (6 - x1.toInt).toNat < D → Ok (R s x1) (fun y => InvK y ∧ FrK [12, 15, 16, 17, 122] s y)) (s0 : KS)  : ∀ (n : Nat) (s : KS) (x1 : Int32) (x2 : Int32), (400 - x2.toInt).toNat < n → InvK s → FrK [12, 15, 16, 17, 122] s0 s → 0 ≤ x1.toInt → x1.toInt ≤ 6 → 0 ≤ x2.toInt → x2.toInt ≤ 400 → (6 - x1.toInt).toNat ≤ D → Ok (kX4_readSum_7L R  n s x1 x2) (Q_kX4_readSum s0) := by
  intro n
  induction n with
  | zero => intro s x1 x2 hn; omega
  | succ n ih =>
    intro s x1 x2 hn hI_s hF_s h_x1l h_x1u h_x2l h_x2u hD 
    exact ok_kX4_readSum_7 R D hR s0 (kX4_readSum_7L R  n) ((400 - x2.toInt).toNat) (fun zs zx1 zx2 g0 g1 g2 g3 g4 g5 g6  hm => ih zs zx1 zx2 (by omega) g0 g1 g2 g3 g4 g5 g6 ) s x1 x2 hI_s hF_s h_x1l h_x1u h_x2l h_x2u hD (Nat.le_refl _)
set_option maxHeartbeats 1000000 in
theorem ok_kX4_readSumB (R : KS → Int32 → Option KS) (D : Nat) (hR : ∀ (s : KS) (x1 : Int32), InvK s → 0 ≤ x1.toInt → x1.toInt ≤ 6 → (6 - x1.toInt).toNat < D → Ok (R s x1) (fun y => InvK y ∧ FrK [12, 15, 16, 17, 122] s y)) (s0 : KS)  (s : KS) (x1 : Int32) (hI_s : InvK s) (hF_s : FrK [12, 15, 16, 17, 122] s0 s) (h_x1l : 0 ≤ x1.toInt) (h_x1u : x1.toInt ≤ 6) (hD : (6 - x1.toInt).toNat ≤ D)  : Ok (kX4_readSum R  s x1) (Q_kX4_readSum s0) := by
  unfold kX4_readSum
  refine ok_bindP (ok_kX4_readProduct R D hR _ _ hI_s (by omega) (by omega) (by omega)) (fun s1 hc_1 => ?_)
  have hI_s1 : InvK s1 := hc_1.1
  have hFc_s1 : FrK [12, 15, 16, 17, 122] s s1 := hc_1.2
  have hF_s1 : FrK [12, 15, 16, 17, 122] s0 s1 := hF_s.trans hFc_s1 (by decide)
  have l_0 : (0 : Int32).toInt = 0 := by decide
  exact okL_kX4_readSum_7 R D hR s0  fu _ _ _ (by unfold fu; omega) hI_s1 hF_s1 (by omega) (by omega) (by decide) (by decide) (by omega) 
theorem ok_kX4_readSum (R : KS → Int32 → Option KS) (D : Nat) (hR : ∀ (s : KS) (x1 : Int32), InvK s → 0 ≤ x1.toInt → x1.toInt ≤ 6 → (6 - x1.toInt).toNat < D → Ok (R s x1) (fun y => InvK y ∧ FrK [12, 15, 16, 17, 122] s y)) (s : KS) (x1 : Int32) (hI_s : InvK s) (h_x1l : 0 ≤ x1.toInt) (h_x1u : x1.toInt ≤ 6) (hD : (6 - x1.toInt).toNat ≤ D) : Ok (kX4_readSum R s x1) (Q_kX4_readSum s) := ok_kX4_readSumB R D hR s s x1 hI_s FrK.rfl h_x1l h_x1u hD
theorem ok_kX4_readSumR : ∀ (n : Nat) (s : KS) (x1 : Int32), InvK s → 0 ≤ x1.toInt → x1.toInt ≤ 6 → (6 - x1.toInt).toNat < n → Ok (kX4_readSumR n s x1) (Q_kX4_readSum s) := by
  intro n
  induction n with
  | zero => intro s x1 _ _ _ h; omega
  | succ n ih => intro s x1 hI h0 h1 h; exact ok_kX4_readSum (kX4_readSumR n) n ih s x1 hI h0 h1 (by omega)
theorem ok_kX4_readSumR8 (s : KS) (x1 : Int32) (hI : InvK s) (h0 : 0 ≤ x1.toInt) (h1 : x1.toInt ≤ 0) : Ok (kX4_readSumR 8 s x1) (Q_kX4_readSum s) := ok_kX4_readSumR 8 s x1 hI h0 (by omega) (by omega)
abbrev Q_kX10_wave (s0 : XS) (y : Int32 × XS) : Prop := InvK y.2.k ∧ FrK [7, 113, 114] s0.k y.2.k ∧ InvG y.2.g ∧ -2147483648 ≤ y.1.toInt ∧ y.1.toInt ≤ 2147483647
set_option maxHeartbeats 1000000 in
theorem ok_kX10_waveB (s0 : XS)  (s : XS) (x1 : Int32) (x2 : Int32) (hI_s_k : InvK s.k) (hF_s_k : FrK [7, 113, 114] s0.k s.k) (hI_s_g : InvG s.g)  : Ok (kX10_wave  s x1 x2) (Q_kX10_wave s0) := by
  unfold kX10_wave
  refine ok_bindI (ok_kX5_hasWave _ _ hI_s_k) (fun r2 s1 hc_1 => ?_)
  have hI_s1 : InvK s1 := hc_1.1
  have hFc_s1 : FrK [] s.k s1 := hc_1.2.1
  have hF_s1 : FrK [7, 113, 114] s0.k s1 := hF_s_k.trans hFc_s1 (by decide)
  have hl_r2 : 0 ≤ r2.toInt := hc_1.2.2.1
  have hu_r2 : r2.toInt ≤ 1 := hc_1.2.2.2.1
  have hx0_r2 : (¬ r2.toInt = 0 → 0 ≤ (x1).toInt ∧ (x1).toInt ≤ 4) := hc_1.2.2.2.2
  refine ok_let (fun s3 hs3 => ?_)
  have hI_s3_g : InvG s3.g := by rw [← hs3]; exact hI_s_g
  have hI_s3_k : InvK s3.k := by rw [← hs3]; exact hI_s1
  have hF_s3_k : FrK [7, 113, 114] s0.k s3.k := by rw [← hs3]; exact hF_s1
  refine ok_ite (fun c_2 => ?_) (fun c_2 => ?_)
  · have c_2 := tn_eq (a := (r2).toInt) (b := 0) rfl (by decide) c_2
    exact ok_some ⟨hI_s3_k, hF_s3_k, hI_s3_g, (ti_rng _).1, (ti_rng _).2⟩
  · have c_2 := tn_ne (a := (r2).toInt) (b := 0) rfl (by decide) c_2
    refine ok_ite (fun c_3 => ?_) (fun c_3 => ?_)
    · have c_3 := tn_eq (a := (x2).toInt) (b := 0) rfl (by decide) c_3
      refine ok_bindI (ok_kX0_mayBe _ _ hI_s3_k (by omega) (by omega)) (fun r8 s7 hc_4 => ?_)
      have hI_s7_k : InvK s7.k := hc_4.1
      have hFc_s7_k : FrK [] s3.k s7.k := hc_4.2.1
      have hF_s7_k : FrK [7, 113, 114] s0.k s7.k := hF_s3_k.trans hFc_s7_k (by decide)
      refine ok_let (fun s9 hs9 => ?_)
      have hI_s9_g : InvG s9.g := by rw [← hs9]; exact hI_s3_g
      have hI_s9_k : InvK s9.k := by rw [← hs9]; exact hI_s7_k
      have hF_s9_k : FrK [7, 113, 114] s0.k s9.k := by rw [← hs9]; exact hF_s7_k
      exact ok_some ⟨hI_s9_k, hF_s9_k, hI_s9_g, (ti_rng _).1, (ti_rng _).2⟩
    · have c_3 := tn_ne (a := (x2).toInt) (b := 0) rfl (by decide) c_3
      refine ok_ite (fun c_5 => ?_) (fun c_5 => ?_)
      · have c_5 := tn_eq (a := (x2).toInt) (b := 1) rfl (by decide) c_5
        refine ok_grd (vpb_ok (by omega) (by omega)) ?_
        refine ok_ite (fun c_6 => ?_) (fun c_6 => ?_)
        · have c_6 := tn_eq (a := (((s3.n.f 0) (Int32.toNatClampNeg x1))).toInt) (b := (-1)) rfl (by decide) c_6
          exact ok_some ⟨hI_s3_k, hF_s3_k, hI_s3_g, (ti_rng _).1, (ti_rng _).2⟩
        · have c_6 := tn_ne (a := (((s3.n.f 0) (Int32.toNatClampNeg x1))).toInt) (b := (-1)) rfl (by decide) c_6
          refine ok_grd (vpb_ok (by omega) (by omega)) ?_
          exact ok_some ⟨hI_s3_k, hF_s3_k, hI_s3_g, (ti_rng _).1, (ti_rng _).2⟩
      · have c_5 := tn_ne (a := (x2).toInt) (b := 1) rfl (by decide) c_5
        refine ok_ite (fun c_7 => ?_) (fun c_7 => ?_)
        · have c_7 := tn_eq (a := (x2).toInt) (b := 2) rfl (by decide) c_7
          refine ok_grd (vpb_ok (by omega) (by omega)) ?_
          exact ok_some ⟨hI_s3_k, hF_s3_k, hI_s3_g, (ti_rng _).1, (ti_rng _).2⟩
        · have c_7 := tn_ne (a := (x2).toInt) (b := 2) rfl (by decide) c_7
          refine ok_ite (fun c_8 => ?_) (fun c_8 => ?_)
          · have c_8 := tn_eq (a := (x2).toInt) (b := 3) rfl (by decide) c_8
            refine ok_grd (vpb_ok (by omega) (by omega)) ?_
            exact ok_some ⟨hI_s3_k, hF_s3_k, hI_s3_g, (ti_rng _).1, (ti_rng _).2⟩
          · have c_8 := tn_ne (a := (x2).toInt) (b := 3) rfl (by decide) c_8
            refine ok_ite (fun c_9 => ?_) (fun c_9 => ?_)
            · have c_9 := tn_eq (a := (x2).toInt) (b := 4) rfl (by decide) c_9
              refine ok_bindI (ok_kX0_thereNow _ _ hI_s3_k (by omega) (by omega)) (fun r21 s20 hc_10 => ?_)
              have hI_s20_k : InvK s20.k := hc_10.1
              have hFc_s20_k : FrK [] s3.k s20.k := hc_10.2.1
              have hF_s20_k : FrK [7, 113, 114] s0.k s20.k := hF_s3_k.trans hFc_s20_k (by decide)
              have hl_r21 : 0 ≤ r21.toInt := hc_10.2.2.1
              have hu_r21 : r21.toInt ≤ 5 := hc_10.2.2.2
              refine ok_let (fun s22 hs22 => ?_)
              have hI_s22_g : InvG s22.g := by rw [← hs22]; exact hI_s3_g
              have hI_s22_k : InvK s22.k := by rw [← hs22]; exact hI_s20_k
              have hF_s22_k : FrK [7, 113, 114] s0.k s22.k := by rw [← hs22]; exact hF_s20_k
              exact ok_some ⟨hI_s22_k, hF_s22_k, hI_s22_g, (ti_rng _).1, (ti_rng _).2⟩
            · have c_9 := tn_ne (a := (x2).toInt) (b := 4) rfl (by decide) c_9
              refine ok_ite (fun c_11 => ?_) (fun c_11 => ?_)
              · have c_11 := tn_eq (a := (x2).toInt) (b := 5) rfl (by decide) c_11
                refine ok_bindI (ok_kX0_shiftsOf _ _ hI_s3_k (by omega) (by omega)) (fun r26 s25 hc_12 => ?_)
                have hI_s25_k : InvK s25.k := hc_12.1
                have hFc_s25_k : FrK [7, 113, 114] s3.k s25.k := hc_12.2.1
                have hF_s25_k : FrK [7, 113, 114] s0.k s25.k := hF_s3_k.trans hFc_s25_k (by decide)
                have hl_r26 : 0 ≤ r26.toInt := hc_12.2.2.1
                have hu_r26 : r26.toInt ≤ 100 := hc_12.2.2.2
                refine ok_let (fun s27 hs27 => ?_)
                have hI_s27_g : InvG s27.g := by rw [← hs27]; exact hI_s3_g
                have hI_s27_k : InvK s27.k := by rw [← hs27]; exact hI_s25_k
                have hF_s27_k : FrK [7, 113, 114] s0.k s27.k := by rw [← hs27]; exact hF_s25_k
                exact ok_some ⟨hI_s27_k, hF_s27_k, hI_s27_g, (ti_rng _).1, (ti_rng _).2⟩
              · have c_11 := tn_ne (a := (x2).toInt) (b := 5) rfl (by decide) c_11
                exact ok_some ⟨hI_s3_k, hF_s3_k, hI_s3_g, (ti_rng _).1, (ti_rng _).2⟩
theorem ok_kX10_wave (s : XS) (x1 : Int32) (x2 : Int32) (hI_s_k : InvK s.k) (hI_s_g : InvG s.g) : Ok (kX10_wave s x1 x2) (Q_kX10_wave s) := ok_kX10_waveB s s x1 x2 hI_s_k FrK.rfl hI_s_g
abbrev Q_kX10_party (s0 : XS) (y : Int32 × XS) : Prop := InvK y.2.k ∧ FrK [7, 113, 114] s0.k y.2.k ∧ InvG y.2.g ∧ -2147483648 ≤ y.1.toInt ∧ y.1.toInt ≤ 2147483647
set_option maxHeartbeats 1000000 in
theorem ok_kX10_partyB (s0 : XS)  (s : XS) (x1 : Int32) (x2 : Int32) (hI_s_k : InvK s.k) (hF_s_k : FrK [7, 113, 114] s0.k s.k) (hI_s_g : InvG s.g)  : Ok (kX10_party  s x1 x2) (Q_kX10_party s0) := by
  unfold kX10_party
  refine ok_bindI (ok_kX5_hasParty _ _ hI_s_k) (fun r2 s1 hc_1 => ?_)
  have hI_s1 : InvK s1 := hc_1.1
  have hFc_s1 : FrK [] s.k s1 := hc_1.2.1
  have hF_s1 : FrK [7, 113, 114] s0.k s1 := hF_s_k.trans hFc_s1 (by decide)
  have hl_r2 : 0 ≤ r2.toInt := hc_1.2.2.1
  have hu_r2 : r2.toInt ≤ 1 := hc_1.2.2.2.1
  have hx0_r2 : (¬ r2.toInt = 0 → 0 ≤ (x1).toInt ∧ (x1).toInt ≤ 5) := hc_1.2.2.2.2
  refine ok_let (fun s3 hs3 => ?_)
  have hI_s3_g : InvG s3.g := by rw [← hs3]; exact hI_s_g
  have hI_s3_k : InvK s3.k := by rw [← hs3]; exact hI_s1
  have hF_s3_k : FrK [7, 113, 114] s0.k s3.k := by rw [← hs3]; exact hF_s1
  refine ok_ite (fun c_2 => ?_) (fun c_2 => ?_)
  · have c_2 := tn_eq (a := (r2).toInt) (b := 0) rfl (by decide) c_2
    exact ok_some ⟨hI_s3_k, hF_s3_k, hI_s3_g, (ti_rng _).1, (ti_rng _).2⟩
  · have c_2 := tn_ne (a := (r2).toInt) (b := 0) rfl (by decide) c_2
    refine ok_ite (fun c_3 => ?_) (fun c_3 => ?_)
    · have c_3 := tn_eq (a := (x2).toInt) (b := 0) rfl (by decide) c_3
      refine ok_grd (vpb_ok (by omega) (by omega)) ?_
      exact ok_some ⟨hI_s3_k, hF_s3_k, hI_s3_g, (ti_rng _).1, (ti_rng _).2⟩
    · have c_3 := tn_ne (a := (x2).toInt) (b := 0) rfl (by decide) c_3
      refine ok_ite (fun c_4 => ?_) (fun c_4 => ?_)
      · have c_4 := tn_eq (a := (x2).toInt) (b := 1) rfl (by decide) c_4
        refine ok_grd (vpb_ok (by omega) (by omega)) ?_
        exact ok_some ⟨hI_s3_k, hF_s3_k, hI_s3_g, (ti_rng _).1, (ti_rng _).2⟩
      · have c_4 := tn_ne (a := (x2).toInt) (b := 1) rfl (by decide) c_4
        refine ok_ite (fun c_5 => ?_) (fun c_5 => ?_)
        · have c_5 := tn_eq (a := (x2).toInt) (b := 2) rfl (by decide) c_5
          refine ok_grd (vpb_ok (by omega) (by omega)) ?_
          exact ok_some ⟨hI_s3_k, hF_s3_k, hI_s3_g, (ti_rng _).1, (ti_rng _).2⟩
        · have c_5 := tn_ne (a := (x2).toInt) (b := 2) rfl (by decide) c_5
          refine ok_ite (fun c_6 => ?_) (fun c_6 => ?_)
          · have c_6 := tn_eq (a := (x2).toInt) (b := 3) rfl (by decide) c_6
            refine ok_grd (vpb_ok (by omega) (by omega)) ?_
            exact ok_some ⟨hI_s3_k, hF_s3_k, hI_s3_g, (ti_rng _).1, (ti_rng _).2⟩
          · have c_6 := tn_ne (a := (x2).toInt) (b := 3) rfl (by decide) c_6
            refine ok_ite (fun c_7 => ?_) (fun c_7 => ?_)
            · have c_7 := tn_eq (a := (x2).toInt) (b := 4) rfl (by decide) c_7
              refine ok_bindI (ok_kX0_fareOf _ _ hI_s3_k (by omega) (by omega)) (fun r16 s15 hc_8 => ?_)
              have hI_s15_k : InvK s15.k := hc_8.1
              have hFc_s15_k : FrK [7, 113, 114] s3.k s15.k := hc_8.2.1
              have hF_s15_k : FrK [7, 113, 114] s0.k s15.k := hF_s3_k.trans hFc_s15_k (by decide)
              have hl_r16 : 0 ≤ r16.toInt := hc_8.2.2.1
              have hu_r16 : r16.toInt ≤ 100 := hc_8.2.2.2
              refine ok_let (fun s17 hs17 => ?_)
              have hI_s17_g : InvG s17.g := by rw [← hs17]; exact hI_s3_g
              have hI_s17_k : InvK s17.k := by rw [← hs17]; exact hI_s15_k
              have hF_s17_k : FrK [7, 113, 114] s0.k s17.k := by rw [← hs17]; exact hF_s15_k
              exact ok_some ⟨hI_s17_k, hF_s17_k, hI_s17_g, (ti_rng _).1, (ti_rng _).2⟩
            · have c_7 := tn_ne (a := (x2).toInt) (b := 4) rfl (by decide) c_7
              refine ok_ite (fun c_9 => ?_) (fun c_9 => ?_)
              · have c_9 := tn_eq (a := (x2).toInt) (b := 5) rfl (by decide) c_9
                refine ok_bindI (ok_kX0_isDaring _ _ hI_s3_k (by omega) (by omega)) (fun r21 s20 hc_10 => ?_)
                have hI_s20_k : InvK s20.k := hc_10.1
                have hFc_s20_k : FrK [7, 113, 114] s3.k s20.k := hc_10.2.1
                have hF_s20_k : FrK [7, 113, 114] s0.k s20.k := hF_s3_k.trans hFc_s20_k (by decide)
                have hl_r21 : 0 ≤ r21.toInt := hc_10.2.2.1
                have hu_r21 : r21.toInt ≤ 1 := hc_10.2.2.2
                refine ok_let (fun s22 hs22 => ?_)
                have hI_s22_g : InvG s22.g := by rw [← hs22]; exact hI_s3_g
                have hI_s22_k : InvK s22.k := by rw [← hs22]; exact hI_s20_k
                have hF_s22_k : FrK [7, 113, 114] s0.k s22.k := by rw [← hs22]; exact hF_s20_k
                refine ok_ite (fun c_11 => ?_) (fun c_11 => ?_)
                · have c_11 := tn_eq (a := (r21).toInt) (b := 0) rfl (by decide) c_11
                  exact ok_some ⟨hI_s22_k, hF_s22_k, hI_s22_g, (ti_rng _).1, (ti_rng _).2⟩
                · have c_11 := tn_ne (a := (r21).toInt) (b := 0) rfl (by decide) c_11
                  exact ok_some ⟨hI_s22_k, hF_s22_k, hI_s22_g, (ti_rng _).1, (ti_rng _).2⟩
              · have c_9 := tn_ne (a := (x2).toInt) (b := 5) rfl (by decide) c_9
                exact ok_some ⟨hI_s3_k, hF_s3_k, hI_s3_g, (ti_rng _).1, (ti_rng _).2⟩
theorem ok_kX10_party (s : XS) (x1 : Int32) (x2 : Int32) (hI_s_k : InvK s.k) (hI_s_g : InvG s.g) : Ok (kX10_party s x1 x2) (Q_kX10_party s) := ok_kX10_partyB s s x1 x2 hI_s_k FrK.rfl hI_s_g
abbrev Q_kX10_needs (s0 : XS) (y : Int32 × XS) : Prop := InvK y.2.k ∧ FrK [7, 113, 114] s0.k y.2.k ∧ InvG y.2.g ∧ -1 ≤ y.1.toInt ∧ y.1.toInt ≤ 100
set_option maxHeartbeats 1000000 in
theorem ok_kX10_needsB (s0 : XS)  (s : XS) (x1 : Int32) (x2 : Int32) (x3 : Int32) (hI_s_k : InvK s.k) (hF_s_k : FrK [7, 113, 114] s0.k s.k) (hI_s_g : InvG s.g)  : Ok (kX10_needs  s x1 x2 x3) (Q_kX10_needs s0) := by
  unfold kX10_needs
  refine ok_bindI (ok_kX5_hasParty _ _ hI_s_k) (fun r2 s1 hc_1 => ?_)
  have hI_s1 : InvK s1 := hc_1.1
  have hFc_s1 : FrK [] s.k s1 := hc_1.2.1
  have hF_s1 : FrK [7, 113, 114] s0.k s1 := hF_s_k.trans hFc_s1 (by decide)
  have hl_r2 : 0 ≤ r2.toInt := hc_1.2.2.1
  have hu_r2 : r2.toInt ≤ 1 := hc_1.2.2.2.1
  have hx0_r2 : (¬ r2.toInt = 0 → 0 ≤ (x1).toInt ∧ (x1).toInt ≤ 5) := hc_1.2.2.2.2
  refine ok_let (fun s3 hs3 => ?_)
  have hI_s3_g : InvG s3.g := by rw [← hs3]; exact hI_s_g
  have hI_s3_k : InvK s3.k := by rw [← hs3]; exact hI_s1
  have hF_s3_k : FrK [7, 113, 114] s0.k s3.k := by rw [← hs3]; exact hF_s1
  refine ok_ite (fun c_2 => ?_) (fun c_2 => ?_)
  · have c_2 := tn_eq (a := (r2).toInt) (b := 0) rfl (by decide) c_2
    exact ok_some ⟨hI_s3_k, hF_s3_k, hI_s3_g, by show -1 ≤ ((-1) : Int32).toInt; decide, by show ((-1) : Int32).toInt ≤ 100; decide⟩
  · have c_2 := tn_ne (a := (r2).toInt) (b := 0) rfl (by decide) c_2
    refine ok_bindI (ok_kX5_hasWave _ _ hI_s3_k) (fun r7 s6 hc_3 => ?_)
    have hI_s6 : InvK s6 := hc_3.1
    have hFc_s6 : FrK [] s3.k s6 := hc_3.2.1
    have hF_s6 : FrK [7, 113, 114] s0.k s6 := hF_s3_k.trans hFc_s6 (by decide)
    have hl_r7 : 0 ≤ r7.toInt := hc_3.2.2.1
    have hu_r7 : r7.toInt ≤ 1 := hc_3.2.2.2.1
    have hx0_r7 : (¬ r7.toInt = 0 → 0 ≤ (x2).toInt ∧ (x2).toInt ≤ 4) := hc_3.2.2.2.2
    refine ok_let (fun s8 hs8 => ?_)
    have hI_s8_g : InvG s8.g := by rw [← hs8]; exact hI_s3_g
    have hI_s8_k : InvK s8.k := by rw [← hs8]; exact hI_s6
    have hF_s8_k : FrK [7, 113, 114] s0.k s8.k := by rw [← hs8]; exact hF_s6
    refine ok_ite (fun c_4 => ?_) (fun c_4 => ?_)
    · have c_4 := tn_eq (a := (r7).toInt) (b := 0) rfl (by decide) c_4
      exact ok_some ⟨hI_s8_k, hF_s8_k, hI_s8_g, by show -1 ≤ ((-1) : Int32).toInt; decide, by show ((-1) : Int32).toInt ≤ 100; decide⟩
    · have c_4 := tn_ne (a := (r7).toInt) (b := 0) rfl (by decide) c_4
      refine ok_bindP (ok_kX10_isThing _ ) (fun r11 hc_5 => ?_)
      have hl_r11 : 0 ≤ r11.toInt := hc_5.1
      have hu_r11 : r11.toInt ≤ 1 := hc_5.2.1
      have hx0_r11 : (¬ r11.toInt = 0 → 0 ≤ (x3).toInt ∧ (x3).toInt ≤ 5) := hc_5.2.2
      refine ok_ite (fun c_6 => ?_) (fun c_6 => ?_)
      · have c_6 := tn_eq (a := (r11).toInt) (b := 0) rfl (by decide) c_6
        exact ok_some ⟨hI_s8_k, hF_s8_k, hI_s8_g, by show -1 ≤ ((-1) : Int32).toInt; decide, by show ((-1) : Int32).toInt ≤ 100; decide⟩
      · have c_6 := tn_ne (a := (r11).toInt) (b := 0) rfl (by decide) c_6
        refine ok_bindI (ok_kX0_needOf _ _ _ _ hI_s8_k (by omega) (by omega) (by omega) (by omega) (by omega) (by omega)) (fun r14 s13 hc_7 => ?_)
        have hI_s13_k : InvK s13.k := hc_7.1
        have hFc_s13_k : FrK [7, 113, 114] s8.k s13.k := hc_7.2.1
        have hF_s13_k : FrK [7, 113, 114] s0.k s13.k := hF_s8_k.trans hFc_s13_k (by decide)
        have hl_r14 : 0 ≤ r14.toInt := hc_7.2.2.1
        have hu_r14 : r14.toInt ≤ 100 := hc_7.2.2.2
        refine ok_let (fun s15 hs15 => ?_)
        have hI_s15_g : InvG s15.g := by rw [← hs15]; exact hI_s8_g
        have hI_s15_k : InvK s15.k := by rw [← hs15]; exact hI_s13_k
        have hF_s15_k : FrK [7, 113, 114] s0.k s15.k := by rw [← hs15]; exact hF_s13_k
        exact ok_some ⟨hI_s15_k, hF_s15_k, hI_s15_g, by show -1 ≤ (r14).toInt; omega, by show (r14).toInt ≤ 100; omega⟩
theorem ok_kX10_needs (s : XS) (x1 : Int32) (x2 : Int32) (x3 : Int32) (hI_s_k : InvK s.k) (hI_s_g : InvG s.g) : Ok (kX10_needs s x1 x2 x3) (Q_kX10_needs s) := ok_kX10_needsB s s x1 x2 x3 hI_s_k FrK.rfl hI_s_g
abbrev Q_kX10_go (s0 : YS) (y : Int32 × YS) : Prop := InvK y.2.x.k ∧ FrK [7, 113, 114] s0.x.k y.2.x.k ∧ InvG y.2.x.g ∧ -2147483648 ≤ y.1.toInt ∧ y.1.toInt ≤ 2147483647
set_option maxHeartbeats 1000000 in
theorem ok_kX10_goB (s0 : YS)  (s : YS) (x1 : Int32) (x2 : Int32) (hI_s_x_k : InvK s.x.k) (hF_s_x_k : FrK [7, 113, 114] s0.x.k s.x.k) (hI_s_x_g : InvG s.x.g)  : Ok (kX10_go  s x1 x2) (Q_kX10_go s0) := by
  unfold kX10_go
  refine ok_bindI (ok_kX10_isHere _ _ hI_s_x_k hI_s_x_g) (fun r2 s1 hc_1 => ?_)
  have hI_s1_k : InvK s1.k := hc_1.1
  have hFc_s1_k : FrK [] s.x.k s1.k := hc_1.2.1
  have hF_s1_k : FrK [7, 113, 114] s0.x.k s1.k := hF_s_x_k.trans hFc_s1_k (by decide)
  have hI_s1_g : InvG s1.g := hc_1.2.2.1
  have hl_r2 : 0 ≤ r2.toInt := hc_1.2.2.2.1
  have hu_r2 : r2.toInt ≤ 1 := hc_1.2.2.2.2.1
  have hx0_r2 : (¬ r2.toInt = 0 → 0 ≤ (x1).toInt ∧ (x1).toInt ≤ 5) := hc_1.2.2.2.2.2
  refine ok_let (fun s3 hs3 => ?_)
  have hI_s3_x_k : InvK s3.x.k := by rw [← hs3]; exact hI_s1_k
  have hF_s3_x_k : FrK [7, 113, 114] s0.x.k s3.x.k := by rw [← hs3]; exact hF_s1_k
  have hI_s3_x_g : InvG s3.x.g := by rw [← hs3]; exact hI_s1_g
  refine ok_ite (fun c_2 => ?_) (fun c_2 => ?_)
  · have c_2 := tn_eq (a := (r2).toInt) (b := 0) rfl (by decide) c_2
    exact ok_some ⟨hI_s3_x_k, hF_s3_x_k, hI_s3_x_g, (ti_rng _).1, (ti_rng _).2⟩
  · have c_2 := tn_ne (a := (r2).toInt) (b := 0) rfl (by decide) c_2
    have a_3 : 0 ≤ (s.x.k.v 1).toInt ∧ (s.x.k.v 1).toInt ≤ 5 := hI_s_x_k.1 1
    have a_4 : (s1.k.v 1).toInt = (s.x.k.v 1).toInt := congrArg Int32.toInt (hFc_s1_k.1 1 (by decide))
    have a_5 : (s3.x.k.v 1).toInt = (s1.k.v 1).toInt := congrArg Int32.toInt (show s3.x.k.v 1 = s1.k.v 1 by rw [← hs3]; rfl)
    refine ok_ite (fun c_6 => ?_) (fun c_6 => ?_)
    · have c_6 := tn_eq (a := ((s3.x.k.v 1)).toInt) (b := 0) rfl (by decide) c_6
      exact ok_some ⟨hI_s3_x_k, hF_s3_x_k, hI_s3_x_g, (ti_rng _).1, (ti_rng _).2⟩
    · have c_6 := tn_ne (a := ((s3.x.k.v 1)).toInt) (b := 0) rfl (by decide) c_6
      refine ok_bindI (ok_kX5_hasGuess _ _ hI_s3_x_k) (fun r8 s7 hc_7 => ?_)
      have hI_s7 : InvK s7 := hc_7.1
      have hFc_s7 : FrK [] s3.x.k s7 := hc_7.2.1
      have hF_s7 : FrK [7, 113, 114] s0.x.k s7 := hF_s3_x_k.trans hFc_s7 (by decide)
      have hl_r8 : 0 ≤ r8.toInt := hc_7.2.2.1
      have hu_r8 : r8.toInt ≤ 1 := hc_7.2.2.2.1
      have hx0_r8 : (¬ r8.toInt = 0 → 0 ≤ (x2).toInt) := hc_7.2.2.2.2
      refine ok_let (fun s9 hs9 => ?_)
      have hI_s9_x_k : InvK s9.x.k := by rw [← hs9]; exact hI_s7
      have hF_s9_x_k : FrK [7, 113, 114] s0.x.k s9.x.k := by rw [← hs9]; exact hF_s7
      have hI_s9_x_g : InvG s9.x.g := by rw [← hs9]; exact hI_s3_x_g
      refine ok_ite (fun c_8 => ?_) (fun c_8 => ?_)
      · have c_8 := tn_eq (a := (r8).toInt) (b := 0) rfl (by decide) c_8
        exact ok_some ⟨hI_s9_x_k, hF_s9_x_k, hI_s9_x_g, (ti_rng _).1, (ti_rng _).2⟩
      · have c_8 := tn_ne (a := (r8).toInt) (b := 0) rfl (by decide) c_8
        refine ok_bindP (ok_kX3_remember _  hI_s9_x_g) (fun s12 hc_9 => ?_)
        have hI_s12_g : InvG s12.g := hc_9
        refine ok_let (fun s13 hs13 => ?_)
        have hI_s13_x_k : InvK s13.x.k := by rw [← hs13]; exact hI_s9_x_k
        have hF_s13_x_k : FrK [7, 113, 114] s0.x.k s13.x.k := by rw [← hs13]; exact hF_s9_x_k
        have hI_s13_x_g : InvG s13.x.g := by rw [← hs13]; exact hI_s12_g
        refine ok_bindI (ok_kX0_sendBy _ _ _ hI_s13_x_k (by omega) (by omega) (by omega)) (fun r16 s15 hc_10 => ?_)
        have hI_s15_k : InvK s15.k := hc_10.1
        have hFc_s15_k : FrK [7, 113, 114] s13.x.k s15.k := hc_10.2.1
        have hF_s15_k : FrK [7, 113, 114] s0.x.k s15.k := hF_s13_x_k.trans hFc_s15_k (by decide)
        refine ok_let (fun s17 hs17 => ?_)
        have hI_s17_x_k : InvK s17.x.k := by rw [← hs17]; exact hI_s15_k
        have hF_s17_x_k : FrK [7, 113, 114] s0.x.k s17.x.k := by rw [← hs17]; exact hF_s15_k
        have hI_s17_x_g : InvG s17.x.g := by rw [← hs17]; exact hI_s13_x_g
        exact ok_some ⟨hI_s17_x_k, hF_s17_x_k, hI_s17_x_g, (ti_rng _).1, (ti_rng _).2⟩
theorem ok_kX10_go (s : YS) (x1 : Int32) (x2 : Int32) (hI_s_x_k : InvK s.x.k) (hI_s_x_g : InvG s.x.g) : Ok (kX10_go s x1 x2) (Q_kX10_go s) := ok_kX10_goB s s x1 x2 hI_s_x_k FrK.rfl hI_s_x_g
