abbrev Q_r_darers (s0 : RS) (y : Int32 × RS) : Prop := InvR y.2 ∧ FrR [42, 45, 140, 141, 144] s0 y.2 ∧ -2147483648 ≤ y.1.toInt ∧ y.1.toInt ≤ 2147483647
set_option maxHeartbeats 1000000 in
theorem ok_r_darers_43 (s0 : RS) (hB : Big s0) (k8 : RS → Int32 → Int32 → Option (Int32 × RS)) (M8 : Nat) (hk8 : ∀ (s : RS) (x1 : Int32) (x2 : Int32), InvR s → FrR [42, 45, 140, 141, 144] s0 s → 0 ≤ x2.toInt → x2.toInt ≤ 6 → (6 - x2.toInt).toNat < M8 → Ok (k8 s x1 x2) (Q_r_darers s0)) (s : RS) (x1 : Int32) (x2 : Int32) (hI_s : InvR s) (hF_s : FrR [42, 45, 140, 141, 144] s0 s) (h_x2l : 0 ≤ x2.toInt) (h_x2u : x2.toInt ≤ 5) (hM8 : (6 - x2.toInt).toNat ≤ M8) : Ok (r_darers_43 k8 s x1 x2) (Q_r_darers s0) := by
  unfold r_darers_43
  have a_1 : ((x2 + 1)).toInt = (x2).toInt + 1 := tn_add rfl (by decide) (by omega) (by omega)
  exact hk8 _ _ _ hI_s hF_s (by omega) (by omega) (by omega)
set_option maxHeartbeats 1000000 in
theorem ok_r_darers_8 (s0 : RS) (hB : Big s0) (k8 : RS → Int32 → Int32 → Option (Int32 × RS)) (M8 : Nat) (hk8 : ∀ (s : RS) (x1 : Int32) (x2 : Int32), InvR s → FrR [42, 45, 140, 141, 144] s0 s → 0 ≤ x2.toInt → x2.toInt ≤ 6 → (6 - x2.toInt).toNat < M8 → Ok (k8 s x1 x2) (Q_r_darers s0)) (s : RS) (x1 : Int32) (x2 : Int32) (hI_s : InvR s) (hF_s : FrR [42, 45, 140, 141, 144] s0 s) (h_x2l : 0 ≤ x2.toInt) (h_x2u : x2.toInt ≤ 6) (hM8 : (6 - x2.toInt).toNat ≤ M8) : Ok (r_darers_8 k8 s x1 x2) (Q_r_darers s0) := by
  unfold r_darers_8
  have a_1 : 0 ≤ (s.v 18).toInt ∧ (s.v 18).toInt ≤ 1 := hI_s.1 18
  refine ok_grd (vpb_ok (by omega) (by omega)) ?_
  have a_2 : 0 ≤ ((s.f 23 (Int32.toNatClampNeg (s.v 18)))).toInt ∧ ((s.f 23 (Int32.toNatClampNeg (s.v 18)))).toInt ≤ 6 := hI_s.2 23 _
  refine ok_ite (fun c_3 => ?_) (fun c_3 => ?_)
  · have c_3 := tn_le (a := ((s.f 23 (Int32.toNatClampNeg (s.v 18)))).toInt) (b := (x2).toInt) rfl rfl c_3
    exact ok_some ⟨hI_s, hF_s, (ti_rng _).1, (ti_rng _).2⟩
  · have c_3 := tn_nle (a := ((s.f 23 (Int32.toNatClampNeg (s.v 18)))).toInt) (b := (x2).toInt) rfl rfl c_3
    refine ok_bindI (ok_r_isHere _ _ hI_s) (fun r4 s3 hc_4 => ?_)
    have hI_s3 : InvR s3 := hc_4.1
    have hFc_s3 : FrR [] s s3 := hc_4.2.1
    have hF_s3 : FrR [42, 45, 140, 141, 144] s0 s3 := hF_s.trans hFc_s3 (by decide)
    have hl_r4 : 0 ≤ r4.toInt := hc_4.2.2.1
    have hu_r4 : r4.toInt ≤ 1 := hc_4.2.2.2.1
    have hx0_r4 : (¬ r4.toInt = 0 → 0 ≤ (x2).toInt ∧ (x2).toInt ≤ 5) := hc_4.2.2.2.2
    refine ok_ite (fun c_5 => ?_) (fun c_5 => ?_)
    · have c_5 := tn_eq (a := (r4).toInt) (b := 0) rfl (by decide) c_5
      exact ok_r_darers_43 s0 hB k8 M8 hk8 _ _ _ hI_s3 hF_s3 (by omega) (by omega) (by omega)
    · have c_5 := tn_ne (a := (r4).toInt) (b := 0) rfl (by decide) c_5
      refine ok_bindI (ok_r_doesDare _ _ hI_s3 (hB.fr hF_s3 (by decide)) (by omega) (by omega)) (fun r7 s6 hc_6 => ?_)
      have hI_s6 : InvR s6 := hc_6.1
      have hFc_s6 : FrR [42, 140, 141] s3 s6 := hc_6.2.1
      have hF_s6 : FrR [42, 45, 140, 141, 144] s0 s6 := hF_s3.trans hFc_s6 (by decide)
      have hl_r7 : 0 ≤ r7.toInt := hc_6.2.2.1
      have hu_r7 : r7.toInt ≤ 1 := hc_6.2.2.2
      refine ok_ite (fun c_7 => ?_) (fun c_7 => ?_)
      · have c_7 := tn_eq (a := (r7).toInt) (b := 0) rfl (by decide) c_7
        exact ok_r_darers_43 s0 hB k8 M8 hk8 _ _ _ hI_s6 hF_s6 (by omega) (by omega) (by omega)
      · have c_7 := tn_ne (a := (r7).toInt) (b := 0) rfl (by decide) c_7
        exact ok_r_darers_43 s0 hB k8 M8 hk8 _ _ _ hI_s6 hF_s6 (by omega) (by omega) (by omega)
theorem okL_r_darers_8 (s0 : RS) (hB : Big s0)  : ∀ (n : Nat) (s : RS) (x1 : Int32) (x2 : Int32), (6 - x2.toInt).toNat < n → InvR s → FrR [42, 45, 140, 141, 144] s0 s → 0 ≤ x2.toInt → x2.toInt ≤ 6 → Ok (r_darers_8L  n s x1 x2) (Q_r_darers s0) := by
  intro n
  induction n with
  | zero => intro s x1 x2 hn; omega
  | succ n ih =>
    intro s x1 x2 hn hI_s hF_s h_x2l h_x2u 
    exact ok_r_darers_8 s0 hB (r_darers_8L  n) ((6 - x2.toInt).toNat) (fun zs zx1 zx2 g0 g1 g2 g3  hm => ih zs zx1 zx2 (by omega) g0 g1 g2 g3 ) s x1 x2 hI_s hF_s h_x2l h_x2u (Nat.le_refl _)
set_option maxHeartbeats 1000000 in
theorem ok_r_darersB (s0 : RS) (hB : Big s0)  (s : RS) (hI_s : InvR s) (hF_s : FrR [42, 45, 140, 141, 144] s0 s)  : Ok (r_darers  s) (Q_r_darers s0) := by
  unfold r_darers
  refine ok_bindP (ok_r_copies _  hI_s) (fun s1 hc_1 => ?_)
  have hI_s1 : InvR s1 := hc_1.1
  have hFc_s1 : FrR [45, 144] s s1 := hc_1.2
  have hF_s1 : FrR [42, 45, 140, 141, 144] s0 s1 := hF_s.trans hFc_s1 (by decide)
  have l_0 : (0 : Int32).toInt = 0 := by decide
  exact okL_r_darers_8 s0 hB  fu _ _ _ (by unfold fu; omega) hI_s1 hF_s1 (by decide) (by decide) 
theorem ok_r_darers (s : RS) (hI_s : InvR s) (hB : Big s) : Ok (r_darers s) (Q_r_darers s) := ok_r_darersB s hB s hI_s FrR.rfl
abbrev Q_r_open (s0 : RS) (y : Int32 × RS) : Prop := InvR y.2 ∧ FrR [45, 144] s0 y.2 ∧ -2147483648 ≤ y.1.toInt ∧ y.1.toInt ≤ 2147483647
set_option maxHeartbeats 1000000 in
theorem ok_r_open_39 (s0 : RS) (k8 : RS → Int32 → Int32 → Option (Int32 × RS)) (M8 : Nat) (hk8 : ∀ (s : RS) (x1 : Int32) (x2 : Int32), InvR s → FrR [45, 144] s0 s → 0 ≤ x2.toInt → x2.toInt ≤ 5 → (5 - x2.toInt).toNat < M8 → Ok (k8 s x1 x2) (Q_r_open s0)) (s : RS) (x1 : Int32) (x2 : Int32) (hI_s : InvR s) (hF_s : FrR [45, 144] s0 s) (h_x2l : 0 ≤ x2.toInt) (h_x2u : x2.toInt ≤ 4) (hM8 : (5 - x2.toInt).toNat ≤ M8) : Ok (r_open_39 k8 s x1 x2) (Q_r_open s0) := by
  unfold r_open_39
  have a_1 : ((x2 + 1)).toInt = (x2).toInt + 1 := tn_add rfl (by decide) (by omega) (by omega)
  exact hk8 _ _ _ hI_s hF_s (by omega) (by omega) (by omega)
set_option maxHeartbeats 1000000 in
theorem ok_r_open_8 (s0 : RS) (k8 : RS → Int32 → Int32 → Option (Int32 × RS)) (M8 : Nat) (hk8 : ∀ (s : RS) (x1 : Int32) (x2 : Int32), InvR s → FrR [45, 144] s0 s → 0 ≤ x2.toInt → x2.toInt ≤ 5 → (5 - x2.toInt).toNat < M8 → Ok (k8 s x1 x2) (Q_r_open s0)) (s : RS) (x1 : Int32) (x2 : Int32) (hI_s : InvR s) (hF_s : FrR [45, 144] s0 s) (h_x2l : 0 ≤ x2.toInt) (h_x2u : x2.toInt ≤ 5) (hM8 : (5 - x2.toInt).toNat ≤ M8) : Ok (r_open_8 k8 s x1 x2) (Q_r_open s0) := by
  unfold r_open_8
  have a_1 : 0 ≤ (s.v 18).toInt ∧ (s.v 18).toInt ≤ 1 := hI_s.1 18
  refine ok_grd (vpb_ok (by omega) (by omega)) ?_
  have a_2 : ((s.f 20 (Int32.toNatClampNeg (s.v 18)))).toInt = wv s0 := wv_fr hF_s (by decide) (by decide)
  have a_3 : 0 ≤ ((s.f 20 (Int32.toNatClampNeg (s.v 18)))).toInt ∧ ((s.f 20 (Int32.toNatClampNeg (s.v 18)))).toInt ≤ 5 := hI_s.2 20 _
  refine ok_ite (fun c_4 => ?_) (fun c_4 => ?_)
  · have c_4 := tn_le (a := ((s.f 20 (Int32.toNatClampNeg (s.v 18)))).toInt) (b := (x2).toInt) rfl rfl c_4
    exact ok_some ⟨hI_s, hF_s, (ti_rng _).1, (ti_rng _).2⟩
  · have c_4 := tn_nle (a := ((s.f 20 (Int32.toNatClampNeg (s.v 18)))).toInt) (b := (x2).toInt) rfl rfl c_4
    refine ok_bindI (ok_r_mayAt _ _ hI_s (by omega) (by omega)) (fun r4 s3 hc_5 => ?_)
    have hI_s3 : InvR s3 := hc_5.1
    have hFc_s3 : FrR [] s s3 := hc_5.2.1
    have hF_s3 : FrR [45, 144] s0 s3 := hF_s.trans hFc_s3 (by decide)
    refine ok_bindP (ok_r_bits _ ) (fun r5 hc_6 => ?_)
    have hl_r5 : 0 ≤ r5.toInt := hc_6.1
    have hu_r5 : r5.toInt ≤ 6 := hc_6.2
    refine ok_ite (fun c_7 => ?_) (fun c_7 => ?_)
    · have c_7 := tn_le (a := (r5).toInt) (b := 1) rfl (by decide) c_7
      exact ok_r_open_39 s0 k8 M8 hk8 _ _ _ hI_s3 hF_s3 (by omega) (by omega) (by omega)
    · have c_7 := tn_nle (a := (r5).toInt) (b := 1) rfl (by decide) c_7
      exact ok_r_open_39 s0 k8 M8 hk8 _ _ _ hI_s3 hF_s3 (by omega) (by omega) (by omega)
theorem okL_r_open_8 (s0 : RS)  : ∀ (n : Nat) (s : RS) (x1 : Int32) (x2 : Int32), (5 - x2.toInt).toNat < n → InvR s → FrR [45, 144] s0 s → 0 ≤ x2.toInt → x2.toInt ≤ 5 → Ok (r_open_8L  n s x1 x2) (Q_r_open s0) := by
  intro n
  induction n with
  | zero => intro s x1 x2 hn; omega
  | succ n ih =>
    intro s x1 x2 hn hI_s hF_s h_x2l h_x2u 
    exact ok_r_open_8 s0 (r_open_8L  n) ((5 - x2.toInt).toNat) (fun zs zx1 zx2 g0 g1 g2 g3  hm => ih zs zx1 zx2 (by omega) g0 g1 g2 g3 ) s x1 x2 hI_s hF_s h_x2l h_x2u (Nat.le_refl _)
set_option maxHeartbeats 1000000 in
theorem ok_r_openB (s0 : RS)  (s : RS) (hI_s : InvR s) (hF_s : FrR [45, 144] s0 s)  : Ok (r_open  s) (Q_r_open s0) := by
  unfold r_open
  refine ok_bindP (ok_r_copies _  hI_s) (fun s1 hc_1 => ?_)
  have hI_s1 : InvR s1 := hc_1.1
  have hFc_s1 : FrR [45, 144] s s1 := hc_1.2
  have hF_s1 : FrR [45, 144] s0 s1 := hF_s.trans hFc_s1 (by decide)
  have l_0 : (0 : Int32).toInt = 0 := by decide
  exact okL_r_open_8 s0  fu _ _ _ (by unfold fu; omega) hI_s1 hF_s1 (by decide) (by decide) 
theorem ok_r_open (s : RS) (hI_s : InvR s) : Ok (r_open s) (Q_r_open s) := ok_r_openB s s hI_s FrR.rfl
abbrev Q_r_then (s0 : RS) (y : Int32 × RS) : Prop := InvR y.2 ∧ FrR [42, 45, 140, 141, 144, 147] s0 y.2 ∧ -2147483648 ≤ y.1.toInt ∧ y.1.toInt ≤ 2147483647
set_option maxHeartbeats 1000000 in
theorem ok_r_thenB (s0 : RS) (hB : Big s0)  (s : RS) (x1 : Int32) (x2 : Int32) (x3 : Int32) (hI_s : InvR s) (hF_s : FrR [42, 45, 140, 141, 144, 147] s0 s)  : Ok (r_then  s x1 x2 x3) (Q_r_then s0) := by
  unfold r_then
  refine ok_bindI (ok_r_isWave _ _ hI_s) (fun r2 s1 hc_1 => ?_)
  have hI_s1 : InvR s1 := hc_1.1
  have hFc_s1 : FrR [] s s1 := hc_1.2.1
  have hF_s1 : FrR [42, 45, 140, 141, 144, 147] s0 s1 := hF_s.trans hFc_s1 (by decide)
  have a_2 : wv s = wv s0 := wv_fr hF_s (by decide) (by decide)
  have hl_r2 : 0 ≤ r2.toInt := hc_1.2.2.1
  have hu_r2 : r2.toInt ≤ 1 := hc_1.2.2.2.1
  have hx0_r2 : (¬ r2.toInt = 0 → 0 ≤ (x1).toInt ∧ (x1).toInt < wv s ∧ wv s ≤ 5) := hc_1.2.2.2.2
  refine ok_ite (fun c_3 => ?_) (fun c_3 => ?_)
  · have c_3 := tn_eq (a := (r2).toInt) (b := 0) rfl (by decide) c_3
    exact ok_some ⟨hI_s1, hF_s1, (ti_rng _).1, (ti_rng _).2⟩
  · have c_3 := tn_ne (a := (r2).toInt) (b := 0) rfl (by decide) c_3
    refine ok_bindP (ok_r_isLong _ ) (fun r4 hc_4 => ?_)
    have hl_r4 : 0 ≤ r4.toInt := hc_4.1
    have hu_r4 : r4.toInt ≤ 1 := hc_4.2.1
    have hx0_r4 : (¬ r4.toInt = 0 → 0 ≤ (x2).toInt ∧ (x2).toInt ≤ 40) := hc_4.2.2
    refine ok_ite (fun c_5 => ?_) (fun c_5 => ?_)
    · have c_5 := tn_eq (a := (r4).toInt) (b := 0) rfl (by decide) c_5
      exact ok_some ⟨hI_s1, hF_s1, (ti_rng _).1, (ti_rng _).2⟩
    · have c_5 := tn_ne (a := (r4).toInt) (b := 0) rfl (by decide) c_5
      refine ok_bindP (ok_r_in _ _ _ (by decide) (by decide) (by decide) (by decide)) (fun r6 hc_6 => ?_)
      have l_0 : (0 : Int32).toInt = 0 := by decide
      have l_2 : (2 : Int32).toInt = 2 := by decide
      have hl_r6 : 0 ≤ r6.toInt := hc_6.1
      have hu_r6 : r6.toInt ≤ 1 := hc_6.2.1
      have hx0_r6 : (¬ r6.toInt = 0 → (0 : Int32).toInt ≤ (x3).toInt ∧ (x3).toInt ≤ (2 : Int32).toInt) := hc_6.2.2
      refine ok_ite (fun c_7 => ?_) (fun c_7 => ?_)
      · have c_7 := tn_eq (a := (r6).toInt) (b := 0) rfl (by decide) c_7
        exact ok_some ⟨hI_s1, hF_s1, (ti_rng _).1, (ti_rng _).2⟩
      · have c_7 := tn_ne (a := (r6).toInt) (b := 0) rfl (by decide) c_7
        refine ok_bindP (ok_r_copies _  hI_s1) (fun s8 hc_8 => ?_)
        have hI_s8 : InvR s8 := hc_8.1
        have hFc_s8 : FrR [45, 144] s1 s8 := hc_8.2
        have hF_s8 : FrR [42, 45, 140, 141, 144, 147] s0 s8 := hF_s1.trans hFc_s8 (by decide)
        refine ok_bindP (ok_r_yearsGo _ _ hI_s8 (hB.fr hF_s8 (by decide)) (by omega) (by omega)) (fun s9 hc_9 => ?_)
        have hI_s9 : InvR s9 := hc_9.1
        have hFc_s9 : FrR [42, 140, 141, 144, 147] s8 s9 := hc_9.2
        have hF_s9 : FrR [42, 45, 140, 141, 144, 147] s0 s9 := hF_s8.trans hFc_s9 (by decide)
        refine ok_ite (fun c_10 => ?_) (fun c_10 => ?_)
        · have c_10 := tn_eq (a := (x3).toInt) (b := 0) rfl (by decide) c_10
          refine ok_bindI (ok_r_mayAt _ _ hI_s9 (by omega) (by omega)) (fun r16 s15 hc_11 => ?_)
          have hI_s15 : InvR s15 := hc_11.1
          have hFc_s15 : FrR [] s9 s15 := hc_11.2.1
          have hF_s15 : FrR [42, 45, 140, 141, 144, 147] s0 s15 := hF_s9.trans hFc_s15 (by decide)
          exact ok_some ⟨hI_s15, hF_s15, (ti_rng _).1, (ti_rng _).2⟩
        · have c_10 := tn_ne (a := (x3).toInt) (b := 0) rfl (by decide) c_10
          refine ok_ite (fun c_12 => ?_) (fun c_12 => ?_)
          · have c_12 := tn_eq (a := (x3).toInt) (b := 1) rfl (by decide) c_12
            have a_13 : ((10 + x1)).toInt = 10 + (x1).toInt := tn_add (by decide) rfl (by omega) (by omega)
            refine ok_grd (vpb_ok (by omega) (by omega)) ?_
            exact ok_some ⟨hI_s9, hF_s9, (ti_rng _).1, (ti_rng _).2⟩
          · have c_12 := tn_ne (a := (x3).toInt) (b := 1) rfl (by decide) c_12
            have a_15 : wv s9 = wv s0 := wv_fr hF_s9 (by decide) (by decide)
            refine ok_bindI (ok_r_thereAt _ _ hI_s9 (hB.fr hF_s9 (by decide)) (by omega) (by omega) (by omega)) (fun r13 s12 hc_14 => ?_)
            have hI_s12 : InvR s12 := hc_14.1
            have hFc_s12 : FrR [] s9 s12 := hc_14.2.1
            have hF_s12 : FrR [42, 45, 140, 141, 144, 147] s0 s12 := hF_s9.trans hFc_s12 (by decide)
            have hl_r13 : 0 ≤ r13.toInt := hc_14.2.2.1
            have hu_r13 : r13.toInt ≤ 5 := hc_14.2.2.2
            exact ok_some ⟨hI_s12, hF_s12, (ti_rng _).1, (ti_rng _).2⟩
theorem ok_r_then (s : RS) (x1 : Int32) (x2 : Int32) (x3 : Int32) (hI_s : InvR s) (hB : Big s) : Ok (r_then s x1 x2 x3) (Q_r_then s) := ok_r_thenB s hB s x1 x2 x3 hI_s FrR.rfl
abbrev Q_r_next (s0 : RS) (y : Int32 × RS) : Prop := InvR y.2 ∧ FrR [42, 45, 140, 141, 144, 147] s0 y.2 ∧ -2 ≤ y.1.toInt ∧ y.1.toInt ≤ 40
set_option maxHeartbeats 1000000 in
theorem ok_r_next_16 (s0 : RS) (hB : Big s0) (k16 : RS → Int32 → Int32 → Option (Int32 × RS)) (M16 : Nat) (hk16 : ∀ (s : RS) (x1 : Int32) (x2 : Int32), InvR s → FrR [42, 45, 140, 141, 144, 147] s0 s → 0 ≤ x1.toInt → x1.toInt ≤ 4 → 1 ≤ x2.toInt → x2.toInt ≤ 41 → (41 - x2.toInt).toNat < M16 → Ok (k16 s x1 x2) (Q_r_next s0)) (s : RS) (x1 : Int32) (x2 : Int32) (hI_s : InvR s) (hF_s : FrR [42, 45, 140, 141, 144, 147] s0 s) (h_x1l : 0 ≤ x1.toInt) (h_x1u : x1.toInt ≤ 4) (h_x2l : 1 ≤ x2.toInt) (h_x2u : x2.toInt ≤ 41) (hM16 : (41 - x2.toInt).toNat ≤ M16) : Ok (r_next_16 k16 s x1 x2) (Q_r_next s0) := by
  unfold r_next_16
  refine ok_ite (fun c_1 => ?_) (fun c_1 => ?_)
  · have c_1 := tn_lt (a := 40) (b := (x2).toInt) (by decide) rfl c_1
    exact ok_some ⟨hI_s, hF_s, by show -2 ≤ ((-2) : Int32).toInt; decide, by show ((-2) : Int32).toInt ≤ 40; decide⟩
  · have c_1 := tn_nlt (a := 40) (b := (x2).toInt) (by decide) rfl c_1
    refine ok_bindP (ok_r_yearGoes _  hI_s (hB.fr hF_s (by decide))) (fun s2 hc_2 => ?_)
    have hI_s2 : InvR s2 := hc_2.1
    have hFc_s2 : FrR [42, 140, 141, 144, 147] s s2 := hc_2.2
    have hF_s2 : FrR [42, 45, 140, 141, 144, 147] s0 s2 := hF_s.trans hFc_s2 (by decide)
    have a_3 : ((10 + x1)).toInt = 10 + (x1).toInt := tn_add (by decide) rfl (by omega) (by omega)
    refine ok_grd (vpb_ok (by omega) (by omega)) ?_
    refine ok_grd (vpb_ok (by omega) (by omega)) ?_
    refine ok_ite (fun c_4 => ?_) (fun c_4 => ?_)
    · have c_4 := tn_le (a := ((s2.f 44 (Int32.toNatClampNeg (10 + x1)))).toInt) (b := ((s2.f 43 (Int32.toNatClampNeg (10 + x1)))).toInt) rfl rfl c_4
      have a_5 : ((x2 + 1)).toInt = (x2).toInt + 1 := tn_add rfl (by decide) (by omega) (by omega)
      exact hk16 _ _ _ hI_s2 hF_s2 (by omega) (by omega) (by omega) (by omega) (by omega)
    · have c_4 := tn_nle (a := ((s2.f 44 (Int32.toNatClampNeg (10 + x1)))).toInt) (b := ((s2.f 43 (Int32.toNatClampNeg (10 + x1)))).toInt) rfl rfl c_4
      exact ok_some ⟨hI_s2, hF_s2, by show -2 ≤ (x2).toInt; omega, by show (x2).toInt ≤ 40; omega⟩
theorem okL_r_next_16 (s0 : RS) (hB : Big s0)  : ∀ (n : Nat) (s : RS) (x1 : Int32) (x2 : Int32), (41 - x2.toInt).toNat < n → InvR s → FrR [42, 45, 140, 141, 144, 147] s0 s → 0 ≤ x1.toInt → x1.toInt ≤ 4 → 1 ≤ x2.toInt → x2.toInt ≤ 41 → Ok (r_next_16L  n s x1 x2) (Q_r_next s0) := by
  intro n
  induction n with
  | zero => intro s x1 x2 hn; omega
  | succ n ih =>
    intro s x1 x2 hn hI_s hF_s h_x1l h_x1u h_x2l h_x2u 
    exact ok_r_next_16 s0 hB (r_next_16L  n) ((41 - x2.toInt).toNat) (fun zs zx1 zx2 g0 g1 g2 g3 g4 g5  hm => ih zs zx1 zx2 (by omega) g0 g1 g2 g3 g4 g5 ) s x1 x2 hI_s hF_s h_x1l h_x1u h_x2l h_x2u (Nat.le_refl _)
set_option maxHeartbeats 1000000 in
theorem ok_r_nextB (s0 : RS) (hB : Big s0)  (s : RS) (x1 : Int32) (hI_s : InvR s) (hF_s : FrR [42, 45, 140, 141, 144, 147] s0 s)  : Ok (r_next  s x1) (Q_r_next s0) := by
  unfold r_next
  refine ok_bindI (ok_r_isWave _ _ hI_s) (fun r2 s1 hc_1 => ?_)
  have hI_s1 : InvR s1 := hc_1.1
  have hFc_s1 : FrR [] s s1 := hc_1.2.1
  have hF_s1 : FrR [42, 45, 140, 141, 144, 147] s0 s1 := hF_s.trans hFc_s1 (by decide)
  have a_2 : wv s = wv s0 := wv_fr hF_s (by decide) (by decide)
  have hl_r2 : 0 ≤ r2.toInt := hc_1.2.2.1
  have hu_r2 : r2.toInt ≤ 1 := hc_1.2.2.2.1
  have hx0_r2 : (¬ r2.toInt = 0 → 0 ≤ (x1).toInt ∧ (x1).toInt < wv s ∧ wv s ≤ 5) := hc_1.2.2.2.2
  refine ok_ite (fun c_3 => ?_) (fun c_3 => ?_)
  · have c_3 := tn_eq (a := (r2).toInt) (b := 0) rfl (by decide) c_3
    exact ok_some ⟨hI_s1, hF_s1, by show -2 ≤ ((-1) : Int32).toInt; decide, by show ((-1) : Int32).toInt ≤ 40; decide⟩
  · have c_3 := tn_ne (a := (r2).toInt) (b := 0) rfl (by decide) c_3
    refine ok_bindP (ok_r_copies _  hI_s1) (fun s4 hc_4 => ?_)
    have hI_s4 : InvR s4 := hc_4.1
    have hFc_s4 : FrR [45, 144] s1 s4 := hc_4.2
    have hF_s4 : FrR [42, 45, 140, 141, 144, 147] s0 s4 := hF_s1.trans hFc_s4 (by decide)
    have l_1 : (1 : Int32).toInt = 1 := by decide
    exact okL_r_next_16 s0 hB  fu _ _ _ (by unfold fu; omega) hI_s4 hF_s4 (by omega) (by omega) (by decide) (by decide) 
theorem ok_r_next (s : RS) (x1 : Int32) (hI_s : InvR s) (hB : Big s) : Ok (r_next s x1) (Q_r_next s) := ok_r_nextB s hB s x1 hI_s FrR.rfl
abbrev Q_r_year (s0 : RS) (y : Int32 × RS) : Prop := InvR y.2 ∧ FrR [45, 144] s0 y.2 ∧ -2147483648 ≤ y.1.toInt ∧ y.1.toInt ≤ 2147483647
set_option maxHeartbeats 1000000 in
theorem ok_r_year_46 (s0 : RS) (hB : Big s0) (k29 : RS → Int32 → Int32 → Int32 → Int32 → Option (Int32 × RS)) (M29 : Nat) (hk29 : ∀ (s : RS) (x1 : Int32) (x2 : Int32) (x3 : Int32) (x4 : Int32), InvR s → FrR [45, 144] s0 s → 0 ≤ x1.toInt → x1.toInt ≤ 7775 → 1 ≤ x2.toInt → x2.toInt ≤ 20 → 0 ≤ x4.toInt → x4.toInt ≤ 20 → (20 - x4.toInt).toNat < M29 → Ok (k29 s x1 x2 x3 x4) (Q_r_year s0)) (s : RS) (x1 : Int32) (x2 : Int32) (x3 : Int32) (x4 : Int32) (hI_s : InvR s) (hF_s : FrR [45, 144] s0 s) (h_x1l : 0 ≤ x1.toInt) (h_x1u : x1.toInt ≤ 7775) (h_x2l : 1 ≤ x2.toInt) (h_x2u : x2.toInt ≤ 20) (h_x4l : 0 ≤ x4.toInt) (h_x4u : x4.toInt ≤ 19) (hM29 : (20 - x4.toInt).toNat ≤ M29) : Ok (r_year_46 k29 s x1 x2 x3 x4) (Q_r_year s0) := by
  unfold r_year_46
  refine ok_let (fun s1 hs1 => ?_)
  have hI_s1 : InvR s1 := by rw [← hs1]; exact hI_s.svF (k := 45) rfl rfl
  have hF_s1 : FrR [45, 144] s0 s1 := by rw [← hs1]; exact hF_s.sv (k := 45) (by decide)
  have a_1 : ((x4 + 1)).toInt = (x4).toInt + 1 := tn_add rfl (by decide) (by omega) (by omega)
  exact hk29 _ _ _ _ _ hI_s1 hF_s1 (by omega) (by omega) (by omega) (by omega) (by omega) (by omega) (by omega)
set_option maxHeartbeats 1000000 in
theorem ok_r_year_29 (s0 : RS) (hB : Big s0) (k29 : RS → Int32 → Int32 → Int32 → Int32 → Option (Int32 × RS)) (M29 : Nat) (hk29 : ∀ (s : RS) (x1 : Int32) (x2 : Int32) (x3 : Int32) (x4 : Int32), InvR s → FrR [45, 144] s0 s → 0 ≤ x1.toInt → x1.toInt ≤ 7775 → 1 ≤ x2.toInt → x2.toInt ≤ 20 → 0 ≤ x4.toInt → x4.toInt ≤ 20 → (20 - x4.toInt).toNat < M29 → Ok (k29 s x1 x2 x3 x4) (Q_r_year s0)) (s : RS) (x1 : Int32) (x2 : Int32) (x3 : Int32) (x4 : Int32) (hI_s : InvR s) (hF_s : FrR [45, 144] s0 s) (h_x1l : 0 ≤ x1.toInt) (h_x1u : x1.toInt ≤ 7775) (h_x2l : 1 ≤ x2.toInt) (h_x2u : x2.toInt ≤ 20) (h_x4l : 0 ≤ x4.toInt) (h_x4u : x4.toInt ≤ 20) (hM29 : (20 - x4.toInt).toNat ≤ M29) : Ok (r_year_29 k29 s x1 x2 x3 x4) (Q_r_year s0) := by
  unfold r_year_29
  refine ok_ite (fun c_1 => ?_) (fun c_1 => ?_)
  · have c_1 := tn_le (a := (x2).toInt) (b := (x4).toInt) rfl rfl c_1
    exact ok_some ⟨hI_s, hF_s, (ti_rng _).1, (ti_rng _).2⟩
  · have c_1 := tn_nle (a := (x2).toInt) (b := (x4).toInt) rfl rfl c_1
    refine ok_bindI (ok_r_thereNumber _  hI_s (hB.fr hF_s (by decide))) (fun r3 s2 hc_2 => ?_)
    have hI_s2 : InvR s2 := hc_2.1
    have hFc_s2 : FrR [] s s2 := hc_2.2.1
    have hF_s2 : FrR [45, 144] s0 s2 := hF_s.trans hFc_s2 (by decide)
    have hl_r3 : 0 ≤ r3.toInt := hc_2.2.2.1
    have hu_r3 : r3.toInt ≤ 194400 := hc_2.2.2.2
    refine ok_ite (fun c_3 => ?_) (fun c_3 => ?_)
    · have c_3 := tn_eq (a := (r3).toInt) (b := (x1).toInt) rfl rfl c_3
      exact ok_r_year_46 s0 hB k29 M29 hk29 _ _ _ _ _ hI_s2 hF_s2 (by omega) (by omega) (by omega) (by omega) (by omega) (by omega) (by omega)
    · have c_3 := tn_ne (a := (r3).toInt) (b := (x1).toInt) rfl rfl c_3
      exact ok_r_year_46 s0 hB k29 M29 hk29 _ _ _ _ _ hI_s2 hF_s2 (by omega) (by omega) (by omega) (by omega) (by omega) (by omega) (by omega)
theorem okL_r_year_29 (s0 : RS) (hB : Big s0)  : ∀ (n : Nat) (s : RS) (x1 : Int32) (x2 : Int32) (x3 : Int32) (x4 : Int32), (20 - x4.toInt).toNat < n → InvR s → FrR [45, 144] s0 s → 0 ≤ x1.toInt → x1.toInt ≤ 7775 → 1 ≤ x2.toInt → x2.toInt ≤ 20 → 0 ≤ x4.toInt → x4.toInt ≤ 20 → Ok (r_year_29L  n s x1 x2 x3 x4) (Q_r_year s0) := by
  intro n
  induction n with
  | zero => intro s x1 x2 x3 x4 hn; omega
  | succ n ih =>
    intro s x1 x2 x3 x4 hn hI_s hF_s h_x1l h_x1u h_x2l h_x2u h_x4l h_x4u 
    exact ok_r_year_29 s0 hB (r_year_29L  n) ((20 - x4.toInt).toNat) (fun zs zx1 zx2 zx3 zx4 g0 g1 g2 g3 g4 g5 g6 g7  hm => ih zs zx1 zx2 zx3 zx4 (by omega) g0 g1 g2 g3 g4 g5 g6 g7 ) s x1 x2 x3 x4 hI_s hF_s h_x1l h_x1u h_x2l h_x2u h_x4l h_x4u (Nat.le_refl _)
set_option maxHeartbeats 1000000 in
theorem ok_r_yearB (s0 : RS) (hB : Big s0)  (s : RS) (x1 : Int32) (x2 : Int32) (hI_s : InvR s) (hF_s : FrR [45, 144] s0 s)  : Ok (r_year  s x1 x2) (Q_r_year s0) := by
  unfold r_year
  refine ok_bindI (ok_r_isGuess _ _ hI_s (hB.fr hF_s (by decide))) (fun r2 s1 hc_1 => ?_)
  have hI_s1 : InvR s1 := hc_1.1
  have hFc_s1 : FrR [] s s1 := hc_1.2.1
  have hF_s1 : FrR [45, 144] s0 s1 := hF_s.trans hFc_s1 (by decide)
  have hl_r2 : 0 ≤ r2.toInt := hc_1.2.2.1
  have hu_r2 : r2.toInt ≤ 1 := hc_1.2.2.2.1
  have hx0_r2 : (¬ r2.toInt = 0 → 0 ≤ (x1).toInt ∧ (x1).toInt ≤ 7775) := hc_1.2.2.2.2
  refine ok_ite (fun c_2 => ?_) (fun c_2 => ?_)
  · have c_2 := tn_eq (a := (r2).toInt) (b := 0) rfl (by decide) c_2
    exact ok_some ⟨hI_s1, hF_s1, (ti_rng _).1, (ti_rng _).2⟩
  · have c_2 := tn_ne (a := (r2).toInt) (b := 0) rfl (by decide) c_2
    refine ok_bindP (ok_r_in _ _ _ (by decide) (by decide) (by decide) (by decide)) (fun r4 hc_3 => ?_)
    have l_1 : (1 : Int32).toInt = 1 := by decide
    have l_20 : (20 : Int32).toInt = 20 := by decide
    have hl_r4 : 0 ≤ r4.toInt := hc_3.1
    have hu_r4 : r4.toInt ≤ 1 := hc_3.2.1
    have hx0_r4 : (¬ r4.toInt = 0 → (1 : Int32).toInt ≤ (x2).toInt ∧ (x2).toInt ≤ (20 : Int32).toInt) := hc_3.2.2
    refine ok_ite (fun c_4 => ?_) (fun c_4 => ?_)
    · have c_4 := tn_eq (a := (r4).toInt) (b := 0) rfl (by decide) c_4
      exact ok_some ⟨hI_s1, hF_s1, (ti_rng _).1, (ti_rng _).2⟩
    · have c_4 := tn_ne (a := (r4).toInt) (b := 0) rfl (by decide) c_4
      refine ok_bindP (ok_r_copies _  hI_s1) (fun s6 hc_5 => ?_)
      have hI_s6 : InvR s6 := hc_5.1
      have hFc_s6 : FrR [45, 144] s1 s6 := hc_5.2
      have hF_s6 : FrR [45, 144] s0 s6 := hF_s1.trans hFc_s6 (by decide)
      have l_0 : (0 : Int32).toInt = 0 := by decide
      exact okL_r_year_29 s0 hB  fu _ _ _ _ _ (by unfold fu; omega) hI_s6 hF_s6 (by omega) (by omega) (by omega) (by omega) (by decide) (by decide) 
theorem ok_r_year (s : RS) (x1 : Int32) (x2 : Int32) (hI_s : InvR s) (hB : Big s) : Ok (r_year s x1 x2) (Q_r_year s) := ok_r_yearB s hB s x1 x2 hI_s FrR.rfl
abbrev Q_r_drawn (s0 : RS) (y : Int32 × RS) : Prop := InvR y.2 ∧ FrR [45, 144] s0 y.2 ∧ -1 ≤ y.1.toInt ∧ y.1.toInt ≤ 6
set_option maxHeartbeats 1000000 in
theorem ok_r_drawn_29 (s0 : RS) (hB : Big s0) (k29 : RS → Int32 → Int32 → Int32 → Int32 → Option (Int32 × RS)) (M29 : Nat) (hk29 : ∀ (s : RS) (x1 : Int32) (x2 : Int32) (x3 : Int32) (x4 : Int32), InvR s → FrR [45, 144] s0 s → 0 ≤ x1.toInt → x1.toInt ≤ 4 → 1 ≤ x2.toInt → x2.toInt ≤ 20 → 0 ≤ x4.toInt → x4.toInt ≤ 20 → (x1.toInt < wv s0) → (20 - x4.toInt).toNat < M29 → Ok (k29 s x1 x2 x3 x4) (Q_r_drawn s0)) (s : RS) (x1 : Int32) (x2 : Int32) (x3 : Int32) (x4 : Int32) (hI_s : InvR s) (hF_s : FrR [45, 144] s0 s) (h_x1l : 0 ≤ x1.toInt) (h_x1u : x1.toInt ≤ 4) (h_x2l : 1 ≤ x2.toInt) (h_x2u : x2.toInt ≤ 20) (h_x4l : 0 ≤ x4.toInt) (h_x4u : x4.toInt ≤ 20) (hx0 : (x1.toInt < wv s0)) (hM29 : (20 - x4.toInt).toNat ≤ M29) : Ok (r_drawn_29 k29 s x1 x2 x3 x4) (Q_r_drawn s0) := by
  unfold r_drawn_29
  refine ok_ite (fun c_1 => ?_) (fun c_1 => ?_)
  · have c_1 := tn_le (a := (x2).toInt) (b := (x4).toInt) rfl rfl c_1
    refine ok_bindP (ok_r_bits _ ) (fun r2 hc_2 => ?_)
    have hl_r2 : 0 ≤ r2.toInt := hc_2.1
    have hu_r2 : r2.toInt ≤ 6 := hc_2.2
    exact ok_some ⟨hI_s, hF_s, by show -1 ≤ (r2).toInt; omega, by show (r2).toInt ≤ 6; omega⟩
  · have c_1 := tn_nle (a := (x2).toInt) (b := (x4).toInt) rfl rfl c_1
    have a_4 : wv s = wv s0 := wv_fr hF_s (by decide) (by decide)
    refine ok_bindI (ok_r_thereAt _ _ hI_s (hB.fr hF_s (by decide)) (by omega) (by omega) (by omega)) (fun r4 s3 hc_3 => ?_)
    have hI_s3 : InvR s3 := hc_3.1
    have hFc_s3 : FrR [] s s3 := hc_3.2.1
    have hF_s3 : FrR [45, 144] s0 s3 := hF_s.trans hFc_s3 (by decide)
    have hl_r4 : 0 ≤ r4.toInt := hc_3.2.2.1
    have hu_r4 : r4.toInt ≤ 5 := hc_3.2.2.2
    refine ok_let (fun s5 hs5 => ?_)
    have a_5 : (s3.v 45).toInt = (s.v 45).toInt := congrArg Int32.toInt (hFc_s3.1 45 (by decide))
    have hI_s5 : InvR s5 := by rw [← hs5]; exact hI_s3.svF (k := 45) rfl rfl
    have hF_s5 : FrR [45, 144] s0 s5 := by rw [← hs5]; exact hF_s3.sv (k := 45) (by decide)
    have a_6 : ((x4 + 1)).toInt = (x4).toInt + 1 := tn_add rfl (by decide) (by omega) (by omega)
    exact hk29 _ _ _ _ _ hI_s5 hF_s5 (by first | (clear hx0; omega) | omega) (by first | (clear hx0; omega) | omega) (by first | (clear hx0; omega) | omega) (by first | (clear hx0; omega) | omega) (by first | (clear hx0; omega) | omega) (by first | (clear hx0; omega) | omega) (by omega) (by first | (clear hx0; omega) | omega)
theorem okL_r_drawn_29 (s0 : RS) (hB : Big s0)  : ∀ (n : Nat) (s : RS) (x1 : Int32) (x2 : Int32) (x3 : Int32) (x4 : Int32), (20 - x4.toInt).toNat < n → InvR s → FrR [45, 144] s0 s → 0 ≤ x1.toInt → x1.toInt ≤ 4 → 1 ≤ x2.toInt → x2.toInt ≤ 20 → 0 ≤ x4.toInt → x4.toInt ≤ 20 → (x1.toInt < wv s0) → Ok (r_drawn_29L  n s x1 x2 x3 x4) (Q_r_drawn s0) := by
  intro n
  induction n with
  | zero => intro s x1 x2 x3 x4 hn; omega
  | succ n ih =>
    intro s x1 x2 x3 x4 hn hI_s hF_s h_x1l h_x1u h_x2l h_x2u h_x4l h_x4u hx0 
    exact ok_r_drawn_29 s0 hB (r_drawn_29L  n) ((20 - x4.toInt).toNat) (fun zs zx1 zx2 zx3 zx4 g0 g1 g2 g3 g4 g5 g6 g7 g8  hm => ih zs zx1 zx2 zx3 zx4 (by omega) g0 g1 g2 g3 g4 g5 g6 g7 g8 ) s x1 x2 x3 x4 hI_s hF_s h_x1l h_x1u h_x2l h_x2u h_x4l h_x4u hx0 (Nat.le_refl _)
set_option maxHeartbeats 1000000 in
theorem ok_r_drawnB (s0 : RS) (hB : Big s0)  (s : RS) (x1 : Int32) (x2 : Int32) (hI_s : InvR s) (hF_s : FrR [45, 144] s0 s)  : Ok (r_drawn  s x1 x2) (Q_r_drawn s0) := by
  unfold r_drawn
  refine ok_bindI (ok_r_isWave _ _ hI_s) (fun r2 s1 hc_1 => ?_)
  have hI_s1 : InvR s1 := hc_1.1
  have hFc_s1 : FrR [] s s1 := hc_1.2.1
  have hF_s1 : FrR [45, 144] s0 s1 := hF_s.trans hFc_s1 (by decide)
  have a_2 : wv s = wv s0 := wv_fr hF_s (by decide) (by decide)
  have hl_r2 : 0 ≤ r2.toInt := hc_1.2.2.1
  have hu_r2 : r2.toInt ≤ 1 := hc_1.2.2.2.1
  have hx0_r2 : (¬ r2.toInt = 0 → 0 ≤ (x1).toInt ∧ (x1).toInt < wv s ∧ wv s ≤ 5) := hc_1.2.2.2.2
  refine ok_ite (fun c_3 => ?_) (fun c_3 => ?_)
  · have c_3 := tn_eq (a := (r2).toInt) (b := 0) rfl (by decide) c_3
    exact ok_some ⟨hI_s1, hF_s1, by show -1 ≤ ((-1) : Int32).toInt; decide, by show ((-1) : Int32).toInt ≤ 6; decide⟩
  · have c_3 := tn_ne (a := (r2).toInt) (b := 0) rfl (by decide) c_3
    refine ok_bindP (ok_r_in _ _ _ (by decide) (by decide) (by decide) (by decide)) (fun r4 hc_4 => ?_)
    have l_1 : (1 : Int32).toInt = 1 := by decide
    have l_20 : (20 : Int32).toInt = 20 := by decide
    have hl_r4 : 0 ≤ r4.toInt := hc_4.1
    have hu_r4 : r4.toInt ≤ 1 := hc_4.2.1
    have hx0_r4 : (¬ r4.toInt = 0 → (1 : Int32).toInt ≤ (x2).toInt ∧ (x2).toInt ≤ (20 : Int32).toInt) := hc_4.2.2
    refine ok_ite (fun c_5 => ?_) (fun c_5 => ?_)
    · have c_5 := tn_eq (a := (r4).toInt) (b := 0) rfl (by decide) c_5
      exact ok_some ⟨hI_s1, hF_s1, by show -1 ≤ ((-1) : Int32).toInt; decide, by show ((-1) : Int32).toInt ≤ 6; decide⟩
    · have c_5 := tn_ne (a := (r4).toInt) (b := 0) rfl (by decide) c_5
      refine ok_bindP (ok_r_copies _  hI_s1) (fun s6 hc_6 => ?_)
      have hI_s6 : InvR s6 := hc_6.1
      have hFc_s6 : FrR [45, 144] s1 s6 := hc_6.2
      have hF_s6 : FrR [45, 144] s0 s6 := hF_s1.trans hFc_s6 (by decide)
      have l_0 : (0 : Int32).toInt = 0 := by decide
      exact okL_r_drawn_29 s0 hB  fu _ _ _ _ _ (by unfold fu; omega) hI_s6 hF_s6 (by omega) (by omega) (by omega) (by omega) (by decide) (by decide) (by omega) 
theorem ok_r_drawn (s : RS) (x1 : Int32) (x2 : Int32) (hI_s : InvR s) (hB : Big s) : Ok (r_drawn s x1 x2) (Q_r_drawn s) := ok_r_drawnB s hB s x1 x2 hI_s FrR.rfl
abbrev Q_r_tell (s0 : RS) (y : Int32 × RS) : Prop := InvR y.2 ∧ FrR [51, 152, 153, 154] s0 y.2 ∧ -1 ≤ y.1.toInt ∧ y.1.toInt ≤ 19
set_option maxHeartbeats 1000000 in
theorem ok_r_tellB (s0 : RS)  (s : RS) (x1 : Int32) (x2 : Int32) (x3 : Int32) (hI_s : InvR s) (hF_s : FrR [51, 152, 153, 154] s0 s)  : Ok (r_tell  s x1 x2 x3) (Q_r_tell s0) := by
  unfold r_tell
  have a_1 : 0 ≤ (s.v 51).toInt ∧ (s.v 51).toInt ≤ 20 := hI_s.1 51
  refine ok_ite (fun c_2 => ?_) (fun c_2 => ?_)
  · have c_2 := tn_eq (a := ((s.v 51)).toInt) (b := 20) rfl (by decide) c_2
    exact ok_some ⟨hI_s, hF_s, by show -1 ≤ ((-1) : Int32).toInt; decide, by show ((-1) : Int32).toInt ≤ 19; decide⟩
  · have c_2 := tn_ne (a := ((s.v 51)).toInt) (b := 20) rfl (by decide) c_2
    refine ok_bindI (ok_r_isWave _ _ hI_s) (fun r3 s2 hc_3 => ?_)
    have hI_s2 : InvR s2 := hc_3.1
    have hFc_s2 : FrR [] s s2 := hc_3.2.1
    have hF_s2 : FrR [51, 152, 153, 154] s0 s2 := hF_s.trans hFc_s2 (by decide)
    have a_4 : wv s = wv s0 := wv_fr hF_s (by decide) (by decide)
    have hl_r3 : 0 ≤ r3.toInt := hc_3.2.2.1
    have hu_r3 : r3.toInt ≤ 1 := hc_3.2.2.2.1
    have hx0_r3 : (¬ r3.toInt = 0 → 0 ≤ (x1).toInt ∧ (x1).toInt < wv s ∧ wv s ≤ 5) := hc_3.2.2.2.2
    refine ok_ite (fun c_5 => ?_) (fun c_5 => ?_)
    · have c_5 := tn_eq (a := (r3).toInt) (b := 0) rfl (by decide) c_5
      exact ok_some ⟨hI_s2, hF_s2, by show -1 ≤ ((-1) : Int32).toInt; decide, by show ((-1) : Int32).toInt ≤ 19; decide⟩
    · have c_5 := tn_ne (a := (r3).toInt) (b := 0) rfl (by decide) c_5
      refine ok_bindP (ok_r_in _ _ _ (by decide) (by decide) (by decide) (by decide)) (fun r5 hc_6 => ?_)
      have l_1 : (1 : Int32).toInt = 1 := by decide
      have l_63 : (63 : Int32).toInt = 63 := by decide
      have hl_r5 : 0 ≤ r5.toInt := hc_6.1
      have hu_r5 : r5.toInt ≤ 1 := hc_6.2.1
      have hx0_r5 : (¬ r5.toInt = 0 → (1 : Int32).toInt ≤ (x2).toInt ∧ (x2).toInt ≤ (63 : Int32).toInt) := hc_6.2.2
      refine ok_ite (fun c_7 => ?_) (fun c_7 => ?_)
      · have c_7 := tn_eq (a := (r5).toInt) (b := 0) rfl (by decide) c_7
        exact ok_some ⟨hI_s2, hF_s2, by show -1 ≤ ((-1) : Int32).toInt; decide, by show ((-1) : Int32).toInt ≤ 19; decide⟩
      · have c_7 := tn_ne (a := (r5).toInt) (b := 0) rfl (by decide) c_7
        have a_8 : (s2.v 51).toInt = (s.v 51).toInt := congrArg Int32.toInt (hFc_s2.1 51 (by decide))
        refine ok_grd (vpb_ok (by omega) (by omega)) ?_
        refine ok_let (fun s8 hs8 => ?_)
        have hI_s8 : InvR s8 := by rw [← hs8]; exact hI_s2.sf (k := 52) (show (0 : Int) ≤ (x1).toInt by omega) (show (x1).toInt ≤ (4 : Int) by omega)
        have hF_s8 : FrR [51, 152, 153, 154] s0 s8 := by rw [← hs8]; exact hF_s2.sf (k := 52) (by decide)
        have a_9 : (s8.v 51).toInt = (s2.v 51).toInt := congrArg Int32.toInt (show s8.v 51 = s2.v 51 by rw [← hs8]; rfl)
        refine ok_grd (vpb_ok (by omega) (by omega)) ?_
        refine ok_let (fun s11 hs11 => ?_)
        have hI_s11 : InvR s11 := by rw [← hs11]; exact hI_s8.sfF (k := 53) rfl rfl
        have hF_s11 : FrR [51, 152, 153, 154] s0 s11 := by rw [← hs11]; exact hF_s8.sf (k := 53) (by decide)
        have a_10 : (s11.v 51).toInt = (s8.v 51).toInt := congrArg Int32.toInt (show s11.v 51 = s8.v 51 by rw [← hs11]; rfl)
        refine ok_grd (vpb_ok (by omega) (by omega)) ?_
        refine ok_let (fun s14 hs14 => ?_)
        have hI_s14 : InvR s14 := by rw [← hs14]; exact hI_s11.sfF (k := 54) rfl rfl
        have hF_s14 : FrR [51, 152, 153, 154] s0 s14 := by rw [← hs14]; exact hF_s11.sf (k := 54) (by decide)
        refine ok_let (fun s16 hs16 => ?_)
        have a_11 : (s14.v 51).toInt = (s11.v 51).toInt := congrArg Int32.toInt (show s14.v 51 = s11.v 51 by rw [← hs14]; rfl)
        have a_12 : (((s14.v 51) + 1)).toInt = ((s14.v 51)).toInt + 1 := tn_add rfl (by decide) (by omega) (by omega)
        have hI_s16 : InvR s16 := by rw [← hs16]; exact hI_s14.sv (k := 51) (show (0 : Int) ≤ (((s14.v 51) + 1)).toInt by omega) (show (((s14.v 51) + 1)).toInt ≤ (20 : Int) by omega)
        have hF_s16 : FrR [51, 152, 153, 154] s0 s16 := by rw [← hs16]; exact hF_s14.sv (k := 51) (by decide)
        have a_13 : (s16.v 51).toInt = (((s14.v 51) + 1)).toInt := (congrArg Int32.toInt (show s16.v 51 = ((s14.v 51) + 1) by rw [← hs16]; rfl)).trans rfl
        have a_14 : (((s16.v 51) - 1)).toInt = ((s16.v 51)).toInt - 1 := tn_sub rfl (by decide) (by omega) (by omega)
        exact ok_some ⟨hI_s16, hF_s16, by show -1 ≤ (((s16.v 51) - 1)).toInt; omega, by show (((s16.v 51) - 1)).toInt ≤ 19; omega⟩
theorem ok_r_tell (s : RS) (x1 : Int32) (x2 : Int32) (x3 : Int32) (hI_s : InvR s) : Ok (r_tell s x1 x2 x3) (Q_r_tell s) := ok_r_tellB s s x1 x2 x3 hI_s FrR.rfl
abbrev Q_r_forget (s0 : RS) (y : Int32 × RS) : Prop := InvR y.2 ∧ FrR [51] s0 y.2 ∧ 0 ≤ y.1.toInt ∧ y.1.toInt ≤ 20
set_option maxHeartbeats 1000000 in
theorem ok_r_forgetB (s0 : RS)  (s : RS) (hI_s : InvR s) (hF_s : FrR [51] s0 s)  : Ok (r_forget  s) (Q_r_forget s0) := by
  unfold r_forget
  refine ok_let (fun s1 hs1 => ?_)
  have hI_s1 : InvR s1 := by rw [← hs1]; exact hI_s.sv (k := 51) (show (0 : Int) ≤ (0 : Int32).toInt by decide) (show (0 : Int32).toInt ≤ (20 : Int) by decide)
  have hF_s1 : FrR [51] s0 s1 := by rw [← hs1]; exact hF_s.sv (k := 51) (by decide)
  have a_1 : 0 ≤ (s.v 51).toInt ∧ (s.v 51).toInt ≤ 20 := hI_s.1 51
  exact ok_some ⟨hI_s1, hF_s1, by show 0 ≤ ((s.v 51)).toInt; omega, by show ((s.v 51)).toInt ≤ 20; omega⟩
theorem ok_r_forget (s : RS) (hI_s : InvR s) : Ok (r_forget s) (Q_r_forget s) := ok_r_forgetB s s hI_s FrR.rfl
abbrev Q_r_isSo (s0 : RS) (y : Int32 × RS) : Prop := InvR y.2 ∧ FrR [] s0 y.2 ∧ 0 ≤ y.1.toInt ∧ y.1.toInt ≤ 1
set_option maxHeartbeats 1000000 in
theorem ok_r_isSo_29 (s0 : RS) (hB : Big s0)  (s : RS) (x2 : Int32) (t0 : Int32) (hI_s : InvR s) (hF_s : FrR [] s0 s) (h_x2l : 0 ≤ x2.toInt) (h_x2u : x2.toInt ≤ 19) (h_t0l : 0 ≤ t0.toInt) (h_t0u : t0.toInt ≤ 1)  : Ok (r_isSo_29  s x2 t0) (Q_r_isSo s0) := by
  unfold r_isSo_29
  refine ok_grd (vpb_ok (by omega) (by omega)) ?_
  refine ok_ite (fun c_1 => ?_) (fun c_1 => ?_)
  · have c_1 := tn_eq (a := (t0).toInt) (b := ((s.f 54 (Int32.toNatClampNeg x2))).toInt) rfl rfl c_1
    exact ok_some ⟨hI_s, hF_s, by show 0 ≤ (1 : Int32).toInt; decide, by show (1 : Int32).toInt ≤ 1; decide⟩
  · have c_1 := tn_ne (a := (t0).toInt) (b := ((s.f 54 (Int32.toNatClampNeg x2))).toInt) rfl rfl c_1
    exact ok_some ⟨hI_s, hF_s, by show 0 ≤ (0 : Int32).toInt; decide, by show (0 : Int32).toInt ≤ 1; decide⟩
set_option maxHeartbeats 1000000 in
theorem ok_r_isSoB (s0 : RS) (hB : Big s0)  (s : RS) (x1 : Int32) (x2 : Int32) (hI_s : InvR s) (hF_s : FrR [] s0 s) (h_x1l : 0 ≤ x1.toInt) (h_x1u : x1.toInt ≤ 7775) (h_x2l : 0 ≤ x2.toInt) (h_x2u : x2.toInt ≤ 19)  : Ok (r_isSo  s x1 x2) (Q_r_isSo s0) := by
  unfold r_isSo
  refine ok_grd (vpb_ok (by omega) (by omega)) ?_
  refine ok_grd (vpb_ok (by omega) (by omega)) ?_
  have a_1 : 0 ≤ ((s.f 52 (Int32.toNatClampNeg x2))).toInt ∧ ((s.f 52 (Int32.toNatClampNeg x2))).toInt ≤ 4 := hI_s.2 52 _
  refine ok_bindI (ok_r_thingAt _ _ _ hI_s (hB.fr hF_s (by decide)) (by omega) (by omega) (by omega) (by omega)) (fun r4 s3 hc_2 => ?_)
  have hI_s3 : InvR s3 := hc_2.1
  have hFc_s3 : FrR [] s s3 := hc_2.2.1
  have hF_s3 : FrR [] s0 s3 := hF_s.trans hFc_s3 (by decide)
  have hl_r4 : 0 ≤ r4.toInt := hc_2.2.2.1
  have hu_r4 : r4.toInt ≤ 5 := hc_2.2.2.2
  have a_3 := ti_and1 (((s.f 53 (Int32.toNatClampNeg x2)) >>> (r4 &&& 31)))
  refine ok_ite (fun c_4 => ?_) (fun c_4 => ?_)
  · have c_4 := tn_eq (a := ((((s.f 53 (Int32.toNatClampNeg x2)) >>> (r4 &&& 31)) &&& 1)).toInt) (b := 1) rfl (by decide) c_4
    have l_1 : (1 : Int32).toInt = 1 := by decide
    exact ok_r_isSo_29 s0 hB  _ _ _ hI_s3 hF_s3 (by omega) (by omega) (by decide) (by decide) 
  · have c_4 := tn_ne (a := ((((s.f 53 (Int32.toNatClampNeg x2)) >>> (r4 &&& 31)) &&& 1)).toInt) (b := 1) rfl (by decide) c_4
    have l_0 : (0 : Int32).toInt = 0 := by decide
    exact ok_r_isSo_29 s0 hB  _ _ _ hI_s3 hF_s3 (by omega) (by omega) (by decide) (by decide) 
theorem ok_r_isSo (s : RS) (x1 : Int32) (x2 : Int32) (hI_s : InvR s) (hB : Big s) (h_x1l : 0 ≤ x1.toInt) (h_x1u : x1.toInt ≤ 7775) (h_x2l : 0 ≤ x2.toInt) (h_x2u : x2.toInt ≤ 19) : Ok (r_isSo s x1 x2) (Q_r_isSo s) := ok_r_isSoB s hB s x1 x2 hI_s FrR.rfl h_x1l h_x1u h_x2l h_x2u
abbrev Q_r_doesFit (s0 : RS) (y : Int32 × RS) : Prop := InvR y.2 ∧ FrR [] s0 y.2 ∧ 0 ≤ y.1.toInt ∧ y.1.toInt ≤ 1
set_option maxHeartbeats 1000000 in
theorem ok_r_doesFit_36 (s0 : RS) (hB : Big s0) (k17 : RS → Int32 → Int32 → Int32 → Int32 → Int32 → Option (Int32 × RS)) (M17 : Nat) (hk17 : ∀ (s : RS) (x1 : Int32) (x2 : Int32) (x3 : Int32) (x4 : Int32) (x5 : Int32), InvR s → FrR [] s0 s → 0 ≤ x1.toInt → x1.toInt ≤ 7775 → 0 ≤ x2.toInt → x2.toInt ≤ 20 → 0 ≤ x3.toInt → x3.toInt ≤ 3 → 0 ≤ x5.toInt → x5.toInt ≤ 20 → (20 - x5.toInt).toNat < M17 → Ok (k17 s x1 x2 x3 x4 x5) (Q_r_doesFit s0)) (s : RS) (x1 : Int32) (x2 : Int32) (x3 : Int32) (x4 : Int32) (x5 : Int32) (hI_s : InvR s) (hF_s : FrR [] s0 s) (h_x1l : 0 ≤ x1.toInt) (h_x1u : x1.toInt ≤ 7775) (h_x2l : 1 ≤ x2.toInt) (h_x2u : x2.toInt ≤ 20) (h_x3l : 0 ≤ x3.toInt) (h_x3u : x3.toInt ≤ 3) (h_x5l : 0 ≤ x5.toInt) (h_x5u : x5.toInt ≤ 19) (hM17 : (20 - x5.toInt).toNat ≤ M17) : Ok (r_doesFit_36 k17 s x1 x2 x3 x4 x5) (Q_r_doesFit s0) := by
  unfold r_doesFit_36
  have a_1 : ((x5 + 1)).toInt = (x5).toInt + 1 := tn_add rfl (by decide) (by omega) (by omega)
  exact hk17 _ _ _ _ _ _ hI_s hF_s (by omega) (by omega) (by omega) (by omega) (by omega) (by omega) (by omega) (by omega) (by omega)
set_option maxHeartbeats 1000000 in
theorem ok_r_doesFit_17 (s0 : RS) (hB : Big s0) (k17 : RS → Int32 → Int32 → Int32 → Int32 → Int32 → Option (Int32 × RS)) (M17 : Nat) (hk17 : ∀ (s : RS) (x1 : Int32) (x2 : Int32) (x3 : Int32) (x4 : Int32) (x5 : Int32), InvR s → FrR [] s0 s → 0 ≤ x1.toInt → x1.toInt ≤ 7775 → 0 ≤ x2.toInt → x2.toInt ≤ 20 → 0 ≤ x3.toInt → x3.toInt ≤ 3 → 0 ≤ x5.toInt → x5.toInt ≤ 20 → (20 - x5.toInt).toNat < M17 → Ok (k17 s x1 x2 x3 x4 x5) (Q_r_doesFit s0)) (s : RS) (x1 : Int32) (x2 : Int32) (x3 : Int32) (x4 : Int32) (x5 : Int32) (hI_s : InvR s) (hF_s : FrR [] s0 s) (h_x1l : 0 ≤ x1.toInt) (h_x1u : x1.toInt ≤ 7775) (h_x2l : 0 ≤ x2.toInt) (h_x2u : x2.toInt ≤ 20) (h_x3l : 0 ≤ x3.toInt) (h_x3u : x3.toInt ≤ 3) (h_x5l : 0 ≤ x5.toInt) (h_x5u : x5.toInt ≤ 20) (hM17 : (20 - x5.toInt).toNat ≤ M17) : Ok (r_doesFit_17 k17 s x1 x2 x3 x4 x5) (Q_r_doesFit s0) := by
  unfold r_doesFit_17
  refine ok_ite (fun c_1 => ?_) (fun c_1 => ?_)
  · have c_1 := tn_le (a := (x2).toInt) (b := (x5).toInt) rfl rfl c_1
    refine ok_ite (fun c_2 => ?_) (fun c_2 => ?_)
    · have c_2 := tn_lt (a := (x3).toInt) (b := (x4).toInt) rfl rfl c_2
      exact ok_some ⟨hI_s, hF_s, by show 0 ≤ (0 : Int32).toInt; decide, by show (0 : Int32).toInt ≤ 1; decide⟩
    · have c_2 := tn_nlt (a := (x3).toInt) (b := (x4).toInt) rfl rfl c_2
      exact ok_some ⟨hI_s, hF_s, by show 0 ≤ (1 : Int32).toInt; decide, by show (1 : Int32).toInt ≤ 1; decide⟩
  · have c_1 := tn_nle (a := (x2).toInt) (b := (x5).toInt) rfl rfl c_1
    refine ok_bindI (ok_r_isSo _ _ _ hI_s (hB.fr hF_s (by decide)) (by omega) (by omega) (by omega) (by omega)) (fun r4 s3 hc_3 => ?_)
    have hI_s3 : InvR s3 := hc_3.1
    have hFc_s3 : FrR [] s s3 := hc_3.2.1
    have hF_s3 : FrR [] s0 s3 := hF_s.trans hFc_s3 (by decide)
    have hl_r4 : 0 ≤ r4.toInt := hc_3.2.2.1
    have hu_r4 : r4.toInt ≤ 1 := hc_3.2.2.2
    refine ok_ite (fun c_4 => ?_) (fun c_4 => ?_)
    · have c_4 := tn_eq (a := (r4).toInt) (b := 0) rfl (by decide) c_4
      exact ok_r_doesFit_36 s0 hB k17 M17 hk17 _ _ _ _ _ _ hI_s3 hF_s3 (by omega) (by omega) (by omega) (by omega) (by omega) (by omega) (by omega) (by omega) (by omega)
    · have c_4 := tn_ne (a := (r4).toInt) (b := 0) rfl (by decide) c_4
      exact ok_r_doesFit_36 s0 hB k17 M17 hk17 _ _ _ _ _ _ hI_s3 hF_s3 (by omega) (by omega) (by omega) (by omega) (by omega) (by omega) (by omega) (by omega) (by omega)
theorem okL_r_doesFit_17 (s0 : RS) (hB : Big s0)  : ∀ (n : Nat) (s : RS) (x1 : Int32) (x2 : Int32) (x3 : Int32) (x4 : Int32) (x5 : Int32), (20 - x5.toInt).toNat < n → InvR s → FrR [] s0 s → 0 ≤ x1.toInt → x1.toInt ≤ 7775 → 0 ≤ x2.toInt → x2.toInt ≤ 20 → 0 ≤ x3.toInt → x3.toInt ≤ 3 → 0 ≤ x5.toInt → x5.toInt ≤ 20 → Ok (r_doesFit_17L  n s x1 x2 x3 x4 x5) (Q_r_doesFit s0) := by
  intro n
  induction n with
  | zero => intro s x1 x2 x3 x4 x5 hn; omega
  | succ n ih =>
    intro s x1 x2 x3 x4 x5 hn hI_s hF_s h_x1l h_x1u h_x2l h_x2u h_x3l h_x3u h_x5l h_x5u 
    exact ok_r_doesFit_17 s0 hB (r_doesFit_17L  n) ((20 - x5.toInt).toNat) (fun zs zx1 zx2 zx3 zx4 zx5 g0 g1 g2 g3 g4 g5 g6 g7 g8 g9  hm => ih zs zx1 zx2 zx3 zx4 zx5 (by omega) g0 g1 g2 g3 g4 g5 g6 g7 g8 g9 ) s x1 x2 x3 x4 x5 hI_s hF_s h_x1l h_x1u h_x2l h_x2u h_x3l h_x3u h_x5l h_x5u (Nat.le_refl _)
set_option maxHeartbeats 1000000 in
theorem ok_r_doesFitB (s0 : RS) (hB : Big s0)  (s : RS) (x1 : Int32) (x2 : Int32) (x3 : Int32) (hI_s : InvR s) (hF_s : FrR [] s0 s) (h_x1l : 0 ≤ x1.toInt) (h_x1u : x1.toInt ≤ 7775) (h_x2l : 0 ≤ x2.toInt) (h_x2u : x2.toInt ≤ 20) (h_x3l : 0 ≤ x3.toInt) (h_x3u : x3.toInt ≤ 3)  : Ok (r_doesFit  s x1 x2 x3) (Q_r_doesFit s0) := by
  unfold r_doesFit
  refine ok_grd (vpb_ok (by omega) (by omega)) ?_
  refine ok_ite (fun c_1 => ?_) (fun c_1 => ?_)
  · have c_1 := tn_eq (a := ((s.f 50 (Int32.toNatClampNeg x1))).toInt) (b := 0) rfl (by decide) c_1
    exact ok_some ⟨hI_s, hF_s, by show 0 ≤ (0 : Int32).toInt; decide, by show (0 : Int32).toInt ≤ 1; decide⟩
  · have c_1 := tn_ne (a := ((s.f 50 (Int32.toNatClampNeg x1))).toInt) (b := 0) rfl (by decide) c_1
    have l_0 : (0 : Int32).toInt = 0 := by decide
    exact okL_r_doesFit_17 s0 hB  fu _ _ _ _ _ _ (by unfold fu; omega) hI_s hF_s (by omega) (by omega) (by omega) (by omega) (by omega) (by omega) (by decide) (by decide) 
theorem ok_r_doesFit (s : RS) (x1 : Int32) (x2 : Int32) (x3 : Int32) (hI_s : InvR s) (hB : Big s) (h_x1l : 0 ≤ x1.toInt) (h_x1u : x1.toInt ≤ 7775) (h_x2l : 0 ≤ x2.toInt) (h_x2u : x2.toInt ≤ 20) (h_x3l : 0 ≤ x3.toInt) (h_x3u : x3.toInt ≤ 3) : Ok (r_doesFit s x1 x2 x3) (Q_r_doesFit s) := ok_r_doesFitB s hB s x1 x2 x3 hI_s FrR.rfl h_x1l h_x1u h_x2l h_x2u h_x3l h_x3u
abbrev Q_r_isAsked (s0 : RS) (x1 : Int32) (x2 : Int32) (y : Int32 × RS) : Prop := InvR y.2 ∧ FrR [] s0 y.2 ∧ 0 ≤ y.1.toInt ∧ y.1.toInt ≤ 1 ∧ (¬ y.1.toInt = 0 → 0 ≤ (x1).toInt ∧ (x1).toInt ≤ 20 ∧ 0 ≤ (x2).toInt ∧ (x2).toInt ≤ 3)
set_option maxHeartbeats 1000000 in
theorem ok_r_isAskedB (s0 : RS)  (s : RS) (x1 : Int32) (x2 : Int32) (hI_s : InvR s) (hF_s : FrR [] s0 s)  : Ok (r_isAsked  s x1 x2) (Q_r_isAsked s0 x1 x2) := by
  unfold r_isAsked
  have a_1 : 0 ≤ (s.v 51).toInt ∧ (s.v 51).toInt ≤ 20 := hI_s.1 51
  refine ok_bindP (ok_r_in _ _ _ (by decide) (by decide) (by omega) (by omega)) (fun r1 hc_2 => ?_)
  have l_0 : (0 : Int32).toInt = 0 := by decide
  have hl_r1 : 0 ≤ r1.toInt := hc_2.1
  have hu_r1 : r1.toInt ≤ 1 := hc_2.2.1
  have hx0_r1 : (¬ r1.toInt = 0 → (0 : Int32).toInt ≤ (x1).toInt ∧ (x1).toInt ≤ ((s.v 51)).toInt) := hc_2.2.2
  refine ok_ite (fun c_3 => ?_) (fun c_3 => ?_)
  · have c_3 := tn_eq (a := (r1).toInt) (b := 0) rfl (by decide) c_3
    exact ok_some ⟨hI_s, hF_s, by show 0 ≤ (0 : Int32).toInt; decide, by show (0 : Int32).toInt ≤ 1; decide, by show (¬ (0 : Int32).toInt = 0 → 0 ≤ (x1).toInt ∧ (x1).toInt ≤ 20 ∧ 0 ≤ (x2).toInt ∧ (x2).toInt ≤ 3); have l := (by decide : (0 : Int32).toInt = 0); omega⟩
  · have c_3 := tn_ne (a := (r1).toInt) (b := 0) rfl (by decide) c_3
    refine ok_bindP (ok_r_in _ _ _ (by decide) (by decide) (by decide) (by decide)) (fun r3 hc_4 => ?_)
    have l_3 : (3 : Int32).toInt = 3 := by decide
    have hl_r3 : 0 ≤ r3.toInt := hc_4.1
    have hu_r3 : r3.toInt ≤ 1 := hc_4.2.1
    have hx0_r3 : (¬ r3.toInt = 0 → (0 : Int32).toInt ≤ (x2).toInt ∧ (x2).toInt ≤ (3 : Int32).toInt) := hc_4.2.2
    refine ok_ite (fun c_5 => ?_) (fun c_5 => ?_)
    · have c_5 := tn_eq (a := (r3).toInt) (b := 0) rfl (by decide) c_5
      exact ok_some ⟨hI_s, hF_s, by show 0 ≤ (0 : Int32).toInt; decide, by show (0 : Int32).toInt ≤ 1; decide, by show (¬ (0 : Int32).toInt = 0 → 0 ≤ (x1).toInt ∧ (x1).toInt ≤ 20 ∧ 0 ≤ (x2).toInt ∧ (x2).toInt ≤ 3); have l := (by decide : (0 : Int32).toInt = 0); omega⟩
    · have c_5 := tn_ne (a := (r3).toInt) (b := 0) rfl (by decide) c_5
      exact ok_some ⟨hI_s, hF_s, by show 0 ≤ (1 : Int32).toInt; decide, by show (1 : Int32).toInt ≤ 1; decide, by show (¬ (1 : Int32).toInt = 0 → 0 ≤ (x1).toInt ∧ (x1).toInt ≤ 20 ∧ 0 ≤ (x2).toInt ∧ (x2).toInt ≤ 3); have l := (by decide : (1 : Int32).toInt = 1); omega⟩
theorem ok_r_isAsked (s : RS) (x1 : Int32) (x2 : Int32) (hI_s : InvR s) : Ok (r_isAsked s x1 x2) (Q_r_isAsked s x1 x2) := ok_r_isAskedB s s x1 x2 hI_s FrR.rfl
abbrev Q_r_fit (s0 : RS) (y : Int32 × RS) : Prop := InvR y.2 ∧ FrR [45, 144, 150] s0 y.2 ∧ -2147483648 ≤ y.1.toInt ∧ y.1.toInt ≤ 2147483647
set_option maxHeartbeats 1000000 in
theorem ok_r_fit_70 (s0 : RS) (hB : Big s0) (k30 : RS → Int32 → Int32 → Int32 → Int32 → Int32 → Option (Int32 × RS)) (M30 : Nat) (hk30 : ∀ (s : RS) (x1 : Int32) (x2 : Int32) (x3 : Int32) (x4 : Int32) (x5 : Int32), InvR s → FrR [45, 144, 150] s0 s → 0 ≤ x1.toInt → x1.toInt ≤ 20 → 0 ≤ x2.toInt → x2.toInt ≤ 3 → 0 ≤ x3.toInt → x3.toInt ≤ 1 → 0 ≤ x5.toInt → x5.toInt ≤ 7776 → (7776 - x5.toInt).toNat < M30 → Ok (k30 s x1 x2 x3 x4 x5) (Q_r_fit s0)) (s : RS) (x1 : Int32) (x2 : Int32) (x3 : Int32) (x4 : Int32) (x5 : Int32) (hI_s : InvR s) (hF_s : FrR [45, 144, 150] s0 s) (h_x1l : 0 ≤ x1.toInt) (h_x1u : x1.toInt ≤ 20) (h_x2l : 0 ≤ x2.toInt) (h_x2u : x2.toInt ≤ 3) (h_x3l : 0 ≤ x3.toInt) (h_x3u : x3.toInt ≤ 1) (h_x5l : 0 ≤ x5.toInt) (h_x5u : x5.toInt ≤ 7775) (hM30 : (7776 - x5.toInt).toNat ≤ M30) : Ok (r_fit_70 k30 s x1 x2 x3 x4 x5) (Q_r_fit s0) := by
  unfold r_fit_70
  have a_1 : ((x5 + 1)).toInt = (x5).toInt + 1 := tn_add rfl (by decide) (by omega) (by omega)
  exact hk30 _ _ _ _ _ _ hI_s hF_s (by omega) (by omega) (by omega) (by omega) (by omega) (by omega) (by omega) (by omega) (by omega)
set_option maxHeartbeats 1000000 in
theorem ok_r_fit_67 (s0 : RS) (hB : Big s0) (k30 : RS → Int32 → Int32 → Int32 → Int32 → Int32 → Option (Int32 × RS)) (M30 : Nat) (hk30 : ∀ (s : RS) (x1 : Int32) (x2 : Int32) (x3 : Int32) (x4 : Int32) (x5 : Int32), InvR s → FrR [45, 144, 150] s0 s → 0 ≤ x1.toInt → x1.toInt ≤ 20 → 0 ≤ x2.toInt → x2.toInt ≤ 3 → 0 ≤ x3.toInt → x3.toInt ≤ 1 → 0 ≤ x5.toInt → x5.toInt ≤ 7776 → (7776 - x5.toInt).toNat < M30 → Ok (k30 s x1 x2 x3 x4 x5) (Q_r_fit s0)) (s : RS) (x1 : Int32) (x2 : Int32) (x3 : Int32) (x5 : Int32) (t0 : Int32) (t1 : Int32) (hI_s : InvR s) (hF_s : FrR [45, 144, 150] s0 s) (h_x1l : 0 ≤ x1.toInt) (h_x1u : x1.toInt ≤ 20) (h_x2l : 0 ≤ x2.toInt) (h_x2u : x2.toInt ≤ 3) (h_x3l : 0 ≤ x3.toInt) (h_x3u : x3.toInt ≤ 1) (h_x5l : 0 ≤ x5.toInt) (h_x5u : x5.toInt ≤ 7775) (hM30 : (7776 - x5.toInt).toNat ≤ M30) : Ok (r_fit_67 k30 s x1 x2 x3 x5 t0 t1) (Q_r_fit s0) := by
  unfold r_fit_67
  exact ok_r_fit_70 s0 hB k30 M30 hk30 _ _ _ _ _ _ hI_s hF_s (by omega) (by omega) (by omega) (by omega) (by omega) (by omega) (by omega) (by omega) (by omega)
set_option maxHeartbeats 1000000 in
theorem ok_r_fit_30 (s0 : RS) (hB : Big s0) (k30 : RS → Int32 → Int32 → Int32 → Int32 → Int32 → Option (Int32 × RS)) (M30 : Nat) (hk30 : ∀ (s : RS) (x1 : Int32) (x2 : Int32) (x3 : Int32) (x4 : Int32) (x5 : Int32), InvR s → FrR [45, 144, 150] s0 s → 0 ≤ x1.toInt → x1.toInt ≤ 20 → 0 ≤ x2.toInt → x2.toInt ≤ 3 → 0 ≤ x3.toInt → x3.toInt ≤ 1 → 0 ≤ x5.toInt → x5.toInt ≤ 7776 → (7776 - x5.toInt).toNat < M30 → Ok (k30 s x1 x2 x3 x4 x5) (Q_r_fit s0)) (s : RS) (x1 : Int32) (x2 : Int32) (x3 : Int32) (x4 : Int32) (x5 : Int32) (hI_s : InvR s) (hF_s : FrR [45, 144, 150] s0 s) (h_x1l : 0 ≤ x1.toInt) (h_x1u : x1.toInt ≤ 20) (h_x2l : 0 ≤ x2.toInt) (h_x2u : x2.toInt ≤ 3) (h_x3l : 0 ≤ x3.toInt) (h_x3u : x3.toInt ≤ 1) (h_x5l : 0 ≤ x5.toInt) (h_x5u : x5.toInt ≤ 7776) (hM30 : (7776 - x5.toInt).toNat ≤ M30) : Ok (r_fit_30 k30 s x1 x2 x3 x4 x5) (Q_r_fit s0) := by
  unfold r_fit_30
  refine ok_bindI (ok_r_guesses _  hI_s (hB.fr hF_s (by decide))) (fun r2 s1 hc_1 => ?_)
  have hI_s1 : InvR s1 := hc_1.1
  have hFc_s1 : FrR [] s s1 := hc_1.2.1
  have hF_s1 : FrR [45, 144, 150] s0 s1 := hF_s.trans hFc_s1 (by decide)
  have hl_r2 : 1 ≤ r2.toInt := hc_1.2.2.1
  have hu_r2 : r2.toInt ≤ 7776 := hc_1.2.2.2
  refine ok_ite (fun c_2 => ?_) (fun c_2 => ?_)
  · have c_2 := tn_le (a := (r2).toInt) (b := (x5).toInt) rfl rfl c_2
    exact ok_some ⟨hI_s1, hF_s1, (ti_rng _).1, (ti_rng _).2⟩
  · have c_2 := tn_nle (a := (r2).toInt) (b := (x5).toInt) rfl rfl c_2
    refine ok_bindI (ok_r_doesFit _ _ _ _ hI_s1 (hB.fr hF_s1 (by decide)) (by omega) (by omega) (by omega) (by omega) (by omega) (by omega)) (fun r5 s4 hc_3 => ?_)
    have hI_s4 : InvR s4 := hc_3.1
    have hFc_s4 : FrR [] s1 s4 := hc_3.2.1
    have hF_s4 : FrR [45, 144, 150] s0 s4 := hF_s1.trans hFc_s4 (by decide)
    have hl_r5 : 0 ≤ r5.toInt := hc_3.2.2.1
    have hu_r5 : r5.toInt ≤ 1 := hc_3.2.2.2
    refine ok_ite (fun c_4 => ?_) (fun c_4 => ?_)
    · have c_4 := tn_eq (a := (r5).toInt) (b := 0) rfl (by decide) c_4
      exact ok_r_fit_70 s0 hB k30 M30 hk30 _ _ _ _ _ _ hI_s4 hF_s4 (by omega) (by omega) (by omega) (by omega) (by omega) (by omega) (by omega) (by omega) (by omega)
    · have c_4 := tn_ne (a := (r5).toInt) (b := 0) rfl (by decide) c_4
      refine ok_ite (fun c_5 => ?_) (fun c_5 => ?_)
      · have c_5 := tn_eq (a := (x3).toInt) (b := 0) rfl (by decide) c_5
        have l_1 : (1 : Int32).toInt = 1 := by decide
        exact ok_r_fit_67 s0 hB k30 M30 hk30 _ _ _ _ _ _ _ hI_s4 hF_s4 (by omega) (by omega) (by omega) (by omega) (by omega) (by omega) (by omega) (by omega) (by omega)
      · have c_5 := tn_ne (a := (x3).toInt) (b := 0) rfl (by decide) c_5
        refine ok_grd (vpb_ok (by omega) (by omega)) ?_
        exact ok_r_fit_67 s0 hB k30 M30 hk30 _ _ _ _ _ _ _ hI_s4 hF_s4 (by omega) (by omega) (by omega) (by omega) (by omega) (by omega) (by omega) (by omega) (by omega)
theorem okL_r_fit_30 (s0 : RS) (hB : Big s0)  : ∀ (n : Nat) (s : RS) (x1 : Int32) (x2 : Int32) (x3 : Int32) (x4 : Int32) (x5 : Int32), (7776 - x5.toInt).toNat < n → InvR s → FrR [45, 144, 150] s0 s → 0 ≤ x1.toInt → x1.toInt ≤ 20 → 0 ≤ x2.toInt → x2.toInt ≤ 3 → 0 ≤ x3.toInt → x3.toInt ≤ 1 → 0 ≤ x5.toInt → x5.toInt ≤ 7776 → Ok (r_fit_30L  n s x1 x2 x3 x4 x5) (Q_r_fit s0) := by
  intro n
  induction n with
  | zero => intro s x1 x2 x3 x4 x5 hn; omega
  | succ n ih =>
    intro s x1 x2 x3 x4 x5 hn hI_s hF_s h_x1l h_x1u h_x2l h_x2u h_x3l h_x3u h_x5l h_x5u 
    exact ok_r_fit_30 s0 hB (r_fit_30L  n) ((7776 - x5.toInt).toNat) (fun zs zx1 zx2 zx3 zx4 zx5 g0 g1 g2 g3 g4 g5 g6 g7 g8 g9  hm => ih zs zx1 zx2 zx3 zx4 zx5 (by omega) g0 g1 g2 g3 g4 g5 g6 g7 g8 g9 ) s x1 x2 x3 x4 x5 hI_s hF_s h_x1l h_x1u h_x2l h_x2u h_x3l h_x3u h_x5l h_x5u (Nat.le_refl _)
set_option maxHeartbeats 1000000 in
theorem ok_r_fitB (s0 : RS) (hB : Big s0)  (s : RS) (x1 : Int32) (x2 : Int32) (x3 : Int32) (hI_s : InvR s) (hF_s : FrR [45, 144, 150] s0 s)  : Ok (r_fit  s x1 x2 x3) (Q_r_fit s0) := by
  unfold r_fit
  refine ok_bindI (ok_r_isAsked _ _ _ hI_s) (fun r2 s1 hc_1 => ?_)
  have hI_s1 : InvR s1 := hc_1.1
  have hFc_s1 : FrR [] s s1 := hc_1.2.1
  have hF_s1 : FrR [45, 144, 150] s0 s1 := hF_s.trans hFc_s1 (by decide)
  have hl_r2 : 0 ≤ r2.toInt := hc_1.2.2.1
  have hu_r2 : r2.toInt ≤ 1 := hc_1.2.2.2.1
  have hx0_r2 : (¬ r2.toInt = 0 → 0 ≤ (x1).toInt ∧ (x1).toInt ≤ 20 ∧ 0 ≤ (x2).toInt ∧ (x2).toInt ≤ 3) := hc_1.2.2.2.2
  refine ok_ite (fun c_2 => ?_) (fun c_2 => ?_)
  · have c_2 := tn_eq (a := (r2).toInt) (b := 0) rfl (by decide) c_2
    exact ok_some ⟨hI_s1, hF_s1, (ti_rng _).1, (ti_rng _).2⟩
  · have c_2 := tn_ne (a := (r2).toInt) (b := 0) rfl (by decide) c_2
    refine ok_bindP (ok_r_in _ _ _ (by decide) (by decide) (by decide) (by decide)) (fun r4 hc_3 => ?_)
    have l_0 : (0 : Int32).toInt = 0 := by decide
    have l_1 : (1 : Int32).toInt = 1 := by decide
    have hl_r4 : 0 ≤ r4.toInt := hc_3.1
    have hu_r4 : r4.toInt ≤ 1 := hc_3.2.1
    have hx0_r4 : (¬ r4.toInt = 0 → (0 : Int32).toInt ≤ (x3).toInt ∧ (x3).toInt ≤ (1 : Int32).toInt) := hc_3.2.2
    refine ok_ite (fun c_4 => ?_) (fun c_4 => ?_)
    · have c_4 := tn_eq (a := (r4).toInt) (b := 0) rfl (by decide) c_4
      exact ok_some ⟨hI_s1, hF_s1, (ti_rng _).1, (ti_rng _).2⟩
    · have c_4 := tn_ne (a := (r4).toInt) (b := 0) rfl (by decide) c_4
      refine ok_bindP (ok_r_fillsChances _  hI_s1 (hB.fr hF_s1 (by decide))) (fun s6 hc_5 => ?_)
      have hI_s6 : InvR s6 := hc_5.1
      have hFc_s6 : FrR [45, 144, 150] s1 s6 := hc_5.2
      have hF_s6 : FrR [45, 144, 150] s0 s6 := hF_s1.trans hFc_s6 (by decide)
      exact okL_r_fit_30 s0 hB  fu _ _ _ _ _ _ (by unfold fu; omega) hI_s6 hF_s6 (by omega) (by omega) (by omega) (by omega) (by omega) (by omega) (by decide) (by decide) 
theorem ok_r_fit (s : RS) (x1 : Int32) (x2 : Int32) (x3 : Int32) (hI_s : InvR s) (hB : Big s) : Ok (r_fit s x1 x2 x3) (Q_r_fit s) := ok_r_fitB s hB s x1 x2 x3 hI_s FrR.rfl
abbrev Q_r_lie (s0 : RS) (y : Int32 × RS) : Prop := InvR y.2 ∧ FrR [45, 144, 150] s0 y.2 ∧ -2147483648 ≤ y.1.toInt ∧ y.1.toInt ≤ 2147483647
set_option maxHeartbeats 1000000 in
theorem ok_r_lie_82 (s0 : RS) (hB : Big s0) (k24 : RS → Int32 → Int32 → Int32 → Int32 → Option (Int32 × RS)) (M24 : Nat) (hk24 : ∀ (s : RS) (x1 : Int32) (x2 : Int32) (x3 : Int32) (x4 : Int32), InvR s → FrR [45, 144, 150] s0 s → 0 ≤ x1.toInt → x1.toInt ≤ 20 → 0 ≤ x2.toInt → x2.toInt ≤ 3 → 0 ≤ x4.toInt → x4.toInt ≤ 7776 → (7776 - x4.toInt).toNat < M24 → Ok (k24 s x1 x2 x3 x4) (Q_r_lie s0)) (s : RS) (x1 : Int32) (x2 : Int32) (x3 : Int32) (x4 : Int32) (hI_s : InvR s) (hF_s : FrR [45, 144, 150] s0 s) (h_x1l : 0 ≤ x1.toInt) (h_x1u : x1.toInt ≤ 20) (h_x2l : 0 ≤ x2.toInt) (h_x2u : x2.toInt ≤ 3) (h_x4l : 0 ≤ x4.toInt) (h_x4u : x4.toInt ≤ 7775) (hM24 : (7776 - x4.toInt).toNat ≤ M24) : Ok (r_lie_82 k24 s x1 x2 x3 x4) (Q_r_lie s0) := by
  unfold r_lie_82
  have a_1 : ((x4 + 1)).toInt = (x4).toInt + 1 := tn_add rfl (by decide) (by omega) (by omega)
  exact hk24 _ _ _ _ _ hI_s hF_s (by omega) (by omega) (by omega) (by omega) (by omega) (by omega) (by omega)
set_option maxHeartbeats 1000000 in
theorem ok_r_lie_76 (s0 : RS) (hB : Big s0) (k24 : RS → Int32 → Int32 → Int32 → Int32 → Option (Int32 × RS)) (M24 : Nat) (hk24 : ∀ (s : RS) (x1 : Int32) (x2 : Int32) (x3 : Int32) (x4 : Int32), InvR s → FrR [45, 144, 150] s0 s → 0 ≤ x1.toInt → x1.toInt ≤ 20 → 0 ≤ x2.toInt → x2.toInt ≤ 3 → 0 ≤ x4.toInt → x4.toInt ≤ 7776 → (7776 - x4.toInt).toNat < M24 → Ok (k24 s x1 x2 x3 x4) (Q_r_lie s0)) (k50 : RS → Int32 → Int32 → Int32 → Int32 → Int32 → Option (Int32 × RS)) (M50 : Nat) (hk50 : ∀ (s : RS) (x1 : Int32) (x2 : Int32) (x3 : Int32) (x4 : Int32) (x5 : Int32), InvR s → FrR [45, 144, 150] s0 s → 0 ≤ x1.toInt → x1.toInt ≤ 20 → 0 ≤ x2.toInt → x2.toInt ≤ 3 → 0 ≤ x4.toInt → x4.toInt ≤ 7775 → 0 ≤ x5.toInt → x5.toInt ≤ 20 → (7776 - x4.toInt).toNat ≤ M24 → (20 - x5.toInt).toNat < M50 → Ok (k50 s x1 x2 x3 x4 x5) (Q_r_lie s0)) (s : RS) (x1 : Int32) (x2 : Int32) (x3 : Int32) (x4 : Int32) (x5 : Int32) (hI_s : InvR s) (hF_s : FrR [45, 144, 150] s0 s) (h_x1l : 1 ≤ x1.toInt) (h_x1u : x1.toInt ≤ 20) (h_x2l : 0 ≤ x2.toInt) (h_x2u : x2.toInt ≤ 3) (h_x4l : 0 ≤ x4.toInt) (h_x4u : x4.toInt ≤ 7775) (h_x5l : 0 ≤ x5.toInt) (h_x5u : x5.toInt ≤ 19) (hM24 : (7776 - x4.toInt).toNat ≤ M24) (hM50 : (20 - x5.toInt).toNat ≤ M50) : Ok (r_lie_76 k24 k50 s x1 x2 x3 x4 x5) (Q_r_lie s0) := by
  unfold r_lie_76
  have a_1 : ((x5 + 1)).toInt = (x5).toInt + 1 := tn_add rfl (by decide) (by omega) (by omega)
  exact hk50 _ _ _ _ _ _ hI_s hF_s (by omega) (by omega) (by omega) (by omega) (by omega) (by omega) (by omega) (by omega) (by omega) (by omega)
set_option maxHeartbeats 1000000 in
theorem ok_r_lie_50 (s0 : RS) (hB : Big s0) (k24 : RS → Int32 → Int32 → Int32 → Int32 → Option (Int32 × RS)) (M24 : Nat) (hk24 : ∀ (s : RS) (x1 : Int32) (x2 : Int32) (x3 : Int32) (x4 : Int32), InvR s → FrR [45, 144, 150] s0 s → 0 ≤ x1.toInt → x1.toInt ≤ 20 → 0 ≤ x2.toInt → x2.toInt ≤ 3 → 0 ≤ x4.toInt → x4.toInt ≤ 7776 → (7776 - x4.toInt).toNat < M24 → Ok (k24 s x1 x2 x3 x4) (Q_r_lie s0)) (k50 : RS → Int32 → Int32 → Int32 → Int32 → Int32 → Option (Int32 × RS)) (M50 : Nat) (hk50 : ∀ (s : RS) (x1 : Int32) (x2 : Int32) (x3 : Int32) (x4 : Int32) (x5 : Int32), InvR s → FrR [45, 144, 150] s0 s → 0 ≤ x1.toInt → x1.toInt ≤ 20 → 0 ≤ x2.toInt → x2.toInt ≤ 3 → 0 ≤ x4.toInt → x4.toInt ≤ 7775 → 0 ≤ x5.toInt → x5.toInt ≤ 20 → (7776 - x4.toInt).toNat ≤ M24 → (20 - x5.toInt).toNat < M50 → Ok (k50 s x1 x2 x3 x4 x5) (Q_r_lie s0)) (s : RS) (x1 : Int32) (x2 : Int32) (x3 : Int32) (x4 : Int32) (x5 : Int32) (hI_s : InvR s) (hF_s : FrR [45, 144, 150] s0 s) (h_x1l : 0 ≤ x1.toInt) (h_x1u : x1.toInt ≤ 20) (h_x2l : 0 ≤ x2.toInt) (h_x2u : x2.toInt ≤ 3) (h_x4l : 0 ≤ x4.toInt) (h_x4u : x4.toInt ≤ 7775) (h_x5l : 0 ≤ x5.toInt) (h_x5u : x5.toInt ≤ 20) (hM24 : (7776 - x4.toInt).toNat ≤ M24) (hM50 : (20 - x5.toInt).toNat ≤ M50) : Ok (r_lie_50 k24 k50 s x1 x2 x3 x4 x5) (Q_r_lie s0) := by
  unfold r_lie_50
  refine ok_ite (fun c_1 => ?_) (fun c_1 => ?_)
  · have c_1 := tn_le (a := (x1).toInt) (b := (x5).toInt) rfl rfl c_1
    exact ok_r_lie_82 s0 hB k24 M24 hk24 _ _ _ _ _ hI_s hF_s (by omega) (by omega) (by omega) (by omega) (by omega) (by omega) (by omega)
  · have c_1 := tn_nle (a := (x1).toInt) (b := (x5).toInt) rfl rfl c_1
    refine ok_bindI (ok_r_isSo _ _ _ hI_s (hB.fr hF_s (by decide)) (by omega) (by omega) (by omega) (by omega)) (fun r3 s2 hc_2 => ?_)
    have hI_s2 : InvR s2 := hc_2.1
    have hFc_s2 : FrR [] s s2 := hc_2.2.1
    have hF_s2 : FrR [45, 144, 150] s0 s2 := hF_s.trans hFc_s2 (by decide)
    have hl_r3 : 0 ≤ r3.toInt := hc_2.2.2.1
    have hu_r3 : r3.toInt ≤ 1 := hc_2.2.2.2
    refine ok_ite (fun c_3 => ?_) (fun c_3 => ?_)
    · have c_3 := tn_eq (a := (r3).toInt) (b := 0) rfl (by decide) c_3
      exact ok_r_lie_76 s0 hB k24 M24 hk24 k50 M50 hk50 _ _ _ _ _ _ hI_s2 hF_s2 (by omega) (by omega) (by omega) (by omega) (by omega) (by omega) (by omega) (by omega) (by omega) (by omega)
    · have c_3 := tn_ne (a := (r3).toInt) (b := 0) rfl (by decide) c_3
      exact ok_r_lie_76 s0 hB k24 M24 hk24 k50 M50 hk50 _ _ _ _ _ _ hI_s2 hF_s2 (by omega) (by omega) (by omega) (by omega) (by omega) (by omega) (by omega) (by omega) (by omega) (by omega)
theorem okL_r_lie_50 (s0 : RS) (hB : Big s0) (k24 : RS → Int32 → Int32 → Int32 → Int32 → Option (Int32 × RS)) (M24 : Nat) (hk24 : ∀ (s : RS) (x1 : Int32) (x2 : Int32) (x3 : Int32) (x4 : Int32), InvR s → FrR [45, 144, 150] s0 s → 0 ≤ x1.toInt → x1.toInt ≤ 20 → 0 ≤ x2.toInt → x2.toInt ≤ 3 → 0 ≤ x4.toInt → x4.toInt ≤ 7776 → (7776 - x4.toInt).toNat < M24 → Ok (k24 s x1 x2 x3 x4) (Q_r_lie s0)) : ∀ (n : Nat) (s : RS) (x1 : Int32) (x2 : Int32) (x3 : Int32) (x4 : Int32) (x5 : Int32), (20 - x5.toInt).toNat < n → InvR s → FrR [45, 144, 150] s0 s → 0 ≤ x1.toInt → x1.toInt ≤ 20 → 0 ≤ x2.toInt → x2.toInt ≤ 3 → 0 ≤ x4.toInt → x4.toInt ≤ 7775 → 0 ≤ x5.toInt → x5.toInt ≤ 20 → (7776 - x4.toInt).toNat ≤ M24 → Ok (r_lie_50L k24 n s x1 x2 x3 x4 x5) (Q_r_lie s0) := by
  intro n
  induction n with
  | zero => intro s x1 x2 x3 x4 x5 hn; omega
  | succ n ih =>
    intro s x1 x2 x3 x4 x5 hn hI_s hF_s h_x1l h_x1u h_x2l h_x2u h_x4l h_x4u h_x5l h_x5u hM24
    exact ok_r_lie_50 s0 hB k24 M24 hk24 (r_lie_50L k24 n) ((20 - x5.toInt).toNat) (fun zs zx1 zx2 zx3 zx4 zx5 g0 g1 g2 g3 g4 g5 g6 g7 g8 g9 o24 hm => ih zs zx1 zx2 zx3 zx4 zx5 (by omega) g0 g1 g2 g3 g4 g5 g6 g7 g8 g9 o24) s x1 x2 x3 x4 x5 hI_s hF_s h_x1l h_x1u h_x2l h_x2u h_x4l h_x4u h_x5l h_x5u hM24 (Nat.le_refl _)
set_option maxHeartbeats 1000000 in
theorem ok_r_lie_24 (s0 : RS) (hB : Big s0) (k24 : RS → Int32 → Int32 → Int32 → Int32 → Option (Int32 × RS)) (M24 : Nat) (hk24 : ∀ (s : RS) (x1 : Int32) (x2 : Int32) (x3 : Int32) (x4 : Int32), InvR s → FrR [45, 144, 150] s0 s → 0 ≤ x1.toInt → x1.toInt ≤ 20 → 0 ≤ x2.toInt → x2.toInt ≤ 3 → 0 ≤ x4.toInt → x4.toInt ≤ 7776 → (7776 - x4.toInt).toNat < M24 → Ok (k24 s x1 x2 x3 x4) (Q_r_lie s0)) (s : RS) (x1 : Int32) (x2 : Int32) (x3 : Int32) (x4 : Int32) (hI_s : InvR s) (hF_s : FrR [45, 144, 150] s0 s) (h_x1l : 0 ≤ x1.toInt) (h_x1u : x1.toInt ≤ 20) (h_x2l : 0 ≤ x2.toInt) (h_x2u : x2.toInt ≤ 3) (h_x4l : 0 ≤ x4.toInt) (h_x4u : x4.toInt ≤ 7776) (hM24 : (7776 - x4.toInt).toNat ≤ M24) : Ok (r_lie_24 k24 s x1 x2 x3 x4) (Q_r_lie s0) := by
  unfold r_lie_24
  refine ok_bindI (ok_r_guesses _  hI_s (hB.fr hF_s (by decide))) (fun r2 s1 hc_1 => ?_)
  have hI_s1 : InvR s1 := hc_1.1
  have hFc_s1 : FrR [] s s1 := hc_1.2.1
  have hF_s1 : FrR [45, 144, 150] s0 s1 := hF_s.trans hFc_s1 (by decide)
  have hl_r2 : 1 ≤ r2.toInt := hc_1.2.2.1
  have hu_r2 : r2.toInt ≤ 7776 := hc_1.2.2.2
  refine ok_ite (fun c_2 => ?_) (fun c_2 => ?_)
  · have c_2 := tn_le (a := (r2).toInt) (b := (x4).toInt) rfl rfl c_2
    exact ok_some ⟨hI_s1, hF_s1, (ti_rng _).1, (ti_rng _).2⟩
  · have c_2 := tn_nle (a := (r2).toInt) (b := (x4).toInt) rfl rfl c_2
    refine ok_bindI (ok_r_doesFit _ _ _ _ hI_s1 (hB.fr hF_s1 (by decide)) (by omega) (by omega) (by omega) (by omega) (by omega) (by omega)) (fun r5 s4 hc_3 => ?_)
    have hI_s4 : InvR s4 := hc_3.1
    have hFc_s4 : FrR [] s1 s4 := hc_3.2.1
    have hF_s4 : FrR [45, 144, 150] s0 s4 := hF_s1.trans hFc_s4 (by decide)
    have hl_r5 : 0 ≤ r5.toInt := hc_3.2.2.1
    have hu_r5 : r5.toInt ≤ 1 := hc_3.2.2.2
    refine ok_ite (fun c_4 => ?_) (fun c_4 => ?_)
    · have c_4 := tn_eq (a := (r5).toInt) (b := 0) rfl (by decide) c_4
      exact ok_r_lie_82 s0 hB k24 M24 hk24 _ _ _ _ _ hI_s4 hF_s4 (by omega) (by omega) (by omega) (by omega) (by omega) (by omega) (by omega)
    · have c_4 := tn_ne (a := (r5).toInt) (b := 0) rfl (by decide) c_4
      have l_0 : (0 : Int32).toInt = 0 := by decide
      exact okL_r_lie_50 s0 hB k24 M24 hk24 fu _ _ _ _ _ _ (by unfold fu; omega) hI_s4 hF_s4 (by omega) (by omega) (by omega) (by omega) (by omega) (by omega) (by decide) (by decide) (by omega)
theorem okL_r_lie_24 (s0 : RS) (hB : Big s0)  : ∀ (n : Nat) (s : RS) (x1 : Int32) (x2 : Int32) (x3 : Int32) (x4 : Int32), (7776 - x4.toInt).toNat < n → InvR s → FrR [45, 144, 150] s0 s → 0 ≤ x1.toInt → x1.toInt ≤ 20 → 0 ≤ x2.toInt → x2.toInt ≤ 3 → 0 ≤ x4.toInt → x4.toInt ≤ 7776 → Ok (r_lie_24L  n s x1 x2 x3 x4) (Q_r_lie s0) := by
  intro n
  induction n with
  | zero => intro s x1 x2 x3 x4 hn; omega
  | succ n ih =>
    intro s x1 x2 x3 x4 hn hI_s hF_s h_x1l h_x1u h_x2l h_x2u h_x4l h_x4u 
    exact ok_r_lie_24 s0 hB (r_lie_24L  n) ((7776 - x4.toInt).toNat) (fun zs zx1 zx2 zx3 zx4 g0 g1 g2 g3 g4 g5 g6 g7  hm => ih zs zx1 zx2 zx3 zx4 (by omega) g0 g1 g2 g3 g4 g5 g6 g7 ) s x1 x2 x3 x4 hI_s hF_s h_x1l h_x1u h_x2l h_x2u h_x4l h_x4u (Nat.le_refl _)
set_option maxHeartbeats 1000000 in
theorem ok_r_lieB (s0 : RS) (hB : Big s0)  (s : RS) (x1 : Int32) (x2 : Int32) (hI_s : InvR s) (hF_s : FrR [45, 144, 150] s0 s)  : Ok (r_lie  s x1 x2) (Q_r_lie s0) := by
  unfold r_lie
  refine ok_bindI (ok_r_isAsked _ _ _ hI_s) (fun r2 s1 hc_1 => ?_)
  have hI_s1 : InvR s1 := hc_1.1
  have hFc_s1 : FrR [] s s1 := hc_1.2.1
  have hF_s1 : FrR [45, 144, 150] s0 s1 := hF_s.trans hFc_s1 (by decide)
  have hl_r2 : 0 ≤ r2.toInt := hc_1.2.2.1
  have hu_r2 : r2.toInt ≤ 1 := hc_1.2.2.2.1
  have hx0_r2 : (¬ r2.toInt = 0 → 0 ≤ (x1).toInt ∧ (x1).toInt ≤ 20 ∧ 0 ≤ (x2).toInt ∧ (x2).toInt ≤ 3) := hc_1.2.2.2.2
  refine ok_ite (fun c_2 => ?_) (fun c_2 => ?_)
  · have c_2 := tn_eq (a := (r2).toInt) (b := 0) rfl (by decide) c_2
    exact ok_some ⟨hI_s1, hF_s1, (ti_rng _).1, (ti_rng _).2⟩
  · have c_2 := tn_ne (a := (r2).toInt) (b := 0) rfl (by decide) c_2
    refine ok_bindP (ok_r_fillsChances _  hI_s1 (hB.fr hF_s1 (by decide))) (fun s4 hc_3 => ?_)
    have hI_s4 : InvR s4 := hc_3.1
    have hFc_s4 : FrR [45, 144, 150] s1 s4 := hc_3.2
    have hF_s4 : FrR [45, 144, 150] s0 s4 := hF_s1.trans hFc_s4 (by decide)
    have l_0 : (0 : Int32).toInt = 0 := by decide
    exact okL_r_lie_24 s0 hB  fu _ _ _ _ _ (by unfold fu; omega) hI_s4 hF_s4 (by omega) (by omega) (by omega) (by omega) (by decide) (by decide) 
theorem ok_r_lie (s : RS) (x1 : Int32) (x2 : Int32) (hI_s : InvR s) (hB : Big s) : Ok (r_lie s x1 x2) (Q_r_lie s) := ok_r_lieB s hB s x1 x2 hI_s FrR.rfl
abbrev Q_r_worstAt (s0 : RS) (y : Int32 × RS) : Prop := InvR y.2 ∧ FrR [] s0 y.2 ∧ 0 ≤ y.1.toInt ∧ y.1.toInt ≤ 2147483647
set_option maxHeartbeats 1000000 in
theorem ok_r_worstAt_37 (s0 : RS) (k4 : RS → Int32 → Int32 → Int32 → Option (Int32 × RS)) (M4 : Nat) (hk4 : ∀ (s : RS) (x1 : Int32) (x2 : Int32) (x3 : Int32), InvR s → FrR [] s0 s → 0 ≤ x1.toInt → x1.toInt ≤ 4 → 0 ≤ x2.toInt → 0 ≤ x3.toInt → x3.toInt ≤ 6 → (6 - x3.toInt).toNat < M4 → Ok (k4 s x1 x2 x3) (Q_r_worstAt s0)) (s : RS) (x1 : Int32) (x2 : Int32) (x3 : Int32) (hI_s : InvR s) (hF_s : FrR [] s0 s) (h_x1l : 0 ≤ x1.toInt) (h_x1u : x1.toInt ≤ 4) (h_x2l : 0 ≤ x2.toInt) (h_x3l : 0 ≤ x3.toInt) (h_x3u : x3.toInt ≤ 5) (hM4 : (6 - x3.toInt).toNat ≤ M4) : Ok (r_worstAt_37 k4 s x1 x2 x3) (Q_r_worstAt s0) := by
  unfold r_worstAt_37
  have a_1 : ((x3 + 1)).toInt = (x3).toInt + 1 := tn_add rfl (by decide) (by omega) (by omega)
  exact hk4 _ _ _ _ hI_s hF_s (by omega) (by omega) (by omega) (by omega) (by omega) (by omega)
set_option maxHeartbeats 1000000 in
theorem ok_r_worstAt_4 (s0 : RS) (k4 : RS → Int32 → Int32 → Int32 → Option (Int32 × RS)) (M4 : Nat) (hk4 : ∀ (s : RS) (x1 : Int32) (x2 : Int32) (x3 : Int32), InvR s → FrR [] s0 s → 0 ≤ x1.toInt → x1.toInt ≤ 4 → 0 ≤ x2.toInt → 0 ≤ x3.toInt → x3.toInt ≤ 6 → (6 - x3.toInt).toNat < M4 → Ok (k4 s x1 x2 x3) (Q_r_worstAt s0)) (s : RS) (x1 : Int32) (x2 : Int32) (x3 : Int32) (hI_s : InvR s) (hF_s : FrR [] s0 s) (h_x1l : 0 ≤ x1.toInt) (h_x1u : x1.toInt ≤ 4) (h_x2l : 0 ≤ x2.toInt) (h_x3l : 0 ≤ x3.toInt) (h_x3u : x3.toInt ≤ 6) (hM4 : (6 - x3.toInt).toNat ≤ M4) : Ok (r_worstAt_4 k4 s x1 x2 x3) (Q_r_worstAt s0) := by
  unfold r_worstAt_4
  refine ok_ite (fun c_1 => ?_) (fun c_1 => ?_)
  · have c_1 := tn_le (a := 6) (b := (x3).toInt) (by decide) rfl c_1
    exact ok_some ⟨hI_s, hF_s, by show 0 ≤ (x2).toInt; omega, (ti_rng _).2⟩
  · have c_1 := tn_nle (a := 6) (b := (x3).toInt) (by decide) rfl c_1
    have a_2 : ((6 * x1)).toInt = (x1).toInt * 6 := ti_cmul (c := 6) (by decide) (by omega) (by omega)
    have a_3 : (((6 * x1) + x3)).toInt = ((6 * x1)).toInt + (x3).toInt := tn_add rfl rfl (by omega) (by omega)
    refine ok_grd (vpb_ok (by omega) (by omega)) ?_
    refine ok_ite (fun c_4 => ?_) (fun c_4 => ?_)
    · have c_4 := tn_le (a := ((s.f 55 (Int32.toNatClampNeg ((6 * x1) + x3)))).toInt) (b := (x2).toInt) rfl rfl c_4
      exact ok_r_worstAt_37 s0 k4 M4 hk4 _ _ _ _ hI_s hF_s (by omega) (by omega) (by omega) (by omega) (by omega) (by omega)
    · have c_4 := tn_nle (a := ((s.f 55 (Int32.toNatClampNeg ((6 * x1) + x3)))).toInt) (b := (x2).toInt) rfl rfl c_4
      refine ok_grd (vpb_ok (by omega) (by omega)) ?_
      exact ok_r_worstAt_37 s0 k4 M4 hk4 _ _ _ _ hI_s hF_s (by omega) (by omega) (by omega) (by omega) (by omega) (by omega)
theorem okL_r_worstAt_4 (s0 : RS)  : ∀ (n : Nat) (s : RS) (x1 : Int32) (x2 : Int32) (x3 : Int32), (6 - x3.toInt).toNat < n → InvR s → FrR [] s0 s → 0 ≤ x1.toInt → x1.toInt ≤ 4 → 0 ≤ x2.toInt → 0 ≤ x3.toInt → x3.toInt ≤ 6 → Ok (r_worstAt_4L  n s x1 x2 x3) (Q_r_worstAt s0) := by
  intro n
  induction n with
  | zero => intro s x1 x2 x3 hn; omega
  | succ n ih =>
    intro s x1 x2 x3 hn hI_s hF_s h_x1l h_x1u h_x2l h_x3l h_x3u 
    exact ok_r_worstAt_4 s0 (r_worstAt_4L  n) ((6 - x3.toInt).toNat) (fun zs zx1 zx2 zx3 g0 g1 g2 g3 g4 g5 g6  hm => ih zs zx1 zx2 zx3 (by omega) g0 g1 g2 g3 g4 g5 g6 ) s x1 x2 x3 hI_s hF_s h_x1l h_x1u h_x2l h_x3l h_x3u (Nat.le_refl _)
set_option maxHeartbeats 1000000 in
theorem ok_r_worstAtB (s0 : RS)  (s : RS) (x1 : Int32) (hI_s : InvR s) (hF_s : FrR [] s0 s) (h_x1l : 0 ≤ x1.toInt) (h_x1u : x1.toInt ≤ 4)  : Ok (r_worstAt  s x1) (Q_r_worstAt s0) := by
  unfold r_worstAt
  have l_0 : (0 : Int32).toInt = 0 := by decide
  exact okL_r_worstAt_4 s0  fu _ _ _ _ (by unfold fu; omega) hI_s hF_s (by omega) (by omega) (by decide) (by decide) (by decide) 
theorem ok_r_worstAt (s : RS) (x1 : Int32) (hI_s : InvR s) (h_x1l : 0 ≤ x1.toInt) (h_x1u : x1.toInt ≤ 4) : Ok (r_worstAt s x1) (Q_r_worstAt s) := ok_r_worstAtB s s x1 hI_s FrR.rfl h_x1l h_x1u
abbrev Q_r_ask (s0 : RS) (y : Int32 × RS) : Prop := InvR y.2 ∧ FrR [45, 144, 150, 155] s0 y.2 ∧ -2 ≤ y.1.toInt ∧ y.1.toInt ≤ 4
set_option maxHeartbeats 1000000 in
theorem ok_r_ask_168 (s0 : RS) (hB : Big s0) (k126 : RS → Int32 → Int32 → Int32 → Option (Int32 × RS)) (M126 : Nat) (hk126 : ∀ (s : RS) (x3 : Int32) (x4 : Int32) (x5 : Int32), InvR s → FrR [45, 144, 150, 155] s0 s → -2 ≤ x4.toInt → x4.toInt ≤ 4 → 0 ≤ x5.toInt → x5.toInt ≤ 5 → (5 - x5.toInt).toNat < M126 → Ok (k126 s x3 x4 x5) (Q_r_ask s0)) (s : RS) (x3 : Int32) (x4 : Int32) (x5 : Int32) (hI_s : InvR s) (hF_s : FrR [45, 144, 150, 155] s0 s) (h_x3l : 1 ≤ x3.toInt) (h_x4l : 0 ≤ x4.toInt) (h_x4u : x4.toInt ≤ 4) (h_x5l : 0 ≤ x5.toInt) (h_x5u : x5.toInt ≤ 4) (hM126 : (5 - x5.toInt).toNat ≤ M126) : Ok (r_ask_168 k126 s x3 x4 x5) (Q_r_ask s0) := by
  unfold r_ask_168
  have a_1 : ((x5 + 1)).toInt = (x5).toInt + 1 := tn_add rfl (by decide) (by omega) (by omega)
  exact hk126 _ _ _ _ hI_s hF_s (by omega) (by omega) (by omega) (by omega) (by omega)
set_option maxHeartbeats 1000000 in
theorem ok_r_ask_164 (s0 : RS) (hB : Big s0) (k126 : RS → Int32 → Int32 → Int32 → Option (Int32 × RS)) (M126 : Nat) (hk126 : ∀ (s : RS) (x3 : Int32) (x4 : Int32) (x5 : Int32), InvR s → FrR [45, 144, 150, 155] s0 s → -2 ≤ x4.toInt → x4.toInt ≤ 4 → 0 ≤ x5.toInt → x5.toInt ≤ 5 → (5 - x5.toInt).toNat < M126 → Ok (k126 s x3 x4 x5) (Q_r_ask s0)) (s : RS) (x3 : Int32) (x5 : Int32) (hI_s : InvR s) (hF_s : FrR [45, 144, 150, 155] s0 s) (h_x3l : 1 ≤ x3.toInt) (h_x5l : 0 ≤ x5.toInt) (h_x5u : x5.toInt ≤ 4) (hM126 : (5 - x5.toInt).toNat ≤ M126) : Ok (r_ask_164 k126 s x3 x5) (Q_r_ask s0) := by
  unfold r_ask_164
  exact ok_r_ask_168 s0 hB k126 M126 hk126 _ _ _ _ hI_s hF_s (by omega) (by omega) (by omega) (by omega) (by omega) (by omega)
set_option maxHeartbeats 1000000 in
theorem ok_r_ask_126 (s0 : RS) (hB : Big s0) (k126 : RS → Int32 → Int32 → Int32 → Option (Int32 × RS)) (M126 : Nat) (hk126 : ∀ (s : RS) (x3 : Int32) (x4 : Int32) (x5 : Int32), InvR s → FrR [45, 144, 150, 155] s0 s → -2 ≤ x4.toInt → x4.toInt ≤ 4 → 0 ≤ x5.toInt → x5.toInt ≤ 5 → (5 - x5.toInt).toNat < M126 → Ok (k126 s x3 x4 x5) (Q_r_ask s0)) (s : RS) (x3 : Int32) (x4 : Int32) (x5 : Int32) (hI_s : InvR s) (hF_s : FrR [45, 144, 150, 155] s0 s) (h_x4l : -2 ≤ x4.toInt) (h_x4u : x4.toInt ≤ 4) (h_x5l : 0 ≤ x5.toInt) (h_x5u : x5.toInt ≤ 5) (hM126 : (5 - x5.toInt).toNat ≤ M126) : Ok (r_ask_126 k126 s x3 x4 x5) (Q_r_ask s0) := by
  unfold r_ask_126
  have a_1 : 0 ≤ (s.v 18).toInt ∧ (s.v 18).toInt ≤ 1 := hI_s.1 18
  refine ok_grd (vpb_ok (by omega) (by omega)) ?_
  have a_2 : ((s.f 20 (Int32.toNatClampNeg (s.v 18)))).toInt = wv s0 := wv_fr hF_s (by decide) (by decide)
  have a_3 : 0 ≤ ((s.f 20 (Int32.toNatClampNeg (s.v 18)))).toInt ∧ ((s.f 20 (Int32.toNatClampNeg (s.v 18)))).toInt ≤ 5 := hI_s.2 20 _
  refine ok_ite (fun c_4 => ?_) (fun c_4 => ?_)
  · have c_4 := tn_le (a := ((s.f 20 (Int32.toNatClampNeg (s.v 18)))).toInt) (b := (x5).toInt) rfl rfl c_4
    exact ok_some ⟨hI_s, hF_s, by show -2 ≤ (x4).toInt; omega, by show (x4).toInt ≤ 4; omega⟩
  · have c_4 := tn_nle (a := ((s.f 20 (Int32.toNatClampNeg (s.v 18)))).toInt) (b := (x5).toInt) rfl rfl c_4
    refine ok_ite (fun c_5 => ?_) (fun c_5 => ?_)
    · have c_5 := tn_le (a := (x3).toInt) (b := 0) rfl (by decide) c_5
      exact ok_some ⟨hI_s, hF_s, by show -2 ≤ (x4).toInt; omega, by show (x4).toInt ≤ 4; omega⟩
    · have c_5 := tn_nle (a := (x3).toInt) (b := 0) rfl (by decide) c_5
      refine ok_ite (fun c_6 => ?_) (fun c_6 => ?_)
      · have c_6 := tn_lt (a := (x4).toInt) (b := 0) rfl (by decide) c_6
        exact ok_r_ask_164 s0 hB k126 M126 hk126 _ _ _ hI_s hF_s (by omega) (by omega) (by omega) (by omega)
      · have c_6 := tn_nlt (a := (x4).toInt) (b := 0) rfl (by decide) c_6
        refine ok_bindI (ok_r_worstAt _ _ hI_s (by omega) (by omega)) (fun r6 s5 hc_7 => ?_)
        have hI_s5 : InvR s5 := hc_7.1
        have hFc_s5 : FrR [] s s5 := hc_7.2.1
        have hF_s5 : FrR [45, 144, 150, 155] s0 s5 := hF_s.trans hFc_s5 (by decide)
        have hl_r6 : 0 ≤ r6.toInt := hc_7.2.2.1
        refine ok_bindI (ok_r_worstAt _ _ hI_s5 (by omega) (by omega)) (fun r8 s7 hc_8 => ?_)
        have hI_s7 : InvR s7 := hc_8.1
        have hFc_s7 : FrR [] s5 s7 := hc_8.2.1
        have hF_s7 : FrR [45, 144, 150, 155] s0 s7 := hF_s5.trans hFc_s7 (by decide)
        have hl_r8 : 0 ≤ r8.toInt := hc_8.2.2.1
        refine ok_ite (fun c_9 => ?_) (fun c_9 => ?_)
        · have c_9 := tn_le (a := (r8).toInt) (b := (r6).toInt) rfl rfl c_9
          exact ok_r_ask_168 s0 hB k126 M126 hk126 _ _ _ _ hI_s7 hF_s7 (by omega) (by omega) (by omega) (by omega) (by omega) (by omega)
        · have c_9 := tn_nle (a := (r8).toInt) (b := (r6).toInt) rfl rfl c_9
          exact ok_r_ask_164 s0 hB k126 M126 hk126 _ _ _ hI_s7 hF_s7 (by omega) (by omega) (by omega) (by omega)
theorem okL_r_ask_126 (s0 : RS) (hB : Big s0)  : ∀ (n : Nat) (s : RS) (x3 : Int32) (x4 : Int32) (x5 : Int32), (5 - x5.toInt).toNat < n → InvR s → FrR [45, 144, 150, 155] s0 s → -2 ≤ x4.toInt → x4.toInt ≤ 4 → 0 ≤ x5.toInt → x5.toInt ≤ 5 → Ok (r_ask_126L  n s x3 x4 x5) (Q_r_ask s0) := by
  intro n
  induction n with
  | zero => intro s x3 x4 x5 hn; omega
  | succ n ih =>
    intro s x3 x4 x5 hn hI_s hF_s h_x4l h_x4u h_x5l h_x5u 
    exact ok_r_ask_126 s0 hB (r_ask_126L  n) ((5 - x5.toInt).toNat) (fun zs zx3 zx4 zx5 g0 g1 g2 g3 g4 g5  hm => ih zs zx3 zx4 zx5 (by omega) g0 g1 g2 g3 g4 g5 ) s x3 x4 x5 hI_s hF_s h_x4l h_x4u h_x5l h_x5u (Nat.le_refl _)
set_option maxHeartbeats 1000000 in
theorem ok_r_ask_113 (s0 : RS) (hB : Big s0) (k41 : RS → Int32 → Int32 → Int32 → Int32 → Option (Int32 × RS)) (M41 : Nat) (hk41 : ∀ (s : RS) (x1 : Int32) (x2 : Int32) (x3 : Int32) (x4 : Int32), InvR s → FrR [45, 144, 150, 155] s0 s → 0 ≤ x1.toInt → x1.toInt ≤ 20 → 0 ≤ x2.toInt → x2.toInt ≤ 3 → 0 ≤ x4.toInt → x4.toInt ≤ 7776 → (7776 - x4.toInt).toNat < M41 → Ok (k41 s x1 x2 x3 x4) (Q_r_ask s0)) (s : RS) (x1 : Int32) (x2 : Int32) (x3 : Int32) (x4 : Int32) (hI_s : InvR s) (hF_s : FrR [45, 144, 150, 155] s0 s) (h_x1l : 0 ≤ x1.toInt) (h_x1u : x1.toInt ≤ 20) (h_x2l : 0 ≤ x2.toInt) (h_x2u : x2.toInt ≤ 3) (h_x4l : 0 ≤ x4.toInt) (h_x4u : x4.toInt ≤ 7775) (hM41 : (7776 - x4.toInt).toNat ≤ M41) : Ok (r_ask_113 k41 s x1 x2 x3 x4) (Q_r_ask s0) := by
  unfold r_ask_113
  have a_1 : ((x4 + 1)).toInt = (x4).toInt + 1 := tn_add rfl (by decide) (by omega) (by omega)
  exact hk41 _ _ _ _ _ hI_s hF_s (by omega) (by omega) (by omega) (by omega) (by omega) (by omega) (by omega)
set_option maxHeartbeats 1000000 in
theorem ok_r_ask_70 (s0 : RS) (hB : Big s0) (k41 : RS → Int32 → Int32 → Int32 → Int32 → Option (Int32 × RS)) (M41 : Nat) (hk41 : ∀ (s : RS) (x1 : Int32) (x2 : Int32) (x3 : Int32) (x4 : Int32), InvR s → FrR [45, 144, 150, 155] s0 s → 0 ≤ x1.toInt → x1.toInt ≤ 20 → 0 ≤ x2.toInt → x2.toInt ≤ 3 → 0 ≤ x4.toInt → x4.toInt ≤ 7776 → (7776 - x4.toInt).toNat < M41 → Ok (k41 s x1 x2 x3 x4) (Q_r_ask s0)) (k70 : RS → Int32 → Int32 → Int32 → Int32 → Int32 → Option (Int32 × RS)) (M70 : Nat) (hk70 : ∀ (s : RS) (x1 : Int32) (x2 : Int32) (x3 : Int32) (x4 : Int32) (x5 : Int32), InvR s → FrR [45, 144, 150, 155] s0 s → 0 ≤ x1.toInt → x1.toInt ≤ 20 → 0 ≤ x2.toInt → x2.toInt ≤ 3 → 0 ≤ x4.toInt → x4.toInt ≤ 7775 → 0 ≤ x5.toInt → x5.toInt ≤ 5 → (7776 - x4.toInt).toNat ≤ M41 → (5 - x5.toInt).toNat < M70 → Ok (k70 s x1 x2 x3 x4 x5) (Q_r_ask s0)) (s : RS) (x1 : Int32) (x2 : Int32) (x3 : Int32) (x4 : Int32) (x5 : Int32) (hI_s : InvR s) (hF_s : FrR [45, 144, 150, 155] s0 s) (h_x1l : 0 ≤ x1.toInt) (h_x1u : x1.toInt ≤ 20) (h_x2l : 0 ≤ x2.toInt) (h_x2u : x2.toInt ≤ 3) (h_x4l : 0 ≤ x4.toInt) (h_x4u : x4.toInt ≤ 7775) (h_x5l : 0 ≤ x5.toInt) (h_x5u : x5.toInt ≤ 5) (hM41 : (7776 - x4.toInt).toNat ≤ M41) (hM70 : (5 - x5.toInt).toNat ≤ M70) : Ok (r_ask_70 k41 k70 s x1 x2 x3 x4 x5) (Q_r_ask s0) := by
  unfold r_ask_70
  have a_1 : 0 ≤ (s.v 18).toInt ∧ (s.v 18).toInt ≤ 1 := hI_s.1 18
  refine ok_grd (vpb_ok (by omega) (by omega)) ?_
  have a_2 : ((s.f 20 (Int32.toNatClampNeg (s.v 18)))).toInt = wv s0 := wv_fr hF_s (by decide) (by decide)
  have a_3 : 0 ≤ ((s.f 20 (Int32.toNatClampNeg (s.v 18)))).toInt ∧ ((s.f 20 (Int32.toNatClampNeg (s.v 18)))).toInt ≤ 5 := hI_s.2 20 _
  refine ok_ite (fun c_4 => ?_) (fun c_4 => ?_)
  · have c_4 := tn_le (a := ((s.f 20 (Int32.toNatClampNeg (s.v 18)))).toInt) (b := (x5).toInt) rfl rfl c_4
    exact ok_r_ask_113 s0 hB k41 M41 hk41 _ _ _ _ _ hI_s hF_s (by omega) (by omega) (by omega) (by omega) (by omega) (by omega) (by omega)
  · have c_4 := tn_nle (a := ((s.f 20 (Int32.toNatClampNeg (s.v 18)))).toInt) (b := (x5).toInt) rfl rfl c_4
    refine ok_bindI (ok_r_thingAt _ _ _ hI_s (hB.fr hF_s (by decide)) (by omega) (by omega) (by omega) (by omega)) (fun r4 s3 hc_5 => ?_)
    have hI_s3 : InvR s3 := hc_5.1
    have hFc_s3 : FrR [] s s3 := hc_5.2.1
    have hF_s3 : FrR [45, 144, 150, 155] s0 s3 := hF_s.trans hFc_s3 (by decide)
    have hl_r4 : 0 ≤ r4.toInt := hc_5.2.2.1
    have hu_r4 : r4.toInt ≤ 5 := hc_5.2.2.2
    have a_6 : ((6 * x5)).toInt = (x5).toInt * 6 := ti_cmul (c := 6) (by decide) (by omega) (by omega)
    have a_7 : (((6 * x5) + r4)).toInt = ((6 * x5)).toInt + (r4).toInt := tn_add rfl rfl (by omega) (by omega)
    refine ok_grd (vpb_ok (by omega) (by omega)) ?_
    refine ok_grd (vpb_ok (by omega) (by omega)) ?_
    refine ok_let (fun s7 hs7 => ?_)
    have hI_s7 : InvR s7 := by rw [← hs7]; exact hI_s3.sfF (k := 55) rfl rfl
    have hF_s7 : FrR [45, 144, 150, 155] s0 s7 := by rw [← hs7]; exact hF_s3.sf (k := 55) (by decide)
    have a_8 : ((x5 + 1)).toInt = (x5).toInt + 1 := tn_add rfl (by decide) (by omega) (by omega)
    exact hk70 _ _ _ _ _ _ hI_s7 hF_s7 (by omega) (by omega) (by omega) (by omega) (by omega) (by omega) (by omega) (by omega) (by omega) (by omega)
theorem okL_r_ask_70 (s0 : RS) (hB : Big s0) (k41 : RS → Int32 → Int32 → Int32 → Int32 → Option (Int32 × RS)) (M41 : Nat) (hk41 : ∀ (s : RS) (x1 : Int32) (x2 : Int32) (x3 : Int32) (x4 : Int32), InvR s → FrR [45, 144, 150, 155] s0 s → 0 ≤ x1.toInt → x1.toInt ≤ 20 → 0 ≤ x2.toInt → x2.toInt ≤ 3 → 0 ≤ x4.toInt → x4.toInt ≤ 7776 → (7776 - x4.toInt).toNat < M41 → Ok (k41 s x1 x2 x3 x4) (Q_r_ask s0)) : ∀ (n : Nat) (s : RS) (x1 : Int32) (x2 : Int32) (x3 : Int32) (x4 : Int32) (x5 : Int32), (5 - x5.toInt).toNat < n → InvR s → FrR [45, 144, 150, 155] s0 s → 0 ≤ x1.toInt → x1.toInt ≤ 20 → 0 ≤ x2.toInt → x2.toInt ≤ 3 → 0 ≤ x4.toInt → x4.toInt ≤ 7775 → 0 ≤ x5.toInt → x5.toInt ≤ 5 → (7776 - x4.toInt).toNat ≤ M41 → Ok (r_ask_70L k41 n s x1 x2 x3 x4 x5) (Q_r_ask s0) := by
  intro n
  induction n with
  | zero => intro s x1 x2 x3 x4 x5 hn; omega
  | succ n ih =>
    intro s x1 x2 x3 x4 x5 hn hI_s hF_s h_x1l h_x1u h_x2l h_x2u h_x4l h_x4u h_x5l h_x5u hM41
    exact ok_r_ask_70 s0 hB k41 M41 hk41 (r_ask_70L k41 n) ((5 - x5.toInt).toNat) (fun zs zx1 zx2 zx3 zx4 zx5 g0 g1 g2 g3 g4 g5 g6 g7 g8 g9 o41 hm => ih zs zx1 zx2 zx3 zx4 zx5 (by omega) g0 g1 g2 g3 g4 g5 g6 g7 g8 g9 o41) s x1 x2 x3 x4 x5 hI_s hF_s h_x1l h_x1u h_x2l h_x2u h_x4l h_x4u h_x5l h_x5u hM41 (Nat.le_refl _)
set_option maxHeartbeats 1000000 in
theorem ok_r_ask_41 (s0 : RS) (hB : Big s0) (k41 : RS → Int32 → Int32 → Int32 → Int32 → Option (Int32 × RS)) (M41 : Nat) (hk41 : ∀ (s : RS) (x1 : Int32) (x2 : Int32) (x3 : Int32) (x4 : Int32), InvR s → FrR [45, 144, 150, 155] s0 s → 0 ≤ x1.toInt → x1.toInt ≤ 20 → 0 ≤ x2.toInt → x2.toInt ≤ 3 → 0 ≤ x4.toInt → x4.toInt ≤ 7776 → (7776 - x4.toInt).toNat < M41 → Ok (k41 s x1 x2 x3 x4) (Q_r_ask s0)) (s : RS) (x1 : Int32) (x2 : Int32) (x3 : Int32) (x4 : Int32) (hI_s : InvR s) (hF_s : FrR [45, 144, 150, 155] s0 s) (h_x1l : 0 ≤ x1.toInt) (h_x1u : x1.toInt ≤ 20) (h_x2l : 0 ≤ x2.toInt) (h_x2u : x2.toInt ≤ 3) (h_x4l : 0 ≤ x4.toInt) (h_x4u : x4.toInt ≤ 7776) (hM41 : (7776 - x4.toInt).toNat ≤ M41) : Ok (r_ask_41 k41 s x1 x2 x3 x4) (Q_r_ask s0) := by
  unfold r_ask_41
  refine ok_bindI (ok_r_guesses _  hI_s (hB.fr hF_s (by decide))) (fun r2 s1 hc_1 => ?_)
  have hI_s1 : InvR s1 := hc_1.1
  have hFc_s1 : FrR [] s s1 := hc_1.2.1
  have hF_s1 : FrR [45, 144, 150, 155] s0 s1 := hF_s.trans hFc_s1 (by decide)
  have hl_r2 : 1 ≤ r2.toInt := hc_1.2.2.1
  have hu_r2 : r2.toInt ≤ 7776 := hc_1.2.2.2
  refine ok_ite (fun c_2 => ?_) (fun c_2 => ?_)
  · have c_2 := tn_le (a := (r2).toInt) (b := (x4).toInt) rfl rfl c_2
    have l_m2 : ((-2) : Int32).toInt = -2 := by decide
    have l_0 : (0 : Int32).toInt = 0 := by decide
    exact okL_r_ask_126 s0 hB  fu _ _ _ _ (by unfold fu; omega) hI_s1 hF_s1 (by decide) (by decide) (by decide) (by decide) 
  · have c_2 := tn_nle (a := (r2).toInt) (b := (x4).toInt) rfl rfl c_2
    refine ok_bindI (ok_r_doesFit _ _ _ _ hI_s1 (hB.fr hF_s1 (by decide)) (by omega) (by omega) (by omega) (by omega) (by omega) (by omega)) (fun r5 s4 hc_3 => ?_)
    have hI_s4 : InvR s4 := hc_3.1
    have hFc_s4 : FrR [] s1 s4 := hc_3.2.1
    have hF_s4 : FrR [45, 144, 150, 155] s0 s4 := hF_s1.trans hFc_s4 (by decide)
    have hl_r5 : 0 ≤ r5.toInt := hc_3.2.2.1
    have hu_r5 : r5.toInt ≤ 1 := hc_3.2.2.2
    refine ok_ite (fun c_4 => ?_) (fun c_4 => ?_)
    · have c_4 := tn_eq (a := (r5).toInt) (b := 0) rfl (by decide) c_4
      exact ok_r_ask_113 s0 hB k41 M41 hk41 _ _ _ _ _ hI_s4 hF_s4 (by omega) (by omega) (by omega) (by omega) (by omega) (by omega) (by omega)
    · have c_4 := tn_ne (a := (r5).toInt) (b := 0) rfl (by decide) c_4
      have l_0 : (0 : Int32).toInt = 0 := by decide
      exact okL_r_ask_70 s0 hB k41 M41 hk41 fu _ _ _ _ _ _ (by unfold fu; omega) hI_s4 hF_s4 (by omega) (by omega) (by omega) (by omega) (by omega) (by omega) (by decide) (by decide) (by omega)
theorem okL_r_ask_41 (s0 : RS) (hB : Big s0)  : ∀ (n : Nat) (s : RS) (x1 : Int32) (x2 : Int32) (x3 : Int32) (x4 : Int32), (7776 - x4.toInt).toNat < n → InvR s → FrR [45, 144, 150, 155] s0 s → 0 ≤ x1.toInt → x1.toInt ≤ 20 → 0 ≤ x2.toInt → x2.toInt ≤ 3 → 0 ≤ x4.toInt → x4.toInt ≤ 7776 → Ok (r_ask_41L  n s x1 x2 x3 x4) (Q_r_ask s0) := by
  intro n
  induction n with
  | zero => intro s x1 x2 x3 x4 hn; omega
  | succ n ih =>
    intro s x1 x2 x3 x4 hn hI_s hF_s h_x1l h_x1u h_x2l h_x2u h_x4l h_x4u 
    exact ok_r_ask_41 s0 hB (r_ask_41L  n) ((7776 - x4.toInt).toNat) (fun zs zx1 zx2 zx3 zx4 g0 g1 g2 g3 g4 g5 g6 g7  hm => ih zs zx1 zx2 zx3 zx4 (by omega) g0 g1 g2 g3 g4 g5 g6 g7 ) s x1 x2 x3 x4 hI_s hF_s h_x1l h_x1u h_x2l h_x2u h_x4l h_x4u (Nat.le_refl _)
set_option maxHeartbeats 1000000 in
theorem ok_r_ask_17 (s0 : RS) (hB : Big s0) (k17 : RS → Int32 → Int32 → Int32 → Option (Int32 × RS)) (M17 : Nat) (hk17 : ∀ (s : RS) (x1 : Int32) (x2 : Int32) (x3 : Int32), InvR s → FrR [45, 144, 150, 155] s0 s → 0 ≤ x1.toInt → x1.toInt ≤ 20 → 0 ≤ x2.toInt → x2.toInt ≤ 3 → 0 ≤ x3.toInt → x3.toInt ≤ 30 → (30 - x3.toInt).toNat < M17 → Ok (k17 s x1 x2 x3) (Q_r_ask s0)) (s : RS) (x1 : Int32) (x2 : Int32) (x3 : Int32) (hI_s : InvR s) (hF_s : FrR [45, 144, 150, 155] s0 s) (h_x1l : 0 ≤ x1.toInt) (h_x1u : x1.toInt ≤ 20) (h_x2l : 0 ≤ x2.toInt) (h_x2u : x2.toInt ≤ 3) (h_x3l : 0 ≤ x3.toInt) (h_x3u : x3.toInt ≤ 30) (hM17 : (30 - x3.toInt).toNat ≤ M17) : Ok (r_ask_17 k17 s x1 x2 x3) (Q_r_ask s0) := by
  unfold r_ask_17
  refine ok_ite (fun c_1 => ?_) (fun c_1 => ?_)
  · have c_1 := tn_le (a := 30) (b := (x3).toInt) (by decide) rfl c_1
    have l_0 : (0 : Int32).toInt = 0 := by decide
    exact okL_r_ask_41 s0 hB  fu _ _ _ _ _ (by unfold fu; omega) hI_s hF_s (by omega) (by omega) (by omega) (by omega) (by decide) (by decide) 
  · have c_1 := tn_nle (a := 30) (b := (x3).toInt) (by decide) rfl c_1
    refine ok_grd (vpb_ok (by omega) (by omega)) ?_
    refine ok_let (fun s3 hs3 => ?_)
    have hI_s3 : InvR s3 := by rw [← hs3]; exact hI_s.sfF (k := 55) rfl rfl
    have hF_s3 : FrR [45, 144, 150, 155] s0 s3 := by rw [← hs3]; exact hF_s.sf (k := 55) (by decide)
    have a_2 : ((x3 + 1)).toInt = (x3).toInt + 1 := tn_add rfl (by decide) (by omega) (by omega)
    exact hk17 _ _ _ _ hI_s3 hF_s3 (by omega) (by omega) (by omega) (by omega) (by omega) (by omega) (by omega)
theorem okL_r_ask_17 (s0 : RS) (hB : Big s0)  : ∀ (n : Nat) (s : RS) (x1 : Int32) (x2 : Int32) (x3 : Int32), (30 - x3.toInt).toNat < n → InvR s → FrR [45, 144, 150, 155] s0 s → 0 ≤ x1.toInt → x1.toInt ≤ 20 → 0 ≤ x2.toInt → x2.toInt ≤ 3 → 0 ≤ x3.toInt → x3.toInt ≤ 30 → Ok (r_ask_17L  n s x1 x2 x3) (Q_r_ask s0) := by
  intro n
  induction n with
  | zero => intro s x1 x2 x3 hn; omega
  | succ n ih =>
    intro s x1 x2 x3 hn hI_s hF_s h_x1l h_x1u h_x2l h_x2u h_x3l h_x3u 
    exact ok_r_ask_17 s0 hB (r_ask_17L  n) ((30 - x3.toInt).toNat) (fun zs zx1 zx2 zx3 g0 g1 g2 g3 g4 g5 g6 g7  hm => ih zs zx1 zx2 zx3 (by omega) g0 g1 g2 g3 g4 g5 g6 g7 ) s x1 x2 x3 hI_s hF_s h_x1l h_x1u h_x2l h_x2u h_x3l h_x3u (Nat.le_refl _)
set_option maxHeartbeats 1000000 in
theorem ok_r_askB (s0 : RS) (hB : Big s0)  (s : RS) (x1 : Int32) (x2 : Int32) (hI_s : InvR s) (hF_s : FrR [45, 144, 150, 155] s0 s)  : Ok (r_ask  s x1 x2) (Q_r_ask s0) := by
  unfold r_ask
  refine ok_bindI (ok_r_isAsked _ _ _ hI_s) (fun r2 s1 hc_1 => ?_)
  have hI_s1 : InvR s1 := hc_1.1
  have hFc_s1 : FrR [] s s1 := hc_1.2.1
  have hF_s1 : FrR [45, 144, 150, 155] s0 s1 := hF_s.trans hFc_s1 (by decide)
  have hl_r2 : 0 ≤ r2.toInt := hc_1.2.2.1
  have hu_r2 : r2.toInt ≤ 1 := hc_1.2.2.2.1
  have hx0_r2 : (¬ r2.toInt = 0 → 0 ≤ (x1).toInt ∧ (x1).toInt ≤ 20 ∧ 0 ≤ (x2).toInt ∧ (x2).toInt ≤ 3) := hc_1.2.2.2.2
  refine ok_ite (fun c_2 => ?_) (fun c_2 => ?_)
  · have c_2 := tn_eq (a := (r2).toInt) (b := 0) rfl (by decide) c_2
    exact ok_some ⟨hI_s1, hF_s1, by show -2 ≤ ((-1) : Int32).toInt; decide, by show ((-1) : Int32).toInt ≤ 4; decide⟩
  · have c_2 := tn_ne (a := (r2).toInt) (b := 0) rfl (by decide) c_2
    refine ok_bindP (ok_r_fillsChances _  hI_s1 (hB.fr hF_s1 (by decide))) (fun s4 hc_3 => ?_)
    have hI_s4 : InvR s4 := hc_3.1
    have hFc_s4 : FrR [45, 144, 150] s1 s4 := hc_3.2
    have hF_s4 : FrR [45, 144, 150, 155] s0 s4 := hF_s1.trans hFc_s4 (by decide)
    have l_0 : (0 : Int32).toInt = 0 := by decide
    exact okL_r_ask_17 s0 hB  fu _ _ _ _ (by unfold fu; omega) hI_s4 hF_s4 (by omega) (by omega) (by omega) (by omega) (by decide) (by decide) 
theorem ok_r_ask (s : RS) (x1 : Int32) (x2 : Int32) (hI_s : InvR s) (hB : Big s) : Ok (r_ask s x1 x2) (Q_r_ask s) := ok_r_askB s hB s x1 x2 hI_s FrR.rfl
