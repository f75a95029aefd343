abbrev Q_r_isCase (s0 : RS) (y : Int32 × RS) : Prop := InvR y.2 ∧ FrR [] s0 y.2 ∧ 0 ≤ y.1.toInt ∧ y.1.toInt ≤ 1
set_option maxHeartbeats 1000000 in
theorem ok_r_isCase_2 (s0 : RS) (hB : Big s0) (k2 : RS → Int32 → Int32 → Option (Int32 × RS)) (M2 : Nat) (hk2 : ∀ (s : RS) (x1 : Int32) (x2 : Int32), InvR s → FrR [] s0 s → 0 ≤ x1.toInt → x1.toInt ≤ 7775 → 0 ≤ x2.toInt → x2.toInt ≤ 5 → (5 - x2.toInt).toNat < M2 → Ok (k2 s x1 x2) (Q_r_isCase s0)) (s : RS) (x1 : Int32) (x2 : Int32) (hI_s : InvR s) (hF_s : FrR [] s0 s) (h_x1l : 0 ≤ x1.toInt) (h_x1u : x1.toInt ≤ 7775) (h_x2l : 0 ≤ x2.toInt) (h_x2u : x2.toInt ≤ 5) (hM2 : (5 - x2.toInt).toNat ≤ M2) : Ok (r_isCase_2 k2 s x1 x2) (Q_r_isCase s0) := by
  unfold r_isCase_2
  have a_1 : 0 ≤ (s.v 18).toInt ∧ (s.v 18).toInt ≤ 1 := hI_s.1 18
  refine ok_grd (vpb_ok (by omega) (by omega)) ?_
  have a_2 : ((s.f 20 (Int32.toNatClampNeg (s.v 18)))).toInt = wv s0 := wv_fr hF_s (by decide) (by decide)
  have a_3 : 0 ≤ ((s.f 20 (Int32.toNatClampNeg (s.v 18)))).toInt ∧ ((s.f 20 (Int32.toNatClampNeg (s.v 18)))).toInt ≤ 5 := hI_s.2 20 _
  refine ok_ite (fun c_4 => ?_) (fun c_4 => ?_)
  · have c_4 := tn_le (a := ((s.f 20 (Int32.toNatClampNeg (s.v 18)))).toInt) (b := (x2).toInt) rfl rfl c_4
    exact ok_some ⟨hI_s, hF_s, by show 0 ≤ (1 : Int32).toInt; decide, by show (1 : Int32).toInt ≤ 1; decide⟩
  · have c_4 := tn_nle (a := ((s.f 20 (Int32.toNatClampNeg (s.v 18)))).toInt) (b := (x2).toInt) rfl rfl c_4
    refine ok_bindI (ok_r_thingAt _ _ _ hI_s (hB.fr hF_s (by decide)) (by omega) (by omega) (by omega) (by omega)) (fun r4 s3 hc_5 => ?_)
    have hI_s3 : InvR s3 := hc_5.1
    have hFc_s3 : FrR [] s s3 := hc_5.2.1
    have hF_s3 : FrR [] s0 s3 := hF_s.trans hFc_s3 (by decide)
    have hl_r4 : 0 ≤ r4.toInt := hc_5.2.2.1
    have hu_r4 : r4.toInt ≤ 5 := hc_5.2.2.2
    refine ok_bindI (ok_r_mayBe _ _ _ hI_s3 (by omega) (by omega) (by omega) (by omega)) (fun r6 s5 hc_6 => ?_)
    have hI_s5 : InvR s5 := hc_6.1
    have hFc_s5 : FrR [] s3 s5 := hc_6.2.1
    have hF_s5 : FrR [] s0 s5 := hF_s3.trans hFc_s5 (by decide)
    have hl_r6 : 0 ≤ r6.toInt := hc_6.2.2.1
    have hu_r6 : r6.toInt ≤ 1 := hc_6.2.2.2
    refine ok_ite (fun c_7 => ?_) (fun c_7 => ?_)
    · have c_7 := tn_eq (a := (r6).toInt) (b := 0) rfl (by decide) c_7
      exact ok_some ⟨hI_s5, hF_s5, by show 0 ≤ (0 : Int32).toInt; decide, by show (0 : Int32).toInt ≤ 1; decide⟩
    · have c_7 := tn_ne (a := (r6).toInt) (b := 0) rfl (by decide) c_7
      have a_8 : ((x2 + 1)).toInt = (x2).toInt + 1 := tn_add rfl (by decide) (by omega) (by omega)
      exact hk2 _ _ _ hI_s5 hF_s5 (by omega) (by omega) (by omega) (by omega) (by omega)
theorem okL_r_isCase_2 (s0 : RS) (hB : Big s0)  : ∀ (n : Nat) (s : RS) (x1 : Int32) (x2 : Int32), (5 - x2.toInt).toNat < n → InvR s → FrR [] s0 s → 0 ≤ x1.toInt → x1.toInt ≤ 7775 → 0 ≤ x2.toInt → x2.toInt ≤ 5 → Ok (r_isCase_2L  n s x1 x2) (Q_r_isCase s0) := by
  intro n
  induction n with
  | zero => intro s x1 x2 hn; omega
  | succ n ih =>
    intro s x1 x2 hn hI_s hF_s h_x1l h_x1u h_x2l h_x2u 
    exact ok_r_isCase_2 s0 hB (r_isCase_2L  n) ((5 - x2.toInt).toNat) (fun zs zx1 zx2 g0 g1 g2 g3 g4 g5  hm => ih zs zx1 zx2 (by omega) g0 g1 g2 g3 g4 g5 ) s x1 x2 hI_s hF_s h_x1l h_x1u h_x2l h_x2u (Nat.le_refl _)
set_option maxHeartbeats 1000000 in
theorem ok_r_isCaseB (s0 : RS) (hB : Big s0)  (s : RS) (x1 : Int32) (hI_s : InvR s) (hF_s : FrR [] s0 s) (h_x1l : 0 ≤ x1.toInt) (h_x1u : x1.toInt ≤ 7775)  : Ok (r_isCase  s x1) (Q_r_isCase s0) := by
  unfold r_isCase
  have l_0 : (0 : Int32).toInt = 0 := by decide
  exact okL_r_isCase_2 s0 hB  fu _ _ _ (by unfold fu; omega) hI_s hF_s (by omega) (by omega) (by decide) (by decide) 
theorem ok_r_isCase (s : RS) (x1 : Int32) (hI_s : InvR s) (hB : Big s) (h_x1l : 0 ≤ x1.toInt) (h_x1u : x1.toInt ≤ 7775) : Ok (r_isCase s x1) (Q_r_isCase s) := ok_r_isCaseB s hB s x1 hI_s FrR.rfl h_x1l h_x1u
abbrev Q_r_chance (s0 : RS) (y : Int32 × RS) : Prop := InvR y.2 ∧ FrR [45, 144] s0 y.2 ∧ -2147483648 ≤ y.1.toInt ∧ y.1.toInt ≤ 2147483647
set_option maxHeartbeats 1000000 in
theorem ok_r_chanceB (s0 : RS) (hB : Big s0)  (s : RS) (x1 : Int32) (hI_s : InvR s) (hF_s : FrR [45, 144] s0 s)  : Ok (r_chance  s x1) (Q_r_chance s0) := by
  unfold r_chance
  refine ok_bindI (ok_r_isGuess _ _ hI_s (hB.fr hF_s (by decide))) (fun r2 s1 hc_1 => ?_)
  have hI_s1 : InvR s1 := hc_1.1
  have hFc_s1 : FrR [] s s1 := hc_1.2.1
  have hF_s1 : FrR [45, 144] s0 s1 := hF_s.trans hFc_s1 (by decide)
  have hl_r2 : 0 ≤ r2.toInt := hc_1.2.2.1
  have hu_r2 : r2.toInt ≤ 1 := hc_1.2.2.2.1
  have hx0_r2 : (¬ r2.toInt = 0 → 0 ≤ (x1).toInt ∧ (x1).toInt ≤ 7775) := hc_1.2.2.2.2
  refine ok_ite (fun c_2 => ?_) (fun c_2 => ?_)
  · have c_2 := tn_eq (a := (r2).toInt) (b := 0) rfl (by decide) c_2
    exact ok_some ⟨hI_s1, hF_s1, (ti_rng _).1, (ti_rng _).2⟩
  · have c_2 := tn_ne (a := (r2).toInt) (b := 0) rfl (by decide) c_2
    refine ok_bindP (ok_r_copies _  hI_s1) (fun s4 hc_3 => ?_)
    have hI_s4 : InvR s4 := hc_3.1
    have hFc_s4 : FrR [45, 144] s1 s4 := hc_3.2
    have hF_s4 : FrR [45, 144] s0 s4 := hF_s1.trans hFc_s4 (by decide)
    refine ok_bindI (ok_r_chanceOf _ _ hI_s4 (hB.fr hF_s4 (by decide)) (by omega) (by omega)) (fun r6 s5 hc_4 => ?_)
    have hI_s5 : InvR s5 := hc_4.1
    have hFc_s5 : FrR [] s4 s5 := hc_4.2.1
    have hF_s5 : FrR [45, 144] s0 s5 := hF_s4.trans hFc_s5 (by decide)
    exact ok_some ⟨hI_s5, hF_s5, (ti_rng _).1, (ti_rng _).2⟩
theorem ok_r_chance (s : RS) (x1 : Int32) (hI_s : InvR s) (hB : Big s) : Ok (r_chance s x1) (Q_r_chance s) := ok_r_chanceB s hB s x1 hI_s FrR.rfl
abbrev Q_r_sumAt (s0 : RS) (y : Int32 × RS) : Prop := InvR y.2 ∧ FrR [] s0 y.2 ∧ -2147483648 ≤ y.1.toInt ∧ y.1.toInt ≤ 2147483647
set_option maxHeartbeats 1000000 in
theorem ok_r_sumAt_28 (s0 : RS) (k4 : RS → Int32 → Int32 → Int32 → Option (Int32 × RS)) (M4 : Nat) (hk4 : ∀ (s : RS) (x1 : Int32) (x2 : Int32) (x3 : Int32), InvR s → FrR [] s0 s → 0 ≤ x1.toInt → x1.toInt ≤ 4 → 0 ≤ x3.toInt → x3.toInt ≤ 6 → (6 - x3.toInt).toNat < M4 → Ok (k4 s x1 x2 x3) (Q_r_sumAt s0)) (s : RS) (x1 : Int32) (x2 : Int32) (x3 : Int32) (hI_s : InvR s) (hF_s : FrR [] s0 s) (h_x1l : 0 ≤ x1.toInt) (h_x1u : x1.toInt ≤ 4) (h_x3l : 0 ≤ x3.toInt) (h_x3u : x3.toInt ≤ 5) (hM4 : (6 - x3.toInt).toNat ≤ M4) : Ok (r_sumAt_28 k4 s x1 x2 x3) (Q_r_sumAt s0) := by
  unfold r_sumAt_28
  have a_1 : ((x3 + 1)).toInt = (x3).toInt + 1 := tn_add rfl (by decide) (by omega) (by omega)
  exact hk4 _ _ _ _ hI_s hF_s (by omega) (by omega) (by omega) (by omega) (by omega)
set_option maxHeartbeats 1000000 in
theorem ok_r_sumAt_4 (s0 : RS) (k4 : RS → Int32 → Int32 → Int32 → Option (Int32 × RS)) (M4 : Nat) (hk4 : ∀ (s : RS) (x1 : Int32) (x2 : Int32) (x3 : Int32), InvR s → FrR [] s0 s → 0 ≤ x1.toInt → x1.toInt ≤ 4 → 0 ≤ x3.toInt → x3.toInt ≤ 6 → (6 - x3.toInt).toNat < M4 → Ok (k4 s x1 x2 x3) (Q_r_sumAt s0)) (s : RS) (x1 : Int32) (x2 : Int32) (x3 : Int32) (hI_s : InvR s) (hF_s : FrR [] s0 s) (h_x1l : 0 ≤ x1.toInt) (h_x1u : x1.toInt ≤ 4) (h_x3l : 0 ≤ x3.toInt) (h_x3u : x3.toInt ≤ 6) (hM4 : (6 - x3.toInt).toNat ≤ M4) : Ok (r_sumAt_4 k4 s x1 x2 x3) (Q_r_sumAt s0) := by
  unfold r_sumAt_4
  refine ok_ite (fun c_1 => ?_) (fun c_1 => ?_)
  · have c_1 := tn_le (a := 6) (b := (x3).toInt) (by decide) rfl c_1
    exact ok_some ⟨hI_s, hF_s, (ti_rng _).1, (ti_rng _).2⟩
  · have c_1 := tn_nle (a := 6) (b := (x3).toInt) (by decide) rfl c_1
    refine ok_bindI (ok_r_mayBe _ _ _ hI_s (by omega) (by omega) (by omega) (by omega)) (fun r3 s2 hc_2 => ?_)
    have hI_s2 : InvR s2 := hc_2.1
    have hFc_s2 : FrR [] s s2 := hc_2.2.1
    have hF_s2 : FrR [] s0 s2 := hF_s.trans hFc_s2 (by decide)
    have hl_r3 : 0 ≤ r3.toInt := hc_2.2.2.1
    have hu_r3 : r3.toInt ≤ 1 := hc_2.2.2.2
    refine ok_ite (fun c_3 => ?_) (fun c_3 => ?_)
    · have c_3 := tn_eq (a := (r3).toInt) (b := 0) rfl (by decide) c_3
      exact ok_r_sumAt_28 s0 k4 M4 hk4 _ _ _ _ hI_s2 hF_s2 (by omega) (by omega) (by omega) (by omega) (by omega)
    · have c_3 := tn_ne (a := (r3).toInt) (b := 0) rfl (by decide) c_3
      refine ok_bindI (ok_r_oddsAt _ _ _ hI_s2 (by omega) (by omega) (by omega) (by omega)) (fun r6 s5 hc_4 => ?_)
      have hI_s5 : InvR s5 := hc_4.1
      have hFc_s5 : FrR [] s2 s5 := hc_4.2.1
      have hF_s5 : FrR [] s0 s5 := hF_s2.trans hFc_s5 (by decide)
      exact ok_r_sumAt_28 s0 k4 M4 hk4 _ _ _ _ hI_s5 hF_s5 (by omega) (by omega) (by omega) (by omega) (by omega)
theorem okL_r_sumAt_4 (s0 : RS)  : ∀ (n : Nat) (s : RS) (x1 : Int32) (x2 : Int32) (x3 : Int32), (6 - x3.toInt).toNat < n → InvR s → FrR [] s0 s → 0 ≤ x1.toInt → x1.toInt ≤ 4 → 0 ≤ x3.toInt → x3.toInt ≤ 6 → Ok (r_sumAt_4L  n s x1 x2 x3) (Q_r_sumAt s0) := by
  intro n
  induction n with
  | zero => intro s x1 x2 x3 hn; omega
  | succ n ih =>
    intro s x1 x2 x3 hn hI_s hF_s h_x1l h_x1u h_x3l h_x3u 
    exact ok_r_sumAt_4 s0 (r_sumAt_4L  n) ((6 - x3.toInt).toNat) (fun zs zx1 zx2 zx3 g0 g1 g2 g3 g4 g5  hm => ih zs zx1 zx2 zx3 (by omega) g0 g1 g2 g3 g4 g5 ) s x1 x2 x3 hI_s hF_s h_x1l h_x1u h_x3l h_x3u (Nat.le_refl _)
set_option maxHeartbeats 1000000 in
theorem ok_r_sumAtB (s0 : RS)  (s : RS) (x1 : Int32) (hI_s : InvR s) (hF_s : FrR [] s0 s) (h_x1l : 0 ≤ x1.toInt) (h_x1u : x1.toInt ≤ 4)  : Ok (r_sumAt  s x1) (Q_r_sumAt s0) := by
  unfold r_sumAt
  have l_0 : (0 : Int32).toInt = 0 := by decide
  exact okL_r_sumAt_4 s0  fu _ _ _ _ (by unfold fu; omega) hI_s hF_s (by omega) (by omega) (by decide) (by decide) 
theorem ok_r_sumAt (s : RS) (x1 : Int32) (hI_s : InvR s) (h_x1l : 0 ≤ x1.toInt) (h_x1u : x1.toInt ≤ 4) : Ok (r_sumAt s x1) (Q_r_sumAt s) := ok_r_sumAtB s s x1 hI_s FrR.rfl h_x1l h_x1u
abbrev Q_r_all (s0 : RS) (y : Int32 × RS) : Prop := InvR y.2 ∧ FrR [45, 144] s0 y.2 ∧ -2147483648 ≤ y.1.toInt ∧ y.1.toInt ≤ 2147483647
set_option maxHeartbeats 1000000 in
theorem ok_r_all_8 (s0 : RS) (k8 : RS → Int32 → Int32 → Option (Int32 × RS)) (M8 : Nat) (hk8 : ∀ (s : RS) (x1 : Int32) (x2 : Int32), InvR s → FrR [45, 144] s0 s → 0 ≤ x2.toInt → x2.toInt ≤ 5 → (5 - x2.toInt).toNat < M8 → Ok (k8 s x1 x2) (Q_r_all s0)) (s : RS) (x1 : Int32) (x2 : Int32) (hI_s : InvR s) (hF_s : FrR [45, 144] s0 s) (h_x2l : 0 ≤ x2.toInt) (h_x2u : x2.toInt ≤ 5) (hM8 : (5 - x2.toInt).toNat ≤ M8) : Ok (r_all_8 k8 s x1 x2) (Q_r_all s0) := by
  unfold r_all_8
  have a_1 : 0 ≤ (s.v 18).toInt ∧ (s.v 18).toInt ≤ 1 := hI_s.1 18
  refine ok_grd (vpb_ok (by omega) (by omega)) ?_
  have a_2 : ((s.f 20 (Int32.toNatClampNeg (s.v 18)))).toInt = wv s0 := wv_fr hF_s (by decide) (by decide)
  have a_3 : 0 ≤ ((s.f 20 (Int32.toNatClampNeg (s.v 18)))).toInt ∧ ((s.f 20 (Int32.toNatClampNeg (s.v 18)))).toInt ≤ 5 := hI_s.2 20 _
  refine ok_ite (fun c_4 => ?_) (fun c_4 => ?_)
  · have c_4 := tn_le (a := ((s.f 20 (Int32.toNatClampNeg (s.v 18)))).toInt) (b := (x2).toInt) rfl rfl c_4
    exact ok_some ⟨hI_s, hF_s, (ti_rng _).1, (ti_rng _).2⟩
  · have c_4 := tn_nle (a := ((s.f 20 (Int32.toNatClampNeg (s.v 18)))).toInt) (b := (x2).toInt) rfl rfl c_4
    refine ok_bindI (ok_r_sumAt _ _ hI_s (by omega) (by omega)) (fun r4 s3 hc_5 => ?_)
    have hI_s3 : InvR s3 := hc_5.1
    have hFc_s3 : FrR [] s s3 := hc_5.2.1
    have hF_s3 : FrR [45, 144] s0 s3 := hF_s.trans hFc_s3 (by decide)
    have a_6 : ((x2 + 1)).toInt = (x2).toInt + 1 := tn_add rfl (by decide) (by omega) (by omega)
    exact hk8 _ _ _ hI_s3 hF_s3 (by omega) (by omega) (by omega)
theorem okL_r_all_8 (s0 : RS)  : ∀ (n : Nat) (s : RS) (x1 : Int32) (x2 : Int32), (5 - x2.toInt).toNat < n → InvR s → FrR [45, 144] s0 s → 0 ≤ x2.toInt → x2.toInt ≤ 5 → Ok (r_all_8L  n s x1 x2) (Q_r_all s0) := by
  intro n
  induction n with
  | zero => intro s x1 x2 hn; omega
  | succ n ih =>
    intro s x1 x2 hn hI_s hF_s h_x2l h_x2u 
    exact ok_r_all_8 s0 (r_all_8L  n) ((5 - x2.toInt).toNat) (fun zs zx1 zx2 g0 g1 g2 g3  hm => ih zs zx1 zx2 (by omega) g0 g1 g2 g3 ) s x1 x2 hI_s hF_s h_x2l h_x2u (Nat.le_refl _)
set_option maxHeartbeats 1000000 in
theorem ok_r_allB (s0 : RS)  (s : RS) (hI_s : InvR s) (hF_s : FrR [45, 144] s0 s)  : Ok (r_all  s) (Q_r_all s0) := by
  unfold r_all
  refine ok_bindP (ok_r_copies _  hI_s) (fun s1 hc_1 => ?_)
  have hI_s1 : InvR s1 := hc_1.1
  have hFc_s1 : FrR [45, 144] s s1 := hc_1.2
  have hF_s1 : FrR [45, 144] s0 s1 := hF_s.trans hFc_s1 (by decide)
  have l_1 : (1 : Int32).toInt = 1 := by decide
  have l_0 : (0 : Int32).toInt = 0 := by decide
  exact okL_r_all_8 s0  fu _ _ _ (by unfold fu; omega) hI_s1 hF_s1 (by decide) (by decide) 
theorem ok_r_all (s : RS) (hI_s : InvR s) : Ok (r_all s) (Q_r_all s) := ok_r_allB s s hI_s FrR.rfl
abbrev Q_r_bestFor (s0 : RS) (y : Int32 × RS) : Prop := InvR y.2 ∧ FrR [42, 140, 141] s0 y.2 ∧ -2 ≤ y.1.toInt ∧ y.1.toInt ≤ 194400
set_option maxHeartbeats 1000000 in
theorem ok_r_bestFor_83 (s0 : RS) (hB : Big s0) (k4 : RS → Int32 → Int32 → Int32 → Option (Int32 × RS)) (M4 : Nat) (hk4 : ∀ (s : RS) (x1 : Int32) (x2 : Int32) (x3 : Int32), InvR s → FrR [42, 140, 141] s0 s → -1 ≤ x1.toInt → x1.toInt ≤ 5 → 0 ≤ x2.toInt → x2.toInt ≤ 194400 → 0 ≤ x3.toInt → x3.toInt ≤ 5 → (x2.toInt ≤ 38880 * x3.toInt) → (5 - x3.toInt).toNat < M4 → Ok (k4 s x1 x2 x3) (Q_r_bestFor s0)) (k24 : RS → Int32 → Int32 → Int32 → Int32 → Int32 → Option (Int32 × RS)) (M24 : Nat) (hk24 : ∀ (s : RS) (x1 : Int32) (x2 : Int32) (x3 : Int32) (x4 : Int32) (x5 : Int32), InvR s → FrR [42, 140, 141] s0 s → -1 ≤ x1.toInt → x1.toInt ≤ 5 → 0 ≤ x2.toInt → x2.toInt ≤ 194400 → 0 ≤ x3.toInt → x3.toInt ≤ 4 → -2 ≤ x4.toInt → x4.toInt ≤ 5 → 0 ≤ x5.toInt → x5.toInt ≤ 6 → (x2.toInt ≤ 38880 * x3.toInt) → (5 - x3.toInt).toNat ≤ M4 → (6 - x5.toInt).toNat < M24 → Ok (k24 s x1 x2 x3 x4 x5) (Q_r_bestFor s0)) (s : RS) (x1 : Int32) (x2 : Int32) (x3 : Int32) (x4 : Int32) (x5 : Int32) (hI_s : InvR s) (hF_s : FrR [42, 140, 141] s0 s) (h_x1l : -1 ≤ x1.toInt) (h_x1u : x1.toInt ≤ 5) (h_x2l : 0 ≤ x2.toInt) (h_x2u : x2.toInt ≤ 194400) (h_x3l : 0 ≤ x3.toInt) (h_x3u : x3.toInt ≤ 4) (h_x4l : -2 ≤ x4.toInt) (h_x4u : x4.toInt ≤ 5) (h_x5l : 0 ≤ x5.toInt) (h_x5u : x5.toInt ≤ 5) (hx0 : (x2.toInt ≤ 38880 * x3.toInt)) (hM4 : (5 - x3.toInt).toNat ≤ M4) (hM24 : (6 - x5.toInt).toNat ≤ M24) : Ok (r_bestFor_83 k4 k24 s x1 x2 x3 x4 x5) (Q_r_bestFor s0) := by
  unfold r_bestFor_83
  have a_1 : ((x5 + 1)).toInt = (x5).toInt + 1 := tn_add rfl (by decide) (by omega) (by omega)
  exact hk24 _ _ _ _ _ _ hI_s hF_s (by first | (clear hx0; omega) | omega) (by first | (clear hx0; omega) | omega) (by first | (clear hx0; omega) | omega) (by first | (clear hx0; omega) | omega) (by first | (clear hx0; omega) | omega) (by first | (clear hx0; omega) | omega) (by first | (clear hx0; omega) | omega) (by first | (clear hx0; omega) | omega) (by first | (clear hx0; omega) | omega) (by first | (clear hx0; omega) | omega) (by omega) (by first | (clear hx0; omega) | omega) (by first | (clear hx0; omega) | omega)
set_option maxHeartbeats 1000000 in
theorem ok_r_bestFor_79 (s0 : RS) (hB : Big s0) (k4 : RS → Int32 → Int32 → Int32 → Option (Int32 × RS)) (M4 : Nat) (hk4 : ∀ (s : RS) (x1 : Int32) (x2 : Int32) (x3 : Int32), InvR s → FrR [42, 140, 141] s0 s → -1 ≤ x1.toInt → x1.toInt ≤ 5 → 0 ≤ x2.toInt → x2.toInt ≤ 194400 → 0 ≤ x3.toInt → x3.toInt ≤ 5 → (x2.toInt ≤ 38880 * x3.toInt) → (5 - x3.toInt).toNat < M4 → Ok (k4 s x1 x2 x3) (Q_r_bestFor s0)) (k24 : RS → Int32 → Int32 → Int32 → Int32 → Int32 → Option (Int32 × RS)) (M24 : Nat) (hk24 : ∀ (s : RS) (x1 : Int32) (x2 : Int32) (x3 : Int32) (x4 : Int32) (x5 : Int32), InvR s → FrR [42, 140, 141] s0 s → -1 ≤ x1.toInt → x1.toInt ≤ 5 → 0 ≤ x2.toInt → x2.toInt ≤ 194400 → 0 ≤ x3.toInt → x3.toInt ≤ 4 → -2 ≤ x4.toInt → x4.toInt ≤ 5 → 0 ≤ x5.toInt → x5.toInt ≤ 6 → (x2.toInt ≤ 38880 * x3.toInt) → (5 - x3.toInt).toNat ≤ M4 → (6 - x5.toInt).toNat < M24 → Ok (k24 s x1 x2 x3 x4 x5) (Q_r_bestFor s0)) (s : RS) (x1 : Int32) (x2 : Int32) (x3 : Int32) (x5 : Int32) (hI_s : InvR s) (hF_s : FrR [42, 140, 141] s0 s) (h_x1l : -1 ≤ x1.toInt) (h_x1u : x1.toInt ≤ 5) (h_x2l : 0 ≤ x2.toInt) (h_x2u : x2.toInt ≤ 194400) (h_x3l : 0 ≤ x3.toInt) (h_x3u : x3.toInt ≤ 4) (h_x5l : 0 ≤ x5.toInt) (h_x5u : x5.toInt ≤ 5) (hx0 : (x2.toInt ≤ 38880 * x3.toInt)) (hM4 : (5 - x3.toInt).toNat ≤ M4) (hM24 : (6 - x5.toInt).toNat ≤ M24) : Ok (r_bestFor_79 k4 k24 s x1 x2 x3 x5) (Q_r_bestFor s0) := by
  unfold r_bestFor_79
  exact ok_r_bestFor_83 s0 hB k4 M4 hk4 k24 M24 hk24 _ _ _ _ _ _ hI_s hF_s (by first | (clear hx0; omega) | omega) (by first | (clear hx0; omega) | omega) (by first | (clear hx0; omega) | omega) (by first | (clear hx0; omega) | omega) (by first | (clear hx0; omega) | omega) (by first | (clear hx0; omega) | omega) (by first | (clear hx0; omega) | omega) (by first | (clear hx0; omega) | omega) (by first | (clear hx0; omega) | omega) (by first | (clear hx0; omega) | omega) (by omega) (by first | (clear hx0; omega) | omega) (by first | (clear hx0; omega) | omega)
set_option maxHeartbeats 1000000 in
theorem ok_r_bestFor_57 (s0 : RS) (hB : Big s0) (k4 : RS → Int32 → Int32 → Int32 → Option (Int32 × RS)) (M4 : Nat) (hk4 : ∀ (s : RS) (x1 : Int32) (x2 : Int32) (x3 : Int32), InvR s → FrR [42, 140, 141] s0 s → -1 ≤ x1.toInt → x1.toInt ≤ 5 → 0 ≤ x2.toInt → x2.toInt ≤ 194400 → 0 ≤ x3.toInt → x3.toInt ≤ 5 → (x2.toInt ≤ 38880 * x3.toInt) → (5 - x3.toInt).toNat < M4 → Ok (k4 s x1 x2 x3) (Q_r_bestFor s0)) (k24 : RS → Int32 → Int32 → Int32 → Int32 → Int32 → Option (Int32 × RS)) (M24 : Nat) (hk24 : ∀ (s : RS) (x1 : Int32) (x2 : Int32) (x3 : Int32) (x4 : Int32) (x5 : Int32), InvR s → FrR [42, 140, 141] s0 s → -1 ≤ x1.toInt → x1.toInt ≤ 5 → 0 ≤ x2.toInt → x2.toInt ≤ 194400 → 0 ≤ x3.toInt → x3.toInt ≤ 4 → -2 ≤ x4.toInt → x4.toInt ≤ 5 → 0 ≤ x5.toInt → x5.toInt ≤ 6 → (x2.toInt ≤ 38880 * x3.toInt) → (5 - x3.toInt).toNat ≤ M4 → (6 - x5.toInt).toNat < M24 → Ok (k24 s x1 x2 x3 x4 x5) (Q_r_bestFor s0)) (s : RS) (x1 : Int32) (x2 : Int32) (x3 : Int32) (x4 : Int32) (x5 : Int32) (hI_s : InvR s) (hF_s : FrR [42, 140, 141] s0 s) (h_x1l : -1 ≤ x1.toInt) (h_x1u : x1.toInt ≤ 5) (h_x2l : 0 ≤ x2.toInt) (h_x2u : x2.toInt ≤ 194400) (h_x3l : 0 ≤ x3.toInt) (h_x3u : x3.toInt ≤ 4) (h_x4l : -2 ≤ x4.toInt) (h_x4u : x4.toInt ≤ 5) (h_x5l : 0 ≤ x5.toInt) (h_x5u : x5.toInt ≤ 5) (hx0 : (x2.toInt ≤ 38880 * x3.toInt)) (hM4 : (5 - x3.toInt).toNat ≤ M4) (hM24 : (6 - x5.toInt).toNat ≤ M24) : Ok (r_bestFor_57 k4 k24 s x1 x2 x3 x4 x5) (Q_r_bestFor s0) := by
  unfold r_bestFor_57
  refine ok_ite (fun c_1 => ?_) (fun c_1 => ?_)
  · have c_1 := tn_lt (a := (x4).toInt) (b := 0) rfl (by decide) c_1
    exact ok_r_bestFor_79 s0 hB k4 M4 hk4 k24 M24 hk24 _ _ _ _ _ hI_s hF_s (by first | (clear hx0; omega) | omega) (by first | (clear hx0; omega) | omega) (by first | (clear hx0; omega) | omega) (by first | (clear hx0; omega) | omega) (by first | (clear hx0; omega) | omega) (by first | (clear hx0; omega) | omega) (by first | (clear hx0; omega) | omega) (by first | (clear hx0; omega) | omega) (by omega) (by first | (clear hx0; omega) | omega) (by first | (clear hx0; omega) | omega)
  · have c_1 := tn_nlt (a := (x4).toInt) (b := 0) rfl (by decide) c_1
    refine ok_bindI (ok_r_oddsAt _ _ _ hI_s (by omega) (by omega) (by omega) (by omega)) (fun r3 s2 hc_2 => ?_)
    have hI_s2 : InvR s2 := hc_2.1
    have hFc_s2 : FrR [] s s2 := hc_2.2.1
    have hF_s2 : FrR [42, 140, 141] s0 s2 := hF_s.trans hFc_s2 (by decide)
    refine ok_bindI (ok_r_oddsAt _ _ _ hI_s2 (by omega) (by omega) (by omega) (by omega)) (fun r5 s4 hc_3 => ?_)
    have hI_s4 : InvR s4 := hc_3.1
    have hFc_s4 : FrR [] s2 s4 := hc_3.2.1
    have hF_s4 : FrR [42, 140, 141] s0 s4 := hF_s2.trans hFc_s4 (by decide)
    refine ok_ite (fun c_4 => ?_) (fun c_4 => ?_)
    · have c_4 := tn_le (a := (r3).toInt) (b := (r5).toInt) rfl rfl c_4
      exact ok_r_bestFor_83 s0 hB k4 M4 hk4 k24 M24 hk24 _ _ _ _ _ _ hI_s4 hF_s4 (by first | (clear hx0; omega) | omega) (by first | (clear hx0; omega) | omega) (by first | (clear hx0; omega) | omega) (by first | (clear hx0; omega) | omega) (by first | (clear hx0; omega) | omega) (by first | (clear hx0; omega) | omega) (by first | (clear hx0; omega) | omega) (by first | (clear hx0; omega) | omega) (by first | (clear hx0; omega) | omega) (by first | (clear hx0; omega) | omega) (by omega) (by first | (clear hx0; omega) | omega) (by first | (clear hx0; omega) | omega)
    · have c_4 := tn_nle (a := (r3).toInt) (b := (r5).toInt) rfl rfl c_4
      exact ok_r_bestFor_79 s0 hB k4 M4 hk4 k24 M24 hk24 _ _ _ _ _ hI_s4 hF_s4 (by first | (clear hx0; omega) | omega) (by first | (clear hx0; omega) | omega) (by first | (clear hx0; omega) | omega) (by first | (clear hx0; omega) | omega) (by first | (clear hx0; omega) | omega) (by first | (clear hx0; omega) | omega) (by first | (clear hx0; omega) | omega) (by first | (clear hx0; omega) | omega) (by omega) (by first | (clear hx0; omega) | omega) (by first | (clear hx0; omega) | omega)
set_option maxHeartbeats 1000000 in
theorem ok_r_bestFor_24 (s0 : RS) (hB : Big s0) (k4 : RS → Int32 → Int32 → Int32 → Option (Int32 × RS)) (M4 : Nat) (hk4 : ∀ (s : RS) (x1 : Int32) (x2 : Int32) (x3 : Int32), InvR s → FrR [42, 140, 141] s0 s → -1 ≤ x1.toInt → x1.toInt ≤ 5 → 0 ≤ x2.toInt → x2.toInt ≤ 194400 → 0 ≤ x3.toInt → x3.toInt ≤ 5 → (x2.toInt ≤ 38880 * x3.toInt) → (5 - x3.toInt).toNat < M4 → Ok (k4 s x1 x2 x3) (Q_r_bestFor s0)) (k24 : RS → Int32 → Int32 → Int32 → Int32 → Int32 → Option (Int32 × RS)) (M24 : Nat) (hk24 : ∀ (s : RS) (x1 : Int32) (x2 : Int32) (x3 : Int32) (x4 : Int32) (x5 : Int32), InvR s → FrR [42, 140, 141] s0 s → -1 ≤ x1.toInt → x1.toInt ≤ 5 → 0 ≤ x2.toInt → x2.toInt ≤ 194400 → 0 ≤ x3.toInt → x3.toInt ≤ 4 → -2 ≤ x4.toInt → x4.toInt ≤ 5 → 0 ≤ x5.toInt → x5.toInt ≤ 6 → (x2.toInt ≤ 38880 * x3.toInt) → (5 - x3.toInt).toNat ≤ M4 → (6 - x5.toInt).toNat < M24 → Ok (k24 s x1 x2 x3 x4 x5) (Q_r_bestFor s0)) (s : RS) (x1 : Int32) (x2 : Int32) (x3 : Int32) (x4 : Int32) (x5 : Int32) (hI_s : InvR s) (hF_s : FrR [42, 140, 141] s0 s) (h_x1l : -1 ≤ x1.toInt) (h_x1u : x1.toInt ≤ 5) (h_x2l : 0 ≤ x2.toInt) (h_x2u : x2.toInt ≤ 194400) (h_x3l : 0 ≤ x3.toInt) (h_x3u : x3.toInt ≤ 4) (h_x4l : -2 ≤ x4.toInt) (h_x4u : x4.toInt ≤ 5) (h_x5l : 0 ≤ x5.toInt) (h_x5u : x5.toInt ≤ 6) (hx0 : (x2.toInt ≤ 38880 * x3.toInt)) (hM4 : (5 - x3.toInt).toNat ≤ M4) (hM24 : (6 - x5.toInt).toNat ≤ M24) : Ok (r_bestFor_24 k4 k24 s x1 x2 x3 x4 x5) (Q_r_bestFor s0) := by
  unfold r_bestFor_24
  refine ok_ite (fun c_1 => ?_) (fun c_1 => ?_)
  · have c_1 := tn_le (a := 6) (b := (x5).toInt) (by decide) rfl c_1
    refine ok_ite (fun c_2 => ?_) (fun c_2 => ?_)
    · have c_2 := tn_le (a := 0) (b := (x4).toInt) (by decide) rfl c_2
      refine ok_grd (vpb_ok (by omega) (by omega)) ?_
      have a_3 : 1 ≤ ((s.f 46 (Int32.toNatClampNeg x3))).toInt ∧ ((s.f 46 (Int32.toNatClampNeg x3))).toInt ≤ 7776 := hB.six hF_s (by decide) (by omega) (by omega)
      have a_4 : 0 ≤ (((s.f 46 (Int32.toNatClampNeg x3)) * x4)).toInt ∧ (((s.f 46 (Int32.toNatClampNeg x3)) * x4)).toInt ≤ 38880 := ti_mulr (a := 7776) (b := 5) (by omega) (by omega) (by omega) (by omega) (by decide)
      have a_5 : ((x2 + ((s.f 46 (Int32.toNatClampNeg x3)) * x4))).toInt = (x2).toInt + (((s.f 46 (Int32.toNatClampNeg x3)) * x4)).toInt := tn_add rfl rfl (by omega) (by omega)
      have a_6 : ((x3 + 1)).toInt = (x3).toInt + 1 := tn_add rfl (by decide) (by omega) (by omega)
      exact hk4 _ _ _ _ hI_s hF_s (by first | (clear hx0; omega) | omega) (by first | (clear hx0; omega) | omega) (by first | (clear hx0; omega) | omega) (by first | (clear hx0; omega) | omega) (by first | (clear hx0; omega) | omega) (by first | (clear hx0; omega) | omega) (by omega) (by first | (clear hx0; omega) | omega)
    · have c_2 := tn_nle (a := 0) (b := (x4).toInt) (by decide) rfl c_2
      exact ok_some ⟨hI_s, hF_s, by show -2 ≤ ((-2) : Int32).toInt; decide, by show ((-2) : Int32).toInt ≤ 194400; decide⟩
  · have c_1 := tn_nle (a := 6) (b := (x5).toInt) (by decide) rfl c_1
    refine ok_bindI (ok_r_mayBe _ _ _ hI_s (by omega) (by omega) (by omega) (by omega)) (fun r5 s4 hc_7 => ?_)
    have hI_s4 : InvR s4 := hc_7.1
    have hFc_s4 : FrR [] s s4 := hc_7.2.1
    have hF_s4 : FrR [42, 140, 141] s0 s4 := hF_s.trans hFc_s4 (by decide)
    have hl_r5 : 0 ≤ r5.toInt := hc_7.2.2.1
    have hu_r5 : r5.toInt ≤ 1 := hc_7.2.2.2
    refine ok_ite (fun c_8 => ?_) (fun c_8 => ?_)
    · have c_8 := tn_eq (a := (r5).toInt) (b := 0) rfl (by decide) c_8
      exact ok_r_bestFor_83 s0 hB k4 M4 hk4 k24 M24 hk24 _ _ _ _ _ _ hI_s4 hF_s4 (by first | (clear hx0; omega) | omega) (by first | (clear hx0; omega) | omega) (by first | (clear hx0; omega) | omega) (by first | (clear hx0; omega) | omega) (by first | (clear hx0; omega) | omega) (by first | (clear hx0; omega) | omega) (by first | (clear hx0; omega) | omega) (by first | (clear hx0; omega) | omega) (by first | (clear hx0; omega) | omega) (by first | (clear hx0; omega) | omega) (by omega) (by first | (clear hx0; omega) | omega) (by first | (clear hx0; omega) | omega)
    · have c_8 := tn_ne (a := (r5).toInt) (b := 0) rfl (by decide) c_8
      refine ok_ite (fun c_9 => ?_) (fun c_9 => ?_)
      · have c_9 := tn_eq (a := (x1).toInt) (b := (-1)) rfl (by decide) c_9
        exact ok_r_bestFor_57 s0 hB k4 M4 hk4 k24 M24 hk24 _ _ _ _ _ _ hI_s4 hF_s4 (by first | (clear hx0; omega) | omega) (by first | (clear hx0; omega) | omega) (by first | (clear hx0; omega) | omega) (by first | (clear hx0; omega) | omega) (by first | (clear hx0; omega) | omega) (by first | (clear hx0; omega) | omega) (by first | (clear hx0; omega) | omega) (by first | (clear hx0; omega) | omega) (by first | (clear hx0; omega) | omega) (by first | (clear hx0; omega) | omega) (by omega) (by first | (clear hx0; omega) | omega) (by first | (clear hx0; omega) | omega)
      · have c_9 := tn_ne (a := (x1).toInt) (b := (-1)) rfl (by decide) c_9
        refine ok_bindI (ok_r_doesBear _ _ _ _ hI_s4 (hB.fr hF_s4 (by decide)) (by omega) (by omega) (by omega) (by omega) (by omega) (by omega)) (fun r9 s8 hc_10 => ?_)
        have hI_s8 : InvR s8 := hc_10.1
        have hFc_s8 : FrR [42, 140, 141] s4 s8 := hc_10.2.1
        have hF_s8 : FrR [42, 140, 141] s0 s8 := hF_s4.trans hFc_s8 (by decide)
        have hl_r9 : 0 ≤ r9.toInt := hc_10.2.2.1
        have hu_r9 : r9.toInt ≤ 1 := hc_10.2.2.2
        refine ok_ite (fun c_11 => ?_) (fun c_11 => ?_)
        · have c_11 := tn_eq (a := (r9).toInt) (b := 0) rfl (by decide) c_11
          exact ok_r_bestFor_83 s0 hB k4 M4 hk4 k24 M24 hk24 _ _ _ _ _ _ hI_s8 hF_s8 (by first | (clear hx0; omega) | omega) (by first | (clear hx0; omega) | omega) (by first | (clear hx0; omega) | omega) (by first | (clear hx0; omega) | omega) (by first | (clear hx0; omega) | omega) (by first | (clear hx0; omega) | omega) (by first | (clear hx0; omega) | omega) (by first | (clear hx0; omega) | omega) (by first | (clear hx0; omega) | omega) (by first | (clear hx0; omega) | omega) (by omega) (by first | (clear hx0; omega) | omega) (by first | (clear hx0; omega) | omega)
        · have c_11 := tn_ne (a := (r9).toInt) (b := 0) rfl (by decide) c_11
          exact ok_r_bestFor_57 s0 hB k4 M4 hk4 k24 M24 hk24 _ _ _ _ _ _ hI_s8 hF_s8 (by first | (clear hx0; omega) | omega) (by first | (clear hx0; omega) | omega) (by first | (clear hx0; omega) | omega) (by first | (clear hx0; omega) | omega) (by first | (clear hx0; omega) | omega) (by first | (clear hx0; omega) | omega) (by first | (clear hx0; omega) | omega) (by first | (clear hx0; omega) | omega) (by first | (clear hx0; omega) | omega) (by first | (clear hx0; omega) | omega) (by omega) (by first | (clear hx0; omega) | omega) (by first | (clear hx0; omega) | omega)
theorem okL_r_bestFor_24 (s0 : RS) (hB : Big s0) (k4 : RS → Int32 → Int32 → Int32 → Option (Int32 × RS)) (M4 : Nat) (hk4 : ∀ (s : RS) (x1 : Int32) (x2 : Int32) (x3 : Int32), InvR s → FrR [42, 140, 141] s0 s → -1 ≤ x1.toInt → x1.toInt ≤ 5 → 0 ≤ x2.toInt → x2.toInt ≤ 194400 → 0 ≤ x3.toInt → x3.toInt ≤ 5 → (x2.toInt ≤ 38880 * x3.toInt) → (5 - x3.toInt).toNat < M4 → Ok (k4 s x1 x2 x3) (Q_r_bestFor s0)) : ∀ (n : Nat) (s : RS) (x1 : Int32) (x2 : Int32) (x3 : Int32) (x4 : Int32) (x5 : Int32), (6 - x5.toInt).toNat < n → InvR s → FrR [42, 140, 141] s0 s → -1 ≤ x1.toInt → x1.toInt ≤ 5 → 0 ≤ x2.toInt → x2.toInt ≤ 194400 → 0 ≤ x3.toInt → x3.toInt ≤ 4 → -2 ≤ x4.toInt → x4.toInt ≤ 5 → 0 ≤ x5.toInt → x5.toInt ≤ 6 → (x2.toInt ≤ 38880 * x3.toInt) → (5 - x3.toInt).toNat ≤ M4 → Ok (r_bestFor_24L k4 n s x1 x2 x3 x4 x5) (Q_r_bestFor s0) := by
  intro n
  induction n with
  | zero => intro s x1 x2 x3 x4 x5 hn; omega
  | succ n ih =>
    intro s x1 x2 x3 x4 x5 hn hI_s hF_s h_x1l h_x1u h_x2l h_x2u h_x3l h_x3u h_x4l h_x4u h_x5l h_x5u hx0 hM4
    exact ok_r_bestFor_24 s0 hB k4 M4 hk4 (r_bestFor_24L k4 n) ((6 - x5.toInt).toNat) (fun zs zx1 zx2 zx3 zx4 zx5 g0 g1 g2 g3 g4 g5 g6 g7 g8 g9 g10 g11 g12 o4 hm => ih zs zx1 zx2 zx3 zx4 zx5 (by omega) g0 g1 g2 g3 g4 g5 g6 g7 g8 g9 g10 g11 g12 o4) s x1 x2 x3 x4 x5 hI_s hF_s h_x1l h_x1u h_x2l h_x2u h_x3l h_x3u h_x4l h_x4u h_x5l h_x5u hx0 hM4 (Nat.le_refl _)
set_option maxHeartbeats 1000000 in
theorem ok_r_bestFor_4 (s0 : RS) (hB : Big s0) (k4 : RS → Int32 → Int32 → Int32 → Option (Int32 × RS)) (M4 : Nat) (hk4 : ∀ (s : RS) (x1 : Int32) (x2 : Int32) (x3 : Int32), InvR s → FrR [42, 140, 141] s0 s → -1 ≤ x1.toInt → x1.toInt ≤ 5 → 0 ≤ x2.toInt → x2.toInt ≤ 194400 → 0 ≤ x3.toInt → x3.toInt ≤ 5 → (x2.toInt ≤ 38880 * x3.toInt) → (5 - x3.toInt).toNat < M4 → Ok (k4 s x1 x2 x3) (Q_r_bestFor s0)) (s : RS) (x1 : Int32) (x2 : Int32) (x3 : Int32) (hI_s : InvR s) (hF_s : FrR [42, 140, 141] s0 s) (h_x1l : -1 ≤ x1.toInt) (h_x1u : x1.toInt ≤ 5) (h_x2l : 0 ≤ x2.toInt) (h_x2u : x2.toInt ≤ 194400) (h_x3l : 0 ≤ x3.toInt) (h_x3u : x3.toInt ≤ 5) (hx0 : (x2.toInt ≤ 38880 * x3.toInt)) (hM4 : (5 - x3.toInt).toNat ≤ M4) : Ok (r_bestFor_4 k4 s x1 x2 x3) (Q_r_bestFor s0) := by
  unfold r_bestFor_4
  have a_1 : 0 ≤ (s.v 18).toInt ∧ (s.v 18).toInt ≤ 1 := hI_s.1 18
  refine ok_grd (vpb_ok (by omega) (by omega)) ?_
  have a_2 : ((s.f 20 (Int32.toNatClampNeg (s.v 18)))).toInt = wv s0 := wv_fr hF_s (by decide) (by decide)
  have a_3 : 0 ≤ ((s.f 20 (Int32.toNatClampNeg (s.v 18)))).toInt ∧ ((s.f 20 (Int32.toNatClampNeg (s.v 18)))).toInt ≤ 5 := hI_s.2 20 _
  refine ok_ite (fun c_4 => ?_) (fun c_4 => ?_)
  · have c_4 := tn_le (a := ((s.f 20 (Int32.toNatClampNeg (s.v 18)))).toInt) (b := (x3).toInt) rfl rfl c_4
    exact ok_some ⟨hI_s, hF_s, by show -2 ≤ (x2).toInt; omega, by show (x2).toInt ≤ 194400; omega⟩
  · have c_4 := tn_nle (a := ((s.f 20 (Int32.toNatClampNeg (s.v 18)))).toInt) (b := (x3).toInt) rfl rfl c_4
    have l_m2 : ((-2) : Int32).toInt = -2 := by decide
    have l_0 : (0 : Int32).toInt = 0 := by decide
    exact okL_r_bestFor_24 s0 hB k4 M4 hk4 fu _ _ _ _ _ _ (by unfold fu; omega) hI_s hF_s (by first | (clear hx0; omega) | omega) (by first | (clear hx0; omega) | omega) (by first | (clear hx0; omega) | omega) (by first | (clear hx0; omega) | omega) (by first | (clear hx0; omega) | omega) (by first | (clear hx0; omega) | omega) (by decide) (by decide) (by decide) (by decide) (by omega) (by first | (clear hx0; omega) | omega)
theorem okL_r_bestFor_4 (s0 : RS) (hB : Big s0)  : ∀ (n : Nat) (s : RS) (x1 : Int32) (x2 : Int32) (x3 : Int32), (5 - x3.toInt).toNat < n → InvR s → FrR [42, 140, 141] s0 s → -1 ≤ x1.toInt → x1.toInt ≤ 5 → 0 ≤ x2.toInt → x2.toInt ≤ 194400 → 0 ≤ x3.toInt → x3.toInt ≤ 5 → (x2.toInt ≤ 38880 * x3.toInt) → Ok (r_bestFor_4L  n s x1 x2 x3) (Q_r_bestFor s0) := by
  intro n
  induction n with
  | zero => intro s x1 x2 x3 hn; omega
  | succ n ih =>
    intro s x1 x2 x3 hn hI_s hF_s h_x1l h_x1u h_x2l h_x2u h_x3l h_x3u hx0 
    exact ok_r_bestFor_4 s0 hB (r_bestFor_4L  n) ((5 - x3.toInt).toNat) (fun zs zx1 zx2 zx3 g0 g1 g2 g3 g4 g5 g6 g7 g8  hm => ih zs zx1 zx2 zx3 (by omega) g0 g1 g2 g3 g4 g5 g6 g7 g8 ) s x1 x2 x3 hI_s hF_s h_x1l h_x1u h_x2l h_x2u h_x3l h_x3u hx0 (Nat.le_refl _)
set_option maxHeartbeats 1000000 in
theorem ok_r_bestForB (s0 : RS) (hB : Big s0)  (s : RS) (x1 : Int32) (hI_s : InvR s) (hF_s : FrR [42, 140, 141] s0 s) (h_x1l : -1 ≤ x1.toInt) (h_x1u : x1.toInt ≤ 5)  : Ok (r_bestFor  s x1) (Q_r_bestFor s0) := by
  unfold r_bestFor
  have l_0 : (0 : Int32).toInt = 0 := by decide
  exact okL_r_bestFor_4 s0 hB  fu _ _ _ _ (by unfold fu; omega) hI_s hF_s (by omega) (by omega) (by decide) (by decide) (by decide) (by decide) (by omega) 
theorem ok_r_bestFor (s : RS) (x1 : Int32) (hI_s : InvR s) (hB : Big s) (h_x1l : -1 ≤ x1.toInt) (h_x1u : x1.toInt ≤ 5) : Ok (r_bestFor s x1) (Q_r_bestFor s) := ok_r_bestForB s hB s x1 hI_s FrR.rfl h_x1l h_x1u
abbrev Q_r_likeliest (s0 : RS) (y : Int32 × RS) : Prop := InvR y.2 ∧ FrR [42, 45, 140, 141, 144] s0 y.2 ∧ -2 ≤ y.1.toInt ∧ y.1.toInt ≤ 194400
set_option maxHeartbeats 1000000 in
theorem ok_r_likeliestB (s0 : RS) (hB : Big s0)  (s : RS) (hI_s : InvR s) (hF_s : FrR [42, 45, 140, 141, 144] s0 s)  : Ok (r_likeliest  s) (Q_r_likeliest s0) := by
  unfold r_likeliest
  refine ok_bindP (ok_r_copies _  hI_s) (fun s1 hc_1 => ?_)
  have hI_s1 : InvR s1 := hc_1.1
  have hFc_s1 : FrR [45, 144] s s1 := hc_1.2
  have hF_s1 : FrR [42, 45, 140, 141, 144] s0 s1 := hF_s.trans hFc_s1 (by decide)
  refine ok_bindI (ok_r_bestFor _ _ hI_s1 (hB.fr hF_s1 (by decide)) (by decide) (by decide)) (fun r3 s2 hc_2 => ?_)
  have hI_s2 : InvR s2 := hc_2.1
  have hFc_s2 : FrR [42, 140, 141] s1 s2 := hc_2.2.1
  have hF_s2 : FrR [42, 45, 140, 141, 144] s0 s2 := hF_s1.trans hFc_s2 (by decide)
  have hl_r3 : -2 ≤ r3.toInt := hc_2.2.2.1
  have hu_r3 : r3.toInt ≤ 194400 := hc_2.2.2.2
  exact ok_some ⟨hI_s2, hF_s2, by show -2 ≤ (r3).toInt; omega, by show (r3).toInt ≤ 194400; omega⟩
theorem ok_r_likeliest (s : RS) (hI_s : InvR s) (hB : Big s) : Ok (r_likeliest s) (Q_r_likeliest s) := ok_r_likeliestB s hB s hI_s FrR.rfl
abbrev Q_r_bears (s0 : RS) (y : Int32 × RS) : Prop := InvR y.2 ∧ FrR [42, 45, 140, 141, 144] s0 y.2 ∧ -1 ≤ y.1.toInt ∧ y.1.toInt ≤ 5
set_option maxHeartbeats 1000000 in
theorem ok_r_bearsB (s0 : RS) (hB : Big s0)  (s : RS) (x1 : Int32) (x2 : Int32) (hI_s : InvR s) (hF_s : FrR [42, 45, 140, 141, 144] s0 s)  : Ok (r_bears  s x1 x2) (Q_r_bears s0) := by
  unfold r_bears
  refine ok_bindI (ok_r_isParty _ _ hI_s) (fun r2 s1 hc_1 => ?_)
  have hI_s1 : InvR s1 := hc_1.1
  have hFc_s1 : FrR [] s s1 := hc_1.2.1
  have hF_s1 : FrR [42, 45, 140, 141, 144] s0 s1 := hF_s.trans hFc_s1 (by decide)
  have hl_r2 : 0 ≤ r2.toInt := hc_1.2.2.1
  have hu_r2 : r2.toInt ≤ 1 := hc_1.2.2.2.1
  have hx0_r2 : (¬ r2.toInt = 0 → 0 ≤ (x1).toInt ∧ (x1).toInt ≤ 5) := hc_1.2.2.2.2
  refine ok_ite (fun c_2 => ?_) (fun c_2 => ?_)
  · have c_2 := tn_eq (a := (r2).toInt) (b := 0) rfl (by decide) c_2
    exact ok_some ⟨hI_s1, hF_s1, by show -1 ≤ ((-1) : Int32).toInt; decide, by show ((-1) : Int32).toInt ≤ 5; decide⟩
  · have c_2 := tn_ne (a := (r2).toInt) (b := 0) rfl (by decide) c_2
    refine ok_bindI (ok_r_isGuess _ _ hI_s1 (hB.fr hF_s1 (by decide))) (fun r5 s4 hc_3 => ?_)
    have hI_s4 : InvR s4 := hc_3.1
    have hFc_s4 : FrR [] s1 s4 := hc_3.2.1
    have hF_s4 : FrR [42, 45, 140, 141, 144] s0 s4 := hF_s1.trans hFc_s4 (by decide)
    have hl_r5 : 0 ≤ r5.toInt := hc_3.2.2.1
    have hu_r5 : r5.toInt ≤ 1 := hc_3.2.2.2.1
    have hx0_r5 : (¬ r5.toInt = 0 → 0 ≤ (x2).toInt ∧ (x2).toInt ≤ 7775) := hc_3.2.2.2.2
    refine ok_ite (fun c_4 => ?_) (fun c_4 => ?_)
    · have c_4 := tn_eq (a := (r5).toInt) (b := 0) rfl (by decide) c_4
      exact ok_some ⟨hI_s4, hF_s4, by show -1 ≤ ((-1) : Int32).toInt; decide, by show ((-1) : Int32).toInt ≤ 5; decide⟩
    · have c_4 := tn_ne (a := (r5).toInt) (b := 0) rfl (by decide) c_4
      refine ok_bindP (ok_r_copies _  hI_s4) (fun s7 hc_5 => ?_)
      have hI_s7 : InvR s7 := hc_5.1
      have hFc_s7 : FrR [45, 144] s4 s7 := hc_5.2
      have hF_s7 : FrR [42, 45, 140, 141, 144] s0 s7 := hF_s4.trans hFc_s7 (by decide)
      refine ok_bindI (ok_r_bearsBy _ _ _ hI_s7 (hB.fr hF_s7 (by decide)) (by omega) (by omega) (by omega) (by omega)) (fun r9 s8 hc_6 => ?_)
      have hI_s8 : InvR s8 := hc_6.1
      have hFc_s8 : FrR [42, 140, 141] s7 s8 := hc_6.2.1
      have hF_s8 : FrR [42, 45, 140, 141, 144] s0 s8 := hF_s7.trans hFc_s8 (by decide)
      have hl_r9 : 0 ≤ r9.toInt := hc_6.2.2.1
      have hu_r9 : r9.toInt ≤ 5 := hc_6.2.2.2
      exact ok_some ⟨hI_s8, hF_s8, by show -1 ≤ (r9).toInt; omega, by show (r9).toInt ≤ 5; omega⟩
theorem ok_r_bears (s : RS) (x1 : Int32) (x2 : Int32) (hI_s : InvR s) (hB : Big s) : Ok (r_bears s x1 x2) (Q_r_bears s) := ok_r_bearsB s hB s x1 x2 hI_s FrR.rfl
abbrev Q_r_safest (s0 : RS) (y : Int32 × RS) : Prop := InvR y.2 ∧ FrR [42, 45, 140, 141, 144] s0 y.2 ∧ -2 ≤ y.1.toInt ∧ y.1.toInt ≤ 194400
set_option maxHeartbeats 1000000 in
theorem ok_r_safestB (s0 : RS) (hB : Big s0)  (s : RS) (x1 : Int32) (hI_s : InvR s) (hF_s : FrR [42, 45, 140, 141, 144] s0 s)  : Ok (r_safest  s x1) (Q_r_safest s0) := by
  unfold r_safest
  refine ok_bindI (ok_r_isParty _ _ hI_s) (fun r2 s1 hc_1 => ?_)
  have hI_s1 : InvR s1 := hc_1.1
  have hFc_s1 : FrR [] s s1 := hc_1.2.1
  have hF_s1 : FrR [42, 45, 140, 141, 144] s0 s1 := hF_s.trans hFc_s1 (by decide)
  have hl_r2 : 0 ≤ r2.toInt := hc_1.2.2.1
  have hu_r2 : r2.toInt ≤ 1 := hc_1.2.2.2.1
  have hx0_r2 : (¬ r2.toInt = 0 → 0 ≤ (x1).toInt ∧ (x1).toInt ≤ 5) := hc_1.2.2.2.2
  refine ok_ite (fun c_2 => ?_) (fun c_2 => ?_)
  · have c_2 := tn_eq (a := (r2).toInt) (b := 0) rfl (by decide) c_2
    exact ok_some ⟨hI_s1, hF_s1, by show -2 ≤ ((-1) : Int32).toInt; decide, by show ((-1) : Int32).toInt ≤ 194400; decide⟩
  · have c_2 := tn_ne (a := (r2).toInt) (b := 0) rfl (by decide) c_2
    refine ok_bindP (ok_r_copies _  hI_s1) (fun s4 hc_3 => ?_)
    have hI_s4 : InvR s4 := hc_3.1
    have hFc_s4 : FrR [45, 144] s1 s4 := hc_3.2
    have hF_s4 : FrR [42, 45, 140, 141, 144] s0 s4 := hF_s1.trans hFc_s4 (by decide)
    refine ok_bindI (ok_r_bestFor _ _ hI_s4 (hB.fr hF_s4 (by decide)) (by omega) (by omega)) (fun r6 s5 hc_4 => ?_)
    have hI_s5 : InvR s5 := hc_4.1
    have hFc_s5 : FrR [42, 140, 141] s4 s5 := hc_4.2.1
    have hF_s5 : FrR [42, 45, 140, 141, 144] s0 s5 := hF_s4.trans hFc_s5 (by decide)
    have hl_r6 : -2 ≤ r6.toInt := hc_4.2.2.1
    have hu_r6 : r6.toInt ≤ 194400 := hc_4.2.2.2
    exact ok_some ⟨hI_s5, hF_s5, by show -2 ≤ (r6).toInt; omega, by show (r6).toInt ≤ 194400; omega⟩
theorem ok_r_safest (s : RS) (x1 : Int32) (hI_s : InvR s) (hB : Big s) : Ok (r_safest s x1) (Q_r_safest s) := ok_r_safestB s hB s x1 hI_s FrR.rfl
abbrev Q_r_enough (s0 : RS) (y : Int32 × RS) : Prop := InvR y.2 ∧ FrR [45, 144] s0 y.2 ∧ -2147483648 ≤ y.1.toInt ∧ y.1.toInt ≤ 2147483647
set_option maxHeartbeats 1000000 in
theorem ok_r_enough_18 (s0 : RS) (k18 : RS → Int32 → Int32 → Option (Int32 × RS)) (M18 : Nat) (hk18 : ∀ (s : RS) (x1 : Int32) (x2 : Int32), InvR s → FrR [45, 144] s0 s → 0 ≤ x2.toInt → x2.toInt ≤ 5 → (5 - x2.toInt).toNat < M18 → Ok (k18 s x1 x2) (Q_r_enough s0)) (s : RS) (x1 : Int32) (x2 : Int32) (hI_s : InvR s) (hF_s : FrR [45, 144] s0 s) (h_x2l : 0 ≤ x2.toInt) (h_x2u : x2.toInt ≤ 5) (hM18 : (5 - x2.toInt).toNat ≤ M18) : Ok (r_enough_18 k18 s x1 x2) (Q_r_enough s0) := by
  unfold r_enough_18
  have a_1 : 0 ≤ (s.v 18).toInt ∧ (s.v 18).toInt ≤ 1 := hI_s.1 18
  refine ok_grd (vpb_ok (by omega) (by omega)) ?_
  have a_2 : ((s.f 20 (Int32.toNatClampNeg (s.v 18)))).toInt = wv s0 := wv_fr hF_s (by decide) (by decide)
  have a_3 : 0 ≤ ((s.f 20 (Int32.toNatClampNeg (s.v 18)))).toInt ∧ ((s.f 20 (Int32.toNatClampNeg (s.v 18)))).toInt ≤ 5 := hI_s.2 20 _
  refine ok_ite (fun c_4 => ?_) (fun c_4 => ?_)
  · have c_4 := tn_le (a := ((s.f 20 (Int32.toNatClampNeg (s.v 18)))).toInt) (b := (x2).toInt) rfl rfl c_4
    exact ok_some ⟨hI_s, hF_s, (ti_rng _).1, (ti_rng _).2⟩
  · have c_4 := tn_nle (a := ((s.f 20 (Int32.toNatClampNeg (s.v 18)))).toInt) (b := (x2).toInt) rfl rfl c_4
    refine ok_bindI (ok_r_mayAt _ _ hI_s (by omega) (by omega)) (fun r4 s3 hc_5 => ?_)
    have hI_s3 : InvR s3 := hc_5.1
    have hFc_s3 : FrR [] s s3 := hc_5.2.1
    have hF_s3 : FrR [45, 144] s0 s3 := hF_s.trans hFc_s3 (by decide)
    refine ok_bindP (ok_r_bits _ ) (fun r5 hc_6 => ?_)
    have hl_r5 : 0 ≤ r5.toInt := hc_6.1
    have hu_r5 : r5.toInt ≤ 6 := hc_6.2
    have a_7 : ((r5 - 1)).toInt = (r5).toInt - 1 := tn_sub rfl (by decide) (by omega) (by omega)
    have a_8 : ((x2 + 1)).toInt = (x2).toInt + 1 := tn_add rfl (by decide) (by omega) (by omega)
    exact hk18 _ _ _ hI_s3 hF_s3 (by omega) (by omega) (by omega)
theorem okL_r_enough_18 (s0 : RS)  : ∀ (n : Nat) (s : RS) (x1 : Int32) (x2 : Int32), (5 - x2.toInt).toNat < n → InvR s → FrR [45, 144] s0 s → 0 ≤ x2.toInt → x2.toInt ≤ 5 → Ok (r_enough_18L  n s x1 x2) (Q_r_enough s0) := by
  intro n
  induction n with
  | zero => intro s x1 x2 hn; omega
  | succ n ih =>
    intro s x1 x2 hn hI_s hF_s h_x2l h_x2u 
    exact ok_r_enough_18 s0 (r_enough_18L  n) ((5 - x2.toInt).toNat) (fun zs zx1 zx2 g0 g1 g2 g3  hm => ih zs zx1 zx2 (by omega) g0 g1 g2 g3 ) s x1 x2 hI_s hF_s h_x2l h_x2u (Nat.le_refl _)
set_option maxHeartbeats 1000000 in
theorem ok_r_enoughB (s0 : RS)  (s : RS) (hI_s : InvR s) (hF_s : FrR [45, 144] s0 s)  : Ok (r_enough  s) (Q_r_enough s0) := by
  unfold r_enough
  refine ok_bindP (ok_r_copies _  hI_s) (fun s1 hc_1 => ?_)
  have hI_s1 : InvR s1 := hc_1.1
  have hFc_s1 : FrR [45, 144] s s1 := hc_1.2
  have hF_s1 : FrR [45, 144] s0 s1 := hF_s.trans hFc_s1 (by decide)
  refine ok_bindI (ok_r_casesNow _  hI_s1) (fun r3 s2 hc_2 => ?_)
  have hI_s2 : InvR s2 := hc_2.1
  have hFc_s2 : FrR [] s1 s2 := hc_2.2.1
  have hF_s2 : FrR [45, 144] s0 s2 := hF_s1.trans hFc_s2 (by decide)
  refine ok_ite (fun c_3 => ?_) (fun c_3 => ?_)
  · have c_3 := tn_eq (a := (r3).toInt) (b := 0) rfl (by decide) c_3
    exact ok_some ⟨hI_s2, hF_s2, (ti_rng _).1, (ti_rng _).2⟩
  · have c_3 := tn_ne (a := (r3).toInt) (b := 0) rfl (by decide) c_3
    have l_1 : (1 : Int32).toInt = 1 := by decide
    have l_0 : (0 : Int32).toInt = 0 := by decide
    exact okL_r_enough_18 s0  fu _ _ _ (by unfold fu; omega) hI_s2 hF_s2 (by decide) (by decide) 
theorem ok_r_enough (s : RS) (hI_s : InvR s) : Ok (r_enough s) (Q_r_enough s) := ok_r_enoughB s s hI_s FrR.rfl
theorem bindI_some {σ α : Type} {r : Int32} {s : σ} {k : Int32 → σ → Option α} : bindI (some (r, s)) k = k r s := rfl
theorem bindP_some {τ α : Type} {r : τ} {k : τ → Option α} : bindP (some r) k = k r := rfl
/-- over each wave something may be -/
def NZ (s : RS) : Prop := ∀ (w r b : Int32) (s' : RS), 0 ≤ w.toInt → w.toInt < wv s → r_mayAt s w = some (r, s') → r_bits r = some b → ¬ b = 0
theorem nz_L (s : RS) (hI : InvR s) : ∀ (n : Nat) (x1 x2 c : Int32) (s' : RS), 0 ≤ x2.toInt → x2.toInt ≤ 5 → r_casesNow_4L n s x1 x2 = some (c, s') → ¬ c = 0 → ¬ x1 = 0 ∧ ∀ (w r b : Int32) (s2 : RS), x2.toInt ≤ w.toInt → w.toInt < wv s → r_mayAt s w = some (r, s2) → r_bits r = some b → ¬ b = 0 := by
  intro n
  have hwv : 0 ≤ (s.f 20 (s.v 18).toNatClampNeg).toInt ∧ (s.f 20 (s.v 18).toNatClampNeg).toInt ≤ 5 := hI.2 20 _
  induction n with
  | zero => intro x1 x2 c s' _ _ h; cases h
  | succ n ih =>
    intro x1 x2 c s' h0 h5 h hc
    replace h : r_casesNow_4 (r_casesNow_4L n) s x1 x2 = some (c, s') := h
    unfold r_casesNow_4 at h
    obtain ⟨_, h⟩ := guard_inv h
    by_cases hx : (s.f 20 (Int32.toNatClampNeg (s.v 18))) ≤ x2
    · have h := if_p h hx
      cases h
      refine ⟨hc, fun w r b s2 hw hw2 => ?_⟩
      have := ti_le hx
      unfold wv at hw2
      omega
    · have h := if_n h hx
      have hx := ti_nle hx
      obtain ⟨r4, s3, e1, h⟩ := bindI_inv h
      obtain ⟨r5, e2, h⟩ := bindP_inv h
      obtain ⟨⟨r', s''⟩, e3, hm⟩ := ok_r_mayAt s x2 hI (by omega) (by omega)
      rw [e3] at e1
      cases e1
      obtain rfl : s = s3 := (FrR.eq hm.2.1).symm
      have l1 : (1 : Int32).toInt = 1 := by decide
      have a1 : (x2 + 1).toInt = x2.toInt + (1 : Int32).toInt := ti_add (by omega) (by omega)
      obtain ⟨g1, g2⟩ := ih (x1 * r5) (x2 + 1) c s' (by omega) (by omega) h hc
      refine ⟨fun q => g1 (by rw [q, Int32.zero_mul]), fun w r b s2 hw hw2 k1 k2 => ?_⟩
      by_cases hww : w.toInt = x2.toInt
      · obtain rfl : w = x2 := Int32.toInt_inj.mp hww
        rw [e3] at k1
        cases k1
        rw [e2] at k2
        cases k2
        exact fun q => g1 (by rw [q, Int32.mul_zero])
      · exact g2 w r b s2 (by omega) hw2 k1 k2
theorem nz_cases {s s' : RS} {c : Int32} (hI : InvR s) (h : r_casesNow s = some (c, s')) (hc : ¬ c = 0) : NZ s := by
  have l0 : (0 : Int32).toInt = 0 := by decide
  intro w r b s2 hw hw2 k1 k2
  exact (nz_L s hI fu 1 0 c s' (by omega) (by omega) h hc).2 w r b s2 (by omega) hw2 k1 k2
abbrev Q_r_leftOf (s0 : RS) (y : Int32 × RS) : Prop := InvR y.2 ∧ FrR [] s0 y.2 ∧ -2147483648 ≤ y.1.toInt ∧ y.1.toInt ≤ 2147483647
theorem ok_leftOf_L (s : RS) (hI : InvR s) (hB : Big s) (hZ : NZ s) (x1 : Int32) (h10 : 0 ≤ x1.toInt) (h17 : x1.toInt ≤ 7775) : ∀ (n : Nat) (x2 x3 x4 : Int32), (5 - x4.toInt).toNat < n → 0 ≤ x4.toInt → x4.toInt ≤ 5 → Ok (r_leftOf_10L n s x1 x2 x3 x4) (Q_r_leftOf s) := by
  intro n
  have hwv : 0 ≤ (s.f 20 (s.v 18).toNatClampNeg).toInt ∧ (s.f 20 (s.v 18).toNatClampNeg).toInt ≤ 5 := hI.2 20 _
  have hl : 0 ≤ (s.v 18).toInt ∧ (s.v 18).toInt ≤ 1 := hI.1 18
  induction n with
  | zero => intro x2 x3 x4 h; omega
  | succ n ih =>
    intro x2 x3 x4 hn h0 h5
    show Ok (r_leftOf_10 (r_leftOf_10L n) s x1 x2 x3 x4) _
    unfold r_leftOf_10
    have l1 : (1 : Int32).toInt = 1 := by decide
    refine ok_grd (vpb_ok (by omega) (by omega)) ?_
    refine ok_ite (fun c => ?_) (fun c => ?_)
    · exact ok_ite (fun _ => ok_some ⟨hI, FrR.rfl, (ti_rng _).1, (ti_rng _).2⟩) (fun _ => ok_some ⟨hI, FrR.rfl, (ti_rng _).1, (ti_rng _).2⟩)
    · have c := ti_nle c
      obtain ⟨⟨r5, s4⟩, e1, hm⟩ := ok_r_mayAt s x4 hI (by omega) (by omega)
      rw [e1, bindI_some]
      obtain rfl : s = s4 := (FrR.eq hm.2.1).symm
      obtain ⟨r6, e2, hb⟩ := ok_r_bits r5
      rw [e2, bindP_some]
      have hz : ¬ r6 = 0 := hZ x4 r5 r6 s h0 (by unfold wv; omega) e1 e2
      refine ok_grd hz ?_
      refine ok_bindI (ok_r_thingAt s x1 x4 hI hB (by omega) (by omega) (by omega) (by omega)) (fun r9 s8 hc => ?_)
      obtain rfl : s = s8 := (FrR.eq hc.2.1).symm
      refine ok_bindP (ok_r_bits _) (fun r10 _ => ?_)
      have a1 : (x4 + 1).toInt = x4.toInt + (1 : Int32).toInt := ti_add (by omega) (by omega)
      have st : ∀ (y2 y3 : Int32), Ok (r_leftOf_72 (r_leftOf_10L n) s x1 y2 y3 x4 r5 r10) (Q_r_leftOf s) := by
        intro y2 y3
        unfold r_leftOf_72
        rw [e2, bindP_some]
        exact ok_ite (fun _ => ok_some ⟨hI, FrR.rfl, (ti_rng _).1, (ti_rng _).2⟩) (fun _ => ih _ _ _ (by omega) (by omega) (by omega))
      exact ok_ite (fun _ => st _ _) (fun _ => st _ _)
theorem ok_leftOf (s : RS) (x1 : Int32) (hI : InvR s) (hB : Big s) (hZ : NZ s) (h10 : 0 ≤ x1.toInt) (h17 : x1.toInt ≤ 7775) : Ok (r_leftOf s x1) (Q_r_leftOf s) := by
  unfold r_leftOf
  refine ok_bindI (ok_r_casesNow s hI) (fun r2 s1 hc => ?_)
  obtain rfl : s = s1 := (FrR.eq hc.2.1).symm
  have l0 : (0 : Int32).toInt = 0 := by decide
  exact ok_leftOf_L s hI hB hZ x1 h10 h17 fu _ _ _ (by unfold fu; omega) (by omega) (by omega)
abbrev Q_r_left (s0 : RS) (y : Int32 × RS) : Prop := InvR y.2 ∧ FrR [45, 144] s0 y.2 ∧ -2147483648 ≤ y.1.toInt ∧ y.1.toInt ≤ 2147483647
theorem ok_r_left (s : RS) (x1 : Int32) (hI : InvR s) (hB : Big s) : Ok (r_left s x1) (Q_r_left s) := by
  unfold r_left
  have l0 : (0 : Int32).toInt = 0 := by decide
  refine ok_bindI (ok_r_isGuess s x1 hI hB) (fun r2 s1 hc => ?_)
  obtain rfl : s = s1 := (FrR.eq hc.2.1).symm
  have hx : ¬ r2.toInt = 0 → 0 ≤ x1.toInt ∧ x1.toInt ≤ 7775 := hc.2.2.2.2
  refine ok_ite (fun _ => ok_some ⟨hI, FrR.rfl, (ti_rng _).1, (ti_rng _).2⟩) (fun c => ?_)
  have c := ti_ne c
  refine ok_bindP (ok_r_copies s hI) (fun s4 hc4 => ?_)
  have hB4 : Big s4 := hB.fr hc4.2 (by decide)
  obtain ⟨⟨r6, s5⟩, e1, hc5⟩ := ok_r_casesNow s4 hc4.1
  rw [e1, bindI_some]
  obtain rfl : s4 = s5 := (FrR.eq hc5.2.1).symm
  refine ok_ite (fun _ => ok_some ⟨hc4.1, hc4.2, (ti_rng _).1, (ti_rng _).2⟩) (fun c6 => ?_)
  refine ok_bindI (ok_leftOf s4 x1 hc4.1 hB4 (nz_cases hc4.1 e1 c6) (by omega) (by omega)) (fun r9 s8 hc8 => ?_)
  obtain rfl : s4 = s8 := (FrR.eq hc8.2.1).symm
  exact ok_some ⟨hc4.1, hc4.2, (ti_rng _).1, (ti_rng _).2⟩
abbrev Q_r_wisest (s0 : RS) (y : Int32 × RS) : Prop := InvR y.2 ∧ FrR [45, 144] s0 y.2 ∧ -2147483648 ≤ y.1.toInt ∧ y.1.toInt ≤ 2147483647
theorem ok_wisest_L (s0 s : RS) (hI : InvR s) (hB : Big s) (hZ : NZ s) (hF : FrR [45, 144] s0 s) (x1 : Int32) : ∀ (n : Nat) (x2 x3 x4 : Int32), (7776 - x4.toInt).toNat < n → 0 ≤ x4.toInt → x4.toInt ≤ 7776 → Ok (r_wisest_36L n s x1 x2 x3 x4) (Q_r_wisest s0) := by
  intro n
  induction n with
  | zero => intro x2 x3 x4 h; omega
  | succ n ih =>
    intro x2 x3 x4 hn h0 h7
    show Ok (r_wisest_36 (r_wisest_36L n) s x1 x2 x3 x4) _
    unfold r_wisest_36
    have l1 : (1 : Int32).toInt = 1 := by decide
    refine ok_bindI (ok_r_guesses s hI hB) (fun r2 s1 hc => ?_)
    obtain rfl : s = s1 := (FrR.eq hc.2.1).symm
    have hu : r2.toInt ≤ 7776 := hc.2.2.2
    refine ok_ite (fun _ => ?_) (fun c => ?_)
    · exact ok_ite (fun _ => ok_some ⟨hI, hF, (ti_rng _).1, (ti_rng _).2⟩) (fun _ => ok_some ⟨hI, hF, (ti_rng _).1, (ti_rng _).2⟩)
    · have c := ti_nle c
      refine ok_bindI (ok_leftOf s x4 hI hB hZ (by omega) (by omega)) (fun r6 s5 hc5 => ?_)
      obtain rfl : s = s5 := (FrR.eq hc5.2.1).symm
      have a1 : (x4 + 1).toInt = x4.toInt + (1 : Int32).toInt := ti_add (by omega) (by omega)
      have st : ∀ (y2 y3 : Int32), Ok (r_wisest_68 (r_wisest_36L n) s x1 y2 y3 x4) (Q_r_wisest s0) := by
        intro y2 y3
        unfold r_wisest_68
        exact ih _ _ _ (by omega) (by omega) (by omega)
      exact ok_ite (fun _ => st _ _) (fun _ => st _ _)
theorem ok_r_wisest (s : RS) (x1 : Int32) (hI : InvR s) (hB : Big s) : Ok (r_wisest s x1) (Q_r_wisest s) := by
  unfold r_wisest
  have l0 : (0 : Int32).toInt = 0 := by decide
  have l1 : (1 : Int32).toInt = 1 := by decide
  refine ok_bindP (ok_r_in x1 0 1 (by omega) (by omega) (by omega) (by omega)) (fun r1 _ => ?_)
  refine ok_ite (fun _ => ok_some ⟨hI, FrR.rfl, (ti_rng _).1, (ti_rng _).2⟩) (fun c => ?_)
  refine ok_bindP (ok_r_copies s hI) (fun s3 hc3 => ?_)
  have hB3 : Big s3 := hB.fr hc3.2 (by decide)
  obtain ⟨⟨r5, s4⟩, e1, hc4⟩ := ok_r_casesNow s3 hc3.1
  rw [e1, bindI_some]
  obtain rfl : s3 = s4 := (FrR.eq hc4.2.1).symm
  refine ok_ite (fun _ => ok_some ⟨hc3.1, hc3.2, (ti_rng _).1, (ti_rng _).2⟩) (fun c5 => ?_)
  have hZ := nz_cases hc3.1 e1 c5
  refine ok_bindI (ok_leftOf s3 0 hc3.1 hB3 hZ (by omega) (by omega)) (fun r8 s7 hc8 => ?_)
  obtain rfl : s3 = s7 := (FrR.eq hc8.2.1).symm
  exact ok_wisest_L s s3 hc3.1 hB3 hZ hc3.2 x1 fu _ _ _ (by unfold fu; omega) (by omega) (by omega)
abbrev Q_r_fillsChances (s0 : RS) (y : RS) : Prop := InvR y ∧ FrR [45, 144, 150] s0 y
set_option maxHeartbeats 1000000 in
theorem ok_r_fillsChances_6 (s0 : RS) (hB : Big s0) (k6 : RS → Int32 → Option (RS)) (M6 : Nat) (hk6 : ∀ (s : RS) (x1 : Int32), InvR s → FrR [45, 144, 150] s0 s → 0 ≤ x1.toInt → x1.toInt ≤ 7776 → (7776 - x1.toInt).toNat < M6 → Ok (k6 s x1) (Q_r_fillsChances s0)) (s : RS) (x1 : Int32) (hI_s : InvR s) (hF_s : FrR [45, 144, 150] s0 s) (h_x1l : 0 ≤ x1.toInt) (h_x1u : x1.toInt ≤ 7776) (hM6 : (7776 - x1.toInt).toNat ≤ M6) : Ok (r_fillsChances_6 k6 s x1) (Q_r_fillsChances s0) := by
  unfold r_fillsChances_6
  refine ok_bindI (ok_r_guesses _  hI_s (hB.fr hF_s (by decide))) (fun r2 s1 hc_1 => ?_)
  have hI_s1 : InvR s1 := hc_1.1
  have hFc_s1 : FrR [] s s1 := hc_1.2.1
  have hF_s1 : FrR [45, 144, 150] s0 s1 := hF_s.trans hFc_s1 (by decide)
  have hl_r2 : 1 ≤ r2.toInt := hc_1.2.2.1
  have hu_r2 : r2.toInt ≤ 7776 := hc_1.2.2.2
  refine ok_ite (fun c_2 => ?_) (fun c_2 => ?_)
  · have c_2 := tn_le (a := (r2).toInt) (b := (x1).toInt) rfl rfl c_2
    exact ok_some ⟨hI_s1, hF_s1⟩
  · have c_2 := tn_nle (a := (r2).toInt) (b := (x1).toInt) rfl rfl c_2
    refine ok_bindI (ok_r_chanceOf _ _ hI_s1 (hB.fr hF_s1 (by decide)) (by omega) (by omega)) (fun r5 s4 hc_3 => ?_)
    have hI_s4 : InvR s4 := hc_3.1
    have hFc_s4 : FrR [] s1 s4 := hc_3.2.1
    have hF_s4 : FrR [45, 144, 150] s0 s4 := hF_s1.trans hFc_s4 (by decide)
    refine ok_grd (vpb_ok (by omega) (by omega)) ?_
    refine ok_let (fun s7 hs7 => ?_)
    have hI_s7 : InvR s7 := by rw [← hs7]; exact hI_s4.sfF (k := 50) rfl rfl
    have hF_s7 : FrR [45, 144, 150] s0 s7 := by rw [← hs7]; exact hF_s4.sf (k := 50) (by decide)
    have a_4 : ((x1 + 1)).toInt = (x1).toInt + 1 := tn_add rfl (by decide) (by omega) (by omega)
    exact hk6 _ _ hI_s7 hF_s7 (by omega) (by omega) (by omega)
theorem okL_r_fillsChances_6 (s0 : RS) (hB : Big s0)  : ∀ (n : Nat) (s : RS) (x1 : Int32), (7776 - x1.toInt).toNat < n → InvR s → FrR [45, 144, 150] s0 s → 0 ≤ x1.toInt → x1.toInt ≤ 7776 → Ok (r_fillsChances_6L  n s x1) (Q_r_fillsChances s0) := by
  intro n
  induction n with
  | zero => intro s x1 hn; omega
  | succ n ih =>
    intro s x1 hn hI_s hF_s h_x1l h_x1u 
    exact ok_r_fillsChances_6 s0 hB (r_fillsChances_6L  n) ((7776 - x1.toInt).toNat) (fun zs zx1 g0 g1 g2 g3  hm => ih zs zx1 (by omega) g0 g1 g2 g3 ) s x1 hI_s hF_s h_x1l h_x1u (Nat.le_refl _)
set_option maxHeartbeats 1000000 in
theorem ok_r_fillsChancesB (s0 : RS) (hB : Big s0)  (s : RS) (hI_s : InvR s) (hF_s : FrR [45, 144, 150] s0 s)  : Ok (r_fillsChances  s) (Q_r_fillsChances s0) := by
  unfold r_fillsChances
  refine ok_bindP (ok_r_copies _  hI_s) (fun s1 hc_1 => ?_)
  have hI_s1 : InvR s1 := hc_1.1
  have hFc_s1 : FrR [45, 144] s s1 := hc_1.2
  have hF_s1 : FrR [45, 144, 150] s0 s1 := hF_s.trans hFc_s1 (by decide)
  have l_0 : (0 : Int32).toInt = 0 := by decide
  exact okL_r_fillsChances_6 s0 hB  fu _ _ (by unfold fu; omega) hI_s1 hF_s1 (by decide) (by decide) 
theorem ok_r_fillsChances (s : RS) (hI_s : InvR s) (hB : Big s) : Ok (r_fillsChances s) (Q_r_fillsChances s) := ok_r_fillsChancesB s hB s hI_s FrR.rfl
abbrev Q_r_isAhead (s0 : RS) (y : Int32 × RS) : Prop := InvR y.2 ∧ FrR [] s0 y.2 ∧ 0 ≤ y.1.toInt ∧ y.1.toInt ≤ 1
set_option maxHeartbeats 1000000 in
theorem ok_r_isAheadB (s0 : RS)  (s : RS) (x1 : Int32) (x2 : Int32) (hI_s : InvR s) (hF_s : FrR [] s0 s) (h_x1l : 0 ≤ x1.toInt) (h_x1u : x1.toInt ≤ 7775) (h_x2l : 0 ≤ x2.toInt) (h_x2u : x2.toInt ≤ 7775)  : Ok (r_isAhead  s x1 x2) (Q_r_isAhead s0) := by
  unfold r_isAhead
  refine ok_grd (vpb_ok (by omega) (by omega)) ?_
  refine ok_grd (vpb_ok (by omega) (by omega)) ?_
  refine ok_ite (fun c_1 => ?_) (fun c_1 => ?_)
  · have c_1 := tn_lt (a := ((s.f 50 (Int32.toNatClampNeg x2))).toInt) (b := ((s.f 50 (Int32.toNatClampNeg x1))).toInt) rfl rfl c_1
    exact ok_some ⟨hI_s, hF_s, by show 0 ≤ (1 : Int32).toInt; decide, by show (1 : Int32).toInt ≤ 1; decide⟩
  · have c_1 := tn_nlt (a := ((s.f 50 (Int32.toNatClampNeg x2))).toInt) (b := ((s.f 50 (Int32.toNatClampNeg x1))).toInt) rfl rfl c_1
    refine ok_grd (vpb_ok (by omega) (by omega)) ?_
    refine ok_grd (vpb_ok (by omega) (by omega)) ?_
    refine ok_ite (fun c_2 => ?_) (fun c_2 => ?_)
    · have c_2 := tn_eq (a := ((s.f 50 (Int32.toNatClampNeg x1))).toInt) (b := ((s.f 50 (Int32.toNatClampNeg x2))).toInt) rfl rfl c_2
      refine ok_ite (fun c_3 => ?_) (fun c_3 => ?_)
      · have c_3 := tn_le (a := (x2).toInt) (b := (x1).toInt) rfl rfl c_3
        exact ok_some ⟨hI_s, hF_s, by show 0 ≤ (0 : Int32).toInt; decide, by show (0 : Int32).toInt ≤ 1; decide⟩
      · have c_3 := tn_nle (a := (x2).toInt) (b := (x1).toInt) rfl rfl c_3
        exact ok_some ⟨hI_s, hF_s, by show 0 ≤ (1 : Int32).toInt; decide, by show (1 : Int32).toInt ≤ 1; decide⟩
    · have c_2 := tn_ne (a := ((s.f 50 (Int32.toNatClampNeg x1))).toInt) (b := ((s.f 50 (Int32.toNatClampNeg x2))).toInt) rfl rfl c_2
      exact ok_some ⟨hI_s, hF_s, by show 0 ≤ (0 : Int32).toInt; decide, by show (0 : Int32).toInt ≤ 1; decide⟩
theorem ok_r_isAhead (s : RS) (x1 : Int32) (x2 : Int32) (hI_s : InvR s) (h_x1l : 0 ≤ x1.toInt) (h_x1u : x1.toInt ≤ 7775) (h_x2l : 0 ≤ x2.toInt) (h_x2u : x2.toInt ≤ 7775) : Ok (r_isAhead s x1 x2) (Q_r_isAhead s) := ok_r_isAheadB s s x1 x2 hI_s FrR.rfl h_x1l h_x1u h_x2l h_x2u
abbrev Q_r_rank (s0 : RS) (y : Int32 × RS) : Prop := InvR y.2 ∧ FrR [45, 144, 150] s0 y.2 ∧ -2147483648 ≤ y.1.toInt ∧ y.1.toInt ≤ 2147483647
set_option maxHeartbeats 1000000 in
theorem ok_r_rank_49 (s0 : RS) (hB : Big s0) (k29 : RS → Int32 → Int32 → Int32 → Option (Int32 × RS)) (M29 : Nat) (hk29 : ∀ (s : RS) (x1 : Int32) (x2 : Int32) (x3 : Int32), InvR s → FrR [45, 144, 150] s0 s → 0 ≤ x1.toInt → x1.toInt ≤ 7775 → 0 ≤ x3.toInt → x3.toInt ≤ 7776 → (7776 - x3.toInt).toNat < M29 → Ok (k29 s x1 x2 x3) (Q_r_rank s0)) (s : RS) (x1 : Int32) (x2 : Int32) (x3 : Int32) (hI_s : InvR s) (hF_s : FrR [45, 144, 150] s0 s) (h_x1l : 0 ≤ x1.toInt) (h_x1u : x1.toInt ≤ 7775) (h_x3l : 0 ≤ x3.toInt) (h_x3u : x3.toInt ≤ 7775) (hM29 : (7776 - x3.toInt).toNat ≤ M29) : Ok (r_rank_49 k29 s x1 x2 x3) (Q_r_rank s0) := by
  unfold r_rank_49
  have a_1 : ((x3 + 1)).toInt = (x3).toInt + 1 := tn_add rfl (by decide) (by omega) (by omega)
  exact hk29 _ _ _ _ hI_s hF_s (by omega) (by omega) (by omega) (by omega) (by omega)
set_option maxHeartbeats 1000000 in
theorem ok_r_rank_29 (s0 : RS) (hB : Big s0) (k29 : RS → Int32 → Int32 → Int32 → Option (Int32 × RS)) (M29 : Nat) (hk29 : ∀ (s : RS) (x1 : Int32) (x2 : Int32) (x3 : Int32), InvR s → FrR [45, 144, 150] s0 s → 0 ≤ x1.toInt → x1.toInt ≤ 7775 → 0 ≤ x3.toInt → x3.toInt ≤ 7776 → (7776 - x3.toInt).toNat < M29 → Ok (k29 s x1 x2 x3) (Q_r_rank s0)) (s : RS) (x1 : Int32) (x2 : Int32) (x3 : Int32) (hI_s : InvR s) (hF_s : FrR [45, 144, 150] s0 s) (h_x1l : 0 ≤ x1.toInt) (h_x1u : x1.toInt ≤ 7775) (h_x3l : 0 ≤ x3.toInt) (h_x3u : x3.toInt ≤ 7776) (hM29 : (7776 - x3.toInt).toNat ≤ M29) : Ok (r_rank_29 k29 s x1 x2 x3) (Q_r_rank s0) := by
  unfold r_rank_29
  refine ok_bindI (ok_r_guesses _  hI_s (hB.fr hF_s (by decide))) (fun r2 s1 hc_1 => ?_)
  have hI_s1 : InvR s1 := hc_1.1
  have hFc_s1 : FrR [] s s1 := hc_1.2.1
  have hF_s1 : FrR [45, 144, 150] s0 s1 := hF_s.trans hFc_s1 (by decide)
  have hl_r2 : 1 ≤ r2.toInt := hc_1.2.2.1
  have hu_r2 : r2.toInt ≤ 7776 := hc_1.2.2.2
  refine ok_ite (fun c_2 => ?_) (fun c_2 => ?_)
  · have c_2 := tn_le (a := (r2).toInt) (b := (x3).toInt) rfl rfl c_2
    exact ok_some ⟨hI_s1, hF_s1, (ti_rng _).1, (ti_rng _).2⟩
  · have c_2 := tn_nle (a := (r2).toInt) (b := (x3).toInt) rfl rfl c_2
    refine ok_bindI (ok_r_isAhead _ _ _ hI_s1 (by omega) (by omega) (by omega) (by omega)) (fun r5 s4 hc_3 => ?_)
    have hI_s4 : InvR s4 := hc_3.1
    have hFc_s4 : FrR [] s1 s4 := hc_3.2.1
    have hF_s4 : FrR [45, 144, 150] s0 s4 := hF_s1.trans hFc_s4 (by decide)
    have hl_r5 : 0 ≤ r5.toInt := hc_3.2.2.1
    have hu_r5 : r5.toInt ≤ 1 := hc_3.2.2.2
    refine ok_ite (fun c_4 => ?_) (fun c_4 => ?_)
    · have c_4 := tn_eq (a := (r5).toInt) (b := 0) rfl (by decide) c_4
      exact ok_r_rank_49 s0 hB k29 M29 hk29 _ _ _ _ hI_s4 hF_s4 (by omega) (by omega) (by omega) (by omega) (by omega)
    · have c_4 := tn_ne (a := (r5).toInt) (b := 0) rfl (by decide) c_4
      exact ok_r_rank_49 s0 hB k29 M29 hk29 _ _ _ _ hI_s4 hF_s4 (by omega) (by omega) (by omega) (by omega) (by omega)
theorem okL_r_rank_29 (s0 : RS) (hB : Big s0)  : ∀ (n : Nat) (s : RS) (x1 : Int32) (x2 : Int32) (x3 : Int32), (7776 - x3.toInt).toNat < n → InvR s → FrR [45, 144, 150] s0 s → 0 ≤ x1.toInt → x1.toInt ≤ 7775 → 0 ≤ x3.toInt → x3.toInt ≤ 7776 → Ok (r_rank_29L  n s x1 x2 x3) (Q_r_rank s0) := by
  intro n
  induction n with
  | zero => intro s x1 x2 x3 hn; omega
  | succ n ih =>
    intro s x1 x2 x3 hn hI_s hF_s h_x1l h_x1u h_x3l h_x3u 
    exact ok_r_rank_29 s0 hB (r_rank_29L  n) ((7776 - x3.toInt).toNat) (fun zs zx1 zx2 zx3 g0 g1 g2 g3 g4 g5  hm => ih zs zx1 zx2 zx3 (by omega) g0 g1 g2 g3 g4 g5 ) s x1 x2 x3 hI_s hF_s h_x1l h_x1u h_x3l h_x3u (Nat.le_refl _)
set_option maxHeartbeats 1000000 in
theorem ok_r_rankB (s0 : RS) (hB : Big s0)  (s : RS) (x1 : Int32) (hI_s : InvR s) (hF_s : FrR [45, 144, 150] s0 s)  : Ok (r_rank  s x1) (Q_r_rank s0) := by
  unfold r_rank
  refine ok_bindI (ok_r_isGuess _ _ hI_s (hB.fr hF_s (by decide))) (fun r2 s1 hc_1 => ?_)
  have hI_s1 : InvR s1 := hc_1.1
  have hFc_s1 : FrR [] s s1 := hc_1.2.1
  have hF_s1 : FrR [45, 144, 150] s0 s1 := hF_s.trans hFc_s1 (by decide)
  have hl_r2 : 0 ≤ r2.toInt := hc_1.2.2.1
  have hu_r2 : r2.toInt ≤ 1 := hc_1.2.2.2.1
  have hx0_r2 : (¬ r2.toInt = 0 → 0 ≤ (x1).toInt ∧ (x1).toInt ≤ 7775) := hc_1.2.2.2.2
  refine ok_ite (fun c_2 => ?_) (fun c_2 => ?_)
  · have c_2 := tn_eq (a := (r2).toInt) (b := 0) rfl (by decide) c_2
    exact ok_some ⟨hI_s1, hF_s1, (ti_rng _).1, (ti_rng _).2⟩
  · have c_2 := tn_ne (a := (r2).toInt) (b := 0) rfl (by decide) c_2
    refine ok_bindP (ok_r_fillsChances _  hI_s1 (hB.fr hF_s1 (by decide))) (fun s4 hc_3 => ?_)
    have hI_s4 : InvR s4 := hc_3.1
    have hFc_s4 : FrR [45, 144, 150] s1 s4 := hc_3.2
    have hF_s4 : FrR [45, 144, 150] s0 s4 := hF_s1.trans hFc_s4 (by decide)
    refine ok_bindI (ok_r_isCase _ _ hI_s4 (hB.fr hF_s4 (by decide)) (by omega) (by omega)) (fun r6 s5 hc_4 => ?_)
    have hI_s5 : InvR s5 := hc_4.1
    have hFc_s5 : FrR [] s4 s5 := hc_4.2.1
    have hF_s5 : FrR [45, 144, 150] s0 s5 := hF_s4.trans hFc_s5 (by decide)
    have hl_r6 : 0 ≤ r6.toInt := hc_4.2.2.1
    have hu_r6 : r6.toInt ≤ 1 := hc_4.2.2.2
    refine ok_ite (fun c_5 => ?_) (fun c_5 => ?_)
    · have c_5 := tn_eq (a := (r6).toInt) (b := 0) rfl (by decide) c_5
      exact ok_some ⟨hI_s5, hF_s5, (ti_rng _).1, (ti_rng _).2⟩
    · have c_5 := tn_ne (a := (r6).toInt) (b := 0) rfl (by decide) c_5
      have l_0 : (0 : Int32).toInt = 0 := by decide
      exact okL_r_rank_29 s0 hB  fu _ _ _ _ (by unfold fu; omega) hI_s5 hF_s5 (by omega) (by omega) (by decide) (by decide) 
theorem ok_r_rank (s : RS) (x1 : Int32) (hI_s : InvR s) (hB : Big s) : Ok (r_rank s x1) (Q_r_rank s) := ok_r_rankB s hB s x1 hI_s FrR.rfl
abbrev Q_r_ranked (s0 : RS) (y : Int32 × RS) : Prop := InvR y.2 ∧ FrR [45, 144, 150] s0 y.2 ∧ -1 ≤ y.1.toInt ∧ y.1.toInt ≤ 7775
set_option maxHeartbeats 1000000 in
theorem ok_r_ranked_84 (s0 : RS) (hB : Big s0) (k20 : RS → Int32 → Int32 → Int32 → Option (Int32 × RS)) (M20 : Nat) (hk20 : ∀ (s : RS) (x1 : Int32) (x2 : Int32) (x3 : Int32), InvR s → FrR [45, 144, 150] s0 s → 0 ≤ x1.toInt → x1.toInt ≤ 19 → -1 ≤ x2.toInt → x2.toInt ≤ 7775 → 0 ≤ x3.toInt → x3.toInt ≤ 20 → (20 - x3.toInt).toNat < M20 → Ok (k20 s x1 x2 x3) (Q_r_ranked s0)) (k31 : RS → Int32 → Int32 → Int32 → Int32 → Int32 → Option (Int32 × RS)) (M31 : Nat) (hk31 : ∀ (s : RS) (x1 : Int32) (x2 : Int32) (x3 : Int32) (x4 : Int32) (x5 : Int32), InvR s → FrR [45, 144, 150] s0 s → 0 ≤ x1.toInt → x1.toInt ≤ 19 → -1 ≤ x2.toInt → x2.toInt ≤ 7775 → 0 ≤ x3.toInt → x3.toInt ≤ 19 → -1 ≤ x4.toInt → x4.toInt ≤ 7775 → 0 ≤ x5.toInt → x5.toInt ≤ 7776 → (20 - x3.toInt).toNat ≤ M20 → (7776 - x5.toInt).toNat < M31 → Ok (k31 s x1 x2 x3 x4 x5) (Q_r_ranked s0)) (s : RS) (x1 : Int32) (x2 : Int32) (x3 : Int32) (x4 : Int32) (x5 : Int32) (hI_s : InvR s) (hF_s : FrR [45, 144, 150] s0 s) (h_x1l : 0 ≤ x1.toInt) (h_x1u : x1.toInt ≤ 19) (h_x2l : -1 ≤ x2.toInt) (h_x2u : x2.toInt ≤ 7775) (h_x3l : 0 ≤ x3.toInt) (h_x3u : x3.toInt ≤ 19) (h_x4l : -1 ≤ x4.toInt) (h_x4u : x4.toInt ≤ 7775) (h_x5l : 0 ≤ x5.toInt) (h_x5u : x5.toInt ≤ 7775) (hM20 : (20 - x3.toInt).toNat ≤ M20) (hM31 : (7776 - x5.toInt).toNat ≤ M31) : Ok (r_ranked_84 k20 k31 s x1 x2 x3 x4 x5) (Q_r_ranked s0) := by
  unfold r_ranked_84
  have a_1 : ((x5 + 1)).toInt = (x5).toInt + 1 := tn_add rfl (by decide) (by omega) (by omega)
  exact hk31 _ _ _ _ _ _ hI_s hF_s (by omega) (by omega) (by omega) (by omega) (by omega) (by omega) (by omega) (by omega) (by omega) (by omega) (by omega) (by omega)
set_option maxHeartbeats 1000000 in
theorem ok_r_ranked_80 (s0 : RS) (hB : Big s0) (k20 : RS → Int32 → Int32 → Int32 → Option (Int32 × RS)) (M20 : Nat) (hk20 : ∀ (s : RS) (x1 : Int32) (x2 : Int32) (x3 : Int32), InvR s → FrR [45, 144, 150] s0 s → 0 ≤ x1.toInt → x1.toInt ≤ 19 → -1 ≤ x2.toInt → x2.toInt ≤ 7775 → 0 ≤ x3.toInt → x3.toInt ≤ 20 → (20 - x3.toInt).toNat < M20 → Ok (k20 s x1 x2 x3) (Q_r_ranked s0)) (k31 : RS → Int32 → Int32 → Int32 → Int32 → Int32 → Option (Int32 × RS)) (M31 : Nat) (hk31 : ∀ (s : RS) (x1 : Int32) (x2 : Int32) (x3 : Int32) (x4 : Int32) (x5 : Int32), InvR s → FrR [45, 144, 150] s0 s → 0 ≤ x1.toInt → x1.toInt ≤ 19 → -1 ≤ x2.toInt → x2.toInt ≤ 7775 → 0 ≤ x3.toInt → x3.toInt ≤ 19 → -1 ≤ x4.toInt → x4.toInt ≤ 7775 → 0 ≤ x5.toInt → x5.toInt ≤ 7776 → (20 - x3.toInt).toNat ≤ M20 → (7776 - x5.toInt).toNat < M31 → Ok (k31 s x1 x2 x3 x4 x5) (Q_r_ranked s0)) (s : RS) (x1 : Int32) (x2 : Int32) (x3 : Int32) (x5 : Int32) (hI_s : InvR s) (hF_s : FrR [45, 144, 150] s0 s) (h_x1l : 0 ≤ x1.toInt) (h_x1u : x1.toInt ≤ 19) (h_x2l : -1 ≤ x2.toInt) (h_x2u : x2.toInt ≤ 7775) (h_x3l : 0 ≤ x3.toInt) (h_x3u : x3.toInt ≤ 19) (h_x5l : 0 ≤ x5.toInt) (h_x5u : x5.toInt ≤ 7775) (hM20 : (20 - x3.toInt).toNat ≤ M20) (hM31 : (7776 - x5.toInt).toNat ≤ M31) : Ok (r_ranked_80 k20 k31 s x1 x2 x3 x5) (Q_r_ranked s0) := by
  unfold r_ranked_80
  exact ok_r_ranked_84 s0 hB k20 M20 hk20 k31 M31 hk31 _ _ _ _ _ _ hI_s hF_s (by omega) (by omega) (by omega) (by omega) (by omega) (by omega) (by omega) (by omega) (by omega) (by omega) (by omega) (by omega)
set_option maxHeartbeats 1000000 in
theorem ok_r_ranked_64 (s0 : RS) (hB : Big s0) (k20 : RS → Int32 → Int32 → Int32 → Option (Int32 × RS)) (M20 : Nat) (hk20 : ∀ (s : RS) (x1 : Int32) (x2 : Int32) (x3 : Int32), InvR s → FrR [45, 144, 150] s0 s → 0 ≤ x1.toInt → x1.toInt ≤ 19 → -1 ≤ x2.toInt → x2.toInt ≤ 7775 → 0 ≤ x3.toInt → x3.toInt ≤ 20 → (20 - x3.toInt).toNat < M20 → Ok (k20 s x1 x2 x3) (Q_r_ranked s0)) (k31 : RS → Int32 → Int32 → Int32 → Int32 → Int32 → Option (Int32 × RS)) (M31 : Nat) (hk31 : ∀ (s : RS) (x1 : Int32) (x2 : Int32) (x3 : Int32) (x4 : Int32) (x5 : Int32), InvR s → FrR [45, 144, 150] s0 s → 0 ≤ x1.toInt → x1.toInt ≤ 19 → -1 ≤ x2.toInt → x2.toInt ≤ 7775 → 0 ≤ x3.toInt → x3.toInt ≤ 19 → -1 ≤ x4.toInt → x4.toInt ≤ 7775 → 0 ≤ x5.toInt → x5.toInt ≤ 7776 → (20 - x3.toInt).toNat ≤ M20 → (7776 - x5.toInt).toNat < M31 → Ok (k31 s x1 x2 x3 x4 x5) (Q_r_ranked s0)) (s : RS) (x1 : Int32) (x2 : Int32) (x3 : Int32) (x4 : Int32) (x5 : Int32) (hI_s : InvR s) (hF_s : FrR [45, 144, 150] s0 s) (h_x1l : 0 ≤ x1.toInt) (h_x1u : x1.toInt ≤ 19) (h_x2l : -1 ≤ x2.toInt) (h_x2u : x2.toInt ≤ 7775) (h_x3l : 0 ≤ x3.toInt) (h_x3u : x3.toInt ≤ 19) (h_x4l : -1 ≤ x4.toInt) (h_x4u : x4.toInt ≤ 7775) (h_x5l : 0 ≤ x5.toInt) (h_x5u : x5.toInt ≤ 7775) (hM20 : (20 - x3.toInt).toNat ≤ M20) (hM31 : (7776 - x5.toInt).toNat ≤ M31) : Ok (r_ranked_64 k20 k31 s x1 x2 x3 x4 x5) (Q_r_ranked s0) := by
  unfold r_ranked_64
  refine ok_ite (fun c_1 => ?_) (fun c_1 => ?_)
  · have c_1 := tn_lt (a := (x4).toInt) (b := 0) rfl (by decide) c_1
    exact ok_r_ranked_80 s0 hB k20 M20 hk20 k31 M31 hk31 _ _ _ _ _ hI_s hF_s (by omega) (by omega) (by omega) (by omega) (by omega) (by omega) (by omega) (by omega) (by omega) (by omega)
  · have c_1 := tn_nlt (a := (x4).toInt) (b := 0) rfl (by decide) c_1
    refine ok_bindI (ok_r_isAhead _ _ _ hI_s (by omega) (by omega) (by omega) (by omega)) (fun r3 s2 hc_2 => ?_)
    have hI_s2 : InvR s2 := hc_2.1
    have hFc_s2 : FrR [] s s2 := hc_2.2.1
    have hF_s2 : FrR [45, 144, 150] s0 s2 := hF_s.trans hFc_s2 (by decide)
    have hl_r3 : 0 ≤ r3.toInt := hc_2.2.2.1
    have hu_r3 : r3.toInt ≤ 1 := hc_2.2.2.2
    refine ok_ite (fun c_3 => ?_) (fun c_3 => ?_)
    · have c_3 := tn_eq (a := (r3).toInt) (b := 0) rfl (by decide) c_3
      exact ok_r_ranked_84 s0 hB k20 M20 hk20 k31 M31 hk31 _ _ _ _ _ _ hI_s2 hF_s2 (by omega) (by omega) (by omega) (by omega) (by omega) (by omega) (by omega) (by omega) (by omega) (by omega) (by omega) (by omega)
    · have c_3 := tn_ne (a := (r3).toInt) (b := 0) rfl (by decide) c_3
      exact ok_r_ranked_80 s0 hB k20 M20 hk20 k31 M31 hk31 _ _ _ _ _ hI_s2 hF_s2 (by omega) (by omega) (by omega) (by omega) (by omega) (by omega) (by omega) (by omega) (by omega) (by omega)
set_option maxHeartbeats 1000000 in
theorem ok_r_ranked_31 (s0 : RS) (hB : Big s0) (k20 : RS → Int32 → Int32 → Int32 → Option (Int32 × RS)) (M20 : Nat) (hk20 : ∀ (s : RS) (x1 : Int32) (x2 : Int32) (x3 : Int32), InvR s → FrR [45, 144, 150] s0 s → 0 ≤ x1.toInt → x1.toInt ≤ 19 → -1 ≤ x2.toInt → x2.toInt ≤ 7775 → 0 ≤ x3.toInt → x3.toInt ≤ 20 → (20 - x3.toInt).toNat < M20 → Ok (k20 s x1 x2 x3) (Q_r_ranked s0)) (k31 : RS → Int32 → Int32 → Int32 → Int32 → Int32 → Option (Int32 × RS)) (M31 : Nat) (hk31 : ∀ (s : RS) (x1 : Int32) (x2 : Int32) (x3 : Int32) (x4 : Int32) (x5 : Int32), InvR s → FrR [45, 144, 150] s0 s → 0 ≤ x1.toInt → x1.toInt ≤ 19 → -1 ≤ x2.toInt → x2.toInt ≤ 7775 → 0 ≤ x3.toInt → x3.toInt ≤ 19 → -1 ≤ x4.toInt → x4.toInt ≤ 7775 → 0 ≤ x5.toInt → x5.toInt ≤ 7776 → (20 - x3.toInt).toNat ≤ M20 → (7776 - x5.toInt).toNat < M31 → Ok (k31 s x1 x2 x3 x4 x5) (Q_r_ranked s0)) (s : RS) (x1 : Int32) (x2 : Int32) (x3 : Int32) (x4 : Int32) (x5 : Int32) (hI_s : InvR s) (hF_s : FrR [45, 144, 150] s0 s) (h_x1l : 0 ≤ x1.toInt) (h_x1u : x1.toInt ≤ 19) (h_x2l : -1 ≤ x2.toInt) (h_x2u : x2.toInt ≤ 7775) (h_x3l : 0 ≤ x3.toInt) (h_x3u : x3.toInt ≤ 19) (h_x4l : -1 ≤ x4.toInt) (h_x4u : x4.toInt ≤ 7775) (h_x5l : 0 ≤ x5.toInt) (h_x5u : x5.toInt ≤ 7776) (hM20 : (20 - x3.toInt).toNat ≤ M20) (hM31 : (7776 - x5.toInt).toNat ≤ M31) : Ok (r_ranked_31 k20 k31 s x1 x2 x3 x4 x5) (Q_r_ranked s0) := by
  unfold r_ranked_31
  refine ok_bindI (ok_r_guesses _  hI_s (hB.fr hF_s (by decide))) (fun r2 s1 hc_1 => ?_)
  have hI_s1 : InvR s1 := hc_1.1
  have hFc_s1 : FrR [] s s1 := hc_1.2.1
  have hF_s1 : FrR [45, 144, 150] s0 s1 := hF_s.trans hFc_s1 (by decide)
  have hl_r2 : 1 ≤ r2.toInt := hc_1.2.2.1
  have hu_r2 : r2.toInt ≤ 7776 := hc_1.2.2.2
  refine ok_ite (fun c_2 => ?_) (fun c_2 => ?_)
  · have c_2 := tn_le (a := (r2).toInt) (b := (x5).toInt) rfl rfl c_2
    refine ok_ite (fun c_3 => ?_) (fun c_3 => ?_)
    · have c_3 := tn_le (a := 0) (b := (x4).toInt) (by decide) rfl c_3
      have a_4 : ((x3 + 1)).toInt = (x3).toInt + 1 := tn_add rfl (by decide) (by omega) (by omega)
      exact hk20 _ _ _ _ hI_s1 hF_s1 (by omega) (by omega) (by omega) (by omega) (by omega) (by omega) (by omega)
    · have c_3 := tn_nle (a := 0) (b := (x4).toInt) (by decide) rfl c_3
      exact ok_some ⟨hI_s1, hF_s1, by show -1 ≤ ((-1) : Int32).toInt; decide, by show ((-1) : Int32).toInt ≤ 7775; decide⟩
  · have c_2 := tn_nle (a := (r2).toInt) (b := (x5).toInt) rfl rfl c_2
    refine ok_grd (vpb_ok (by omega) (by omega)) ?_
    refine ok_ite (fun c_5 => ?_) (fun c_5 => ?_)
    · have c_5 := tn_le (a := ((s1.f 50 (Int32.toNatClampNeg x5))).toInt) (b := 0) rfl (by decide) c_5
      exact ok_r_ranked_84 s0 hB k20 M20 hk20 k31 M31 hk31 _ _ _ _ _ _ hI_s1 hF_s1 (by omega) (by omega) (by omega) (by omega) (by omega) (by omega) (by omega) (by omega) (by omega) (by omega) (by omega) (by omega)
    · have c_5 := tn_nle (a := ((s1.f 50 (Int32.toNatClampNeg x5))).toInt) (b := 0) rfl (by decide) c_5
      refine ok_ite (fun c_6 => ?_) (fun c_6 => ?_)
      · have c_6 := tn_lt (a := (x2).toInt) (b := 0) rfl (by decide) c_6
        exact ok_r_ranked_64 s0 hB k20 M20 hk20 k31 M31 hk31 _ _ _ _ _ _ hI_s1 hF_s1 (by omega) (by omega) (by omega) (by omega) (by omega) (by omega) (by omega) (by omega) (by omega) (by omega) (by omega) (by omega)
      · have c_6 := tn_nlt (a := (x2).toInt) (b := 0) rfl (by decide) c_6
        refine ok_bindI (ok_r_isAhead _ _ _ hI_s1 (by omega) (by omega) (by omega) (by omega)) (fun r9 s8 hc_7 => ?_)
        have hI_s8 : InvR s8 := hc_7.1
        have hFc_s8 : FrR [] s1 s8 := hc_7.2.1
        have hF_s8 : FrR [45, 144, 150] s0 s8 := hF_s1.trans hFc_s8 (by decide)
        have hl_r9 : 0 ≤ r9.toInt := hc_7.2.2.1
        have hu_r9 : r9.toInt ≤ 1 := hc_7.2.2.2
        refine ok_ite (fun c_8 => ?_) (fun c_8 => ?_)
        · have c_8 := tn_eq (a := (r9).toInt) (b := 0) rfl (by decide) c_8
          exact ok_r_ranked_84 s0 hB k20 M20 hk20 k31 M31 hk31 _ _ _ _ _ _ hI_s8 hF_s8 (by omega) (by omega) (by omega) (by omega) (by omega) (by omega) (by omega) (by omega) (by omega) (by omega) (by omega) (by omega)
        · have c_8 := tn_ne (a := (r9).toInt) (b := 0) rfl (by decide) c_8
          exact ok_r_ranked_64 s0 hB k20 M20 hk20 k31 M31 hk31 _ _ _ _ _ _ hI_s8 hF_s8 (by omega) (by omega) (by omega) (by omega) (by omega) (by omega) (by omega) (by omega) (by omega) (by omega) (by omega) (by omega)
theorem okL_r_ranked_31 (s0 : RS) (hB : Big s0) (k20 : RS → Int32 → Int32 → Int32 → Option (Int32 × RS)) (M20 : Nat) (hk20 : ∀ (s : RS) (x1 : Int32) (x2 : Int32) (x3 : Int32), InvR s → FrR [45, 144, 150] s0 s → 0 ≤ x1.toInt → x1.toInt ≤ 19 → -1 ≤ x2.toInt → x2.toInt ≤ 7775 → 0 ≤ x3.toInt → x3.toInt ≤ 20 → (20 - x3.toInt).toNat < M20 → Ok (k20 s x1 x2 x3) (Q_r_ranked s0)) : ∀ (n : Nat) (s : RS) (x1 : Int32) (x2 : Int32) (x3 : Int32) (x4 : Int32) (x5 : Int32), (7776 - x5.toInt).toNat < n → InvR s → FrR [45, 144, 150] s0 s → 0 ≤ x1.toInt → x1.toInt ≤ 19 → -1 ≤ x2.toInt → x2.toInt ≤ 7775 → 0 ≤ x3.toInt → x3.toInt ≤ 19 → -1 ≤ x4.toInt → x4.toInt ≤ 7775 → 0 ≤ x5.toInt → x5.toInt ≤ 7776 → (20 - x3.toInt).toNat ≤ M20 → Ok (r_ranked_31L k20 n s x1 x2 x3 x4 x5) (Q_r_ranked s0) := by
  intro n
  induction n with
  | zero => intro s x1 x2 x3 x4 x5 hn; omega
  | succ n ih =>
    intro s x1 x2 x3 x4 x5 hn hI_s hF_s h_x1l h_x1u h_x2l h_x2u h_x3l h_x3u h_x4l h_x4u h_x5l h_x5u hM20
    exact ok_r_ranked_31 s0 hB k20 M20 hk20 (r_ranked_31L k20 n) ((7776 - x5.toInt).toNat) (fun zs zx1 zx2 zx3 zx4 zx5 g0 g1 g2 g3 g4 g5 g6 g7 g8 g9 g10 g11 o20 hm => ih zs zx1 zx2 zx3 zx4 zx5 (by omega) g0 g1 g2 g3 g4 g5 g6 g7 g8 g9 g10 g11 o20) s x1 x2 x3 x4 x5 hI_s hF_s h_x1l h_x1u h_x2l h_x2u h_x3l h_x3u h_x4l h_x4u h_x5l h_x5u hM20 (Nat.le_refl _)
set_option maxHeartbeats 1000000 in
theorem ok_r_ranked_20 (s0 : RS) (hB : Big s0) (k20 : RS → Int32 → Int32 → Int32 → Option (Int32 × RS)) (M20 : Nat) (hk20 : ∀ (s : RS) (x1 : Int32) (x2 : Int32) (x3 : Int32), InvR s → FrR [45, 144, 150] s0 s → 0 ≤ x1.toInt → x1.toInt ≤ 19 → -1 ≤ x2.toInt → x2.toInt ≤ 7775 → 0 ≤ x3.toInt → x3.toInt ≤ 20 → (20 - x3.toInt).toNat < M20 → Ok (k20 s x1 x2 x3) (Q_r_ranked s0)) (s : RS) (x1 : Int32) (x2 : Int32) (x3 : Int32) (hI_s : InvR s) (hF_s : FrR [45, 144, 150] s0 s) (h_x1l : 0 ≤ x1.toInt) (h_x1u : x1.toInt ≤ 19) (h_x2l : -1 ≤ x2.toInt) (h_x2u : x2.toInt ≤ 7775) (h_x3l : 0 ≤ x3.toInt) (h_x3u : x3.toInt ≤ 20) (hM20 : (20 - x3.toInt).toNat ≤ M20) : Ok (r_ranked_20 k20 s x1 x2 x3) (Q_r_ranked s0) := by
  unfold r_ranked_20
  refine ok_ite (fun c_1 => ?_) (fun c_1 => ?_)
  · have c_1 := tn_lt (a := (x1).toInt) (b := (x3).toInt) rfl rfl c_1
    exact ok_some ⟨hI_s, hF_s, by show -1 ≤ (x2).toInt; omega, by show (x2).toInt ≤ 7775; omega⟩
  · have c_1 := tn_nlt (a := (x1).toInt) (b := (x3).toInt) rfl rfl c_1
    have l_m1 : ((-1) : Int32).toInt = -1 := by decide
    have l_0 : (0 : Int32).toInt = 0 := by decide
    exact okL_r_ranked_31 s0 hB k20 M20 hk20 fu _ _ _ _ _ _ (by unfold fu; omega) hI_s hF_s (by omega) (by omega) (by omega) (by omega) (by omega) (by omega) (by decide) (by decide) (by decide) (by decide) (by omega)
theorem okL_r_ranked_20 (s0 : RS) (hB : Big s0)  : ∀ (n : Nat) (s : RS) (x1 : Int32) (x2 : Int32) (x3 : Int32), (20 - x3.toInt).toNat < n → InvR s → FrR [45, 144, 150] s0 s → 0 ≤ x1.toInt → x1.toInt ≤ 19 → -1 ≤ x2.toInt → x2.toInt ≤ 7775 → 0 ≤ x3.toInt → x3.toInt ≤ 20 → Ok (r_ranked_20L  n s x1 x2 x3) (Q_r_ranked s0) := by
  intro n
  induction n with
  | zero => intro s x1 x2 x3 hn; omega
  | succ n ih =>
    intro s x1 x2 x3 hn hI_s hF_s h_x1l h_x1u h_x2l h_x2u h_x3l h_x3u 
    exact ok_r_ranked_20 s0 hB (r_ranked_20L  n) ((20 - x3.toInt).toNat) (fun zs zx1 zx2 zx3 g0 g1 g2 g3 g4 g5 g6 g7  hm => ih zs zx1 zx2 zx3 (by omega) g0 g1 g2 g3 g4 g5 g6 g7 ) s x1 x2 x3 hI_s hF_s h_x1l h_x1u h_x2l h_x2u h_x3l h_x3u (Nat.le_refl _)
set_option maxHeartbeats 1000000 in
theorem ok_r_rankedB (s0 : RS) (hB : Big s0)  (s : RS) (x1 : Int32) (hI_s : InvR s) (hF_s : FrR [45, 144, 150] s0 s)  : Ok (r_ranked  s x1) (Q_r_ranked s0) := by
  unfold r_ranked
  refine ok_bindP (ok_r_in _ _ _ (by decide) (by decide) (by decide) (by decide)) (fun r1 hc_1 => ?_)
  have l_0 : (0 : Int32).toInt = 0 := by decide
  have l_19 : (19 : Int32).toInt = 19 := by decide
  have hl_r1 : 0 ≤ r1.toInt := hc_1.1
  have hu_r1 : r1.toInt ≤ 1 := hc_1.2.1
  have hx0_r1 : (¬ r1.toInt = 0 → (0 : Int32).toInt ≤ (x1).toInt ∧ (x1).toInt ≤ (19 : Int32).toInt) := hc_1.2.2
  refine ok_ite (fun c_2 => ?_) (fun c_2 => ?_)
  · have c_2 := tn_eq (a := (r1).toInt) (b := 0) rfl (by decide) c_2
    exact ok_some ⟨hI_s, hF_s, by show -1 ≤ ((-1) : Int32).toInt; decide, by show ((-1) : Int32).toInt ≤ 7775; decide⟩
  · have c_2 := tn_ne (a := (r1).toInt) (b := 0) rfl (by decide) c_2
    refine ok_bindP (ok_r_fillsChances _  hI_s (hB.fr hF_s (by decide))) (fun s3 hc_3 => ?_)
    have hI_s3 : InvR s3 := hc_3.1
    have hFc_s3 : FrR [45, 144, 150] s s3 := hc_3.2
    have hF_s3 : FrR [45, 144, 150] s0 s3 := hF_s.trans hFc_s3 (by decide)
    have l_m1 : ((-1) : Int32).toInt = -1 := by decide
    exact okL_r_ranked_20 s0 hB  fu _ _ _ _ (by unfold fu; omega) hI_s3 hF_s3 (by omega) (by omega) (by decide) (by decide) (by decide) (by decide) 
theorem ok_r_ranked (s : RS) (x1 : Int32) (hI_s : InvR s) (hB : Big s) : Ok (r_ranked s x1) (Q_r_ranked s) := ok_r_rankedB s hB s x1 hI_s FrR.rfl
