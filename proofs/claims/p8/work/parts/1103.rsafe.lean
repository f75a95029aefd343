abbrev Q_r_share (s0 : RS) (y : Int32 × RS) : Prop := InvR y.2 ∧ FrR [45, 144] s0 y.2 ∧ -2147483648 ≤ y.1.toInt ∧ y.1.toInt ≤ 2147483647
set_option maxHeartbeats 1000000 in
theorem ok_r_share_73 (s0 : RS) (k44 : RS → Int32 → Int32 → Int32 → Option (Int32 × RS)) (M44 : Nat) (hk44 : ∀ (s : RS) (x1 : Int32) (x3 : Int32) (x4 : Int32), InvR s → FrR [45, 144] s0 s → 0 ≤ x1.toInt → x1.toInt ≤ 4 → 0 ≤ x4.toInt → x4.toInt ≤ 5 → (5 - x4.toInt).toNat < M44 → Ok (k44 s x1 x3 x4) (Q_r_share s0)) (s : RS) (x1 : Int32) (x3 : Int32) (x4 : Int32) (hI_s : InvR s) (hF_s : FrR [45, 144] s0 s) (h_x1l : 0 ≤ x1.toInt) (h_x1u : x1.toInt ≤ 4) (h_x4l : 0 ≤ x4.toInt) (h_x4u : x4.toInt ≤ 4) (hM44 : (5 - x4.toInt).toNat ≤ M44) : Ok (r_share_73 k44 s x1 x3 x4) (Q_r_share s0) := by
  unfold r_share_73
  have a_1 : ((x4 + 1)).toInt = (x4).toInt + 1 := tn_add rfl (by decide) (by omega) (by omega)
  exact hk44 _ _ _ _ hI_s hF_s (by omega) (by omega) (by omega) (by omega) (by omega)
set_option maxHeartbeats 1000000 in
theorem ok_r_share_44 (s0 : RS) (k44 : RS → Int32 → Int32 → Int32 → Option (Int32 × RS)) (M44 : Nat) (hk44 : ∀ (s : RS) (x1 : Int32) (x3 : Int32) (x4 : Int32), InvR s → FrR [45, 144] s0 s → 0 ≤ x1.toInt → x1.toInt ≤ 4 → 0 ≤ x4.toInt → x4.toInt ≤ 5 → (5 - x4.toInt).toNat < M44 → Ok (k44 s x1 x3 x4) (Q_r_share s0)) (s : RS) (x1 : Int32) (x3 : Int32) (x4 : Int32) (hI_s : InvR s) (hF_s : FrR [45, 144] s0 s) (h_x1l : 0 ≤ x1.toInt) (h_x1u : x1.toInt ≤ 4) (h_x4l : 0 ≤ x4.toInt) (h_x4u : x4.toInt ≤ 5) (hM44 : (5 - x4.toInt).toNat ≤ M44) : Ok (r_share_44 k44 s x1 x3 x4) (Q_r_share s0) := by
  unfold r_share_44
  have a_1 : 0 ≤ (s.v 18).toInt ∧ (s.v 18).toInt ≤ 1 := hI_s.1 18
  refine ok_grd (vpb_ok (by omega) (by omega)) ?_
  have a_2 : ((s.f 20 (Int32.toNatClampNeg (s.v 18)))).toInt = wv s0 := wv_fr hF_s (by decide) (by decide)
  have a_3 : 0 ≤ ((s.f 20 (Int32.toNatClampNeg (s.v 18)))).toInt ∧ ((s.f 20 (Int32.toNatClampNeg (s.v 18)))).toInt ≤ 5 := hI_s.2 20 _
  refine ok_ite (fun c_4 => ?_) (fun c_4 => ?_)
  · have c_4 := tn_le (a := ((s.f 20 (Int32.toNatClampNeg (s.v 18)))).toInt) (b := (x4).toInt) rfl rfl c_4
    exact ok_some ⟨hI_s, hF_s, (ti_rng _).1, (ti_rng _).2⟩
  · have c_4 := tn_nle (a := ((s.f 20 (Int32.toNatClampNeg (s.v 18)))).toInt) (b := (x4).toInt) rfl rfl c_4
    refine ok_ite (fun c_5 => ?_) (fun c_5 => ?_)
    · have c_5 := tn_eq (a := (x4).toInt) (b := (x1).toInt) rfl rfl c_5
      exact ok_r_share_73 s0 k44 M44 hk44 _ _ _ _ hI_s hF_s (by omega) (by omega) (by omega) (by omega) (by omega)
    · have c_5 := tn_ne (a := (x4).toInt) (b := (x1).toInt) rfl rfl c_5
      refine ok_bindI (ok_r_sumAt _ _ hI_s (by omega) (by omega)) (fun r5 s4 hc_6 => ?_)
      have hI_s4 : InvR s4 := hc_6.1
      have hFc_s4 : FrR [] s s4 := hc_6.2.1
      have hF_s4 : FrR [45, 144] s0 s4 := hF_s.trans hFc_s4 (by decide)
      exact ok_r_share_73 s0 k44 M44 hk44 _ _ _ _ hI_s4 hF_s4 (by omega) (by omega) (by omega) (by omega) (by omega)
theorem okL_r_share_44 (s0 : RS)  : ∀ (n : Nat) (s : RS) (x1 : Int32) (x3 : Int32) (x4 : Int32), (5 - x4.toInt).toNat < n → InvR s → FrR [45, 144] s0 s → 0 ≤ x1.toInt → x1.toInt ≤ 4 → 0 ≤ x4.toInt → x4.toInt ≤ 5 → Ok (r_share_44L  n s x1 x3 x4) (Q_r_share s0) := by
  intro n
  induction n with
  | zero => intro s x1 x3 x4 hn; omega
  | succ n ih =>
    intro s x1 x3 x4 hn hI_s hF_s h_x1l h_x1u h_x4l h_x4u 
    exact ok_r_share_44 s0 (r_share_44L  n) ((5 - x4.toInt).toNat) (fun zs zx1 zx3 zx4 g0 g1 g2 g3 g4 g5  hm => ih zs zx1 zx3 zx4 (by omega) g0 g1 g2 g3 g4 g5 ) s x1 x3 x4 hI_s hF_s h_x1l h_x1u h_x4l h_x4u (Nat.le_refl _)
set_option maxHeartbeats 1000000 in
theorem ok_r_share_40 (s0 : RS)  (s : RS) (x1 : Int32) (t0 : Int32) (hI_s : InvR s) (hF_s : FrR [45, 144] s0 s) (h_x1l : 0 ≤ x1.toInt) (h_x1u : x1.toInt ≤ 4)  : Ok (r_share_40  s x1 t0) (Q_r_share s0) := by
  unfold r_share_40
  have l_0 : (0 : Int32).toInt = 0 := by decide
  exact okL_r_share_44 s0  fu _ _ _ _ (by unfold fu; omega) hI_s hF_s (by omega) (by omega) (by decide) (by decide) 
set_option maxHeartbeats 1000000 in
theorem ok_r_shareB (s0 : RS)  (s : RS) (x1 : Int32) (x2 : Int32) (hI_s : InvR s) (hF_s : FrR [45, 144] s0 s)  : Ok (r_share  s x1 x2) (Q_r_share s0) := by
  unfold r_share
  refine ok_bindI (ok_r_isWave _ _ hI_s) (fun r2 s1 hc_1 => ?_)
  have hI_s1 : InvR s1 := hc_1.1
  have hFc_s1 : FrR [] s s1 := hc_1.2.1
  have hF_s1 : FrR [45, 144] s0 s1 := hF_s.trans hFc_s1 (by decide)
  have a_2 : wv s = wv s0 := wv_fr hF_s (by decide) (by decide)
  have hl_r2 : 0 ≤ r2.toInt := hc_1.2.2.1
  have hu_r2 : r2.toInt ≤ 1 := hc_1.2.2.2.1
  have hx0_r2 : (¬ r2.toInt = 0 → 0 ≤ (x1).toInt ∧ (x1).toInt < wv s ∧ wv s ≤ 5) := hc_1.2.2.2.2
  refine ok_ite (fun c_3 => ?_) (fun c_3 => ?_)
  · have c_3 := tn_eq (a := (r2).toInt) (b := 0) rfl (by decide) c_3
    exact ok_some ⟨hI_s1, hF_s1, (ti_rng _).1, (ti_rng _).2⟩
  · have c_3 := tn_ne (a := (r2).toInt) (b := 0) rfl (by decide) c_3
    refine ok_bindP (ok_r_isThing _ ) (fun r4 hc_4 => ?_)
    have hl_r4 : 0 ≤ r4.toInt := hc_4.1
    have hu_r4 : r4.toInt ≤ 1 := hc_4.2.1
    have hx0_r4 : (¬ r4.toInt = 0 → 0 ≤ (x2).toInt ∧ (x2).toInt ≤ 5) := hc_4.2.2
    refine ok_ite (fun c_5 => ?_) (fun c_5 => ?_)
    · have c_5 := tn_eq (a := (r4).toInt) (b := 0) rfl (by decide) c_5
      exact ok_some ⟨hI_s1, hF_s1, (ti_rng _).1, (ti_rng _).2⟩
    · have c_5 := tn_ne (a := (r4).toInt) (b := 0) rfl (by decide) c_5
      refine ok_bindP (ok_r_copies _  hI_s1) (fun s6 hc_6 => ?_)
      have hI_s6 : InvR s6 := hc_6.1
      have hFc_s6 : FrR [45, 144] s1 s6 := hc_6.2
      have hF_s6 : FrR [45, 144] s0 s6 := hF_s1.trans hFc_s6 (by decide)
      refine ok_bindI (ok_r_mayBe _ _ _ hI_s6 (by omega) (by omega) (by omega) (by omega)) (fun r8 s7 hc_7 => ?_)
      have hI_s7 : InvR s7 := hc_7.1
      have hFc_s7 : FrR [] s6 s7 := hc_7.2.1
      have hF_s7 : FrR [45, 144] s0 s7 := hF_s6.trans hFc_s7 (by decide)
      have hl_r8 : 0 ≤ r8.toInt := hc_7.2.2.1
      have hu_r8 : r8.toInt ≤ 1 := hc_7.2.2.2
      refine ok_ite (fun c_8 => ?_) (fun c_8 => ?_)
      · have c_8 := tn_eq (a := (r8).toInt) (b := 0) rfl (by decide) c_8
        have l_0 : (0 : Int32).toInt = 0 := by decide
        exact ok_r_share_40 s0  _ _ _ hI_s7 hF_s7 (by omega) (by omega) 
      · have c_8 := tn_ne (a := (r8).toInt) (b := 0) rfl (by decide) c_8
        refine ok_bindI (ok_r_oddsAt _ _ _ hI_s7 (by omega) (by omega) (by omega) (by omega)) (fun r11 s10 hc_9 => ?_)
        have hI_s10 : InvR s10 := hc_9.1
        have hFc_s10 : FrR [] s7 s10 := hc_9.2.1
        have hF_s10 : FrR [45, 144] s0 s10 := hF_s7.trans hFc_s10 (by decide)
        exact ok_r_share_40 s0  _ _ _ hI_s10 hF_s10 (by omega) (by omega) 
theorem ok_r_share (s : RS) (x1 : Int32) (x2 : Int32) (hI_s : InvR s) : Ok (r_share s x1 x2) (Q_r_share s) := ok_r_shareB s s x1 x2 hI_s FrR.rfl
abbrev Q_r_comesOver (s0 : RS) (y : Int32 × RS) : Prop := InvR y.2 ∧ FrR [42, 45, 140, 141, 144] s0 y.2 ∧ 0 ≤ y.1.toInt ∧ y.1.toInt ≤ 1
set_option maxHeartbeats 1000000 in
theorem ok_r_comesOver_7 (s0 : RS) (hB : Big s0) (k7 : RS → Int32 → Int32 → Int32 → Int32 → Option (Int32 × RS)) (M7 : Nat) (hk7 : ∀ (s : RS) (x1 : Int32) (x2 : Int32) (x3 : Int32) (x4 : Int32), InvR s → FrR [42, 45, 140, 141, 144] s0 s → 0 ≤ x1.toInt → x1.toInt ≤ 5 → 0 ≤ x2.toInt → x2.toInt ≤ 7775 → 1 ≤ x3.toInt → x3.toInt ≤ 8 → 0 ≤ x4.toInt → x4.toInt ≤ 8 → (8 - x4.toInt).toNat < M7 → Ok (k7 s x1 x2 x3 x4) (Q_r_comesOver s0)) (s : RS) (x1 : Int32) (x2 : Int32) (x3 : Int32) (x4 : Int32) (hI_s : InvR s) (hF_s : FrR [42, 45, 140, 141, 144] s0 s) (h_x1l : 0 ≤ x1.toInt) (h_x1u : x1.toInt ≤ 5) (h_x2l : 0 ≤ x2.toInt) (h_x2u : x2.toInt ≤ 7775) (h_x3l : 1 ≤ x3.toInt) (h_x3u : x3.toInt ≤ 8) (h_x4l : 0 ≤ x4.toInt) (h_x4u : x4.toInt ≤ 8) (hM7 : (8 - x4.toInt).toNat ≤ M7) : Ok (r_comesOver_7 k7 s x1 x2 x3 x4) (Q_r_comesOver s0) := by
  unfold r_comesOver_7
  refine ok_ite (fun c_1 => ?_) (fun c_1 => ?_)
  · have c_1 := tn_le (a := (x3).toInt) (b := (x4).toInt) rfl rfl c_1
    exact ok_some ⟨hI_s, hF_s, by show 0 ≤ (0 : Int32).toInt; decide, by show (0 : Int32).toInt ≤ 1; decide⟩
  · have c_1 := tn_nle (a := (x3).toInt) (b := (x4).toInt) rfl rfl c_1
    refine ok_bindI (ok_r_bestFor _ _ hI_s (hB.fr hF_s (by decide)) (by omega) (by omega)) (fun r3 s2 hc_2 => ?_)
    have hI_s2 : InvR s2 := hc_2.1
    have hFc_s2 : FrR [42, 140, 141] s s2 := hc_2.2.1
    have hF_s2 : FrR [42, 45, 140, 141, 144] s0 s2 := hF_s.trans hFc_s2 (by decide)
    have hl_r3 : -2 ≤ r3.toInt := hc_2.2.2.1
    have hu_r3 : r3.toInt ≤ 194400 := hc_2.2.2.2
    refine ok_ite (fun c_3 => ?_) (fun c_3 => ?_)
    · have c_3 := tn_le (a := 0) (b := (r3).toInt) (by decide) rfl c_3
      refine ok_bindI (ok_r_goesBy _ _ _ _ hI_s2 (hB.fr hF_s2 (by decide)) (by omega) (by omega) (by omega) (by omega) (by omega) (by omega)) (fun r6 s5 hc_4 => ?_)
      have hI_s5 : InvR s5 := hc_4.1
      have hFc_s5 : FrR [42, 140, 141, 144] s2 s5 := hc_4.2.1
      have hF_s5 : FrR [42, 45, 140, 141, 144] s0 s5 := hF_s2.trans hFc_s5 (by decide)
      have hl_r6 : 0 ≤ r6.toInt := hc_4.2.2.1
      have hu_r6 : r6.toInt ≤ 5 := hc_4.2.2.2
      have a_5 : ((15 + x1)).toInt = 15 + (x1).toInt := tn_add (by decide) rfl (by omega) (by omega)
      refine ok_grd (vpb_ok (by omega) (by omega)) ?_
      refine ok_ite (fun c_6 => ?_) (fun c_6 => ?_)
      · have c_6 := tn_eq (a := ((s5.f 44 (Int32.toNatClampNeg (15 + x1)))).toInt) (b := 2) rfl (by decide) c_6
        exact ok_some ⟨hI_s5, hF_s5, by show 0 ≤ (1 : Int32).toInt; decide, by show (1 : Int32).toInt ≤ 1; decide⟩
      · have c_6 := tn_ne (a := ((s5.f 44 (Int32.toNatClampNeg (15 + x1)))).toInt) (b := 2) rfl (by decide) c_6
        have a_7 : ((x4 + 1)).toInt = (x4).toInt + 1 := tn_add rfl (by decide) (by omega) (by omega)
        exact hk7 _ _ _ _ _ hI_s5 hF_s5 (by omega) (by omega) (by omega) (by omega) (by omega) (by omega) (by omega) (by omega) (by omega)
    · have c_3 := tn_nle (a := 0) (b := (r3).toInt) (by decide) rfl c_3
      exact ok_some ⟨hI_s2, hF_s2, by show 0 ≤ (0 : Int32).toInt; decide, by show (0 : Int32).toInt ≤ 1; decide⟩
theorem okL_r_comesOver_7 (s0 : RS) (hB : Big s0)  : ∀ (n : Nat) (s : RS) (x1 : Int32) (x2 : Int32) (x3 : Int32) (x4 : Int32), (8 - x4.toInt).toNat < n → InvR s → FrR [42, 45, 140, 141, 144] s0 s → 0 ≤ x1.toInt → x1.toInt ≤ 5 → 0 ≤ x2.toInt → x2.toInt ≤ 7775 → 1 ≤ x3.toInt → x3.toInt ≤ 8 → 0 ≤ x4.toInt → x4.toInt ≤ 8 → Ok (r_comesOver_7L  n s x1 x2 x3 x4) (Q_r_comesOver s0) := by
  intro n
  induction n with
  | zero => intro s x1 x2 x3 x4 hn; omega
  | succ n ih =>
    intro s x1 x2 x3 x4 hn hI_s hF_s h_x1l h_x1u h_x2l h_x2u h_x3l h_x3u h_x4l h_x4u 
    exact ok_r_comesOver_7 s0 hB (r_comesOver_7L  n) ((8 - x4.toInt).toNat) (fun zs zx1 zx2 zx3 zx4 g0 g1 g2 g3 g4 g5 g6 g7 g8 g9  hm => ih zs zx1 zx2 zx3 zx4 (by omega) g0 g1 g2 g3 g4 g5 g6 g7 g8 g9 ) s x1 x2 x3 x4 hI_s hF_s h_x1l h_x1u h_x2l h_x2u h_x3l h_x3u h_x4l h_x4u (Nat.le_refl _)
set_option maxHeartbeats 1000000 in
theorem ok_r_comesOverB (s0 : RS) (hB : Big s0)  (s : RS) (x1 : Int32) (x2 : Int32) (x3 : Int32) (hI_s : InvR s) (hF_s : FrR [42, 45, 140, 141, 144] s0 s) (h_x1l : 0 ≤ x1.toInt) (h_x1u : x1.toInt ≤ 5) (h_x2l : 0 ≤ x2.toInt) (h_x2u : x2.toInt ≤ 7775) (h_x3l : 1 ≤ x3.toInt) (h_x3u : x3.toInt ≤ 8)  : Ok (r_comesOver  s x1 x2 x3) (Q_r_comesOver s0) := by
  unfold r_comesOver
  refine ok_bindP (ok_r_copies _  hI_s) (fun s1 hc_1 => ?_)
  have hI_s1 : InvR s1 := hc_1.1
  have hFc_s1 : FrR [45, 144] s s1 := hc_1.2
  have hF_s1 : FrR [42, 45, 140, 141, 144] s0 s1 := hF_s.trans hFc_s1 (by decide)
  have l_0 : (0 : Int32).toInt = 0 := by decide
  exact okL_r_comesOver_7 s0 hB  fu _ _ _ _ _ (by unfold fu; omega) hI_s1 hF_s1 (by omega) (by omega) (by omega) (by omega) (by omega) (by omega) (by decide) (by decide) 
theorem ok_r_comesOver (s : RS) (x1 : Int32) (x2 : Int32) (x3 : Int32) (hI_s : InvR s) (hB : Big s) (h_x1l : 0 ≤ x1.toInt) (h_x1u : x1.toInt ≤ 5) (h_x2l : 0 ≤ x2.toInt) (h_x2u : x2.toInt ≤ 7775) (h_x3l : 1 ≤ x3.toInt) (h_x3u : x3.toInt ≤ 8) : Ok (r_comesOver s x1 x2 x3) (Q_r_comesOver s) := ok_r_comesOverB s hB s x1 x2 x3 hI_s FrR.rfl h_x1l h_x1u h_x2l h_x2u h_x3l h_x3u
abbrev Q_r_sure (s0 : RS) (y : Int32 × RS) : Prop := InvR y.2 ∧ FrR [42, 45, 140, 141, 144, 150] s0 y.2 ∧ -2147483648 ≤ y.1.toInt ∧ y.1.toInt ≤ 2147483647
set_option maxHeartbeats 1000000 in
theorem ok_r_sure_81 (s0 : RS) (hB : Big s0) (k41 : RS → Int32 → Int32 → Int32 → Int32 → Option (Int32 × RS)) (M41 : Nat) (hk41 : ∀ (s : RS) (x1 : Int32) (x2 : Int32) (x3 : Int32) (x4 : Int32), InvR s → FrR [42, 45, 140, 141, 144, 150] s0 s → 0 ≤ x1.toInt → x1.toInt ≤ 5 → 1 ≤ x2.toInt → x2.toInt ≤ 8 → 0 ≤ x4.toInt → x4.toInt ≤ 7776 → (7776 - x4.toInt).toNat < M41 → Ok (k41 s x1 x2 x3 x4) (Q_r_sure s0)) (s : RS) (x1 : Int32) (x2 : Int32) (x3 : Int32) (x4 : Int32) (hI_s : InvR s) (hF_s : FrR [42, 45, 140, 141, 144, 150] s0 s) (h_x1l : 0 ≤ x1.toInt) (h_x1u : x1.toInt ≤ 5) (h_x2l : 1 ≤ x2.toInt) (h_x2u : x2.toInt ≤ 8) (h_x4l : 0 ≤ x4.toInt) (h_x4u : x4.toInt ≤ 7775) (hM41 : (7776 - x4.toInt).toNat ≤ M41) : Ok (r_sure_81 k41 s x1 x2 x3 x4) (Q_r_sure s0) := by
  unfold r_sure_81
  have a_1 : ((x4 + 1)).toInt = (x4).toInt + 1 := tn_add rfl (by decide) (by omega) (by omega)
  exact hk41 _ _ _ _ _ hI_s hF_s (by omega) (by omega) (by omega) (by omega) (by omega) (by omega) (by omega)
set_option maxHeartbeats 1000000 in
theorem ok_r_sure_41 (s0 : RS) (hB : Big s0) (k41 : RS → Int32 → Int32 → Int32 → Int32 → Option (Int32 × RS)) (M41 : Nat) (hk41 : ∀ (s : RS) (x1 : Int32) (x2 : Int32) (x3 : Int32) (x4 : Int32), InvR s → FrR [42, 45, 140, 141, 144, 150] s0 s → 0 ≤ x1.toInt → x1.toInt ≤ 5 → 1 ≤ x2.toInt → x2.toInt ≤ 8 → 0 ≤ x4.toInt → x4.toInt ≤ 7776 → (7776 - x4.toInt).toNat < M41 → Ok (k41 s x1 x2 x3 x4) (Q_r_sure s0)) (s : RS) (x1 : Int32) (x2 : Int32) (x3 : Int32) (x4 : Int32) (hI_s : InvR s) (hF_s : FrR [42, 45, 140, 141, 144, 150] s0 s) (h_x1l : 0 ≤ x1.toInt) (h_x1u : x1.toInt ≤ 5) (h_x2l : 1 ≤ x2.toInt) (h_x2u : x2.toInt ≤ 8) (h_x4l : 0 ≤ x4.toInt) (h_x4u : x4.toInt ≤ 7776) (hM41 : (7776 - x4.toInt).toNat ≤ M41) : Ok (r_sure_41 k41 s x1 x2 x3 x4) (Q_r_sure s0) := by
  unfold r_sure_41
  refine ok_bindI (ok_r_guesses _  hI_s (hB.fr hF_s (by decide))) (fun r2 s1 hc_1 => ?_)
  have hI_s1 : InvR s1 := hc_1.1
  have hFc_s1 : FrR [] s s1 := hc_1.2.1
  have hF_s1 : FrR [42, 45, 140, 141, 144, 150] s0 s1 := hF_s.trans hFc_s1 (by decide)
  have hl_r2 : 1 ≤ r2.toInt := hc_1.2.2.1
  have hu_r2 : r2.toInt ≤ 7776 := hc_1.2.2.2
  refine ok_ite (fun c_2 => ?_) (fun c_2 => ?_)
  · have c_2 := tn_le (a := (r2).toInt) (b := (x4).toInt) rfl rfl c_2
    exact ok_some ⟨hI_s1, hF_s1, (ti_rng _).1, (ti_rng _).2⟩
  · have c_2 := tn_nle (a := (r2).toInt) (b := (x4).toInt) rfl rfl c_2
    refine ok_grd (vpb_ok (by omega) (by omega)) ?_
    refine ok_ite (fun c_3 => ?_) (fun c_3 => ?_)
    · have c_3 := tn_le (a := ((s1.f 50 (Int32.toNatClampNeg x4))).toInt) (b := 0) rfl (by decide) c_3
      exact ok_r_sure_81 s0 hB k41 M41 hk41 _ _ _ _ _ hI_s1 hF_s1 (by omega) (by omega) (by omega) (by omega) (by omega) (by omega) (by omega)
    · have c_3 := tn_nle (a := ((s1.f 50 (Int32.toNatClampNeg x4))).toInt) (b := 0) rfl (by decide) c_3
      refine ok_bindI (ok_r_comesOver _ _ _ _ hI_s1 (hB.fr hF_s1 (by decide)) (by omega) (by omega) (by omega) (by omega) (by omega) (by omega)) (fun r7 s6 hc_4 => ?_)
      have hI_s6 : InvR s6 := hc_4.1
      have hFc_s6 : FrR [42, 45, 140, 141, 144] s1 s6 := hc_4.2.1
      have hF_s6 : FrR [42, 45, 140, 141, 144, 150] s0 s6 := hF_s1.trans hFc_s6 (by decide)
      have hl_r7 : 0 ≤ r7.toInt := hc_4.2.2.1
      have hu_r7 : r7.toInt ≤ 1 := hc_4.2.2.2
      refine ok_ite (fun c_5 => ?_) (fun c_5 => ?_)
      · have c_5 := tn_eq (a := (r7).toInt) (b := 0) rfl (by decide) c_5
        exact ok_r_sure_81 s0 hB k41 M41 hk41 _ _ _ _ _ hI_s6 hF_s6 (by omega) (by omega) (by omega) (by omega) (by omega) (by omega) (by omega)
      · have c_5 := tn_ne (a := (r7).toInt) (b := 0) rfl (by decide) c_5
        refine ok_grd (vpb_ok (by omega) (by omega)) ?_
        exact ok_r_sure_81 s0 hB k41 M41 hk41 _ _ _ _ _ hI_s6 hF_s6 (by omega) (by omega) (by omega) (by omega) (by omega) (by omega) (by omega)
theorem okL_r_sure_41 (s0 : RS) (hB : Big s0)  : ∀ (n : Nat) (s : RS) (x1 : Int32) (x2 : Int32) (x3 : Int32) (x4 : Int32), (7776 - x4.toInt).toNat < n → InvR s → FrR [42, 45, 140, 141, 144, 150] s0 s → 0 ≤ x1.toInt → x1.toInt ≤ 5 → 1 ≤ x2.toInt → x2.toInt ≤ 8 → 0 ≤ x4.toInt → x4.toInt ≤ 7776 → Ok (r_sure_41L  n s x1 x2 x3 x4) (Q_r_sure s0) := by
  intro n
  induction n with
  | zero => intro s x1 x2 x3 x4 hn; omega
  | succ n ih =>
    intro s x1 x2 x3 x4 hn hI_s hF_s h_x1l h_x1u h_x2l h_x2u h_x4l h_x4u 
    exact ok_r_sure_41 s0 hB (r_sure_41L  n) ((7776 - x4.toInt).toNat) (fun zs zx1 zx2 zx3 zx4 g0 g1 g2 g3 g4 g5 g6 g7  hm => ih zs zx1 zx2 zx3 zx4 (by omega) g0 g1 g2 g3 g4 g5 g6 g7 ) s x1 x2 x3 x4 hI_s hF_s h_x1l h_x1u h_x2l h_x2u h_x4l h_x4u (Nat.le_refl _)
set_option maxHeartbeats 1000000 in
theorem ok_r_sureB (s0 : RS) (hB : Big s0)  (s : RS) (x1 : Int32) (x2 : Int32) (hI_s : InvR s) (hF_s : FrR [42, 45, 140, 141, 144, 150] s0 s)  : Ok (r_sure  s x1 x2) (Q_r_sure s0) := by
  unfold r_sure
  refine ok_bindI (ok_r_isHere _ _ hI_s) (fun r2 s1 hc_1 => ?_)
  have hI_s1 : InvR s1 := hc_1.1
  have hFc_s1 : FrR [] s s1 := hc_1.2.1
  have hF_s1 : FrR [42, 45, 140, 141, 144, 150] s0 s1 := hF_s.trans hFc_s1 (by decide)
  have hl_r2 : 0 ≤ r2.toInt := hc_1.2.2.1
  have hu_r2 : r2.toInt ≤ 1 := hc_1.2.2.2.1
  have hx0_r2 : (¬ r2.toInt = 0 → 0 ≤ (x1).toInt ∧ (x1).toInt ≤ 5) := hc_1.2.2.2.2
  refine ok_ite (fun c_2 => ?_) (fun c_2 => ?_)
  · have c_2 := tn_eq (a := (r2).toInt) (b := 0) rfl (by decide) c_2
    exact ok_some ⟨hI_s1, hF_s1, (ti_rng _).1, (ti_rng _).2⟩
  · have c_2 := tn_ne (a := (r2).toInt) (b := 0) rfl (by decide) c_2
    have a_3 : 0 ≤ (s.v 18).toInt ∧ (s.v 18).toInt ≤ 1 := hI_s.1 18
    have a_4 : (s1.v 18).toInt = (s.v 18).toInt := congrArg Int32.toInt (hFc_s1.1 18 (by decide))
    refine ok_grd (vpb_ok (by omega) (by omega)) ?_
    have a_5 : ((s1.f 20 (Int32.toNatClampNeg (s1.v 18)))).toInt = wv s0 := wv_fr hF_s1 (by decide) (by decide)
    have a_6 : 0 ≤ ((s1.f 20 (Int32.toNatClampNeg (s1.v 18)))).toInt ∧ ((s1.f 20 (Int32.toNatClampNeg (s1.v 18)))).toInt ≤ 5 := hI_s1.2 20 _
    refine ok_ite (fun c_7 => ?_) (fun c_7 => ?_)
    · have c_7 := tn_eq (a := ((s1.f 20 (Int32.toNatClampNeg (s1.v 18)))).toInt) (b := 0) rfl (by decide) c_7
      exact ok_some ⟨hI_s1, hF_s1, (ti_rng _).1, (ti_rng _).2⟩
    · have c_7 := tn_ne (a := ((s1.f 20 (Int32.toNatClampNeg (s1.v 18)))).toInt) (b := 0) rfl (by decide) c_7
      refine ok_bindP (ok_r_in _ _ _ (by decide) (by decide) (by decide) (by decide)) (fun r6 hc_8 => ?_)
      have l_1 : (1 : Int32).toInt = 1 := by decide
      have l_8 : (8 : Int32).toInt = 8 := by decide
      have hl_r6 : 0 ≤ r6.toInt := hc_8.1
      have hu_r6 : r6.toInt ≤ 1 := hc_8.2.1
      have hx0_r6 : (¬ r6.toInt = 0 → (1 : Int32).toInt ≤ (x2).toInt ∧ (x2).toInt ≤ (8 : Int32).toInt) := hc_8.2.2
      refine ok_ite (fun c_9 => ?_) (fun c_9 => ?_)
      · have c_9 := tn_eq (a := (r6).toInt) (b := 0) rfl (by decide) c_9
        exact ok_some ⟨hI_s1, hF_s1, (ti_rng _).1, (ti_rng _).2⟩
      · have c_9 := tn_ne (a := (r6).toInt) (b := 0) rfl (by decide) c_9
        refine ok_bindP (ok_r_fillsChances _  hI_s1 (hB.fr hF_s1 (by decide))) (fun s8 hc_10 => ?_)
        have hI_s8 : InvR s8 := hc_10.1
        have hFc_s8 : FrR [45, 144, 150] s1 s8 := hc_10.2
        have hF_s8 : FrR [42, 45, 140, 141, 144, 150] s0 s8 := hF_s1.trans hFc_s8 (by decide)
        have l_0 : (0 : Int32).toInt = 0 := by decide
        exact okL_r_sure_41 s0 hB  fu _ _ _ _ _ (by unfold fu; omega) hI_s8 hF_s8 (by omega) (by omega) (by omega) (by omega) (by decide) (by decide) 
theorem ok_r_sure (s : RS) (x1 : Int32) (x2 : Int32) (hI_s : InvR s) (hB : Big s) : Ok (r_sure s x1 x2) (Q_r_sure s) := ok_r_sureB s hB s x1 x2 hI_s FrR.rfl
abbrev Q_r_alike (s0 : RS) (y : Int32 × RS) : Prop := InvR y.2 ∧ FrR [] s0 y.2 ∧ -1 ≤ y.1.toInt ∧ y.1.toInt ≤ 5
set_option maxHeartbeats 1000000 in
theorem ok_r_alike_20 (s0 : RS) (hB : Big s0) (k20 : RS → Int32 → Int32 → Int32 → Option (Int32 × RS)) (M20 : Nat) (hk20 : ∀ (s : RS) (x1 : Int32) (x2 : Int32) (x3 : Int32), InvR s → FrR [] s0 s → 0 ≤ x1.toInt → x1.toInt ≤ 7775 → 0 ≤ x2.toInt → x2.toInt ≤ 7775 → 0 ≤ x3.toInt → x3.toInt ≤ 5 → (5 - x3.toInt).toNat < M20 → Ok (k20 s x1 x2 x3) (Q_r_alike s0)) (s : RS) (x1 : Int32) (x2 : Int32) (x3 : Int32) (hI_s : InvR s) (hF_s : FrR [] s0 s) (h_x1l : 0 ≤ x1.toInt) (h_x1u : x1.toInt ≤ 7775) (h_x2l : 0 ≤ x2.toInt) (h_x2u : x2.toInt ≤ 7775) (h_x3l : 0 ≤ x3.toInt) (h_x3u : x3.toInt ≤ 5) (hM20 : (5 - x3.toInt).toNat ≤ M20) : Ok (r_alike_20 k20 s x1 x2 x3) (Q_r_alike s0) := by
  unfold r_alike_20
  have a_1 : 0 ≤ (s.v 18).toInt ∧ (s.v 18).toInt ≤ 1 := hI_s.1 18
  refine ok_grd (vpb_ok (by omega) (by omega)) ?_
  have a_2 : ((s.f 20 (Int32.toNatClampNeg (s.v 18)))).toInt = wv s0 := wv_fr hF_s (by decide) (by decide)
  have a_3 : 0 ≤ ((s.f 20 (Int32.toNatClampNeg (s.v 18)))).toInt ∧ ((s.f 20 (Int32.toNatClampNeg (s.v 18)))).toInt ≤ 5 := hI_s.2 20 _
  refine ok_ite (fun c_4 => ?_) (fun c_4 => ?_)
  · have c_4 := tn_le (a := ((s.f 20 (Int32.toNatClampNeg (s.v 18)))).toInt) (b := (x3).toInt) rfl rfl c_4
    exact ok_some ⟨hI_s, hF_s, by show -1 ≤ (x3).toInt; omega, by show (x3).toInt ≤ 5; omega⟩
  · have c_4 := tn_nle (a := ((s.f 20 (Int32.toNatClampNeg (s.v 18)))).toInt) (b := (x3).toInt) rfl rfl c_4
    refine ok_bindI (ok_r_thingAt _ _ _ hI_s (hB.fr hF_s (by decide)) (by omega) (by omega) (by omega) (by omega)) (fun r4 s3 hc_5 => ?_)
    have hI_s3 : InvR s3 := hc_5.1
    have hFc_s3 : FrR [] s s3 := hc_5.2.1
    have hF_s3 : FrR [] s0 s3 := hF_s.trans hFc_s3 (by decide)
    have hl_r4 : 0 ≤ r4.toInt := hc_5.2.2.1
    have hu_r4 : r4.toInt ≤ 5 := hc_5.2.2.2
    refine ok_bindI (ok_r_thingAt _ _ _ hI_s3 (hB.fr hF_s3 (by decide)) (by omega) (by omega) (by omega) (by omega)) (fun r6 s5 hc_6 => ?_)
    have hI_s5 : InvR s5 := hc_6.1
    have hFc_s5 : FrR [] s3 s5 := hc_6.2.1
    have hF_s5 : FrR [] s0 s5 := hF_s3.trans hFc_s5 (by decide)
    have hl_r6 : 0 ≤ r6.toInt := hc_6.2.2.1
    have hu_r6 : r6.toInt ≤ 5 := hc_6.2.2.2
    refine ok_ite (fun c_7 => ?_) (fun c_7 => ?_)
    · have c_7 := tn_eq (a := (r4).toInt) (b := (r6).toInt) rfl rfl c_7
      have a_8 : ((x3 + 1)).toInt = (x3).toInt + 1 := tn_add rfl (by decide) (by omega) (by omega)
      exact hk20 _ _ _ _ hI_s5 hF_s5 (by omega) (by omega) (by omega) (by omega) (by omega) (by omega) (by omega)
    · have c_7 := tn_ne (a := (r4).toInt) (b := (r6).toInt) rfl rfl c_7
      exact ok_some ⟨hI_s5, hF_s5, by show -1 ≤ (x3).toInt; omega, by show (x3).toInt ≤ 5; omega⟩
theorem okL_r_alike_20 (s0 : RS) (hB : Big s0)  : ∀ (n : Nat) (s : RS) (x1 : Int32) (x2 : Int32) (x3 : Int32), (5 - x3.toInt).toNat < n → InvR s → FrR [] s0 s → 0 ≤ x1.toInt → x1.toInt ≤ 7775 → 0 ≤ x2.toInt → x2.toInt ≤ 7775 → 0 ≤ x3.toInt → x3.toInt ≤ 5 → Ok (r_alike_20L  n s x1 x2 x3) (Q_r_alike s0) := by
  intro n
  induction n with
  | zero => intro s x1 x2 x3 hn; omega
  | succ n ih =>
    intro s x1 x2 x3 hn hI_s hF_s h_x1l h_x1u h_x2l h_x2u h_x3l h_x3u 
    exact ok_r_alike_20 s0 hB (r_alike_20L  n) ((5 - x3.toInt).toNat) (fun zs zx1 zx2 zx3 g0 g1 g2 g3 g4 g5 g6 g7  hm => ih zs zx1 zx2 zx3 (by omega) g0 g1 g2 g3 g4 g5 g6 g7 ) s x1 x2 x3 hI_s hF_s h_x1l h_x1u h_x2l h_x2u h_x3l h_x3u (Nat.le_refl _)
set_option maxHeartbeats 1000000 in
theorem ok_r_alikeB (s0 : RS) (hB : Big s0)  (s : RS) (x1 : Int32) (x2 : Int32) (hI_s : InvR s) (hF_s : FrR [] s0 s)  : Ok (r_alike  s x1 x2) (Q_r_alike s0) := by
  unfold r_alike
  refine ok_bindI (ok_r_isGuess _ _ hI_s (hB.fr hF_s (by decide))) (fun r2 s1 hc_1 => ?_)
  have hI_s1 : InvR s1 := hc_1.1
  have hFc_s1 : FrR [] s s1 := hc_1.2.1
  have hF_s1 : FrR [] s0 s1 := hF_s.trans hFc_s1 (by decide)
  have hl_r2 : 0 ≤ r2.toInt := hc_1.2.2.1
  have hu_r2 : r2.toInt ≤ 1 := hc_1.2.2.2.1
  have hx0_r2 : (¬ r2.toInt = 0 → 0 ≤ (x1).toInt ∧ (x1).toInt ≤ 7775) := hc_1.2.2.2.2
  refine ok_ite (fun c_2 => ?_) (fun c_2 => ?_)
  · have c_2 := tn_eq (a := (r2).toInt) (b := 0) rfl (by decide) c_2
    exact ok_some ⟨hI_s1, hF_s1, by show -1 ≤ ((-1) : Int32).toInt; decide, by show ((-1) : Int32).toInt ≤ 5; decide⟩
  · have c_2 := tn_ne (a := (r2).toInt) (b := 0) rfl (by decide) c_2
    refine ok_bindI (ok_r_isGuess _ _ hI_s1 (hB.fr hF_s1 (by decide))) (fun r5 s4 hc_3 => ?_)
    have hI_s4 : InvR s4 := hc_3.1
    have hFc_s4 : FrR [] s1 s4 := hc_3.2.1
    have hF_s4 : FrR [] s0 s4 := hF_s1.trans hFc_s4 (by decide)
    have hl_r5 : 0 ≤ r5.toInt := hc_3.2.2.1
    have hu_r5 : r5.toInt ≤ 1 := hc_3.2.2.2.1
    have hx0_r5 : (¬ r5.toInt = 0 → 0 ≤ (x2).toInt ∧ (x2).toInt ≤ 7775) := hc_3.2.2.2.2
    refine ok_ite (fun c_4 => ?_) (fun c_4 => ?_)
    · have c_4 := tn_eq (a := (r5).toInt) (b := 0) rfl (by decide) c_4
      exact ok_some ⟨hI_s4, hF_s4, by show -1 ≤ ((-1) : Int32).toInt; decide, by show ((-1) : Int32).toInt ≤ 5; decide⟩
    · have c_4 := tn_ne (a := (r5).toInt) (b := 0) rfl (by decide) c_4
      have l_0 : (0 : Int32).toInt = 0 := by decide
      exact okL_r_alike_20 s0 hB  fu _ _ _ _ (by unfold fu; omega) hI_s4 hF_s4 (by omega) (by omega) (by omega) (by omega) (by decide) (by decide) 
theorem ok_r_alike (s : RS) (x1 : Int32) (x2 : Int32) (hI_s : InvR s) (hB : Big s) : Ok (r_alike s x1 x2) (Q_r_alike s) := ok_r_alikeB s hB s x1 x2 hI_s FrR.rfl
abbrev Q_r_sunk (s0 : RS) (y : Int32 × RS) : Prop := InvR y.2 ∧ FrR [42, 45, 140, 141, 144] s0 y.2 ∧ -2147483648 ≤ y.1.toInt ∧ y.1.toInt ≤ 2147483647
set_option maxHeartbeats 1000000 in
theorem ok_r_sunk_63 (s0 : RS) (hB : Big s0) (k18 : RS → Int32 → Int32 → Int32 → Option (Int32 × RS)) (M18 : Nat) (hk18 : ∀ (s : RS) (x1 : Int32) (x2 : Int32) (x3 : Int32), InvR s → FrR [42, 45, 140, 141, 144] s0 s → 0 ≤ x1.toInt → x1.toInt ≤ 7775 → 0 ≤ x3.toInt → x3.toInt ≤ 6 → (6 - x3.toInt).toNat < M18 → Ok (k18 s x1 x2 x3) (Q_r_sunk s0)) (s : RS) (x1 : Int32) (x2 : Int32) (x3 : Int32) (hI_s : InvR s) (hF_s : FrR [42, 45, 140, 141, 144] s0 s) (h_x1l : 0 ≤ x1.toInt) (h_x1u : x1.toInt ≤ 7775) (h_x3l : 0 ≤ x3.toInt) (h_x3u : x3.toInt ≤ 5) (hM18 : (6 - x3.toInt).toNat ≤ M18) : Ok (r_sunk_63 k18 s x1 x2 x3) (Q_r_sunk s0) := by
  unfold r_sunk_63
  have a_1 : ((x3 + 1)).toInt = (x3).toInt + 1 := tn_add rfl (by decide) (by omega) (by omega)
  exact hk18 _ _ _ _ hI_s hF_s (by omega) (by omega) (by omega) (by omega) (by omega)
set_option maxHeartbeats 1000000 in
theorem ok_r_sunk_18 (s0 : RS) (hB : Big s0) (k18 : RS → Int32 → Int32 → Int32 → Option (Int32 × RS)) (M18 : Nat) (hk18 : ∀ (s : RS) (x1 : Int32) (x2 : Int32) (x3 : Int32), InvR s → FrR [42, 45, 140, 141, 144] s0 s → 0 ≤ x1.toInt → x1.toInt ≤ 7775 → 0 ≤ x3.toInt → x3.toInt ≤ 6 → (6 - x3.toInt).toNat < M18 → Ok (k18 s x1 x2 x3) (Q_r_sunk s0)) (s : RS) (x1 : Int32) (x2 : Int32) (x3 : Int32) (hI_s : InvR s) (hF_s : FrR [42, 45, 140, 141, 144] s0 s) (h_x1l : 0 ≤ x1.toInt) (h_x1u : x1.toInt ≤ 7775) (h_x3l : 0 ≤ x3.toInt) (h_x3u : x3.toInt ≤ 6) (hM18 : (6 - x3.toInt).toNat ≤ M18) : Ok (r_sunk_18 k18 s x1 x2 x3) (Q_r_sunk s0) := by
  unfold r_sunk_18
  have a_1 : 0 ≤ (s.v 18).toInt ∧ (s.v 18).toInt ≤ 1 := hI_s.1 18
  refine ok_grd (vpb_ok (by omega) (by omega)) ?_
  have a_2 : 0 ≤ ((s.f 23 (Int32.toNatClampNeg (s.v 18)))).toInt ∧ ((s.f 23 (Int32.toNatClampNeg (s.v 18)))).toInt ≤ 6 := hI_s.2 23 _
  refine ok_ite (fun c_3 => ?_) (fun c_3 => ?_)
  · have c_3 := tn_le (a := ((s.f 23 (Int32.toNatClampNeg (s.v 18)))).toInt) (b := (x3).toInt) rfl rfl c_3
    exact ok_some ⟨hI_s, hF_s, (ti_rng _).1, (ti_rng _).2⟩
  · have c_3 := tn_nle (a := ((s.f 23 (Int32.toNatClampNeg (s.v 18)))).toInt) (b := (x3).toInt) rfl rfl c_3
    refine ok_bindI (ok_r_isHere _ _ hI_s) (fun r4 s3 hc_4 => ?_)
    have hI_s3 : InvR s3 := hc_4.1
    have hFc_s3 : FrR [] s s3 := hc_4.2.1
    have hF_s3 : FrR [42, 45, 140, 141, 144] s0 s3 := hF_s.trans hFc_s3 (by decide)
    have hl_r4 : 0 ≤ r4.toInt := hc_4.2.2.1
    have hu_r4 : r4.toInt ≤ 1 := hc_4.2.2.2.1
    have hx0_r4 : (¬ r4.toInt = 0 → 0 ≤ (x3).toInt ∧ (x3).toInt ≤ 5) := hc_4.2.2.2.2
    refine ok_ite (fun c_5 => ?_) (fun c_5 => ?_)
    · have c_5 := tn_eq (a := (r4).toInt) (b := 0) rfl (by decide) c_5
      exact ok_r_sunk_63 s0 hB k18 M18 hk18 _ _ _ _ hI_s3 hF_s3 (by omega) (by omega) (by omega) (by omega) (by omega)
    · have c_5 := tn_ne (a := (r4).toInt) (b := 0) rfl (by decide) c_5
      refine ok_bindI (ok_r_bearsBy _ _ _ hI_s3 (hB.fr hF_s3 (by decide)) (by omega) (by omega) (by omega) (by omega)) (fun r7 s6 hc_6 => ?_)
      have hI_s6 : InvR s6 := hc_6.1
      have hFc_s6 : FrR [42, 140, 141] s3 s6 := hc_6.2.1
      have hF_s6 : FrR [42, 45, 140, 141, 144] s0 s6 := hF_s3.trans hFc_s6 (by decide)
      have hl_r7 : 0 ≤ r7.toInt := hc_6.2.2.1
      have hu_r7 : r7.toInt ≤ 5 := hc_6.2.2.2
      have a_7 : (s3.v 18).toInt = (s.v 18).toInt := congrArg Int32.toInt (hFc_s3.1 18 (by decide))
      have a_8 : (s6.v 18).toInt = (s3.v 18).toInt := congrArg Int32.toInt (hFc_s6.1 18 (by decide))
      refine ok_grd (vpb_ok (by omega) (by omega)) ?_
      have a_9 : ((s6.f 20 (Int32.toNatClampNeg (s6.v 18)))).toInt = wv s0 := wv_fr hF_s6 (by decide) (by decide)
      have a_10 : 0 ≤ ((s6.f 20 (Int32.toNatClampNeg (s6.v 18)))).toInt ∧ ((s6.f 20 (Int32.toNatClampNeg (s6.v 18)))).toInt ≤ 5 := hI_s6.2 20 _
      refine ok_ite (fun c_11 => ?_) (fun c_11 => ?_)
      · have c_11 := tn_le (a := ((s6.f 20 (Int32.toNatClampNeg (s6.v 18)))).toInt) (b := (r7).toInt) rfl rfl c_11
        exact ok_r_sunk_63 s0 hB k18 M18 hk18 _ _ _ _ hI_s6 hF_s6 (by omega) (by omega) (by omega) (by omega) (by omega)
      · have c_11 := tn_nle (a := ((s6.f 20 (Int32.toNatClampNeg (s6.v 18)))).toInt) (b := (r7).toInt) rfl rfl c_11
        exact ok_r_sunk_63 s0 hB k18 M18 hk18 _ _ _ _ hI_s6 hF_s6 (by omega) (by omega) (by omega) (by omega) (by omega)
theorem okL_r_sunk_18 (s0 : RS) (hB : Big s0)  : ∀ (n : Nat) (s : RS) (x1 : Int32) (x2 : Int32) (x3 : Int32), (6 - x3.toInt).toNat < n → InvR s → FrR [42, 45, 140, 141, 144] s0 s → 0 ≤ x1.toInt → x1.toInt ≤ 7775 → 0 ≤ x3.toInt → x3.toInt ≤ 6 → Ok (r_sunk_18L  n s x1 x2 x3) (Q_r_sunk s0) := by
  intro n
  induction n with
  | zero => intro s x1 x2 x3 hn; omega
  | succ n ih =>
    intro s x1 x2 x3 hn hI_s hF_s h_x1l h_x1u h_x3l h_x3u 
    exact ok_r_sunk_18 s0 hB (r_sunk_18L  n) ((6 - x3.toInt).toNat) (fun zs zx1 zx2 zx3 g0 g1 g2 g3 g4 g5  hm => ih zs zx1 zx2 zx3 (by omega) g0 g1 g2 g3 g4 g5 ) s x1 x2 x3 hI_s hF_s h_x1l h_x1u h_x3l h_x3u (Nat.le_refl _)
set_option maxHeartbeats 1000000 in
theorem ok_r_sunkB (s0 : RS) (hB : Big s0)  (s : RS) (x1 : Int32) (hI_s : InvR s) (hF_s : FrR [42, 45, 140, 141, 144] s0 s)  : Ok (r_sunk  s x1) (Q_r_sunk s0) := by
  unfold r_sunk
  refine ok_bindI (ok_r_isGuess _ _ hI_s (hB.fr hF_s (by decide))) (fun r2 s1 hc_1 => ?_)
  have hI_s1 : InvR s1 := hc_1.1
  have hFc_s1 : FrR [] s s1 := hc_1.2.1
  have hF_s1 : FrR [42, 45, 140, 141, 144] s0 s1 := hF_s.trans hFc_s1 (by decide)
  have hl_r2 : 0 ≤ r2.toInt := hc_1.2.2.1
  have hu_r2 : r2.toInt ≤ 1 := hc_1.2.2.2.1
  have hx0_r2 : (¬ r2.toInt = 0 → 0 ≤ (x1).toInt ∧ (x1).toInt ≤ 7775) := hc_1.2.2.2.2
  refine ok_ite (fun c_2 => ?_) (fun c_2 => ?_)
  · have c_2 := tn_eq (a := (r2).toInt) (b := 0) rfl (by decide) c_2
    exact ok_some ⟨hI_s1, hF_s1, (ti_rng _).1, (ti_rng _).2⟩
  · have c_2 := tn_ne (a := (r2).toInt) (b := 0) rfl (by decide) c_2
    refine ok_bindP (ok_r_copies _  hI_s1) (fun s4 hc_3 => ?_)
    have hI_s4 : InvR s4 := hc_3.1
    have hFc_s4 : FrR [45, 144] s1 s4 := hc_3.2
    have hF_s4 : FrR [42, 45, 140, 141, 144] s0 s4 := hF_s1.trans hFc_s4 (by decide)
    have l_0 : (0 : Int32).toInt = 0 := by decide
    exact okL_r_sunk_18 s0 hB  fu _ _ _ _ (by unfold fu; omega) hI_s4 hF_s4 (by omega) (by omega) (by decide) (by decide) 
theorem ok_r_sunk (s : RS) (x1 : Int32) (hI_s : InvR s) (hB : Big s) : Ok (r_sunk s x1) (Q_r_sunk s) := ok_r_sunkB s hB s x1 hI_s FrR.rfl
abbrev Q_r_stuck (s0 : RS) (y : Int32 × RS) : Prop := InvR y.2 ∧ FrR [42, 45, 140, 141, 144] s0 y.2 ∧ -2147483648 ≤ y.1.toInt ∧ y.1.toInt ≤ 2147483647
set_option maxHeartbeats 1000000 in
theorem ok_r_stuck_43 (s0 : RS) (hB : Big s0) (k8 : RS → Int32 → Int32 → Option (Int32 × RS)) (M8 : Nat) (hk8 : ∀ (s : RS) (x1 : Int32) (x2 : Int32), InvR s → FrR [42, 45, 140, 141, 144] s0 s → 0 ≤ x2.toInt → x2.toInt ≤ 6 → (6 - x2.toInt).toNat < M8 → Ok (k8 s x1 x2) (Q_r_stuck s0)) (s : RS) (x1 : Int32) (x2 : Int32) (hI_s : InvR s) (hF_s : FrR [42, 45, 140, 141, 144] s0 s) (h_x2l : 0 ≤ x2.toInt) (h_x2u : x2.toInt ≤ 5) (hM8 : (6 - x2.toInt).toNat ≤ M8) : Ok (r_stuck_43 k8 s x1 x2) (Q_r_stuck s0) := by
  unfold r_stuck_43
  have a_1 : ((x2 + 1)).toInt = (x2).toInt + 1 := tn_add rfl (by decide) (by omega) (by omega)
  exact hk8 _ _ _ hI_s hF_s (by omega) (by omega) (by omega)
set_option maxHeartbeats 1000000 in
theorem ok_r_stuck_8 (s0 : RS) (hB : Big s0) (k8 : RS → Int32 → Int32 → Option (Int32 × RS)) (M8 : Nat) (hk8 : ∀ (s : RS) (x1 : Int32) (x2 : Int32), InvR s → FrR [42, 45, 140, 141, 144] s0 s → 0 ≤ x2.toInt → x2.toInt ≤ 6 → (6 - x2.toInt).toNat < M8 → Ok (k8 s x1 x2) (Q_r_stuck s0)) (s : RS) (x1 : Int32) (x2 : Int32) (hI_s : InvR s) (hF_s : FrR [42, 45, 140, 141, 144] s0 s) (h_x2l : 0 ≤ x2.toInt) (h_x2u : x2.toInt ≤ 6) (hM8 : (6 - x2.toInt).toNat ≤ M8) : Ok (r_stuck_8 k8 s x1 x2) (Q_r_stuck s0) := by
  unfold r_stuck_8
  have a_1 : 0 ≤ (s.v 18).toInt ∧ (s.v 18).toInt ≤ 1 := hI_s.1 18
  refine ok_grd (vpb_ok (by omega) (by omega)) ?_
  have a_2 : 0 ≤ ((s.f 23 (Int32.toNatClampNeg (s.v 18)))).toInt ∧ ((s.f 23 (Int32.toNatClampNeg (s.v 18)))).toInt ≤ 6 := hI_s.2 23 _
  refine ok_ite (fun c_3 => ?_) (fun c_3 => ?_)
  · have c_3 := tn_le (a := ((s.f 23 (Int32.toNatClampNeg (s.v 18)))).toInt) (b := (x2).toInt) rfl rfl c_3
    exact ok_some ⟨hI_s, hF_s, (ti_rng _).1, (ti_rng _).2⟩
  · have c_3 := tn_nle (a := ((s.f 23 (Int32.toNatClampNeg (s.v 18)))).toInt) (b := (x2).toInt) rfl rfl c_3
    refine ok_bindI (ok_r_isHere _ _ hI_s) (fun r4 s3 hc_4 => ?_)
    have hI_s3 : InvR s3 := hc_4.1
    have hFc_s3 : FrR [] s s3 := hc_4.2.1
    have hF_s3 : FrR [42, 45, 140, 141, 144] s0 s3 := hF_s.trans hFc_s3 (by decide)
    have hl_r4 : 0 ≤ r4.toInt := hc_4.2.2.1
    have hu_r4 : r4.toInt ≤ 1 := hc_4.2.2.2.1
    have hx0_r4 : (¬ r4.toInt = 0 → 0 ≤ (x2).toInt ∧ (x2).toInt ≤ 5) := hc_4.2.2.2.2
    refine ok_ite (fun c_5 => ?_) (fun c_5 => ?_)
    · have c_5 := tn_eq (a := (r4).toInt) (b := 0) rfl (by decide) c_5
      exact ok_r_stuck_43 s0 hB k8 M8 hk8 _ _ _ hI_s3 hF_s3 (by omega) (by omega) (by omega)
    · have c_5 := tn_ne (a := (r4).toInt) (b := 0) rfl (by decide) c_5
      refine ok_bindI (ok_r_bestFor _ _ hI_s3 (hB.fr hF_s3 (by decide)) (by omega) (by omega)) (fun r7 s6 hc_6 => ?_)
      have hI_s6 : InvR s6 := hc_6.1
      have hFc_s6 : FrR [42, 140, 141] s3 s6 := hc_6.2.1
      have hF_s6 : FrR [42, 45, 140, 141, 144] s0 s6 := hF_s3.trans hFc_s6 (by decide)
      have hl_r7 : -2 ≤ r7.toInt := hc_6.2.2.1
      have hu_r7 : r7.toInt ≤ 194400 := hc_6.2.2.2
      refine ok_ite (fun c_7 => ?_) (fun c_7 => ?_)
      · have c_7 := tn_le (a := 0) (b := (r7).toInt) (by decide) rfl c_7
        exact ok_r_stuck_43 s0 hB k8 M8 hk8 _ _ _ hI_s6 hF_s6 (by omega) (by omega) (by omega)
      · have c_7 := tn_nle (a := 0) (b := (r7).toInt) (by decide) rfl c_7
        exact ok_r_stuck_43 s0 hB k8 M8 hk8 _ _ _ hI_s6 hF_s6 (by omega) (by omega) (by omega)
theorem okL_r_stuck_8 (s0 : RS) (hB : Big s0)  : ∀ (n : Nat) (s : RS) (x1 : Int32) (x2 : Int32), (6 - x2.toInt).toNat < n → InvR s → FrR [42, 45, 140, 141, 144] s0 s → 0 ≤ x2.toInt → x2.toInt ≤ 6 → Ok (r_stuck_8L  n s x1 x2) (Q_r_stuck s0) := by
  intro n
  induction n with
  | zero => intro s x1 x2 hn; omega
  | succ n ih =>
    intro s x1 x2 hn hI_s hF_s h_x2l h_x2u 
    exact ok_r_stuck_8 s0 hB (r_stuck_8L  n) ((6 - x2.toInt).toNat) (fun zs zx1 zx2 g0 g1 g2 g3  hm => ih zs zx1 zx2 (by omega) g0 g1 g2 g3 ) s x1 x2 hI_s hF_s h_x2l h_x2u (Nat.le_refl _)
set_option maxHeartbeats 1000000 in
theorem ok_r_stuckB (s0 : RS) (hB : Big s0)  (s : RS) (hI_s : InvR s) (hF_s : FrR [42, 45, 140, 141, 144] s0 s)  : Ok (r_stuck  s) (Q_r_stuck s0) := by
  unfold r_stuck
  refine ok_bindP (ok_r_copies _  hI_s) (fun s1 hc_1 => ?_)
  have hI_s1 : InvR s1 := hc_1.1
  have hFc_s1 : FrR [45, 144] s s1 := hc_1.2
  have hF_s1 : FrR [42, 45, 140, 141, 144] s0 s1 := hF_s.trans hFc_s1 (by decide)
  have l_0 : (0 : Int32).toInt = 0 := by decide
  exact okL_r_stuck_8 s0 hB  fu _ _ _ (by unfold fu; omega) hI_s1 hF_s1 (by decide) (by decide) 
theorem ok_r_stuck (s : RS) (hI_s : InvR s) (hB : Big s) : Ok (r_stuck s) (Q_r_stuck s) := ok_r_stuckB s hB s hI_s FrR.rfl
abbrev Q_r_spread (s0 : RS) (y : Int32 × RS) : Prop := InvR y.2 ∧ FrR [45, 144] s0 y.2 ∧ -2147483648 ≤ y.1.toInt ∧ y.1.toInt ≤ 2147483647
set_option maxHeartbeats 1000000 in
theorem ok_r_spread_80 (s0 : RS) (k22 : RS → Int32 → Int32 → Int32 → Int32 → Option (Int32 × RS)) (M22 : Nat) (hk22 : ∀ (s : RS) (x1 : Int32) (x2 : Int32) (x3 : Int32) (x4 : Int32), InvR s → FrR [45, 144] s0 s → 0 ≤ x1.toInt → x1.toInt ≤ 4 → 0 ≤ x4.toInt → x4.toInt ≤ 6 → (6 - x4.toInt).toNat < M22 → Ok (k22 s x1 x2 x3 x4) (Q_r_spread s0)) (s : RS) (x1 : Int32) (x2 : Int32) (x3 : Int32) (x4 : Int32) (hI_s : InvR s) (hF_s : FrR [45, 144] s0 s) (h_x1l : 0 ≤ x1.toInt) (h_x1u : x1.toInt ≤ 4) (h_x4l : 0 ≤ x4.toInt) (h_x4u : x4.toInt ≤ 5) (hM22 : (6 - x4.toInt).toNat ≤ M22) : Ok (r_spread_80 k22 s x1 x2 x3 x4) (Q_r_spread s0) := by
  unfold r_spread_80
  have a_1 : ((x4 + 1)).toInt = (x4).toInt + 1 := tn_add rfl (by decide) (by omega) (by omega)
  exact hk22 _ _ _ _ _ hI_s hF_s (by omega) (by omega) (by omega) (by omega) (by omega)
set_option maxHeartbeats 1000000 in
theorem ok_r_spread_61 (s0 : RS) (k22 : RS → Int32 → Int32 → Int32 → Int32 → Option (Int32 × RS)) (M22 : Nat) (hk22 : ∀ (s : RS) (x1 : Int32) (x2 : Int32) (x3 : Int32) (x4 : Int32), InvR s → FrR [45, 144] s0 s → 0 ≤ x1.toInt → x1.toInt ≤ 4 → 0 ≤ x4.toInt → x4.toInt ≤ 6 → (6 - x4.toInt).toNat < M22 → Ok (k22 s x1 x2 x3 x4) (Q_r_spread s0)) (s : RS) (x1 : Int32) (x2 : Int32) (x3 : Int32) (x4 : Int32) (hI_s : InvR s) (hF_s : FrR [45, 144] s0 s) (h_x1l : 0 ≤ x1.toInt) (h_x1u : x1.toInt ≤ 4) (h_x4l : 0 ≤ x4.toInt) (h_x4u : x4.toInt ≤ 5) (hM22 : (6 - x4.toInt).toNat ≤ M22) : Ok (r_spread_61 k22 s x1 x2 x3 x4) (Q_r_spread s0) := by
  unfold r_spread_61
  refine ok_bindI (ok_r_oddsAt _ _ _ hI_s (by omega) (by omega) (by omega) (by omega)) (fun r2 s1 hc_1 => ?_)
  have hI_s1 : InvR s1 := hc_1.1
  have hFc_s1 : FrR [] s s1 := hc_1.2.1
  have hF_s1 : FrR [45, 144] s0 s1 := hF_s.trans hFc_s1 (by decide)
  refine ok_ite (fun c_2 => ?_) (fun c_2 => ?_)
  · have c_2 := tn_le (a := (x3).toInt) (b := (r2).toInt) rfl rfl c_2
    exact ok_r_spread_80 s0 k22 M22 hk22 _ _ _ _ _ hI_s1 hF_s1 (by omega) (by omega) (by omega) (by omega) (by omega)
  · have c_2 := tn_nle (a := (x3).toInt) (b := (r2).toInt) rfl rfl c_2
    refine ok_bindI (ok_r_oddsAt _ _ _ hI_s1 (by omega) (by omega) (by omega) (by omega)) (fun r5 s4 hc_3 => ?_)
    have hI_s4 : InvR s4 := hc_3.1
    have hFc_s4 : FrR [] s1 s4 := hc_3.2.1
    have hF_s4 : FrR [45, 144] s0 s4 := hF_s1.trans hFc_s4 (by decide)
    exact ok_r_spread_80 s0 k22 M22 hk22 _ _ _ _ _ hI_s4 hF_s4 (by omega) (by omega) (by omega) (by omega) (by omega)
set_option maxHeartbeats 1000000 in
theorem ok_r_spread_22 (s0 : RS) (k22 : RS → Int32 → Int32 → Int32 → Int32 → Option (Int32 × RS)) (M22 : Nat) (hk22 : ∀ (s : RS) (x1 : Int32) (x2 : Int32) (x3 : Int32) (x4 : Int32), InvR s → FrR [45, 144] s0 s → 0 ≤ x1.toInt → x1.toInt ≤ 4 → 0 ≤ x4.toInt → x4.toInt ≤ 6 → (6 - x4.toInt).toNat < M22 → Ok (k22 s x1 x2 x3 x4) (Q_r_spread s0)) (s : RS) (x1 : Int32) (x2 : Int32) (x3 : Int32) (x4 : Int32) (hI_s : InvR s) (hF_s : FrR [45, 144] s0 s) (h_x1l : 0 ≤ x1.toInt) (h_x1u : x1.toInt ≤ 4) (h_x4l : 0 ≤ x4.toInt) (h_x4u : x4.toInt ≤ 6) (hM22 : (6 - x4.toInt).toNat ≤ M22) : Ok (r_spread_22 k22 s x1 x2 x3 x4) (Q_r_spread s0) := by
  unfold r_spread_22
  refine ok_ite (fun c_1 => ?_) (fun c_1 => ?_)
  · have c_1 := tn_le (a := 6) (b := (x4).toInt) (by decide) rfl c_1
    refine ok_ite (fun c_2 => ?_) (fun c_2 => ?_)
    · have c_2 := tn_le (a := (x3).toInt) (b := (x2).toInt) rfl rfl c_2
      exact ok_some ⟨hI_s, hF_s, (ti_rng _).1, (ti_rng _).2⟩
    · have c_2 := tn_nle (a := (x3).toInt) (b := (x2).toInt) rfl rfl c_2
      exact ok_some ⟨hI_s, hF_s, (ti_rng _).1, (ti_rng _).2⟩
  · have c_1 := tn_nle (a := 6) (b := (x4).toInt) (by decide) rfl c_1
    refine ok_bindI (ok_r_mayBe _ _ _ hI_s (by omega) (by omega) (by omega) (by omega)) (fun r4 s3 hc_3 => ?_)
    have hI_s3 : InvR s3 := hc_3.1
    have hFc_s3 : FrR [] s s3 := hc_3.2.1
    have hF_s3 : FrR [45, 144] s0 s3 := hF_s.trans hFc_s3 (by decide)
    have hl_r4 : 0 ≤ r4.toInt := hc_3.2.2.1
    have hu_r4 : r4.toInt ≤ 1 := hc_3.2.2.2
    refine ok_ite (fun c_4 => ?_) (fun c_4 => ?_)
    · have c_4 := tn_eq (a := (r4).toInt) (b := 0) rfl (by decide) c_4
      exact ok_r_spread_80 s0 k22 M22 hk22 _ _ _ _ _ hI_s3 hF_s3 (by omega) (by omega) (by omega) (by omega) (by omega)
    · have c_4 := tn_ne (a := (r4).toInt) (b := 0) rfl (by decide) c_4
      refine ok_bindI (ok_r_oddsAt _ _ _ hI_s3 (by omega) (by omega) (by omega) (by omega)) (fun r7 s6 hc_5 => ?_)
      have hI_s6 : InvR s6 := hc_5.1
      have hFc_s6 : FrR [] s3 s6 := hc_5.2.1
      have hF_s6 : FrR [45, 144] s0 s6 := hF_s3.trans hFc_s6 (by decide)
      refine ok_ite (fun c_6 => ?_) (fun c_6 => ?_)
      · have c_6 := tn_le (a := (r7).toInt) (b := (x2).toInt) rfl rfl c_6
        exact ok_r_spread_61 s0 k22 M22 hk22 _ _ _ _ _ hI_s6 hF_s6 (by omega) (by omega) (by omega) (by omega) (by omega)
      · have c_6 := tn_nle (a := (r7).toInt) (b := (x2).toInt) rfl rfl c_6
        refine ok_bindI (ok_r_oddsAt _ _ _ hI_s6 (by omega) (by omega) (by omega) (by omega)) (fun r10 s9 hc_7 => ?_)
        have hI_s9 : InvR s9 := hc_7.1
        have hFc_s9 : FrR [] s6 s9 := hc_7.2.1
        have hF_s9 : FrR [45, 144] s0 s9 := hF_s6.trans hFc_s9 (by decide)
        exact ok_r_spread_61 s0 k22 M22 hk22 _ _ _ _ _ hI_s9 hF_s9 (by omega) (by omega) (by omega) (by omega) (by omega)
theorem okL_r_spread_22 (s0 : RS)  : ∀ (n : Nat) (s : RS) (x1 : Int32) (x2 : Int32) (x3 : Int32) (x4 : Int32), (6 - x4.toInt).toNat < n → InvR s → FrR [45, 144] s0 s → 0 ≤ x1.toInt → x1.toInt ≤ 4 → 0 ≤ x4.toInt → x4.toInt ≤ 6 → Ok (r_spread_22L  n s x1 x2 x3 x4) (Q_r_spread s0) := by
  intro n
  induction n with
  | zero => intro s x1 x2 x3 x4 hn; omega
  | succ n ih =>
    intro s x1 x2 x3 x4 hn hI_s hF_s h_x1l h_x1u h_x4l h_x4u 
    exact ok_r_spread_22 s0 (r_spread_22L  n) ((6 - x4.toInt).toNat) (fun zs zx1 zx2 zx3 zx4 g0 g1 g2 g3 g4 g5  hm => ih zs zx1 zx2 zx3 zx4 (by omega) g0 g1 g2 g3 g4 g5 ) s x1 x2 x3 x4 hI_s hF_s h_x1l h_x1u h_x4l h_x4u (Nat.le_refl _)
set_option maxHeartbeats 1000000 in
theorem ok_r_spreadB (s0 : RS)  (s : RS) (x1 : Int32) (hI_s : InvR s) (hF_s : FrR [45, 144] s0 s)  : Ok (r_spread  s x1) (Q_r_spread s0) := by
  unfold r_spread
  refine ok_bindI (ok_r_isWave _ _ hI_s) (fun r2 s1 hc_1 => ?_)
  have hI_s1 : InvR s1 := hc_1.1
  have hFc_s1 : FrR [] s s1 := hc_1.2.1
  have hF_s1 : FrR [45, 144] s0 s1 := hF_s.trans hFc_s1 (by decide)
  have a_2 : wv s = wv s0 := wv_fr hF_s (by decide) (by decide)
  have hl_r2 : 0 ≤ r2.toInt := hc_1.2.2.1
  have hu_r2 : r2.toInt ≤ 1 := hc_1.2.2.2.1
  have hx0_r2 : (¬ r2.toInt = 0 → 0 ≤ (x1).toInt ∧ (x1).toInt < wv s ∧ wv s ≤ 5) := hc_1.2.2.2.2
  refine ok_ite (fun c_3 => ?_) (fun c_3 => ?_)
  · have c_3 := tn_eq (a := (r2).toInt) (b := 0) rfl (by decide) c_3
    exact ok_some ⟨hI_s1, hF_s1, (ti_rng _).1, (ti_rng _).2⟩
  · have c_3 := tn_ne (a := (r2).toInt) (b := 0) rfl (by decide) c_3
    refine ok_bindP (ok_r_copies _  hI_s1) (fun s4 hc_4 => ?_)
    have hI_s4 : InvR s4 := hc_4.1
    have hFc_s4 : FrR [45, 144] s1 s4 := hc_4.2
    have hF_s4 : FrR [45, 144] s0 s4 := hF_s1.trans hFc_s4 (by decide)
    have l_0 : (0 : Int32).toInt = 0 := by decide
    have l_10 : (10 : Int32).toInt = 10 := by decide
    exact okL_r_spread_22 s0  fu _ _ _ _ _ (by unfold fu; omega) hI_s4 hF_s4 (by omega) (by omega) (by decide) (by decide) 
theorem ok_r_spread (s : RS) (x1 : Int32) (hI_s : InvR s) : Ok (r_spread s x1) (Q_r_spread s) := ok_r_spreadB s s x1 hI_s FrR.rfl
abbrev Q_r_dearest (s0 : RS) (y : Int32 × RS) : Prop := InvR y.2 ∧ FrR [42, 45, 140, 141, 144] s0 y.2 ∧ -2 ≤ y.1.toInt ∧ y.1.toInt ≤ 100
set_option maxHeartbeats 1000000 in
theorem ok_r_dearest_52 (s0 : RS) (hB : Big s0) (k20 : RS → Int32 → Int32 → Int32 → Option (Int32 × RS)) (M20 : Nat) (hk20 : ∀ (s : RS) (x1 : Int32) (x2 : Int32) (x3 : Int32), InvR s → FrR [42, 45, 140, 141, 144] s0 s → 0 ≤ x1.toInt → x1.toInt ≤ 1 → -2 ≤ x2.toInt → x2.toInt ≤ 5 → 0 ≤ x3.toInt → x3.toInt ≤ 6 → (6 - x3.toInt).toNat < M20 → Ok (k20 s x1 x2 x3) (Q_r_dearest s0)) (s : RS) (x1 : Int32) (x2 : Int32) (x3 : Int32) (hI_s : InvR s) (hF_s : FrR [42, 45, 140, 141, 144] s0 s) (h_x1l : 0 ≤ x1.toInt) (h_x1u : x1.toInt ≤ 1) (h_x2l : 0 ≤ x2.toInt) (h_x2u : x2.toInt ≤ 5) (h_x3l : 0 ≤ x3.toInt) (h_x3u : x3.toInt ≤ 5) (hM20 : (6 - x3.toInt).toNat ≤ M20) : Ok (r_dearest_52 k20 s x1 x2 x3) (Q_r_dearest s0) := by
  unfold r_dearest_52
  have a_1 : ((x3 + 1)).toInt = (x3).toInt + 1 := tn_add rfl (by decide) (by omega) (by omega)
  exact hk20 _ _ _ _ hI_s hF_s (by omega) (by omega) (by omega) (by omega) (by omega) (by omega) (by omega)
set_option maxHeartbeats 1000000 in
theorem ok_r_dearest_50 (s0 : RS) (hB : Big s0) (k20 : RS → Int32 → Int32 → Int32 → Option (Int32 × RS)) (M20 : Nat) (hk20 : ∀ (s : RS) (x1 : Int32) (x2 : Int32) (x3 : Int32), InvR s → FrR [42, 45, 140, 141, 144] s0 s → 0 ≤ x1.toInt → x1.toInt ≤ 1 → -2 ≤ x2.toInt → x2.toInt ≤ 5 → 0 ≤ x3.toInt → x3.toInt ≤ 6 → (6 - x3.toInt).toNat < M20 → Ok (k20 s x1 x2 x3) (Q_r_dearest s0)) (s : RS) (x1 : Int32) (x3 : Int32) (hI_s : InvR s) (hF_s : FrR [42, 45, 140, 141, 144] s0 s) (h_x1l : 0 ≤ x1.toInt) (h_x1u : x1.toInt ≤ 1) (h_x3l : 0 ≤ x3.toInt) (h_x3u : x3.toInt ≤ 5) (hM20 : (6 - x3.toInt).toNat ≤ M20) : Ok (r_dearest_50 k20 s x1 x3) (Q_r_dearest s0) := by
  unfold r_dearest_50
  exact ok_r_dearest_52 s0 hB k20 M20 hk20 _ _ _ _ hI_s hF_s (by omega) (by omega) (by omega) (by omega) (by omega) (by omega) (by omega)
set_option maxHeartbeats 1000000 in
theorem ok_r_dearest_20 (s0 : RS) (hB : Big s0) (k20 : RS → Int32 → Int32 → Int32 → Option (Int32 × RS)) (M20 : Nat) (hk20 : ∀ (s : RS) (x1 : Int32) (x2 : Int32) (x3 : Int32), InvR s → FrR [42, 45, 140, 141, 144] s0 s → 0 ≤ x1.toInt → x1.toInt ≤ 1 → -2 ≤ x2.toInt → x2.toInt ≤ 5 → 0 ≤ x3.toInt → x3.toInt ≤ 6 → (6 - x3.toInt).toNat < M20 → Ok (k20 s x1 x2 x3) (Q_r_dearest s0)) (s : RS) (x1 : Int32) (x2 : Int32) (x3 : Int32) (hI_s : InvR s) (hF_s : FrR [42, 45, 140, 141, 144] s0 s) (h_x1l : 0 ≤ x1.toInt) (h_x1u : x1.toInt ≤ 1) (h_x2l : -2 ≤ x2.toInt) (h_x2u : x2.toInt ≤ 5) (h_x3l : 0 ≤ x3.toInt) (h_x3u : x3.toInt ≤ 6) (hM20 : (6 - x3.toInt).toNat ≤ M20) : Ok (r_dearest_20 k20 s x1 x2 x3) (Q_r_dearest s0) := by
  unfold r_dearest_20
  have a_1 : 0 ≤ (s.v 18).toInt ∧ (s.v 18).toInt ≤ 1 := hI_s.1 18
  refine ok_grd (vpb_ok (by omega) (by omega)) ?_
  have a_2 : 0 ≤ ((s.f 23 (Int32.toNatClampNeg (s.v 18)))).toInt ∧ ((s.f 23 (Int32.toNatClampNeg (s.v 18)))).toInt ≤ 6 := hI_s.2 23 _
  refine ok_ite (fun c_3 => ?_) (fun c_3 => ?_)
  · have c_3 := tn_le (a := ((s.f 23 (Int32.toNatClampNeg (s.v 18)))).toInt) (b := (x3).toInt) rfl rfl c_3
    refine ok_ite (fun c_4 => ?_) (fun c_4 => ?_)
    · have c_4 := tn_lt (a := (x2).toInt) (b := 0) rfl (by decide) c_4
      exact ok_some ⟨hI_s, hF_s, by show -2 ≤ (x2).toInt; omega, by show (x2).toInt ≤ 100; omega⟩
    · have c_4 := tn_nlt (a := (x2).toInt) (b := 0) rfl (by decide) c_4
      refine ok_ite (fun c_5 => ?_) (fun c_5 => ?_)
      · have c_5 := tn_eq (a := (x1).toInt) (b := 0) rfl (by decide) c_5
        exact ok_some ⟨hI_s, hF_s, by show -2 ≤ (x2).toInt; omega, by show (x2).toInt ≤ 100; omega⟩
      · have c_5 := tn_ne (a := (x1).toInt) (b := 0) rfl (by decide) c_5
        refine ok_bindI (ok_r_faresOf _ _ hI_s (hB.fr hF_s (by decide)) (by omega) (by omega)) (fun r6 s5 hc_6 => ?_)
        have hI_s5 : InvR s5 := hc_6.1
        have hFc_s5 : FrR [42, 140, 141] s s5 := hc_6.2.1
        have hF_s5 : FrR [42, 45, 140, 141, 144] s0 s5 := hF_s.trans hFc_s5 (by decide)
        have hl_r6 : 0 ≤ r6.toInt := hc_6.2.2.1
        have hu_r6 : r6.toInt ≤ 100 := hc_6.2.2.2
        exact ok_some ⟨hI_s5, hF_s5, by show -2 ≤ (r6).toInt; omega, by show (r6).toInt ≤ 100; omega⟩
  · have c_3 := tn_nle (a := ((s.f 23 (Int32.toNatClampNeg (s.v 18)))).toInt) (b := (x3).toInt) rfl rfl c_3
    refine ok_ite (fun c_7 => ?_) (fun c_7 => ?_)
    · have c_7 := tn_lt (a := (x2).toInt) (b := 0) rfl (by decide) c_7
      exact ok_r_dearest_50 s0 hB k20 M20 hk20 _ _ _ hI_s hF_s (by omega) (by omega) (by omega) (by omega) (by omega)
    · have c_7 := tn_nlt (a := (x2).toInt) (b := 0) rfl (by decide) c_7
      refine ok_bindI (ok_r_faresOf _ _ hI_s (hB.fr hF_s (by decide)) (by omega) (by omega)) (fun r9 s8 hc_8 => ?_)
      have hI_s8 : InvR s8 := hc_8.1
      have hFc_s8 : FrR [42, 140, 141] s s8 := hc_8.2.1
      have hF_s8 : FrR [42, 45, 140, 141, 144] s0 s8 := hF_s.trans hFc_s8 (by decide)
      have hl_r9 : 0 ≤ r9.toInt := hc_8.2.2.1
      have hu_r9 : r9.toInt ≤ 100 := hc_8.2.2.2
      refine ok_bindI (ok_r_faresOf _ _ hI_s8 (hB.fr hF_s8 (by decide)) (by omega) (by omega)) (fun r11 s10 hc_9 => ?_)
      have hI_s10 : InvR s10 := hc_9.1
      have hFc_s10 : FrR [42, 140, 141] s8 s10 := hc_9.2.1
      have hF_s10 : FrR [42, 45, 140, 141, 144] s0 s10 := hF_s8.trans hFc_s10 (by decide)
      have hl_r11 : 0 ≤ r11.toInt := hc_9.2.2.1
      have hu_r11 : r11.toInt ≤ 100 := hc_9.2.2.2
      refine ok_ite (fun c_10 => ?_) (fun c_10 => ?_)
      · have c_10 := tn_le (a := (r9).toInt) (b := (r11).toInt) rfl rfl c_10
        exact ok_r_dearest_52 s0 hB k20 M20 hk20 _ _ _ _ hI_s10 hF_s10 (by omega) (by omega) (by omega) (by omega) (by omega) (by omega) (by omega)
      · have c_10 := tn_nle (a := (r9).toInt) (b := (r11).toInt) rfl rfl c_10
        exact ok_r_dearest_50 s0 hB k20 M20 hk20 _ _ _ hI_s10 hF_s10 (by omega) (by omega) (by omega) (by omega) (by omega)
theorem okL_r_dearest_20 (s0 : RS) (hB : Big s0)  : ∀ (n : Nat) (s : RS) (x1 : Int32) (x2 : Int32) (x3 : Int32), (6 - x3.toInt).toNat < n → InvR s → FrR [42, 45, 140, 141, 144] s0 s → 0 ≤ x1.toInt → x1.toInt ≤ 1 → -2 ≤ x2.toInt → x2.toInt ≤ 5 → 0 ≤ x3.toInt → x3.toInt ≤ 6 → Ok (r_dearest_20L  n s x1 x2 x3) (Q_r_dearest s0) := by
  intro n
  induction n with
  | zero => intro s x1 x2 x3 hn; omega
  | succ n ih =>
    intro s x1 x2 x3 hn hI_s hF_s h_x1l h_x1u h_x2l h_x2u h_x3l h_x3u 
    exact ok_r_dearest_20 s0 hB (r_dearest_20L  n) ((6 - x3.toInt).toNat) (fun zs zx1 zx2 zx3 g0 g1 g2 g3 g4 g5 g6 g7  hm => ih zs zx1 zx2 zx3 (by omega) g0 g1 g2 g3 g4 g5 g6 g7 ) s x1 x2 x3 hI_s hF_s h_x1l h_x1u h_x2l h_x2u h_x3l h_x3u (Nat.le_refl _)
set_option maxHeartbeats 1000000 in
theorem ok_r_dearestB (s0 : RS) (hB : Big s0)  (s : RS) (x1 : Int32) (hI_s : InvR s) (hF_s : FrR [42, 45, 140, 141, 144] s0 s)  : Ok (r_dearest  s x1) (Q_r_dearest s0) := by
  unfold r_dearest
  refine ok_bindP (ok_r_in _ _ _ (by decide) (by decide) (by decide) (by decide)) (fun r1 hc_1 => ?_)
  have l_0 : (0 : Int32).toInt = 0 := by decide
  have l_1 : (1 : Int32).toInt = 1 := by decide
  have hl_r1 : 0 ≤ r1.toInt := hc_1.1
  have hu_r1 : r1.toInt ≤ 1 := hc_1.2.1
  have hx0_r1 : (¬ r1.toInt = 0 → (0 : Int32).toInt ≤ (x1).toInt ∧ (x1).toInt ≤ (1 : Int32).toInt) := hc_1.2.2
  refine ok_ite (fun c_2 => ?_) (fun c_2 => ?_)
  · have c_2 := tn_eq (a := (r1).toInt) (b := 0) rfl (by decide) c_2
    exact ok_some ⟨hI_s, hF_s, by show -2 ≤ ((-1) : Int32).toInt; decide, by show ((-1) : Int32).toInt ≤ 100; decide⟩
  · have c_2 := tn_ne (a := (r1).toInt) (b := 0) rfl (by decide) c_2
    refine ok_bindP (ok_r_copies _  hI_s) (fun s3 hc_3 => ?_)
    have hI_s3 : InvR s3 := hc_3.1
    have hFc_s3 : FrR [45, 144] s s3 := hc_3.2
    have hF_s3 : FrR [42, 45, 140, 141, 144] s0 s3 := hF_s.trans hFc_s3 (by decide)
    have l_m2 : ((-2) : Int32).toInt = -2 := by decide
    exact okL_r_dearest_20 s0 hB  fu _ _ _ _ (by unfold fu; omega) hI_s3 hF_s3 (by omega) (by omega) (by decide) (by decide) (by decide) (by decide) 
theorem ok_r_dearest (s : RS) (x1 : Int32) (hI_s : InvR s) (hB : Big s) : Ok (r_dearest s x1) (Q_r_dearest s) := ok_r_dearestB s hB s x1 hI_s FrR.rfl
abbrev Q_r_chosen (s0 : RS) (y : Int32 × RS) : Prop := InvR y.2 ∧ FrR [42, 45, 140, 141, 144] s0 y.2 ∧ -2 ≤ y.1.toInt ∧ y.1.toInt ≤ 5
set_option maxHeartbeats 1000000 in
theorem ok_r_chosen_75 (s0 : RS) (hB : Big s0) (k11 : RS → Int32 → Int32 → Int32 → Option (Int32 × RS)) (M11 : Nat) (hk11 : ∀ (s : RS) (x1 : Int32) (x2 : Int32) (x3 : Int32), InvR s → FrR [42, 45, 140, 141, 144] s0 s → -2 ≤ x1.toInt → x1.toInt ≤ 5 → 0 ≤ x3.toInt → x3.toInt ≤ 6 → (6 - x3.toInt).toNat < M11 → Ok (k11 s x1 x2 x3) (Q_r_chosen s0)) (s : RS) (x1 : Int32) (x2 : Int32) (x3 : Int32) (hI_s : InvR s) (hF_s : FrR [42, 45, 140, 141, 144] s0 s) (h_x1l : -2 ≤ x1.toInt) (h_x1u : x1.toInt ≤ 5) (h_x3l : 0 ≤ x3.toInt) (h_x3u : x3.toInt ≤ 5) (hM11 : (6 - x3.toInt).toNat ≤ M11) : Ok (r_chosen_75 k11 s x1 x2 x3) (Q_r_chosen s0) := by
  unfold r_chosen_75
  have a_1 : ((x3 + 1)).toInt = (x3).toInt + 1 := tn_add rfl (by decide) (by omega) (by omega)
  exact hk11 _ _ _ _ hI_s hF_s (by omega) (by omega) (by omega) (by omega) (by omega)
set_option maxHeartbeats 1000000 in
theorem ok_r_chosen_66 (s0 : RS) (hB : Big s0) (k11 : RS → Int32 → Int32 → Int32 → Option (Int32 × RS)) (M11 : Nat) (hk11 : ∀ (s : RS) (x1 : Int32) (x2 : Int32) (x3 : Int32), InvR s → FrR [42, 45, 140, 141, 144] s0 s → -2 ≤ x1.toInt → x1.toInt ≤ 5 → 0 ≤ x3.toInt → x3.toInt ≤ 6 → (6 - x3.toInt).toNat < M11 → Ok (k11 s x1 x2 x3) (Q_r_chosen s0)) (s : RS) (x3 : Int32) (x4 : Int32) (hI_s : InvR s) (hF_s : FrR [42, 45, 140, 141, 144] s0 s) (h_x3l : 0 ≤ x3.toInt) (h_x3u : x3.toInt ≤ 5) (h_x4l : 0 ≤ x4.toInt) (h_x4u : x4.toInt ≤ 194400) (hM11 : (6 - x3.toInt).toNat ≤ M11) : Ok (r_chosen_66 k11 s x3 x4) (Q_r_chosen s0) := by
  unfold r_chosen_66
  refine ok_bindI (ok_r_chanceOf _ _ hI_s (hB.fr hF_s (by decide)) (by omega) (by omega)) (fun r2 s1 hc_1 => ?_)
  have hI_s1 : InvR s1 := hc_1.1
  have hFc_s1 : FrR [] s s1 := hc_1.2.1
  have hF_s1 : FrR [42, 45, 140, 141, 144] s0 s1 := hF_s.trans hFc_s1 (by decide)
  exact ok_r_chosen_75 s0 hB k11 M11 hk11 _ _ _ _ hI_s1 hF_s1 (by omega) (by omega) (by omega) (by omega) (by omega)
set_option maxHeartbeats 1000000 in
theorem ok_r_chosen_42 (s0 : RS) (hB : Big s0) (k11 : RS → Int32 → Int32 → Int32 → Option (Int32 × RS)) (M11 : Nat) (hk11 : ∀ (s : RS) (x1 : Int32) (x2 : Int32) (x3 : Int32), InvR s → FrR [42, 45, 140, 141, 144] s0 s → -2 ≤ x1.toInt → x1.toInt ≤ 5 → 0 ≤ x3.toInt → x3.toInt ≤ 6 → (6 - x3.toInt).toNat < M11 → Ok (k11 s x1 x2 x3) (Q_r_chosen s0)) (s : RS) (x1 : Int32) (x2 : Int32) (x3 : Int32) (t0 : Int32) (hI_s : InvR s) (hF_s : FrR [42, 45, 140, 141, 144] s0 s) (h_x1l : -2 ≤ x1.toInt) (h_x1u : x1.toInt ≤ 5) (h_x3l : 0 ≤ x3.toInt) (h_x3u : x3.toInt ≤ 5) (h_t0l : -2 ≤ t0.toInt) (h_t0u : t0.toInt ≤ 194400) (hM11 : (6 - x3.toInt).toNat ≤ M11) : Ok (r_chosen_42 k11 s x1 x2 x3 t0) (Q_r_chosen s0) := by
  unfold r_chosen_42
  refine ok_ite (fun c_1 => ?_) (fun c_1 => ?_)
  · have c_1 := tn_lt (a := (t0).toInt) (b := 0) rfl (by decide) c_1
    exact ok_r_chosen_75 s0 hB k11 M11 hk11 _ _ _ _ hI_s hF_s (by omega) (by omega) (by omega) (by omega) (by omega)
  · have c_1 := tn_nlt (a := (t0).toInt) (b := 0) rfl (by decide) c_1
    refine ok_ite (fun c_2 => ?_) (fun c_2 => ?_)
    · have c_2 := tn_lt (a := (x1).toInt) (b := 0) rfl (by decide) c_2
      exact ok_r_chosen_66 s0 hB k11 M11 hk11 _ _ _ hI_s hF_s (by omega) (by omega) (by omega) (by omega) (by omega)
    · have c_2 := tn_nlt (a := (x1).toInt) (b := 0) rfl (by decide) c_2
      refine ok_bindI (ok_r_chanceOf _ _ hI_s (hB.fr hF_s (by decide)) (by omega) (by omega)) (fun r4 s3 hc_3 => ?_)
      have hI_s3 : InvR s3 := hc_3.1
      have hFc_s3 : FrR [] s s3 := hc_3.2.1
      have hF_s3 : FrR [42, 45, 140, 141, 144] s0 s3 := hF_s.trans hFc_s3 (by decide)
      refine ok_ite (fun c_4 => ?_) (fun c_4 => ?_)
      · have c_4 := tn_lt (a := (x2).toInt) (b := (r4).toInt) rfl rfl c_4
        exact ok_r_chosen_66 s0 hB k11 M11 hk11 _ _ _ hI_s3 hF_s3 (by omega) (by omega) (by omega) (by omega) (by omega)
      · have c_4 := tn_nlt (a := (x2).toInt) (b := (r4).toInt) rfl rfl c_4
        exact ok_r_chosen_75 s0 hB k11 M11 hk11 _ _ _ _ hI_s3 hF_s3 (by omega) (by omega) (by omega) (by omega) (by omega)
set_option maxHeartbeats 1000000 in
theorem ok_r_chosen_11 (s0 : RS) (hB : Big s0) (k11 : RS → Int32 → Int32 → Int32 → Option (Int32 × RS)) (M11 : Nat) (hk11 : ∀ (s : RS) (x1 : Int32) (x2 : Int32) (x3 : Int32), InvR s → FrR [42, 45, 140, 141, 144] s0 s → -2 ≤ x1.toInt → x1.toInt ≤ 5 → 0 ≤ x3.toInt → x3.toInt ≤ 6 → (6 - x3.toInt).toNat < M11 → Ok (k11 s x1 x2 x3) (Q_r_chosen s0)) (s : RS) (x1 : Int32) (x2 : Int32) (x3 : Int32) (hI_s : InvR s) (hF_s : FrR [42, 45, 140, 141, 144] s0 s) (h_x1l : -2 ≤ x1.toInt) (h_x1u : x1.toInt ≤ 5) (h_x3l : 0 ≤ x3.toInt) (h_x3u : x3.toInt ≤ 6) (hM11 : (6 - x3.toInt).toNat ≤ M11) : Ok (r_chosen_11 k11 s x1 x2 x3) (Q_r_chosen s0) := by
  unfold r_chosen_11
  have a_1 : 0 ≤ (s.v 18).toInt ∧ (s.v 18).toInt ≤ 1 := hI_s.1 18
  refine ok_grd (vpb_ok (by omega) (by omega)) ?_
  have a_2 : 0 ≤ ((s.f 23 (Int32.toNatClampNeg (s.v 18)))).toInt ∧ ((s.f 23 (Int32.toNatClampNeg (s.v 18)))).toInt ≤ 6 := hI_s.2 23 _
  refine ok_ite (fun c_3 => ?_) (fun c_3 => ?_)
  · have c_3 := tn_le (a := ((s.f 23 (Int32.toNatClampNeg (s.v 18)))).toInt) (b := (x3).toInt) rfl rfl c_3
    exact ok_some ⟨hI_s, hF_s, by show -2 ≤ (x1).toInt; omega, by show (x1).toInt ≤ 5; omega⟩
  · have c_3 := tn_nle (a := ((s.f 23 (Int32.toNatClampNeg (s.v 18)))).toInt) (b := (x3).toInt) rfl rfl c_3
    refine ok_bindI (ok_r_isHere _ _ hI_s) (fun r4 s3 hc_4 => ?_)
    have hI_s3 : InvR s3 := hc_4.1
    have hFc_s3 : FrR [] s s3 := hc_4.2.1
    have hF_s3 : FrR [42, 45, 140, 141, 144] s0 s3 := hF_s.trans hFc_s3 (by decide)
    have hl_r4 : 0 ≤ r4.toInt := hc_4.2.2.1
    have hu_r4 : r4.toInt ≤ 1 := hc_4.2.2.2.1
    have hx0_r4 : (¬ r4.toInt = 0 → 0 ≤ (x3).toInt ∧ (x3).toInt ≤ 5) := hc_4.2.2.2.2
    refine ok_ite (fun c_5 => ?_) (fun c_5 => ?_)
    · have c_5 := tn_eq (a := (r4).toInt) (b := 0) rfl (by decide) c_5
      have l_m2 : ((-2) : Int32).toInt = -2 := by decide
      exact ok_r_chosen_42 s0 hB k11 M11 hk11 _ _ _ _ _ hI_s3 hF_s3 (by omega) (by omega) (by omega) (by omega) (by decide) (by decide) (by omega)
    · have c_5 := tn_ne (a := (r4).toInt) (b := 0) rfl (by decide) c_5
      refine ok_bindI (ok_r_bestFor _ _ hI_s3 (hB.fr hF_s3 (by decide)) (by omega) (by omega)) (fun r7 s6 hc_6 => ?_)
      have hI_s6 : InvR s6 := hc_6.1
      have hFc_s6 : FrR [42, 140, 141] s3 s6 := hc_6.2.1
      have hF_s6 : FrR [42, 45, 140, 141, 144] s0 s6 := hF_s3.trans hFc_s6 (by decide)
      have hl_r7 : -2 ≤ r7.toInt := hc_6.2.2.1
      have hu_r7 : r7.toInt ≤ 194400 := hc_6.2.2.2
      exact ok_r_chosen_42 s0 hB k11 M11 hk11 _ _ _ _ _ hI_s6 hF_s6 (by omega) (by omega) (by omega) (by omega) (by omega) (by omega) (by omega)
theorem okL_r_chosen_11 (s0 : RS) (hB : Big s0)  : ∀ (n : Nat) (s : RS) (x1 : Int32) (x2 : Int32) (x3 : Int32), (6 - x3.toInt).toNat < n → InvR s → FrR [42, 45, 140, 141, 144] s0 s → -2 ≤ x1.toInt → x1.toInt ≤ 5 → 0 ≤ x3.toInt → x3.toInt ≤ 6 → Ok (r_chosen_11L  n s x1 x2 x3) (Q_r_chosen s0) := by
  intro n
  induction n with
  | zero => intro s x1 x2 x3 hn; omega
  | succ n ih =>
    intro s x1 x2 x3 hn hI_s hF_s h_x1l h_x1u h_x3l h_x3u 
    exact ok_r_chosen_11 s0 hB (r_chosen_11L  n) ((6 - x3.toInt).toNat) (fun zs zx1 zx2 zx3 g0 g1 g2 g3 g4 g5  hm => ih zs zx1 zx2 zx3 (by omega) g0 g1 g2 g3 g4 g5 ) s x1 x2 x3 hI_s hF_s h_x1l h_x1u h_x3l h_x3u (Nat.le_refl _)
set_option maxHeartbeats 1000000 in
theorem ok_r_chosenB (s0 : RS) (hB : Big s0)  (s : RS) (hI_s : InvR s) (hF_s : FrR [42, 45, 140, 141, 144] s0 s)  : Ok (r_chosen  s) (Q_r_chosen s0) := by
  unfold r_chosen
  refine ok_bindP (ok_r_copies _  hI_s) (fun s1 hc_1 => ?_)
  have hI_s1 : InvR s1 := hc_1.1
  have hFc_s1 : FrR [45, 144] s s1 := hc_1.2
  have hF_s1 : FrR [42, 45, 140, 141, 144] s0 s1 := hF_s.trans hFc_s1 (by decide)
  have l_m2 : ((-2) : Int32).toInt = -2 := by decide
  have l_0 : (0 : Int32).toInt = 0 := by decide
  exact okL_r_chosen_11 s0 hB  fu _ _ _ _ (by unfold fu; omega) hI_s1 hF_s1 (by decide) (by decide) (by decide) (by decide) 
theorem ok_r_chosen (s : RS) (hI_s : InvR s) (hB : Big s) : Ok (r_chosen s) (Q_r_chosen s) := ok_r_chosenB s hB s hI_s FrR.rfl
abbrev Q_r_manyIn (s0 : RS) (y : Int32 × RS) : Prop := InvR y.2 ∧ FrR [] s0 y.2 ∧ -2147483648 ≤ y.1.toInt ∧ y.1.toInt ≤ 2147483647
set_option maxHeartbeats 1000000 in
theorem ok_r_manyIn_33 (s0 : RS) (k4 : RS → Int32 → Int32 → Int32 → Option (Int32 × RS)) (M4 : Nat) (hk4 : ∀ (s : RS) (x1 : Int32) (x2 : Int32) (x3 : Int32), InvR s → FrR [] s0 s → 1 ≤ x1.toInt → x1.toInt ≤ 2 → 0 ≤ x3.toInt → x3.toInt ≤ 6 → (6 - x3.toInt).toNat < M4 → Ok (k4 s x1 x2 x3) (Q_r_manyIn s0)) (s : RS) (x1 : Int32) (x2 : Int32) (x3 : Int32) (hI_s : InvR s) (hF_s : FrR [] s0 s) (h_x1l : 1 ≤ x1.toInt) (h_x1u : x1.toInt ≤ 2) (h_x3l : 0 ≤ x3.toInt) (h_x3u : x3.toInt ≤ 5) (hM4 : (6 - x3.toInt).toNat ≤ M4) : Ok (r_manyIn_33 k4 s x1 x2 x3) (Q_r_manyIn s0) := by
  unfold r_manyIn_33
  have a_1 : ((x3 + 1)).toInt = (x3).toInt + 1 := tn_add rfl (by decide) (by omega) (by omega)
  exact hk4 _ _ _ _ hI_s hF_s (by omega) (by omega) (by omega) (by omega) (by omega)
set_option maxHeartbeats 1000000 in
theorem ok_r_manyIn_4 (s0 : RS) (k4 : RS → Int32 → Int32 → Int32 → Option (Int32 × RS)) (M4 : Nat) (hk4 : ∀ (s : RS) (x1 : Int32) (x2 : Int32) (x3 : Int32), InvR s → FrR [] s0 s → 1 ≤ x1.toInt → x1.toInt ≤ 2 → 0 ≤ x3.toInt → x3.toInt ≤ 6 → (6 - x3.toInt).toNat < M4 → Ok (k4 s x1 x2 x3) (Q_r_manyIn s0)) (s : RS) (x1 : Int32) (x2 : Int32) (x3 : Int32) (hI_s : InvR s) (hF_s : FrR [] s0 s) (h_x1l : 1 ≤ x1.toInt) (h_x1u : x1.toInt ≤ 2) (h_x3l : 0 ≤ x3.toInt) (h_x3u : x3.toInt ≤ 6) (hM4 : (6 - x3.toInt).toNat ≤ M4) : Ok (r_manyIn_4 k4 s x1 x2 x3) (Q_r_manyIn s0) := by
  unfold r_manyIn_4
  have a_1 : 0 ≤ (s.v 18).toInt ∧ (s.v 18).toInt ≤ 1 := hI_s.1 18
  refine ok_grd (vpb_ok (by omega) (by omega)) ?_
  have a_2 : 0 ≤ ((s.f 23 (Int32.toNatClampNeg (s.v 18)))).toInt ∧ ((s.f 23 (Int32.toNatClampNeg (s.v 18)))).toInt ≤ 6 := hI_s.2 23 _
  refine ok_ite (fun c_3 => ?_) (fun c_3 => ?_)
  · have c_3 := tn_le (a := ((s.f 23 (Int32.toNatClampNeg (s.v 18)))).toInt) (b := (x3).toInt) rfl rfl c_3
    exact ok_some ⟨hI_s, hF_s, (ti_rng _).1, (ti_rng _).2⟩
  · have c_3 := tn_nle (a := ((s.f 23 (Int32.toNatClampNeg (s.v 18)))).toInt) (b := (x3).toInt) rfl rfl c_3
    have a_4 : ((15 + x3)).toInt = 15 + (x3).toInt := tn_add (by decide) rfl (by omega) (by omega)
    refine ok_grd (vpb_ok (by omega) (by omega)) ?_
    refine ok_ite (fun c_5 => ?_) (fun c_5 => ?_)
    · have c_5 := tn_eq (a := ((s.f 44 (Int32.toNatClampNeg (15 + x3)))).toInt) (b := (x1).toInt) rfl rfl c_5
      exact ok_r_manyIn_33 s0 k4 M4 hk4 _ _ _ _ hI_s hF_s (by omega) (by omega) (by omega) (by omega) (by omega)
    · have c_5 := tn_ne (a := ((s.f 44 (Int32.toNatClampNeg (15 + x3)))).toInt) (b := (x1).toInt) rfl rfl c_5
      exact ok_r_manyIn_33 s0 k4 M4 hk4 _ _ _ _ hI_s hF_s (by omega) (by omega) (by omega) (by omega) (by omega)
theorem okL_r_manyIn_4 (s0 : RS)  : ∀ (n : Nat) (s : RS) (x1 : Int32) (x2 : Int32) (x3 : Int32), (6 - x3.toInt).toNat < n → InvR s → FrR [] s0 s → 1 ≤ x1.toInt → x1.toInt ≤ 2 → 0 ≤ x3.toInt → x3.toInt ≤ 6 → Ok (r_manyIn_4L  n s x1 x2 x3) (Q_r_manyIn s0) := by
  intro n
  induction n with
  | zero => intro s x1 x2 x3 hn; omega
  | succ n ih =>
    intro s x1 x2 x3 hn hI_s hF_s h_x1l h_x1u h_x3l h_x3u 
    exact ok_r_manyIn_4 s0 (r_manyIn_4L  n) ((6 - x3.toInt).toNat) (fun zs zx1 zx2 zx3 g0 g1 g2 g3 g4 g5  hm => ih zs zx1 zx2 zx3 (by omega) g0 g1 g2 g3 g4 g5 ) s x1 x2 x3 hI_s hF_s h_x1l h_x1u h_x3l h_x3u (Nat.le_refl _)
set_option maxHeartbeats 1000000 in
theorem ok_r_manyInB (s0 : RS)  (s : RS) (x1 : Int32) (hI_s : InvR s) (hF_s : FrR [] s0 s) (h_x1l : 1 ≤ x1.toInt) (h_x1u : x1.toInt ≤ 2)  : Ok (r_manyIn  s x1) (Q_r_manyIn s0) := by
  unfold r_manyIn
  have l_0 : (0 : Int32).toInt = 0 := by decide
  exact okL_r_manyIn_4 s0  fu _ _ _ _ (by unfold fu; omega) hI_s hF_s (by omega) (by omega) (by decide) (by decide) 
theorem ok_r_manyIn (s : RS) (x1 : Int32) (hI_s : InvR s) (h_x1l : 1 ≤ x1.toInt) (h_x1u : x1.toInt ≤ 2) : Ok (r_manyIn s x1) (Q_r_manyIn s) := ok_r_manyInB s s x1 hI_s FrR.rfl h_x1l h_x1u
abbrev Q_r_allGo (s0 : RS) (y : Int32 × RS) : Prop := InvR y.2 ∧ FrR [42, 45, 140, 141, 144] s0 y.2 ∧ -2147483648 ≤ y.1.toInt ∧ y.1.toInt ≤ 2147483647
set_option maxHeartbeats 1000000 in
theorem ok_r_allGo_89 (s0 : RS) (hB : Big s0) (k22 : RS → Int32 → Int32 → Int32 → Option (Int32 × RS)) (M22 : Nat) (hk22 : ∀ (s : RS) (x1 : Int32) (x2 : Int32) (x3 : Int32), InvR s → FrR [42, 45, 140, 141, 144] s0 s → 0 ≤ x1.toInt → x1.toInt ≤ 2 → 0 ≤ x2.toInt → x2.toInt ≤ 194400 → 0 ≤ x3.toInt → x3.toInt ≤ 6 → (6 - x3.toInt).toNat < M22 → Ok (k22 s x1 x2 x3) (Q_r_allGo s0)) (s : RS) (x1 : Int32) (x2 : Int32) (x3 : Int32) (hI_s : InvR s) (hF_s : FrR [42, 45, 140, 141, 144] s0 s) (h_x1l : 0 ≤ x1.toInt) (h_x1u : x1.toInt ≤ 2) (h_x2l : 0 ≤ x2.toInt) (h_x2u : x2.toInt ≤ 194400) (h_x3l : 0 ≤ x3.toInt) (h_x3u : x3.toInt ≤ 5) (hM22 : (6 - x3.toInt).toNat ≤ M22) : Ok (r_allGo_89 k22 s x1 x2 x3) (Q_r_allGo s0) := by
  unfold r_allGo_89
  have a_1 : ((x3 + 1)).toInt = (x3).toInt + 1 := tn_add rfl (by decide) (by omega) (by omega)
  exact hk22 _ _ _ _ hI_s hF_s (by omega) (by omega) (by omega) (by omega) (by omega) (by omega) (by omega)
set_option maxHeartbeats 1000000 in
theorem ok_r_allGo_73 (s0 : RS) (hB : Big s0) (k22 : RS → Int32 → Int32 → Int32 → Option (Int32 × RS)) (M22 : Nat) (hk22 : ∀ (s : RS) (x1 : Int32) (x2 : Int32) (x3 : Int32), InvR s → FrR [42, 45, 140, 141, 144] s0 s → 0 ≤ x1.toInt → x1.toInt ≤ 2 → 0 ≤ x2.toInt → x2.toInt ≤ 194400 → 0 ≤ x3.toInt → x3.toInt ≤ 6 → (6 - x3.toInt).toNat < M22 → Ok (k22 s x1 x2 x3) (Q_r_allGo s0)) (s : RS) (x1 : Int32) (x2 : Int32) (x3 : Int32) (t0 : Int32) (hI_s : InvR s) (hF_s : FrR [42, 45, 140, 141, 144] s0 s) (h_x1l : 0 ≤ x1.toInt) (h_x1u : x1.toInt ≤ 2) (h_x2l : 0 ≤ x2.toInt) (h_x2u : x2.toInt ≤ 194400) (h_x3l : 0 ≤ x3.toInt) (h_x3u : x3.toInt ≤ 5) (h_t0l : -2 ≤ t0.toInt) (h_t0u : t0.toInt ≤ 194400) (hM22 : (6 - x3.toInt).toNat ≤ M22) : Ok (r_allGo_73 k22 s x1 x2 x3 t0) (Q_r_allGo s0) := by
  unfold r_allGo_73
  refine ok_ite (fun c_1 => ?_) (fun c_1 => ?_)
  · have c_1 := tn_lt (a := (t0).toInt) (b := 0) rfl (by decide) c_1
    exact ok_r_allGo_89 s0 hB k22 M22 hk22 _ _ _ _ hI_s hF_s (by omega) (by omega) (by omega) (by omega) (by omega) (by omega) (by omega)
  · have c_1 := tn_nlt (a := (t0).toInt) (b := 0) rfl (by decide) c_1
    refine ok_bindI (ok_r_goesBy _ _ _ _ hI_s (hB.fr hF_s (by decide)) (by omega) (by omega) (by omega) (by omega) (by omega) (by omega)) (fun r3 s2 hc_2 => ?_)
    have hI_s2 : InvR s2 := hc_2.1
    have hFc_s2 : FrR [42, 140, 141, 144] s s2 := hc_2.2.1
    have hF_s2 : FrR [42, 45, 140, 141, 144] s0 s2 := hF_s.trans hFc_s2 (by decide)
    have hl_r3 : 0 ≤ r3.toInt := hc_2.2.2.1
    have hu_r3 : r3.toInt ≤ 5 := hc_2.2.2.2
    exact ok_r_allGo_89 s0 hB k22 M22 hk22 _ _ _ _ hI_s2 hF_s2 (by omega) (by omega) (by omega) (by omega) (by omega) (by omega) (by omega)
set_option maxHeartbeats 1000000 in
theorem ok_r_allGo_71 (s0 : RS) (hB : Big s0) (k22 : RS → Int32 → Int32 → Int32 → Option (Int32 × RS)) (M22 : Nat) (hk22 : ∀ (s : RS) (x1 : Int32) (x2 : Int32) (x3 : Int32), InvR s → FrR [42, 45, 140, 141, 144] s0 s → 0 ≤ x1.toInt → x1.toInt ≤ 2 → 0 ≤ x2.toInt → x2.toInt ≤ 194400 → 0 ≤ x3.toInt → x3.toInt ≤ 6 → (6 - x3.toInt).toNat < M22 → Ok (k22 s x1 x2 x3) (Q_r_allGo s0)) (s : RS) (x1 : Int32) (x2 : Int32) (x3 : Int32) (hI_s : InvR s) (hF_s : FrR [42, 45, 140, 141, 144] s0 s) (h_x1l : 0 ≤ x1.toInt) (h_x1u : x1.toInt ≤ 2) (h_x2l : 0 ≤ x2.toInt) (h_x2u : x2.toInt ≤ 194400) (h_x3l : 0 ≤ x3.toInt) (h_x3u : x3.toInt ≤ 5) (hM22 : (6 - x3.toInt).toNat ≤ M22) : Ok (r_allGo_71 k22 s x1 x2 x3) (Q_r_allGo s0) := by
  unfold r_allGo_71
  have l_m2 : ((-2) : Int32).toInt = -2 := by decide
  exact ok_r_allGo_73 s0 hB k22 M22 hk22 _ _ _ _ _ hI_s hF_s (by omega) (by omega) (by omega) (by omega) (by omega) (by omega) (by decide) (by decide) (by omega)
set_option maxHeartbeats 1000000 in
theorem ok_r_allGo_22 (s0 : RS) (hB : Big s0) (k22 : RS → Int32 → Int32 → Int32 → Option (Int32 × RS)) (M22 : Nat) (hk22 : ∀ (s : RS) (x1 : Int32) (x2 : Int32) (x3 : Int32), InvR s → FrR [42, 45, 140, 141, 144] s0 s → 0 ≤ x1.toInt → x1.toInt ≤ 2 → 0 ≤ x2.toInt → x2.toInt ≤ 194400 → 0 ≤ x3.toInt → x3.toInt ≤ 6 → (6 - x3.toInt).toNat < M22 → Ok (k22 s x1 x2 x3) (Q_r_allGo s0)) (s : RS) (x1 : Int32) (x2 : Int32) (x3 : Int32) (hI_s : InvR s) (hF_s : FrR [42, 45, 140, 141, 144] s0 s) (h_x1l : 0 ≤ x1.toInt) (h_x1u : x1.toInt ≤ 2) (h_x2l : 0 ≤ x2.toInt) (h_x2u : x2.toInt ≤ 194400) (h_x3l : 0 ≤ x3.toInt) (h_x3u : x3.toInt ≤ 6) (hM22 : (6 - x3.toInt).toNat ≤ M22) : Ok (r_allGo_22 k22 s x1 x2 x3) (Q_r_allGo s0) := by
  unfold r_allGo_22
  have a_1 : 0 ≤ (s.v 18).toInt ∧ (s.v 18).toInt ≤ 1 := hI_s.1 18
  refine ok_grd (vpb_ok (by omega) (by omega)) ?_
  have a_2 : 0 ≤ ((s.f 23 (Int32.toNatClampNeg (s.v 18)))).toInt ∧ ((s.f 23 (Int32.toNatClampNeg (s.v 18)))).toInt ≤ 6 := hI_s.2 23 _
  refine ok_ite (fun c_3 => ?_) (fun c_3 => ?_)
  · have c_3 := tn_le (a := ((s.f 23 (Int32.toNatClampNeg (s.v 18)))).toInt) (b := (x3).toInt) rfl rfl c_3
    refine ok_ite (fun c_4 => ?_) (fun c_4 => ?_)
    · have c_4 := tn_eq (a := (x1).toInt) (b := 0) rfl (by decide) c_4
      refine ok_bindI (ok_r_manyIn _ _ hI_s (by decide) (by decide)) (fun r8 s7 hc_5 => ?_)
      have hI_s7 : InvR s7 := hc_5.1
      have hFc_s7 : FrR [] s s7 := hc_5.2.1
      have hF_s7 : FrR [42, 45, 140, 141, 144] s0 s7 := hF_s.trans hFc_s7 (by decide)
      exact ok_some ⟨hI_s7, hF_s7, (ti_rng _).1, (ti_rng _).2⟩
    · have c_4 := tn_ne (a := (x1).toInt) (b := 0) rfl (by decide) c_4
      refine ok_ite (fun c_6 => ?_) (fun c_6 => ?_)
      · have c_6 := tn_eq (a := (x1).toInt) (b := 1) rfl (by decide) c_6
        refine ok_bindI (ok_r_manyIn _ _ hI_s (by decide) (by decide)) (fun r6 s5 hc_7 => ?_)
        have hI_s5 : InvR s5 := hc_7.1
        have hFc_s5 : FrR [] s s5 := hc_7.2.1
        have hF_s5 : FrR [42, 45, 140, 141, 144] s0 s5 := hF_s.trans hFc_s5 (by decide)
        exact ok_some ⟨hI_s5, hF_s5, (ti_rng _).1, (ti_rng _).2⟩
      · have c_6 := tn_ne (a := (x1).toInt) (b := 1) rfl (by decide) c_6
        exact ok_some ⟨hI_s, hF_s, (ti_rng _).1, (ti_rng _).2⟩
  · have c_3 := tn_nle (a := ((s.f 23 (Int32.toNatClampNeg (s.v 18)))).toInt) (b := (x3).toInt) rfl rfl c_3
    refine ok_bindI (ok_r_isHere _ _ hI_s) (fun r10 s9 hc_8 => ?_)
    have hI_s9 : InvR s9 := hc_8.1
    have hFc_s9 : FrR [] s s9 := hc_8.2.1
    have hF_s9 : FrR [42, 45, 140, 141, 144] s0 s9 := hF_s.trans hFc_s9 (by decide)
    have hl_r10 : 0 ≤ r10.toInt := hc_8.2.2.1
    have hu_r10 : r10.toInt ≤ 1 := hc_8.2.2.2.1
    have hx0_r10 : (¬ r10.toInt = 0 → 0 ≤ (x3).toInt ∧ (x3).toInt ≤ 5) := hc_8.2.2.2.2
    refine ok_ite (fun c_9 => ?_) (fun c_9 => ?_)
    · have c_9 := tn_eq (a := (r10).toInt) (b := 0) rfl (by decide) c_9
      exact ok_r_allGo_71 s0 hB k22 M22 hk22 _ _ _ _ hI_s9 hF_s9 (by omega) (by omega) (by omega) (by omega) (by omega) (by omega) (by omega)
    · have c_9 := tn_ne (a := (r10).toInt) (b := 0) rfl (by decide) c_9
      refine ok_bindI (ok_r_doesDare _ _ hI_s9 (hB.fr hF_s9 (by decide)) (by omega) (by omega)) (fun r13 s12 hc_10 => ?_)
      have hI_s12 : InvR s12 := hc_10.1
      have hFc_s12 : FrR [42, 140, 141] s9 s12 := hc_10.2.1
      have hF_s12 : FrR [42, 45, 140, 141, 144] s0 s12 := hF_s9.trans hFc_s12 (by decide)
      have hl_r13 : 0 ≤ r13.toInt := hc_10.2.2.1
      have hu_r13 : r13.toInt ≤ 1 := hc_10.2.2.2
      refine ok_ite (fun c_11 => ?_) (fun c_11 => ?_)
      · have c_11 := tn_eq (a := (r13).toInt) (b := 0) rfl (by decide) c_11
        exact ok_r_allGo_71 s0 hB k22 M22 hk22 _ _ _ _ hI_s12 hF_s12 (by omega) (by omega) (by omega) (by omega) (by omega) (by omega) (by omega)
      · have c_11 := tn_ne (a := (r13).toInt) (b := 0) rfl (by decide) c_11
        have a_12 : (s9.v 18).toInt = (s.v 18).toInt := congrArg Int32.toInt (hFc_s9.1 18 (by decide))
        have a_13 : (s12.v 18).toInt = (s9.v 18).toInt := congrArg Int32.toInt (hFc_s12.1 18 (by decide))
        refine ok_grd (vpb_ok (by omega) (by omega)) ?_
        have a_14 : ((s12.f 20 (Int32.toNatClampNeg (s12.v 18)))).toInt = wv s0 := wv_fr hF_s12 (by decide) (by decide)
        have a_15 : 0 ≤ ((s12.f 20 (Int32.toNatClampNeg (s12.v 18)))).toInt ∧ ((s12.f 20 (Int32.toNatClampNeg (s12.v 18)))).toInt ≤ 5 := hI_s12.2 20 _
        refine ok_ite (fun c_16 => ?_) (fun c_16 => ?_)
        · have c_16 := tn_le (a := ((s12.f 20 (Int32.toNatClampNeg (s12.v 18)))).toInt) (b := 0) rfl (by decide) c_16
          exact ok_r_allGo_71 s0 hB k22 M22 hk22 _ _ _ _ hI_s12 hF_s12 (by omega) (by omega) (by omega) (by omega) (by omega) (by omega) (by omega)
        · have c_16 := tn_nle (a := ((s12.f 20 (Int32.toNatClampNeg (s12.v 18)))).toInt) (b := 0) rfl (by decide) c_16
          refine ok_bindI (ok_r_bestFor _ _ hI_s12 (hB.fr hF_s12 (by decide)) (by omega) (by omega)) (fun r18 s17 hc_17 => ?_)
          have hI_s17 : InvR s17 := hc_17.1
          have hFc_s17 : FrR [42, 140, 141] s12 s17 := hc_17.2.1
          have hF_s17 : FrR [42, 45, 140, 141, 144] s0 s17 := hF_s12.trans hFc_s17 (by decide)
          have hl_r18 : -2 ≤ r18.toInt := hc_17.2.2.1
          have hu_r18 : r18.toInt ≤ 194400 := hc_17.2.2.2
          exact ok_r_allGo_73 s0 hB k22 M22 hk22 _ _ _ _ _ hI_s17 hF_s17 (by omega) (by omega) (by omega) (by omega) (by omega) (by omega) (by omega) (by omega) (by omega)
theorem okL_r_allGo_22 (s0 : RS) (hB : Big s0)  : ∀ (n : Nat) (s : RS) (x1 : Int32) (x2 : Int32) (x3 : Int32), (6 - x3.toInt).toNat < n → InvR s → FrR [42, 45, 140, 141, 144] s0 s → 0 ≤ x1.toInt → x1.toInt ≤ 2 → 0 ≤ x2.toInt → x2.toInt ≤ 194400 → 0 ≤ x3.toInt → x3.toInt ≤ 6 → Ok (r_allGo_22L  n s x1 x2 x3) (Q_r_allGo s0) := by
  intro n
  induction n with
  | zero => intro s x1 x2 x3 hn; omega
  | succ n ih =>
    intro s x1 x2 x3 hn hI_s hF_s h_x1l h_x1u h_x2l h_x2u h_x3l h_x3u 
    exact ok_r_allGo_22 s0 hB (r_allGo_22L  n) ((6 - x3.toInt).toNat) (fun zs zx1 zx2 zx3 g0 g1 g2 g3 g4 g5 g6 g7  hm => ih zs zx1 zx2 zx3 (by omega) g0 g1 g2 g3 g4 g5 g6 g7 ) s x1 x2 x3 hI_s hF_s h_x1l h_x1u h_x2l h_x2u h_x3l h_x3u (Nat.le_refl _)
set_option maxHeartbeats 1000000 in
theorem ok_r_allGoB (s0 : RS) (hB : Big s0)  (s : RS) (x1 : Int32) (hI_s : InvR s) (hF_s : FrR [42, 45, 140, 141, 144] s0 s)  : Ok (r_allGo  s x1) (Q_r_allGo s0) := by
  unfold r_allGo
  refine ok_bindP (ok_r_in _ _ _ (by decide) (by decide) (by decide) (by decide)) (fun r1 hc_1 => ?_)
  have l_0 : (0 : Int32).toInt = 0 := by decide
  have l_2 : (2 : Int32).toInt = 2 := by decide
  have hl_r1 : 0 ≤ r1.toInt := hc_1.1
  have hu_r1 : r1.toInt ≤ 1 := hc_1.2.1
  have hx0_r1 : (¬ r1.toInt = 0 → (0 : Int32).toInt ≤ (x1).toInt ∧ (x1).toInt ≤ (2 : Int32).toInt) := hc_1.2.2
  refine ok_ite (fun c_2 => ?_) (fun c_2 => ?_)
  · have c_2 := tn_eq (a := (r1).toInt) (b := 0) rfl (by decide) c_2
    exact ok_some ⟨hI_s, hF_s, (ti_rng _).1, (ti_rng _).2⟩
  · have c_2 := tn_ne (a := (r1).toInt) (b := 0) rfl (by decide) c_2
    refine ok_bindP (ok_r_copies _  hI_s) (fun s3 hc_3 => ?_)
    have hI_s3 : InvR s3 := hc_3.1
    have hFc_s3 : FrR [45, 144] s s3 := hc_3.2
    have hF_s3 : FrR [42, 45, 140, 141, 144] s0 s3 := hF_s.trans hFc_s3 (by decide)
    refine ok_bindI (ok_r_thereNumber _  hI_s3 (hB.fr hF_s3 (by decide))) (fun r5 s4 hc_4 => ?_)
    have hI_s4 : InvR s4 := hc_4.1
    have hFc_s4 : FrR [] s3 s4 := hc_4.2.1
    have hF_s4 : FrR [42, 45, 140, 141, 144] s0 s4 := hF_s3.trans hFc_s4 (by decide)
    have hl_r5 : 0 ≤ r5.toInt := hc_4.2.2.1
    have hu_r5 : r5.toInt ≤ 194400 := hc_4.2.2.2
    exact okL_r_allGo_22 s0 hB  fu _ _ _ _ (by unfold fu; omega) hI_s4 hF_s4 (by omega) (by omega) (by omega) (by omega) (by decide) (by decide) 
theorem ok_r_allGo (s : RS) (x1 : Int32) (hI_s : InvR s) (hB : Big s) : Ok (r_allGo s x1) (Q_r_allGo s) := ok_r_allGoB s hB s x1 hI_s FrR.rfl
