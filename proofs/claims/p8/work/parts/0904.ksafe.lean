abbrev Q_kX6_startOver (s0 : SD) (y : SD) : Prop := True
set_option maxHeartbeats 1000000 in
theorem ok_kX6_startOverB (s0 : SD)  (s : SD)   : Ok (kX6_startOver  s) (Q_kX6_startOver s0) := by
  unfold kX6_startOver
  refine ok_bindP (ok_kJ7_fill_53178_5 _ _ (by decide) (by decide)) (fun s1 hc_1 => ?_)
  refine ok_let (fun s2 hs2 => ?_)
  refine ok_bindP (ok_kJ7_fill_53178_5 _ _ (by decide) (by decide)) (fun s4 hc_2 => ?_)
  refine ok_let (fun s5 hs5 => ?_)
  refine ok_bindP (ok_kJ7_fill_53178_5 _ _ (by decide) (by decide)) (fun s7 hc_3 => ?_)
  refine ok_let (fun s8 hs8 => ?_)
  refine ok_bindP (ok_kJ7_fill_53178_6 _ _ (by decide) (by decide)) (fun s10 hc_4 => ?_)
  refine ok_let (fun s11 hs11 => ?_)
  refine ok_bindP (ok_kJ7_fill_53178_6 _ _ (by decide) (by decide)) (fun s13 hc_5 => ?_)
  refine ok_let (fun s14 hs14 => ?_)
  refine ok_let (fun s16 hs16 => ?_)
  refine ok_let (fun s18 hs18 => ?_)
  exact ok_some (trivial)
theorem ok_kX6_startOver (s : SD)  : Ok (kX6_startOver s) (Q_kX6_startOver s) := ok_kX6_startOverB s s 
abbrev Q_kX8_beliedBy (s0 : KS) (y : Int32 × KS) : Prop := InvK y.2 ∧ FrK [] s0 y.2 ∧ 0 ≤ y.1.toInt ∧ y.1.toInt ≤ 20
set_option maxHeartbeats 1000000 in
theorem ok_kX8_beliedBy_40 (s0 : KS) (k6 : KS → Int32 → Int32 → Int32 → Int32 → Int32 → Option (Int32 × KS)) (M6 : Nat) (hk6 : ∀ (s : KS) (x1 : Int32) (x2 : Int32) (x3 : Int32) (x4 : Int32) (x5 : Int32), InvK s → FrK [] s0 s → 0 ≤ x1.toInt → x1.toInt ≤ 4 → 0 ≤ x2.toInt → x2.toInt ≤ 5 → 0 ≤ x3.toInt → x3.toInt ≤ 20 → 0 ≤ x4.toInt → x4.toInt ≤ 20 → 0 ≤ x5.toInt → x5.toInt ≤ 20 → (x4.toInt ≤ x5.toInt) → (20 - x5.toInt).toNat < M6 → Ok (k6 s x1 x2 x3 x4 x5) (Q_kX8_beliedBy s0)) (s : KS) (x1 : Int32) (x2 : Int32) (x3 : Int32) (x4 : Int32) (x5 : Int32) (hI_s : InvK s) (hF_s : FrK [] s0 s) (h_x1l : 0 ≤ x1.toInt) (h_x1u : x1.toInt ≤ 4) (h_x2l : 0 ≤ x2.toInt) (h_x2u : x2.toInt ≤ 5) (h_x3l : 1 ≤ x3.toInt) (h_x3u : x3.toInt ≤ 20) (h_x4l : 0 ≤ x4.toInt) (h_x4u : x4.toInt ≤ 20) (h_x5l : 0 ≤ x5.toInt) (h_x5u : x5.toInt ≤ 19) (hx0 : (x4.toInt ≤ x5.toInt + 1)) (hM6 : (20 - x5.toInt).toNat ≤ M6) : Ok (kX8_beliedBy_40 k6 s x1 x2 x3 x4 x5) (Q_kX8_beliedBy s0) := by
  unfold kX8_beliedBy_40
  have a_1 : ((x5 + 1)).toInt = (x5).toInt + 1 := tn_add rfl (by decide) (by omega) (by omega)
  exact hk6 _ _ _ _ _ _ hI_s hF_s (by first | (clear hx0; omega) | omega) (by first | (clear hx0; omega) | omega) (by first | (clear hx0; omega) | omega) (by first | (clear hx0; omega) | omega) (by first | (clear hx0; omega) | omega) (by first | (clear hx0; omega) | omega) (by first | (clear hx0; omega) | omega) (by first | (clear hx0; omega) | omega) (by first | (clear hx0; omega) | omega) (by first | (clear hx0; omega) | omega) (by omega) (by first | (clear hx0; omega) | omega)
set_option maxHeartbeats 1000000 in
theorem ok_kX8_beliedBy_6 (s0 : KS) (k6 : KS → Int32 → Int32 → Int32 → Int32 → Int32 → Option (Int32 × KS)) (M6 : Nat) (hk6 : ∀ (s : KS) (x1 : Int32) (x2 : Int32) (x3 : Int32) (x4 : Int32) (x5 : Int32), InvK s → FrK [] s0 s → 0 ≤ x1.toInt → x1.toInt ≤ 4 → 0 ≤ x2.toInt → x2.toInt ≤ 5 → 0 ≤ x3.toInt → x3.toInt ≤ 20 → 0 ≤ x4.toInt → x4.toInt ≤ 20 → 0 ≤ x5.toInt → x5.toInt ≤ 20 → (x4.toInt ≤ x5.toInt) → (20 - x5.toInt).toNat < M6 → Ok (k6 s x1 x2 x3 x4 x5) (Q_kX8_beliedBy s0)) (s : KS) (x1 : Int32) (x2 : Int32) (x3 : Int32) (x4 : Int32) (x5 : Int32) (hI_s : InvK s) (hF_s : FrK [] s0 s) (h_x1l : 0 ≤ x1.toInt) (h_x1u : x1.toInt ≤ 4) (h_x2l : 0 ≤ x2.toInt) (h_x2u : x2.toInt ≤ 5) (h_x3l : 0 ≤ x3.toInt) (h_x3u : x3.toInt ≤ 20) (h_x4l : 0 ≤ x4.toInt) (h_x4u : x4.toInt ≤ 20) (h_x5l : 0 ≤ x5.toInt) (h_x5u : x5.toInt ≤ 20) (hx0 : (x4.toInt ≤ x5.toInt)) (hM6 : (20 - x5.toInt).toNat ≤ M6) : Ok (kX8_beliedBy_6 k6 s x1 x2 x3 x4 x5) (Q_kX8_beliedBy s0) := by
  unfold kX8_beliedBy_6
  refine ok_ite (fun c_1 => ?_) (fun c_1 => ?_)
  · have c_1 := tn_le (a := (x3).toInt) (b := (x5).toInt) rfl rfl c_1
    exact ok_some ⟨hI_s, hF_s, by show 0 ≤ (x4).toInt; omega, by show (x4).toInt ≤ 20; omega⟩
  · have c_1 := tn_nle (a := (x3).toInt) (b := (x5).toInt) rfl rfl c_1
    refine ok_grd (vpb_ok (by omega) (by omega)) ?_
    refine ok_ite (fun c_2 => ?_) (fun c_2 => ?_)
    · have c_2 := tn_eq (a := (((s.f 42) (Int32.toNatClampNeg x5))).toInt) (b := (x1).toInt) rfl rfl c_2
      refine ok_grd (vpb_ok (by omega) (by omega)) ?_
      refine ok_bindP (ok_kX10_has _ _ ) (fun r5 hc_3 => ?_)
      have hl_r5 : 0 ≤ r5.toInt := hc_3.1
      have hu_r5 : r5.toInt ≤ 1 := hc_3.2
      refine ok_ite (fun c_4 => ?_) (fun c_4 => ?_)
      · have c_4 := tn_eq (a := (r5).toInt) (b := 0) rfl (by decide) c_4
        have a_5 : ((x4 + 1)).toInt = (x4).toInt + 1 := tn_add rfl (by decide) (by omega) (by omega)
        exact ok_kX8_beliedBy_40 s0 k6 M6 hk6 _ _ _ _ _ _ hI_s hF_s (by first | (clear hx0; omega) | omega) (by first | (clear hx0; omega) | omega) (by first | (clear hx0; omega) | omega) (by first | (clear hx0; omega) | omega) (by first | (clear hx0; omega) | omega) (by first | (clear hx0; omega) | omega) (by first | (clear hx0; omega) | omega) (by first | (clear hx0; omega) | omega) (by first | (clear hx0; omega) | omega) (by first | (clear hx0; omega) | omega) (by omega) (by first | (clear hx0; omega) | omega)
      · have c_4 := tn_ne (a := (r5).toInt) (b := 0) rfl (by decide) c_4
        exact ok_kX8_beliedBy_40 s0 k6 M6 hk6 _ _ _ _ _ _ hI_s hF_s (by first | (clear hx0; omega) | omega) (by first | (clear hx0; omega) | omega) (by first | (clear hx0; omega) | omega) (by first | (clear hx0; omega) | omega) (by first | (clear hx0; omega) | omega) (by first | (clear hx0; omega) | omega) (by first | (clear hx0; omega) | omega) (by first | (clear hx0; omega) | omega) (by first | (clear hx0; omega) | omega) (by first | (clear hx0; omega) | omega) (by omega) (by first | (clear hx0; omega) | omega)
    · have c_2 := tn_ne (a := (((s.f 42) (Int32.toNatClampNeg x5))).toInt) (b := (x1).toInt) rfl rfl c_2
      exact ok_kX8_beliedBy_40 s0 k6 M6 hk6 _ _ _ _ _ _ hI_s hF_s (by first | (clear hx0; omega) | omega) (by first | (clear hx0; omega) | omega) (by first | (clear hx0; omega) | omega) (by first | (clear hx0; omega) | omega) (by first | (clear hx0; omega) | omega) (by first | (clear hx0; omega) | omega) (by first | (clear hx0; omega) | omega) (by first | (clear hx0; omega) | omega) (by first | (clear hx0; omega) | omega) (by first | (clear hx0; omega) | omega) (by omega) (by first | (clear hx0; omega) | omega)
theorem okL_kX8_beliedBy_6 (s0 : KS)  : ∀ (n : Nat) (s : KS) (x1 : Int32) (x2 : Int32) (x3 : Int32) (x4 : Int32) (x5 : Int32), (20 - x5.toInt).toNat < n → InvK s → FrK [] s0 s → 0 ≤ x1.toInt → x1.toInt ≤ 4 → 0 ≤ x2.toInt → x2.toInt ≤ 5 → 0 ≤ x3.toInt → x3.toInt ≤ 20 → 0 ≤ x4.toInt → x4.toInt ≤ 20 → 0 ≤ x5.toInt → x5.toInt ≤ 20 → (x4.toInt ≤ x5.toInt) → Ok (kX8_beliedBy_6L  n s x1 x2 x3 x4 x5) (Q_kX8_beliedBy s0) := by
  intro n
  induction n with
  | zero => intro s x1 x2 x3 x4 x5 hn; omega
  | succ n ih =>
    intro s x1 x2 x3 x4 x5 hn hI_s hF_s h_x1l h_x1u h_x2l h_x2u h_x3l h_x3u h_x4l h_x4u h_x5l h_x5u hx0 
    exact ok_kX8_beliedBy_6 s0 (kX8_beliedBy_6L  n) ((20 - x5.toInt).toNat) (fun zs zx1 zx2 zx3 zx4 zx5 g0 g1 g2 g3 g4 g5 g6 g7 g8 g9 g10 g11 g12  hm => ih zs zx1 zx2 zx3 zx4 zx5 (by omega) g0 g1 g2 g3 g4 g5 g6 g7 g8 g9 g10 g11 g12 ) s x1 x2 x3 x4 x5 hI_s hF_s h_x1l h_x1u h_x2l h_x2u h_x3l h_x3u h_x4l h_x4u h_x5l h_x5u hx0 (Nat.le_refl _)
set_option maxHeartbeats 1000000 in
theorem ok_kX8_beliedByB (s0 : KS)  (s : KS) (x1 : Int32) (x2 : Int32) (x3 : Int32) (hI_s : InvK s) (hF_s : FrK [] s0 s) (h_x1l : 0 ≤ x1.toInt) (h_x1u : x1.toInt ≤ 4) (h_x2l : 0 ≤ x2.toInt) (h_x2u : x2.toInt ≤ 5) (h_x3l : 0 ≤ x3.toInt) (h_x3u : x3.toInt ≤ 20)  : Ok (kX8_beliedBy  s x1 x2 x3) (Q_kX8_beliedBy s0) := by
  unfold kX8_beliedBy
  have l_0 : (0 : Int32).toInt = 0 := by decide
  exact okL_kX8_beliedBy_6 s0  fu _ _ _ _ _ _ (by unfold fu; omega) hI_s hF_s (by omega) (by omega) (by omega) (by omega) (by omega) (by omega) (by decide) (by decide) (by decide) (by decide) (by omega) 
theorem ok_kX8_beliedBy (s : KS) (x1 : Int32) (x2 : Int32) (x3 : Int32) (hI_s : InvK s) (h_x1l : 0 ≤ x1.toInt) (h_x1u : x1.toInt ≤ 4) (h_x2l : 0 ≤ x2.toInt) (h_x2u : x2.toInt ≤ 5) (h_x3l : 0 ≤ x3.toInt) (h_x3u : x3.toInt ≤ 20) : Ok (kX8_beliedBy s x1 x2 x3) (Q_kX8_beliedBy s) := ok_kX8_beliedByB s s x1 x2 x3 hI_s FrK.rfl h_x1l h_x1u h_x2l h_x2u h_x3l h_x3u
abbrev Q_kX8_sortByLies (s0 : KS) (y : KS) : Prop := InvK y ∧ FrK [146] s0 y
set_option maxHeartbeats 1000000 in
theorem ok_kX8_sortByLies_62 (s0 : KS) (k17 : KS → Int32 → Int32 → Int32 → Option (KS)) (M17 : Nat) (hk17 : ∀ (s : KS) (x1 : Int32) (x2 : Int32) (x3 : Int32), InvK s → FrK [146] s0 s → -1 ≤ x1.toInt → x1.toInt ≤ 4 → 0 ≤ x2.toInt → x2.toInt ≤ 1 → 0 ≤ x3.toInt → x3.toInt ≤ 5 → (5 - x3.toInt).toNat < M17 → Ok (k17 s x1 x2 x3) (Q_kX8_sortByLies s0)) (s : KS) (x1 : Int32) (x2 : Int32) (x3 : Int32) (hI_s : InvK s) (hF_s : FrK [146] s0 s) (h_x1l : -1 ≤ x1.toInt) (h_x1u : x1.toInt ≤ 4) (h_x2l : 0 ≤ x2.toInt) (h_x2u : x2.toInt ≤ 1) (h_x3l : 0 ≤ x3.toInt) (h_x3u : x3.toInt ≤ 4) (hM17 : (5 - x3.toInt).toNat ≤ M17) : Ok (kX8_sortByLies_62 k17 s x1 x2 x3) (Q_kX8_sortByLies s0) := by
  unfold kX8_sortByLies_62
  have a_1 : ((x3 + 1)).toInt = (x3).toInt + 1 := tn_add rfl (by decide) (by omega) (by omega)
  exact hk17 _ _ _ _ hI_s hF_s (by omega) (by omega) (by omega) (by omega) (by omega) (by omega) (by omega)
set_option maxHeartbeats 1000000 in
theorem ok_kX8_sortByLies_36 (s0 : KS) (k17 : KS → Int32 → Int32 → Int32 → Option (KS)) (M17 : Nat) (hk17 : ∀ (s : KS) (x1 : Int32) (x2 : Int32) (x3 : Int32), InvK s → FrK [146] s0 s → -1 ≤ x1.toInt → x1.toInt ≤ 4 → 0 ≤ x2.toInt → x2.toInt ≤ 1 → 0 ≤ x3.toInt → x3.toInt ≤ 5 → (5 - x3.toInt).toNat < M17 → Ok (k17 s x1 x2 x3) (Q_kX8_sortByLies s0)) (k36 : KS → Int32 → Int32 → Int32 → Int32 → Option (KS)) (M36 : Nat) (hk36 : ∀ (s : KS) (x1 : Int32) (x2 : Int32) (x3 : Int32) (x4 : Int32), InvK s → FrK [146] s0 s → -1 ≤ x1.toInt → x1.toInt ≤ 4 → 0 ≤ x2.toInt → x2.toInt ≤ 1 → 0 ≤ x3.toInt → x3.toInt ≤ 4 → -1 ≤ x4.toInt → x4.toInt ≤ 3 → (5 - x3.toInt).toNat ≤ M17 → (x4.toInt - (-1)).toNat < M36 → Ok (k36 s x1 x2 x3 x4) (Q_kX8_sortByLies s0)) (s : KS) (x1 : Int32) (x2 : Int32) (x3 : Int32) (x4 : Int32) (hI_s : InvK s) (hF_s : FrK [146] s0 s) (h_x1l : -1 ≤ x1.toInt) (h_x1u : x1.toInt ≤ 4) (h_x2l : 0 ≤ x2.toInt) (h_x2u : x2.toInt ≤ 1) (h_x3l : 0 ≤ x3.toInt) (h_x3u : x3.toInt ≤ 4) (h_x4l : -1 ≤ x4.toInt) (h_x4u : x4.toInt ≤ 3) (hM17 : (5 - x3.toInt).toNat ≤ M17) (hM36 : (x4.toInt - (-1)).toNat ≤ M36) : Ok (kX8_sortByLies_36 k17 k36 s x1 x2 x3 x4) (Q_kX8_sortByLies s0) := by
  unfold kX8_sortByLies_36
  rw [show x4 + (-1) = x4 - 1 from (Int32.sub_eq_add_neg x4 1).symm]
  refine ok_ite (fun c_1 => ?_) (fun c_1 => ?_)
  · have c_1 := tn_lt (a := (x4).toInt) (b := 0) rfl (by decide) c_1
    exact ok_kX8_sortByLies_62 s0 k17 M17 hk17 _ _ _ _ hI_s hF_s (by omega) (by omega) (by omega) (by omega) (by omega) (by omega) (by omega)
  · have c_1 := tn_nlt (a := (x4).toInt) (b := 0) rfl (by decide) c_1
    refine ok_bindI (ok_kX8_withWave _ _ _ _ hI_s (by omega) (by omega) (by omega) (by omega) (by omega) (by omega)) (fun r3 s2 hc_2 => ?_)
    have hI_s2 : InvK s2 := hc_2.1
    have hFc_s2 : FrK [] s s2 := hc_2.2.1
    have hF_s2 : FrK [146] s0 s2 := hF_s.trans hFc_s2 (by decide)
    refine ok_grd (vpb_ok (by omega) (by omega)) ?_
    refine ok_let (fun s5 hs5 => ?_)
    have hI_s5 : InvK s5 := by rw [← hs5]; exact hI_s2.sfF (k := 46) rfl rfl
    have hF_s5 : FrK [146] s0 s5 := by rw [← hs5]; exact hF_s2.sf (k := 46) (by decide)
    have a_3 : ((x4 - 1)).toInt = (x4).toInt - 1 := tn_sub rfl (by decide) (by omega) (by omega)
    exact hk36 _ _ _ _ _ hI_s5 hF_s5 (by omega) (by omega) (by omega) (by omega) (by omega) (by omega) (by omega) (by omega) (by omega) (by omega)
theorem okL_kX8_sortByLies_36 (s0 : KS) (k17 : KS → Int32 → Int32 → Int32 → Option (KS)) (M17 : Nat) (hk17 : ∀ (s : KS) (x1 : Int32) (x2 : Int32) (x3 : Int32), InvK s → FrK [146] s0 s → -1 ≤ x1.toInt → x1.toInt ≤ 4 → 0 ≤ x2.toInt → x2.toInt ≤ 1 → 0 ≤ x3.toInt → x3.toInt ≤ 5 → (5 - x3.toInt).toNat < M17 → Ok (k17 s x1 x2 x3) (Q_kX8_sortByLies s0)) : ∀ (n : Nat) (s : KS) (x1 : Int32) (x2 : Int32) (x3 : Int32) (x4 : Int32), (x4.toInt - (-1)).toNat < n → InvK s → FrK [146] s0 s → -1 ≤ x1.toInt → x1.toInt ≤ 4 → 0 ≤ x2.toInt → x2.toInt ≤ 1 → 0 ≤ x3.toInt → x3.toInt ≤ 4 → -1 ≤ x4.toInt → x4.toInt ≤ 3 → (5 - x3.toInt).toNat ≤ M17 → Ok (kX8_sortByLies_36L k17 n s x1 x2 x3 x4) (Q_kX8_sortByLies s0) := by
  intro n
  induction n with
  | zero => intro s x1 x2 x3 x4 hn; omega
  | succ n ih =>
    intro s x1 x2 x3 x4 hn hI_s hF_s h_x1l h_x1u h_x2l h_x2u h_x3l h_x3u h_x4l h_x4u hM17
    exact ok_kX8_sortByLies_36 s0 k17 M17 hk17 (kX8_sortByLies_36L k17 n) ((x4.toInt - (-1)).toNat) (fun zs zx1 zx2 zx3 zx4 g0 g1 g2 g3 g4 g5 g6 g7 g8 g9 o17 hm => ih zs zx1 zx2 zx3 zx4 (by omega) g0 g1 g2 g3 g4 g5 g6 g7 g8 g9 o17) s x1 x2 x3 x4 hI_s hF_s h_x1l h_x1u h_x2l h_x2u h_x3l h_x3u h_x4l h_x4u hM17 (Nat.le_refl _)
set_option maxHeartbeats 1000000 in
theorem ok_kX8_sortByLies_17 (s0 : KS) (k17 : KS → Int32 → Int32 → Int32 → Option (KS)) (M17 : Nat) (hk17 : ∀ (s : KS) (x1 : Int32) (x2 : Int32) (x3 : Int32), InvK s → FrK [146] s0 s → -1 ≤ x1.toInt → x1.toInt ≤ 4 → 0 ≤ x2.toInt → x2.toInt ≤ 1 → 0 ≤ x3.toInt → x3.toInt ≤ 5 → (5 - x3.toInt).toNat < M17 → Ok (k17 s x1 x2 x3) (Q_kX8_sortByLies s0)) (s : KS) (x1 : Int32) (x2 : Int32) (x3 : Int32) (hI_s : InvK s) (hF_s : FrK [146] s0 s) (h_x1l : -1 ≤ x1.toInt) (h_x1u : x1.toInt ≤ 4) (h_x2l : 0 ≤ x2.toInt) (h_x2u : x2.toInt ≤ 1) (h_x3l : 0 ≤ x3.toInt) (h_x3u : x3.toInt ≤ 5) (hM17 : (5 - x3.toInt).toNat ≤ M17) : Ok (kX8_sortByLies_17 k17 s x1 x2 x3) (Q_kX8_sortByLies s0) := by
  unfold kX8_sortByLies_17
  have a_1 : 0 ≤ (s.v 1).toInt ∧ (s.v 1).toInt ≤ 5 := hI_s.1 1
  refine ok_ite (fun c_2 => ?_) (fun c_2 => ?_)
  · have c_2 := tn_le (a := ((s.v 1)).toInt) (b := (x3).toInt) rfl rfl c_2
    exact ok_some ⟨hI_s, hF_s⟩
  · have c_2 := tn_nle (a := ((s.v 1)).toInt) (b := (x3).toInt) rfl rfl c_2
    refine ok_ite (fun c_3 => ?_) (fun c_3 => ?_)
    · have c_3 := tn_eq (a := (x3).toInt) (b := (x1).toInt) rfl rfl c_3
      exact ok_kX8_sortByLies_62 s0 k17 M17 hk17 _ _ _ _ hI_s hF_s (by omega) (by omega) (by omega) (by omega) (by omega) (by omega) (by omega)
    · have c_3 := tn_ne (a := (x3).toInt) (b := (x1).toInt) rfl rfl c_3
      have l_3 : (3 : Int32).toInt = 3 := by decide
      exact okL_kX8_sortByLies_36 s0 k17 M17 hk17 fu _ _ _ _ _ (by unfold fu; omega) hI_s hF_s (by omega) (by omega) (by omega) (by omega) (by omega) (by omega) (by decide) (by decide) (by omega)
theorem okL_kX8_sortByLies_17 (s0 : KS)  : ∀ (n : Nat) (s : KS) (x1 : Int32) (x2 : Int32) (x3 : Int32), (5 - x3.toInt).toNat < n → InvK s → FrK [146] s0 s → -1 ≤ x1.toInt → x1.toInt ≤ 4 → 0 ≤ x2.toInt → x2.toInt ≤ 1 → 0 ≤ x3.toInt → x3.toInt ≤ 5 → Ok (kX8_sortByLies_17L  n s x1 x2 x3) (Q_kX8_sortByLies s0) := by
  intro n
  induction n with
  | zero => intro s x1 x2 x3 hn; omega
  | succ n ih =>
    intro s x1 x2 x3 hn hI_s hF_s h_x1l h_x1u h_x2l h_x2u h_x3l h_x3u 
    exact ok_kX8_sortByLies_17 s0 (kX8_sortByLies_17L  n) ((5 - x3.toInt).toNat) (fun zs zx1 zx2 zx3 g0 g1 g2 g3 g4 g5 g6 g7  hm => ih zs zx1 zx2 zx3 (by omega) g0 g1 g2 g3 g4 g5 g6 g7 ) s x1 x2 x3 hI_s hF_s h_x1l h_x1u h_x2l h_x2u h_x3l h_x3u (Nat.le_refl _)
set_option maxHeartbeats 1000000 in
theorem ok_kX8_sortByLiesB (s0 : KS)  (s : KS) (x1 : Int32) (x2 : Int32) (hI_s : InvK s) (hF_s : FrK [146] s0 s) (h_x1l : -1 ≤ x1.toInt) (h_x1u : x1.toInt ≤ 4) (h_x2l : 0 ≤ x2.toInt) (h_x2u : x2.toInt ≤ 1)  : Ok (kX8_sortByLies  s x1 x2) (Q_kX8_sortByLies s0) := by
  unfold kX8_sortByLies
  refine ok_bindP (ok_kJ7_fill_53178_4 _ _ (by decide) (by decide)) (fun s1 hc_1 => ?_)
  refine ok_let (fun s2 hs2 => ?_)
  have hI_s2 : InvK s2 := by rw [← hs2]; exact hI_s.saF (k := 46) rfl rfl
  have hF_s2 : FrK [146] s0 s2 := by rw [← hs2]; exact hF_s.sa (k := 46) (by decide)
  refine ok_let (fun s4 hs4 => ?_)
  have hI_s4 : InvK s4 := by rw [← hs4]; exact hI_s2.sfF (k := 46) rfl rfl
  have hF_s4 : FrK [146] s0 s4 := by rw [← hs4]; exact hF_s2.sf (k := 46) (by decide)
  have l_0 : (0 : Int32).toInt = 0 := by decide
  exact okL_kX8_sortByLies_17 s0  fu _ _ _ _ (by unfold fu; omega) hI_s4 hF_s4 (by omega) (by omega) (by omega) (by omega) (by decide) (by decide) 
theorem ok_kX8_sortByLies (s : KS) (x1 : Int32) (x2 : Int32) (hI_s : InvK s) (h_x1l : -1 ≤ x1.toInt) (h_x1u : x1.toInt ≤ 4) (h_x2l : 0 ≤ x2.toInt) (h_x2u : x2.toInt ≤ 1) : Ok (kX8_sortByLies s x1 x2) (Q_kX8_sortByLies s) := ok_kX8_sortByLiesB s s x1 x2 hI_s FrK.rfl h_x1l h_x1u h_x2l h_x2u
abbrev Q_kX8_fitting (s0 : KS) (y : Int32 × KS) : Prop := InvK y.2 ∧ FrK [146] s0 y.2 ∧ -2147483648 ≤ y.1.toInt ∧ y.1.toInt ≤ 2147483647
set_option maxHeartbeats 1000000 in
theorem ok_kX8_fittingB (s0 : KS)  (s : KS) (x1 : Int32) (x2 : Int32) (hI_s : InvK s) (hF_s : FrK [146] s0 s) (h_x1l : 0 ≤ x1.toInt) (h_x1u : x1.toInt ≤ 3) (h_x2l : 0 ≤ x2.toInt) (h_x2u : x2.toInt ≤ 1)  : Ok (kX8_fitting  s x1 x2) (Q_kX8_fitting s0) := by
  unfold kX8_fitting
  refine ok_bindP (ok_kX8_sortByLies _ _ _ hI_s (by decide) (by decide) (by omega) (by omega)) (fun s1 hc_1 => ?_)
  have hI_s1 : InvK s1 := hc_1.1
  have hFc_s1 : FrK [146] s s1 := hc_1.2
  have hF_s1 : FrK [146] s0 s1 := hF_s.trans hFc_s1 (by decide)
  refine ok_bindI (ok_kX8_upTo _ _ hI_s1 (by omega) (by omega)) (fun r3 s2 hc_2 => ?_)
  have hI_s2 : InvK s2 := hc_2.1
  have hFc_s2 : FrK [] s1 s2 := hc_2.2.1
  have hF_s2 : FrK [146] s0 s2 := hF_s1.trans hFc_s2 (by decide)
  exact ok_some ⟨hI_s2, hF_s2, (ti_rng _).1, (ti_rng _).2⟩
theorem ok_kX8_fitting (s : KS) (x1 : Int32) (x2 : Int32) (hI_s : InvK s) (h_x1l : 0 ≤ x1.toInt) (h_x1u : x1.toInt ≤ 3) (h_x2l : 0 ≤ x2.toInt) (h_x2u : x2.toInt ≤ 1) : Ok (kX8_fitting s x1 x2) (Q_kX8_fitting s) := ok_kX8_fittingB s s x1 x2 hI_s FrK.rfl h_x1l h_x1u h_x2l h_x2u
abbrev Q_kX8_liars (s0 : KS) (y : Int32 × KS) : Prop := InvK y.2 ∧ FrK [146] s0 y.2 ∧ -2147483648 ≤ y.1.toInt ∧ y.1.toInt ≤ 2147483647
set_option maxHeartbeats 1000000 in
theorem ok_kX8_liars_111 (s0 : KS) (k5 : KS → Int32 → Int32 → Int32 → Int32 → Option (Int32 × KS)) (M5 : Nat) (hk5 : ∀ (s : KS) (x1 : Int32) (x2 : Int32) (x3 : Int32) (x4 : Int32), InvK s → FrK [146] s0 s → 0 ≤ x1.toInt → x1.toInt ≤ 20 → 0 ≤ x2.toInt → x2.toInt ≤ 3 → 0 ≤ x4.toInt → x4.toInt ≤ 5 → (5 - x4.toInt).toNat < M5 → Ok (k5 s x1 x2 x3 x4) (Q_kX8_liars s0)) (k71 : KS → Int32 → Int32 → Int32 → Int32 → Int32 → Int32 → Option (Int32 × KS)) (M71 : Nat) (hk71 : ∀ (s : KS) (x1 : Int32) (x2 : Int32) (x3 : Int32) (x4 : Int32) (x5 : Int32) (x6 : Int32), InvK s → FrK [146] s0 s → 0 ≤ x1.toInt → x1.toInt ≤ 20 → 0 ≤ x2.toInt → x2.toInt ≤ 3 → 0 ≤ x4.toInt → x4.toInt ≤ 4 → 0 ≤ x6.toInt → x6.toInt ≤ 20 → (5 - x4.toInt).toNat ≤ M5 → (20 - x6.toInt).toNat < M71 → Ok (k71 s x1 x2 x3 x4 x5 x6) (Q_kX8_liars s0)) (s : KS) (x1 : Int32) (x2 : Int32) (x4 : Int32) (x5 : Int32) (x6 : Int32) (t0 : Int32) (t1 : Int32) (hI_s : InvK s) (hF_s : FrK [146] s0 s) (h_x1l : 1 ≤ x1.toInt) (h_x1u : x1.toInt ≤ 20) (h_x2l : 0 ≤ x2.toInt) (h_x2u : x2.toInt ≤ 3) (h_x4l : 0 ≤ x4.toInt) (h_x4u : x4.toInt ≤ 4) (h_x6l : 0 ≤ x6.toInt) (h_x6u : x6.toInt ≤ 19) (hM5 : (5 - x4.toInt).toNat ≤ M5) (hM71 : (20 - x6.toInt).toNat ≤ M71) : Ok (kX8_liars_111 k5 k71 s x1 x2 x4 x5 x6 t0 t1) (Q_kX8_liars s0) := by
  unfold kX8_liars_111
  have a_1 : ((x6 + 1)).toInt = (x6).toInt + 1 := tn_add rfl (by decide) (by omega) (by omega)
  exact hk71 _ _ _ _ _ _ _ hI_s hF_s (by omega) (by omega) (by omega) (by omega) (by omega) (by omega) (by omega) (by omega) (by omega) (by omega)
set_option maxHeartbeats 1000000 in
theorem ok_kX8_liars_110 (s0 : KS) (k5 : KS → Int32 → Int32 → Int32 → Int32 → Option (Int32 × KS)) (M5 : Nat) (hk5 : ∀ (s : KS) (x1 : Int32) (x2 : Int32) (x3 : Int32) (x4 : Int32), InvK s → FrK [146] s0 s → 0 ≤ x1.toInt → x1.toInt ≤ 20 → 0 ≤ x2.toInt → x2.toInt ≤ 3 → 0 ≤ x4.toInt → x4.toInt ≤ 5 → (5 - x4.toInt).toNat < M5 → Ok (k5 s x1 x2 x3 x4) (Q_kX8_liars s0)) (k71 : KS → Int32 → Int32 → Int32 → Int32 → Int32 → Int32 → Option (Int32 × KS)) (M71 : Nat) (hk71 : ∀ (s : KS) (x1 : Int32) (x2 : Int32) (x3 : Int32) (x4 : Int32) (x5 : Int32) (x6 : Int32), InvK s → FrK [146] s0 s → 0 ≤ x1.toInt → x1.toInt ≤ 20 → 0 ≤ x2.toInt → x2.toInt ≤ 3 → 0 ≤ x4.toInt → x4.toInt ≤ 4 → 0 ≤ x6.toInt → x6.toInt ≤ 20 → (5 - x4.toInt).toNat ≤ M5 → (20 - x6.toInt).toNat < M71 → Ok (k71 s x1 x2 x3 x4 x5 x6) (Q_kX8_liars s0)) (s : KS) (x1 : Int32) (x2 : Int32) (x4 : Int32) (x5 : Int32) (x6 : Int32) (t0 : Int32) (hI_s : InvK s) (hF_s : FrK [146] s0 s) (h_x1l : 1 ≤ x1.toInt) (h_x1u : x1.toInt ≤ 20) (h_x2l : 0 ≤ x2.toInt) (h_x2u : x2.toInt ≤ 3) (h_x4l : 0 ≤ x4.toInt) (h_x4u : x4.toInt ≤ 4) (h_x6l : 0 ≤ x6.toInt) (h_x6u : x6.toInt ≤ 19) (hM5 : (5 - x4.toInt).toNat ≤ M5) (hM71 : (20 - x6.toInt).toNat ≤ M71) : Ok (kX8_liars_110 k5 k71 s x1 x2 x4 x5 x6 t0) (Q_kX8_liars s0) := by
  unfold kX8_liars_110
  have l_0 : (0 : Int32).toInt = 0 := by decide
  exact ok_kX8_liars_111 s0 k5 M5 hk5 k71 M71 hk71 _ _ _ _ _ _ _ _ hI_s hF_s (by omega) (by omega) (by omega) (by omega) (by omega) (by omega) (by omega) (by omega) (by omega) (by omega)
set_option maxHeartbeats 1000000 in
theorem ok_kX8_liars_71 (s0 : KS) (k5 : KS → Int32 → Int32 → Int32 → Int32 → Option (Int32 × KS)) (M5 : Nat) (hk5 : ∀ (s : KS) (x1 : Int32) (x2 : Int32) (x3 : Int32) (x4 : Int32), InvK s → FrK [146] s0 s → 0 ≤ x1.toInt → x1.toInt ≤ 20 → 0 ≤ x2.toInt → x2.toInt ≤ 3 → 0 ≤ x4.toInt → x4.toInt ≤ 5 → (5 - x4.toInt).toNat < M5 → Ok (k5 s x1 x2 x3 x4) (Q_kX8_liars s0)) (k71 : KS → Int32 → Int32 → Int32 → Int32 → Int32 → Int32 → Option (Int32 × KS)) (M71 : Nat) (hk71 : ∀ (s : KS) (x1 : Int32) (x2 : Int32) (x3 : Int32) (x4 : Int32) (x5 : Int32) (x6 : Int32), InvK s → FrK [146] s0 s → 0 ≤ x1.toInt → x1.toInt ≤ 20 → 0 ≤ x2.toInt → x2.toInt ≤ 3 → 0 ≤ x4.toInt → x4.toInt ≤ 4 → 0 ≤ x6.toInt → x6.toInt ≤ 20 → (5 - x4.toInt).toNat ≤ M5 → (20 - x6.toInt).toNat < M71 → Ok (k71 s x1 x2 x3 x4 x5 x6) (Q_kX8_liars s0)) (s : KS) (x1 : Int32) (x2 : Int32) (x3 : Int32) (x4 : Int32) (x5 : Int32) (x6 : Int32) (hI_s : InvK s) (hF_s : FrK [146] s0 s) (h_x1l : 0 ≤ x1.toInt) (h_x1u : x1.toInt ≤ 20) (h_x2l : 0 ≤ x2.toInt) (h_x2u : x2.toInt ≤ 3) (h_x4l : 0 ≤ x4.toInt) (h_x4u : x4.toInt ≤ 4) (h_x6l : 0 ≤ x6.toInt) (h_x6u : x6.toInt ≤ 20) (hM5 : (5 - x4.toInt).toNat ≤ M5) (hM71 : (20 - x6.toInt).toNat ≤ M71) : Ok (kX8_liars_71 k5 k71 s x1 x2 x3 x4 x5 x6) (Q_kX8_liars s0) := by
  unfold kX8_liars_71
  refine ok_ite (fun c_1 => ?_) (fun c_1 => ?_)
  · have c_1 := tn_le (a := (x1).toInt) (b := (x6).toInt) rfl rfl c_1
    have a_2 : ((x4 + 1)).toInt = (x4).toInt + 1 := tn_add rfl (by decide) (by omega) (by omega)
    exact hk5 _ _ _ _ _ hI_s hF_s (by omega) (by omega) (by omega) (by omega) (by omega) (by omega) (by omega)
  · have c_1 := tn_nle (a := (x1).toInt) (b := (x6).toInt) rfl rfl c_1
    refine ok_grd (vpb_ok (by omega) (by omega)) ?_
    refine ok_ite (fun c_3 => ?_) (fun c_3 => ?_)
    · have c_3 := tn_eq (a := (((s.f 42) (Int32.toNatClampNeg x6))).toInt) (b := (x4).toInt) rfl rfl c_3
      refine ok_grd (vpb_ok (by omega) (by omega)) ?_
      refine ok_ite (fun c_4 => ?_) (fun c_4 => ?_)
      · have c_4 := tn_eq (a := ((((s.f 43) (Int32.toNatClampNeg x6)) &&& x5)).toInt) (b := 0) rfl (by decide) c_4
        exact ok_kX8_liars_111 s0 k5 M5 hk5 k71 M71 hk71 _ _ _ _ _ _ _ _ hI_s hF_s (by omega) (by omega) (by omega) (by omega) (by omega) (by omega) (by omega) (by omega) (by omega) (by omega)
      · have c_4 := tn_ne (a := ((((s.f 43) (Int32.toNatClampNeg x6)) &&& x5)).toInt) (b := 0) rfl (by decide) c_4
        exact ok_kX8_liars_110 s0 k5 M5 hk5 k71 M71 hk71 _ _ _ _ _ _ _ hI_s hF_s (by omega) (by omega) (by omega) (by omega) (by omega) (by omega) (by omega) (by omega) (by omega) (by omega)
    · have c_3 := tn_ne (a := (((s.f 42) (Int32.toNatClampNeg x6))).toInt) (b := (x4).toInt) rfl rfl c_3
      exact ok_kX8_liars_110 s0 k5 M5 hk5 k71 M71 hk71 _ _ _ _ _ _ _ hI_s hF_s (by omega) (by omega) (by omega) (by omega) (by omega) (by omega) (by omega) (by omega) (by omega) (by omega)
theorem okL_kX8_liars_71 (s0 : KS) (k5 : KS → Int32 → Int32 → Int32 → Int32 → Option (Int32 × KS)) (M5 : Nat) (hk5 : ∀ (s : KS) (x1 : Int32) (x2 : Int32) (x3 : Int32) (x4 : Int32), InvK s → FrK [146] s0 s → 0 ≤ x1.toInt → x1.toInt ≤ 20 → 0 ≤ x2.toInt → x2.toInt ≤ 3 → 0 ≤ x4.toInt → x4.toInt ≤ 5 → (5 - x4.toInt).toNat < M5 → Ok (k5 s x1 x2 x3 x4) (Q_kX8_liars s0)) : ∀ (n : Nat) (s : KS) (x1 : Int32) (x2 : Int32) (x3 : Int32) (x4 : Int32) (x5 : Int32) (x6 : Int32), (20 - x6.toInt).toNat < n → InvK s → FrK [146] s0 s → 0 ≤ x1.toInt → x1.toInt ≤ 20 → 0 ≤ x2.toInt → x2.toInt ≤ 3 → 0 ≤ x4.toInt → x4.toInt ≤ 4 → 0 ≤ x6.toInt → x6.toInt ≤ 20 → (5 - x4.toInt).toNat ≤ M5 → Ok (kX8_liars_71L k5 n s x1 x2 x3 x4 x5 x6) (Q_kX8_liars s0) := by
  intro n
  induction n with
  | zero => intro s x1 x2 x3 x4 x5 x6 hn; omega
  | succ n ih =>
    intro s x1 x2 x3 x4 x5 x6 hn hI_s hF_s h_x1l h_x1u h_x2l h_x2u h_x4l h_x4u h_x6l h_x6u hM5
    exact ok_kX8_liars_71 s0 k5 M5 hk5 (kX8_liars_71L k5 n) ((20 - x6.toInt).toNat) (fun zs zx1 zx2 zx3 zx4 zx5 zx6 g0 g1 g2 g3 g4 g5 g6 g7 g8 g9 o5 hm => ih zs zx1 zx2 zx3 zx4 zx5 zx6 (by omega) g0 g1 g2 g3 g4 g5 g6 g7 g8 g9 o5) s x1 x2 x3 x4 x5 x6 hI_s hF_s h_x1l h_x1u h_x2l h_x2u h_x4l h_x4u h_x6l h_x6u hM5 (Nat.le_refl _)
set_option maxHeartbeats 1000000 in
theorem ok_kX8_liars_59 (s0 : KS) (k5 : KS → Int32 → Int32 → Int32 → Int32 → Option (Int32 × KS)) (M5 : Nat) (hk5 : ∀ (s : KS) (x1 : Int32) (x2 : Int32) (x3 : Int32) (x4 : Int32), InvK s → FrK [146] s0 s → 0 ≤ x1.toInt → x1.toInt ≤ 20 → 0 ≤ x2.toInt → x2.toInt ≤ 3 → 0 ≤ x4.toInt → x4.toInt ≤ 5 → (5 - x4.toInt).toNat < M5 → Ok (k5 s x1 x2 x3 x4) (Q_kX8_liars s0)) (k30 : KS → Int32 → Int32 → Int32 → Int32 → Int32 → Int32 → Option (Int32 × KS)) (M30 : Nat) (hk30 : ∀ (s : KS) (x1 : Int32) (x2 : Int32) (x3 : Int32) (x4 : Int32) (x5 : Int32) (x6 : Int32), InvK s → FrK [146] s0 s → 0 ≤ x1.toInt → x1.toInt ≤ 20 → 0 ≤ x2.toInt → x2.toInt ≤ 3 → 0 ≤ x4.toInt → x4.toInt ≤ 4 → 0 ≤ x6.toInt → x6.toInt ≤ 6 → (5 - x4.toInt).toNat ≤ M5 → (6 - x6.toInt).toNat < M30 → Ok (k30 s x1 x2 x3 x4 x5 x6) (Q_kX8_liars s0)) (s : KS) (x1 : Int32) (x2 : Int32) (x3 : Int32) (x4 : Int32) (x6 : Int32) (t0 : Int32) (t1 : Int32) (hI_s : InvK s) (hF_s : FrK [146] s0 s) (h_x1l : 0 ≤ x1.toInt) (h_x1u : x1.toInt ≤ 20) (h_x2l : 0 ≤ x2.toInt) (h_x2u : x2.toInt ≤ 3) (h_x4l : 0 ≤ x4.toInt) (h_x4u : x4.toInt ≤ 4) (h_x6l : 0 ≤ x6.toInt) (h_x6u : x6.toInt ≤ 5) (hM5 : (5 - x4.toInt).toNat ≤ M5) (hM30 : (6 - x6.toInt).toNat ≤ M30) : Ok (kX8_liars_59 k5 k30 s x1 x2 x3 x4 x6 t0 t1) (Q_kX8_liars s0) := by
  unfold kX8_liars_59
  have a_1 : ((x6 + 1)).toInt = (x6).toInt + 1 := tn_add rfl (by decide) (by omega) (by omega)
  exact hk30 _ _ _ _ _ _ _ hI_s hF_s (by omega) (by omega) (by omega) (by omega) (by omega) (by omega) (by omega) (by omega) (by omega) (by omega)
set_option maxHeartbeats 1000000 in
theorem ok_kX8_liars_30 (s0 : KS) (k5 : KS → Int32 → Int32 → Int32 → Int32 → Option (Int32 × KS)) (M5 : Nat) (hk5 : ∀ (s : KS) (x1 : Int32) (x2 : Int32) (x3 : Int32) (x4 : Int32), InvK s → FrK [146] s0 s → 0 ≤ x1.toInt → x1.toInt ≤ 20 → 0 ≤ x2.toInt → x2.toInt ≤ 3 → 0 ≤ x4.toInt → x4.toInt ≤ 5 → (5 - x4.toInt).toNat < M5 → Ok (k5 s x1 x2 x3 x4) (Q_kX8_liars s0)) (k30 : KS → Int32 → Int32 → Int32 → Int32 → Int32 → Int32 → Option (Int32 × KS)) (M30 : Nat) (hk30 : ∀ (s : KS) (x1 : Int32) (x2 : Int32) (x3 : Int32) (x4 : Int32) (x5 : Int32) (x6 : Int32), InvK s → FrK [146] s0 s → 0 ≤ x1.toInt → x1.toInt ≤ 20 → 0 ≤ x2.toInt → x2.toInt ≤ 3 → 0 ≤ x4.toInt → x4.toInt ≤ 4 → 0 ≤ x6.toInt → x6.toInt ≤ 6 → (5 - x4.toInt).toNat ≤ M5 → (6 - x6.toInt).toNat < M30 → Ok (k30 s x1 x2 x3 x4 x5 x6) (Q_kX8_liars s0)) (s : KS) (x1 : Int32) (x2 : Int32) (x3 : Int32) (x4 : Int32) (x5 : Int32) (x6 : Int32) (hI_s : InvK s) (hF_s : FrK [146] s0 s) (h_x1l : 0 ≤ x1.toInt) (h_x1u : x1.toInt ≤ 20) (h_x2l : 0 ≤ x2.toInt) (h_x2u : x2.toInt ≤ 3) (h_x4l : 0 ≤ x4.toInt) (h_x4u : x4.toInt ≤ 4) (h_x6l : 0 ≤ x6.toInt) (h_x6u : x6.toInt ≤ 6) (hM5 : (5 - x4.toInt).toNat ≤ M5) (hM30 : (6 - x6.toInt).toNat ≤ M30) : Ok (kX8_liars_30 k5 k30 s x1 x2 x3 x4 x5 x6) (Q_kX8_liars s0) := by
  unfold kX8_liars_30
  refine ok_ite (fun c_1 => ?_) (fun c_1 => ?_)
  · have c_1 := tn_le (a := 6) (b := (x6).toInt) (by decide) rfl c_1
    have l_0 : (0 : Int32).toInt = 0 := by decide
    exact okL_kX8_liars_71 s0 k5 M5 hk5 fu _ _ _ _ _ _ _ (by unfold fu; omega) hI_s hF_s (by omega) (by omega) (by omega) (by omega) (by omega) (by omega) (by decide) (by decide) (by omega)
  · have c_1 := tn_nle (a := 6) (b := (x6).toInt) (by decide) rfl c_1
    refine ok_bindI (ok_kX8_fittingWith _ _ _ _ hI_s (by omega) (by omega) (by omega) (by omega) (by omega) (by omega)) (fun r3 s2 hc_2 => ?_)
    have hI_s2 : InvK s2 := hc_2.1
    have hFc_s2 : FrK [] s s2 := hc_2.2.1
    have hF_s2 : FrK [146] s0 s2 := hF_s.trans hFc_s2 (by decide)
    refine ok_ite (fun c_3 => ?_) (fun c_3 => ?_)
    · have c_3 := tn_le (a := (r3).toInt) (b := 0) rfl (by decide) c_3
      have l_0 : (0 : Int32).toInt = 0 := by decide
      exact ok_kX8_liars_59 s0 k5 M5 hk5 k30 M30 hk30 _ _ _ _ _ _ _ _ hI_s2 hF_s2 (by omega) (by omega) (by omega) (by omega) (by omega) (by omega) (by omega) (by omega) (by omega) (by omega)
    · have c_3 := tn_nle (a := (r3).toInt) (b := 0) rfl (by decide) c_3
      exact ok_kX8_liars_59 s0 k5 M5 hk5 k30 M30 hk30 _ _ _ _ _ _ _ _ hI_s2 hF_s2 (by omega) (by omega) (by omega) (by omega) (by omega) (by omega) (by omega) (by omega) (by omega) (by omega)
theorem okL_kX8_liars_30 (s0 : KS) (k5 : KS → Int32 → Int32 → Int32 → Int32 → Option (Int32 × KS)) (M5 : Nat) (hk5 : ∀ (s : KS) (x1 : Int32) (x2 : Int32) (x3 : Int32) (x4 : Int32), InvK s → FrK [146] s0 s → 0 ≤ x1.toInt → x1.toInt ≤ 20 → 0 ≤ x2.toInt → x2.toInt ≤ 3 → 0 ≤ x4.toInt → x4.toInt ≤ 5 → (5 - x4.toInt).toNat < M5 → Ok (k5 s x1 x2 x3 x4) (Q_kX8_liars s0)) : ∀ (n : Nat) (s : KS) (x1 : Int32) (x2 : Int32) (x3 : Int32) (x4 : Int32) (x5 : Int32) (x6 : Int32), (6 - x6.toInt).toNat < n → InvK s → FrK [146] s0 s → 0 ≤ x1.toInt → x1.toInt ≤ 20 → 0 ≤ x2.toInt → x2.toInt ≤ 3 → 0 ≤ x4.toInt → x4.toInt ≤ 4 → 0 ≤ x6.toInt → x6.toInt ≤ 6 → (5 - x4.toInt).toNat ≤ M5 → Ok (kX8_liars_30L k5 n s x1 x2 x3 x4 x5 x6) (Q_kX8_liars s0) := by
  intro n
  induction n with
  | zero => intro s x1 x2 x3 x4 x5 x6 hn; omega
  | succ n ih =>
    intro s x1 x2 x3 x4 x5 x6 hn hI_s hF_s h_x1l h_x1u h_x2l h_x2u h_x4l h_x4u h_x6l h_x6u hM5
    exact ok_kX8_liars_30 s0 k5 M5 hk5 (kX8_liars_30L k5 n) ((6 - x6.toInt).toNat) (fun zs zx1 zx2 zx3 zx4 zx5 zx6 g0 g1 g2 g3 g4 g5 g6 g7 g8 g9 o5 hm => ih zs zx1 zx2 zx3 zx4 zx5 zx6 (by omega) g0 g1 g2 g3 g4 g5 g6 g7 g8 g9 o5) s x1 x2 x3 x4 x5 x6 hI_s hF_s h_x1l h_x1u h_x2l h_x2u h_x4l h_x4u h_x6l h_x6u hM5 (Nat.le_refl _)
set_option maxHeartbeats 1000000 in
theorem ok_kX8_liars_5 (s0 : KS) (k5 : KS → Int32 → Int32 → Int32 → Int32 → Option (Int32 × KS)) (M5 : Nat) (hk5 : ∀ (s : KS) (x1 : Int32) (x2 : Int32) (x3 : Int32) (x4 : Int32), InvK s → FrK [146] s0 s → 0 ≤ x1.toInt → x1.toInt ≤ 20 → 0 ≤ x2.toInt → x2.toInt ≤ 3 → 0 ≤ x4.toInt → x4.toInt ≤ 5 → (5 - x4.toInt).toNat < M5 → Ok (k5 s x1 x2 x3 x4) (Q_kX8_liars s0)) (s : KS) (x1 : Int32) (x2 : Int32) (x3 : Int32) (x4 : Int32) (hI_s : InvK s) (hF_s : FrK [146] s0 s) (h_x1l : 0 ≤ x1.toInt) (h_x1u : x1.toInt ≤ 20) (h_x2l : 0 ≤ x2.toInt) (h_x2u : x2.toInt ≤ 3) (h_x4l : 0 ≤ x4.toInt) (h_x4u : x4.toInt ≤ 5) (hM5 : (5 - x4.toInt).toNat ≤ M5) : Ok (kX8_liars_5 k5 s x1 x2 x3 x4) (Q_kX8_liars s0) := by
  unfold kX8_liars_5
  have a_1 : 0 ≤ (s.v 1).toInt ∧ (s.v 1).toInt ≤ 5 := hI_s.1 1
  refine ok_ite (fun c_2 => ?_) (fun c_2 => ?_)
  · have c_2 := tn_le (a := ((s.v 1)).toInt) (b := (x4).toInt) rfl rfl c_2
    exact ok_some ⟨hI_s, hF_s, (ti_rng _).1, (ti_rng _).2⟩
  · have c_2 := tn_nle (a := ((s.v 1)).toInt) (b := (x4).toInt) rfl rfl c_2
    refine ok_bindP (ok_kX8_sortByLies _ _ _ hI_s (by omega) (by omega) (by decide) (by decide)) (fun s2 hc_3 => ?_)
    have hI_s2 : InvK s2 := hc_3.1
    have hFc_s2 : FrK [146] s s2 := hc_3.2
    have hF_s2 : FrK [146] s0 s2 := hF_s.trans hFc_s2 (by decide)
    have l_0 : (0 : Int32).toInt = 0 := by decide
    exact okL_kX8_liars_30 s0 k5 M5 hk5 fu _ _ _ _ _ _ _ (by unfold fu; omega) hI_s2 hF_s2 (by omega) (by omega) (by omega) (by omega) (by omega) (by omega) (by decide) (by decide) (by omega)
theorem okL_kX8_liars_5 (s0 : KS)  : ∀ (n : Nat) (s : KS) (x1 : Int32) (x2 : Int32) (x3 : Int32) (x4 : Int32), (5 - x4.toInt).toNat < n → InvK s → FrK [146] s0 s → 0 ≤ x1.toInt → x1.toInt ≤ 20 → 0 ≤ x2.toInt → x2.toInt ≤ 3 → 0 ≤ x4.toInt → x4.toInt ≤ 5 → Ok (kX8_liars_5L  n s x1 x2 x3 x4) (Q_kX8_liars s0) := by
  intro n
  induction n with
  | zero => intro s x1 x2 x3 x4 hn; omega
  | succ n ih =>
    intro s x1 x2 x3 x4 hn hI_s hF_s h_x1l h_x1u h_x2l h_x2u h_x4l h_x4u 
    exact ok_kX8_liars_5 s0 (kX8_liars_5L  n) ((5 - x4.toInt).toNat) (fun zs zx1 zx2 zx3 zx4 g0 g1 g2 g3 g4 g5 g6 g7  hm => ih zs zx1 zx2 zx3 zx4 (by omega) g0 g1 g2 g3 g4 g5 g6 g7 ) s x1 x2 x3 x4 hI_s hF_s h_x1l h_x1u h_x2l h_x2u h_x4l h_x4u (Nat.le_refl _)
set_option maxHeartbeats 1000000 in
theorem ok_kX8_liarsB (s0 : KS)  (s : KS) (x1 : Int32) (x2 : Int32) (hI_s : InvK s) (hF_s : FrK [146] s0 s) (h_x1l : 0 ≤ x1.toInt) (h_x1u : x1.toInt ≤ 20) (h_x2l : 0 ≤ x2.toInt) (h_x2u : x2.toInt ≤ 3)  : Ok (kX8_liars  s x1 x2) (Q_kX8_liars s0) := by
  unfold kX8_liars
  have l_0 : (0 : Int32).toInt = 0 := by decide
  exact okL_kX8_liars_5 s0  fu _ _ _ _ _ (by unfold fu; omega) hI_s hF_s (by omega) (by omega) (by omega) (by omega) (by decide) (by decide) 
theorem ok_kX8_liars (s : KS) (x1 : Int32) (x2 : Int32) (hI_s : InvK s) (h_x1l : 0 ≤ x1.toInt) (h_x1u : x1.toInt ≤ 20) (h_x2l : 0 ≤ x2.toInt) (h_x2u : x2.toInt ≤ 3) : Ok (kX8_liars s x1 x2) (Q_kX8_liars s) := ok_kX8_liarsB s s x1 x2 hI_s FrK.rfl h_x1l h_x1u h_x2l h_x2u
abbrev Q_kX8_waveToAsk (s0 : KS) (y : Int32 × KS) : Prop := InvK y.2 ∧ FrK [146] s0 y.2 ∧ -2 ≤ y.1.toInt ∧ y.1.toInt ≤ 4
set_option maxHeartbeats 1000000 in
theorem ok_kX8_waveToAsk_85 (s0 : KS) (k8 : KS → Int32 → Int32 → Int32 → Int32 → Option (Int32 × KS)) (M8 : Nat) (hk8 : ∀ (s : KS) (x1 : Int32) (x2 : Int32) (x3 : Int32) (x4 : Int32), InvK s → FrK [146] s0 s → 0 ≤ x1.toInt → x1.toInt ≤ 3 → -2 ≤ x2.toInt → x2.toInt ≤ 4 → 0 ≤ x3.toInt → 0 ≤ x4.toInt → x4.toInt ≤ 5 → (5 - x4.toInt).toNat < M8 → Ok (k8 s x1 x2 x3 x4) (Q_kX8_waveToAsk s0)) (s : KS) (x1 : Int32) (x2 : Int32) (x3 : Int32) (x4 : Int32) (hI_s : InvK s) (hF_s : FrK [146] s0 s) (h_x1l : 0 ≤ x1.toInt) (h_x1u : x1.toInt ≤ 3) (h_x2l : -2 ≤ x2.toInt) (h_x2u : x2.toInt ≤ 4) (h_x3l : 0 ≤ x3.toInt) (h_x4l : 0 ≤ x4.toInt) (h_x4u : x4.toInt ≤ 4) (hM8 : (5 - x4.toInt).toNat ≤ M8) : Ok (kX8_waveToAsk_85 k8 s x1 x2 x3 x4) (Q_kX8_waveToAsk s0) := by
  unfold kX8_waveToAsk_85
  have a_1 : ((x4 + 1)).toInt = (x4).toInt + 1 := tn_add rfl (by decide) (by omega) (by omega)
  exact hk8 _ _ _ _ _ hI_s hF_s (by omega) (by omega) (by omega) (by omega) (by omega) (by omega) (by omega) (by omega)
set_option maxHeartbeats 1000000 in
theorem ok_kX8_waveToAsk_79 (s0 : KS) (k8 : KS → Int32 → Int32 → Int32 → Int32 → Option (Int32 × KS)) (M8 : Nat) (hk8 : ∀ (s : KS) (x1 : Int32) (x2 : Int32) (x3 : Int32) (x4 : Int32), InvK s → FrK [146] s0 s → 0 ≤ x1.toInt → x1.toInt ≤ 3 → -2 ≤ x2.toInt → x2.toInt ≤ 4 → 0 ≤ x3.toInt → 0 ≤ x4.toInt → x4.toInt ≤ 5 → (5 - x4.toInt).toNat < M8 → Ok (k8 s x1 x2 x3 x4) (Q_kX8_waveToAsk s0)) (s : KS) (x1 : Int32) (x4 : Int32) (x5 : Int32) (hI_s : InvK s) (hF_s : FrK [146] s0 s) (h_x1l : 0 ≤ x1.toInt) (h_x1u : x1.toInt ≤ 3) (h_x4l : 0 ≤ x4.toInt) (h_x4u : x4.toInt ≤ 4) (h_x5l : 1 ≤ x5.toInt) (hM8 : (5 - x4.toInt).toNat ≤ M8) : Ok (kX8_waveToAsk_79 k8 s x1 x4 x5) (Q_kX8_waveToAsk s0) := by
  unfold kX8_waveToAsk_79
  exact ok_kX8_waveToAsk_85 s0 k8 M8 hk8 _ _ _ _ _ hI_s hF_s (by omega) (by omega) (by omega) (by omega) (by omega) (by omega) (by omega) (by omega)
set_option maxHeartbeats 1000000 in
theorem ok_kX8_waveToAsk_33 (s0 : KS) (k8 : KS → Int32 → Int32 → Int32 → Int32 → Option (Int32 × KS)) (M8 : Nat) (hk8 : ∀ (s : KS) (x1 : Int32) (x2 : Int32) (x3 : Int32) (x4 : Int32), InvK s → FrK [146] s0 s → 0 ≤ x1.toInt → x1.toInt ≤ 3 → -2 ≤ x2.toInt → x2.toInt ≤ 4 → 0 ≤ x3.toInt → 0 ≤ x4.toInt → x4.toInt ≤ 5 → (5 - x4.toInt).toNat < M8 → Ok (k8 s x1 x2 x3 x4) (Q_kX8_waveToAsk s0)) (k33 : KS → Int32 → Int32 → Int32 → Int32 → Int32 → Int32 → Option (Int32 × KS)) (M33 : Nat) (hk33 : ∀ (s : KS) (x1 : Int32) (x2 : Int32) (x3 : Int32) (x4 : Int32) (x5 : Int32) (x6 : Int32), InvK s → FrK [146] s0 s → 0 ≤ x1.toInt → x1.toInt ≤ 3 → -2 ≤ x2.toInt → x2.toInt ≤ 4 → 0 ≤ x3.toInt → 0 ≤ x4.toInt → x4.toInt ≤ 4 → 0 ≤ x5.toInt → 0 ≤ x6.toInt → x6.toInt ≤ 6 → (5 - x4.toInt).toNat ≤ M8 → (6 - x6.toInt).toNat < M33 → Ok (k33 s x1 x2 x3 x4 x5 x6) (Q_kX8_waveToAsk s0)) (s : KS) (x1 : Int32) (x2 : Int32) (x3 : Int32) (x4 : Int32) (x5 : Int32) (x6 : Int32) (hI_s : InvK s) (hF_s : FrK [146] s0 s) (h_x1l : 0 ≤ x1.toInt) (h_x1u : x1.toInt ≤ 3) (h_x2l : -2 ≤ x2.toInt) (h_x2u : x2.toInt ≤ 4) (h_x3l : 0 ≤ x3.toInt) (h_x4l : 0 ≤ x4.toInt) (h_x4u : x4.toInt ≤ 4) (h_x5l : 0 ≤ x5.toInt) (h_x6l : 0 ≤ x6.toInt) (h_x6u : x6.toInt ≤ 6) (hM8 : (5 - x4.toInt).toNat ≤ M8) (hM33 : (6 - x6.toInt).toNat ≤ M33) : Ok (kX8_waveToAsk_33 k8 k33 s x1 x2 x3 x4 x5 x6) (Q_kX8_waveToAsk s0) := by
  unfold kX8_waveToAsk_33
  refine ok_ite (fun c_1 => ?_) (fun c_1 => ?_)
  · have c_1 := tn_le (a := 6) (b := (x6).toInt) (by decide) rfl c_1
    refine ok_ite (fun c_2 => ?_) (fun c_2 => ?_)
    · have c_2 := tn_le (a := (x5).toInt) (b := 0) rfl (by decide) c_2
      exact ok_kX8_waveToAsk_85 s0 k8 M8 hk8 _ _ _ _ _ hI_s hF_s (by omega) (by omega) (by omega) (by omega) (by omega) (by omega) (by omega) (by omega)
    · have c_2 := tn_nle (a := (x5).toInt) (b := 0) rfl (by decide) c_2
      refine ok_ite (fun c_3 => ?_) (fun c_3 => ?_)
      · have c_3 := tn_eq (a := (x2).toInt) (b := (-2)) rfl (by decide) c_3
        exact ok_kX8_waveToAsk_79 s0 k8 M8 hk8 _ _ _ _ hI_s hF_s (by omega) (by omega) (by omega) (by omega) (by omega) (by omega)
      · have c_3 := tn_ne (a := (x2).toInt) (b := (-2)) rfl (by decide) c_3
        refine ok_ite (fun c_4 => ?_) (fun c_4 => ?_)
        · have c_4 := tn_le (a := (x3).toInt) (b := (x5).toInt) rfl rfl c_4
          exact ok_kX8_waveToAsk_85 s0 k8 M8 hk8 _ _ _ _ _ hI_s hF_s (by omega) (by omega) (by omega) (by omega) (by omega) (by omega) (by omega) (by omega)
        · have c_4 := tn_nle (a := (x3).toInt) (b := (x5).toInt) rfl rfl c_4
          exact ok_kX8_waveToAsk_79 s0 k8 M8 hk8 _ _ _ _ hI_s hF_s (by omega) (by omega) (by omega) (by omega) (by omega) (by omega)
  · have c_1 := tn_nle (a := 6) (b := (x6).toInt) (by decide) rfl c_1
    refine ok_bindI (ok_kX8_fittingWith _ _ _ _ hI_s (by omega) (by omega) (by omega) (by omega) (by omega) (by omega)) (fun r6 s5 hc_5 => ?_)
    have hI_s5 : InvK s5 := hc_5.1
    have hFc_s5 : FrK [] s s5 := hc_5.2.1
    have hF_s5 : FrK [146] s0 s5 := hF_s.trans hFc_s5 (by decide)
    have a_6 := tn_mmax (x := x5) (y := r6) (a := (x5).toInt) (b := (r6).toInt) rfl rfl
    have a_7 : ((x6 + 1)).toInt = (x6).toInt + 1 := tn_add rfl (by decide) (by omega) (by omega)
    exact hk33 _ _ _ _ _ _ _ hI_s5 hF_s5 (by omega) (by omega) (by omega) (by omega) (by omega) (by omega) (by omega) (by omega) (by omega) (by omega) (by omega) (by omega)
theorem okL_kX8_waveToAsk_33 (s0 : KS) (k8 : KS → Int32 → Int32 → Int32 → Int32 → Option (Int32 × KS)) (M8 : Nat) (hk8 : ∀ (s : KS) (x1 : Int32) (x2 : Int32) (x3 : Int32) (x4 : Int32), InvK s → FrK [146] s0 s → 0 ≤ x1.toInt → x1.toInt ≤ 3 → -2 ≤ x2.toInt → x2.toInt ≤ 4 → 0 ≤ x3.toInt → 0 ≤ x4.toInt → x4.toInt ≤ 5 → (5 - x4.toInt).toNat < M8 → Ok (k8 s x1 x2 x3 x4) (Q_kX8_waveToAsk s0)) : ∀ (n : Nat) (s : KS) (x1 : Int32) (x2 : Int32) (x3 : Int32) (x4 : Int32) (x5 : Int32) (x6 : Int32), (6 - x6.toInt).toNat < n → InvK s → FrK [146] s0 s → 0 ≤ x1.toInt → x1.toInt ≤ 3 → -2 ≤ x2.toInt → x2.toInt ≤ 4 → 0 ≤ x3.toInt → 0 ≤ x4.toInt → x4.toInt ≤ 4 → 0 ≤ x5.toInt → 0 ≤ x6.toInt → x6.toInt ≤ 6 → (5 - x4.toInt).toNat ≤ M8 → Ok (kX8_waveToAsk_33L k8 n s x1 x2 x3 x4 x5 x6) (Q_kX8_waveToAsk s0) := by
  intro n
  induction n with
  | zero => intro s x1 x2 x3 x4 x5 x6 hn; omega
  | succ n ih =>
    intro s x1 x2 x3 x4 x5 x6 hn hI_s hF_s h_x1l h_x1u h_x2l h_x2u h_x3l h_x4l h_x4u h_x5l h_x6l h_x6u hM8
    exact ok_kX8_waveToAsk_33 s0 k8 M8 hk8 (kX8_waveToAsk_33L k8 n) ((6 - x6.toInt).toNat) (fun zs zx1 zx2 zx3 zx4 zx5 zx6 g0 g1 g2 g3 g4 g5 g6 g7 g8 g9 g10 g11 o8 hm => ih zs zx1 zx2 zx3 zx4 zx5 zx6 (by omega) g0 g1 g2 g3 g4 g5 g6 g7 g8 g9 g10 g11 o8) s x1 x2 x3 x4 x5 x6 hI_s hF_s h_x1l h_x1u h_x2l h_x2u h_x3l h_x4l h_x4u h_x5l h_x6l h_x6u hM8 (Nat.le_refl _)
set_option maxHeartbeats 1000000 in
theorem ok_kX8_waveToAsk_8 (s0 : KS) (k8 : KS → Int32 → Int32 → Int32 → Int32 → Option (Int32 × KS)) (M8 : Nat) (hk8 : ∀ (s : KS) (x1 : Int32) (x2 : Int32) (x3 : Int32) (x4 : Int32), InvK s → FrK [146] s0 s → 0 ≤ x1.toInt → x1.toInt ≤ 3 → -2 ≤ x2.toInt → x2.toInt ≤ 4 → 0 ≤ x3.toInt → 0 ≤ x4.toInt → x4.toInt ≤ 5 → (5 - x4.toInt).toNat < M8 → Ok (k8 s x1 x2 x3 x4) (Q_kX8_waveToAsk s0)) (s : KS) (x1 : Int32) (x2 : Int32) (x3 : Int32) (x4 : Int32) (hI_s : InvK s) (hF_s : FrK [146] s0 s) (h_x1l : 0 ≤ x1.toInt) (h_x1u : x1.toInt ≤ 3) (h_x2l : -2 ≤ x2.toInt) (h_x2u : x2.toInt ≤ 4) (h_x3l : 0 ≤ x3.toInt) (h_x4l : 0 ≤ x4.toInt) (h_x4u : x4.toInt ≤ 5) (hM8 : (5 - x4.toInt).toNat ≤ M8) : Ok (kX8_waveToAsk_8 k8 s x1 x2 x3 x4) (Q_kX8_waveToAsk s0) := by
  unfold kX8_waveToAsk_8
  have a_1 : 0 ≤ (s.v 1).toInt ∧ (s.v 1).toInt ≤ 5 := hI_s.1 1
  refine ok_ite (fun c_2 => ?_) (fun c_2 => ?_)
  · have c_2 := tn_le (a := ((s.v 1)).toInt) (b := (x4).toInt) rfl rfl c_2
    exact ok_some ⟨hI_s, hF_s, by show -2 ≤ (x2).toInt; omega, by show (x2).toInt ≤ 4; omega⟩
  · have c_2 := tn_nle (a := ((s.v 1)).toInt) (b := (x4).toInt) rfl rfl c_2
    refine ok_bindP (ok_kX8_sortByLies _ _ _ hI_s (by omega) (by omega) (by decide) (by decide)) (fun s2 hc_3 => ?_)
    have hI_s2 : InvK s2 := hc_3.1
    have hFc_s2 : FrK [146] s s2 := hc_3.2
    have hF_s2 : FrK [146] s0 s2 := hF_s.trans hFc_s2 (by decide)
    have l_0 : (0 : Int32).toInt = 0 := by decide
    exact okL_kX8_waveToAsk_33 s0 k8 M8 hk8 fu _ _ _ _ _ _ _ (by unfold fu; omega) hI_s2 hF_s2 (by omega) (by omega) (by omega) (by omega) (by omega) (by omega) (by omega) (by decide) (by decide) (by decide) (by omega)
theorem okL_kX8_waveToAsk_8 (s0 : KS)  : ∀ (n : Nat) (s : KS) (x1 : Int32) (x2 : Int32) (x3 : Int32) (x4 : Int32), (5 - x4.toInt).toNat < n → InvK s → FrK [146] s0 s → 0 ≤ x1.toInt → x1.toInt ≤ 3 → -2 ≤ x2.toInt → x2.toInt ≤ 4 → 0 ≤ x3.toInt → 0 ≤ x4.toInt → x4.toInt ≤ 5 → Ok (kX8_waveToAsk_8L  n s x1 x2 x3 x4) (Q_kX8_waveToAsk s0) := by
  intro n
  induction n with
  | zero => intro s x1 x2 x3 x4 hn; omega
  | succ n ih =>
    intro s x1 x2 x3 x4 hn hI_s hF_s h_x1l h_x1u h_x2l h_x2u h_x3l h_x4l h_x4u 
    exact ok_kX8_waveToAsk_8 s0 (kX8_waveToAsk_8L  n) ((5 - x4.toInt).toNat) (fun zs zx1 zx2 zx3 zx4 g0 g1 g2 g3 g4 g5 g6 g7 g8  hm => ih zs zx1 zx2 zx3 zx4 (by omega) g0 g1 g2 g3 g4 g5 g6 g7 g8 ) s x1 x2 x3 x4 hI_s hF_s h_x1l h_x1u h_x2l h_x2u h_x3l h_x4l h_x4u (Nat.le_refl _)
set_option maxHeartbeats 1000000 in
theorem ok_kX8_waveToAskB (s0 : KS)  (s : KS) (x1 : Int32) (hI_s : InvK s) (hF_s : FrK [146] s0 s) (h_x1l : 0 ≤ x1.toInt) (h_x1u : x1.toInt ≤ 3)  : Ok (kX8_waveToAsk  s x1) (Q_kX8_waveToAsk s0) := by
  unfold kX8_waveToAsk
  have l_m2 : ((-2) : Int32).toInt = -2 := by decide
  have l_0 : (0 : Int32).toInt = 0 := by decide
  exact okL_kX8_waveToAsk_8 s0  fu _ _ _ _ _ (by unfold fu; omega) hI_s hF_s (by omega) (by omega) (by decide) (by decide) (by decide) (by decide) (by decide) 
theorem ok_kX8_waveToAsk (s : KS) (x1 : Int32) (hI_s : InvK s) (h_x1l : 0 ≤ x1.toInt) (h_x1u : x1.toInt ≤ 3) : Ok (kX8_waveToAsk s x1) (Q_kX8_waveToAsk s) := ok_kX8_waveToAskB s s x1 hI_s FrK.rfl h_x1l h_x1u
abbrev Q_kX9_splitOne (s0 : KS) (y : Int32 × KS) : Prop := InvK y.2 ∧ FrK [20] s0 y.2 ∧ -2147483648 ≤ y.1.toInt ∧ y.1.toInt ≤ 2147483647
set_option maxHeartbeats 1000000 in
theorem ok_kX9_splitOneB (s0 : KS)  (s : KS) (hI_s : InvK s) (hF_s : FrK [20] s0 s)  : Ok (kX9_splitOne  s) (Q_kX9_splitOne s0) := by
  unfold kX9_splitOne
  refine ok_let (fun s1 hs1 => ?_)
  have hI_s1 : InvK s1 := by rw [← hs1]; exact hI_s.su
  have hF_s1 : FrK [20] s0 s1 := by rw [← hs1]; exact hF_s.su
  have a_1 : 0 ≤ (s.v 20).toInt ∧ (s.v 20).toInt ≤ 2000 := hI_s.1 20
  have a_2 : (s1.v 20).toInt = (s.v 20).toInt := congrArg Int32.toInt (show s1.v 20 = s.v 20 by rw [← hs1]; rfl)
  refine ok_bindI (ok_kX7_byteAt _ _ hI_s1 (by omega) (by omega)) (fun r4 s3 hc_3 => ?_)
  have hI_s3 : InvK s3 := hc_3.1
  have hFc_s3 : FrK [] s1 s3 := hc_3.2.1
  have hF_s3 : FrK [20] s0 s3 := hF_s1.trans hFc_s3 (by decide)
  have a_4 : 0 ≤ (s.v 0).toInt ∧ (s.v 0).toInt ≤ 2000 := hI_s.1 0
  have a_5 : (s1.v 0).toInt = (s.v 0).toInt := congrArg Int32.toInt (show s1.v 0 = s.v 0 by rw [← hs1]; rfl)
  have hx0_r4 : (¬ r4.toInt = -1 → ((s1.v 20)).toInt < (s1.v 0).toInt) := hc_3.2.2.2.2
  refine ok_ite (fun c_6 => ?_) (fun c_6 => ?_)
  · have c_6 := tn_eq (a := (r4).toInt) (b := (-1)) rfl (by decide) c_6
    exact ok_some ⟨hI_s3, hF_s3, (ti_rng _).1, (ti_rng _).2⟩
  · have c_6 := tn_ne (a := (r4).toInt) (b := (-1)) rfl (by decide) c_6
    refine ok_bindP (ok_kX9_isLetter _ ) (fun r6 hc_7 => ?_)
    have hl_r6 : 0 ≤ r6.toInt := hc_7.1
    have hu_r6 : r6.toInt ≤ 1 := hc_7.2
    refine ok_ite (fun c_8 => ?_) (fun c_8 => ?_)
    · have c_8 := tn_eq (a := (r6).toInt) (b := 0) rfl (by decide) c_8
      refine ok_bindP (ok_kX9_isDigit _ ) (fun r8 hc_9 => ?_)
      have hl_r8 : 0 ≤ r8.toInt := hc_9.1
      have hu_r8 : r8.toInt ≤ 1 := hc_9.2
      refine ok_ite (fun c_10 => ?_) (fun c_10 => ?_)
      · have c_10 := tn_eq (a := (r8).toInt) (b := 0) rfl (by decide) c_10
        refine ok_let (fun s10 hs10 => ?_)
        have a_11 : (s3.v 20).toInt = (s1.v 20).toInt := congrArg Int32.toInt (hFc_s3.1 20 (by decide))
        have a_12 : (((s3.v 20) + 1)).toInt = ((s3.v 20)).toInt + 1 := tn_add rfl (by decide) (by omega) (by omega)
        have hI_s10 : InvK s10 := by rw [← hs10]; exact hI_s3.sv (k := 20) (show (0 : Int) ≤ (((s3.v 20) + 1)).toInt by omega) (show (((s3.v 20) + 1)).toInt ≤ (2000 : Int) by omega)
        have hF_s10 : FrK [20] s0 s10 := by rw [← hs10]; exact hF_s3.sv (k := 20) (by decide)
        refine ok_bindP (ok_kJ0_indexOf_0f7a4 _ ) (fun r12 hc_13 => ?_)
        have hl_r12 : -1 ≤ r12.toInt := hc_13.1
        have hu_r12 : r12.toInt ≤ 8 := hc_13.2
        refine ok_ite (fun c_14 => ?_) (fun c_14 => ?_)
        · have c_14 := tn_lt (a := (r12).toInt) (b := 0) rfl (by decide) c_14
          exact ok_some ⟨hI_s10, hF_s10, (ti_rng _).1, (ti_rng _).2⟩
        · have c_14 := tn_nlt (a := (r12).toInt) (b := 0) rfl (by decide) c_14
          exact ok_some ⟨hI_s10, hF_s10, (ti_rng _).1, (ti_rng _).2⟩
      · have c_10 := tn_ne (a := (r8).toInt) (b := 0) rfl (by decide) c_10
        refine ok_bindI (ok_kX9_splitDigits _  hI_s3) (fun r15 s14 hc_15 => ?_)
        have hI_s14 : InvK s14 := hc_15.1
        have hFc_s14 : FrK [20] s3 s14 := hc_15.2.1
        have hF_s14 : FrK [20] s0 s14 := hF_s3.trans hFc_s14 (by decide)
        have hl_r15 : 301 ≤ r15.toInt := hc_15.2.2.1
        have hu_r15 : r15.toInt ≤ 303 := hc_15.2.2.2
        exact ok_some ⟨hI_s14, hF_s14, (ti_rng _).1, (ti_rng _).2⟩
    · have c_8 := tn_ne (a := (r6).toInt) (b := 0) rfl (by decide) c_8
      refine ok_bindI (ok_kX9_splitLetters _  hI_s3) (fun r17 s16 hc_16 => ?_)
      have hI_s16 : InvK s16 := hc_16.1
      have hFc_s16 : FrK [20] s3 s16 := hc_16.2.1
      have hF_s16 : FrK [20] s0 s16 := hF_s3.trans hFc_s16 (by decide)
      have hl_r17 : 256 ≤ r17.toInt := hc_16.2.2.1
      have hu_r17 : r17.toInt ≤ 303 := hc_16.2.2.2
      exact ok_some ⟨hI_s16, hF_s16, (ti_rng _).1, (ti_rng _).2⟩
theorem ok_kX9_splitOne (s : KS) (hI_s : InvK s) : Ok (kX9_splitOne s) (Q_kX9_splitOne s) := ok_kX9_splitOneB s s hI_s FrK.rfl
abbrev Q_kX10_odds (s0 : XS) (y : Int32 × XS) : Prop := InvK y.2.k ∧ FrK [] s0.k y.2.k ∧ InvG y.2.g ∧ -2147483648 ≤ y.1.toInt ∧ y.1.toInt ≤ 2147483647
set_option maxHeartbeats 1000000 in
theorem ok_kX10_oddsB (s0 : XS)  (s : XS) (x1 : Int32) (x2 : Int32) (hI_s_k : InvK s.k) (hF_s_k : FrK [] s0.k s.k) (hI_s_g : InvG s.g)  : Ok (kX10_odds  s x1 x2) (Q_kX10_odds s0) := by
  unfold kX10_odds
  refine ok_bindI (ok_kX5_hasWave _ _ hI_s_k) (fun r2 s1 hc_1 => ?_)
  have hI_s1 : InvK s1 := hc_1.1
  have hFc_s1 : FrK [] s.k s1 := hc_1.2.1
  have hF_s1 : FrK [] s0.k s1 := hF_s_k.trans hFc_s1 (by decide)
  have hl_r2 : 0 ≤ r2.toInt := hc_1.2.2.1
  have hu_r2 : r2.toInt ≤ 1 := hc_1.2.2.2.1
  have hx0_r2 : (¬ r2.toInt = 0 → 0 ≤ (x1).toInt ∧ (x1).toInt ≤ 4) := hc_1.2.2.2.2
  refine ok_let (fun s3 hs3 => ?_)
  have hI_s3_g : InvG s3.g := by rw [← hs3]; exact hI_s_g
  have hI_s3_k : InvK s3.k := by rw [← hs3]; exact hI_s1
  have hF_s3_k : FrK [] s0.k s3.k := by rw [← hs3]; exact hF_s1
  refine ok_ite (fun c_2 => ?_) (fun c_2 => ?_)
  · have c_2 := tn_eq (a := (r2).toInt) (b := 0) rfl (by decide) c_2
    exact ok_some ⟨hI_s3_k, hF_s3_k, hI_s3_g, (ti_rng _).1, (ti_rng _).2⟩
  · have c_2 := tn_ne (a := (r2).toInt) (b := 0) rfl (by decide) c_2
    refine ok_bindP (ok_kX10_isThing _ ) (fun r6 hc_3 => ?_)
    have hl_r6 : 0 ≤ r6.toInt := hc_3.1
    have hu_r6 : r6.toInt ≤ 1 := hc_3.2.1
    have hx0_r6 : (¬ r6.toInt = 0 → 0 ≤ (x2).toInt ∧ (x2).toInt ≤ 5) := hc_3.2.2
    refine ok_ite (fun c_4 => ?_) (fun c_4 => ?_)
    · have c_4 := tn_eq (a := (r6).toInt) (b := 0) rfl (by decide) c_4
      exact ok_some ⟨hI_s3_k, hF_s3_k, hI_s3_g, (ti_rng _).1, (ti_rng _).2⟩
    · have c_4 := tn_ne (a := (r6).toInt) (b := 0) rfl (by decide) c_4
      refine ok_bindI (ok_kX5_oddsAt _ _ _ hI_s3_k (by omega) (by omega) (by omega) (by omega)) (fun r9 s8 hc_5 => ?_)
      have hI_s8 : InvK s8 := hc_5.1
      have hFc_s8 : FrK [] s3.k s8 := hc_5.2.1
      have hF_s8 : FrK [] s0.k s8 := hF_s3_k.trans hFc_s8 (by decide)
      refine ok_let (fun s10 hs10 => ?_)
      have hI_s10_g : InvG s10.g := by rw [← hs10]; exact hI_s3_g
      have hI_s10_k : InvK s10.k := by rw [← hs10]; exact hI_s8
      have hF_s10_k : FrK [] s0.k s10.k := by rw [← hs10]; exact hF_s8
      exact ok_some ⟨hI_s10_k, hF_s10_k, hI_s10_g, (ti_rng _).1, (ti_rng _).2⟩
theorem ok_kX10_odds (s : XS) (x1 : Int32) (x2 : Int32) (hI_s_k : InvK s.k) (hI_s_g : InvG s.g) : Ok (kX10_odds s x1 x2) (Q_kX10_odds s) := ok_kX10_oddsB s s x1 x2 hI_s_k FrK.rfl hI_s_g
abbrev Q_kX10_buoy (s0 : YS) (y : Int32 × YS) : Prop := InvK y.2.x.k ∧ FrK [] s0.x.k y.2.x.k ∧ InvG y.2.x.g ∧ 0 ≤ y.1.toInt ∧ y.1.toInt ≤ 1
set_option maxHeartbeats 1000000 in
theorem ok_kX10_buoyB (s0 : YS)  (s : YS) (x1 : Int32) (x2 : Int32) (x3 : Int32) (hI_s_x_k : InvK s.x.k) (hF_s_x_k : FrK [] s0.x.k s.x.k) (hI_s_x_g : InvG s.x.g)  : Ok (kX10_buoy  s x1 x2 x3) (Q_kX10_buoy s0) := by
  unfold kX10_buoy
  refine ok_bindI (ok_kX5_hasWave _ _ hI_s_x_k) (fun r2 s1 hc_1 => ?_)
  have hI_s1 : InvK s1 := hc_1.1
  have hFc_s1 : FrK [] s.x.k s1 := hc_1.2.1
  have hF_s1 : FrK [] s0.x.k s1 := hF_s_x_k.trans hFc_s1 (by decide)
  have hl_r2 : 0 ≤ r2.toInt := hc_1.2.2.1
  have hu_r2 : r2.toInt ≤ 1 := hc_1.2.2.2.1
  have hx0_r2 : (¬ r2.toInt = 0 → 0 ≤ (x1).toInt ∧ (x1).toInt ≤ 4) := hc_1.2.2.2.2
  refine ok_let (fun s3 hs3 => ?_)
  have hI_s3_x_k : InvK s3.x.k := by rw [← hs3]; exact hI_s1
  have hF_s3_x_k : FrK [] s0.x.k s3.x.k := by rw [← hs3]; exact hF_s1
  have hI_s3_x_g : InvG s3.x.g := by rw [← hs3]; exact hI_s_x_g
  refine ok_ite (fun c_2 => ?_) (fun c_2 => ?_)
  · have c_2 := tn_eq (a := (r2).toInt) (b := 0) rfl (by decide) c_2
    exact ok_some ⟨hI_s3_x_k, hF_s3_x_k, hI_s3_x_g, by show 0 ≤ (0 : Int32).toInt; decide, by show (0 : Int32).toInt ≤ 1; decide⟩
  · have c_2 := tn_ne (a := (r2).toInt) (b := 0) rfl (by decide) c_2
    refine ok_bindP (ok_kX10_isThing _ ) (fun r6 hc_3 => ?_)
    have hl_r6 : 0 ≤ r6.toInt := hc_3.1
    have hu_r6 : r6.toInt ≤ 1 := hc_3.2.1
    have hx0_r6 : (¬ r6.toInt = 0 → 0 ≤ (x2).toInt ∧ (x2).toInt ≤ 5) := hc_3.2.2
    refine ok_ite (fun c_4 => ?_) (fun c_4 => ?_)
    · have c_4 := tn_eq (a := (r6).toInt) (b := 0) rfl (by decide) c_4
      exact ok_some ⟨hI_s3_x_k, hF_s3_x_k, hI_s3_x_g, by show 0 ≤ (0 : Int32).toInt; decide, by show (0 : Int32).toInt ≤ 1; decide⟩
    · have c_4 := tn_ne (a := (r6).toInt) (b := 0) rfl (by decide) c_4
      refine ok_grd (vpb_ok (by omega) (by omega)) ?_
      refine ok_bindP (ok_kX10_has _ _ ) (fun r9 hc_5 => ?_)
      have hl_r9 : 0 ≤ r9.toInt := hc_5.1
      have hu_r9 : r9.toInt ≤ 1 := hc_5.2
      refine ok_ite (fun c_6 => ?_) (fun c_6 => ?_)
      · have c_6 := tn_eq (a := (r9).toInt) (b := (x3).toInt) rfl rfl c_6
        exact ok_some ⟨hI_s3_x_k, hF_s3_x_k, hI_s3_x_g, by show 0 ≤ (0 : Int32).toInt; decide, by show (0 : Int32).toInt ≤ 1; decide⟩
      · have c_6 := tn_ne (a := (r9).toInt) (b := (x3).toInt) rfl rfl c_6
        refine ok_bindP (ok_kX3_remember _  hI_s3_x_g) (fun s11 hc_7 => ?_)
        have hI_s11_g : InvG s11.g := hc_7
        refine ok_let (fun s12 hs12 => ?_)
        have hI_s12_x_k : InvK s12.x.k := by rw [← hs12]; exact hI_s3_x_k
        have hF_s12_x_k : FrK [] s0.x.k s12.x.k := by rw [← hs12]; exact hF_s3_x_k
        have hI_s12_x_g : InvG s12.x.g := by rw [← hs12]; exact hI_s11_g
        refine ok_grd (vpb_ok (by omega) (by omega)) ?_
        refine ok_grd (vpb_ok (by omega) (by omega)) ?_
        refine ok_let (fun s16 hs16 => ?_)
        have hI_s16_x_k : InvK s16.x.k := by rw [← hs16]; exact hI_s12_x_k
        have hF_s16_x_k : FrK [] s0.x.k s16.x.k := by rw [← hs16]; exact hF_s12_x_k
        have hI_s16_x_g : InvG s16.x.g := by rw [← hs16]; exact hI_s12_x_g
        exact ok_some ⟨hI_s16_x_k, hF_s16_x_k, hI_s16_x_g, by show 0 ≤ (1 : Int32).toInt; decide, by show (1 : Int32).toInt ≤ 1; decide⟩
theorem ok_kX10_buoy (s : YS) (x1 : Int32) (x2 : Int32) (x3 : Int32) (hI_s_x_k : InvK s.x.k) (hI_s_x_g : InvG s.x.g) : Ok (kX10_buoy s x1 x2 x3) (Q_kX10_buoy s) := ok_kX10_buoyB s s x1 x2 x3 hI_s_x_k FrK.rfl hI_s_x_g
abbrev Q_kX10_fetch (s0 : YS) (y : Int32 × YS) : Prop := InvK y.2.x.k ∧ FrK [] s0.x.k y.2.x.k ∧ InvG y.2.x.g ∧ 0 ≤ y.1.toInt ∧ y.1.toInt ≤ 1
set_option maxHeartbeats 1000000 in
theorem ok_kX10_fetchB (s0 : YS)  (s : YS) (x1 : Int32) (hI_s_x_k : InvK s.x.k) (hF_s_x_k : FrK [] s0.x.k s.x.k) (hI_s_x_g : InvG s.x.g)  : Ok (kX10_fetch  s x1) (Q_kX10_fetch s0) := by
  unfold kX10_fetch
  refine ok_bindI (ok_kX5_hasParty _ _ hI_s_x_k) (fun r2 s1 hc_1 => ?_)
  have hI_s1 : InvK s1 := hc_1.1
  have hFc_s1 : FrK [] s.x.k s1 := hc_1.2.1
  have hF_s1 : FrK [] s0.x.k s1 := hF_s_x_k.trans hFc_s1 (by decide)
  have hl_r2 : 0 ≤ r2.toInt := hc_1.2.2.1
  have hu_r2 : r2.toInt ≤ 1 := hc_1.2.2.2.1
  have hx0_r2 : (¬ r2.toInt = 0 → 0 ≤ (x1).toInt ∧ (x1).toInt ≤ 5) := hc_1.2.2.2.2
  refine ok_let (fun s3 hs3 => ?_)
  have hI_s3_x_k : InvK s3.x.k := by rw [← hs3]; exact hI_s1
  have hF_s3_x_k : FrK [] s0.x.k s3.x.k := by rw [← hs3]; exact hF_s1
  have hI_s3_x_g : InvG s3.x.g := by rw [← hs3]; exact hI_s_x_g
  refine ok_ite (fun c_2 => ?_) (fun c_2 => ?_)
  · have c_2 := tn_eq (a := (r2).toInt) (b := 0) rfl (by decide) c_2
    exact ok_some ⟨hI_s3_x_k, hF_s3_x_k, hI_s3_x_g, by show 0 ≤ (0 : Int32).toInt; decide, by show (0 : Int32).toInt ≤ 1; decide⟩
  · have c_2 := tn_ne (a := (r2).toInt) (b := 0) rfl (by decide) c_2
    refine ok_grd (vpb_ok (by omega) (by omega)) ?_
    refine ok_ite (fun c_3 => ?_) (fun c_3 => ?_)
    · have c_3 := tn_eq (a := (((s3.x.n.f 3) (Int32.toNatClampNeg x1))).toInt) (b := 0) rfl (by decide) c_3
      exact ok_some ⟨hI_s3_x_k, hF_s3_x_k, hI_s3_x_g, by show 0 ≤ (0 : Int32).toInt; decide, by show (0 : Int32).toInt ≤ 1; decide⟩
    · have c_3 := tn_ne (a := (((s3.x.n.f 3) (Int32.toNatClampNeg x1))).toInt) (b := 0) rfl (by decide) c_3
      refine ok_bindP (ok_kX3_remember _  hI_s3_x_g) (fun s8 hc_4 => ?_)
      have hI_s8_g : InvG s8.g := hc_4
      refine ok_let (fun s9 hs9 => ?_)
      have hI_s9_x_k : InvK s9.x.k := by rw [← hs9]; exact hI_s3_x_k
      have hF_s9_x_k : FrK [] s0.x.k s9.x.k := by rw [← hs9]; exact hF_s3_x_k
      have hI_s9_x_g : InvG s9.x.g := by rw [← hs9]; exact hI_s8_g
      refine ok_grd (vpb_ok (by omega) (by omega)) ?_
      refine ok_let (fun s12 hs12 => ?_)
      have hI_s12_x_k : InvK s12.x.k := by rw [← hs12]; exact hI_s9_x_k
      have hF_s12_x_k : FrK [] s0.x.k s12.x.k := by rw [← hs12]; exact hF_s9_x_k
      have hI_s12_x_g : InvG s12.x.g := by rw [← hs12]; exact hI_s9_x_g
      exact ok_some ⟨hI_s12_x_k, hF_s12_x_k, hI_s12_x_g, by show 0 ≤ (1 : Int32).toInt; decide, by show (1 : Int32).toInt ≤ 1; decide⟩
theorem ok_kX10_fetch (s : YS) (x1 : Int32) (hI_s_x_k : InvK s.x.k) (hI_s_x_g : InvG s.x.g) : Ok (kX10_fetch s x1) (Q_kX10_fetch s) := ok_kX10_fetchB s s x1 hI_s_x_k FrK.rfl hI_s_x_g
abbrev Q_kX10_undo (s0 : YS) (y : Int32 × YS) : Prop := InvK y.2.x.k ∧ FrK [] s0.x.k y.2.x.k ∧ InvG y.2.x.g ∧ 0 ≤ y.1.toInt ∧ y.1.toInt ≤ 1
set_option maxHeartbeats 1000000 in
theorem ok_kX10_undoB (s0 : YS)  (s : YS) (hI_s_x_k : InvK s.x.k) (hF_s_x_k : FrK [] s0.x.k s.x.k) (hI_s_x_g : InvG s.x.g)  : Ok (kX10_undo  s) (Q_kX10_undo s0) := by
  unfold kX10_undo
  refine ok_bindI (ok_kX3_takeBack _  hI_s_x_g) (fun r2 s1 hc_1 => ?_)
  have hI_s1_g : InvG s1.g := hc_1.1
  have hl_r2 : 0 ≤ r2.toInt := hc_1.2.1
  have hu_r2 : r2.toInt ≤ 1 := hc_1.2.2
  refine ok_let (fun s3 hs3 => ?_)
  have hI_s3_x_k : InvK s3.x.k := by rw [← hs3]; exact hI_s_x_k
  have hF_s3_x_k : FrK [] s0.x.k s3.x.k := by rw [← hs3]; exact hF_s_x_k
  have hI_s3_x_g : InvG s3.x.g := by rw [← hs3]; exact hI_s1_g
  refine ok_grd (ti_z01 (by omega) (by omega)) ?_
  exact ok_some ⟨hI_s3_x_k, hF_s3_x_k, hI_s3_x_g, by show 0 ≤ (r2).toInt; omega, by show (r2).toInt ≤ 1; omega⟩
theorem ok_kX10_undo (s : YS) (hI_s_x_k : InvK s.x.k) (hI_s_x_g : InvG s.x.g) : Ok (kX10_undo s) (Q_kX10_undo s) := ok_kX10_undoB s s hI_s_x_k FrK.rfl hI_s_x_g
abbrev Q_kX10_cases (s0 : XS) (y : Int32 × XS) : Prop := InvK y.2.k ∧ FrK [] s0.k y.2.k ∧ InvG y.2.g ∧ -2147483648 ≤ y.1.toInt ∧ y.1.toInt ≤ 2147483647
set_option maxHeartbeats 1000000 in
theorem ok_kX10_casesB (s0 : XS)  (s : XS) (hI_s_k : InvK s.k) (hF_s_k : FrK [] s0.k s.k) (hI_s_g : InvG s.g)  : Ok (kX10_cases  s) (Q_kX10_cases s0) := by
  unfold kX10_cases
  refine ok_bindI (ok_kX2_caseCount _  hI_s_k) (fun r2 s1 hc_1 => ?_)
  have hI_s1_k : InvK s1.k := hc_1.1
  have hFc_s1_k : FrK [] s.k s1.k := hc_1.2.1
  have hF_s1_k : FrK [] s0.k s1.k := hF_s_k.trans hFc_s1_k (by decide)
  refine ok_let (fun s3 hs3 => ?_)
  have hI_s3_g : InvG s3.g := by rw [← hs3]; exact hI_s_g
  have hI_s3_k : InvK s3.k := by rw [← hs3]; exact hI_s1_k
  have hF_s3_k : FrK [] s0.k s3.k := by rw [← hs3]; exact hF_s1_k
  exact ok_some ⟨hI_s3_k, hF_s3_k, hI_s3_g, (ti_rng _).1, (ti_rng _).2⟩
theorem ok_kX10_cases (s : XS) (hI_s_k : InvK s.k) (hI_s_g : InvG s.g) : Ok (kX10_cases s) (Q_kX10_cases s) := ok_kX10_casesB s s hI_s_k FrK.rfl hI_s_g
abbrev Q_kX10_chance (s0 : XS) (y : Int32 × XS) : Prop := InvK y.2.k ∧ FrK [] s0.k y.2.k ∧ InvG y.2.g ∧ -2147483648 ≤ y.1.toInt ∧ y.1.toInt ≤ 2147483647
set_option maxHeartbeats 1000000 in
theorem ok_kX10_chanceB (s0 : XS)  (s : XS) (x1 : Int32) (hI_s_k : InvK s.k) (hF_s_k : FrK [] s0.k s.k) (hI_s_g : InvG s.g)  : Ok (kX10_chance  s x1) (Q_kX10_chance s0) := by
  unfold kX10_chance
  refine ok_bindI (ok_kX5_hasGuess _ _ hI_s_k) (fun r2 s1 hc_1 => ?_)
  have hI_s1 : InvK s1 := hc_1.1
  have hFc_s1 : FrK [] s.k s1 := hc_1.2.1
  have hF_s1 : FrK [] s0.k s1 := hF_s_k.trans hFc_s1 (by decide)
  have hl_r2 : 0 ≤ r2.toInt := hc_1.2.2.1
  have hu_r2 : r2.toInt ≤ 1 := hc_1.2.2.2.1
  have hx0_r2 : (¬ r2.toInt = 0 → 0 ≤ (x1).toInt) := hc_1.2.2.2.2
  refine ok_let (fun s3 hs3 => ?_)
  have hI_s3_g : InvG s3.g := by rw [← hs3]; exact hI_s_g
  have hI_s3_k : InvK s3.k := by rw [← hs3]; exact hI_s1
  have hF_s3_k : FrK [] s0.k s3.k := by rw [← hs3]; exact hF_s1
  refine ok_ite (fun c_2 => ?_) (fun c_2 => ?_)
  · have c_2 := tn_eq (a := (r2).toInt) (b := 0) rfl (by decide) c_2
    exact ok_some ⟨hI_s3_k, hF_s3_k, hI_s3_g, (ti_rng _).1, (ti_rng _).2⟩
  · have c_2 := tn_ne (a := (r2).toInt) (b := 0) rfl (by decide) c_2
    refine ok_bindI (ok_kX2_oddsOf _ _ hI_s3_k (by omega)) (fun r7 s6 hc_3 => ?_)
    have hI_s6_k : InvK s6.k := hc_3.1
    have hFc_s6_k : FrK [] s3.k s6.k := hc_3.2.1
    have hF_s6_k : FrK [] s0.k s6.k := hF_s3_k.trans hFc_s6_k (by decide)
    refine ok_let (fun s8 hs8 => ?_)
    have hI_s8_g : InvG s8.g := by rw [← hs8]; exact hI_s3_g
    have hI_s8_k : InvK s8.k := by rw [← hs8]; exact hI_s6_k
    have hF_s8_k : FrK [] s0.k s8.k := by rw [← hs8]; exact hF_s6_k
    exact ok_some ⟨hI_s8_k, hF_s8_k, hI_s8_g, (ti_rng _).1, (ti_rng _).2⟩
theorem ok_kX10_chance (s : XS) (x1 : Int32) (hI_s_k : InvK s.k) (hI_s_g : InvG s.g) : Ok (kX10_chance s x1) (Q_kX10_chance s) := ok_kX10_chanceB s s x1 hI_s_k FrK.rfl hI_s_g
abbrev Q_kX10_enough (s0 : XS) (y : Int32 × XS) : Prop := InvK y.2.k ∧ FrK [] s0.k y.2.k ∧ InvG y.2.g ∧ -2147483648 ≤ y.1.toInt ∧ y.1.toInt ≤ 2147483647
set_option maxHeartbeats 1000000 in
theorem ok_kX10_enoughB (s0 : XS)  (s : XS) (hI_s_k : InvK s.k) (hF_s_k : FrK [] s0.k s.k) (hI_s_g : InvG s.g)  : Ok (kX10_enough  s) (Q_kX10_enough s0) := by
  unfold kX10_enough
  refine ok_bindI (ok_kX2_caseCount _  hI_s_k) (fun r2 s1 hc_1 => ?_)
  have hI_s1_k : InvK s1.k := hc_1.1
  have hFc_s1_k : FrK [] s.k s1.k := hc_1.2.1
  have hF_s1_k : FrK [] s0.k s1.k := hF_s_k.trans hFc_s1_k (by decide)
  refine ok_let (fun s3 hs3 => ?_)
  have hI_s3_g : InvG s3.g := by rw [← hs3]; exact hI_s_g
  have hI_s3_k : InvK s3.k := by rw [← hs3]; exact hI_s1_k
  have hF_s3_k : FrK [] s0.k s3.k := by rw [← hs3]; exact hF_s1_k
  refine ok_ite (fun c_2 => ?_) (fun c_2 => ?_)
  · have c_2 := tn_eq (a := (r2).toInt) (b := 0) rfl (by decide) c_2
    exact ok_some ⟨hI_s3_k, hF_s3_k, hI_s3_g, (ti_rng _).1, (ti_rng _).2⟩
  · have c_2 := tn_ne (a := (r2).toInt) (b := 0) rfl (by decide) c_2
    refine ok_bindI (ok_kX2_goesAtMost _  hI_s3_k) (fun r7 s6 hc_3 => ?_)
    have hI_s6_k : InvK s6.k := hc_3.1
    have hFc_s6_k : FrK [] s3.k s6.k := hc_3.2.1
    have hF_s6_k : FrK [] s0.k s6.k := hF_s3_k.trans hFc_s6_k (by decide)
    refine ok_let (fun s8 hs8 => ?_)
    have hI_s8_g : InvG s8.g := by rw [← hs8]; exact hI_s3_g
    have hI_s8_k : InvK s8.k := by rw [← hs8]; exact hI_s6_k
    have hF_s8_k : FrK [] s0.k s8.k := by rw [← hs8]; exact hF_s6_k
    exact ok_some ⟨hI_s8_k, hF_s8_k, hI_s8_g, (ti_rng _).1, (ti_rng _).2⟩
theorem ok_kX10_enough (s : XS) (hI_s_k : InvK s.k) (hI_s_g : InvG s.g) : Ok (kX10_enough s) (Q_kX10_enough s) := ok_kX10_enoughB s s hI_s_k FrK.rfl hI_s_g
abbrev Q_kX10_left (s0 : XS) (y : Int32 × XS) : Prop := InvK y.2.k ∧ FrK [] s0.k y.2.k ∧ InvG y.2.g ∧ -2147483648 ≤ y.1.toInt ∧ y.1.toInt ≤ 2147483647
set_option maxHeartbeats 1000000 in
theorem ok_kX10_leftB (s0 : XS)  (s : XS) (x1 : Int32) (hI_s_k : InvK s.k) (hF_s_k : FrK [] s0.k s.k) (hI_s_g : InvG s.g)  : Ok (kX10_left  s x1) (Q_kX10_left s0) := by
  unfold kX10_left
  refine ok_bindI (ok_kX5_hasGuess _ _ hI_s_k) (fun r2 s1 hc_1 => ?_)
  have hI_s1 : InvK s1 := hc_1.1
  have hFc_s1 : FrK [] s.k s1 := hc_1.2.1
  have hF_s1 : FrK [] s0.k s1 := hF_s_k.trans hFc_s1 (by decide)
  have hl_r2 : 0 ≤ r2.toInt := hc_1.2.2.1
  have hu_r2 : r2.toInt ≤ 1 := hc_1.2.2.2.1
  have hx0_r2 : (¬ r2.toInt = 0 → 0 ≤ (x1).toInt) := hc_1.2.2.2.2
  refine ok_let (fun s3 hs3 => ?_)
  have hI_s3_g : InvG s3.g := by rw [← hs3]; exact hI_s_g
  have hI_s3_k : InvK s3.k := by rw [← hs3]; exact hI_s1
  have hF_s3_k : FrK [] s0.k s3.k := by rw [← hs3]; exact hF_s1
  refine ok_ite (fun c_2 => ?_) (fun c_2 => ?_)
  · have c_2 := tn_eq (a := (r2).toInt) (b := 0) rfl (by decide) c_2
    exact ok_some ⟨hI_s3_k, hF_s3_k, hI_s3_g, (ti_rng _).1, (ti_rng _).2⟩
  · have c_2 := tn_ne (a := (r2).toInt) (b := 0) rfl (by decide) c_2
    refine ok_bindI (ok_kX2_caseCount _  hI_s3_k) (fun r7 s6 hc_3 => ?_)
    have hI_s6_k : InvK s6.k := hc_3.1
    have hFc_s6_k : FrK [] s3.k s6.k := hc_3.2.1
    have hF_s6_k : FrK [] s0.k s6.k := hF_s3_k.trans hFc_s6_k (by decide)
    refine ok_let (fun s8 hs8 => ?_)
    have hI_s8_g : InvG s8.g := by rw [← hs8]; exact hI_s3_g
    have hI_s8_k : InvK s8.k := by rw [← hs8]; exact hI_s6_k
    have hF_s8_k : FrK [] s0.k s8.k := by rw [← hs8]; exact hF_s6_k
    refine ok_ite (fun c_4 => ?_) (fun c_4 => ?_)
    · have c_4 := tn_eq (a := (r7).toInt) (b := 0) rfl (by decide) c_4
      exact ok_some ⟨hI_s8_k, hF_s8_k, hI_s8_g, (ti_rng _).1, (ti_rng _).2⟩
    · have c_4 := tn_ne (a := (r7).toInt) (b := 0) rfl (by decide) c_4
      refine ok_bindI (ok_kX2_leftBehind _ _ hI_s8_k) (fun r12 s11 hc_5 => ?_)
      have hI_s11_k : InvK s11.k := hc_5.1
      have hFc_s11_k : FrK [] s8.k s11.k := hc_5.2.1
      have hF_s11_k : FrK [] s0.k s11.k := hF_s8_k.trans hFc_s11_k (by decide)
      refine ok_let (fun s13 hs13 => ?_)
      have hI_s13_g : InvG s13.g := by rw [← hs13]; exact hI_s8_g
      have hI_s13_k : InvK s13.k := by rw [← hs13]; exact hI_s11_k
      have hF_s13_k : FrK [] s0.k s13.k := by rw [← hs13]; exact hF_s11_k
      exact ok_some ⟨hI_s13_k, hF_s13_k, hI_s13_g, (ti_rng _).1, (ti_rng _).2⟩
theorem ok_kX10_left (s : XS) (x1 : Int32) (hI_s_k : InvK s.k) (hI_s_g : InvG s.g) : Ok (kX10_left s x1) (Q_kX10_left s) := ok_kX10_leftB s s x1 hI_s_k FrK.rfl hI_s_g
abbrev Q_kX10_wisest (s0 : XS) (y : Int32 × XS) : Prop := InvK y.2.k ∧ FrK [] s0.k y.2.k ∧ InvG y.2.g ∧ -2147483648 ≤ y.1.toInt ∧ y.1.toInt ≤ 2147483647
set_option maxHeartbeats 1000000 in
theorem ok_kX10_wisest_11 (s0 : XS)  (s : XS) (x1 : Int32) (hI_s_k : InvK s.k) (hF_s_k : FrK [] s0.k s.k) (hI_s_g : InvG s.g) (h_x1l : 0 ≤ x1.toInt) (h_x1u : x1.toInt ≤ 1)  : Ok (kX10_wisest_11  s x1) (Q_kX10_wisest s0) := by
  unfold kX10_wisest_11
  refine ok_bindI (ok_kX2_caseCount _  hI_s_k) (fun r2 s1 hc_1 => ?_)
  have hI_s1_k : InvK s1.k := hc_1.1
  have hFc_s1_k : FrK [] s.k s1.k := hc_1.2.1
  have hF_s1_k : FrK [] s0.k s1.k := hF_s_k.trans hFc_s1_k (by decide)
  refine ok_let (fun s3 hs3 => ?_)
  have hI_s3_g : InvG s3.g := by rw [← hs3]; exact hI_s_g
  have hI_s3_k : InvK s3.k := by rw [← hs3]; exact hI_s1_k
  have hF_s3_k : FrK [] s0.k s3.k := by rw [← hs3]; exact hF_s1_k
  refine ok_ite (fun c_2 => ?_) (fun c_2 => ?_)
  · have c_2 := tn_eq (a := (r2).toInt) (b := 0) rfl (by decide) c_2
    exact ok_some ⟨hI_s3_k, hF_s3_k, hI_s3_g, (ti_rng _).1, (ti_rng _).2⟩
  · have c_2 := tn_ne (a := (r2).toInt) (b := 0) rfl (by decide) c_2
    refine ok_bindI (ok_kX2_wisestGuess _  hI_s3_k) (fun r7 s6 hc_3 => ?_)
    have hI_s6_k : InvK s6.k := hc_3.1
    have hFc_s6_k : FrK [] s3.k s6.k := hc_3.2.1
    have hF_s6_k : FrK [] s0.k s6.k := hF_s3_k.trans hFc_s6_k (by decide)
    refine ok_let (fun s8 hs8 => ?_)
    have hI_s8_g : InvG s8.g := by rw [← hs8]; exact hI_s3_g
    have hI_s8_k : InvK s8.k := by rw [← hs8]; exact hI_s6_k
    have hF_s8_k : FrK [] s0.k s8.k := by rw [← hs8]; exact hF_s6_k
    refine ok_ite (fun c_4 => ?_) (fun c_4 => ?_)
    · have c_4 := tn_eq (a := (x1).toInt) (b := 0) rfl (by decide) c_4
      exact ok_some ⟨hI_s8_k, hF_s8_k, hI_s8_g, (ti_rng _).1, (ti_rng _).2⟩
    · have c_4 := tn_ne (a := (x1).toInt) (b := 0) rfl (by decide) c_4
      refine ok_bindI (ok_kX2_leftBehind _ _ hI_s8_k) (fun r12 s11 hc_5 => ?_)
      have hI_s11_k : InvK s11.k := hc_5.1
      have hFc_s11_k : FrK [] s8.k s11.k := hc_5.2.1
      have hF_s11_k : FrK [] s0.k s11.k := hF_s8_k.trans hFc_s11_k (by decide)
      refine ok_let (fun s13 hs13 => ?_)
      have hI_s13_g : InvG s13.g := by rw [← hs13]; exact hI_s8_g
      have hI_s13_k : InvK s13.k := by rw [← hs13]; exact hI_s11_k
      have hF_s13_k : FrK [] s0.k s13.k := by rw [← hs13]; exact hF_s11_k
      exact ok_some ⟨hI_s13_k, hF_s13_k, hI_s13_g, (ti_rng _).1, (ti_rng _).2⟩
set_option maxHeartbeats 1000000 in
theorem ok_kX10_wisestB (s0 : XS)  (s : XS) (x1 : Int32) (hI_s_k : InvK s.k) (hF_s_k : FrK [] s0.k s.k) (hI_s_g : InvG s.g)  : Ok (kX10_wisest  s x1) (Q_kX10_wisest s0) := by
  unfold kX10_wisest
  refine ok_ite (fun c_1 => ?_) (fun c_1 => ?_)
  · have c_1 := tn_eq (a := (x1).toInt) (b := 0) rfl (by decide) c_1
    exact ok_kX10_wisest_11 s0  _ _ hI_s_k hF_s_k hI_s_g (by omega) (by omega) 
  · have c_1 := tn_ne (a := (x1).toInt) (b := 0) rfl (by decide) c_1
    refine ok_ite (fun c_2 => ?_) (fun c_2 => ?_)
    · have c_2 := tn_eq (a := (x1).toInt) (b := 1) rfl (by decide) c_2
      exact ok_kX10_wisest_11 s0  _ _ hI_s_k hF_s_k hI_s_g (by omega) (by omega) 
    · have c_2 := tn_ne (a := (x1).toInt) (b := 1) rfl (by decide) c_2
      exact ok_some ⟨hI_s_k, hF_s_k, hI_s_g, (ti_rng _).1, (ti_rng _).2⟩
theorem ok_kX10_wisest (s : XS) (x1 : Int32) (hI_s_k : InvK s.k) (hI_s_g : InvG s.g) : Ok (kX10_wisest s x1) (Q_kX10_wisest s) := ok_kX10_wisestB s s x1 hI_s_k FrK.rfl hI_s_g
abbrev Q_kX10_rank (s0 : XS) (y : Int32 × XS) : Prop := InvK y.2.k ∧ FrK [137, 138] s0.k y.2.k ∧ InvG y.2.g ∧ -2147483648 ≤ y.1.toInt ∧ y.1.toInt ≤ 2147483647
set_option maxHeartbeats 1000000 in
theorem ok_kX10_rankB (s0 : XS)  (s : XS) (x1 : Int32) (hI_s_k : InvK s.k) (hF_s_k : FrK [137, 138] s0.k s.k) (hI_s_g : InvG s.g)  : Ok (kX10_rank  s x1) (Q_kX10_rank s0) := by
  unfold kX10_rank
  refine ok_bindI (ok_kX5_hasGuess _ _ hI_s_k) (fun r2 s1 hc_1 => ?_)
  have hI_s1 : InvK s1 := hc_1.1
  have hFc_s1 : FrK [] s.k s1 := hc_1.2.1
  have hF_s1 : FrK [137, 138] s0.k s1 := hF_s_k.trans hFc_s1 (by decide)
  have hl_r2 : 0 ≤ r2.toInt := hc_1.2.2.1
  have hu_r2 : r2.toInt ≤ 1 := hc_1.2.2.2.1
  have hx0_r2 : (¬ r2.toInt = 0 → 0 ≤ (x1).toInt) := hc_1.2.2.2.2
  refine ok_let (fun s3 hs3 => ?_)
  have hI_s3_g : InvG s3.g := by rw [← hs3]; exact hI_s_g
  have hI_s3_k : InvK s3.k := by rw [← hs3]; exact hI_s1
  have hF_s3_k : FrK [137, 138] s0.k s3.k := by rw [← hs3]; exact hF_s1
  refine ok_ite (fun c_2 => ?_) (fun c_2 => ?_)
  · have c_2 := tn_eq (a := (r2).toInt) (b := 0) rfl (by decide) c_2
    exact ok_some ⟨hI_s3_k, hF_s3_k, hI_s3_g, (ti_rng _).1, (ti_rng _).2⟩
  · have c_2 := tn_ne (a := (r2).toInt) (b := 0) rfl (by decide) c_2
    refine ok_bindI (ok_kX2_oddsOf _ _ hI_s3_k (by omega)) (fun r7 s6 hc_3 => ?_)
    have hI_s6_k : InvK s6.k := hc_3.1
    have hFc_s6_k : FrK [] s3.k s6.k := hc_3.2.1
    have hF_s6_k : FrK [137, 138] s0.k s6.k := hF_s3_k.trans hFc_s6_k (by decide)
    refine ok_let (fun s8 hs8 => ?_)
    have hI_s8_g : InvG s8.g := by rw [← hs8]; exact hI_s3_g
    have hI_s8_k : InvK s8.k := by rw [← hs8]; exact hI_s6_k
    have hF_s8_k : FrK [137, 138] s0.k s8.k := by rw [← hs8]; exact hF_s6_k
    refine ok_ite (fun c_4 => ?_) (fun c_4 => ?_)
    · have c_4 := tn_eq (a := (r7).toInt) (b := 0) rfl (by decide) c_4
      exact ok_some ⟨hI_s8_k, hF_s8_k, hI_s8_g, (ti_rng _).1, (ti_rng _).2⟩
    · have c_4 := tn_ne (a := (r7).toInt) (b := 0) rfl (by decide) c_4
      refine ok_bindI (ok_kX2_casesAheadOf _ _ _ hI_s8_k (by omega)) (fun r12 s11 hc_5 => ?_)
      have hI_s11_k : InvK s11.k := hc_5.1
      have hFc_s11_k : FrK [137, 138] s8.k s11.k := hc_5.2.1
      have hF_s11_k : FrK [137, 138] s0.k s11.k := hF_s8_k.trans hFc_s11_k (by decide)
      refine ok_let (fun s13 hs13 => ?_)
      have hI_s13_g : InvG s13.g := by rw [← hs13]; exact hI_s8_g
      have hI_s13_k : InvK s13.k := by rw [← hs13]; exact hI_s11_k
      have hF_s13_k : FrK [137, 138] s0.k s13.k := by rw [← hs13]; exact hF_s11_k
      exact ok_some ⟨hI_s13_k, hF_s13_k, hI_s13_g, (ti_rng _).1, (ti_rng _).2⟩
theorem ok_kX10_rank (s : XS) (x1 : Int32) (hI_s_k : InvK s.k) (hI_s_g : InvG s.g) : Ok (kX10_rank s x1) (Q_kX10_rank s) := ok_kX10_rankB s s x1 hI_s_k FrK.rfl hI_s_g
