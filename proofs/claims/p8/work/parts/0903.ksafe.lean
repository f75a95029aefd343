abbrev Q_kX2_fillRow_far (s0 : JS) (y : Int32 × JS) : Prop := InvK y.2.k ∧ FrK [138] s0.k y.2.k ∧ 1 ≤ y.1.toInt ∧ y.1.toInt ≤ 36
set_option maxHeartbeats 1000000 in
theorem ok_kX2_fillRow_far_39 (s0 : JS) (k10 : JS → Int32 → Int32 → Int32 → Option (Int32 × JS)) (M10 : Nat) (hk10 : ∀ (s : JS) (x4 : Int32) (x5 : Int32) (x6 : Int32), InvK s.k → FrK [138] s0.k s.k → 0 ≤ x4.toInt → x4.toInt ≤ 5 → 1 ≤ x5.toInt → x5.toInt ≤ 36 → 3 ≤ x6.toInt → x6.toInt ≤ 5 → (x6.toInt ≤ 3 → x5.toInt ≤ 1) → (x6.toInt ≤ 4 → x5.toInt ≤ 6) → (5 - x6.toInt).toNat < M10 → Ok (k10 s x4 x5 x6) (Q_kX2_fillRow_far s0)) (k20 : JS → Int32 → Int32 → Int32 → Int32 → Option (Int32 × JS)) (M20 : Nat) (hk20 : ∀ (s : JS) (x4 : Int32) (x5 : Int32) (x6 : Int32) (x7 : Int32), InvK s.k → FrK [138] s0.k s.k → 4 ≤ x4.toInt → x4.toInt ≤ 5 → 1 ≤ x5.toInt → x5.toInt ≤ 6 → 3 ≤ x6.toInt → x6.toInt ≤ 4 → -1 ≤ x7.toInt → x7.toInt ≤ 5 → (x6.toInt ≤ 3 → x5.toInt ≤ 1) → (x6.toInt ≤ 4 → x5.toInt ≤ 6) → (5 - x6.toInt).toNat ≤ M10 → (x7.toInt - (-1)).toNat < M20 → Ok (k20 s x4 x5 x6 x7) (Q_kX2_fillRow_far s0)) (k39 : JS → Int32 → Int32 → Int32 → Int32 → Int32 → Int32 → Option (Int32 × JS)) (M39 : Nat) (hk39 : ∀ (s : JS) (x4 : Int32) (x5 : Int32) (x6 : Int32) (x7 : Int32) (x8 : Int32) (x9 : Int32), InvK s.k → FrK [138] s0.k s.k → 4 ≤ x4.toInt → x4.toInt ≤ 5 → 1 ≤ x5.toInt → x5.toInt ≤ 6 → 3 ≤ x6.toInt → x6.toInt ≤ 4 → 0 ≤ x7.toInt → x7.toInt ≤ 5 → 0 ≤ x9.toInt → x9.toInt ≤ 6 → (x6.toInt ≤ 3 → x5.toInt ≤ 1) → (x6.toInt ≤ 4 → x5.toInt ≤ 6) → (5 - x6.toInt).toNat ≤ M10 → (x7.toInt - (-1)).toNat ≤ M20 → (6 - x9.toInt).toNat < M39 → Ok (k39 s x4 x5 x6 x7 x8 x9) (Q_kX2_fillRow_far s0)) (s : JS) (x4 : Int32) (x5 : Int32) (x6 : Int32) (x7 : Int32) (x8 : Int32) (x9 : Int32) (hI_s_k : InvK s.k) (hF_s_k : FrK [138] s0.k s.k) (h_x4l : 4 ≤ x4.toInt) (h_x4u : x4.toInt ≤ 5) (h_x5l : 1 ≤ x5.toInt) (h_x5u : x5.toInt ≤ 6) (h_x6l : 3 ≤ x6.toInt) (h_x6u : x6.toInt ≤ 4) (h_x7l : 0 ≤ x7.toInt) (h_x7u : x7.toInt ≤ 5) (h_x9l : 0 ≤ x9.toInt) (h_x9u : x9.toInt ≤ 6) (hx0 : (x6.toInt ≤ 3 → x5.toInt ≤ 1)) (hx1 : (x6.toInt ≤ 4 → x5.toInt ≤ 6)) (hM10 : (5 - x6.toInt).toNat ≤ M10) (hM20 : (x7.toInt - (-1)).toNat ≤ M20) (hM39 : (6 - x9.toInt).toNat ≤ M39) : Ok (kX2_fillRow_far_39 k10 k20 k39 s x4 x5 x6 x7 x8 x9) (Q_kX2_fillRow_far s0) := by
  unfold kX2_fillRow_far_39
  rw [show x7 + (-1) = x7 - 1 from (Int32.sub_eq_add_neg x7 1).symm]
  refine ok_ite (fun c_1 => ?_) (fun c_1 => ?_)
  · have c_1 := tn_le (a := (x5).toInt) (b := (x9).toInt) rfl rfl c_1
    have a_2 : ((x7 - 1)).toInt = (x7).toInt - 1 := tn_sub rfl (by decide) (by omega) (by omega)
    exact hk20 _ _ _ _ _ hI_s_k hF_s_k (by first | (clear hx0 hx1; omega) | omega) (by first | (clear hx0 hx1; omega) | omega) (by first | (clear hx0 hx1; omega) | omega) (by first | (clear hx0 hx1; omega) | omega) (by first | (clear hx0 hx1; omega) | omega) (by first | (clear hx0 hx1; omega) | omega) (by first | (clear hx0 hx1; omega) | omega) (by first | (clear hx0 hx1; omega) | omega) (by omega) (by omega) (by first | (clear hx0 hx1; omega) | omega) (by first | (clear hx0 hx1; omega) | omega)
  · have c_1 := tn_nle (a := (x5).toInt) (b := (x9).toInt) rfl rfl c_1
    refine ok_grd (vpb_ok (by omega) (by omega)) ?_
    have a_3 : 0 ≤ ((x7 * x5)).toInt ∧ ((x7 * x5)).toInt ≤ 30 := ti_mulr (a := 5) (b := 6) (by omega) (by omega) (by omega) (by omega) (by decide)
    have a_4 : (((x7 * x5) + x9)).toInt = ((x7 * x5)).toInt + (x9).toInt := tn_add rfl rfl (by omega) (by omega)
    refine ok_grd (vpb_ok (by omega) (by omega)) ?_
    refine ok_let (fun s4 hs4 => ?_)
    have hI_s4_k : InvK s4.k := by rw [← hs4]; exact hI_s_k.sfF (k := 38) rfl rfl
    have hF_s4_k : FrK [138] s0.k s4.k := by rw [← hs4]; exact hF_s_k.sf (k := 38) (by decide)
    have a_5 : ((x9 + 1)).toInt = (x9).toInt + 1 := tn_add rfl (by decide) (by omega) (by omega)
    exact hk39 _ _ _ _ _ _ _ hI_s4_k hF_s4_k (by first | (clear hx0 hx1; omega) | omega) (by first | (clear hx0 hx1; omega) | omega) (by first | (clear hx0 hx1; omega) | omega) (by first | (clear hx0 hx1; omega) | omega) (by first | (clear hx0 hx1; omega) | omega) (by first | (clear hx0 hx1; omega) | omega) (by first | (clear hx0 hx1; omega) | omega) (by first | (clear hx0 hx1; omega) | omega) (by first | (clear hx0 hx1; omega) | omega) (by first | (clear hx0 hx1; omega) | omega) (by omega) (by omega) (by first | (clear hx0 hx1; omega) | omega) (by first | (clear hx0 hx1; omega) | omega) (by first | (clear hx0 hx1; omega) | omega)
theorem okL_kX2_fillRow_far_39 (s0 : JS) (k10 : JS → Int32 → Int32 → Int32 → Option (Int32 × JS)) (M10 : Nat) (hk10 : ∀ (s : JS) (x4 : Int32) (x5 : Int32) (x6 : Int32), InvK s.k → FrK [138] s0.k s.k → 0 ≤ x4.toInt → x4.toInt ≤ 5 → 1 ≤ x5.toInt → x5.toInt ≤ 36 → 3 ≤ x6.toInt → x6.toInt ≤ 5 → (x6.toInt ≤ 3 → x5.toInt ≤ 1) → (x6.toInt ≤ 4 → x5.toInt ≤ 6) → (5 - x6.toInt).toNat < M10 → Ok (k10 s x4 x5 x6) (Q_kX2_fillRow_far s0)) (k20 : JS → Int32 → Int32 → Int32 → Int32 → Option (Int32 × JS)) (M20 : Nat) (hk20 : ∀ (s : JS) (x4 : Int32) (x5 : Int32) (x6 : Int32) (x7 : Int32), InvK s.k → FrK [138] s0.k s.k → 4 ≤ x4.toInt → x4.toInt ≤ 5 → 1 ≤ x5.toInt → x5.toInt ≤ 6 → 3 ≤ x6.toInt → x6.toInt ≤ 4 → -1 ≤ x7.toInt → x7.toInt ≤ 5 → (x6.toInt ≤ 3 → x5.toInt ≤ 1) → (x6.toInt ≤ 4 → x5.toInt ≤ 6) → (5 - x6.toInt).toNat ≤ M10 → (x7.toInt - (-1)).toNat < M20 → Ok (k20 s x4 x5 x6 x7) (Q_kX2_fillRow_far s0)) : ∀ (n : Nat) (s : JS) (x4 : Int32) (x5 : Int32) (x6 : Int32) (x7 : Int32) (x8 : Int32) (x9 : Int32), (6 - x9.toInt).toNat < n → InvK s.k → FrK [138] s0.k s.k → 4 ≤ x4.toInt → x4.toInt ≤ 5 → 1 ≤ x5.toInt → x5.toInt ≤ 6 → 3 ≤ x6.toInt → x6.toInt ≤ 4 → 0 ≤ x7.toInt → x7.toInt ≤ 5 → 0 ≤ x9.toInt → x9.toInt ≤ 6 → (x6.toInt ≤ 3 → x5.toInt ≤ 1) → (x6.toInt ≤ 4 → x5.toInt ≤ 6) → (5 - x6.toInt).toNat ≤ M10 → (x7.toInt - (-1)).toNat ≤ M20 → Ok (kX2_fillRow_far_39L k10 k20 n s x4 x5 x6 x7 x8 x9) (Q_kX2_fillRow_far s0) := by
  intro n
  induction n with
  | zero => intro s x4 x5 x6 x7 x8 x9 hn; omega
  | succ n ih =>
    intro s x4 x5 x6 x7 x8 x9 hn hI_s_k hF_s_k h_x4l h_x4u h_x5l h_x5u h_x6l h_x6u h_x7l h_x7u h_x9l h_x9u hx0 hx1 hM10 hM20
    exact ok_kX2_fillRow_far_39 s0 k10 M10 hk10 k20 M20 hk20 (kX2_fillRow_far_39L k10 k20 n) ((6 - x9.toInt).toNat) (fun zs zx4 zx5 zx6 zx7 zx8 zx9 g0 g1 g2 g3 g4 g5 g6 g7 g8 g9 g10 g11 g12 g13 o10 o20 hm => ih zs zx4 zx5 zx6 zx7 zx8 zx9 (by omega) g0 g1 g2 g3 g4 g5 g6 g7 g8 g9 g10 g11 g12 g13 o10 o20) s x4 x5 x6 x7 x8 x9 hI_s_k hF_s_k h_x4l h_x4u h_x5l h_x5u h_x6l h_x6u h_x7l h_x7u h_x9l h_x9u hx0 hx1 hM10 hM20 (Nat.le_refl _)
set_option maxHeartbeats 1000000 in
theorem ok_kX2_fillRow_far_20 (s0 : JS) (k10 : JS → Int32 → Int32 → Int32 → Option (Int32 × JS)) (M10 : Nat) (hk10 : ∀ (s : JS) (x4 : Int32) (x5 : Int32) (x6 : Int32), InvK s.k → FrK [138] s0.k s.k → 0 ≤ x4.toInt → x4.toInt ≤ 5 → 1 ≤ x5.toInt → x5.toInt ≤ 36 → 3 ≤ x6.toInt → x6.toInt ≤ 5 → (x6.toInt ≤ 3 → x5.toInt ≤ 1) → (x6.toInt ≤ 4 → x5.toInt ≤ 6) → (5 - x6.toInt).toNat < M10 → Ok (k10 s x4 x5 x6) (Q_kX2_fillRow_far s0)) (k20 : JS → Int32 → Int32 → Int32 → Int32 → Option (Int32 × JS)) (M20 : Nat) (hk20 : ∀ (s : JS) (x4 : Int32) (x5 : Int32) (x6 : Int32) (x7 : Int32), InvK s.k → FrK [138] s0.k s.k → 4 ≤ x4.toInt → x4.toInt ≤ 5 → 1 ≤ x5.toInt → x5.toInt ≤ 6 → 3 ≤ x6.toInt → x6.toInt ≤ 4 → -1 ≤ x7.toInt → x7.toInt ≤ 5 → (x6.toInt ≤ 3 → x5.toInt ≤ 1) → (x6.toInt ≤ 4 → x5.toInt ≤ 6) → (5 - x6.toInt).toNat ≤ M10 → (x7.toInt - (-1)).toNat < M20 → Ok (k20 s x4 x5 x6 x7) (Q_kX2_fillRow_far s0)) (s : JS) (x4 : Int32) (x5 : Int32) (x6 : Int32) (x7 : Int32) (hI_s_k : InvK s.k) (hF_s_k : FrK [138] s0.k s.k) (h_x4l : 4 ≤ x4.toInt) (h_x4u : x4.toInt ≤ 5) (h_x5l : 1 ≤ x5.toInt) (h_x5u : x5.toInt ≤ 6) (h_x6l : 3 ≤ x6.toInt) (h_x6u : x6.toInt ≤ 4) (h_x7l : -1 ≤ x7.toInt) (h_x7u : x7.toInt ≤ 5) (hx0 : (x6.toInt ≤ 3 → x5.toInt ≤ 1)) (hx1 : (x6.toInt ≤ 4 → x5.toInt ≤ 6)) (hM10 : (5 - x6.toInt).toNat ≤ M10) (hM20 : (x7.toInt - (-1)).toNat ≤ M20) : Ok (kX2_fillRow_far_20 k10 k20 s x4 x5 x6 x7) (Q_kX2_fillRow_far s0) := by
  unfold kX2_fillRow_far_20
  refine ok_ite (fun c_1 => ?_) (fun c_1 => ?_)
  · have c_1 := tn_lt (a := (x7).toInt) (b := 0) rfl (by decide) c_1
    have a_2 : ((x5 * 6)).toInt = (x5).toInt * 6 := ti_mulc (c := 6) (by decide) (by omega) (by omega)
    have a_3 : ((x6 + 1)).toInt = (x6).toInt + 1 := tn_add rfl (by decide) (by omega) (by omega)
    exact hk10 _ _ _ _ hI_s_k hF_s_k (by first | (clear hx0 hx1; omega) | omega) (by first | (clear hx0 hx1; omega) | omega) (by first | (clear hx0 hx1; omega) | omega) (by first | (clear hx0 hx1; omega) | omega) (by first | (clear hx0 hx1; omega) | omega) (by first | (clear hx0 hx1; omega) | omega) (by omega) (by omega) (by first | (clear hx0 hx1; omega) | omega)
  · have c_1 := tn_nlt (a := (x7).toInt) (b := 0) rfl (by decide) c_1
    refine ok_bindI (ok_kX2_oddsIfMay _ _ _ hI_s_k (by omega) (by omega) (by omega) (by omega)) (fun r3 s2 hc_4 => ?_)
    have hI_s2_k : InvK s2.k := hc_4.1
    have hFc_s2_k : FrK [] s.k s2.k := hc_4.2.1
    have hF_s2_k : FrK [138] s0.k s2.k := hF_s_k.trans hFc_s2_k (by decide)
    have l_0 : (0 : Int32).toInt = 0 := by decide
    exact okL_kX2_fillRow_far_39 s0 k10 M10 hk10 k20 M20 hk20 fu _ _ _ _ _ _ _ (by unfold fu; omega) hI_s2_k hF_s2_k (by first | (clear hx0 hx1; omega) | omega) (by first | (clear hx0 hx1; omega) | omega) (by first | (clear hx0 hx1; omega) | omega) (by first | (clear hx0 hx1; omega) | omega) (by first | (clear hx0 hx1; omega) | omega) (by first | (clear hx0 hx1; omega) | omega) (by first | (clear hx0 hx1; omega) | omega) (by first | (clear hx0 hx1; omega) | omega) (by decide) (by decide) (by omega) (by omega) (by first | (clear hx0 hx1; omega) | omega) (by first | (clear hx0 hx1; omega) | omega)
theorem okL_kX2_fillRow_far_20 (s0 : JS) (k10 : JS → Int32 → Int32 → Int32 → Option (Int32 × JS)) (M10 : Nat) (hk10 : ∀ (s : JS) (x4 : Int32) (x5 : Int32) (x6 : Int32), InvK s.k → FrK [138] s0.k s.k → 0 ≤ x4.toInt → x4.toInt ≤ 5 → 1 ≤ x5.toInt → x5.toInt ≤ 36 → 3 ≤ x6.toInt → x6.toInt ≤ 5 → (x6.toInt ≤ 3 → x5.toInt ≤ 1) → (x6.toInt ≤ 4 → x5.toInt ≤ 6) → (5 - x6.toInt).toNat < M10 → Ok (k10 s x4 x5 x6) (Q_kX2_fillRow_far s0)) : ∀ (n : Nat) (s : JS) (x4 : Int32) (x5 : Int32) (x6 : Int32) (x7 : Int32), (x7.toInt - (-1)).toNat < n → InvK s.k → FrK [138] s0.k s.k → 4 ≤ x4.toInt → x4.toInt ≤ 5 → 1 ≤ x5.toInt → x5.toInt ≤ 6 → 3 ≤ x6.toInt → x6.toInt ≤ 4 → -1 ≤ x7.toInt → x7.toInt ≤ 5 → (x6.toInt ≤ 3 → x5.toInt ≤ 1) → (x6.toInt ≤ 4 → x5.toInt ≤ 6) → (5 - x6.toInt).toNat ≤ M10 → Ok (kX2_fillRow_far_20L k10 n s x4 x5 x6 x7) (Q_kX2_fillRow_far s0) := by
  intro n
  induction n with
  | zero => intro s x4 x5 x6 x7 hn; omega
  | succ n ih =>
    intro s x4 x5 x6 x7 hn hI_s_k hF_s_k h_x4l h_x4u h_x5l h_x5u h_x6l h_x6u h_x7l h_x7u hx0 hx1 hM10
    exact ok_kX2_fillRow_far_20 s0 k10 M10 hk10 (kX2_fillRow_far_20L k10 n) ((x7.toInt - (-1)).toNat) (fun zs zx4 zx5 zx6 zx7 g0 g1 g2 g3 g4 g5 g6 g7 g8 g9 g10 g11 o10 hm => ih zs zx4 zx5 zx6 zx7 (by omega) g0 g1 g2 g3 g4 g5 g6 g7 g8 g9 g10 g11 o10) s x4 x5 x6 x7 hI_s_k hF_s_k h_x4l h_x4u h_x5l h_x5u h_x6l h_x6u h_x7l h_x7u hx0 hx1 hM10 (Nat.le_refl _)
set_option maxHeartbeats 1000000 in
theorem ok_kX2_fillRow_far_10 (s0 : JS) (k10 : JS → Int32 → Int32 → Int32 → Option (Int32 × JS)) (M10 : Nat) (hk10 : ∀ (s : JS) (x4 : Int32) (x5 : Int32) (x6 : Int32), InvK s.k → FrK [138] s0.k s.k → 0 ≤ x4.toInt → x4.toInt ≤ 5 → 1 ≤ x5.toInt → x5.toInt ≤ 36 → 3 ≤ x6.toInt → x6.toInt ≤ 5 → (x6.toInt ≤ 3 → x5.toInt ≤ 1) → (x6.toInt ≤ 4 → x5.toInt ≤ 6) → (5 - x6.toInt).toNat < M10 → Ok (k10 s x4 x5 x6) (Q_kX2_fillRow_far s0)) (s : JS) (x4 : Int32) (x5 : Int32) (x6 : Int32) (hI_s_k : InvK s.k) (hF_s_k : FrK [138] s0.k s.k) (h_x4l : 0 ≤ x4.toInt) (h_x4u : x4.toInt ≤ 5) (h_x5l : 1 ≤ x5.toInt) (h_x5u : x5.toInt ≤ 36) (h_x6l : 3 ≤ x6.toInt) (h_x6u : x6.toInt ≤ 5) (hx0 : (x6.toInt ≤ 3 → x5.toInt ≤ 1)) (hx1 : (x6.toInt ≤ 4 → x5.toInt ≤ 6)) (hM10 : (5 - x6.toInt).toNat ≤ M10) : Ok (kX2_fillRow_far_10 k10 s x4 x5 x6) (Q_kX2_fillRow_far s0) := by
  unfold kX2_fillRow_far_10
  refine ok_ite (fun c_1 => ?_) (fun c_1 => ?_)
  · have c_1 := tn_le (a := (x4).toInt) (b := (x6).toInt) rfl rfl c_1
    exact ok_some ⟨hI_s_k, hF_s_k, by show 1 ≤ (x5).toInt; omega, by show (x5).toInt ≤ 36; omega⟩
  · have c_1 := tn_nle (a := (x4).toInt) (b := (x6).toInt) rfl rfl c_1
    have l_5 : (5 : Int32).toInt = 5 := by decide
    exact okL_kX2_fillRow_far_20 s0 k10 M10 hk10 fu _ _ _ _ _ (by unfold fu; omega) hI_s_k hF_s_k (by first | (clear hx0 hx1; omega) | omega) (by first | (clear hx0 hx1; omega) | omega) (by first | (clear hx0 hx1; omega) | omega) (by first | (clear hx0 hx1; omega) | omega) (by first | (clear hx0 hx1; omega) | omega) (by first | (clear hx0 hx1; omega) | omega) (by decide) (by decide) (by omega) (by omega) (by first | (clear hx0 hx1; omega) | omega)
theorem okL_kX2_fillRow_far_10 (s0 : JS)  : ∀ (n : Nat) (s : JS) (x4 : Int32) (x5 : Int32) (x6 : Int32), (5 - x6.toInt).toNat < n → InvK s.k → FrK [138] s0.k s.k → 0 ≤ x4.toInt → x4.toInt ≤ 5 → 1 ≤ x5.toInt → x5.toInt ≤ 36 → 3 ≤ x6.toInt → x6.toInt ≤ 5 → (x6.toInt ≤ 3 → x5.toInt ≤ 1) → (x6.toInt ≤ 4 → x5.toInt ≤ 6) → Ok (kX2_fillRow_far_10L  n s x4 x5 x6) (Q_kX2_fillRow_far s0) := by
  intro n
  induction n with
  | zero => intro s x4 x5 x6 hn; omega
  | succ n ih =>
    intro s x4 x5 x6 hn hI_s_k hF_s_k h_x4l h_x4u h_x5l h_x5u h_x6l h_x6u hx0 hx1 
    exact ok_kX2_fillRow_far_10 s0 (kX2_fillRow_far_10L  n) ((5 - x6.toInt).toNat) (fun zs zx4 zx5 zx6 g0 g1 g2 g3 g4 g5 g6 g7 g8 g9  hm => ih zs zx4 zx5 zx6 (by omega) g0 g1 g2 g3 g4 g5 g6 g7 g8 g9 ) s x4 x5 x6 hI_s_k hF_s_k h_x4l h_x4u h_x5l h_x5u h_x6l h_x6u hx0 hx1 (Nat.le_refl _)
set_option maxHeartbeats 1000000 in
theorem ok_kX2_fillRow_farB (s0 : JS)  (s : JS) (x3 : Int32) (x4 : Int32) (hI_s_k : InvK s.k) (hF_s_k : FrK [138] s0.k s.k) (h_x3l : 3 ≤ x3.toInt) (h_x3u : x3.toInt ≤ 3) (h_x4l : 0 ≤ x4.toInt) (h_x4u : x4.toInt ≤ 5)  : Ok (kX2_fillRow_far  s x3 x4) (Q_kX2_fillRow_far s0) := by
  unfold kX2_fillRow_far
  refine ok_let (fun s1 hs1 => ?_)
  have hI_s1_k : InvK s1.k := by rw [← hs1]; exact hI_s_k.sfF (k := 38) rfl rfl
  have hF_s1_k : FrK [138] s0.k s1.k := by rw [← hs1]; exact hF_s_k.sf (k := 38) (by decide)
  have l_1 : (1 : Int32).toInt = 1 := by decide
  exact okL_kX2_fillRow_far_10 s0  fu _ _ _ _ (by unfold fu; omega) hI_s1_k hF_s1_k (by omega) (by omega) (by decide) (by decide) (by omega) (by omega) (by omega) (by omega) 
theorem ok_kX2_fillRow_far (s : JS) (x3 : Int32) (x4 : Int32) (hI_s_k : InvK s.k) (h_x3l : 3 ≤ x3.toInt) (h_x3u : x3.toInt ≤ 3) (h_x4l : 0 ≤ x4.toInt) (h_x4u : x4.toInt ≤ 5) : Ok (kX2_fillRow_far s x3 x4) (Q_kX2_fillRow_far s) := ok_kX2_fillRow_farB s s x3 x4 hI_s_k FrK.rfl h_x3l h_x3u h_x4l h_x4u
abbrev Q_kX2_fillNear (s0 : JS) (y : Int32 × JS) : Prop := InvK y.2.k ∧ FrK [137] s0.k y.2.k ∧ 1 ≤ y.1.toInt ∧ y.1.toInt ≤ 216
set_option maxHeartbeats 1000000 in
theorem ok_kX2_fillNearB (s0 : JS)  (s : JS) (hI_s_k : InvK s.k) (hF_s_k : FrK [137] s0.k s.k)  : Ok (kX2_fillNear  s) (Q_kX2_fillNear s0) := by
  unfold kX2_fillNear
  have a_1 : 0 ≤ (s.k.v 1).toInt ∧ (s.k.v 1).toInt ≤ 5 := hI_s_k.1 1
  have a_2 := tn_mmin (x := 3) (y := (s.k.v 1)) (a := 3) (b := ((s.k.v 1)).toInt) (by decide) rfl
  refine ok_bindI (ok_kX2_fillRow_near _ _ _ hI_s_k (by decide) (by decide) (by omega) (by omega)) (fun r2 s1 hc_3 => ?_)
  have hI_s1_k : InvK s1.k := hc_3.1
  have hFc_s1_k : FrK [137] s.k s1.k := hc_3.2.1
  have hF_s1_k : FrK [137] s0.k s1.k := hF_s_k.trans hFc_s1_k (by decide)
  have hl_r2 : 1 ≤ r2.toInt := hc_3.2.2.1
  have hu_r2 : r2.toInt ≤ 216 := hc_3.2.2.2
  exact ok_some ⟨hI_s1_k, hF_s1_k, by show 1 ≤ (r2).toInt; omega, by show (r2).toInt ≤ 216; omega⟩
theorem ok_kX2_fillNear (s : JS) (hI_s_k : InvK s.k) : Ok (kX2_fillNear s) (Q_kX2_fillNear s) := ok_kX2_fillNearB s s hI_s_k FrK.rfl
abbrev Q_kX2_fillFar (s0 : JS) (y : Int32 × JS) : Prop := InvK y.2.k ∧ FrK [138] s0.k y.2.k ∧ 1 ≤ y.1.toInt ∧ y.1.toInt ≤ 36
set_option maxHeartbeats 1000000 in
theorem ok_kX2_fillFarB (s0 : JS)  (s : JS) (hI_s_k : InvK s.k) (hF_s_k : FrK [138] s0.k s.k)  : Ok (kX2_fillFar  s) (Q_kX2_fillFar s0) := by
  unfold kX2_fillFar
  have a_1 : 0 ≤ (s.k.v 1).toInt ∧ (s.k.v 1).toInt ≤ 5 := hI_s_k.1 1
  refine ok_bindI (ok_kX2_fillRow_far _ _ _ hI_s_k (by decide) (by decide) (by omega) (by omega)) (fun r2 s1 hc_2 => ?_)
  have hI_s1_k : InvK s1.k := hc_2.1
  have hFc_s1_k : FrK [138] s.k s1.k := hc_2.2.1
  have hF_s1_k : FrK [138] s0.k s1.k := hF_s_k.trans hFc_s1_k (by decide)
  have hl_r2 : 1 ≤ r2.toInt := hc_2.2.2.1
  have hu_r2 : r2.toInt ≤ 36 := hc_2.2.2.2
  exact ok_some ⟨hI_s1_k, hF_s1_k, by show 1 ≤ (r2).toInt; omega, by show (r2).toInt ≤ 36; omega⟩
theorem ok_kX2_fillFar (s : JS) (hI_s_k : InvK s.k) : Ok (kX2_fillFar s) (Q_kX2_fillFar s) := ok_kX2_fillFarB s s hI_s_k FrK.rfl
abbrev Q_kX2_casesAheadOf (s0 : JS) (y : Int32 × JS) : Prop := InvK y.2.k ∧ FrK [137, 138] s0.k y.2.k ∧ -2147483648 ≤ y.1.toInt ∧ y.1.toInt ≤ 2147483647
set_option maxHeartbeats 1000000 in
theorem ok_kX2_casesAheadOf_78 (s0 : JS) (k23 : JS → Int32 → Int32 → Int32 → Int32 → Int32 → Int32 → Int32 → Option (Int32 × JS)) (M23 : Nat) (hk23 : ∀ (s : JS) (x2 : Int32) (x3 : Int32) (x4 : Int32) (x5 : Int32) (x6 : Int32) (x7 : Int32) (x8 : Int32), InvK s.k → FrK [137, 138] s0.k s.k → 0 ≤ x2.toInt → 1 ≤ x4.toInt → x4.toInt ≤ 216 → 1 ≤ x5.toInt → x5.toInt ≤ 36 → 0 ≤ x8.toInt → x8.toInt ≤ 36 → (36 - x8.toInt).toNat < M23 → Ok (k23 s x2 x3 x4 x5 x6 x7 x8) (Q_kX2_casesAheadOf s0)) (k33 : JS → Int32 → Int32 → Int32 → Int32 → Int32 → Int32 → Int32 → Int32 → Option (Int32 × JS)) (M33 : Nat) (hk33 : ∀ (s : JS) (x2 : Int32) (x3 : Int32) (x4 : Int32) (x5 : Int32) (x6 : Int32) (x7 : Int32) (x8 : Int32) (x9 : Int32), InvK s.k → FrK [137, 138] s0.k s.k → 0 ≤ x2.toInt → 1 ≤ x4.toInt → x4.toInt ≤ 216 → 1 ≤ x5.toInt → x5.toInt ≤ 36 → 0 ≤ x8.toInt → x8.toInt ≤ 35 → 0 ≤ x9.toInt → x9.toInt ≤ 216 → (36 - x8.toInt).toNat ≤ M23 → (216 - x9.toInt).toNat < M33 → Ok (k33 s x2 x3 x4 x5 x6 x7 x8 x9) (Q_kX2_casesAheadOf s0)) (s : JS) (x2 : Int32) (x3 : Int32) (x4 : Int32) (x5 : Int32) (x6 : Int32) (x7 : Int32) (x8 : Int32) (x9 : Int32) (hI_s_k : InvK s.k) (hF_s_k : FrK [137, 138] s0.k s.k) (h_x2l : 0 ≤ x2.toInt) (h_x4l : 1 ≤ x4.toInt) (h_x4u : x4.toInt ≤ 216) (h_x5l : 1 ≤ x5.toInt) (h_x5u : x5.toInt ≤ 36) (h_x8l : 0 ≤ x8.toInt) (h_x8u : x8.toInt ≤ 35) (h_x9l : 0 ≤ x9.toInt) (h_x9u : x9.toInt ≤ 215) (hM23 : (36 - x8.toInt).toNat ≤ M23) (hM33 : (216 - x9.toInt).toNat ≤ M33) : Ok (kX2_casesAheadOf_78 k23 k33 s x2 x3 x4 x5 x6 x7 x8 x9) (Q_kX2_casesAheadOf s0) := by
  unfold kX2_casesAheadOf_78
  have a_1 : ((x9 + 1)).toInt = (x9).toInt + 1 := tn_add rfl (by decide) (by omega) (by omega)
  exact hk33 _ _ _ _ _ _ _ _ _ hI_s_k hF_s_k (by omega) (by omega) (by omega) (by omega) (by omega) (by omega) (by omega) (by omega) (by omega) (by omega) (by omega)
set_option maxHeartbeats 1000000 in
theorem ok_kX2_casesAheadOf_75 (s0 : JS) (k23 : JS → Int32 → Int32 → Int32 → Int32 → Int32 → Int32 → Int32 → Option (Int32 × JS)) (M23 : Nat) (hk23 : ∀ (s : JS) (x2 : Int32) (x3 : Int32) (x4 : Int32) (x5 : Int32) (x6 : Int32) (x7 : Int32) (x8 : Int32), InvK s.k → FrK [137, 138] s0.k s.k → 0 ≤ x2.toInt → 1 ≤ x4.toInt → x4.toInt ≤ 216 → 1 ≤ x5.toInt → x5.toInt ≤ 36 → 0 ≤ x8.toInt → x8.toInt ≤ 36 → (36 - x8.toInt).toNat < M23 → Ok (k23 s x2 x3 x4 x5 x6 x7 x8) (Q_kX2_casesAheadOf s0)) (k33 : JS → Int32 → Int32 → Int32 → Int32 → Int32 → Int32 → Int32 → Int32 → Option (Int32 × JS)) (M33 : Nat) (hk33 : ∀ (s : JS) (x2 : Int32) (x3 : Int32) (x4 : Int32) (x5 : Int32) (x6 : Int32) (x7 : Int32) (x8 : Int32) (x9 : Int32), InvK s.k → FrK [137, 138] s0.k s.k → 0 ≤ x2.toInt → 1 ≤ x4.toInt → x4.toInt ≤ 216 → 1 ≤ x5.toInt → x5.toInt ≤ 36 → 0 ≤ x8.toInt → x8.toInt ≤ 35 → 0 ≤ x9.toInt → x9.toInt ≤ 216 → (36 - x8.toInt).toNat ≤ M23 → (216 - x9.toInt).toNat < M33 → Ok (k33 s x2 x3 x4 x5 x6 x7 x8 x9) (Q_kX2_casesAheadOf s0)) (s : JS) (x2 : Int32) (x3 : Int32) (x4 : Int32) (x5 : Int32) (x6 : Int32) (x7 : Int32) (x8 : Int32) (x9 : Int32) (hI_s_k : InvK s.k) (hF_s_k : FrK [137, 138] s0.k s.k) (h_x2l : 0 ≤ x2.toInt) (h_x4l : 1 ≤ x4.toInt) (h_x4u : x4.toInt ≤ 216) (h_x5l : 1 ≤ x5.toInt) (h_x5u : x5.toInt ≤ 36) (h_x8l : 0 ≤ x8.toInt) (h_x8u : x8.toInt ≤ 35) (h_x9l : 0 ≤ x9.toInt) (h_x9u : x9.toInt ≤ 215) (hM23 : (36 - x8.toInt).toNat ≤ M23) (hM33 : (216 - x9.toInt).toNat ≤ M33) : Ok (kX2_casesAheadOf_75 k23 k33 s x2 x3 x4 x5 x6 x7 x8 x9) (Q_kX2_casesAheadOf s0) := by
  unfold kX2_casesAheadOf_75
  exact ok_kX2_casesAheadOf_78 s0 k23 M23 hk23 k33 M33 hk33 _ _ _ _ _ _ _ _ _ hI_s_k hF_s_k (by omega) (by omega) (by omega) (by omega) (by omega) (by omega) (by omega) (by omega) (by omega) (by omega) (by omega)
set_option maxHeartbeats 1000000 in
theorem ok_kX2_casesAheadOf_33 (s0 : JS) (k23 : JS → Int32 → Int32 → Int32 → Int32 → Int32 → Int32 → Int32 → Option (Int32 × JS)) (M23 : Nat) (hk23 : ∀ (s : JS) (x2 : Int32) (x3 : Int32) (x4 : Int32) (x5 : Int32) (x6 : Int32) (x7 : Int32) (x8 : Int32), InvK s.k → FrK [137, 138] s0.k s.k → 0 ≤ x2.toInt → 1 ≤ x4.toInt → x4.toInt ≤ 216 → 1 ≤ x5.toInt → x5.toInt ≤ 36 → 0 ≤ x8.toInt → x8.toInt ≤ 36 → (36 - x8.toInt).toNat < M23 → Ok (k23 s x2 x3 x4 x5 x6 x7 x8) (Q_kX2_casesAheadOf s0)) (k33 : JS → Int32 → Int32 → Int32 → Int32 → Int32 → Int32 → Int32 → Int32 → Option (Int32 × JS)) (M33 : Nat) (hk33 : ∀ (s : JS) (x2 : Int32) (x3 : Int32) (x4 : Int32) (x5 : Int32) (x6 : Int32) (x7 : Int32) (x8 : Int32) (x9 : Int32), InvK s.k → FrK [137, 138] s0.k s.k → 0 ≤ x2.toInt → 1 ≤ x4.toInt → x4.toInt ≤ 216 → 1 ≤ x5.toInt → x5.toInt ≤ 36 → 0 ≤ x8.toInt → x8.toInt ≤ 35 → 0 ≤ x9.toInt → x9.toInt ≤ 216 → (36 - x8.toInt).toNat ≤ M23 → (216 - x9.toInt).toNat < M33 → Ok (k33 s x2 x3 x4 x5 x6 x7 x8 x9) (Q_kX2_casesAheadOf s0)) (s : JS) (x2 : Int32) (x3 : Int32) (x4 : Int32) (x5 : Int32) (x6 : Int32) (x7 : Int32) (x8 : Int32) (x9 : Int32) (hI_s_k : InvK s.k) (hF_s_k : FrK [137, 138] s0.k s.k) (h_x2l : 0 ≤ x2.toInt) (h_x4l : 1 ≤ x4.toInt) (h_x4u : x4.toInt ≤ 216) (h_x5l : 1 ≤ x5.toInt) (h_x5u : x5.toInt ≤ 36) (h_x8l : 0 ≤ x8.toInt) (h_x8u : x8.toInt ≤ 35) (h_x9l : 0 ≤ x9.toInt) (h_x9u : x9.toInt ≤ 216) (hM23 : (36 - x8.toInt).toNat ≤ M23) (hM33 : (216 - x9.toInt).toNat ≤ M33) : Ok (kX2_casesAheadOf_33 k23 k33 s x2 x3 x4 x5 x6 x7 x8 x9) (Q_kX2_casesAheadOf s0) := by
  unfold kX2_casesAheadOf_33
  refine ok_ite (fun c_1 => ?_) (fun c_1 => ?_)
  · have c_1 := tn_le (a := (x4).toInt) (b := (x9).toInt) rfl rfl c_1
    have a_2 : ((x8 + 1)).toInt = (x8).toInt + 1 := tn_add rfl (by decide) (by omega) (by omega)
    exact hk23 _ _ _ _ _ _ _ _ hI_s_k hF_s_k (by omega) (by omega) (by omega) (by omega) (by omega) (by omega) (by omega) (by omega)
  · have c_1 := tn_nle (a := (x4).toInt) (b := (x9).toInt) rfl rfl c_1
    refine ok_grd (vpb_ok (by omega) (by omega)) ?_
    refine ok_grd (vpb_ok (by omega) (by omega)) ?_
    refine ok_ite (fun c_3 => ?_) (fun c_3 => ?_)
    · have c_3 := tn_lt (a := (x3).toInt) (b := ((((s.k.f 38) (Int32.toNatClampNeg x8)) * ((s.k.f 37) (Int32.toNatClampNeg x9)))).toInt) rfl rfl c_3
      exact ok_kX2_casesAheadOf_75 s0 k23 M23 hk23 k33 M33 hk33 _ _ _ _ _ _ _ _ _ hI_s_k hF_s_k (by omega) (by omega) (by omega) (by omega) (by omega) (by omega) (by omega) (by omega) (by omega) (by omega) (by omega)
    · have c_3 := tn_nlt (a := (x3).toInt) (b := ((((s.k.f 38) (Int32.toNatClampNeg x8)) * ((s.k.f 37) (Int32.toNatClampNeg x9)))).toInt) rfl rfl c_3
      refine ok_ite (fun c_4 => ?_) (fun c_4 => ?_)
      · have c_4 := tn_eq (a := ((((s.k.f 38) (Int32.toNatClampNeg x8)) * ((s.k.f 37) (Int32.toNatClampNeg x9)))).toInt) (b := (x3).toInt) rfl rfl c_4
        refine ok_ite (fun c_5 => ?_) (fun c_5 => ?_)
        · have c_5 := tn_le (a := (x2).toInt) (b := (x7).toInt) rfl rfl c_5
          exact ok_kX2_casesAheadOf_78 s0 k23 M23 hk23 k33 M33 hk33 _ _ _ _ _ _ _ _ _ hI_s_k hF_s_k (by omega) (by omega) (by omega) (by omega) (by omega) (by omega) (by omega) (by omega) (by omega) (by omega) (by omega)
        · have c_5 := tn_nle (a := (x2).toInt) (b := (x7).toInt) rfl rfl c_5
          exact ok_kX2_casesAheadOf_75 s0 k23 M23 hk23 k33 M33 hk33 _ _ _ _ _ _ _ _ _ hI_s_k hF_s_k (by omega) (by omega) (by omega) (by omega) (by omega) (by omega) (by omega) (by omega) (by omega) (by omega) (by omega)
      · have c_4 := tn_ne (a := ((((s.k.f 38) (Int32.toNatClampNeg x8)) * ((s.k.f 37) (Int32.toNatClampNeg x9)))).toInt) (b := (x3).toInt) rfl rfl c_4
        exact ok_kX2_casesAheadOf_78 s0 k23 M23 hk23 k33 M33 hk33 _ _ _ _ _ _ _ _ _ hI_s_k hF_s_k (by omega) (by omega) (by omega) (by omega) (by omega) (by omega) (by omega) (by omega) (by omega) (by omega) (by omega)
theorem okL_kX2_casesAheadOf_33 (s0 : JS) (k23 : JS → Int32 → Int32 → Int32 → Int32 → Int32 → Int32 → Int32 → Option (Int32 × JS)) (M23 : Nat) (hk23 : ∀ (s : JS) (x2 : Int32) (x3 : Int32) (x4 : Int32) (x5 : Int32) (x6 : Int32) (x7 : Int32) (x8 : Int32), InvK s.k → FrK [137, 138] s0.k s.k → 0 ≤ x2.toInt → 1 ≤ x4.toInt → x4.toInt ≤ 216 → 1 ≤ x5.toInt → x5.toInt ≤ 36 → 0 ≤ x8.toInt → x8.toInt ≤ 36 → (36 - x8.toInt).toNat < M23 → Ok (k23 s x2 x3 x4 x5 x6 x7 x8) (Q_kX2_casesAheadOf s0)) : ∀ (n : Nat) (s : JS) (x2 : Int32) (x3 : Int32) (x4 : Int32) (x5 : Int32) (x6 : Int32) (x7 : Int32) (x8 : Int32) (x9 : Int32), (216 - x9.toInt).toNat < n → InvK s.k → FrK [137, 138] s0.k s.k → 0 ≤ x2.toInt → 1 ≤ x4.toInt → x4.toInt ≤ 216 → 1 ≤ x5.toInt → x5.toInt ≤ 36 → 0 ≤ x8.toInt → x8.toInt ≤ 35 → 0 ≤ x9.toInt → x9.toInt ≤ 216 → (36 - x8.toInt).toNat ≤ M23 → Ok (kX2_casesAheadOf_33L k23 n s x2 x3 x4 x5 x6 x7 x8 x9) (Q_kX2_casesAheadOf s0) := by
  intro n
  induction n with
  | zero => intro s x2 x3 x4 x5 x6 x7 x8 x9 hn; omega
  | succ n ih =>
    intro s x2 x3 x4 x5 x6 x7 x8 x9 hn hI_s_k hF_s_k h_x2l h_x4l h_x4u h_x5l h_x5u h_x8l h_x8u h_x9l h_x9u hM23
    exact ok_kX2_casesAheadOf_33 s0 k23 M23 hk23 (kX2_casesAheadOf_33L k23 n) ((216 - x9.toInt).toNat) (fun zs zx2 zx3 zx4 zx5 zx6 zx7 zx8 zx9 g0 g1 g2 g3 g4 g5 g6 g7 g8 g9 g10 o23 hm => ih zs zx2 zx3 zx4 zx5 zx6 zx7 zx8 zx9 (by omega) g0 g1 g2 g3 g4 g5 g6 g7 g8 g9 g10 o23) s x2 x3 x4 x5 x6 x7 x8 x9 hI_s_k hF_s_k h_x2l h_x4l h_x4u h_x5l h_x5u h_x8l h_x8u h_x9l h_x9u hM23 (Nat.le_refl _)
set_option maxHeartbeats 1000000 in
theorem ok_kX2_casesAheadOf_23 (s0 : JS) (k23 : JS → Int32 → Int32 → Int32 → Int32 → Int32 → Int32 → Int32 → Option (Int32 × JS)) (M23 : Nat) (hk23 : ∀ (s : JS) (x2 : Int32) (x3 : Int32) (x4 : Int32) (x5 : Int32) (x6 : Int32) (x7 : Int32) (x8 : Int32), InvK s.k → FrK [137, 138] s0.k s.k → 0 ≤ x2.toInt → 1 ≤ x4.toInt → x4.toInt ≤ 216 → 1 ≤ x5.toInt → x5.toInt ≤ 36 → 0 ≤ x8.toInt → x8.toInt ≤ 36 → (36 - x8.toInt).toNat < M23 → Ok (k23 s x2 x3 x4 x5 x6 x7 x8) (Q_kX2_casesAheadOf s0)) (s : JS) (x2 : Int32) (x3 : Int32) (x4 : Int32) (x5 : Int32) (x6 : Int32) (x7 : Int32) (x8 : Int32) (hI_s_k : InvK s.k) (hF_s_k : FrK [137, 138] s0.k s.k) (h_x2l : 0 ≤ x2.toInt) (h_x4l : 1 ≤ x4.toInt) (h_x4u : x4.toInt ≤ 216) (h_x5l : 1 ≤ x5.toInt) (h_x5u : x5.toInt ≤ 36) (h_x8l : 0 ≤ x8.toInt) (h_x8u : x8.toInt ≤ 36) (hM23 : (36 - x8.toInt).toNat ≤ M23) : Ok (kX2_casesAheadOf_23 k23 s x2 x3 x4 x5 x6 x7 x8) (Q_kX2_casesAheadOf s0) := by
  unfold kX2_casesAheadOf_23
  refine ok_ite (fun c_1 => ?_) (fun c_1 => ?_)
  · have c_1 := tn_le (a := (x5).toInt) (b := (x8).toInt) rfl rfl c_1
    exact ok_some ⟨hI_s_k, hF_s_k, (ti_rng _).1, (ti_rng _).2⟩
  · have c_1 := tn_nle (a := (x5).toInt) (b := (x8).toInt) rfl rfl c_1
    have l_0 : (0 : Int32).toInt = 0 := by decide
    exact okL_kX2_casesAheadOf_33 s0 k23 M23 hk23 fu _ _ _ _ _ _ _ _ _ (by unfold fu; omega) hI_s_k hF_s_k (by omega) (by omega) (by omega) (by omega) (by omega) (by omega) (by omega) (by decide) (by decide) (by omega)
theorem okL_kX2_casesAheadOf_23 (s0 : JS)  : ∀ (n : Nat) (s : JS) (x2 : Int32) (x3 : Int32) (x4 : Int32) (x5 : Int32) (x6 : Int32) (x7 : Int32) (x8 : Int32), (36 - x8.toInt).toNat < n → InvK s.k → FrK [137, 138] s0.k s.k → 0 ≤ x2.toInt → 1 ≤ x4.toInt → x4.toInt ≤ 216 → 1 ≤ x5.toInt → x5.toInt ≤ 36 → 0 ≤ x8.toInt → x8.toInt ≤ 36 → Ok (kX2_casesAheadOf_23L  n s x2 x3 x4 x5 x6 x7 x8) (Q_kX2_casesAheadOf s0) := by
  intro n
  induction n with
  | zero => intro s x2 x3 x4 x5 x6 x7 x8 hn; omega
  | succ n ih =>
    intro s x2 x3 x4 x5 x6 x7 x8 hn hI_s_k hF_s_k h_x2l h_x4l h_x4u h_x5l h_x5u h_x8l h_x8u 
    exact ok_kX2_casesAheadOf_23 s0 (kX2_casesAheadOf_23L  n) ((36 - x8.toInt).toNat) (fun zs zx2 zx3 zx4 zx5 zx6 zx7 zx8 g0 g1 g2 g3 g4 g5 g6 g7 g8  hm => ih zs zx2 zx3 zx4 zx5 zx6 zx7 zx8 (by omega) g0 g1 g2 g3 g4 g5 g6 g7 g8 ) s x2 x3 x4 x5 x6 x7 x8 hI_s_k hF_s_k h_x2l h_x4l h_x4u h_x5l h_x5u h_x8l h_x8u (Nat.le_refl _)
set_option maxHeartbeats 1000000 in
theorem ok_kX2_casesAheadOfB (s0 : JS)  (s : JS) (x2 : Int32) (x3 : Int32) (hI_s_k : InvK s.k) (hF_s_k : FrK [137, 138] s0.k s.k) (h_x2l : 0 ≤ x2.toInt)  : Ok (kX2_casesAheadOf  s x2 x3) (Q_kX2_casesAheadOf s0) := by
  unfold kX2_casesAheadOf
  refine ok_bindI (ok_kX2_fillNear _  hI_s_k) (fun r2 s1 hc_1 => ?_)
  have hI_s1_k : InvK s1.k := hc_1.1
  have hFc_s1_k : FrK [137] s.k s1.k := hc_1.2.1
  have hF_s1_k : FrK [137, 138] s0.k s1.k := hF_s_k.trans hFc_s1_k (by decide)
  have hl_r2 : 1 ≤ r2.toInt := hc_1.2.2.1
  have hu_r2 : r2.toInt ≤ 216 := hc_1.2.2.2
  refine ok_bindI (ok_kX2_fillFar _  hI_s1_k) (fun r4 s3 hc_2 => ?_)
  have hI_s3_k : InvK s3.k := hc_2.1
  have hFc_s3_k : FrK [138] s1.k s3.k := hc_2.2.1
  have hF_s3_k : FrK [137, 138] s0.k s3.k := hF_s1_k.trans hFc_s3_k (by decide)
  have hl_r4 : 1 ≤ r4.toInt := hc_2.2.2.1
  have hu_r4 : r4.toInt ≤ 36 := hc_2.2.2.2
  have l_0 : (0 : Int32).toInt = 0 := by decide
  exact okL_kX2_casesAheadOf_23 s0  fu _ _ _ _ _ _ _ _ (by unfold fu; omega) hI_s3_k hF_s3_k (by omega) (by omega) (by omega) (by omega) (by omega) (by decide) (by decide) 
theorem ok_kX2_casesAheadOf (s : JS) (x2 : Int32) (x3 : Int32) (hI_s_k : InvK s.k) (h_x2l : 0 ≤ x2.toInt) : Ok (kX2_casesAheadOf s x2 x3) (Q_kX2_casesAheadOf s) := ok_kX2_casesAheadOfB s s x2 x3 hI_s_k FrK.rfl h_x2l
abbrev Q_kX2_caseAtRank (s0 : JS) (y : Int32 × JS) : Prop := InvK y.2.k ∧ FrK [137, 138, 139, 140] s0.k y.2.k ∧ -2147483648 ≤ y.1.toInt ∧ y.1.toInt ≤ 2147483647
set_option maxHeartbeats 1000000 in
theorem ok_kX2_caseAtRank_88 (s0 : JS) (k35 : JS → Int32 → Int32 → Int32 → Int32 → Int32 → Option (Int32 × JS)) (M35 : Nat) (hk35 : ∀ (s : JS) (x2 : Int32) (x3 : Int32) (x4 : Int32) (x5 : Int32) (x6 : Int32), InvK s.k → FrK [137, 138, 139, 140] s0.k s.k → 0 ≤ x2.toInt → x2.toInt ≤ 19 → 1 ≤ x3.toInt → x3.toInt ≤ 216 → 1 ≤ x4.toInt → x4.toInt ≤ 36 → 0 ≤ x6.toInt → x6.toInt ≤ 36 → (36 - x6.toInt).toNat < M35 → Ok (k35 s x2 x3 x4 x5 x6) (Q_kX2_caseAtRank s0)) (k45 : JS → Int32 → Int32 → Int32 → Int32 → Int32 → Int32 → Option (Int32 × JS)) (M45 : Nat) (hk45 : ∀ (s : JS) (x2 : Int32) (x3 : Int32) (x4 : Int32) (x5 : Int32) (x6 : Int32) (x7 : Int32), InvK s.k → FrK [137, 138, 139, 140] s0.k s.k → 0 ≤ x2.toInt → x2.toInt ≤ 19 → 1 ≤ x3.toInt → x3.toInt ≤ 216 → 1 ≤ x4.toInt → x4.toInt ≤ 36 → 0 ≤ x6.toInt → x6.toInt ≤ 35 → 0 ≤ x7.toInt → x7.toInt ≤ 216 → (36 - x6.toInt).toNat ≤ M35 → (216 - x7.toInt).toNat < M45 → Ok (k45 s x2 x3 x4 x5 x6 x7) (Q_kX2_caseAtRank s0)) (s : JS) (x2 : Int32) (x3 : Int32) (x4 : Int32) (x5 : Int32) (x6 : Int32) (x7 : Int32) (hI_s_k : InvK s.k) (hF_s_k : FrK [137, 138, 139, 140] s0.k s.k) (h_x2l : 0 ≤ x2.toInt) (h_x2u : x2.toInt ≤ 19) (h_x3l : 1 ≤ x3.toInt) (h_x3u : x3.toInt ≤ 216) (h_x4l : 1 ≤ x4.toInt) (h_x4u : x4.toInt ≤ 36) (h_x6l : 0 ≤ x6.toInt) (h_x6u : x6.toInt ≤ 35) (h_x7l : 0 ≤ x7.toInt) (h_x7u : x7.toInt ≤ 215) (hM35 : (36 - x6.toInt).toNat ≤ M35) (hM45 : (216 - x7.toInt).toNat ≤ M45) : Ok (kX2_caseAtRank_88 k35 k45 s x2 x3 x4 x5 x6 x7) (Q_kX2_caseAtRank s0) := by
  unfold kX2_caseAtRank_88
  have a_1 : ((x7 + 1)).toInt = (x7).toInt + 1 := tn_add rfl (by decide) (by omega) (by omega)
  exact hk45 _ _ _ _ _ _ _ hI_s_k hF_s_k (by omega) (by omega) (by omega) (by omega) (by omega) (by omega) (by omega) (by omega) (by omega) (by omega) (by omega) (by omega)
set_option maxHeartbeats 1000000 in
theorem ok_kX2_caseAtRank_45 (s0 : JS) (k35 : JS → Int32 → Int32 → Int32 → Int32 → Int32 → Option (Int32 × JS)) (M35 : Nat) (hk35 : ∀ (s : JS) (x2 : Int32) (x3 : Int32) (x4 : Int32) (x5 : Int32) (x6 : Int32), InvK s.k → FrK [137, 138, 139, 140] s0.k s.k → 0 ≤ x2.toInt → x2.toInt ≤ 19 → 1 ≤ x3.toInt → x3.toInt ≤ 216 → 1 ≤ x4.toInt → x4.toInt ≤ 36 → 0 ≤ x6.toInt → x6.toInt ≤ 36 → (36 - x6.toInt).toNat < M35 → Ok (k35 s x2 x3 x4 x5 x6) (Q_kX2_caseAtRank s0)) (k45 : JS → Int32 → Int32 → Int32 → Int32 → Int32 → Int32 → Option (Int32 × JS)) (M45 : Nat) (hk45 : ∀ (s : JS) (x2 : Int32) (x3 : Int32) (x4 : Int32) (x5 : Int32) (x6 : Int32) (x7 : Int32), InvK s.k → FrK [137, 138, 139, 140] s0.k s.k → 0 ≤ x2.toInt → x2.toInt ≤ 19 → 1 ≤ x3.toInt → x3.toInt ≤ 216 → 1 ≤ x4.toInt → x4.toInt ≤ 36 → 0 ≤ x6.toInt → x6.toInt ≤ 35 → 0 ≤ x7.toInt → x7.toInt ≤ 216 → (36 - x6.toInt).toNat ≤ M35 → (216 - x7.toInt).toNat < M45 → Ok (k45 s x2 x3 x4 x5 x6 x7) (Q_kX2_caseAtRank s0)) (s : JS) (x2 : Int32) (x3 : Int32) (x4 : Int32) (x5 : Int32) (x6 : Int32) (x7 : Int32) (hI_s_k : InvK s.k) (hF_s_k : FrK [137, 138, 139, 140] s0.k s.k) (h_x2l : 0 ≤ x2.toInt) (h_x2u : x2.toInt ≤ 19) (h_x3l : 1 ≤ x3.toInt) (h_x3u : x3.toInt ≤ 216) (h_x4l : 1 ≤ x4.toInt) (h_x4u : x4.toInt ≤ 36) (h_x6l : 0 ≤ x6.toInt) (h_x6u : x6.toInt ≤ 35) (h_x7l : 0 ≤ x7.toInt) (h_x7u : x7.toInt ≤ 216) (hM35 : (36 - x6.toInt).toNat ≤ M35) (hM45 : (216 - x7.toInt).toNat ≤ M45) : Ok (kX2_caseAtRank_45 k35 k45 s x2 x3 x4 x5 x6 x7) (Q_kX2_caseAtRank s0) := by
  unfold kX2_caseAtRank_45
  refine ok_ite (fun c_1 => ?_) (fun c_1 => ?_)
  · have c_1 := tn_le (a := (x3).toInt) (b := (x7).toInt) rfl rfl c_1
    have a_2 : ((x6 + 1)).toInt = (x6).toInt + 1 := tn_add rfl (by decide) (by omega) (by omega)
    exact hk35 _ _ _ _ _ _ hI_s_k hF_s_k (by omega) (by omega) (by omega) (by omega) (by omega) (by omega) (by omega) (by omega) (by omega)
  · have c_1 := tn_nle (a := (x3).toInt) (b := (x7).toInt) rfl rfl c_1
    refine ok_grd (vpb_ok (by omega) (by omega)) ?_
    refine ok_grd (vpb_ok (by omega) (by omega)) ?_
    refine ok_grd (vpb_ok (by omega) (by omega)) ?_
    refine ok_ite (fun c_3 => ?_) (fun c_3 => ?_)
    · have c_3 := tn_le (a := ((((s.k.f 38) (Int32.toNatClampNeg x6)) * ((s.k.f 37) (Int32.toNatClampNeg x7)))).toInt) (b := (((s.k.f 40) (Int32.toNatClampNeg x2))).toInt) rfl rfl c_3
      exact ok_kX2_caseAtRank_88 s0 k35 M35 hk35 k45 M45 hk45 _ _ _ _ _ _ _ hI_s_k hF_s_k (by omega) (by omega) (by omega) (by omega) (by omega) (by omega) (by omega) (by omega) (by omega) (by omega) (by omega) (by omega)
    · have c_3 := tn_nle (a := ((((s.k.f 38) (Int32.toNatClampNeg x6)) * ((s.k.f 37) (Int32.toNatClampNeg x7)))).toInt) (b := (((s.k.f 40) (Int32.toNatClampNeg x2))).toInt) rfl rfl c_3
      refine ok_bindP (ok_kX2_putOnTop _ _ _ _ hI_s_k (by omega) (by omega)) (fun s6 hc_4 => ?_)
      have hI_s6 : InvK s6 := hc_4.1
      have hFc_s6 : FrK [139, 140] s.k s6 := hc_4.2
      have hF_s6 : FrK [137, 138, 139, 140] s0.k s6 := hF_s_k.trans hFc_s6 (by decide)
      refine ok_let (fun s7 hs7 => ?_)
      have hI_s7_k : InvK s7.k := by rw [← hs7]; exact hI_s6
      have hF_s7_k : FrK [137, 138, 139, 140] s0.k s7.k := by rw [← hs7]; exact hF_s6
      exact ok_kX2_caseAtRank_88 s0 k35 M35 hk35 k45 M45 hk45 _ _ _ _ _ _ _ hI_s7_k hF_s7_k (by omega) (by omega) (by omega) (by omega) (by omega) (by omega) (by omega) (by omega) (by omega) (by omega) (by omega) (by omega)
theorem okL_kX2_caseAtRank_45 (s0 : JS) (k35 : JS → Int32 → Int32 → Int32 → Int32 → Int32 → Option (Int32 × JS)) (M35 : Nat) (hk35 : ∀ (s : JS) (x2 : Int32) (x3 : Int32) (x4 : Int32) (x5 : Int32) (x6 : Int32), InvK s.k → FrK [137, 138, 139, 140] s0.k s.k → 0 ≤ x2.toInt → x2.toInt ≤ 19 → 1 ≤ x3.toInt → x3.toInt ≤ 216 → 1 ≤ x4.toInt → x4.toInt ≤ 36 → 0 ≤ x6.toInt → x6.toInt ≤ 36 → (36 - x6.toInt).toNat < M35 → Ok (k35 s x2 x3 x4 x5 x6) (Q_kX2_caseAtRank s0)) : ∀ (n : Nat) (s : JS) (x2 : Int32) (x3 : Int32) (x4 : Int32) (x5 : Int32) (x6 : Int32) (x7 : Int32), (216 - x7.toInt).toNat < n → InvK s.k → FrK [137, 138, 139, 140] s0.k s.k → 0 ≤ x2.toInt → x2.toInt ≤ 19 → 1 ≤ x3.toInt → x3.toInt ≤ 216 → 1 ≤ x4.toInt → x4.toInt ≤ 36 → 0 ≤ x6.toInt → x6.toInt ≤ 35 → 0 ≤ x7.toInt → x7.toInt ≤ 216 → (36 - x6.toInt).toNat ≤ M35 → Ok (kX2_caseAtRank_45L k35 n s x2 x3 x4 x5 x6 x7) (Q_kX2_caseAtRank s0) := by
  intro n
  induction n with
  | zero => intro s x2 x3 x4 x5 x6 x7 hn; omega
  | succ n ih =>
    intro s x2 x3 x4 x5 x6 x7 hn hI_s_k hF_s_k h_x2l h_x2u h_x3l h_x3u h_x4l h_x4u h_x6l h_x6u h_x7l h_x7u hM35
    exact ok_kX2_caseAtRank_45 s0 k35 M35 hk35 (kX2_caseAtRank_45L k35 n) ((216 - x7.toInt).toNat) (fun zs zx2 zx3 zx4 zx5 zx6 zx7 g0 g1 g2 g3 g4 g5 g6 g7 g8 g9 g10 g11 o35 hm => ih zs zx2 zx3 zx4 zx5 zx6 zx7 (by omega) g0 g1 g2 g3 g4 g5 g6 g7 g8 g9 g10 g11 o35) s x2 x3 x4 x5 x6 x7 hI_s_k hF_s_k h_x2l h_x2u h_x3l h_x3u h_x4l h_x4u h_x6l h_x6u h_x7l h_x7u hM35 (Nat.le_refl _)
set_option maxHeartbeats 1000000 in
theorem ok_kX2_caseAtRank_35 (s0 : JS) (k35 : JS → Int32 → Int32 → Int32 → Int32 → Int32 → Option (Int32 × JS)) (M35 : Nat) (hk35 : ∀ (s : JS) (x2 : Int32) (x3 : Int32) (x4 : Int32) (x5 : Int32) (x6 : Int32), InvK s.k → FrK [137, 138, 139, 140] s0.k s.k → 0 ≤ x2.toInt → x2.toInt ≤ 19 → 1 ≤ x3.toInt → x3.toInt ≤ 216 → 1 ≤ x4.toInt → x4.toInt ≤ 36 → 0 ≤ x6.toInt → x6.toInt ≤ 36 → (36 - x6.toInt).toNat < M35 → Ok (k35 s x2 x3 x4 x5 x6) (Q_kX2_caseAtRank s0)) (s : JS) (x2 : Int32) (x3 : Int32) (x4 : Int32) (x5 : Int32) (x6 : Int32) (hI_s_k : InvK s.k) (hF_s_k : FrK [137, 138, 139, 140] s0.k s.k) (h_x2l : 0 ≤ x2.toInt) (h_x2u : x2.toInt ≤ 19) (h_x3l : 1 ≤ x3.toInt) (h_x3u : x3.toInt ≤ 216) (h_x4l : 1 ≤ x4.toInt) (h_x4u : x4.toInt ≤ 36) (h_x6l : 0 ≤ x6.toInt) (h_x6u : x6.toInt ≤ 36) (hM35 : (36 - x6.toInt).toNat ≤ M35) : Ok (kX2_caseAtRank_35 k35 s x2 x3 x4 x5 x6) (Q_kX2_caseAtRank s0) := by
  unfold kX2_caseAtRank_35
  refine ok_ite (fun c_1 => ?_) (fun c_1 => ?_)
  · have c_1 := tn_le (a := (x4).toInt) (b := (x6).toInt) rfl rfl c_1
    refine ok_grd (vpb_ok (by omega) (by omega)) ?_
    exact ok_some ⟨hI_s_k, hF_s_k, (ti_rng _).1, (ti_rng _).2⟩
  · have c_1 := tn_nle (a := (x4).toInt) (b := (x6).toInt) rfl rfl c_1
    have l_0 : (0 : Int32).toInt = 0 := by decide
    exact okL_kX2_caseAtRank_45 s0 k35 M35 hk35 fu _ _ _ _ _ _ _ (by unfold fu; omega) hI_s_k hF_s_k (by omega) (by omega) (by omega) (by omega) (by omega) (by omega) (by omega) (by omega) (by decide) (by decide) (by omega)
theorem okL_kX2_caseAtRank_35 (s0 : JS)  : ∀ (n : Nat) (s : JS) (x2 : Int32) (x3 : Int32) (x4 : Int32) (x5 : Int32) (x6 : Int32), (36 - x6.toInt).toNat < n → InvK s.k → FrK [137, 138, 139, 140] s0.k s.k → 0 ≤ x2.toInt → x2.toInt ≤ 19 → 1 ≤ x3.toInt → x3.toInt ≤ 216 → 1 ≤ x4.toInt → x4.toInt ≤ 36 → 0 ≤ x6.toInt → x6.toInt ≤ 36 → Ok (kX2_caseAtRank_35L  n s x2 x3 x4 x5 x6) (Q_kX2_caseAtRank s0) := by
  intro n
  induction n with
  | zero => intro s x2 x3 x4 x5 x6 hn; omega
  | succ n ih =>
    intro s x2 x3 x4 x5 x6 hn hI_s_k hF_s_k h_x2l h_x2u h_x3l h_x3u h_x4l h_x4u h_x6l h_x6u 
    exact ok_kX2_caseAtRank_35 s0 (kX2_caseAtRank_35L  n) ((36 - x6.toInt).toNat) (fun zs zx2 zx3 zx4 zx5 zx6 g0 g1 g2 g3 g4 g5 g6 g7 g8 g9  hm => ih zs zx2 zx3 zx4 zx5 zx6 (by omega) g0 g1 g2 g3 g4 g5 g6 g7 g8 g9 ) s x2 x3 x4 x5 x6 hI_s_k hF_s_k h_x2l h_x2u h_x3l h_x3u h_x4l h_x4u h_x6l h_x6u (Nat.le_refl _)
set_option maxHeartbeats 1000000 in
theorem ok_kX2_caseAtRankB (s0 : JS)  (s : JS) (x2 : Int32) (hI_s_k : InvK s.k) (hF_s_k : FrK [137, 138, 139, 140] s0.k s.k) (h_x2l : 0 ≤ x2.toInt) (h_x2u : x2.toInt ≤ 19)  : Ok (kX2_caseAtRank  s x2) (Q_kX2_caseAtRank s0) := by
  unfold kX2_caseAtRank
  refine ok_bindI (ok_kX2_fillNear _  hI_s_k) (fun r2 s1 hc_1 => ?_)
  have hI_s1_k : InvK s1.k := hc_1.1
  have hFc_s1_k : FrK [137] s.k s1.k := hc_1.2.1
  have hF_s1_k : FrK [137, 138, 139, 140] s0.k s1.k := hF_s_k.trans hFc_s1_k (by decide)
  have hl_r2 : 1 ≤ r2.toInt := hc_1.2.2.1
  have hu_r2 : r2.toInt ≤ 216 := hc_1.2.2.2
  refine ok_bindI (ok_kX2_fillFar _  hI_s1_k) (fun r4 s3 hc_2 => ?_)
  have hI_s3_k : InvK s3.k := hc_2.1
  have hFc_s3_k : FrK [138] s1.k s3.k := hc_2.2.1
  have hF_s3_k : FrK [137, 138, 139, 140] s0.k s3.k := hF_s1_k.trans hFc_s3_k (by decide)
  have hl_r4 : 1 ≤ r4.toInt := hc_2.2.2.1
  have hu_r4 : r4.toInt ≤ 36 := hc_2.2.2.2
  refine ok_bindP (ok_kJ7_fill_53178_20 _ _ (by decide) (by decide)) (fun s5 hc_3 => ?_)
  refine ok_let (fun s6 hs6 => ?_)
  have hI_s6_k : InvK s6.k := by rw [← hs6]; exact hI_s3_k.saF (k := 40) rfl rfl
  have hF_s6_k : FrK [137, 138, 139, 140] s0.k s6.k := by rw [← hs6]; exact hF_s3_k.sa (k := 40) (by decide)
  refine ok_bindP (ok_kJ7_fill_53178_20 _ _ (by decide) (by decide)) (fun s8 hc_4 => ?_)
  refine ok_let (fun s9 hs9 => ?_)
  have hI_s9_k : InvK s9.k := by rw [← hs9]; exact hI_s6_k.saF (k := 39) rfl rfl
  have hF_s9_k : FrK [137, 138, 139, 140] s0.k s9.k := by rw [← hs9]; exact hF_s6_k.sa (k := 39) (by decide)
  have l_0 : (0 : Int32).toInt = 0 := by decide
  exact okL_kX2_caseAtRank_35 s0  fu _ _ _ _ _ _ (by unfold fu; omega) hI_s9_k hF_s9_k (by omega) (by omega) (by omega) (by omega) (by omega) (by omega) (by decide) (by decide) 
theorem ok_kX2_caseAtRank (s : JS) (x2 : Int32) (hI_s_k : InvK s.k) (h_x2l : 0 ≤ x2.toInt) (h_x2u : x2.toInt ≤ 19) : Ok (kX2_caseAtRank s x2) (Q_kX2_caseAtRank s) := ok_kX2_caseAtRankB s s x2 hI_s_k FrK.rfl h_x2l h_x2u
abbrev Q_kX2_unfind (s0 : JS) (y : JS) : Prop := InvK y.k ∧ FrK [] s0.k y.k
set_option maxHeartbeats 1000000 in
theorem ok_kX2_unfind_28 (s0 : JS) (k2 : JS → Int32 → Int32 → Option (JS)) (M2 : Nat) (hk2 : ∀ (s : JS) (x2 : Int32) (x3 : Int32), InvK s.k → FrK [] s0.k s.k → 0 ≤ x3.toInt → x3.toInt ≤ 5 → (5 - x3.toInt).toNat < M2 → Ok (k2 s x2 x3) (Q_kX2_unfind s0)) (s : JS) (x2 : Int32) (x3 : Int32) (hI_s_k : InvK s.k) (hF_s_k : FrK [] s0.k s.k) (h_x3l : 0 ≤ x3.toInt) (h_x3u : x3.toInt ≤ 4) (hM2 : (5 - x3.toInt).toNat ≤ M2) : Ok (kX2_unfind_28 k2 s x2 x3) (Q_kX2_unfind s0) := by
  unfold kX2_unfind_28
  have a_1 : ((x3 + 1)).toInt = (x3).toInt + 1 := tn_add rfl (by decide) (by omega) (by omega)
  exact hk2 _ _ _ hI_s_k hF_s_k (by omega) (by omega) (by omega)
set_option maxHeartbeats 1000000 in
theorem ok_kX2_unfind_2 (s0 : JS) (k2 : JS → Int32 → Int32 → Option (JS)) (M2 : Nat) (hk2 : ∀ (s : JS) (x2 : Int32) (x3 : Int32), InvK s.k → FrK [] s0.k s.k → 0 ≤ x3.toInt → x3.toInt ≤ 5 → (5 - x3.toInt).toNat < M2 → Ok (k2 s x2 x3) (Q_kX2_unfind s0)) (s : JS) (x2 : Int32) (x3 : Int32) (hI_s_k : InvK s.k) (hF_s_k : FrK [] s0.k s.k) (h_x3l : 0 ≤ x3.toInt) (h_x3u : x3.toInt ≤ 5) (hM2 : (5 - x3.toInt).toNat ≤ M2) : Ok (kX2_unfind_2 k2 s x2 x3) (Q_kX2_unfind s0) := by
  unfold kX2_unfind_2
  have a_1 : 0 ≤ (s.k.v 1).toInt ∧ (s.k.v 1).toInt ≤ 5 := hI_s_k.1 1
  refine ok_ite (fun c_2 => ?_) (fun c_2 => ?_)
  · have c_2 := tn_le (a := ((s.k.v 1)).toInt) (b := (x3).toInt) rfl rfl c_2
    exact ok_some ⟨hI_s_k, hF_s_k⟩
  · have c_2 := tn_nle (a := ((s.k.v 1)).toInt) (b := (x3).toInt) rfl rfl c_2
    refine ok_bindP (ok_kX10_has _ _ ) (fun r2 hc_3 => ?_)
    have hl_r2 : 0 ≤ r2.toInt := hc_3.1
    have hu_r2 : r2.toInt ≤ 1 := hc_3.2
    refine ok_ite (fun c_4 => ?_) (fun c_4 => ?_)
    · have c_4 := tn_eq (a := (r2).toInt) (b := 0) rfl (by decide) c_4
      exact ok_kX2_unfind_28 s0 k2 M2 hk2 _ _ _ hI_s_k hF_s_k (by omega) (by omega) (by omega)
    · have c_4 := tn_ne (a := (r2).toInt) (b := 0) rfl (by decide) c_4
      refine ok_grd (vpb_ok (by omega) (by omega)) ?_
      refine ok_let (fun s5 hs5 => ?_)
      have hI_s5_k : InvK s5.k := by rw [← hs5]; exact hI_s_k
      have hF_s5_k : FrK [] s0.k s5.k := by rw [← hs5]; exact hF_s_k
      exact ok_kX2_unfind_28 s0 k2 M2 hk2 _ _ _ hI_s5_k hF_s5_k (by omega) (by omega) (by omega)
theorem okL_kX2_unfind_2 (s0 : JS)  : ∀ (n : Nat) (s : JS) (x2 : Int32) (x3 : Int32), (5 - x3.toInt).toNat < n → InvK s.k → FrK [] s0.k s.k → 0 ≤ x3.toInt → x3.toInt ≤ 5 → Ok (kX2_unfind_2L  n s x2 x3) (Q_kX2_unfind s0) := by
  intro n
  induction n with
  | zero => intro s x2 x3 hn; omega
  | succ n ih =>
    intro s x2 x3 hn hI_s_k hF_s_k h_x3l h_x3u 
    exact ok_kX2_unfind_2 s0 (kX2_unfind_2L  n) ((5 - x3.toInt).toNat) (fun zs zx2 zx3 g0 g1 g2 g3  hm => ih zs zx2 zx3 (by omega) g0 g1 g2 g3 ) s x2 x3 hI_s_k hF_s_k h_x3l h_x3u (Nat.le_refl _)
set_option maxHeartbeats 1000000 in
theorem ok_kX2_unfindB (s0 : JS)  (s : JS) (x2 : Int32) (hI_s_k : InvK s.k) (hF_s_k : FrK [] s0.k s.k)  : Ok (kX2_unfind  s x2) (Q_kX2_unfind s0) := by
  unfold kX2_unfind
  have l_0 : (0 : Int32).toInt = 0 := by decide
  exact okL_kX2_unfind_2 s0  fu _ _ _ (by unfold fu; omega) hI_s_k hF_s_k (by decide) (by decide) 
theorem ok_kX2_unfind (s : JS) (x2 : Int32) (hI_s_k : InvK s.k) : Ok (kX2_unfind s x2) (Q_kX2_unfind s) := ok_kX2_unfindB s s x2 hI_s_k FrK.rfl
abbrev Q_kX3_remember (s0 : PS) (y : PS) : Prop := InvG y.g
set_option maxHeartbeats 1000000 in
theorem ok_kX3_rememberB (s0 : PS)  (s : PS) (hI_s_g : InvG s.g)  : Ok (kX3_remember  s) (Q_kX3_remember s0) := by
  unfold kX3_remember
  have a_1 : 0 ≤ (s.g.v 3).toInt ∧ (s.g.v 3).toInt ≤ 39 := hI_s_g.1 3
  have a_2 : 0 ≤ (s.g.v 4).toInt ∧ (s.g.v 4).toInt ≤ 40 := hI_s_g.1 4
  have a_3 : (((s.g.v 3) + (s.g.v 4))).toInt = ((s.g.v 3)).toInt + ((s.g.v 4)).toInt := tn_add rfl rfl (by omega) (by omega)
  have a_4 : ((((s.g.v 3) + (s.g.v 4)) - ((s.g.v 3) + (s.g.v 4)) / 40 * 40)).toInt = (((s.g.v 3) + (s.g.v 4))).toInt % 40 := ti_remc (c := 40) (by decide) (by omega) (by decide)
  refine ok_grd (vpb_ok (by omega) (by omega)) ?_
  refine ok_bindP (ok_kX6_copyFrom _  ) (fun s2 hc_5 => ?_)
  refine ok_let (fun s3 hs3 => ?_)
  have hI_s3_g : InvG s3.g := by rw [← hs3]; exact hI_s_g
  have a_6 : (s3.g.v 4).toInt = (s.g.v 4).toInt := congrArg Int32.toInt (show s3.g.v 4 = s.g.v 4 by rw [← hs3]; rfl)
  refine ok_ite (fun c_7 => ?_) (fun c_7 => ?_)
  · have c_7 := tn_le (a := 40) (b := ((s3.g.v 4)).toInt) (by decide) rfl c_7
    refine ok_let (fun s6 hs6 => ?_)
    have a_8 : (s3.g.v 3).toInt = (s.g.v 3).toInt := congrArg Int32.toInt (show s3.g.v 3 = s.g.v 3 by rw [← hs3]; rfl)
    have a_9 : (((s3.g.v 3) + 1)).toInt = ((s3.g.v 3)).toInt + 1 := tn_add rfl (by decide) (by omega) (by omega)
    have a_10 : ((((s3.g.v 3) + 1) - ((s3.g.v 3) + 1) / 40 * 40)).toInt = (((s3.g.v 3) + 1)).toInt % 40 := ti_remc (c := 40) (by decide) (by omega) (by decide)
    have hI_s6_g : InvG s6.g := by rw [← hs6]; exact hI_s3_g.sv (k := 3) (show (0 : Int) ≤ ((((s3.g.v 3) + 1) - ((s3.g.v 3) + 1) / 40 * 40)).toInt by omega) (show ((((s3.g.v 3) + 1) - ((s3.g.v 3) + 1) / 40 * 40)).toInt ≤ (39 : Int) by omega)
    exact ok_some (hI_s6_g)
  · have c_7 := tn_nle (a := 40) (b := ((s3.g.v 4)).toInt) (by decide) rfl c_7
    refine ok_let (fun s8 hs8 => ?_)
    have a_11 : (((s3.g.v 4) + 1)).toInt = ((s3.g.v 4)).toInt + 1 := tn_add rfl (by decide) (by omega) (by omega)
    have hI_s8_g : InvG s8.g := by rw [← hs8]; exact hI_s3_g.sv (k := 4) (show (0 : Int) ≤ (((s3.g.v 4) + 1)).toInt by omega) (show (((s3.g.v 4) + 1)).toInt ≤ (40 : Int) by omega)
    exact ok_some (hI_s8_g)
theorem ok_kX3_remember (s : PS) (hI_s_g : InvG s.g) : Ok (kX3_remember s) (Q_kX3_remember s) := ok_kX3_rememberB s s hI_s_g
abbrev Q_kX3_takeBack (s0 : PS) (y : Int32 × PS) : Prop := InvG y.2.g ∧ 0 ≤ y.1.toInt ∧ y.1.toInt ≤ 1
set_option maxHeartbeats 1000000 in
theorem ok_kX3_takeBackB (s0 : PS)  (s : PS) (hI_s_g : InvG s.g)  : Ok (kX3_takeBack  s) (Q_kX3_takeBack s0) := by
  unfold kX3_takeBack
  have a_1 : 0 ≤ (s.g.v 4).toInt ∧ (s.g.v 4).toInt ≤ 40 := hI_s_g.1 4
  refine ok_ite (fun c_2 => ?_) (fun c_2 => ?_)
  · have c_2 := tn_eq (a := ((s.g.v 4)).toInt) (b := 0) rfl (by decide) c_2
    exact ok_some ⟨hI_s_g, by show 0 ≤ (0 : Int32).toInt; decide, by show (0 : Int32).toInt ≤ 1; decide⟩
  · have c_2 := tn_ne (a := ((s.g.v 4)).toInt) (b := 0) rfl (by decide) c_2
    refine ok_let (fun s2 hs2 => ?_)
    have a_3 : (((s.g.v 4) - 1)).toInt = ((s.g.v 4)).toInt - 1 := tn_sub rfl (by decide) (by omega) (by omega)
    have hI_s2_g : InvG s2.g := by rw [← hs2]; exact hI_s_g.sv (k := 4) (show (0 : Int) ≤ (((s.g.v 4) - 1)).toInt by omega) (show (((s.g.v 4) - 1)).toInt ≤ (40 : Int) by omega)
    have a_4 : 0 ≤ (s.g.v 3).toInt ∧ (s.g.v 3).toInt ≤ 39 := hI_s_g.1 3
    have a_5 : (s2.g.v 3).toInt = (s.g.v 3).toInt := congrArg Int32.toInt (show s2.g.v 3 = s.g.v 3 by rw [← hs2]; rfl)
    have a_6 : (s2.g.v 4).toInt = (((s.g.v 4) - 1)).toInt := (congrArg Int32.toInt (show s2.g.v 4 = ((s.g.v 4) - 1) by rw [← hs2]; rfl)).trans rfl
    have a_7 : (((s2.g.v 3) + (s2.g.v 4))).toInt = ((s2.g.v 3)).toInt + ((s2.g.v 4)).toInt := tn_add rfl rfl (by omega) (by omega)
    have a_8 : ((((s2.g.v 3) + (s2.g.v 4)) - ((s2.g.v 3) + (s2.g.v 4)) / 40 * 40)).toInt = (((s2.g.v 3) + (s2.g.v 4))).toInt % 40 := ti_remc (c := 40) (by decide) (by omega) (by decide)
    refine ok_grd (vpb_ok (by omega) (by omega)) ?_
    refine ok_bindP (ok_kX6_copyFrom _  ) (fun s5 hc_9 => ?_)
    refine ok_let (fun s6 hs6 => ?_)
    have hI_s6_g : InvG s6.g := by rw [← hs6]; exact hI_s2_g
    exact ok_some ⟨hI_s6_g, by show 0 ≤ (1 : Int32).toInt; decide, by show (1 : Int32).toInt ≤ 1; decide⟩
theorem ok_kX3_takeBack (s : PS) (hI_s_g : InvG s.g) : Ok (kX3_takeBack s) (Q_kX3_takeBack s) := ok_kX3_takeBackB s s hI_s_g
abbrev Q_kX3_keepIn (s0 : PS) (y : Int32 × PS) : Prop := InvG y.2.g ∧ 0 ≤ y.1.toInt ∧ y.1.toInt ≤ 1
set_option maxHeartbeats 1000000 in
theorem ok_kX3_keepInB (s0 : PS)  (s : PS) (x1 : Int32) (hI_s_g : InvG s.g)  : Ok (kX3_keepIn  s x1) (Q_kX3_keepIn s0) := by
  unfold kX3_keepIn
  refine ok_ite (fun c_1 => ?_) (fun c_1 => ?_)
  · have c_1 := tn_lt (a := (x1).toInt) (b := 0) rfl (by decide) c_1
    exact ok_some ⟨hI_s_g, by show 0 ≤ (0 : Int32).toInt; decide, by show (0 : Int32).toInt ≤ 1; decide⟩
  · have c_1 := tn_nlt (a := (x1).toInt) (b := 0) rfl (by decide) c_1
    refine ok_ite (fun c_2 => ?_) (fun c_2 => ?_)
    · have c_2 := tn_lt (a := (x1).toInt) (b := 3) rfl (by decide) c_2
      refine ok_grd (vpb_ok (by omega) (by omega)) ?_
      refine ok_bindP (ok_kX6_copyFrom _  ) (fun s4 hc_3 => ?_)
      refine ok_let (fun s5 hs5 => ?_)
      have hI_s5_g : InvG s5.g := by rw [← hs5]; exact hI_s_g
      refine ok_grd (vpb_ok (by omega) (by omega)) ?_
      refine ok_let (fun s8 hs8 => ?_)
      have hI_s8_g : InvG s8.g := by rw [← hs8]; exact hI_s5_g.sfF (k := 4) rfl rfl
      exact ok_some ⟨hI_s8_g, by show 0 ≤ (1 : Int32).toInt; decide, by show (1 : Int32).toInt ≤ 1; decide⟩
    · have c_2 := tn_nlt (a := (x1).toInt) (b := 3) rfl (by decide) c_2
      exact ok_some ⟨hI_s_g, by show 0 ≤ (0 : Int32).toInt; decide, by show (0 : Int32).toInt ≤ 1; decide⟩
theorem ok_kX3_keepIn (s : PS) (x1 : Int32) (hI_s_g : InvG s.g) : Ok (kX3_keepIn s x1) (Q_kX3_keepIn s) := ok_kX3_keepInB s s x1 hI_s_g
abbrev Q_kX3_goOnFrom (s0 : PS) (y : Int32 × PS) : Prop := InvG y.2.g ∧ 0 ≤ y.1.toInt ∧ y.1.toInt ≤ 1
set_option maxHeartbeats 1000000 in
theorem ok_kX3_goOnFromB (s0 : PS)  (s : PS) (x1 : Int32) (hI_s_g : InvG s.g)  : Ok (kX3_goOnFrom  s x1) (Q_kX3_goOnFrom s0) := by
  unfold kX3_goOnFrom
  refine ok_ite (fun c_1 => ?_) (fun c_1 => ?_)
  · have c_1 := tn_lt (a := (x1).toInt) (b := 0) rfl (by decide) c_1
    exact ok_some ⟨hI_s_g, by show 0 ≤ (0 : Int32).toInt; decide, by show (0 : Int32).toInt ≤ 1; decide⟩
  · have c_1 := tn_nlt (a := (x1).toInt) (b := 0) rfl (by decide) c_1
    refine ok_ite (fun c_2 => ?_) (fun c_2 => ?_)
    · have c_2 := tn_le (a := 3) (b := (x1).toInt) (by decide) rfl c_2
      exact ok_some ⟨hI_s_g, by show 0 ≤ (0 : Int32).toInt; decide, by show (0 : Int32).toInt ≤ 1; decide⟩
    · have c_2 := tn_nle (a := 3) (b := (x1).toInt) (by decide) rfl c_2
      refine ok_grd (vpb_ok (by omega) (by omega)) ?_
      refine ok_ite (fun c_3 => ?_) (fun c_3 => ?_)
      · have c_3 := tn_eq (a := (((s.g.f 4) (Int32.toNatClampNeg x1))).toInt) (b := 0) rfl (by decide) c_3
        exact ok_some ⟨hI_s_g, by show 0 ≤ (0 : Int32).toInt; decide, by show (0 : Int32).toInt ≤ 1; decide⟩
      · have c_3 := tn_ne (a := (((s.g.f 4) (Int32.toNatClampNeg x1))).toInt) (b := 0) rfl (by decide) c_3
        refine ok_grd (vpb_ok (by omega) (by omega)) ?_
        refine ok_bindP (ok_kX6_copyFrom _  ) (fun s6 hc_4 => ?_)
        refine ok_let (fun s7 hs7 => ?_)
        have hI_s7_g : InvG s7.g := by rw [← hs7]; exact hI_s_g
        refine ok_let (fun s9 hs9 => ?_)
        have hI_s9_g : InvG s9.g := by rw [← hs9]; exact hI_s7_g.sv (k := 4) (show (0 : Int) ≤ (0 : Int32).toInt by decide) (show (0 : Int32).toInt ≤ (40 : Int) by decide)
        exact ok_some ⟨hI_s9_g, by show 0 ≤ (1 : Int32).toInt; decide, by show (1 : Int32).toInt ≤ 1; decide⟩
theorem ok_kX3_goOnFrom (s : PS) (x1 : Int32) (hI_s_g : InvG s.g) : Ok (kX3_goOnFrom s x1) (Q_kX3_goOnFrom s) := ok_kX3_goOnFromB s s x1 hI_s_g
abbrev Q_kX4_readParty (s0 : KS) (y : KS) : Prop := InvK y ∧ FrK [9, 15, 16, 17, 18, 19, 119, 120, 129] s0 y
set_option maxHeartbeats 1000000 in
theorem ok_kX4_readParty_73 (s0 : KS)  (s : KS) (x1 : Int64) (hI_s : InvK s) (hF_s : FrK [9, 15, 16, 17, 18, 19, 119, 120, 129] s0 s) (h_v9u : (s.v 9).toInt ≤ 5)  : Ok (kX4_readParty_73  s x1) (Q_kX4_readParty s0) := by
  unfold kX4_readParty_73
  refine ok_bindP (ok_kX4_take _ _ hI_s) (fun s1 hc_1 => ?_)
  have hI_s1 : InvK s1 := hc_1.1
  have hFc_s1 : FrK [15, 16, 17] s s1 := hc_1.2
  have hF_s1 : FrK [9, 15, 16, 17, 18, 19, 119, 120, 129] s0 s1 := hF_s.trans hFc_s1 (by decide)
  have a_2 : 0 ≤ (s.v 9).toInt ∧ (s.v 9).toInt ≤ 6 := hI_s.1 9
  have a_3 : (s1.v 9).toInt = (s.v 9).toInt := congrArg Int32.toInt (hFc_s1.1 9 (by decide))
  refine ok_grd (vpb_ok (by omega) (by omega)) ?_
  refine ok_let (fun s3 hs3 => ?_)
  have hI_s3 : InvK s3 := by rw [← hs3]; exact hI_s1.sg
  have hF_s3 : FrK [9, 15, 16, 17, 18, 19, 119, 120, 129] s0 s3 := by rw [← hs3]; exact hF_s1.sg (k := 29) (by decide)
  refine ok_bindI (ok_kX4_takeInt _ _ hI_s3 (by decide) (by decide)) (fun r6 s5 hc_4 => ?_)
  have hI_s5 : InvK s5 := hc_4.1
  have hFc_s5 : FrK [15, 16, 17, 18, 19] s3 s5 := hc_4.2.1
  have hF_s5 : FrK [9, 15, 16, 17, 18, 19, 119, 120, 129] s0 s5 := hF_s3.trans hFc_s5 (by decide)
  have a_5 : (s3.v 9).toInt = (s1.v 9).toInt := congrArg Int32.toInt (show s3.v 9 = s1.v 9 by rw [← hs3]; rfl)
  refine ok_grd (vpb_ok (by omega) (by omega)) ?_
  refine ok_let (fun s8 hs8 => ?_)
  have hI_s8 : InvK s8 := by rw [← hs8]; exact hI_s5.sfF (k := 19) rfl rfl
  have hF_s8 : FrK [9, 15, 16, 17, 18, 19, 119, 120, 129] s0 s8 := by rw [← hs8]; exact hF_s5.sf (k := 19) (by decide)
  refine ok_bindI (ok_kX4_takeInt _ _ hI_s8 (by decide) (by decide)) (fun r11 s10 hc_6 => ?_)
  have hI_s10 : InvK s10 := hc_6.1
  have hFc_s10 : FrK [15, 16, 17, 18, 19] s8 s10 := hc_6.2.1
  have hF_s10 : FrK [9, 15, 16, 17, 18, 19, 119, 120, 129] s0 s10 := hF_s8.trans hFc_s10 (by decide)
  have a_7 : (s5.v 9).toInt = (s3.v 9).toInt := congrArg Int32.toInt (hFc_s5.1 9 (by decide))
  have a_8 : (s8.v 9).toInt = (s5.v 9).toInt := congrArg Int32.toInt (show s8.v 9 = s5.v 9 by rw [← hs8]; rfl)
  refine ok_grd (vpb_ok (by omega) (by omega)) ?_
  refine ok_let (fun s13 hs13 => ?_)
  have hI_s13 : InvK s13 := by rw [← hs13]; exact hI_s10.sfF (k := 20) rfl rfl
  have hF_s13 : FrK [9, 15, 16, 17, 18, 19, 119, 120, 129] s0 s13 := by rw [← hs13]; exact hF_s10.sf (k := 20) (by decide)
  refine ok_bindP (ok_kX4_take _ _ hI_s13) (fun s15 hc_9 => ?_)
  have hI_s15 : InvK s15 := hc_9.1
  have hFc_s15 : FrK [15, 16, 17] s13 s15 := hc_9.2
  have hF_s15 : FrK [9, 15, 16, 17, 18, 19, 119, 120, 129] s0 s15 := hF_s13.trans hFc_s15 (by decide)
  refine ok_let (fun s16 hs16 => ?_)
  have a_10 : (s10.v 9).toInt = (s8.v 9).toInt := congrArg Int32.toInt (hFc_s10.1 9 (by decide))
  have a_11 : (s13.v 9).toInt = (s10.v 9).toInt := congrArg Int32.toInt (show s13.v 9 = s10.v 9 by rw [← hs13]; rfl)
  have a_12 : (s15.v 9).toInt = (s13.v 9).toInt := congrArg Int32.toInt (hFc_s15.1 9 (by decide))
  have a_13 : (((s15.v 9) + 1)).toInt = ((s15.v 9)).toInt + 1 := tn_add rfl (by decide) (by omega) (by omega)
  have hI_s16 : InvK s16 := by rw [← hs16]; exact hI_s15.sv (k := 9) (show (0 : Int) ≤ (((s15.v 9) + 1)).toInt by omega) (show (((s15.v 9) + 1)).toInt ≤ (6 : Int) by omega)
  have hF_s16 : FrK [9, 15, 16, 17, 18, 19, 119, 120, 129] s0 s16 := by rw [← hs16]; exact hF_s15.sv (k := 9) (by decide)
  exact ok_some ⟨hI_s16, hF_s16⟩
set_option maxHeartbeats 1000000 in
theorem ok_kX4_readPartyB (s0 : KS)  (s : KS) (hI_s : InvK s) (hF_s : FrK [9, 15, 16, 17, 18, 19, 119, 120, 129] s0 s)  : Ok (kX4_readParty  s) (Q_kX4_readParty s0) := by
  unfold kX4_readParty
  have a_1 : 0 ≤ (s.v 9).toInt ∧ (s.v 9).toInt ≤ 6 := hI_s.1 9
  refine ok_ite (fun c_2 => ?_) (fun c_2 => ?_)
  · have c_2 := tn_lt (a := ((s.v 9)).toInt) (b := 6) rfl (by decide) c_2
    refine ok_bindP (ok_kX4_take _ _ hI_s) (fun s2 hc_3 => ?_)
    have hI_s2 : InvK s2 := hc_3.1
    have hFc_s2 : FrK [15, 16, 17] s s2 := hc_3.2
    have hF_s2 : FrK [9, 15, 16, 17, 18, 19, 119, 120, 129] s0 s2 := hF_s.trans hFc_s2 (by decide)
    have a_4 : 0 ≤ (s2.v 15).toInt ∧ (s2.v 15).toInt ≤ 400 := hI_s2.1 15
    refine ok_grd (vpb_ok (by omega) (by omega)) ?_
    refine ok_bindI (ok_kX4_isAt _ _ hI_s2) (fun r5 s4 hc_5 => ?_)
    have hI_s4 : InvK s4 := hc_5.1
    have hFc_s4 : FrK [] s2 s4 := hc_5.2.1
    have hF_s4 : FrK [9, 15, 16, 17, 18, 19, 119, 120, 129] s0 s4 := hF_s2.trans hFc_s4 (by decide)
    have hl_r5 : 0 ≤ r5.toInt := hc_5.2.2.1
    have hu_r5 : r5.toInt ≤ 1 := hc_5.2.2.2
    refine ok_ite (fun c_6 => ?_) (fun c_6 => ?_)
    · have c_6 := tn_eq (a := (r5).toInt) (b := 0) rfl (by decide) c_6
      have a_7 : (s2.v 9).toInt = (s.v 9).toInt := congrArg Int32.toInt (hFc_s2.1 9 (by decide))
      have a_8 : (s4.v 9).toInt = (s2.v 9).toInt := congrArg Int32.toInt (hFc_s4.1 9 (by decide))
      exact ok_kX4_readParty_73 s0  _ _ hI_s4 hF_s4 (by omega) 
    · have c_6 := tn_ne (a := (r5).toInt) (b := 0) rfl (by decide) c_6
      refine ok_bindI (ok_kX4_isTold _ _ hI_s4) (fun r8 s7 hc_9 => ?_)
      have hI_s7 : InvK s7 := hc_9.1
      have hFc_s7 : FrK [] s4 s7 := hc_9.2.1
      have hF_s7 : FrK [9, 15, 16, 17, 18, 19, 119, 120, 129] s0 s7 := hF_s4.trans hFc_s7 (by decide)
      have hl_r8 : 0 ≤ r8.toInt := hc_9.2.2.1
      have hu_r8 : r8.toInt ≤ 1 := hc_9.2.2.2
      refine ok_ite (fun c_10 => ?_) (fun c_10 => ?_)
      · have c_10 := tn_eq (a := (r8).toInt) (b := 0) rfl (by decide) c_10
        have a_11 : (s2.v 9).toInt = (s.v 9).toInt := congrArg Int32.toInt (hFc_s2.1 9 (by decide))
        have a_12 : (s4.v 9).toInt = (s2.v 9).toInt := congrArg Int32.toInt (hFc_s4.1 9 (by decide))
        have a_13 : (s7.v 9).toInt = (s4.v 9).toInt := congrArg Int32.toInt (hFc_s7.1 9 (by decide))
        exact ok_kX4_readParty_73 s0  _ _ hI_s7 hF_s7 (by omega) 
      · have c_10 := tn_ne (a := (r8).toInt) (b := 0) rfl (by decide) c_10
        have a_14 : (s4.v 15).toInt = (s2.v 15).toInt := congrArg Int32.toInt (hFc_s4.1 15 (by decide))
        have a_15 : (s7.v 15).toInt = (s4.v 15).toInt := congrArg Int32.toInt (hFc_s7.1 15 (by decide))
        refine ok_grd (vpb_ok (by omega) (by omega)) ?_
        refine ok_bindP (ok_kX4_failLater _ _ _ hI_s7 (by decide) (by decide)) (fun s11 hc_16 => ?_)
        have hI_s11 : InvK s11 := hc_16.1
        have hFc_s11 : FrK [18, 19] s7 s11 := hc_16.2
        have hF_s11 : FrK [9, 15, 16, 17, 18, 19, 119, 120, 129] s0 s11 := hF_s7.trans hFc_s11 (by decide)
        have a_17 : (s2.v 9).toInt = (s.v 9).toInt := congrArg Int32.toInt (hFc_s2.1 9 (by decide))
        have a_18 : (s4.v 9).toInt = (s2.v 9).toInt := congrArg Int32.toInt (hFc_s4.1 9 (by decide))
        have a_19 : (s7.v 9).toInt = (s4.v 9).toInt := congrArg Int32.toInt (hFc_s7.1 9 (by decide))
        have a_20 : (s11.v 9).toInt = (s7.v 9).toInt := congrArg Int32.toInt (hFc_s11.1 9 (by decide))
        exact ok_kX4_readParty_73 s0  _ _ hI_s11 hF_s11 (by omega) 
  · have c_2 := tn_nlt (a := ((s.v 9)).toInt) (b := 6) rfl (by decide) c_2
    refine ok_bindP (ok_kX4_fail _ _ hI_s (by decide) (by decide)) (fun s12 hc_21 => ?_)
    have hI_s12 : InvK s12 := hc_21.1
    have hFc_s12 : FrK [16, 17] s s12 := hc_21.2
    have hF_s12 : FrK [9, 15, 16, 17, 18, 19, 119, 120, 129] s0 s12 := hF_s.trans hFc_s12 (by decide)
    exact ok_some ⟨hI_s12, hF_s12⟩
theorem ok_kX4_readParty (s : KS) (hI_s : InvK s) : Ok (kX4_readParty s) (Q_kX4_readParty s) := ok_kX4_readPartyB s s hI_s FrK.rfl
abbrev Q_kX4_readUnit (s0 : KS) (y : KS) : Prop := InvK y ∧ FrK [12, 15, 16, 17, 122] s0 y
theorem isAt_eq {s : KS} {k : Int32} (hI : InvK s) : kX4_isAt s k = some ((if s.v 16 = 0 ∧ s.f 32 (s.v 15).toNatClampNeg = k then 1 else 0), s) := by
  have ht : 0 ≤ (s.v 15).toInt ∧ (s.v 15).toInt ≤ 400 := hI.1 15
  unfold kX4_isAt
  by_cases h : s.v 16 = 0
  · rw [if_pos h, if_pos (vpb_ok (by omega) (by omega))]
    by_cases h2 : s.f 32 (s.v 15).toNatClampNeg = k
    · rw [if_pos h2, if_pos ⟨h, h2⟩]
    · rw [if_neg h2, if_neg (fun q => h2 q.2)]
  · rw [if_neg h, if_neg (fun q => h q.1)]
theorem ok_isAt {α : Type} {s : KS} {k : Int32} {K : Int32 → KS → Option α} {Q : α → Prop} (hI : InvK s) (h1 : (s.v 16 = 0 ∧ s.f 32 (s.v 15).toNatClampNeg = k) → Ok (K 1 s) Q) (h0 : ¬ (s.v 16 = 0 ∧ s.f 32 (s.v 15).toNatClampNeg = k) → Ok (K 0 s) Q) : Ok (bindI (kX4_isAt s k) K) Q := by
  rw [isAt_eq hI]
  by_cases h : s.v 16 = 0 ∧ s.f 32 (s.v 15).toNatClampNeg = k
  · rw [if_pos h]; exact h1 h
  · rw [if_neg h]; exact h0 h
theorem k_one : ¬ (1 : Int32) = 0 := by decide
theorem ok_kX4_readUnit_114 (R : KS → Int32 → Option KS) (D : Nat) (hR : ∀ (s : KS) (x1 : Int32), InvK s → 0 ≤ x1.toInt → x1.toInt ≤ 6 → (6 - x1.toInt).toNat < D → Ok (R s x1) (fun y => InvK y ∧ FrK [12, 15, 16, 17, 122] s y)) (s0 : KS) (s : KS) (x1 : Int32) (hI_s : InvK s) (hF_s : FrK [12, 15, 16, 17, 122] s0 s) (h_x1l : 0 ≤ x1.toInt) (h_x1u : (s.v 16 = 0 ∧ s.f 32 (s.v 15).toNatClampNeg = 40) → x1.toInt ≤ 5) (hD : (6 - x1.toInt).toNat ≤ D) : Ok (kX4_readUnit_114 R s x1) (Q_kX4_readUnit s0) := by
  unfold kX4_readUnit_114
  refine ok_isAt hI_s (fun h => ?_) (fun h => ?_)
  · show Ok (if (1 : Int32) = 0 then _ else _) _
    rw [if_neg k_one]
    have h5 := h_x1u h
    refine ok_bindP (ok_kX4_take _ _ hI_s) (fun s5 hc5 => ?_)
    have hF5 : FrK [12, 15, 16, 17, 122] s0 s5 := hF_s.trans hc5.2 (by decide)
    have a : (x1 + 1).toInt = x1.toInt + 1 := tn_add rfl (by decide) (by omega) (by omega)
    refine ok_bindP (hR _ _ hc5.1 (by omega) (by omega) (by omega)) (fun s6 hc6 => ?_)
    have hF6 : FrK [12, 15, 16, 17, 122] s0 s6 := hF5.trans hc6.2 (by decide)
    refine ok_bindP (ok_kX4_take _ _ hc6.1) (fun s7 hc7 => ?_)
    exact ok_some ⟨hc7.1, hF6.trans hc7.2 (by decide)⟩
  · show Ok (if (0 : Int32) = 0 then _ else _) _
    rw [if_pos rfl]
    refine ok_bindP (ok_kX4_fail _ _ hI_s (by decide) (by decide)) (fun s4 hc4 => ?_)
    exact ok_some ⟨hc4.1, hF_s.trans hc4.2 (by decide)⟩
theorem ok_kX4_readUnit_91 (R : KS → Int32 → Option KS) (D : Nat) (hR : ∀ (s : KS) (x1 : Int32), InvK s → 0 ≤ x1.toInt → x1.toInt ≤ 6 → (6 - x1.toInt).toNat < D → Ok (R s x1) (fun y => InvK y ∧ FrK [12, 15, 16, 17, 122] s y)) (s0 : KS) (s : KS) (x1 : Int32) (hI_s : InvK s) (hF_s : FrK [12, 15, 16, 17, 122] s0 s) (h_x1l : 0 ≤ x1.toInt) (h_x1u : x1.toInt ≤ 6) (hD : (6 - x1.toInt).toNat ≤ D) : Ok (kX4_readUnit_91 R s x1) (Q_kX4_readUnit s0) := by
  unfold kX4_readUnit_91
  refine ok_isAt hI_s (fun h => ?_) (fun h => ?_)
  · show Ok (if (1 : Int32) = 0 then _ else _) _
    rw [if_neg k_one]
    refine ok_ite (fun c => ?_) (fun c => ?_)
    · have c := tn_lt (b := 6) rfl (by decide) c
      exact ok_kX4_readUnit_114 R D hR s0 s x1 hI_s hF_s h_x1l (fun _ => by omega) hD
    · refine ok_bindP (ok_kX4_fail _ _ hI_s (by decide) (by decide)) (fun s4 hc4 => ?_)
      exact ok_some ⟨hc4.1, hF_s.trans hc4.2 (by decide)⟩
  · show Ok (if (0 : Int32) = 0 then _ else _) _
    rw [if_pos rfl]
    exact ok_kX4_readUnit_114 R D hR s0 s x1 hI_s hF_s h_x1l (fun q => absurd q h) hD
set_option maxHeartbeats 1000000 in
theorem ok_kX4_readUnitB (R : KS → Int32 → Option KS) (D : Nat) (hR : ∀ (s : KS) (x1 : Int32), InvK s → 0 ≤ x1.toInt → x1.toInt ≤ 6 → (6 - x1.toInt).toNat < D → Ok (R s x1) (fun y => InvK y ∧ FrK [12, 15, 16, 17, 122] s y)) (s0 : KS)  (s : KS) (x1 : Int32) (hI_s : InvK s) (hF_s : FrK [12, 15, 16, 17, 122] s0 s) (h_x1l : 0 ≤ x1.toInt) (h_x1u : x1.toInt ≤ 6) (hD : (6 - x1.toInt).toNat ≤ D)  : Ok (kX4_readUnit R  s x1) (Q_kX4_readUnit s0) := by
  unfold kX4_readUnit
  have a_1 : 0 ≤ (s.v 15).toInt ∧ (s.v 15).toInt ≤ 400 := hI_s.1 15
  refine ok_grd (vpb_ok (by omega) (by omega)) ?_
  refine ok_bindI (ok_kX4_isAt _ _ hI_s) (fun r3 s2 hc_2 => ?_)
  have hI_s2 : InvK s2 := hc_2.1
  have hFc_s2 : FrK [] s s2 := hc_2.2.1
  have hF_s2 : FrK [12, 15, 16, 17, 122] s0 s2 := hF_s.trans hFc_s2 (by decide)
  have hl_r3 : 0 ≤ r3.toInt := hc_2.2.2.1
  have hu_r3 : r3.toInt ≤ 1 := hc_2.2.2.2
  refine ok_ite (fun c_3 => ?_) (fun c_3 => ?_)
  · have c_3 := tn_eq (a := (r3).toInt) (b := 0) rfl (by decide) c_3
    refine ok_ite (fun c_4 => ?_) (fun c_4 => ?_)
    · have c_4 := tn_lt (a := ((((s.f 32) (Int32.toNatClampNeg (s.v 15))) - 266)).toInt) (b := 0) rfl (by decide) c_4
      exact ok_kX4_readUnit_91 R D hR s0  _ _ hI_s2 hF_s2 (by omega) (by omega) (by omega) 
    · have c_4 := tn_nlt (a := ((((s.f 32) (Int32.toNatClampNeg (s.v 15))) - 266)).toInt) (b := 0) rfl (by decide) c_4
      refine ok_ite (fun c_5 => ?_) (fun c_5 => ?_)
      · have c_5 := tn_le (a := 9) (b := ((((s.f 32) (Int32.toNatClampNeg (s.v 15))) - 266)).toInt) (by decide) rfl c_5
        exact ok_kX4_readUnit_91 R D hR s0  _ _ hI_s2 hF_s2 (by omega) (by omega) (by omega) 
      · have c_5 := tn_nle (a := 9) (b := ((((s.f 32) (Int32.toNatClampNeg (s.v 15))) - 266)).toInt) (by decide) rfl c_5
        refine ok_bindP (ok_kX1_putVar _ _ hI_s2 (by omega) (by omega)) (fun s7 hc_6 => ?_)
        have hI_s7 : InvK s7 := hc_6.1
        have hFc_s7 : FrK [12, 122] s2 s7 := hc_6.2
        have hF_s7 : FrK [12, 15, 16, 17, 122] s0 s7 := hF_s2.trans hFc_s7 (by decide)
        refine ok_bindP (ok_kX4_take _ _ hI_s7) (fun s8 hc_7 => ?_)
        have hI_s8 : InvK s8 := hc_7.1
        have hFc_s8 : FrK [15, 16, 17] s7 s8 := hc_7.2
        have hF_s8 : FrK [12, 15, 16, 17, 122] s0 s8 := hF_s7.trans hFc_s8 (by decide)
        exact ok_some ⟨hI_s8, hF_s8⟩
  · have c_3 := tn_ne (a := (r3).toInt) (b := 0) rfl (by decide) c_3
    have a_8 : (s2.v 15).toInt = (s.v 15).toInt := congrArg Int32.toInt (hFc_s2.1 15 (by decide))
    refine ok_grd (vpb_ok (by omega) (by omega)) ?_
    refine ok_bindP (ok_kX1_putNumber _ _ hI_s2) (fun s10 hc_9 => ?_)
    have hI_s10 : InvK s10 := hc_9.1
    have hFc_s10 : FrK [12, 122] s2 s10 := hc_9.2
    have hF_s10 : FrK [12, 15, 16, 17, 122] s0 s10 := hF_s2.trans hFc_s10 (by decide)
    refine ok_bindP (ok_kX4_take _ _ hI_s10) (fun s11 hc_10 => ?_)
    have hI_s11 : InvK s11 := hc_10.1
    have hFc_s11 : FrK [15, 16, 17] s10 s11 := hc_10.2
    have hF_s11 : FrK [12, 15, 16, 17, 122] s0 s11 := hF_s10.trans hFc_s11 (by decide)
    exact ok_some ⟨hI_s11, hF_s11⟩
theorem ok_kX4_readUnit (R : KS → Int32 → Option KS) (D : Nat) (hR : ∀ (s : KS) (x1 : Int32), InvK s → 0 ≤ x1.toInt → x1.toInt ≤ 6 → (6 - x1.toInt).toNat < D → Ok (R s x1) (fun y => InvK y ∧ FrK [12, 15, 16, 17, 122] s y)) (s : KS) (x1 : Int32) (hI_s : InvK s) (h_x1l : 0 ≤ x1.toInt) (h_x1u : x1.toInt ≤ 6) (hD : (6 - x1.toInt).toNat ≤ D) : Ok (kX4_readUnit R s x1) (Q_kX4_readUnit s) := ok_kX4_readUnitB R D hR s s x1 hI_s FrK.rfl h_x1l h_x1u hD
abbrev Q_kX5_addUp (s0 : KS) (y : KS) : Prop := InvK y ∧ FrK [10, 117, 118] s0 y
set_option maxHeartbeats 1000000 in
theorem ok_kX5_addUp_75 (s0 : KS) (k7 : KS → Int32 → Option (KS)) (M7 : Nat) (hk7 : ∀ (s : KS) (x1 : Int32), InvK s → FrK [10, 117, 118] s0 s → 0 ≤ x1.toInt → x1.toInt ≤ 5 → (5 - x1.toInt).toNat < M7 → Ok (k7 s x1) (Q_kX5_addUp s0)) (k31 : KS → Int32 → Int32 → Option (KS)) (M31 : Nat) (hk31 : ∀ (s : KS) (x1 : Int32) (x2 : Int32), InvK s → FrK [10, 117, 118] s0 s → 0 ≤ x1.toInt → x1.toInt ≤ 4 → 0 ≤ x2.toInt → x2.toInt ≤ 6 → (5 - x1.toInt).toNat ≤ M7 → (6 - x2.toInt).toNat < M31 → Ok (k31 s x1 x2) (Q_kX5_addUp s0)) (s : KS) (x1 : Int32) (x2 : Int32) (t0 : Int32) (t1 : Int32) (t2 : Int32) (hI_s : InvK s) (hF_s : FrK [10, 117, 118] s0 s) (h_x1l : 0 ≤ x1.toInt) (h_x1u : x1.toInt ≤ 4) (h_x2l : 0 ≤ x2.toInt) (h_x2u : x2.toInt ≤ 5) (h_t2l : 0 ≤ t2.toInt) (h_t2u : t2.toInt ≤ 4) (hM7 : (5 - x1.toInt).toNat ≤ M7) (hM31 : (6 - x2.toInt).toNat ≤ M31) : Ok (kX5_addUp_75 k7 k31 s x1 x2 t0 t1 t2) (Q_kX5_addUp s0) := by
  unfold kX5_addUp_75
  refine ok_grd (vpb_ok (by omega) (by omega)) ?_
  refine ok_let (fun s2 hs2 => ?_)
  have hI_s2 : InvK s2 := by rw [← hs2]; exact hI_s.sfF (k := 18) rfl rfl
  have hF_s2 : FrK [10, 117, 118] s0 s2 := by rw [← hs2]; exact hF_s.sf (k := 18) (by decide)
  have a_1 : ((x2 + 1)).toInt = (x2).toInt + 1 := tn_add rfl (by decide) (by omega) (by omega)
  exact hk31 _ _ _ hI_s2 hF_s2 (by omega) (by omega) (by omega) (by omega) (by omega) (by omega)
set_option maxHeartbeats 1000000 in
theorem ok_kX5_addUp_31 (s0 : KS) (k7 : KS → Int32 → Option (KS)) (M7 : Nat) (hk7 : ∀ (s : KS) (x1 : Int32), InvK s → FrK [10, 117, 118] s0 s → 0 ≤ x1.toInt → x1.toInt ≤ 5 → (5 - x1.toInt).toNat < M7 → Ok (k7 s x1) (Q_kX5_addUp s0)) (k31 : KS → Int32 → Int32 → Option (KS)) (M31 : Nat) (hk31 : ∀ (s : KS) (x1 : Int32) (x2 : Int32), InvK s → FrK [10, 117, 118] s0 s → 0 ≤ x1.toInt → x1.toInt ≤ 4 → 0 ≤ x2.toInt → x2.toInt ≤ 6 → (5 - x1.toInt).toNat ≤ M7 → (6 - x2.toInt).toNat < M31 → Ok (k31 s x1 x2) (Q_kX5_addUp s0)) (s : KS) (x1 : Int32) (x2 : Int32) (hI_s : InvK s) (hF_s : FrK [10, 117, 118] s0 s) (h_x1l : 0 ≤ x1.toInt) (h_x1u : x1.toInt ≤ 4) (h_x2l : 0 ≤ x2.toInt) (h_x2u : x2.toInt ≤ 6) (hM7 : (5 - x1.toInt).toNat ≤ M7) (hM31 : (6 - x2.toInt).toNat ≤ M31) : Ok (kX5_addUp_31 k7 k31 s x1 x2) (Q_kX5_addUp s0) := by
  unfold kX5_addUp_31
  refine ok_ite (fun c_1 => ?_) (fun c_1 => ?_)
  · have c_1 := tn_le (a := 6) (b := (x2).toInt) (by decide) rfl c_1
    refine ok_let (fun s2 hs2 => ?_)
    have hI_s2 : InvK s2 := by rw [← hs2]; exact hI_s.svF (k := 10) rfl rfl
    have hF_s2 : FrK [10, 117, 118] s0 s2 := by rw [← hs2]; exact hF_s.sv (k := 10) (by decide)
    have a_2 : ((x1 + 1)).toInt = (x1).toInt + 1 := tn_add rfl (by decide) (by omega) (by omega)
    exact hk7 _ _ hI_s2 hF_s2 (by omega) (by omega) (by omega)
  · have c_1 := tn_nle (a := 6) (b := (x2).toInt) (by decide) rfl c_1
    refine ok_grd (vpb_ok (by omega) (by omega)) ?_
    refine ok_bindI (ok_kX5_oddsAt_d _ _ _ hI_s (by omega) (by omega) (by omega) (by omega)) (fun r6 s5 hc_3 => ?_)
    have hI_s5 : InvK s5 := hc_3.1
    have hFc_s5 : FrK [] s s5 := hc_3.2.1
    have hF_s5 : FrK [10, 117, 118] s0 s5 := hF_s.trans hFc_s5 (by decide)
    refine ok_grd (vpb_ok (by omega) (by omega)) ?_
    refine ok_let (fun s8 hs8 => ?_)
    have hI_s8 : InvK s8 := by rw [← hs8]; exact hI_s5.sfF (k := 17) rfl rfl
    have hF_s8 : FrK [10, 117, 118] s0 s8 := by rw [← hs8]; exact hF_s5.sf (k := 17) (by decide)
    refine ok_grd (vpb_ok (by omega) (by omega)) ?_
    refine ok_bindI (ok_kX5_oddsAt_d _ _ _ hI_s8 (by omega) (by omega) (by omega) (by omega)) (fun r12 s11 hc_4 => ?_)
    have hI_s11 : InvK s11 := hc_4.1
    have hFc_s11 : FrK [] s8 s11 := hc_4.2.1
    have hF_s11 : FrK [10, 117, 118] s0 s11 := hF_s8.trans hFc_s11 (by decide)
    refine ok_ite (fun c_5 => ?_) (fun c_5 => ?_)
    · have c_5 := tn_le (a := (r12).toInt) (b := 0) rfl (by decide) c_5
      have l_0 : (0 : Int32).toInt = 0 := by decide
      exact ok_kX5_addUp_75 s0 k7 M7 hk7 k31 M31 hk31 _ _ _ _ _ _ hI_s11 hF_s11 (by omega) (by omega) (by omega) (by omega) (by omega) (by omega) (by omega) (by omega)
    · have c_5 := tn_nle (a := (r12).toInt) (b := 0) rfl (by decide) c_5
      exact ok_kX5_addUp_75 s0 k7 M7 hk7 k31 M31 hk31 _ _ _ _ _ _ hI_s11 hF_s11 (by omega) (by omega) (by omega) (by omega) (by omega) (by omega) (by omega) (by omega)
theorem okL_kX5_addUp_31 (s0 : KS) (k7 : KS → Int32 → Option (KS)) (M7 : Nat) (hk7 : ∀ (s : KS) (x1 : Int32), InvK s → FrK [10, 117, 118] s0 s → 0 ≤ x1.toInt → x1.toInt ≤ 5 → (5 - x1.toInt).toNat < M7 → Ok (k7 s x1) (Q_kX5_addUp s0)) : ∀ (n : Nat) (s : KS) (x1 : Int32) (x2 : Int32), (6 - x2.toInt).toNat < n → InvK s → FrK [10, 117, 118] s0 s → 0 ≤ x1.toInt → x1.toInt ≤ 4 → 0 ≤ x2.toInt → x2.toInt ≤ 6 → (5 - x1.toInt).toNat ≤ M7 → Ok (kX5_addUp_31L k7 n s x1 x2) (Q_kX5_addUp s0) := by
  intro n
  induction n with
  | zero => intro s x1 x2 hn; omega
  | succ n ih =>
    intro s x1 x2 hn hI_s hF_s h_x1l h_x1u h_x2l h_x2u hM7
    exact ok_kX5_addUp_31 s0 k7 M7 hk7 (kX5_addUp_31L k7 n) ((6 - x2.toInt).toNat) (fun zs zx1 zx2 g0 g1 g2 g3 g4 g5 o7 hm => ih zs zx1 zx2 (by omega) g0 g1 g2 g3 g4 g5 o7) s x1 x2 hI_s hF_s h_x1l h_x1u h_x2l h_x2u hM7 (Nat.le_refl _)
set_option maxHeartbeats 1000000 in
theorem ok_kX5_addUp_7 (s0 : KS) (k7 : KS → Int32 → Option (KS)) (M7 : Nat) (hk7 : ∀ (s : KS) (x1 : Int32), InvK s → FrK [10, 117, 118] s0 s → 0 ≤ x1.toInt → x1.toInt ≤ 5 → (5 - x1.toInt).toNat < M7 → Ok (k7 s x1) (Q_kX5_addUp s0)) (s : KS) (x1 : Int32) (hI_s : InvK s) (hF_s : FrK [10, 117, 118] s0 s) (h_x1l : 0 ≤ x1.toInt) (h_x1u : x1.toInt ≤ 5) (hM7 : (5 - x1.toInt).toNat ≤ M7) : Ok (kX5_addUp_7 k7 s x1) (Q_kX5_addUp s0) := by
  unfold kX5_addUp_7
  have a_1 : 0 ≤ (s.v 8).toInt ∧ (s.v 8).toInt ≤ 5 := hI_s.1 8
  refine ok_ite (fun c_2 => ?_) (fun c_2 => ?_)
  · have c_2 := tn_le (a := ((s.v 8)).toInt) (b := (x1).toInt) rfl rfl c_2
    exact ok_some ⟨hI_s, hF_s⟩
  · have c_2 := tn_nle (a := ((s.v 8)).toInt) (b := (x1).toInt) rfl rfl c_2
    refine ok_grd (vpb_ok (by omega) (by omega)) ?_
    refine ok_let (fun s3 hs3 => ?_)
    have hI_s3 : InvK s3 := by rw [← hs3]; exact hI_s.sfF (k := 17) rfl rfl
    have hF_s3 : FrK [10, 117, 118] s0 s3 := by rw [← hs3]; exact hF_s.sf (k := 17) (by decide)
    refine ok_grd (vpb_ok (by omega) (by omega)) ?_
    refine ok_let (fun s6 hs6 => ?_)
    have hI_s6 : InvK s6 := by rw [← hs6]; exact hI_s3.sfF (k := 18) rfl rfl
    have hF_s6 : FrK [10, 117, 118] s0 s6 := by rw [← hs6]; exact hF_s3.sf (k := 18) (by decide)
    have l_0 : (0 : Int32).toInt = 0 := by decide
    exact okL_kX5_addUp_31 s0 k7 M7 hk7 fu _ _ _ (by unfold fu; omega) hI_s6 hF_s6 (by omega) (by omega) (by decide) (by decide) (by omega)
theorem okL_kX5_addUp_7 (s0 : KS)  : ∀ (n : Nat) (s : KS) (x1 : Int32), (5 - x1.toInt).toNat < n → InvK s → FrK [10, 117, 118] s0 s → 0 ≤ x1.toInt → x1.toInt ≤ 5 → Ok (kX5_addUp_7L  n s x1) (Q_kX5_addUp s0) := by
  intro n
  induction n with
  | zero => intro s x1 hn; omega
  | succ n ih =>
    intro s x1 hn hI_s hF_s h_x1l h_x1u 
    exact ok_kX5_addUp_7 s0 (kX5_addUp_7L  n) ((5 - x1.toInt).toNat) (fun zs zx1 g0 g1 g2 g3  hm => ih zs zx1 (by omega) g0 g1 g2 g3 ) s x1 hI_s hF_s h_x1l h_x1u (Nat.le_refl _)
set_option maxHeartbeats 1000000 in
theorem ok_kX5_addUpB (s0 : KS)  (s : KS) (hI_s : InvK s) (hF_s : FrK [10, 117, 118] s0 s)  : Ok (kX5_addUp  s) (Q_kX5_addUp s0) := by
  unfold kX5_addUp
  refine ok_let (fun s1 hs1 => ?_)
  have hI_s1 : InvK s1 := by rw [← hs1]; exact hI_s.svF (k := 10) rfl rfl
  have hF_s1 : FrK [10, 117, 118] s0 s1 := by rw [← hs1]; exact hF_s.sv (k := 10) (by decide)
  have l_0 : (0 : Int32).toInt = 0 := by decide
  exact okL_kX5_addUp_7 s0  fu _ _ (by unfold fu; omega) hI_s1 hF_s1 (by decide) (by decide) 
theorem ok_kX5_addUp (s : KS) (hI_s : InvK s) : Ok (kX5_addUp s) (Q_kX5_addUp s) := ok_kX5_addUpB s s hI_s FrK.rfl
