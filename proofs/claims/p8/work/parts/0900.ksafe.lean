abbrev Q_kJ1_canEncode_9a6ad (y : Int32) : Prop := 0 ≤ y.toInt ∧ y.toInt ≤ 1
set_option maxHeartbeats 1000000 in
theorem ok_kJ1_canEncode_9a6adB  (x0 : Int32)   : Ok (kJ1_canEncode_9a6ad  x0) Q_kJ1_canEncode_9a6ad := by
  unfold kJ1_canEncode_9a6ad
  refine ok_ite (fun c_1 => ?_) (fun c_1 => ?_)
  · have c_1 := tn_lt (a := (x0).toInt) (b := 0) rfl (by decide) c_1
    exact ok_some ⟨by show 0 ≤ (0 : Int32).toInt; decide, by show (0 : Int32).toInt ≤ 1; decide⟩
  · have c_1 := tn_nlt (a := (x0).toInt) (b := 0) rfl (by decide) c_1
    refine ok_ite (fun c_2 => ?_) (fun c_2 => ?_)
    · have c_2 := tn_lt (a := 255) (b := (x0).toInt) (by decide) rfl c_2
      exact ok_some ⟨by show 0 ≤ (0 : Int32).toInt; decide, by show (0 : Int32).toInt ≤ 1; decide⟩
    · have c_2 := tn_nlt (a := 255) (b := (x0).toInt) (by decide) rfl c_2
      exact ok_some ⟨by show 0 ≤ (1 : Int32).toInt; decide, by show (1 : Int32).toInt ≤ 1; decide⟩
theorem ok_kJ1_canEncode_9a6ad (x0 : Int32)  : Ok (kJ1_canEncode_9a6ad x0) Q_kJ1_canEncode_9a6ad := ok_kJ1_canEncode_9a6adB x0 
abbrev Q_kJ1_indexOfChar_4cfef (y : Int32) : Prop := -1 ≤ y.toInt ∧ y.toInt ≤ 8
set_option maxHeartbeats 1000000 in
theorem ok_kJ1_indexOfChar_4cfef_7 (k7 : Int32 → Int32 → Int32 → Option (Int32)) (M7 : Nat) (hk7 : ∀ (x3 : Int32) (x4 : Int32) (x5 : Int32), 9 ≤ x3.toInt → x3.toInt ≤ 9 → 0 ≤ x5.toInt → x5.toInt ≤ 9 → (9 - x5.toInt).toNat < M7 → Ok (k7 x3 x4 x5) Q_kJ1_indexOfChar_4cfef) (x3 : Int32) (x4 : Int32) (x5 : Int32) (h_x3l : 9 ≤ x3.toInt) (h_x3u : x3.toInt ≤ 9) (h_x5l : 0 ≤ x5.toInt) (h_x5u : x5.toInt ≤ 9) (hM7 : (9 - x5.toInt).toNat ≤ M7) : Ok (kJ1_indexOfChar_4cfef_7 k7 x3 x4 x5) Q_kJ1_indexOfChar_4cfef := by
  unfold kJ1_indexOfChar_4cfef_7
  refine ok_ite (fun c_1 => ?_) (fun c_1 => ?_)
  · have c_1 := tn_le (a := (x3).toInt) (b := (x5).toInt) rfl rfl c_1
    exact ok_some ⟨by show -1 ≤ ((-1) : Int32).toInt; decide, by show ((-1) : Int32).toInt ≤ 8; decide⟩
  · have c_1 := tn_nle (a := (x3).toInt) (b := (x5).toInt) rfl rfl c_1
    refine ok_grd (vpb_ok (by omega) (by omega)) ?_
    refine ok_ite (fun c_2 => ?_) (fun c_2 => ?_)
    · have c_2 := tn_eq (a := ((sgn (Int32.toNatClampNeg x5))).toInt) (b := (x4).toInt) rfl rfl c_2
      exact ok_some ⟨by show -1 ≤ (x5).toInt; omega, by show (x5).toInt ≤ 8; omega⟩
    · have c_2 := tn_ne (a := ((sgn (Int32.toNatClampNeg x5))).toInt) (b := (x4).toInt) rfl rfl c_2
      have a_3 : ((x5 + 1)).toInt = (x5).toInt + 1 := tn_add rfl (by decide) (by omega) (by omega)
      exact hk7 _ _ _ (by omega) (by omega) (by omega) (by omega) (by omega)
theorem okL_kJ1_indexOfChar_4cfef_7  : ∀ (n : Nat) (x3 : Int32) (x4 : Int32) (x5 : Int32), (9 - x5.toInt).toNat < n → 9 ≤ x3.toInt → x3.toInt ≤ 9 → 0 ≤ x5.toInt → x5.toInt ≤ 9 → Ok (kJ1_indexOfChar_4cfef_7L  n x3 x4 x5) Q_kJ1_indexOfChar_4cfef := by
  intro n
  induction n with
  | zero => intro x3 x4 x5 hn; omega
  | succ n ih =>
    intro x3 x4 x5 hn h_x3l h_x3u h_x5l h_x5u 
    exact ok_kJ1_indexOfChar_4cfef_7 (kJ1_indexOfChar_4cfef_7L  n) ((9 - x5.toInt).toNat) (fun zx3 zx4 zx5 g0 g1 g2 g3  hm => ih zx3 zx4 zx5 (by omega) g0 g1 g2 g3 ) x3 x4 x5 h_x3l h_x3u h_x5l h_x5u (Nat.le_refl _)
set_option maxHeartbeats 1000000 in
theorem ok_kJ1_indexOfChar_4cfefB  (x1 : Int32) (x2 : Int32) (x3 : Int32) (h_x2l : 0 ≤ x2.toInt) (h_x2u : x2.toInt ≤ 0) (h_x3l : 9 ≤ x3.toInt) (h_x3u : x3.toInt ≤ 9)  : Ok (kJ1_indexOfChar_4cfef  x1 x2 x3) Q_kJ1_indexOfChar_4cfef := by
  unfold kJ1_indexOfChar_4cfef
  exact okL_kJ1_indexOfChar_4cfef_7  fu _ _ _ (by unfold fu; omega) (by omega) (by omega) (by omega) (by omega) 
theorem ok_kJ1_indexOfChar_4cfef (x1 : Int32) (x2 : Int32) (x3 : Int32) (h_x2l : 0 ≤ x2.toInt) (h_x2u : x2.toInt ≤ 0) (h_x3l : 9 ≤ x3.toInt) (h_x3u : x3.toInt ≤ 9) : Ok (kJ1_indexOfChar_4cfef x1 x2 x3) Q_kJ1_indexOfChar_4cfef := ok_kJ1_indexOfChar_4cfefB x1 x2 x3 h_x2l h_x2u h_x3l h_x3u
abbrev Q_kJ1_indexOf_4cfef (y : Int32) : Prop := -1 ≤ y.toInt ∧ y.toInt ≤ 8
set_option maxHeartbeats 1000000 in
theorem ok_kJ1_indexOf_4cfefB  (x1 : Int32) (x2 : Int32) (x3 : Int32) (h_x2l : 0 ≤ x2.toInt) (h_x2u : x2.toInt ≤ 0) (h_x3l : 9 ≤ x3.toInt) (h_x3u : x3.toInt ≤ 9)  : Ok (kJ1_indexOf_4cfef  x1 x2 x3) Q_kJ1_indexOf_4cfef := by
  unfold kJ1_indexOf_4cfef
  refine ok_bindP (ok_kJ1_canEncode_9a6ad _ ) (fun r1 hc_1 => ?_)
  have hl_r1 : 0 ≤ r1.toInt := hc_1.1
  have hu_r1 : r1.toInt ≤ 1 := hc_1.2
  refine ok_ite (fun c_2 => ?_) (fun c_2 => ?_)
  · have c_2 := tn_eq (a := (r1).toInt) (b := 0) rfl (by decide) c_2
    exact ok_some ⟨by show -1 ≤ ((-1) : Int32).toInt; decide, by show ((-1) : Int32).toInt ≤ 8; decide⟩
  · have c_2 := tn_ne (a := (r1).toInt) (b := 0) rfl (by decide) c_2
    have a_3 := tn_mmax (x := x2) (y := 0) (a := (x2).toInt) (b := 0) rfl (by decide)
    have a_4 := tn_mmin (x := x3) (y := 9) (a := (x3).toInt) (b := 9) rfl (by decide)
    refine ok_ite (fun c_5 => ?_) (fun c_5 => ?_)
    · have c_5 := tn_lt (a := ((mmax x2 0)).toInt) (b := ((mmin x3 9)).toInt) rfl rfl c_5
      refine ok_bindP (ok_kJ1_indexOfChar_4cfef _ _ _ (by omega) (by omega) (by omega) (by omega)) (fun r4 hc_6 => ?_)
      have hl_r4 : -1 ≤ r4.toInt := hc_6.1
      have hu_r4 : r4.toInt ≤ 8 := hc_6.2
      exact ok_some ⟨by show -1 ≤ (r4).toInt; omega, by show (r4).toInt ≤ 8; omega⟩
    · have c_5 := tn_nlt (a := ((mmax x2 0)).toInt) (b := ((mmin x3 9)).toInt) rfl rfl c_5
      omega
theorem ok_kJ1_indexOf_4cfef (x1 : Int32) (x2 : Int32) (x3 : Int32) (h_x2l : 0 ≤ x2.toInt) (h_x2u : x2.toInt ≤ 0) (h_x3l : 9 ≤ x3.toInt) (h_x3u : x3.toInt ≤ 9) : Ok (kJ1_indexOf_4cfef x1 x2 x3) Q_kJ1_indexOf_4cfef := ok_kJ1_indexOf_4cfefB x1 x2 x3 h_x2l h_x2u h_x3l h_x3u
abbrev Q_kJ0_coder_7d493 (y : Int32) : Prop := 0 ≤ y.toInt ∧ y.toInt ≤ 0
set_option maxHeartbeats 1000000 in
theorem ok_kJ0_coder_7d493B     : Ok (kJ0_coder_7d493  ) Q_kJ0_coder_7d493 := by
  unfold kJ0_coder_7d493
  exact ok_some ⟨by show 0 ≤ (0 : Int32).toInt; decide, by show (0 : Int32).toInt ≤ 0; decide⟩
theorem ok_kJ0_coder_7d493   : Ok (kJ0_coder_7d493 ) Q_kJ0_coder_7d493 := ok_kJ0_coder_7d493B  
abbrev Q_kJ0_length_8abf5 (y : Int32) : Prop := 9 ≤ y.toInt ∧ y.toInt ≤ 9
set_option maxHeartbeats 1000000 in
theorem ok_kJ0_length_8abf5B     : Ok (kJ0_length_8abf5  ) Q_kJ0_length_8abf5 := by
  unfold kJ0_length_8abf5
  refine ok_bindP (ok_kJ0_coder_7d493  ) (fun r1 hc_1 => ?_)
  have hl_r1 : 0 ≤ r1.toInt := hc_1.1
  have hu_r1 : r1.toInt ≤ 0 := hc_1.2
  exact ok_some ⟨by show 9 ≤ (9 : Int32).toInt; decide, by show (9 : Int32).toInt ≤ 9; decide⟩
theorem ok_kJ0_length_8abf5   : Ok (kJ0_length_8abf5 ) Q_kJ0_length_8abf5 := ok_kJ0_length_8abf5B  
abbrev Q_kJ0_isLatin1_aae02 (y : Int32) : Prop := 1 ≤ y.toInt ∧ y.toInt ≤ 1
set_option maxHeartbeats 1000000 in
theorem ok_kJ0_isLatin1_aae02B     : Ok (kJ0_isLatin1_aae02  ) Q_kJ0_isLatin1_aae02 := by
  unfold kJ0_isLatin1_aae02
  exact ok_some ⟨by show 1 ≤ (1 : Int32).toInt; decide, by show (1 : Int32).toInt ≤ 1; decide⟩
theorem ok_kJ0_isLatin1_aae02   : Ok (kJ0_isLatin1_aae02 ) Q_kJ0_isLatin1_aae02 := ok_kJ0_isLatin1_aae02B  
abbrev Q_kJ0_indexOf_7cf53 (y : Int32) : Prop := -1 ≤ y.toInt ∧ y.toInt ≤ 8
set_option maxHeartbeats 1000000 in
theorem ok_kJ0_indexOf_7cf53B  (x1 : Int32) (x2 : Int32) (h_x2l : 0 ≤ x2.toInt) (h_x2u : x2.toInt ≤ 0)  : Ok (kJ0_indexOf_7cf53  x1 x2) Q_kJ0_indexOf_7cf53 := by
  unfold kJ0_indexOf_7cf53
  refine ok_bindP (ok_kJ0_isLatin1_aae02  ) (fun r1 hc_1 => ?_)
  have hl_r1 : 1 ≤ r1.toInt := hc_1.1
  have hu_r1 : r1.toInt ≤ 1 := hc_1.2
  refine ok_bindP (ok_kJ0_length_8abf5  ) (fun r2 hc_2 => ?_)
  have hl_r2 : 9 ≤ r2.toInt := hc_2.1
  have hu_r2 : r2.toInt ≤ 9 := hc_2.2
  refine ok_bindP (ok_kJ1_indexOf_4cfef _ _ _ (by omega) (by omega) (by decide) (by decide)) (fun r3 hc_3 => ?_)
  have hl_r3 : -1 ≤ r3.toInt := hc_3.1
  have hu_r3 : r3.toInt ≤ 8 := hc_3.2
  exact ok_some ⟨by show -1 ≤ (r3).toInt; omega, by show (r3).toInt ≤ 8; omega⟩
theorem ok_kJ0_indexOf_7cf53 (x1 : Int32) (x2 : Int32) (h_x2l : 0 ≤ x2.toInt) (h_x2u : x2.toInt ≤ 0) : Ok (kJ0_indexOf_7cf53 x1 x2) Q_kJ0_indexOf_7cf53 := ok_kJ0_indexOf_7cf53B x1 x2 h_x2l h_x2u
abbrev Q_kJ0_indexOf_0f7a4 (y : Int32) : Prop := -1 ≤ y.toInt ∧ y.toInt ≤ 8
set_option maxHeartbeats 1000000 in
theorem ok_kJ0_indexOf_0f7a4B  (x1 : Int32)   : Ok (kJ0_indexOf_0f7a4  x1) Q_kJ0_indexOf_0f7a4 := by
  unfold kJ0_indexOf_0f7a4
  refine ok_bindP (ok_kJ0_indexOf_7cf53 _ _ (by decide) (by decide)) (fun r1 hc_1 => ?_)
  have hl_r1 : -1 ≤ r1.toInt := hc_1.1
  have hu_r1 : r1.toInt ≤ 8 := hc_1.2
  exact ok_some ⟨by show -1 ≤ (r1).toInt; omega, by show (r1).toInt ≤ 8; omega⟩
theorem ok_kJ0_indexOf_0f7a4 (x1 : Int32)  : Ok (kJ0_indexOf_0f7a4 x1) Q_kJ0_indexOf_0f7a4 := ok_kJ0_indexOf_0f7a4B x1 
abbrev Q_kX0_mayBe (s0 : JS) (y : Int32 × JS) : Prop := InvK y.2.k ∧ FrK [] s0.k y.2.k ∧ -2147483648 ≤ y.1.toInt ∧ y.1.toInt ≤ 2147483647
set_option maxHeartbeats 1000000 in
theorem ok_kX0_mayBeB (s0 : JS)  (s : JS) (x2 : Int32) (hI_s_k : InvK s.k) (hF_s_k : FrK [] s0.k s.k) (h_x2l : 0 ≤ x2.toInt) (h_x2u : x2.toInt ≤ 4)  : Ok (kX0_mayBe  s x2) (Q_kX0_mayBe s0) := by
  unfold kX0_mayBe
  refine ok_grd (vpb_ok (by omega) (by omega)) ?_
  refine ok_ite (fun c_1 => ?_) (fun c_1 => ?_)
  · have c_1 := tn_eq (a := (((s.d.f 0) (Int32.toNatClampNeg x2))).toInt) (b := (-1)) rfl (by decide) c_1
    refine ok_grd (vpb_ok (by omega) (by omega)) ?_
    refine ok_grd (vpb_ok (by omega) (by omega)) ?_
    exact ok_some ⟨hI_s_k, hF_s_k, (ti_rng _).1, (ti_rng _).2⟩
  · have c_1 := tn_ne (a := (((s.d.f 0) (Int32.toNatClampNeg x2))).toInt) (b := (-1)) rfl (by decide) c_1
    refine ok_grd (vpb_ok (by omega) (by omega)) ?_
    exact ok_some ⟨hI_s_k, hF_s_k, (ti_rng _).1, (ti_rng _).2⟩
theorem ok_kX0_mayBe (s : JS) (x2 : Int32) (hI_s_k : InvK s.k) (h_x2l : 0 ≤ x2.toInt) (h_x2u : x2.toInt ≤ 4) : Ok (kX0_mayBe s x2) (Q_kX0_mayBe s) := ok_kX0_mayBeB s s x2 hI_s_k FrK.rfl h_x2l h_x2u
abbrev Q_kX0_setParty (s0 : JS) (y : JS) : Prop := InvK y.k ∧ FrK [113] s0.k y.k
set_option maxHeartbeats 1000000 in
theorem ok_kX0_setPartyB (s0 : JS)  (s : JS) (x2 : Int32) (hI_s_k : InvK s.k) (hF_s_k : FrK [113] s0.k s.k) (h_x2l : 0 ≤ x2.toInt) (h_x2u : x2.toInt ≤ 5)  : Ok (kX0_setParty  s x2) (Q_kX0_setParty s0) := by
  unfold kX0_setParty
  refine ok_grd (vpb_ok (by omega) (by omega)) ?_
  refine ok_let (fun s2 hs2 => ?_)
  have hI_s2_k : InvK s2.k := by rw [← hs2]; exact hI_s_k.sfF (k := 13) rfl rfl
  have hF_s2_k : FrK [113] s0.k s2.k := by rw [← hs2]; exact hF_s_k.sf (k := 13) (by decide)
  refine ok_grd (vpb_ok (by omega) (by omega)) ?_
  refine ok_let (fun s5 hs5 => ?_)
  have hI_s5_k : InvK s5.k := by rw [← hs5]; exact hI_s2_k.sfF (k := 13) rfl rfl
  have hF_s5_k : FrK [113] s0.k s5.k := by rw [← hs5]; exact hF_s2_k.sf (k := 13) (by decide)
  refine ok_let (fun s7 hs7 => ?_)
  have hI_s7_k : InvK s7.k := by rw [← hs7]; exact hI_s5_k.sfF (k := 13) rfl rfl
  have hF_s7_k : FrK [113] s0.k s7.k := by rw [← hs7]; exact hF_s5_k.sf (k := 13) (by decide)
  refine ok_grd (vpb_ok (by omega) (by omega)) ?_
  refine ok_let (fun s10 hs10 => ?_)
  have hI_s10_k : InvK s10.k := by rw [← hs10]; exact hI_s7_k.sfF (k := 13) rfl rfl
  have hF_s10_k : FrK [113] s0.k s10.k := by rw [← hs10]; exact hF_s7_k.sf (k := 13) (by decide)
  exact ok_some ⟨hI_s10_k, hF_s10_k⟩
theorem ok_kX0_setParty (s : JS) (x2 : Int32) (hI_s_k : InvK s.k) (h_x2l : 0 ≤ x2.toInt) (h_x2u : x2.toInt ≤ 5) : Ok (kX0_setParty s x2) (Q_kX0_setParty s) := ok_kX0_setPartyB s s x2 hI_s_k FrK.rfl h_x2l h_x2u
abbrev Q_kX1_copyFrom (s0 : KS) (y : KS) : Prop := InvK y ∧ FrK [5, 109, 110, 111, 112] s0 y
set_option maxHeartbeats 1000000 in
theorem ok_kX1_copyFromB (s0 : KS)  (s : KS) (hI_s : InvK s) (hF_s : FrK [5, 109, 110, 111, 112] s0 s)  : Ok (kX1_copyFrom  s) (Q_kX1_copyFrom s0) := by
  unfold kX1_copyFrom
  refine ok_let (fun s1 hs1 => ?_)
  have hI_s1 : InvK s1 := by rw [← hs1]; exact hI_s.saF (k := 9) rfl rfl
  have hF_s1 : FrK [5, 109, 110, 111, 112] s0 s1 := by rw [← hs1]; exact hF_s.sa (k := 9) (by decide)
  refine ok_let (fun s3 hs3 => ?_)
  have hI_s3 : InvK s3 := by rw [← hs3]; exact hI_s1.sa (k := 10) (cpy_rng (fun j => hI_s1.2 23 j) (fun j => hI_s1.2 10 j))
  have hF_s3 : FrK [5, 109, 110, 111, 112] s0 s3 := by rw [← hs3]; exact hF_s1.sa (k := 10) (by decide)
  refine ok_let (fun s5 hs5 => ?_)
  have hI_s5 : InvK s5 := by rw [← hs5]; exact hI_s3.sa (k := 11) (cpy_rng (fun j => hI_s3.2 24 j) (fun j => hI_s3.2 11 j))
  have hF_s5 : FrK [5, 109, 110, 111, 112] s0 s5 := by rw [← hs5]; exact hF_s3.sa (k := 11) (by decide)
  refine ok_let (fun s7 hs7 => ?_)
  have hI_s7 : InvK s7 := by rw [← hs7]; exact hI_s5.sa (k := 12) (cpy_rng (fun j => hI_s5.2 25 j) (fun j => hI_s5.2 12 j))
  have hF_s7 : FrK [5, 109, 110, 111, 112] s0 s7 := by rw [← hs7]; exact hF_s5.sa (k := 12) (by decide)
  refine ok_let (fun s9 hs9 => ?_)
  have a_1 : 0 ≤ (s.v 12).toInt ∧ (s.v 12).toInt ≤ 404 := hI_s.1 12
  have a_2 : (s1.v 12).toInt = (s.v 12).toInt := congrArg Int32.toInt (show s1.v 12 = s.v 12 by rw [← hs1]; rfl)
  have a_3 : (s3.v 12).toInt = (s1.v 12).toInt := congrArg Int32.toInt (show s3.v 12 = s1.v 12 by rw [← hs3]; rfl)
  have a_4 : (s5.v 12).toInt = (s3.v 12).toInt := congrArg Int32.toInt (show s5.v 12 = s3.v 12 by rw [← hs5]; rfl)
  have a_5 : (s7.v 12).toInt = (s5.v 12).toInt := congrArg Int32.toInt (show s7.v 12 = s5.v 12 by rw [← hs7]; rfl)
  have hI_s9 : InvK s9 := by rw [← hs9]; exact hI_s7.sv (k := 5) (show (0 : Int) ≤ ((s7.v 12)).toInt by omega) (show ((s7.v 12)).toInt ≤ (404 : Int) by omega)
  have hF_s9 : FrK [5, 109, 110, 111, 112] s0 s9 := by rw [← hs9]; exact hF_s7.sv (k := 5) (by decide)
  exact ok_some ⟨hI_s9, hF_s9⟩
theorem ok_kX1_copyFrom (s : KS) (hI_s : InvK s) : Ok (kX1_copyFrom s) (Q_kX1_copyFrom s) := ok_kX1_copyFromB s s hI_s FrK.rfl
abbrev Q_kX1_begin (s0 : KS) (y : KS) : Prop := InvK y ∧ FrK [13, 124, 125] s0 y
set_option maxHeartbeats 1000000 in
theorem ok_kX1_beginB (s0 : KS)  (s : KS) (x1 : Int32) (hI_s : InvK s) (hF_s : FrK [13, 124, 125] s0 s) (h_x1l : 0 ≤ x1.toInt) (h_x1u : x1.toInt ≤ 3)  : Ok (kX1_begin  s x1) (Q_kX1_begin s0) := by
  unfold kX1_begin
  refine ok_let (fun s1 hs1 => ?_)
  have hI_s1 : InvK s1 := by rw [← hs1]; exact hI_s.sv (k := 13) (show (0 : Int) ≤ (x1).toInt by omega) (show (x1).toInt ≤ (3 : Int) by omega)
  have hF_s1 : FrK [13, 124, 125] s0 s1 := by rw [← hs1]; exact hF_s.sv (k := 13) (by decide)
  refine ok_grd (vpb_ok (by omega) (by omega)) ?_
  refine ok_let (fun s4 hs4 => ?_)
  have a_1 : 0 ≤ (s.v 12).toInt ∧ (s.v 12).toInt ≤ 404 := hI_s.1 12
  have a_2 : (s1.v 12).toInt = (s.v 12).toInt := congrArg Int32.toInt (show s1.v 12 = s.v 12 by rw [← hs1]; rfl)
  have hI_s4 : InvK s4 := by rw [← hs4]; exact hI_s1.sf (k := 24) (show (0 : Int) ≤ ((s1.v 12)).toInt by omega) (show ((s1.v 12)).toInt ≤ (404 : Int) by omega)
  have hF_s4 : FrK [13, 124, 125] s0 s4 := by rw [← hs4]; exact hF_s1.sf (k := 24) (by decide)
  refine ok_grd (vpb_ok (by omega) (by omega)) ?_
  refine ok_let (fun s7 hs7 => ?_)
  have hI_s7 : InvK s7 := by rw [← hs7]; exact hI_s4.sf (k := 25) (show (0 : Int) ≤ (0 : Int32).toInt by decide) (show (0 : Int32).toInt ≤ (13 : Int) by decide)
  have hF_s7 : FrK [13, 124, 125] s0 s7 := by rw [← hs7]; exact hF_s4.sf (k := 25) (by decide)
  exact ok_some ⟨hI_s7, hF_s7⟩
theorem ok_kX1_begin (s : KS) (x1 : Int32) (hI_s : InvK s) (h_x1l : 0 ≤ x1.toInt) (h_x1u : x1.toInt ≤ 3) : Ok (kX1_begin s x1) (Q_kX1_begin s) := ok_kX1_beginB s s x1 hI_s FrK.rfl h_x1l h_x1u
abbrev Q_kX1_endPart (s0 : KS) (y : KS) : Prop := InvK y ∧ FrK [123, 125] s0 y
set_option maxHeartbeats 1000000 in
theorem ok_kX1_endPartB (s0 : KS)  (s : KS) (hI_s : InvK s) (hF_s : FrK [123, 125] s0 s)  : Ok (kX1_endPart  s) (Q_kX1_endPart s0) := by
  unfold kX1_endPart
  have a_1 : 0 ≤ (s.v 13).toInt ∧ (s.v 13).toInt ≤ 3 := hI_s.1 13
  refine ok_grd (vpb_ok (by omega) (by omega)) ?_
  have a_2 : 0 ≤ (((s.f 25) (Int32.toNatClampNeg (s.v 13)))).toInt ∧ (((s.f 25) (Int32.toNatClampNeg (s.v 13)))).toInt ≤ 13 := hI_s.2 25 _
  refine ok_ite (fun c_3 => ?_) (fun c_3 => ?_)
  · have c_3 := tn_le (a := 13) (b := (((s.f 25) (Int32.toNatClampNeg (s.v 13)))).toInt) (by decide) rfl c_3
    exact ok_some ⟨hI_s, hF_s⟩
  · have c_3 := tn_nle (a := 13) (b := (((s.f 25) (Int32.toNatClampNeg (s.v 13)))).toInt) (by decide) rfl c_3
    have a_4 : (((s.v 13) * 13)).toInt = ((s.v 13)).toInt * 13 := ti_mulc (c := 13) (by decide) (by omega) (by omega)
    have a_5 : ((((s.v 13) * 13) + ((s.f 25) (Int32.toNatClampNeg (s.v 13))))).toInt = (((s.v 13) * 13)).toInt + (((s.f 25) (Int32.toNatClampNeg (s.v 13)))).toInt := tn_add rfl rfl (by omega) (by omega)
    refine ok_grd (vpb_ok (by omega) (by omega)) ?_
    refine ok_let (fun s4 hs4 => ?_)
    have a_6 : 0 ≤ (s.v 12).toInt ∧ (s.v 12).toInt ≤ 404 := hI_s.1 12
    have hI_s4 : InvK s4 := by rw [← hs4]; exact hI_s.sf (k := 23) (show (0 : Int) ≤ ((s.v 12)).toInt by omega) (show ((s.v 12)).toInt ≤ (404 : Int) by omega)
    have hF_s4 : FrK [123, 125] s0 s4 := by rw [← hs4]; exact hF_s.sf (k := 23) (by decide)
    have a_7 : (s4.v 13).toInt = (s.v 13).toInt := congrArg Int32.toInt (show s4.v 13 = s.v 13 by rw [← hs4]; rfl)
    refine ok_grd (vpb_ok (by omega) (by omega)) ?_
    refine ok_let (fun s7 hs7 => ?_)
    have a_8 : ((((s.f 25) (Int32.toNatClampNeg (s.v 13))) + 1)).toInt = (((s.f 25) (Int32.toNatClampNeg (s.v 13)))).toInt + 1 := tn_add rfl (by decide) (by omega) (by omega)
    have hI_s7 : InvK s7 := by rw [← hs7]; exact hI_s4.sf (k := 25) (show (0 : Int) ≤ ((((s.f 25) (Int32.toNatClampNeg (s.v 13))) + 1)).toInt by omega) (show ((((s.f 25) (Int32.toNatClampNeg (s.v 13))) + 1)).toInt ≤ (13 : Int) by omega)
    have hF_s7 : FrK [123, 125] s0 s7 := by rw [← hs7]; exact hF_s4.sf (k := 25) (by decide)
    exact ok_some ⟨hI_s7, hF_s7⟩
theorem ok_kX1_endPart (s : KS) (hI_s : InvK s) : Ok (kX1_endPart s) (Q_kX1_endPart s) := ok_kX1_endPartB s s hI_s FrK.rfl
abbrev Q_kX1_put (s0 : KS) (y : KS) : Prop := InvK y ∧ FrK [12, 122] s0 y
set_option maxHeartbeats 1000000 in
theorem ok_kX1_putB (s0 : KS)  (s : KS) (x1 : Int32) (hI_s : InvK s) (hF_s : FrK [12, 122] s0 s)  : Ok (kX1_put  s x1) (Q_kX1_put s0) := by
  unfold kX1_put
  have a_1 : 0 ≤ (s.v 12).toInt ∧ (s.v 12).toInt ≤ 404 := hI_s.1 12
  refine ok_ite (fun c_2 => ?_) (fun c_2 => ?_)
  · have c_2 := tn_le (a := 404) (b := ((s.v 12)).toInt) (by decide) rfl c_2
    exact ok_some ⟨hI_s, hF_s⟩
  · have c_2 := tn_nle (a := 404) (b := ((s.v 12)).toInt) (by decide) rfl c_2
    refine ok_grd (vpb_ok (by omega) (by omega)) ?_
    refine ok_let (fun s3 hs3 => ?_)
    have hI_s3 : InvK s3 := by rw [← hs3]; exact hI_s.sfF (k := 22) rfl rfl
    have hF_s3 : FrK [12, 122] s0 s3 := by rw [← hs3]; exact hF_s.sf (k := 22) (by decide)
    refine ok_let (fun s5 hs5 => ?_)
    have a_3 : (s3.v 12).toInt = (s.v 12).toInt := congrArg Int32.toInt (show s3.v 12 = s.v 12 by rw [← hs3]; rfl)
    have a_4 : (((s3.v 12) + 1)).toInt = ((s3.v 12)).toInt + 1 := tn_add rfl (by decide) (by omega) (by omega)
    have hI_s5 : InvK s5 := by rw [← hs5]; exact hI_s3.sv (k := 12) (show (0 : Int) ≤ (((s3.v 12) + 1)).toInt by omega) (show (((s3.v 12) + 1)).toInt ≤ (404 : Int) by omega)
    have hF_s5 : FrK [12, 122] s0 s5 := by rw [← hs5]; exact hF_s3.sv (k := 12) (by decide)
    exact ok_some ⟨hI_s5, hF_s5⟩
theorem ok_kX1_put (s : KS) (x1 : Int32) (hI_s : InvK s) : Ok (kX1_put s x1) (Q_kX1_put s) := ok_kX1_putB s s x1 hI_s FrK.rfl
abbrev Q_kX1_joined (s0 : KS) (y : Int32 × KS) : Prop := InvK y.2 ∧ FrK [7] s0 y.2 ∧ -2147483648 ≤ y.1.toInt ∧ y.1.toInt ≤ 2147483647
set_option maxHeartbeats 1000000 in
theorem ok_kX1_joinedB (s0 : KS)  (s : KS) (x1 : Int32) (x2 : Int32) (x3 : Int32) (hI_s : InvK s) (hF_s : FrK [7] s0 s)  : Ok (kX1_joined  s x1 x2 x3) (Q_kX1_joined s0) := by
  unfold kX1_joined
  refine ok_ite (fun c_1 => ?_) (fun c_1 => ?_)
  · have c_1 := tn_eq (a := (x1).toInt) (b := 42) rfl (by decide) c_1
    exact ok_some ⟨hI_s, hF_s, (ti_rng _).1, (ti_rng _).2⟩
  · have c_1 := tn_ne (a := (x1).toInt) (b := 42) rfl (by decide) c_1
    refine ok_ite (fun c_2 => ?_) (fun c_2 => ?_)
    · have c_2 := tn_eq (a := (x1).toInt) (b := 43) rfl (by decide) c_2
      exact ok_some ⟨hI_s, hF_s, (ti_rng _).1, (ti_rng _).2⟩
    · have c_2 := tn_ne (a := (x1).toInt) (b := 43) rfl (by decide) c_2
      refine ok_ite (fun c_3 => ?_) (fun c_3 => ?_)
      · have c_3 := tn_eq (a := (x1).toInt) (b := 44) rfl (by decide) c_3
        refine ok_ite (fun c_4 => ?_) (fun c_4 => ?_)
        · have c_4 := tn_eq (a := (x3).toInt) (b := 0) rfl (by decide) c_4
          refine ok_let (fun s6 hs6 => ?_)
          have hI_s6 : InvK s6 := by rw [← hs6]; exact hI_s.svF (k := 7) rfl rfl
          have hF_s6 : FrK [7] s0 s6 := by rw [← hs6]; exact hF_s.sv (k := 7) (by decide)
          exact ok_some ⟨hI_s6, hF_s6, (ti_rng _).1, (ti_rng _).2⟩
        · have c_4 := tn_ne (a := (x3).toInt) (b := 0) rfl (by decide) c_4
          refine ok_grd (fun h => by have := tn_eq rfl (b := 0) (by decide) h; omega) ?_
          exact ok_some ⟨hI_s, hF_s, (ti_rng _).1, (ti_rng _).2⟩
      · have c_3 := tn_ne (a := (x1).toInt) (b := 44) rfl (by decide) c_3
        refine ok_ite (fun c_5 => ?_) (fun c_5 => ?_)
        · have c_5 := tn_eq (a := (x1).toInt) (b := 45) rfl (by decide) c_5
          exact ok_some ⟨hI_s, hF_s, (ti_rng _).1, (ti_rng _).2⟩
        · have c_5 := tn_ne (a := (x1).toInt) (b := 45) rfl (by decide) c_5
          refine ok_ite (fun c_6 => ?_) (fun c_6 => ?_)
          · have c_6 := tn_eq (a := (x3).toInt) (b := 0) rfl (by decide) c_6
            refine ok_let (fun s11 hs11 => ?_)
            have hI_s11 : InvK s11 := by rw [← hs11]; exact hI_s.svF (k := 7) rfl rfl
            have hF_s11 : FrK [7] s0 s11 := by rw [← hs11]; exact hF_s.sv (k := 7) (by decide)
            exact ok_some ⟨hI_s11, hF_s11, (ti_rng _).1, (ti_rng _).2⟩
          · have c_6 := tn_ne (a := (x3).toInt) (b := 0) rfl (by decide) c_6
            refine ok_grd (fun h => by have := tn_eq rfl (b := 0) (by decide) h; omega) ?_
            exact ok_some ⟨hI_s, hF_s, (ti_rng _).1, (ti_rng _).2⟩
theorem ok_kX1_joined (s : KS) (x1 : Int32) (x2 : Int32) (x3 : Int32) (hI_s : InvK s) : Ok (kX1_joined s x1 x2 x3) (Q_kX1_joined s) := ok_kX1_joinedB s s x1 x2 x3 hI_s FrK.rfl
abbrev Q_kX2_putOnTop (s0 : KS) (y : KS) : Prop := InvK y ∧ FrK [139, 140] s0 y
set_option maxHeartbeats 1000000 in
theorem ok_kX2_putOnTop_59 (s0 : KS)  (s : KS) (x1 : Int32) (x2 : Int32) (x4 : Int32) (hI_s : InvK s) (hF_s : FrK [139, 140] s0 s) (h_x4l : 0 ≤ x4.toInt) (h_x4u : x4.toInt ≤ 19)  : Ok (kX2_putOnTop_59  s x1 x2 x4) (Q_kX2_putOnTop s0) := by
  unfold kX2_putOnTop_59
  refine ok_grd (vpb_ok (by omega) (by omega)) ?_
  refine ok_let (fun s2 hs2 => ?_)
  have hI_s2 : InvK s2 := by rw [← hs2]; exact hI_s.sfF (k := 40) rfl rfl
  have hF_s2 : FrK [139, 140] s0 s2 := by rw [← hs2]; exact hF_s.sf (k := 40) (by decide)
  refine ok_grd (vpb_ok (by omega) (by omega)) ?_
  refine ok_let (fun s5 hs5 => ?_)
  have hI_s5 : InvK s5 := by rw [← hs5]; exact hI_s2.sfF (k := 39) rfl rfl
  have hF_s5 : FrK [139, 140] s0 s5 := by rw [← hs5]; exact hF_s2.sf (k := 39) (by decide)
  exact ok_some ⟨hI_s5, hF_s5⟩
set_option maxHeartbeats 1000000 in
theorem ok_kX2_putOnTop_3 (s0 : KS) (k3 : KS → Int32 → Int32 → Int32 → Option (KS)) (M3 : Nat) (hk3 : ∀ (s : KS) (x1 : Int32) (x2 : Int32) (x4 : Int32), InvK s → FrK [139, 140] s0 s → 0 ≤ x4.toInt → x4.toInt ≤ 19 → (x4.toInt - (0)).toNat < M3 → Ok (k3 s x1 x2 x4) (Q_kX2_putOnTop s0)) (s : KS) (x1 : Int32) (x2 : Int32) (x4 : Int32) (hI_s : InvK s) (hF_s : FrK [139, 140] s0 s) (h_x4l : 0 ≤ x4.toInt) (h_x4u : x4.toInt ≤ 19) (hM3 : (x4.toInt - (0)).toNat ≤ M3) : Ok (kX2_putOnTop_3 k3 s x1 x2 x4) (Q_kX2_putOnTop s0) := by
  unfold kX2_putOnTop_3
  rw [show x4 + (-1) = x4 - 1 from (Int32.sub_eq_add_neg x4 1).symm]
  refine ok_ite (fun c_1 => ?_) (fun c_1 => ?_)
  · have c_1 := tn_le (a := (x4).toInt) (b := 0) rfl (by decide) c_1
    exact ok_kX2_putOnTop_59 s0  _ _ _ _ hI_s hF_s (by omega) (by omega) 
  · have c_1 := tn_nle (a := (x4).toInt) (b := 0) rfl (by decide) c_1
    have a_2 : ((x4 - 1)).toInt = (x4).toInt - 1 := tn_sub rfl (by decide) (by omega) (by omega)
    refine ok_grd (vpb_ok (by omega) (by omega)) ?_
    refine ok_ite (fun c_3 => ?_) (fun c_3 => ?_)
    · have c_3 := tn_le (a := (x2).toInt) (b := (((s.f 40) (Int32.toNatClampNeg (x4 - 1)))).toInt) rfl rfl c_3
      exact ok_kX2_putOnTop_59 s0  _ _ _ _ hI_s hF_s (by omega) (by omega) 
    · have c_3 := tn_nle (a := (x2).toInt) (b := (((s.f 40) (Int32.toNatClampNeg (x4 - 1)))).toInt) rfl rfl c_3
      refine ok_grd (vpb_ok (by omega) (by omega)) ?_
      refine ok_grd (vpb_ok (by omega) (by omega)) ?_
      refine ok_let (fun s6 hs6 => ?_)
      have hI_s6 : InvK s6 := by rw [← hs6]; exact hI_s.sfF (k := 40) rfl rfl
      have hF_s6 : FrK [139, 140] s0 s6 := by rw [← hs6]; exact hF_s.sf (k := 40) (by decide)
      refine ok_grd (vpb_ok (by omega) (by omega)) ?_
      refine ok_grd (vpb_ok (by omega) (by omega)) ?_
      refine ok_let (fun s10 hs10 => ?_)
      have hI_s10 : InvK s10 := by rw [← hs10]; exact hI_s6.sfF (k := 39) rfl rfl
      have hF_s10 : FrK [139, 140] s0 s10 := by rw [← hs10]; exact hF_s6.sf (k := 39) (by decide)
      exact hk3 _ _ _ _ hI_s10 hF_s10 (by omega) (by omega) (by omega)
theorem okL_kX2_putOnTop_3 (s0 : KS)  : ∀ (n : Nat) (s : KS) (x1 : Int32) (x2 : Int32) (x4 : Int32), (x4.toInt - (0)).toNat < n → InvK s → FrK [139, 140] s0 s → 0 ≤ x4.toInt → x4.toInt ≤ 19 → Ok (kX2_putOnTop_3L  n s x1 x2 x4) (Q_kX2_putOnTop s0) := by
  intro n
  induction n with
  | zero => intro s x1 x2 x4 hn; omega
  | succ n ih =>
    intro s x1 x2 x4 hn hI_s hF_s h_x4l h_x4u 
    exact ok_kX2_putOnTop_3 s0 (kX2_putOnTop_3L  n) ((x4.toInt - (0)).toNat) (fun zs zx1 zx2 zx4 g0 g1 g2 g3  hm => ih zs zx1 zx2 zx4 (by omega) g0 g1 g2 g3 ) s x1 x2 x4 hI_s hF_s h_x4l h_x4u (Nat.le_refl _)
set_option maxHeartbeats 1000000 in
theorem ok_kX2_putOnTopB (s0 : KS)  (s : KS) (x1 : Int32) (x2 : Int32) (x3 : Int32) (hI_s : InvK s) (hF_s : FrK [139, 140] s0 s) (h_x3l : 0 ≤ x3.toInt) (h_x3u : x3.toInt ≤ 19)  : Ok (kX2_putOnTop  s x1 x2 x3) (Q_kX2_putOnTop s0) := by
  unfold kX2_putOnTop
  exact okL_kX2_putOnTop_3 s0  fu _ _ _ _ (by unfold fu; omega) hI_s hF_s (by omega) (by omega) 
theorem ok_kX2_putOnTop (s : KS) (x1 : Int32) (x2 : Int32) (x3 : Int32) (hI_s : InvK s) (h_x3l : 0 ≤ x3.toInt) (h_x3u : x3.toInt ≤ 19) : Ok (kX2_putOnTop s x1 x2 x3) (Q_kX2_putOnTop s) := ok_kX2_putOnTopB s s x1 x2 x3 hI_s FrK.rfl h_x3l h_x3u
abbrev Q_kX3_forgetAll (s0 : GS) (y : GS) : Prop := InvG y
set_option maxHeartbeats 1000000 in
theorem ok_kX3_forgetAll_7 (s0 : GS) (k7 : GS → Int32 → Option (GS)) (M7 : Nat) (hk7 : ∀ (s : GS) (x1 : Int32), InvG s → 0 ≤ x1.toInt → x1.toInt ≤ 3 → (3 - x1.toInt).toNat < M7 → Ok (k7 s x1) (Q_kX3_forgetAll s0)) (s : GS) (x1 : Int32) (hI_s : InvG s) (h_x1l : 0 ≤ x1.toInt) (h_x1u : x1.toInt ≤ 3) (hM7 : (3 - x1.toInt).toNat ≤ M7) : Ok (kX3_forgetAll_7 k7 s x1) (Q_kX3_forgetAll s0) := by
  unfold kX3_forgetAll_7
  refine ok_ite (fun c_1 => ?_) (fun c_1 => ?_)
  · have c_1 := tn_le (a := 3) (b := (x1).toInt) (by decide) rfl c_1
    exact ok_some (hI_s)
  · have c_1 := tn_nle (a := 3) (b := (x1).toInt) (by decide) rfl c_1
    refine ok_grd (vpb_ok (by omega) (by omega)) ?_
    refine ok_let (fun s3 hs3 => ?_)
    have hI_s3 : InvG s3 := by rw [← hs3]; exact hI_s.sfF (k := 4) rfl rfl
    have a_2 : ((x1 + 1)).toInt = (x1).toInt + 1 := tn_add rfl (by decide) (by omega) (by omega)
    exact hk7 _ _ hI_s3 (by omega) (by omega) (by omega)
theorem okL_kX3_forgetAll_7 (s0 : GS)  : ∀ (n : Nat) (s : GS) (x1 : Int32), (3 - x1.toInt).toNat < n → InvG s → 0 ≤ x1.toInt → x1.toInt ≤ 3 → Ok (kX3_forgetAll_7L  n s x1) (Q_kX3_forgetAll s0) := by
  intro n
  induction n with
  | zero => intro s x1 hn; omega
  | succ n ih =>
    intro s x1 hn hI_s h_x1l h_x1u 
    exact ok_kX3_forgetAll_7 s0 (kX3_forgetAll_7L  n) ((3 - x1.toInt).toNat) (fun zs zx1 g0 g1 g2  hm => ih zs zx1 (by omega) g0 g1 g2 ) s x1 hI_s h_x1l h_x1u (Nat.le_refl _)
set_option maxHeartbeats 1000000 in
theorem ok_kX3_forgetAllB (s0 : GS)  (s : GS) (hI_s : InvG s)  : Ok (kX3_forgetAll  s) (Q_kX3_forgetAll s0) := by
  unfold kX3_forgetAll
  refine ok_let (fun s1 hs1 => ?_)
  have hI_s1 : InvG s1 := by rw [← hs1]; exact hI_s.sv (k := 4) (show (0 : Int) ≤ (0 : Int32).toInt by decide) (show (0 : Int32).toInt ≤ (40 : Int) by decide)
  have l_0 : (0 : Int32).toInt = 0 := by decide
  exact okL_kX3_forgetAll_7 s0  fu _ _ (by unfold fu; omega) hI_s1 (by decide) (by decide) 
theorem ok_kX3_forgetAll (s : GS) (hI_s : InvG s) : Ok (kX3_forgetAll s) (Q_kX3_forgetAll s) := ok_kX3_forgetAllB s s hI_s
abbrev Q_kX3_slotsHeld (s0 : GS) (y : Int32 × GS) : Prop := InvG y.2 ∧ -2147483648 ≤ y.1.toInt ∧ y.1.toInt ≤ 2147483647
set_option maxHeartbeats 1000000 in
theorem ok_kX3_slotsHeld_24 (s0 : GS) (k4 : GS → Int32 → Int32 → Option (Int32 × GS)) (M4 : Nat) (hk4 : ∀ (s : GS) (x1 : Int32) (x2 : Int32), InvG s → 0 ≤ x2.toInt → x2.toInt ≤ 3 → (3 - x2.toInt).toNat < M4 → Ok (k4 s x1 x2) (Q_kX3_slotsHeld s0)) (s : GS) (x2 : Int32) (t0 : Int32) (t1 : Int32) (hI_s : InvG s) (h_x2l : 0 ≤ x2.toInt) (h_x2u : x2.toInt ≤ 2) (h_t0l : 0 ≤ t0.toInt) (h_t0u : t0.toInt ≤ 1) (hM4 : (3 - x2.toInt).toNat ≤ M4) : Ok (kX3_slotsHeld_24 k4 s x2 t0 t1) (Q_kX3_slotsHeld s0) := by
  unfold kX3_slotsHeld_24
  have a_1 : ((x2 + 1)).toInt = (x2).toInt + 1 := tn_add rfl (by decide) (by omega) (by omega)
  exact hk4 _ _ _ hI_s (by omega) (by omega) (by omega)
set_option maxHeartbeats 1000000 in
theorem ok_kX3_slotsHeld_4 (s0 : GS) (k4 : GS → Int32 → Int32 → Option (Int32 × GS)) (M4 : Nat) (hk4 : ∀ (s : GS) (x1 : Int32) (x2 : Int32), InvG s → 0 ≤ x2.toInt → x2.toInt ≤ 3 → (3 - x2.toInt).toNat < M4 → Ok (k4 s x1 x2) (Q_kX3_slotsHeld s0)) (s : GS) (x1 : Int32) (x2 : Int32) (hI_s : InvG s) (h_x2l : 0 ≤ x2.toInt) (h_x2u : x2.toInt ≤ 3) (hM4 : (3 - x2.toInt).toNat ≤ M4) : Ok (kX3_slotsHeld_4 k4 s x1 x2) (Q_kX3_slotsHeld s0) := by
  unfold kX3_slotsHeld_4
  refine ok_ite (fun c_1 => ?_) (fun c_1 => ?_)
  · have c_1 := tn_le (a := 3) (b := (x2).toInt) (by decide) rfl c_1
    exact ok_some ⟨hI_s, (ti_rng _).1, (ti_rng _).2⟩
  · have c_1 := tn_nle (a := 3) (b := (x2).toInt) (by decide) rfl c_1
    refine ok_grd (vpb_ok (by omega) (by omega)) ?_
    refine ok_ite (fun c_2 => ?_) (fun c_2 => ?_)
    · have c_2 := tn_eq (a := (((s.f 4) (Int32.toNatClampNeg x2))).toInt) (b := 0) rfl (by decide) c_2
      have l_0 : (0 : Int32).toInt = 0 := by decide
      exact ok_kX3_slotsHeld_24 s0 k4 M4 hk4 _ _ _ _ hI_s (by omega) (by omega) (by decide) (by decide) (by omega)
    · have c_2 := tn_ne (a := (((s.f 4) (Int32.toNatClampNeg x2))).toInt) (b := 0) rfl (by decide) c_2
      have l_1 : (1 : Int32).toInt = 1 := by decide
      exact ok_kX3_slotsHeld_24 s0 k4 M4 hk4 _ _ _ _ hI_s (by omega) (by omega) (by decide) (by decide) (by omega)
theorem okL_kX3_slotsHeld_4 (s0 : GS)  : ∀ (n : Nat) (s : GS) (x1 : Int32) (x2 : Int32), (3 - x2.toInt).toNat < n → InvG s → 0 ≤ x2.toInt → x2.toInt ≤ 3 → Ok (kX3_slotsHeld_4L  n s x1 x2) (Q_kX3_slotsHeld s0) := by
  intro n
  induction n with
  | zero => intro s x1 x2 hn; omega
  | succ n ih =>
    intro s x1 x2 hn hI_s h_x2l h_x2u 
    exact ok_kX3_slotsHeld_4 s0 (kX3_slotsHeld_4L  n) ((3 - x2.toInt).toNat) (fun zs zx1 zx2 g0 g1 g2  hm => ih zs zx1 zx2 (by omega) g0 g1 g2 ) s x1 x2 hI_s h_x2l h_x2u (Nat.le_refl _)
set_option maxHeartbeats 1000000 in
theorem ok_kX3_slotsHeldB (s0 : GS)  (s : GS) (hI_s : InvG s)  : Ok (kX3_slotsHeld  s) (Q_kX3_slotsHeld s0) := by
  unfold kX3_slotsHeld
  have l_0 : (0 : Int32).toInt = 0 := by decide
  exact okL_kX3_slotsHeld_4 s0  fu _ _ _ (by unfold fu; omega) hI_s (by decide) (by decide) 
theorem ok_kX3_slotsHeld (s : GS) (hI_s : InvG s) : Ok (kX3_slotsHeld s) (Q_kX3_slotsHeld s) := ok_kX3_slotsHeldB s s hI_s
abbrev Q_kX4_isAt (s0 : KS) (y : Int32 × KS) : Prop := InvK y.2 ∧ FrK [] s0 y.2 ∧ 0 ≤ y.1.toInt ∧ y.1.toInt ≤ 1
set_option maxHeartbeats 1000000 in
theorem ok_kX4_isAtB (s0 : KS)  (s : KS) (x1 : Int32) (hI_s : InvK s) (hF_s : FrK [] s0 s)  : Ok (kX4_isAt  s x1) (Q_kX4_isAt s0) := by
  unfold kX4_isAt
  refine ok_ite (fun c_1 => ?_) (fun c_1 => ?_)
  · have c_1 := tn_eq (a := ((s.v 16)).toInt) (b := 0) rfl (by decide) c_1
    have a_2 : 0 ≤ (s.v 15).toInt ∧ (s.v 15).toInt ≤ 400 := hI_s.1 15
    refine ok_grd (vpb_ok (by omega) (by omega)) ?_
    refine ok_ite (fun c_3 => ?_) (fun c_3 => ?_)
    · have c_3 := tn_eq (a := (((s.f 32) (Int32.toNatClampNeg (s.v 15)))).toInt) (b := (x1).toInt) rfl rfl c_3
      exact ok_some ⟨hI_s, hF_s, by show 0 ≤ (1 : Int32).toInt; decide, by show (1 : Int32).toInt ≤ 1; decide⟩
    · have c_3 := tn_ne (a := (((s.f 32) (Int32.toNatClampNeg (s.v 15)))).toInt) (b := (x1).toInt) rfl rfl c_3
      exact ok_some ⟨hI_s, hF_s, by show 0 ≤ (0 : Int32).toInt; decide, by show (0 : Int32).toInt ≤ 1; decide⟩
  · have c_1 := tn_ne (a := ((s.v 16)).toInt) (b := 0) rfl (by decide) c_1
    exact ok_some ⟨hI_s, hF_s, by show 0 ≤ (0 : Int32).toInt; decide, by show (0 : Int32).toInt ≤ 1; decide⟩
theorem ok_kX4_isAt (s : KS) (x1 : Int32) (hI_s : InvK s) : Ok (kX4_isAt s x1) (Q_kX4_isAt s) := ok_kX4_isAtB s s x1 hI_s FrK.rfl
abbrev Q_kX4_fail (s0 : KS) (y : KS) : Prop := InvK y ∧ FrK [16, 17] s0 y
set_option maxHeartbeats 1000000 in
theorem ok_kX4_failB (s0 : KS)  (s : KS) (x1 : Int32) (hI_s : InvK s) (hF_s : FrK [16, 17] s0 s) (h_x1l : 1 ≤ x1.toInt) (h_x1u : x1.toInt ≤ 2)  : Ok (kX4_fail  s x1) (Q_kX4_fail s0) := by
  unfold kX4_fail
  refine ok_ite (fun c_1 => ?_) (fun c_1 => ?_)
  · have c_1 := tn_eq (a := ((s.v 16)).toInt) (b := 0) rfl (by decide) c_1
    refine ok_let (fun s2 hs2 => ?_)
    have hI_s2 : InvK s2 := by rw [← hs2]; exact hI_s.svF (k := 16) rfl rfl
    have hF_s2 : FrK [16, 17] s0 s2 := by rw [← hs2]; exact hF_s.sv (k := 16) (by decide)
    have a_2 : 0 ≤ (s.v 15).toInt ∧ (s.v 15).toInt ≤ 400 := hI_s.1 15
    have a_3 : (s2.v 15).toInt = (s.v 15).toInt := congrArg Int32.toInt (show s2.v 15 = s.v 15 by rw [← hs2]; rfl)
    refine ok_grd (vpb_ok (by omega) (by omega)) ?_
    refine ok_let (fun s5 hs5 => ?_)
    have hI_s5 : InvK s5 := by rw [← hs5]; exact hI_s2.svF (k := 17) rfl rfl
    have hF_s5 : FrK [16, 17] s0 s5 := by rw [← hs5]; exact hF_s2.sv (k := 17) (by decide)
    exact ok_some ⟨hI_s5, hF_s5⟩
  · have c_1 := tn_ne (a := ((s.v 16)).toInt) (b := 0) rfl (by decide) c_1
    exact ok_some ⟨hI_s, hF_s⟩
theorem ok_kX4_fail (s : KS) (x1 : Int32) (hI_s : InvK s) (h_x1l : 1 ≤ x1.toInt) (h_x1u : x1.toInt ≤ 2) : Ok (kX4_fail s x1) (Q_kX4_fail s) := ok_kX4_failB s s x1 hI_s FrK.rfl h_x1l h_x1u
abbrev Q_kX4_failLater (s0 : KS) (y : KS) : Prop := InvK y ∧ FrK [18, 19] s0 y
set_option maxHeartbeats 1000000 in
theorem ok_kX4_failLaterB (s0 : KS)  (s : KS) (x1 : Int32) (x2 : Int32) (hI_s : InvK s) (hF_s : FrK [18, 19] s0 s) (h_x1l : 3 ≤ x1.toInt) (h_x1u : x1.toInt ≤ 5)  : Ok (kX4_failLater  s x1 x2) (Q_kX4_failLater s0) := by
  unfold kX4_failLater
  refine ok_ite (fun c_1 => ?_) (fun c_1 => ?_)
  · have c_1 := tn_eq (a := ((s.v 18)).toInt) (b := 0) rfl (by decide) c_1
    refine ok_let (fun s2 hs2 => ?_)
    have hI_s2 : InvK s2 := by rw [← hs2]; exact hI_s.svF (k := 18) rfl rfl
    have hF_s2 : FrK [18, 19] s0 s2 := by rw [← hs2]; exact hF_s.sv (k := 18) (by decide)
    refine ok_let (fun s4 hs4 => ?_)
    have hI_s4 : InvK s4 := by rw [← hs4]; exact hI_s2.svF (k := 19) rfl rfl
    have hF_s4 : FrK [18, 19] s0 s4 := by rw [← hs4]; exact hF_s2.sv (k := 19) (by decide)
    exact ok_some ⟨hI_s4, hF_s4⟩
  · have c_1 := tn_ne (a := ((s.v 18)).toInt) (b := 0) rfl (by decide) c_1
    exact ok_some ⟨hI_s, hF_s⟩
theorem ok_kX4_failLater (s : KS) (x1 : Int32) (x2 : Int32) (hI_s : InvK s) (h_x1l : 3 ≤ x1.toInt) (h_x1u : x1.toInt ≤ 5) : Ok (kX4_failLater s x1 x2) (Q_kX4_failLater s) := ok_kX4_failLaterB s s x1 x2 hI_s FrK.rfl h_x1l h_x1u
abbrev Q_kX4_take (s0 : KS) (y : KS) : Prop := InvK y ∧ FrK [15, 16, 17] s0 y
set_option maxHeartbeats 1000000 in
theorem ok_kX4_takeB (s0 : KS)  (s : KS) (x1 : Int32) (hI_s : InvK s) (hF_s : FrK [15, 16, 17] s0 s)  : Ok (kX4_take  s x1) (Q_kX4_take s0) := by
  unfold kX4_take
  refine ok_bindI (ok_kX4_isAt _ _ hI_s) (fun r2 s1 hc_1 => ?_)
  have hI_s1 : InvK s1 := hc_1.1
  have hFc_s1 : FrK [] s s1 := hc_1.2.1
  have hF_s1 : FrK [15, 16, 17] s0 s1 := hF_s.trans hFc_s1 (by decide)
  have hl_r2 : 0 ≤ r2.toInt := hc_1.2.2.1
  have hu_r2 : r2.toInt ≤ 1 := hc_1.2.2.2
  refine ok_ite (fun c_2 => ?_) (fun c_2 => ?_)
  · have c_2 := tn_eq (a := (r2).toInt) (b := 0) rfl (by decide) c_2
    refine ok_bindP (ok_kX4_fail _ _ hI_s1 (by decide) (by decide)) (fun s8 hc_3 => ?_)
    have hI_s8 : InvK s8 := hc_3.1
    have hFc_s8 : FrK [16, 17] s1 s8 := hc_3.2
    have hF_s8 : FrK [15, 16, 17] s0 s8 := hF_s1.trans hFc_s8 (by decide)
    exact ok_some ⟨hI_s8, hF_s8⟩
  · have c_2 := tn_ne (a := (r2).toInt) (b := 0) rfl (by decide) c_2
    have a_4 : 0 ≤ (s.v 15).toInt ∧ (s.v 15).toInt ≤ 400 := hI_s.1 15
    have a_5 : (s1.v 15).toInt = (s.v 15).toInt := congrArg Int32.toInt (hFc_s1.1 15 (by decide))
    refine ok_ite (fun c_6 => ?_) (fun c_6 => ?_)
    · have c_6 := tn_lt (a := ((s1.v 15)).toInt) (b := 400) rfl (by decide) c_6
      refine ok_let (fun s5 hs5 => ?_)
      have a_7 : (((s1.v 15) + 1)).toInt = ((s1.v 15)).toInt + 1 := tn_add rfl (by decide) (by omega) (by omega)
      have hI_s5 : InvK s5 := by rw [← hs5]; exact hI_s1.sv (k := 15) (show (0 : Int) ≤ (((s1.v 15) + 1)).toInt by omega) (show (((s1.v 15) + 1)).toInt ≤ (400 : Int) by omega)
      have hF_s5 : FrK [15, 16, 17] s0 s5 := by rw [← hs5]; exact hF_s1.sv (k := 15) (by decide)
      exact ok_some ⟨hI_s5, hF_s5⟩
    · have c_6 := tn_nlt (a := ((s1.v 15)).toInt) (b := 400) rfl (by decide) c_6
      refine ok_bindP (ok_kX4_fail _ _ hI_s1 (by decide) (by decide)) (fun s7 hc_8 => ?_)
      have hI_s7 : InvK s7 := hc_8.1
      have hFc_s7 : FrK [16, 17] s1 s7 := hc_8.2
      have hF_s7 : FrK [15, 16, 17] s0 s7 := hF_s1.trans hFc_s7 (by decide)
      exact ok_some ⟨hI_s7, hF_s7⟩
theorem ok_kX4_take (s : KS) (x1 : Int32) (hI_s : InvK s) : Ok (kX4_take s x1) (Q_kX4_take s) := ok_kX4_takeB s s x1 hI_s FrK.rfl
abbrev Q_kX4_takeInt (s0 : KS) (y : Int32 × KS) : Prop := InvK y.2 ∧ FrK [15, 16, 17, 18, 19] s0 y.2 ∧ -2147483648 ≤ y.1.toInt ∧ y.1.toInt ≤ 2147483647
set_option maxHeartbeats 1000000 in
theorem ok_kX4_takeInt_46 (s0 : KS)  (s : KS) (x2 : Int32) (hI_s : InvK s) (hF_s : FrK [15, 16, 17, 18, 19] s0 s)  : Ok (kX4_takeInt_46  s x2) (Q_kX4_takeInt s0) := by
  unfold kX4_takeInt_46
  refine ok_bindP (ok_kX4_take _ _ hI_s) (fun s1 hc_1 => ?_)
  have hI_s1 : InvK s1 := hc_1.1
  have hFc_s1 : FrK [15, 16, 17] s s1 := hc_1.2
  have hF_s1 : FrK [15, 16, 17, 18, 19] s0 s1 := hF_s.trans hFc_s1 (by decide)
  exact ok_some ⟨hI_s1, hF_s1, (ti_rng _).1, (ti_rng _).2⟩
set_option maxHeartbeats 1000000 in
theorem ok_kX4_takeIntB (s0 : KS)  (s : KS) (x1 : Int32) (hI_s : InvK s) (hF_s : FrK [15, 16, 17, 18, 19] s0 s) (h_x1l : 9 ≤ x1.toInt) (h_x1u : x1.toInt ≤ 9999)  : Ok (kX4_takeInt  s x1) (Q_kX4_takeInt s0) := by
  unfold kX4_takeInt
  have a_1 : 0 ≤ (s.v 15).toInt ∧ (s.v 15).toInt ≤ 400 := hI_s.1 15
  refine ok_grd (vpb_ok (by omega) (by omega)) ?_
  refine ok_bindI (ok_kX4_isAt _ _ hI_s) (fun r3 s2 hc_2 => ?_)
  have hI_s2 : InvK s2 := hc_2.1
  have hFc_s2 : FrK [] s s2 := hc_2.2.1
  have hF_s2 : FrK [15, 16, 17, 18, 19] s0 s2 := hF_s.trans hFc_s2 (by decide)
  have hl_r3 : 0 ≤ r3.toInt := hc_2.2.2.1
  have hu_r3 : r3.toInt ≤ 1 := hc_2.2.2.2
  refine ok_ite (fun c_3 => ?_) (fun c_3 => ?_)
  · have c_3 := tn_eq (a := (r3).toInt) (b := 0) rfl (by decide) c_3
    exact ok_kX4_takeInt_46 s0  _ _ hI_s2 hF_s2 
  · have c_3 := tn_ne (a := (r3).toInt) (b := 0) rfl (by decide) c_3
    refine ok_ite (fun c_4 => ?_) (fun c_4 => ?_)
    · have c_4 := tn_le (a := ((Int64.toInt32 ((s.g 34) (Int32.toNatClampNeg (s.v 15))))).toInt) (b := (x1).toInt) rfl rfl c_4
      exact ok_kX4_takeInt_46 s0  _ _ hI_s2 hF_s2 
    · have c_4 := tn_nle (a := ((Int64.toInt32 ((s.g 34) (Int32.toNatClampNeg (s.v 15))))).toInt) (b := (x1).toInt) rfl rfl c_4
      have a_5 : (s2.v 15).toInt = (s.v 15).toInt := congrArg Int32.toInt (hFc_s2.1 15 (by decide))
      refine ok_grd (vpb_ok (by omega) (by omega)) ?_
      refine ok_bindP (ok_kX4_failLater _ _ _ hI_s2 (by decide) (by decide)) (fun s7 hc_6 => ?_)
      have hI_s7 : InvK s7 := hc_6.1
      have hFc_s7 : FrK [18, 19] s2 s7 := hc_6.2
      have hF_s7 : FrK [15, 16, 17, 18, 19] s0 s7 := hF_s2.trans hFc_s7 (by decide)
      exact ok_kX4_takeInt_46 s0  _ _ hI_s7 hF_s7 
theorem ok_kX4_takeInt (s : KS) (x1 : Int32) (hI_s : InvK s) (h_x1l : 9 ≤ x1.toInt) (h_x1u : x1.toInt ≤ 9999) : Ok (kX4_takeInt s x1) (Q_kX4_takeInt s) := ok_kX4_takeIntB s s x1 hI_s FrK.rfl h_x1l h_x1u
abbrev Q_kX4_readWave (s0 : KS) (y : KS) : Prop := InvK y ∧ FrK [8, 15, 16, 17, 18, 19, 116] s0 y
set_option maxHeartbeats 1000000 in
theorem ok_kX4_readWave_100 (s0 : KS)  (s : KS) (hI_s : InvK s) (hF_s : FrK [8, 15, 16, 17, 18, 19, 116] s0 s) (h_v8u : (s.v 8).toInt ≤ 4)  : Ok (kX4_readWave_100  s) (Q_kX4_readWave s0) := by
  unfold kX4_readWave_100
  refine ok_bindP (ok_kX4_take _ _ hI_s) (fun s1 hc_1 => ?_)
  have hI_s1 : InvK s1 := hc_1.1
  have hFc_s1 : FrK [15, 16, 17] s s1 := hc_1.2
  have hF_s1 : FrK [8, 15, 16, 17, 18, 19, 116] s0 s1 := hF_s.trans hFc_s1 (by decide)
  refine ok_let (fun s2 hs2 => ?_)
  have a_2 : 0 ≤ (s.v 8).toInt ∧ (s.v 8).toInt ≤ 5 := hI_s.1 8
  have a_3 : (s1.v 8).toInt = (s.v 8).toInt := congrArg Int32.toInt (hFc_s1.1 8 (by decide))
  have a_4 : (((s1.v 8) + 1)).toInt = ((s1.v 8)).toInt + 1 := tn_add rfl (by decide) (by omega) (by omega)
  have hI_s2 : InvK s2 := by rw [← hs2]; exact hI_s1.sv (k := 8) (show (0 : Int) ≤ (((s1.v 8) + 1)).toInt by omega) (show (((s1.v 8) + 1)).toInt ≤ (5 : Int) by omega)
  have hF_s2 : FrK [8, 15, 16, 17, 18, 19, 116] s0 s2 := by rw [← hs2]; exact hF_s1.sv (k := 8) (by decide)
  exact ok_some ⟨hI_s2, hF_s2⟩
set_option maxHeartbeats 1000000 in
theorem ok_kX4_readWave_30 (s0 : KS) (k30 : KS → Int32 → Int32 → Int32 → Option (KS)) (M30 : Nat) (hk30 : ∀ (s : KS) (x1 : Int32) (x2 : Int32) (x3 : Int32), InvK s → FrK [8, 15, 16, 17, 18, 19, 116] s0 s → 0 ≤ x3.toInt → x3.toInt ≤ 6 → (s.v 8).toInt ≤ 4 → (6 - x3.toInt).toNat < M30 → Ok (k30 s x1 x2 x3) (Q_kX4_readWave s0)) (s : KS) (x1 : Int32) (x2 : Int32) (x3 : Int32) (hI_s : InvK s) (hF_s : FrK [8, 15, 16, 17, 18, 19, 116] s0 s) (h_x3l : 0 ≤ x3.toInt) (h_x3u : x3.toInt ≤ 6) (h_v8u : (s.v 8).toInt ≤ 4) (hM30 : (6 - x3.toInt).toNat ≤ M30) : Ok (kX4_readWave_30 k30 s x1 x2 x3) (Q_kX4_readWave s0) := by
  unfold kX4_readWave_30
  refine ok_ite (fun c_1 => ?_) (fun c_1 => ?_)
  · have c_1 := tn_le (a := 6) (b := (x3).toInt) (by decide) rfl c_1
    refine ok_ite (fun c_2 => ?_) (fun c_2 => ?_)
    · have c_2 := tn_eq (a := (x1).toInt) (b := 0) rfl (by decide) c_2
      refine ok_bindP (ok_kX4_failLater _ _ _ hI_s (by decide) (by decide)) (fun s3 hc_3 => ?_)
      have hI_s3 : InvK s3 := hc_3.1
      have hFc_s3 : FrK [18, 19] s s3 := hc_3.2
      have hF_s3 : FrK [8, 15, 16, 17, 18, 19, 116] s0 s3 := hF_s.trans hFc_s3 (by decide)
      have a_4 : 0 ≤ (s.v 8).toInt ∧ (s.v 8).toInt ≤ 5 := hI_s.1 8
      have a_5 : (s3.v 8).toInt = (s.v 8).toInt := congrArg Int32.toInt (hFc_s3.1 8 (by decide))
      exact ok_kX4_readWave_100 s0  _ hI_s3 hF_s3 (by omega) 
    · have c_2 := tn_ne (a := (x1).toInt) (b := 0) rfl (by decide) c_2
      have a_6 : 0 ≤ (s.v 8).toInt ∧ (s.v 8).toInt ≤ 5 := hI_s.1 8
      exact ok_kX4_readWave_100 s0  _ hI_s hF_s (by omega) 
  · have c_1 := tn_nle (a := 6) (b := (x3).toInt) (by decide) rfl c_1
    have a_7 : 0 ≤ (s.v 15).toInt ∧ (s.v 15).toInt ≤ 400 := hI_s.1 15
    refine ok_grd (vpb_ok (by omega) (by omega)) ?_
    refine ok_bindI (ok_kX4_takeInt _ _ hI_s (by decide) (by decide)) (fun r6 s5 hc_8 => ?_)
    have hI_s5 : InvK s5 := hc_8.1
    have hFc_s5 : FrK [15, 16, 17, 18, 19] s s5 := hc_8.2.1
    have hF_s5 : FrK [8, 15, 16, 17, 18, 19, 116] s0 s5 := hF_s.trans hFc_s5 (by decide)
    have a_9 : 0 ≤ (s.v 8).toInt ∧ (s.v 8).toInt ≤ 5 := hI_s.1 8
    have a_10 : (s5.v 8).toInt = (s.v 8).toInt := congrArg Int32.toInt (hFc_s5.1 8 (by decide))
    have a_11 : (((s5.v 8) * 6)).toInt = ((s5.v 8)).toInt * 6 := ti_mulc (c := 6) (by decide) (by omega) (by omega)
    have a_12 : ((((s5.v 8) * 6) + x3)).toInt = (((s5.v 8) * 6)).toInt + (x3).toInt := tn_add rfl rfl (by omega) (by omega)
    refine ok_grd (vpb_ok (by omega) (by omega)) ?_
    refine ok_let (fun s8 hs8 => ?_)
    have hI_s8 : InvK s8 := by rw [← hs8]; exact hI_s5.sfF (k := 16) rfl rfl
    have hF_s8 : FrK [8, 15, 16, 17, 18, 19, 116] s0 s8 := by rw [← hs8]; exact hF_s5.sf (k := 16) (by decide)
    have a_13 : ((x3 + 1)).toInt = (x3).toInt + 1 := tn_add rfl (by decide) (by omega) (by omega)
    have a_14 : (s8.v 8).toInt = (s5.v 8).toInt := congrArg Int32.toInt (show s8.v 8 = s5.v 8 by rw [← hs8]; rfl)
    exact hk30 _ _ _ _ hI_s8 hF_s8 (by omega) (by omega) (by omega) (by omega)
theorem okL_kX4_readWave_30 (s0 : KS)  : ∀ (n : Nat) (s : KS) (x1 : Int32) (x2 : Int32) (x3 : Int32), (6 - x3.toInt).toNat < n → InvK s → FrK [8, 15, 16, 17, 18, 19, 116] s0 s → 0 ≤ x3.toInt → x3.toInt ≤ 6 → (s.v 8).toInt ≤ 4 → Ok (kX4_readWave_30L  n s x1 x2 x3) (Q_kX4_readWave s0) := by
  intro n
  induction n with
  | zero => intro s x1 x2 x3 hn; omega
  | succ n ih =>
    intro s x1 x2 x3 hn hI_s hF_s h_x3l h_x3u h_v8u 
    exact ok_kX4_readWave_30 s0 (kX4_readWave_30L  n) ((6 - x3.toInt).toNat) (fun zs zx1 zx2 zx3 g0 g1 g2 g3 g4  hm => ih zs zx1 zx2 zx3 (by omega) g0 g1 g2 g3 g4 ) s x1 x2 x3 hI_s hF_s h_x3l h_x3u h_v8u (Nat.le_refl _)
set_option maxHeartbeats 1000000 in
theorem ok_kX4_readWaveB (s0 : KS)  (s : KS) (hI_s : InvK s) (hF_s : FrK [8, 15, 16, 17, 18, 19, 116] s0 s)  : Ok (kX4_readWave  s) (Q_kX4_readWave s0) := by
  unfold kX4_readWave
  have a_1 : 0 ≤ (s.v 8).toInt ∧ (s.v 8).toInt ≤ 5 := hI_s.1 8
  refine ok_ite (fun c_2 => ?_) (fun c_2 => ?_)
  · have c_2 := tn_lt (a := ((s.v 8)).toInt) (b := 5) rfl (by decide) c_2
    refine ok_bindP (ok_kX4_take _ _ hI_s) (fun s2 hc_3 => ?_)
    have hI_s2 : InvK s2 := hc_3.1
    have hFc_s2 : FrK [15, 16, 17] s s2 := hc_3.2
    have hF_s2 : FrK [8, 15, 16, 17, 18, 19, 116] s0 s2 := hF_s.trans hFc_s2 (by decide)
    have a_4 : (s2.v 8).toInt = (s.v 8).toInt := congrArg Int32.toInt (hFc_s2.1 8 (by decide))
    have l_0 : (0 : Int32).toInt = 0 := by decide
    have l_m1 : ((-1) : Int32).toInt = -1 := by decide
    exact okL_kX4_readWave_30 s0  fu _ _ _ _ (by unfold fu; omega) hI_s2 hF_s2 (by decide) (by decide) (by omega) 
  · have c_2 := tn_nlt (a := ((s.v 8)).toInt) (b := 5) rfl (by decide) c_2
    refine ok_bindP (ok_kX4_fail _ _ hI_s (by decide) (by decide)) (fun s3 hc_5 => ?_)
    have hI_s3 : InvK s3 := hc_5.1
    have hFc_s3 : FrK [16, 17] s s3 := hc_5.2
    have hF_s3 : FrK [8, 15, 16, 17, 18, 19, 116] s0 s3 := hF_s.trans hFc_s3 (by decide)
    exact ok_some ⟨hI_s3, hF_s3⟩
theorem ok_kX4_readWave (s : KS) (hI_s : InvK s) : Ok (kX4_readWave s) (Q_kX4_readWave s) := ok_kX4_readWaveB s s hI_s FrK.rfl
abbrev Q_kX4_isTold (s0 : KS) (y : Int32 × KS) : Prop := InvK y.2 ∧ FrK [] s0 y.2 ∧ 0 ≤ y.1.toInt ∧ y.1.toInt ≤ 1
set_option maxHeartbeats 1000000 in
theorem ok_kX4_isTold_2 (s0 : KS) (k2 : KS → Int64 → Int32 → Option (Int32 × KS)) (M2 : Nat) (hk2 : ∀ (s : KS) (x1 : Int64) (x3 : Int32), InvK s → FrK [] s0 s → 0 ≤ x3.toInt → x3.toInt ≤ 6 → (6 - x3.toInt).toNat < M2 → Ok (k2 s x1 x3) (Q_kX4_isTold s0)) (s : KS) (x1 : Int64) (x3 : Int32) (hI_s : InvK s) (hF_s : FrK [] s0 s) (h_x3l : 0 ≤ x3.toInt) (h_x3u : x3.toInt ≤ 6) (hM2 : (6 - x3.toInt).toNat ≤ M2) : Ok (kX4_isTold_2 k2 s x1 x3) (Q_kX4_isTold s0) := by
  unfold kX4_isTold_2
  have a_1 : 0 ≤ (s.v 9).toInt ∧ (s.v 9).toInt ≤ 6 := hI_s.1 9
  refine ok_ite (fun c_2 => ?_) (fun c_2 => ?_)
  · have c_2 := tn_le (a := ((s.v 9)).toInt) (b := (x3).toInt) rfl rfl c_2
    exact ok_some ⟨hI_s, hF_s, by show 0 ≤ (0 : Int32).toInt; decide, by show (0 : Int32).toInt ≤ 1; decide⟩
  · have c_2 := tn_nle (a := ((s.v 9)).toInt) (b := (x3).toInt) rfl rfl c_2
    refine ok_grd (vpb_ok (by omega) (by omega)) ?_
    refine ok_ite (fun c_3 => ?_) (fun c_3 => ?_)
    · have c_3 := tn_eq (a := ((lg_cmp ((s.g 29) (Int32.toNatClampNeg x3)) x1)).toInt) (b := 0) rfl (by decide) c_3
      exact ok_some ⟨hI_s, hF_s, by show 0 ≤ (1 : Int32).toInt; decide, by show (1 : Int32).toInt ≤ 1; decide⟩
    · have c_3 := tn_ne (a := ((lg_cmp ((s.g 29) (Int32.toNatClampNeg x3)) x1)).toInt) (b := 0) rfl (by decide) c_3
      have a_4 : ((x3 + 1)).toInt = (x3).toInt + 1 := tn_add rfl (by decide) (by omega) (by omega)
      exact hk2 _ _ _ hI_s hF_s (by omega) (by omega) (by omega)
theorem okL_kX4_isTold_2 (s0 : KS)  : ∀ (n : Nat) (s : KS) (x1 : Int64) (x3 : Int32), (6 - x3.toInt).toNat < n → InvK s → FrK [] s0 s → 0 ≤ x3.toInt → x3.toInt ≤ 6 → Ok (kX4_isTold_2L  n s x1 x3) (Q_kX4_isTold s0) := by
  intro n
  induction n with
  | zero => intro s x1 x3 hn; omega
  | succ n ih =>
    intro s x1 x3 hn hI_s hF_s h_x3l h_x3u 
    exact ok_kX4_isTold_2 s0 (kX4_isTold_2L  n) ((6 - x3.toInt).toNat) (fun zs zx1 zx3 g0 g1 g2 g3  hm => ih zs zx1 zx3 (by omega) g0 g1 g2 g3 ) s x1 x3 hI_s hF_s h_x3l h_x3u (Nat.le_refl _)
set_option maxHeartbeats 1000000 in
theorem ok_kX4_isToldB (s0 : KS)  (s : KS) (x1 : Int64) (hI_s : InvK s) (hF_s : FrK [] s0 s)  : Ok (kX4_isTold  s x1) (Q_kX4_isTold s0) := by
  unfold kX4_isTold
  have l_0 : (0 : Int32).toInt = 0 := by decide
  exact okL_kX4_isTold_2 s0  fu _ _ _ (by unfold fu; omega) hI_s hF_s (by decide) (by decide) 
theorem ok_kX4_isTold (s : KS) (x1 : Int64) (hI_s : InvK s) : Ok (kX4_isTold s x1) (Q_kX4_isTold s) := ok_kX4_isToldB s s x1 hI_s FrK.rfl
abbrev Q_kX5_copyFrom (s0 : KS) (y : KS) : Prop := InvK y ∧ FrK [1, 2, 3, 4, 5, 103, 104, 105, 106, 107, 109, 110, 111, 112] s0 y
set_option maxHeartbeats 1000000 in
theorem ok_kX5_copyFromB (s0 : KS)  (s : KS) (hI_s : InvK s) (hF_s : FrK [1, 2, 3, 4, 5, 103, 104, 105, 106, 107, 109, 110, 111, 112] s0 s)  : Ok (kX5_copyFrom  s) (Q_kX5_copyFrom s0) := by
  unfold kX5_copyFrom
  refine ok_let (fun s1 hs1 => ?_)
  have hI_s1 : InvK s1 := by rw [← hs1]; exact hI_s.saF (k := 3) rfl rfl
  have hF_s1 : FrK [1, 2, 3, 4, 5, 103, 104, 105, 106, 107, 109, 110, 111, 112] s0 s1 := by rw [← hs1]; exact hF_s.sa (k := 3) (by decide)
  refine ok_let (fun s3 hs3 => ?_)
  have hI_s3 : InvK s3 := by rw [← hs3]; exact hI_s1.saF (k := 4) rfl rfl
  have hF_s3 : FrK [1, 2, 3, 4, 5, 103, 104, 105, 106, 107, 109, 110, 111, 112] s0 s3 := by rw [← hs3]; exact hF_s1.sa (k := 4) (by decide)
  refine ok_let (fun s5 hs5 => ?_)
  have hI_s5 : InvK s5 := by rw [← hs5]; exact hI_s3.saF (k := 5) rfl rfl
  have hF_s5 : FrK [1, 2, 3, 4, 5, 103, 104, 105, 106, 107, 109, 110, 111, 112] s0 s5 := by rw [← hs5]; exact hF_s3.sa (k := 5) (by decide)
  refine ok_let (fun s7 hs7 => ?_)
  have hI_s7 : InvK s7 := by rw [← hs7]; exact hI_s5.saF (k := 6) rfl rfl
  have hF_s7 : FrK [1, 2, 3, 4, 5, 103, 104, 105, 106, 107, 109, 110, 111, 112] s0 s7 := by rw [← hs7]; exact hF_s5.sa (k := 6) (by decide)
  refine ok_let (fun s9 hs9 => ?_)
  have hI_s9 : InvK s9 := by rw [← hs9]; exact hI_s7.saF (k := 7) rfl rfl
  have hF_s9 : FrK [1, 2, 3, 4, 5, 103, 104, 105, 106, 107, 109, 110, 111, 112] s0 s9 := by rw [← hs9]; exact hF_s7.sa (k := 7) (by decide)
  refine ok_bindP (ok_kX1_copyFrom _  hI_s9) (fun s11 hc_1 => ?_)
  have hI_s11 : InvK s11 := hc_1.1
  have hFc_s11 : FrK [5, 109, 110, 111, 112] s9 s11 := hc_1.2
  have hF_s11 : FrK [1, 2, 3, 4, 5, 103, 104, 105, 106, 107, 109, 110, 111, 112] s0 s11 := hF_s9.trans hFc_s11 (by decide)
  refine ok_let (fun s12 hs12 => ?_)
  have a_2 : 0 ≤ (s.v 8).toInt ∧ (s.v 8).toInt ≤ 5 := hI_s.1 8
  have a_3 : (s1.v 8).toInt = (s.v 8).toInt := congrArg Int32.toInt (show s1.v 8 = s.v 8 by rw [← hs1]; rfl)
  have a_4 : (s3.v 8).toInt = (s1.v 8).toInt := congrArg Int32.toInt (show s3.v 8 = s1.v 8 by rw [← hs3]; rfl)
  have a_5 : (s5.v 8).toInt = (s3.v 8).toInt := congrArg Int32.toInt (show s5.v 8 = s3.v 8 by rw [← hs5]; rfl)
  have a_6 : (s7.v 8).toInt = (s5.v 8).toInt := congrArg Int32.toInt (show s7.v 8 = s5.v 8 by rw [← hs7]; rfl)
  have a_7 : (s9.v 8).toInt = (s7.v 8).toInt := congrArg Int32.toInt (show s9.v 8 = s7.v 8 by rw [← hs9]; rfl)
  have a_8 : (s11.v 8).toInt = (s9.v 8).toInt := congrArg Int32.toInt (hFc_s11.1 8 (by decide))
  have hI_s12 : InvK s12 := by rw [← hs12]; exact hI_s11.sv (k := 1) (show (0 : Int) ≤ ((s11.v 8)).toInt by omega) (show ((s11.v 8)).toInt ≤ (5 : Int) by omega)
  have hF_s12 : FrK [1, 2, 3, 4, 5, 103, 104, 105, 106, 107, 109, 110, 111, 112] s0 s12 := by rw [← hs12]; exact hF_s11.sv (k := 1) (by decide)
  refine ok_let (fun s14 hs14 => ?_)
  have a_9 : 0 ≤ (s.v 9).toInt ∧ (s.v 9).toInt ≤ 6 := hI_s.1 9
  have a_10 : (s1.v 9).toInt = (s.v 9).toInt := congrArg Int32.toInt (show s1.v 9 = s.v 9 by rw [← hs1]; rfl)
  have a_11 : (s3.v 9).toInt = (s1.v 9).toInt := congrArg Int32.toInt (show s3.v 9 = s1.v 9 by rw [← hs3]; rfl)
  have a_12 : (s5.v 9).toInt = (s3.v 9).toInt := congrArg Int32.toInt (show s5.v 9 = s3.v 9 by rw [← hs5]; rfl)
  have a_13 : (s7.v 9).toInt = (s5.v 9).toInt := congrArg Int32.toInt (show s7.v 9 = s5.v 9 by rw [← hs7]; rfl)
  have a_14 : (s9.v 9).toInt = (s7.v 9).toInt := congrArg Int32.toInt (show s9.v 9 = s7.v 9 by rw [← hs9]; rfl)
  have a_15 : (s11.v 9).toInt = (s9.v 9).toInt := congrArg Int32.toInt (hFc_s11.1 9 (by decide))
  have a_16 : (s12.v 9).toInt = (s11.v 9).toInt := congrArg Int32.toInt (show s12.v 9 = s11.v 9 by rw [← hs12]; rfl)
  have hI_s14 : InvK s14 := by rw [← hs14]; exact hI_s12.sv (k := 2) (show (0 : Int) ≤ ((s12.v 9)).toInt by omega) (show ((s12.v 9)).toInt ≤ (6 : Int) by omega)
  have hF_s14 : FrK [1, 2, 3, 4, 5, 103, 104, 105, 106, 107, 109, 110, 111, 112] s0 s14 := by rw [← hs14]; exact hF_s12.sv (k := 2) (by decide)
  refine ok_let (fun s16 hs16 => ?_)
  have a_17 : (s1.v 10).toInt = (s.v 10).toInt := congrArg Int32.toInt (show s1.v 10 = s.v 10 by rw [← hs1]; rfl)
  have a_18 : (s3.v 10).toInt = (s1.v 10).toInt := congrArg Int32.toInt (show s3.v 10 = s1.v 10 by rw [← hs3]; rfl)
  have a_19 : (s5.v 10).toInt = (s3.v 10).toInt := congrArg Int32.toInt (show s5.v 10 = s3.v 10 by rw [← hs5]; rfl)
  have a_20 : (s7.v 10).toInt = (s5.v 10).toInt := congrArg Int32.toInt (show s7.v 10 = s5.v 10 by rw [← hs7]; rfl)
  have a_21 : (s9.v 10).toInt = (s7.v 10).toInt := congrArg Int32.toInt (show s9.v 10 = s7.v 10 by rw [← hs9]; rfl)
  have a_22 : (s11.v 10).toInt = (s9.v 10).toInt := congrArg Int32.toInt (hFc_s11.1 10 (by decide))
  have a_23 : (s12.v 10).toInt = (s11.v 10).toInt := congrArg Int32.toInt (show s12.v 10 = s11.v 10 by rw [← hs12]; rfl)
  have a_24 : (s14.v 10).toInt = (s12.v 10).toInt := congrArg Int32.toInt (show s14.v 10 = s12.v 10 by rw [← hs14]; rfl)
  have hI_s16 : InvK s16 := by rw [← hs16]; exact hI_s14.svF (k := 3) rfl rfl
  have hF_s16 : FrK [1, 2, 3, 4, 5, 103, 104, 105, 106, 107, 109, 110, 111, 112] s0 s16 := by rw [← hs16]; exact hF_s14.sv (k := 3) (by decide)
  refine ok_let (fun s18 hs18 => ?_)
  have a_25 : (s1.v 11).toInt = (s.v 11).toInt := congrArg Int32.toInt (show s1.v 11 = s.v 11 by rw [← hs1]; rfl)
  have a_26 : (s3.v 11).toInt = (s1.v 11).toInt := congrArg Int32.toInt (show s3.v 11 = s1.v 11 by rw [← hs3]; rfl)
  have a_27 : (s5.v 11).toInt = (s3.v 11).toInt := congrArg Int32.toInt (show s5.v 11 = s3.v 11 by rw [← hs5]; rfl)
  have a_28 : (s7.v 11).toInt = (s5.v 11).toInt := congrArg Int32.toInt (show s7.v 11 = s5.v 11 by rw [← hs7]; rfl)
  have a_29 : (s9.v 11).toInt = (s7.v 11).toInt := congrArg Int32.toInt (show s9.v 11 = s7.v 11 by rw [← hs9]; rfl)
  have a_30 : (s11.v 11).toInt = (s9.v 11).toInt := congrArg Int32.toInt (hFc_s11.1 11 (by decide))
  have a_31 : (s12.v 11).toInt = (s11.v 11).toInt := congrArg Int32.toInt (show s12.v 11 = s11.v 11 by rw [← hs12]; rfl)
  have a_32 : (s14.v 11).toInt = (s12.v 11).toInt := congrArg Int32.toInt (show s14.v 11 = s12.v 11 by rw [← hs14]; rfl)
  have a_33 : (s16.v 11).toInt = (s14.v 11).toInt := congrArg Int32.toInt (show s16.v 11 = s14.v 11 by rw [← hs16]; rfl)
  have hI_s18 : InvK s18 := by rw [← hs18]; exact hI_s16.svF (k := 4) rfl rfl
  have hF_s18 : FrK [1, 2, 3, 4, 5, 103, 104, 105, 106, 107, 109, 110, 111, 112] s0 s18 := by rw [← hs18]; exact hF_s16.sv (k := 4) (by decide)
  exact ok_some ⟨hI_s18, hF_s18⟩
theorem ok_kX5_copyFrom (s : KS) (hI_s : InvK s) : Ok (kX5_copyFrom s) (Q_kX5_copyFrom s) := ok_kX5_copyFromB s s hI_s FrK.rfl
abbrev Q_kX5_hasWave (s0 : KS) (x1 : Int32) (y : Int32 × KS) : Prop := InvK y.2 ∧ FrK [] s0 y.2 ∧ 0 ≤ y.1.toInt ∧ y.1.toInt ≤ 1 ∧ (¬ y.1.toInt = 0 → 0 ≤ (x1).toInt ∧ (x1).toInt ≤ 4)
set_option maxHeartbeats 1000000 in
theorem ok_kX5_hasWaveB (s0 : KS)  (s : KS) (x1 : Int32) (hI_s : InvK s) (hF_s : FrK [] s0 s)  : Ok (kX5_hasWave  s x1) (Q_kX5_hasWave s0 x1) := by
  unfold kX5_hasWave
  refine ok_ite (fun c_1 => ?_) (fun c_1 => ?_)
  · have c_1 := tn_lt (a := (x1).toInt) (b := 0) rfl (by decide) c_1
    exact ok_some ⟨hI_s, hF_s, by show 0 ≤ (0 : Int32).toInt; decide, by show (0 : Int32).toInt ≤ 1; decide, by show (¬ (0 : Int32).toInt = 0 → 0 ≤ (x1).toInt ∧ (x1).toInt ≤ 4); have l := (by decide : (0 : Int32).toInt = 0); omega⟩
  · have c_1 := tn_nlt (a := (x1).toInt) (b := 0) rfl (by decide) c_1
    have a_2 : 0 ≤ (s.v 1).toInt ∧ (s.v 1).toInt ≤ 5 := hI_s.1 1
    refine ok_ite (fun c_3 => ?_) (fun c_3 => ?_)
    · have c_3 := tn_le (a := ((s.v 1)).toInt) (b := (x1).toInt) rfl rfl c_3
      exact ok_some ⟨hI_s, hF_s, by show 0 ≤ (0 : Int32).toInt; decide, by show (0 : Int32).toInt ≤ 1; decide, by show (¬ (0 : Int32).toInt = 0 → 0 ≤ (x1).toInt ∧ (x1).toInt ≤ 4); have l := (by decide : (0 : Int32).toInt = 0); omega⟩
    · have c_3 := tn_nle (a := ((s.v 1)).toInt) (b := (x1).toInt) rfl rfl c_3
      exact ok_some ⟨hI_s, hF_s, by show 0 ≤ (1 : Int32).toInt; decide, by show (1 : Int32).toInt ≤ 1; decide, by show (¬ (1 : Int32).toInt = 0 → 0 ≤ (x1).toInt ∧ (x1).toInt ≤ 4); have l := (by decide : (1 : Int32).toInt = 1); omega⟩
theorem ok_kX5_hasWave (s : KS) (x1 : Int32) (hI_s : InvK s) : Ok (kX5_hasWave s x1) (Q_kX5_hasWave s x1) := ok_kX5_hasWaveB s s x1 hI_s FrK.rfl
abbrev Q_kX5_hasParty (s0 : KS) (x1 : Int32) (y : Int32 × KS) : Prop := InvK y.2 ∧ FrK [] s0 y.2 ∧ 0 ≤ y.1.toInt ∧ y.1.toInt ≤ 1 ∧ (¬ y.1.toInt = 0 → 0 ≤ (x1).toInt ∧ (x1).toInt ≤ 5)
set_option maxHeartbeats 1000000 in
theorem ok_kX5_hasPartyB (s0 : KS)  (s : KS) (x1 : Int32) (hI_s : InvK s) (hF_s : FrK [] s0 s)  : Ok (kX5_hasParty  s x1) (Q_kX5_hasParty s0 x1) := by
  unfold kX5_hasParty
  refine ok_ite (fun c_1 => ?_) (fun c_1 => ?_)
  · have c_1 := tn_lt (a := (x1).toInt) (b := 0) rfl (by decide) c_1
    exact ok_some ⟨hI_s, hF_s, by show 0 ≤ (0 : Int32).toInt; decide, by show (0 : Int32).toInt ≤ 1; decide, by show (¬ (0 : Int32).toInt = 0 → 0 ≤ (x1).toInt ∧ (x1).toInt ≤ 5); have l := (by decide : (0 : Int32).toInt = 0); omega⟩
  · have c_1 := tn_nlt (a := (x1).toInt) (b := 0) rfl (by decide) c_1
    have a_2 : 0 ≤ (s.v 2).toInt ∧ (s.v 2).toInt ≤ 6 := hI_s.1 2
    refine ok_ite (fun c_3 => ?_) (fun c_3 => ?_)
    · have c_3 := tn_le (a := ((s.v 2)).toInt) (b := (x1).toInt) rfl rfl c_3
      exact ok_some ⟨hI_s, hF_s, by show 0 ≤ (0 : Int32).toInt; decide, by show (0 : Int32).toInt ≤ 1; decide, by show (¬ (0 : Int32).toInt = 0 → 0 ≤ (x1).toInt ∧ (x1).toInt ≤ 5); have l := (by decide : (0 : Int32).toInt = 0); omega⟩
    · have c_3 := tn_nle (a := ((s.v 2)).toInt) (b := (x1).toInt) rfl rfl c_3
      exact ok_some ⟨hI_s, hF_s, by show 0 ≤ (1 : Int32).toInt; decide, by show (1 : Int32).toInt ≤ 1; decide, by show (¬ (1 : Int32).toInt = 0 → 0 ≤ (x1).toInt ∧ (x1).toInt ≤ 5); have l := (by decide : (1 : Int32).toInt = 1); omega⟩
theorem ok_kX5_hasParty (s : KS) (x1 : Int32) (hI_s : InvK s) : Ok (kX5_hasParty s x1) (Q_kX5_hasParty s x1) := ok_kX5_hasPartyB s s x1 hI_s FrK.rfl
abbrev Q_kX5_hasGuess (s0 : KS) (x1 : Int32) (y : Int32 × KS) : Prop := InvK y.2 ∧ FrK [] s0 y.2 ∧ 0 ≤ y.1.toInt ∧ y.1.toInt ≤ 1 ∧ (¬ y.1.toInt = 0 → 0 ≤ (x1).toInt)
set_option maxHeartbeats 1000000 in
theorem ok_kX5_hasGuessB (s0 : KS)  (s : KS) (x1 : Int32) (hI_s : InvK s) (hF_s : FrK [] s0 s)  : Ok (kX5_hasGuess  s x1) (Q_kX5_hasGuess s0 x1) := by
  unfold kX5_hasGuess
  refine ok_ite (fun c_1 => ?_) (fun c_1 => ?_)
  · have c_1 := tn_lt (a := (x1).toInt) (b := 0) rfl (by decide) c_1
    exact ok_some ⟨hI_s, hF_s, by show 0 ≤ (0 : Int32).toInt; decide, by show (0 : Int32).toInt ≤ 1; decide, by show (¬ (0 : Int32).toInt = 0 → 0 ≤ (x1).toInt); have l := (by decide : (0 : Int32).toInt = 0); omega⟩
  · have c_1 := tn_nlt (a := (x1).toInt) (b := 0) rfl (by decide) c_1
    refine ok_ite (fun c_2 => ?_) (fun c_2 => ?_)
    · have c_2 := tn_le (a := ((s.v 3)).toInt) (b := (x1).toInt) rfl rfl c_2
      exact ok_some ⟨hI_s, hF_s, by show 0 ≤ (0 : Int32).toInt; decide, by show (0 : Int32).toInt ≤ 1; decide, by show (¬ (0 : Int32).toInt = 0 → 0 ≤ (x1).toInt); have l := (by decide : (0 : Int32).toInt = 0); omega⟩
    · have c_2 := tn_nle (a := ((s.v 3)).toInt) (b := (x1).toInt) rfl rfl c_2
      exact ok_some ⟨hI_s, hF_s, by show 0 ≤ (1 : Int32).toInt; decide, by show (1 : Int32).toInt ≤ 1; decide, by show (¬ (1 : Int32).toInt = 0 → 0 ≤ (x1).toInt); have l := (by decide : (1 : Int32).toInt = 1); omega⟩
theorem ok_kX5_hasGuess (s : KS) (x1 : Int32) (hI_s : InvK s) : Ok (kX5_hasGuess s x1) (Q_kX5_hasGuess s x1) := ok_kX5_hasGuessB s s x1 hI_s FrK.rfl
abbrev Q_kX5_oddsAt (s0 : KS) (y : Int32 × KS) : Prop := InvK y.2 ∧ FrK [] s0 y.2 ∧ -2147483648 ≤ y.1.toInt ∧ y.1.toInt ≤ 2147483647
set_option maxHeartbeats 1000000 in
theorem ok_kX5_oddsAtB (s0 : KS)  (s : KS) (x1 : Int32) (x2 : Int32) (hI_s : InvK s) (hF_s : FrK [] s0 s) (h_x1l : 0 ≤ x1.toInt) (h_x1u : x1.toInt ≤ 4) (h_x2l : 0 ≤ x2.toInt) (h_x2u : x2.toInt ≤ 5)  : Ok (kX5_oddsAt  s x1 x2) (Q_kX5_oddsAt s0) := by
  unfold kX5_oddsAt
  have a_1 : ((x1 * 6)).toInt = (x1).toInt * 6 := ti_mulc (c := 6) (by decide) (by omega) (by omega)
  have a_2 : (((x1 * 6) + x2)).toInt = ((x1 * 6)).toInt + (x2).toInt := tn_add rfl rfl (by omega) (by omega)
  refine ok_grd (vpb_ok (by omega) (by omega)) ?_
  exact ok_some ⟨hI_s, hF_s, (ti_rng _).1, (ti_rng _).2⟩
theorem ok_kX5_oddsAt (s : KS) (x1 : Int32) (x2 : Int32) (hI_s : InvK s) (h_x1l : 0 ≤ x1.toInt) (h_x1u : x1.toInt ≤ 4) (h_x2l : 0 ≤ x2.toInt) (h_x2u : x2.toInt ≤ 5) : Ok (kX5_oddsAt s x1 x2) (Q_kX5_oddsAt s) := ok_kX5_oddsAtB s s x1 x2 hI_s FrK.rfl h_x1l h_x1u h_x2l h_x2u
abbrev Q_kX5_oddsAt_d (s0 : KS) (y : Int32 × KS) : Prop := InvK y.2 ∧ FrK [] s0 y.2 ∧ -2147483648 ≤ y.1.toInt ∧ y.1.toInt ≤ 2147483647
set_option maxHeartbeats 1000000 in
theorem ok_kX5_oddsAt_dB (s0 : KS)  (s : KS) (x1 : Int32) (x2 : Int32) (hI_s : InvK s) (hF_s : FrK [] s0 s) (h_x1l : 0 ≤ x1.toInt) (h_x1u : x1.toInt ≤ 4) (h_x2l : 0 ≤ x2.toInt) (h_x2u : x2.toInt ≤ 5)  : Ok (kX5_oddsAt_d  s x1 x2) (Q_kX5_oddsAt_d s0) := by
  unfold kX5_oddsAt_d
  have a_1 : ((x1 * 6)).toInt = (x1).toInt * 6 := ti_mulc (c := 6) (by decide) (by omega) (by omega)
  have a_2 : (((x1 * 6) + x2)).toInt = ((x1 * 6)).toInt + (x2).toInt := tn_add rfl rfl (by omega) (by omega)
  refine ok_grd (vpb_ok (by omega) (by omega)) ?_
  exact ok_some ⟨hI_s, hF_s, (ti_rng _).1, (ti_rng _).2⟩
theorem ok_kX5_oddsAt_d (s : KS) (x1 : Int32) (x2 : Int32) (hI_s : InvK s) (h_x1l : 0 ≤ x1.toInt) (h_x1u : x1.toInt ≤ 4) (h_x2l : 0 ≤ x2.toInt) (h_x2u : x2.toInt ≤ 5) : Ok (kX5_oddsAt_d s x1 x2) (Q_kX5_oddsAt_d s) := ok_kX5_oddsAt_dB s s x1 x2 hI_s FrK.rfl h_x1l h_x1u h_x2l h_x2u
abbrev Q_kX6_copyFrom (s0 : DS) (y : DS) : Prop := True
set_option maxHeartbeats 1000000 in
theorem ok_kX6_copyFromB (s0 : DS)  (s : DS)   : Ok (kX6_copyFrom  s) (Q_kX6_copyFrom s0) := by
  unfold kX6_copyFrom
  refine ok_let (fun s1 hs1 => ?_)
  refine ok_let (fun s3 hs3 => ?_)
  refine ok_let (fun s5 hs5 => ?_)
  refine ok_let (fun s7 hs7 => ?_)
  refine ok_let (fun s9 hs9 => ?_)
  refine ok_let (fun s11 hs11 => ?_)
  refine ok_let (fun s13 hs13 => ?_)
  exact ok_some (trivial)
theorem ok_kX6_copyFrom (s : DS)  : Ok (kX6_copyFrom s) (Q_kX6_copyFrom s) := ok_kX6_copyFromB s s 
abbrev Q_kX7_hasRoomFor (s0 : KS) (y : Int32 × KS) : Prop := InvK y.2 ∧ FrK [] s0 y.2 ∧ 0 ≤ y.1.toInt ∧ y.1.toInt ≤ 1
set_option maxHeartbeats 1000000 in
theorem ok_kX7_hasRoomForB (s0 : KS)  (s : KS) (x1 : Int32) (hI_s : InvK s) (hF_s : FrK [] s0 s) (h_x1l : 20 ≤ x1.toInt) (h_x1u : x1.toInt ≤ 20)  : Ok (kX7_hasRoomFor  s x1) (Q_kX7_hasRoomFor s0) := by
  unfold kX7_hasRoomFor
  have a_1 : 0 ≤ (s.v 0).toInt ∧ (s.v 0).toInt ≤ 2000 := hI_s.1 0
  have a_2 : ((2000 - (s.v 0))).toInt = 2000 - ((s.v 0)).toInt := tn_sub (by decide) rfl (by omega) (by omega)
  refine ok_ite (fun c_3 => ?_) (fun c_3 => ?_)
  · have c_3 := tn_lt (a := ((2000 - (s.v 0))).toInt) (b := (x1).toInt) rfl rfl c_3
    exact ok_some ⟨hI_s, hF_s, by show 0 ≤ (0 : Int32).toInt; decide, by show (0 : Int32).toInt ≤ 1; decide⟩
  · have c_3 := tn_nlt (a := ((2000 - (s.v 0))).toInt) (b := (x1).toInt) rfl rfl c_3
    exact ok_some ⟨hI_s, hF_s, by show 0 ≤ (1 : Int32).toInt; decide, by show (1 : Int32).toInt ≤ 1; decide⟩
theorem ok_kX7_hasRoomFor (s : KS) (x1 : Int32) (hI_s : InvK s) (h_x1l : 20 ≤ x1.toInt) (h_x1u : x1.toInt ≤ 20) : Ok (kX7_hasRoomFor s x1) (Q_kX7_hasRoomFor s) := ok_kX7_hasRoomForB s s x1 hI_s FrK.rfl h_x1l h_x1u
abbrev Q_kX7_addFour (s0 : KS) (y : KS) : Prop := InvK y ∧ FrK [0, 101] s0 y
set_option maxHeartbeats 1000000 in
theorem ok_kX7_addFour_42 (s0 : KS) (k3 : KS → Int32 → Int32 → Option (KS)) (M3 : Nat) (hk3 : ∀ (s : KS) (x1 : Int32) (x2 : Int32), InvK s → FrK [0, 101] s0 s → -8 ≤ x2.toInt → x2.toInt ≤ 24 → (x2.toInt - (-8)).toNat < M3 → Ok (k3 s x1 x2) (Q_kX7_addFour s0)) (s : KS) (x1 : Int32) (x2 : Int32) (hI_s : InvK s) (hF_s : FrK [0, 101] s0 s) (h_x2l : 0 ≤ x2.toInt) (h_x2u : x2.toInt ≤ 24) (hM3 : (x2.toInt - (-8)).toNat ≤ M3) : Ok (kX7_addFour_42 k3 s x1 x2) (Q_kX7_addFour s0) := by
  unfold kX7_addFour_42
  rw [show x2 + (-8) = x2 - 8 from (Int32.sub_eq_add_neg x2 8).symm]
  have a_1 : ((x2 - 8)).toInt = (x2).toInt - 8 := tn_sub rfl (by decide) (by omega) (by omega)
  exact hk3 _ _ _ hI_s hF_s (by omega) (by omega) (by omega)
set_option maxHeartbeats 1000000 in
theorem ok_kX7_addFour_3 (s0 : KS) (k3 : KS → Int32 → Int32 → Option (KS)) (M3 : Nat) (hk3 : ∀ (s : KS) (x1 : Int32) (x2 : Int32), InvK s → FrK [0, 101] s0 s → -8 ≤ x2.toInt → x2.toInt ≤ 24 → (x2.toInt - (-8)).toNat < M3 → Ok (k3 s x1 x2) (Q_kX7_addFour s0)) (s : KS) (x1 : Int32) (x2 : Int32) (hI_s : InvK s) (hF_s : FrK [0, 101] s0 s) (h_x2l : -8 ≤ x2.toInt) (h_x2u : x2.toInt ≤ 24) (hM3 : (x2.toInt - (-8)).toNat ≤ M3) : Ok (kX7_addFour_3 k3 s x1 x2) (Q_kX7_addFour s0) := by
  unfold kX7_addFour_3
  refine ok_ite (fun c_1 => ?_) (fun c_1 => ?_)
  · have c_1 := tn_lt (a := (x2).toInt) (b := 0) rfl (by decide) c_1
    exact ok_some ⟨hI_s, hF_s⟩
  · have c_1 := tn_nlt (a := (x2).toInt) (b := 0) rfl (by decide) c_1
    have a_2 : 0 ≤ (s.v 0).toInt ∧ (s.v 0).toInt ≤ 2000 := hI_s.1 0
    refine ok_ite (fun c_3 => ?_) (fun c_3 => ?_)
    · have c_3 := tn_le (a := 2000) (b := ((s.v 0)).toInt) (by decide) rfl c_3
      exact ok_kX7_addFour_42 s0 k3 M3 hk3 _ _ _ hI_s hF_s (by omega) (by omega) (by omega)
    · have c_3 := tn_nle (a := 2000) (b := ((s.v 0)).toInt) (by decide) rfl c_3
      refine ok_grd (vpb_ok (by omega) (by omega)) ?_
      refine ok_let (fun s4 hs4 => ?_)
      have hI_s4 : InvK s4 := by rw [← hs4]; exact hI_s.sfF (k := 1) rfl rfl
      have hF_s4 : FrK [0, 101] s0 s4 := by rw [← hs4]; exact hF_s.sf (k := 1) (by decide)
      refine ok_let (fun s6 hs6 => ?_)
      have a_4 : (s4.v 0).toInt = (s.v 0).toInt := congrArg Int32.toInt (show s4.v 0 = s.v 0 by rw [← hs4]; rfl)
      have a_5 : (((s4.v 0) + 1)).toInt = ((s4.v 0)).toInt + 1 := tn_add rfl (by decide) (by omega) (by omega)
      have hI_s6 : InvK s6 := by rw [← hs6]; exact hI_s4.sv (k := 0) (show (0 : Int) ≤ (((s4.v 0) + 1)).toInt by omega) (show (((s4.v 0) + 1)).toInt ≤ (2000 : Int) by omega)
      have hF_s6 : FrK [0, 101] s0 s6 := by rw [← hs6]; exact hF_s4.sv (k := 0) (by decide)
      exact ok_kX7_addFour_42 s0 k3 M3 hk3 _ _ _ hI_s6 hF_s6 (by omega) (by omega) (by omega)
theorem okL_kX7_addFour_3 (s0 : KS)  : ∀ (n : Nat) (s : KS) (x1 : Int32) (x2 : Int32), (x2.toInt - (-8)).toNat < n → InvK s → FrK [0, 101] s0 s → -8 ≤ x2.toInt → x2.toInt ≤ 24 → Ok (kX7_addFour_3L  n s x1 x2) (Q_kX7_addFour s0) := by
  intro n
  induction n with
  | zero => intro s x1 x2 hn; omega
  | succ n ih =>
    intro s x1 x2 hn hI_s hF_s h_x2l h_x2u 
    exact ok_kX7_addFour_3 s0 (kX7_addFour_3L  n) ((x2.toInt - (-8)).toNat) (fun zs zx1 zx2 g0 g1 g2 g3  hm => ih zs zx1 zx2 (by omega) g0 g1 g2 g3 ) s x1 x2 hI_s hF_s h_x2l h_x2u (Nat.le_refl _)
set_option maxHeartbeats 1000000 in
theorem ok_kX7_addFourB (s0 : KS)  (s : KS) (x1 : Int32) (hI_s : InvK s) (hF_s : FrK [0, 101] s0 s)  : Ok (kX7_addFour  s x1) (Q_kX7_addFour s0) := by
  unfold kX7_addFour
  have l_24 : (24 : Int32).toInt = 24 := by decide
  exact okL_kX7_addFour_3 s0  fu _ _ _ (by unfold fu; omega) hI_s hF_s (by decide) (by decide) 
theorem ok_kX7_addFour (s : KS) (x1 : Int32) (hI_s : InvK s) : Ok (kX7_addFour s x1) (Q_kX7_addFour s) := ok_kX7_addFourB s s x1 hI_s FrK.rfl
abbrev Q_kX7_byteAt (s0 : KS) (x1 : Int32) (y : Int32 × KS) : Prop := InvK y.2 ∧ FrK [] s0 y.2 ∧ -2147483648 ≤ y.1.toInt ∧ y.1.toInt ≤ 2147483647 ∧ (¬ y.1.toInt = -1 → (x1).toInt < (s0.v 0).toInt)
set_option maxHeartbeats 1000000 in
theorem ok_kX7_byteAtB (s0 : KS)  (s : KS) (x1 : Int32) (hI_s : InvK s) (hF_s : FrK [] s0 s) (h_x1l : 0 ≤ x1.toInt) (h_x1u : x1.toInt ≤ 2000)  : Ok (kX7_byteAt  s x1) (Q_kX7_byteAt s0 x1) := by
  unfold kX7_byteAt
  refine ok_ite (fun c_1 => ?_) (fun c_1 => ?_)
  · have c_1 := tn_lt (a := (x1).toInt) (b := 0) rfl (by decide) c_1
    omega
  · have c_1 := tn_nlt (a := (x1).toInt) (b := 0) rfl (by decide) c_1
    have a_2 : 0 ≤ (s.v 0).toInt ∧ (s.v 0).toInt ≤ 2000 := hI_s.1 0
    refine ok_ite (fun c_3 => ?_) (fun c_3 => ?_)
    · have c_3 := tn_le (a := ((s.v 0)).toInt) (b := (x1).toInt) rfl rfl c_3
      have a_4 : (s.v 0).toInt = (s0.v 0).toInt := congrArg Int32.toInt (hF_s.1 0 (by decide))
      exact ok_some ⟨hI_s, hF_s, (ti_rng _).1, (ti_rng _).2, by show (¬ ((-1) : Int32).toInt = -1 → (x1).toInt < (s0.v 0).toInt); have l := (by decide : ((-1) : Int32).toInt = -1); omega⟩
    · have c_3 := tn_nle (a := ((s.v 0)).toInt) (b := (x1).toInt) rfl rfl c_3
      refine ok_grd (vpb_ok (by omega) (by omega)) ?_
      have a_5 : (s.v 0).toInt = (s0.v 0).toInt := congrArg Int32.toInt (hF_s.1 0 (by decide))
      exact ok_some ⟨hI_s, hF_s, (ti_rng _).1, (ti_rng _).2, by show (¬ ((((s.f 1) (Int32.toNatClampNeg x1)) &&& 255)).toInt = -1 → (x1).toInt < (s0.v 0).toInt); omega⟩
theorem ok_kX7_byteAt (s : KS) (x1 : Int32) (hI_s : InvK s) (h_x1l : 0 ≤ x1.toInt) (h_x1u : x1.toInt ≤ 2000) : Ok (kX7_byteAt s x1) (Q_kX7_byteAt s x1) := ok_kX7_byteAtB s s x1 hI_s FrK.rfl h_x1l h_x1u
