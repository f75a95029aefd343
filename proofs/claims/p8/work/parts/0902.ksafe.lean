abbrev Q_kX10_sumOf_5 (s0 : (Nat → Int32)) (y : Int32 × (Nat → Int32)) : Prop := -2147483648 ≤ y.1.toInt ∧ y.1.toInt ≤ 2147483647
set_option maxHeartbeats 1000000 in
theorem ok_kX10_sumOf_5_4 (s0 : (Nat → Int32)) (k4 : ((Nat → Int32)) → Int32 → Int32 → Option (Int32 × (Nat → Int32))) (M4 : Nat) (hk4 : ∀ (s : (Nat → Int32)) (x1 : Int32) (x2 : Int32), 0 ≤ x2.toInt → x2.toInt ≤ 5 → (5 - x2.toInt).toNat < M4 → Ok (k4 s x1 x2) (Q_kX10_sumOf_5 s0)) (s : (Nat → Int32)) (x1 : Int32) (x2 : Int32) (h_x2l : 0 ≤ x2.toInt) (h_x2u : x2.toInt ≤ 5) (hM4 : (5 - x2.toInt).toNat ≤ M4) : Ok (kX10_sumOf_5_4 k4 s x1 x2) (Q_kX10_sumOf_5 s0) := by
  unfold kX10_sumOf_5_4
  refine ok_ite (fun c_1 => ?_) (fun c_1 => ?_)
  · have c_1 := tn_le (a := 5) (b := (x2).toInt) (by decide) rfl c_1
    exact ok_some ⟨(ti_rng _).1, (ti_rng _).2⟩
  · have c_1 := tn_nle (a := 5) (b := (x2).toInt) (by decide) rfl c_1
    refine ok_grd (vpb_ok (by omega) (by omega)) ?_
    have a_2 : ((x2 + 1)).toInt = (x2).toInt + 1 := tn_add rfl (by decide) (by omega) (by omega)
    exact hk4 _ _ _ (by omega) (by omega) (by omega)
theorem okL_kX10_sumOf_5_4 (s0 : (Nat → Int32))  : ∀ (n : Nat) (s : (Nat → Int32)) (x1 : Int32) (x2 : Int32), (5 - x2.toInt).toNat < n → 0 ≤ x2.toInt → x2.toInt ≤ 5 → Ok (kX10_sumOf_5_4L  n s x1 x2) (Q_kX10_sumOf_5 s0) := by
  intro n
  induction n with
  | zero => intro s x1 x2 hn; omega
  | succ n ih =>
    intro s x1 x2 hn h_x2l h_x2u 
    exact ok_kX10_sumOf_5_4 s0 (kX10_sumOf_5_4L  n) ((5 - x2.toInt).toNat) (fun zs zx1 zx2 g0 g1  hm => ih zs zx1 zx2 (by omega) g0 g1 ) s x1 x2 h_x2l h_x2u (Nat.le_refl _)
set_option maxHeartbeats 1000000 in
theorem ok_kX10_sumOf_5B (s0 : (Nat → Int32))  (s : (Nat → Int32))   : Ok (kX10_sumOf_5  s) (Q_kX10_sumOf_5 s0) := by
  unfold kX10_sumOf_5
  have l_0 : (0 : Int32).toInt = 0 := by decide
  exact okL_kX10_sumOf_5_4 s0  fu _ _ _ (by unfold fu; omega) (by decide) (by decide) 
theorem ok_kX10_sumOf_5 (s : (Nat → Int32))  : Ok (kX10_sumOf_5 s) (Q_kX10_sumOf_5 s) := ok_kX10_sumOf_5B s s 
abbrev Q_kX10_sumOf_6 (s0 : (Nat → Int32)) (y : Int32 × (Nat → Int32)) : Prop := -2147483648 ≤ y.1.toInt ∧ y.1.toInt ≤ 2147483647
set_option maxHeartbeats 1000000 in
theorem ok_kX10_sumOf_6_4 (s0 : (Nat → Int32)) (k4 : ((Nat → Int32)) → Int32 → Int32 → Option (Int32 × (Nat → Int32))) (M4 : Nat) (hk4 : ∀ (s : (Nat → Int32)) (x1 : Int32) (x2 : Int32), 0 ≤ x2.toInt → x2.toInt ≤ 6 → (6 - x2.toInt).toNat < M4 → Ok (k4 s x1 x2) (Q_kX10_sumOf_6 s0)) (s : (Nat → Int32)) (x1 : Int32) (x2 : Int32) (h_x2l : 0 ≤ x2.toInt) (h_x2u : x2.toInt ≤ 6) (hM4 : (6 - x2.toInt).toNat ≤ M4) : Ok (kX10_sumOf_6_4 k4 s x1 x2) (Q_kX10_sumOf_6 s0) := by
  unfold kX10_sumOf_6_4
  refine ok_ite (fun c_1 => ?_) (fun c_1 => ?_)
  · have c_1 := tn_le (a := 6) (b := (x2).toInt) (by decide) rfl c_1
    exact ok_some ⟨(ti_rng _).1, (ti_rng _).2⟩
  · have c_1 := tn_nle (a := 6) (b := (x2).toInt) (by decide) rfl c_1
    refine ok_grd (vpb_ok (by omega) (by omega)) ?_
    have a_2 : ((x2 + 1)).toInt = (x2).toInt + 1 := tn_add rfl (by decide) (by omega) (by omega)
    exact hk4 _ _ _ (by omega) (by omega) (by omega)
theorem okL_kX10_sumOf_6_4 (s0 : (Nat → Int32))  : ∀ (n : Nat) (s : (Nat → Int32)) (x1 : Int32) (x2 : Int32), (6 - x2.toInt).toNat < n → 0 ≤ x2.toInt → x2.toInt ≤ 6 → Ok (kX10_sumOf_6_4L  n s x1 x2) (Q_kX10_sumOf_6 s0) := by
  intro n
  induction n with
  | zero => intro s x1 x2 hn; omega
  | succ n ih =>
    intro s x1 x2 hn h_x2l h_x2u 
    exact ok_kX10_sumOf_6_4 s0 (kX10_sumOf_6_4L  n) ((6 - x2.toInt).toNat) (fun zs zx1 zx2 g0 g1  hm => ih zs zx1 zx2 (by omega) g0 g1 ) s x1 x2 h_x2l h_x2u (Nat.le_refl _)
set_option maxHeartbeats 1000000 in
theorem ok_kX10_sumOf_6B (s0 : (Nat → Int32))  (s : (Nat → Int32))   : Ok (kX10_sumOf_6  s) (Q_kX10_sumOf_6 s0) := by
  unfold kX10_sumOf_6
  have l_0 : (0 : Int32).toInt = 0 := by decide
  exact okL_kX10_sumOf_6_4 s0  fu _ _ _ (by unfold fu; omega) (by decide) (by decide) 
theorem ok_kX10_sumOf_6 (s : (Nat → Int32))  : Ok (kX10_sumOf_6 s) (Q_kX10_sumOf_6 s) := ok_kX10_sumOf_6B s s 
abbrev Q_kX10_thingIn (x0 x1 : Int32) (y : Int32) : Prop := -2147483648 ≤ y.toInt ∧ y.toInt ≤ 2147483647 ∧ (0 ≤ x0.toInt → 0 ≤ y.toInt ∧ y.toInt ≤ 5)
theorem okL_kX10_thingIn_4 : ∀ (n : Nat) (x1 x2 x3 : Int32), (5 - x3.toInt).toNat < n → 0 ≤ x3.toInt → x3.toInt ≤ 4 → x1.toInt ≤ 4 → Ok (kX10_thingIn_4L n x1 x2 x3) (fun y => 0 ≤ x2.toInt → 0 ≤ y.toInt ∧ y.toInt ≤ 5) := by
  intro n
  induction n with
  | zero => intro x1 x2 x3 h; omega
  | succ n ih =>
    intro x1 x2 x3 h h0 h1 h2
    show Ok (kX10_thingIn_4 (kX10_thingIn_4L n) x1 x2 x3) _
    unfold kX10_thingIn_4
    have l1 : (1 : Int32).toInt = 1 := by decide
    refine ok_ite (fun c => ?_) (fun c => ?_)
    · refine ok_some (fun hx => ?_)
      have e := ti_remc (x := x2) (y := 6) (c := 6) (by decide) hx (by decide)
      omega
    · have c := ti_nle c
      have a := ti_add (x := x3) (y := 1) (by omega) (by omega)
      refine ok_weak (ih x1 (x2 / 6) (x3 + 1) (by omega) (by omega) (by omega) h2) (fun y hy hx => hy ?_)
      have e := ti_divc (x := x2) (y := 6) (c := 6) (by decide) hx (by decide)
      omega
theorem ok_kX10_thingIn (x0 x1 : Int32) (h1 : 0 ≤ x1.toInt) (h2 : x1.toInt ≤ 4) : Ok (kX10_thingIn x0 x1) (Q_kX10_thingIn x0 x1) := by
  unfold kX10_thingIn
  have l0 : (0 : Int32).toInt = 0 := by decide
  exact ok_weak (okL_kX10_thingIn_4 fu x1 x0 0 (by unfold fu; omega) (by omega) (by omega) h2) (fun y hy => ⟨(ti_rng y).1, (ti_rng y).2, hy⟩)
abbrev Q_kX10_heldTo (y : Int32) : Prop := 0 ≤ y.toInt ∧ y.toInt ≤ 100
set_option maxHeartbeats 1000000 in
theorem ok_kX10_heldToB  (x0 : Int32) (x1 : Int32) (h_x0l : 9 ≤ x0.toInt) (h_x0u : x0.toInt ≤ 100)  : Ok (kX10_heldTo  x0 x1) Q_kX10_heldTo := by
  unfold kX10_heldTo
  have a_1 := tn_mmin (x := x0) (y := x1) (a := (x0).toInt) (b := (x1).toInt) rfl rfl
  have a_2 := tn_mmax (x := 0) (y := (mmin x0 x1)) (a := 0) (b := ((mmin x0 x1)).toInt) (by decide) rfl
  exact ok_some ⟨by show 0 ≤ ((mmax 0 (mmin x0 x1))).toInt; omega, by show ((mmax 0 (mmin x0 x1))).toInt ≤ 100; omega⟩
theorem ok_kX10_heldTo (x0 : Int32) (x1 : Int32) (h_x0l : 9 ≤ x0.toInt) (h_x0u : x0.toInt ≤ 100) : Ok (kX10_heldTo x0 x1) Q_kX10_heldTo := ok_kX10_heldToB x0 x1 h_x0l h_x0u
abbrev Q_kX10_stirred (y : Int32) : Prop := -2147483648 ≤ y.toInt ∧ y.toInt ≤ 2147483647
set_option maxHeartbeats 1000000 in
theorem ok_kX10_stirredB  (x0 : Int32) (x1 : Int32)   : Ok (kX10_stirred  x0 x1) Q_kX10_stirred := by
  unfold kX10_stirred
  exact ok_some ⟨(ti_rng _).1, (ti_rng _).2⟩
theorem ok_kX10_stirred (x0 : Int32) (x1 : Int32)  : Ok (kX10_stirred x0 x1) Q_kX10_stirred := ok_kX10_stirredB x0 x1 
abbrev Q_kJ6_numberOfTrailingZeros_0f7a4 (y : Int32) : Prop := -2147483648 ≤ y.toInt ∧ y.toInt ≤ 2147483647
set_option maxHeartbeats 1000000 in
theorem ok_kJ6_numberOfTrailingZeros_0f7a4_74  (x0 : Int32) (x1 : Int32) (h_x1l : 1 ≤ x1.toInt) (h_x1u : x1.toInt ≤ 31)  : Ok (kJ6_numberOfTrailingZeros_0f7a4_74  x0 x1) Q_kJ6_numberOfTrailingZeros_0f7a4 := by
  unfold kJ6_numberOfTrailingZeros_0f7a4_74
  exact ok_some ⟨(ti_rng _).1, (ti_rng _).2⟩
set_option maxHeartbeats 1000000 in
theorem ok_kJ6_numberOfTrailingZeros_0f7a4_62  (x0 : Int32) (x1 : Int32) (h_x1l : 1 ≤ x1.toInt) (h_x1u : x1.toInt ≤ 29)  : Ok (kJ6_numberOfTrailingZeros_0f7a4_62  x0 x1) Q_kJ6_numberOfTrailingZeros_0f7a4 := by
  unfold kJ6_numberOfTrailingZeros_0f7a4_62
  refine ok_ite (fun c_1 => ?_) (fun c_1 => ?_)
  · have c_1 := tn_le (a := (x0).toInt) (b := 4) rfl (by decide) c_1
    exact ok_kJ6_numberOfTrailingZeros_0f7a4_74  _ _ (by omega) (by omega) 
  · have c_1 := tn_nle (a := (x0).toInt) (b := 4) rfl (by decide) c_1
    have a_2 : ((x1 + 2)).toInt = (x1).toInt + 2 := tn_add rfl (by decide) (by omega) (by omega)
    exact ok_kJ6_numberOfTrailingZeros_0f7a4_74  _ _ (by omega) (by omega) 
set_option maxHeartbeats 1000000 in
theorem ok_kJ6_numberOfTrailingZeros_0f7a4_49  (x0 : Int32) (x1 : Int32) (h_x1l : 1 ≤ x1.toInt) (h_x1u : x1.toInt ≤ 25)  : Ok (kJ6_numberOfTrailingZeros_0f7a4_49  x0 x1) Q_kJ6_numberOfTrailingZeros_0f7a4 := by
  unfold kJ6_numberOfTrailingZeros_0f7a4_49
  refine ok_ite (fun c_1 => ?_) (fun c_1 => ?_)
  · have c_1 := tn_le (a := (x0).toInt) (b := 16) rfl (by decide) c_1
    exact ok_kJ6_numberOfTrailingZeros_0f7a4_62  _ _ (by omega) (by omega) 
  · have c_1 := tn_nle (a := (x0).toInt) (b := 16) rfl (by decide) c_1
    have a_2 : ((x1 + 4)).toInt = (x1).toInt + 4 := tn_add rfl (by decide) (by omega) (by omega)
    exact ok_kJ6_numberOfTrailingZeros_0f7a4_62  _ _ (by omega) (by omega) 
set_option maxHeartbeats 1000000 in
theorem ok_kJ6_numberOfTrailingZeros_0f7a4_34  (x0 : Int32) (x1 : Int32) (h_x1l : 1 ≤ x1.toInt) (h_x1u : x1.toInt ≤ 17)  : Ok (kJ6_numberOfTrailingZeros_0f7a4_34  x0 x1) Q_kJ6_numberOfTrailingZeros_0f7a4 := by
  unfold kJ6_numberOfTrailingZeros_0f7a4_34
  refine ok_ite (fun c_1 => ?_) (fun c_1 => ?_)
  · have c_1 := tn_le (a := (x0).toInt) (b := 256) rfl (by decide) c_1
    exact ok_kJ6_numberOfTrailingZeros_0f7a4_49  _ _ (by omega) (by omega) 
  · have c_1 := tn_nle (a := (x0).toInt) (b := 256) rfl (by decide) c_1
    have a_2 : ((x1 + 8)).toInt = (x1).toInt + 8 := tn_add rfl (by decide) (by omega) (by omega)
    exact ok_kJ6_numberOfTrailingZeros_0f7a4_49  _ _ (by omega) (by omega) 
set_option maxHeartbeats 1000000 in
theorem ok_kJ6_numberOfTrailingZeros_0f7a4B  (x0 : Int32)   : Ok (kJ6_numberOfTrailingZeros_0f7a4  x0) Q_kJ6_numberOfTrailingZeros_0f7a4 := by
  unfold kJ6_numberOfTrailingZeros_0f7a4
  refine ok_ite (fun c_1 => ?_) (fun c_1 => ?_)
  · have c_1 := tn_lt (a := 0) (b := (((x0 ^^^ (-1)) &&& (x0 - 1))).toInt) (by decide) rfl c_1
    refine ok_ite (fun c_2 => ?_) (fun c_2 => ?_)
    · have c_2 := tn_le (a := (((x0 ^^^ (-1)) &&& (x0 - 1))).toInt) (b := 65536) rfl (by decide) c_2
      have l_1 : (1 : Int32).toInt = 1 := by decide
      exact ok_kJ6_numberOfTrailingZeros_0f7a4_34  _ _ (by decide) (by decide) 
    · have c_2 := tn_nle (a := (((x0 ^^^ (-1)) &&& (x0 - 1))).toInt) (b := 65536) rfl (by decide) c_2
      have l_17 : (17 : Int32).toInt = 17 := by decide
      exact ok_kJ6_numberOfTrailingZeros_0f7a4_34  _ _ (by decide) (by decide) 
  · have c_1 := tn_nlt (a := 0) (b := (((x0 ^^^ (-1)) &&& (x0 - 1))).toInt) (by decide) rfl c_1
    exact ok_some ⟨(ti_rng _).1, (ti_rng _).2⟩
theorem ok_kJ6_numberOfTrailingZeros_0f7a4 (x0 : Int32)  : Ok (kJ6_numberOfTrailingZeros_0f7a4 x0) Q_kJ6_numberOfTrailingZeros_0f7a4 := ok_kJ6_numberOfTrailingZeros_0f7a4B x0 
abbrev Q_kJ6_bitCount_0f7a4 (y : Int32) : Prop := -2147483648 ≤ y.toInt ∧ y.toInt ≤ 2147483647
set_option maxHeartbeats 1000000 in
theorem ok_kJ6_bitCount_0f7a4B  (x0 : Int32)   : Ok (kJ6_bitCount_0f7a4  x0) Q_kJ6_bitCount_0f7a4 := by
  unfold kJ6_bitCount_0f7a4
  exact ok_some ⟨(ti_rng _).1, (ti_rng _).2⟩
theorem ok_kJ6_bitCount_0f7a4 (x0 : Int32)  : Ok (kJ6_bitCount_0f7a4 x0) Q_kJ6_bitCount_0f7a4 := ok_kJ6_bitCount_0f7a4B x0 
abbrev Q_kJ7_fill_53178_4 (s0 : (Nat → Int32)) (y : (Nat → Int32)) : Prop := True
set_option maxHeartbeats 1000000 in
theorem ok_kJ7_fill_53178_4_5 (s0 : (Nat → Int32)) (k5 : ((Nat → Int32)) → Int32 → Int32 → Int32 → Option ((Nat → Int32))) (M5 : Nat) (hk5 : ∀ (s : (Nat → Int32)) (x1 : Int32) (x2 : Int32) (x3 : Int32), 0 ≤ x1.toInt → x1.toInt ≤ 0 → 0 ≤ x2.toInt → x2.toInt ≤ 4 → 4 ≤ x3.toInt → x3.toInt ≤ 4 → (4 - x2.toInt).toNat < M5 → Ok (k5 s x1 x2 x3) (Q_kJ7_fill_53178_4 s0)) (s : (Nat → Int32)) (x1 : Int32) (x2 : Int32) (x3 : Int32) (h_x1l : 0 ≤ x1.toInt) (h_x1u : x1.toInt ≤ 0) (h_x2l : 0 ≤ x2.toInt) (h_x2u : x2.toInt ≤ 4) (h_x3l : 4 ≤ x3.toInt) (h_x3u : x3.toInt ≤ 4) (hM5 : (4 - x2.toInt).toNat ≤ M5) : Ok (kJ7_fill_53178_4_5 k5 s x1 x2 x3) (Q_kJ7_fill_53178_4 s0) := by
  unfold kJ7_fill_53178_4_5
  refine ok_ite (fun c_1 => ?_) (fun c_1 => ?_)
  · have c_1 := tn_le (a := (x3).toInt) (b := (x2).toInt) rfl rfl c_1
    exact ok_some (trivial)
  · have c_1 := tn_nle (a := (x3).toInt) (b := (x2).toInt) rfl rfl c_1
    refine ok_grd (vpb_ok (by omega) (by omega)) ?_
    refine ok_let (fun s3 hs3 => ?_)
    have a_2 : ((x2 + 1)).toInt = (x2).toInt + 1 := tn_add rfl (by decide) (by omega) (by omega)
    exact hk5 _ _ _ _ (by omega) (by omega) (by omega) (by omega) (by omega) (by omega) (by omega)
theorem okL_kJ7_fill_53178_4_5 (s0 : (Nat → Int32))  : ∀ (n : Nat) (s : (Nat → Int32)) (x1 : Int32) (x2 : Int32) (x3 : Int32), (4 - x2.toInt).toNat < n → 0 ≤ x1.toInt → x1.toInt ≤ 0 → 0 ≤ x2.toInt → x2.toInt ≤ 4 → 4 ≤ x3.toInt → x3.toInt ≤ 4 → Ok (kJ7_fill_53178_4_5L  n s x1 x2 x3) (Q_kJ7_fill_53178_4 s0) := by
  intro n
  induction n with
  | zero => intro s x1 x2 x3 hn; omega
  | succ n ih =>
    intro s x1 x2 x3 hn h_x1l h_x1u h_x2l h_x2u h_x3l h_x3u 
    exact ok_kJ7_fill_53178_4_5 s0 (kJ7_fill_53178_4_5L  n) ((4 - x2.toInt).toNat) (fun zs zx1 zx2 zx3 g0 g1 g2 g3 g4 g5  hm => ih zs zx1 zx2 zx3 (by omega) g0 g1 g2 g3 g4 g5 ) s x1 x2 x3 h_x1l h_x1u h_x2l h_x2u h_x3l h_x3u (Nat.le_refl _)
set_option maxHeartbeats 1000000 in
theorem ok_kJ7_fill_53178_4B (s0 : (Nat → Int32))  (s : (Nat → Int32)) (x1 : Int32) (h_x1l : 0 ≤ x1.toInt) (h_x1u : x1.toInt ≤ 0)  : Ok (kJ7_fill_53178_4  s x1) (Q_kJ7_fill_53178_4 s0) := by
  unfold kJ7_fill_53178_4
  have l_0 : (0 : Int32).toInt = 0 := by decide
  have l_4 : (4 : Int32).toInt = 4 := by decide
  exact okL_kJ7_fill_53178_4_5 s0  fu _ _ _ _ (by unfold fu; omega) (by omega) (by omega) (by decide) (by decide) (by decide) (by decide) 
theorem ok_kJ7_fill_53178_4 (s : (Nat → Int32)) (x1 : Int32) (h_x1l : 0 ≤ x1.toInt) (h_x1u : x1.toInt ≤ 0) : Ok (kJ7_fill_53178_4 s x1) (Q_kJ7_fill_53178_4 s) := ok_kJ7_fill_53178_4B s s x1 h_x1l h_x1u
abbrev Q_kJ7_fill_53178_5 (s0 : (Nat → Int32)) (y : (Nat → Int32)) : Prop := True
set_option maxHeartbeats 1000000 in
theorem ok_kJ7_fill_53178_5_5 (s0 : (Nat → Int32)) (k5 : ((Nat → Int32)) → Int32 → Int32 → Int32 → Option ((Nat → Int32))) (M5 : Nat) (hk5 : ∀ (s : (Nat → Int32)) (x1 : Int32) (x2 : Int32) (x3 : Int32), -1 ≤ x1.toInt → x1.toInt ≤ 0 → 0 ≤ x2.toInt → x2.toInt ≤ 5 → 5 ≤ x3.toInt → x3.toInt ≤ 5 → (5 - x2.toInt).toNat < M5 → Ok (k5 s x1 x2 x3) (Q_kJ7_fill_53178_5 s0)) (s : (Nat → Int32)) (x1 : Int32) (x2 : Int32) (x3 : Int32) (h_x1l : -1 ≤ x1.toInt) (h_x1u : x1.toInt ≤ 0) (h_x2l : 0 ≤ x2.toInt) (h_x2u : x2.toInt ≤ 5) (h_x3l : 5 ≤ x3.toInt) (h_x3u : x3.toInt ≤ 5) (hM5 : (5 - x2.toInt).toNat ≤ M5) : Ok (kJ7_fill_53178_5_5 k5 s x1 x2 x3) (Q_kJ7_fill_53178_5 s0) := by
  unfold kJ7_fill_53178_5_5
  refine ok_ite (fun c_1 => ?_) (fun c_1 => ?_)
  · have c_1 := tn_le (a := (x3).toInt) (b := (x2).toInt) rfl rfl c_1
    exact ok_some (trivial)
  · have c_1 := tn_nle (a := (x3).toInt) (b := (x2).toInt) rfl rfl c_1
    refine ok_grd (vpb_ok (by omega) (by omega)) ?_
    refine ok_let (fun s3 hs3 => ?_)
    have a_2 : ((x2 + 1)).toInt = (x2).toInt + 1 := tn_add rfl (by decide) (by omega) (by omega)
    exact hk5 _ _ _ _ (by omega) (by omega) (by omega) (by omega) (by omega) (by omega) (by omega)
theorem okL_kJ7_fill_53178_5_5 (s0 : (Nat → Int32))  : ∀ (n : Nat) (s : (Nat → Int32)) (x1 : Int32) (x2 : Int32) (x3 : Int32), (5 - x2.toInt).toNat < n → -1 ≤ x1.toInt → x1.toInt ≤ 0 → 0 ≤ x2.toInt → x2.toInt ≤ 5 → 5 ≤ x3.toInt → x3.toInt ≤ 5 → Ok (kJ7_fill_53178_5_5L  n s x1 x2 x3) (Q_kJ7_fill_53178_5 s0) := by
  intro n
  induction n with
  | zero => intro s x1 x2 x3 hn; omega
  | succ n ih =>
    intro s x1 x2 x3 hn h_x1l h_x1u h_x2l h_x2u h_x3l h_x3u 
    exact ok_kJ7_fill_53178_5_5 s0 (kJ7_fill_53178_5_5L  n) ((5 - x2.toInt).toNat) (fun zs zx1 zx2 zx3 g0 g1 g2 g3 g4 g5  hm => ih zs zx1 zx2 zx3 (by omega) g0 g1 g2 g3 g4 g5 ) s x1 x2 x3 h_x1l h_x1u h_x2l h_x2u h_x3l h_x3u (Nat.le_refl _)
set_option maxHeartbeats 1000000 in
theorem ok_kJ7_fill_53178_5B (s0 : (Nat → Int32))  (s : (Nat → Int32)) (x1 : Int32) (h_x1l : -1 ≤ x1.toInt) (h_x1u : x1.toInt ≤ 0)  : Ok (kJ7_fill_53178_5  s x1) (Q_kJ7_fill_53178_5 s0) := by
  unfold kJ7_fill_53178_5
  have l_0 : (0 : Int32).toInt = 0 := by decide
  have l_5 : (5 : Int32).toInt = 5 := by decide
  exact okL_kJ7_fill_53178_5_5 s0  fu _ _ _ _ (by unfold fu; omega) (by omega) (by omega) (by decide) (by decide) (by decide) (by decide) 
theorem ok_kJ7_fill_53178_5 (s : (Nat → Int32)) (x1 : Int32) (h_x1l : -1 ≤ x1.toInt) (h_x1u : x1.toInt ≤ 0) : Ok (kJ7_fill_53178_5 s x1) (Q_kJ7_fill_53178_5 s) := ok_kJ7_fill_53178_5B s s x1 h_x1l h_x1u
abbrev Q_kJ7_fill_53178_6 (s0 : (Nat → Int32)) (y : (Nat → Int32)) : Prop := True
set_option maxHeartbeats 1000000 in
theorem ok_kJ7_fill_53178_6_5 (s0 : (Nat → Int32)) (k5 : ((Nat → Int32)) → Int32 → Int32 → Int32 → Option ((Nat → Int32))) (M5 : Nat) (hk5 : ∀ (s : (Nat → Int32)) (x1 : Int32) (x2 : Int32) (x3 : Int32), 0 ≤ x1.toInt → x1.toInt ≤ 0 → 0 ≤ x2.toInt → x2.toInt ≤ 6 → 6 ≤ x3.toInt → x3.toInt ≤ 6 → (6 - x2.toInt).toNat < M5 → Ok (k5 s x1 x2 x3) (Q_kJ7_fill_53178_6 s0)) (s : (Nat → Int32)) (x1 : Int32) (x2 : Int32) (x3 : Int32) (h_x1l : 0 ≤ x1.toInt) (h_x1u : x1.toInt ≤ 0) (h_x2l : 0 ≤ x2.toInt) (h_x2u : x2.toInt ≤ 6) (h_x3l : 6 ≤ x3.toInt) (h_x3u : x3.toInt ≤ 6) (hM5 : (6 - x2.toInt).toNat ≤ M5) : Ok (kJ7_fill_53178_6_5 k5 s x1 x2 x3) (Q_kJ7_fill_53178_6 s0) := by
  unfold kJ7_fill_53178_6_5
  refine ok_ite (fun c_1 => ?_) (fun c_1 => ?_)
  · have c_1 := tn_le (a := (x3).toInt) (b := (x2).toInt) rfl rfl c_1
    exact ok_some (trivial)
  · have c_1 := tn_nle (a := (x3).toInt) (b := (x2).toInt) rfl rfl c_1
    refine ok_grd (vpb_ok (by omega) (by omega)) ?_
    refine ok_let (fun s3 hs3 => ?_)
    have a_2 : ((x2 + 1)).toInt = (x2).toInt + 1 := tn_add rfl (by decide) (by omega) (by omega)
    exact hk5 _ _ _ _ (by omega) (by omega) (by omega) (by omega) (by omega) (by omega) (by omega)
theorem okL_kJ7_fill_53178_6_5 (s0 : (Nat → Int32))  : ∀ (n : Nat) (s : (Nat → Int32)) (x1 : Int32) (x2 : Int32) (x3 : Int32), (6 - x2.toInt).toNat < n → 0 ≤ x1.toInt → x1.toInt ≤ 0 → 0 ≤ x2.toInt → x2.toInt ≤ 6 → 6 ≤ x3.toInt → x3.toInt ≤ 6 → Ok (kJ7_fill_53178_6_5L  n s x1 x2 x3) (Q_kJ7_fill_53178_6 s0) := by
  intro n
  induction n with
  | zero => intro s x1 x2 x3 hn; omega
  | succ n ih =>
    intro s x1 x2 x3 hn h_x1l h_x1u h_x2l h_x2u h_x3l h_x3u 
    exact ok_kJ7_fill_53178_6_5 s0 (kJ7_fill_53178_6_5L  n) ((6 - x2.toInt).toNat) (fun zs zx1 zx2 zx3 g0 g1 g2 g3 g4 g5  hm => ih zs zx1 zx2 zx3 (by omega) g0 g1 g2 g3 g4 g5 ) s x1 x2 x3 h_x1l h_x1u h_x2l h_x2u h_x3l h_x3u (Nat.le_refl _)
set_option maxHeartbeats 1000000 in
theorem ok_kJ7_fill_53178_6B (s0 : (Nat → Int32))  (s : (Nat → Int32)) (x1 : Int32) (h_x1l : 0 ≤ x1.toInt) (h_x1u : x1.toInt ≤ 0)  : Ok (kJ7_fill_53178_6  s x1) (Q_kJ7_fill_53178_6 s0) := by
  unfold kJ7_fill_53178_6
  have l_0 : (0 : Int32).toInt = 0 := by decide
  have l_6 : (6 : Int32).toInt = 6 := by decide
  exact okL_kJ7_fill_53178_6_5 s0  fu _ _ _ _ (by unfold fu; omega) (by omega) (by omega) (by decide) (by decide) (by decide) (by decide) 
theorem ok_kJ7_fill_53178_6 (s : (Nat → Int32)) (x1 : Int32) (h_x1l : 0 ≤ x1.toInt) (h_x1u : x1.toInt ≤ 0) : Ok (kJ7_fill_53178_6 s x1) (Q_kJ7_fill_53178_6 s) := ok_kJ7_fill_53178_6B s s x1 h_x1l h_x1u
abbrev Q_kJ7_fill_53178_9 (s0 : (Nat → Int32)) (y : (Nat → Int32)) : Prop := True
set_option maxHeartbeats 1000000 in
theorem ok_kJ7_fill_53178_9_5 (s0 : (Nat → Int32)) (k5 : ((Nat → Int32)) → Int32 → Int32 → Int32 → Option ((Nat → Int32))) (M5 : Nat) (hk5 : ∀ (s : (Nat → Int32)) (x1 : Int32) (x2 : Int32) (x3 : Int32), 0 ≤ x1.toInt → x1.toInt ≤ 0 → 0 ≤ x2.toInt → x2.toInt ≤ 9 → 9 ≤ x3.toInt → x3.toInt ≤ 9 → (9 - x2.toInt).toNat < M5 → Ok (k5 s x1 x2 x3) (Q_kJ7_fill_53178_9 s0)) (s : (Nat → Int32)) (x1 : Int32) (x2 : Int32) (x3 : Int32) (h_x1l : 0 ≤ x1.toInt) (h_x1u : x1.toInt ≤ 0) (h_x2l : 0 ≤ x2.toInt) (h_x2u : x2.toInt ≤ 9) (h_x3l : 9 ≤ x3.toInt) (h_x3u : x3.toInt ≤ 9) (hM5 : (9 - x2.toInt).toNat ≤ M5) : Ok (kJ7_fill_53178_9_5 k5 s x1 x2 x3) (Q_kJ7_fill_53178_9 s0) := by
  unfold kJ7_fill_53178_9_5
  refine ok_ite (fun c_1 => ?_) (fun c_1 => ?_)
  · have c_1 := tn_le (a := (x3).toInt) (b := (x2).toInt) rfl rfl c_1
    exact ok_some (trivial)
  · have c_1 := tn_nle (a := (x3).toInt) (b := (x2).toInt) rfl rfl c_1
    refine ok_grd (vpb_ok (by omega) (by omega)) ?_
    refine ok_let (fun s3 hs3 => ?_)
    have a_2 : ((x2 + 1)).toInt = (x2).toInt + 1 := tn_add rfl (by decide) (by omega) (by omega)
    exact hk5 _ _ _ _ (by omega) (by omega) (by omega) (by omega) (by omega) (by omega) (by omega)
theorem okL_kJ7_fill_53178_9_5 (s0 : (Nat → Int32))  : ∀ (n : Nat) (s : (Nat → Int32)) (x1 : Int32) (x2 : Int32) (x3 : Int32), (9 - x2.toInt).toNat < n → 0 ≤ x1.toInt → x1.toInt ≤ 0 → 0 ≤ x2.toInt → x2.toInt ≤ 9 → 9 ≤ x3.toInt → x3.toInt ≤ 9 → Ok (kJ7_fill_53178_9_5L  n s x1 x2 x3) (Q_kJ7_fill_53178_9 s0) := by
  intro n
  induction n with
  | zero => intro s x1 x2 x3 hn; omega
  | succ n ih =>
    intro s x1 x2 x3 hn h_x1l h_x1u h_x2l h_x2u h_x3l h_x3u 
    exact ok_kJ7_fill_53178_9_5 s0 (kJ7_fill_53178_9_5L  n) ((9 - x2.toInt).toNat) (fun zs zx1 zx2 zx3 g0 g1 g2 g3 g4 g5  hm => ih zs zx1 zx2 zx3 (by omega) g0 g1 g2 g3 g4 g5 ) s x1 x2 x3 h_x1l h_x1u h_x2l h_x2u h_x3l h_x3u (Nat.le_refl _)
set_option maxHeartbeats 1000000 in
theorem ok_kJ7_fill_53178_9B (s0 : (Nat → Int32))  (s : (Nat → Int32)) (x1 : Int32) (h_x1l : 0 ≤ x1.toInt) (h_x1u : x1.toInt ≤ 0)  : Ok (kJ7_fill_53178_9  s x1) (Q_kJ7_fill_53178_9 s0) := by
  unfold kJ7_fill_53178_9
  have l_0 : (0 : Int32).toInt = 0 := by decide
  have l_9 : (9 : Int32).toInt = 9 := by decide
  exact okL_kJ7_fill_53178_9_5 s0  fu _ _ _ _ (by unfold fu; omega) (by omega) (by omega) (by decide) (by decide) (by decide) (by decide) 
theorem ok_kJ7_fill_53178_9 (s : (Nat → Int32)) (x1 : Int32) (h_x1l : 0 ≤ x1.toInt) (h_x1u : x1.toInt ≤ 0) : Ok (kJ7_fill_53178_9 s x1) (Q_kJ7_fill_53178_9 s) := ok_kJ7_fill_53178_9B s s x1 h_x1l h_x1u
abbrev Q_kJ7_fill_53178_20 (s0 : (Nat → Int32)) (y : (Nat → Int32)) : Prop := True
set_option maxHeartbeats 1000000 in
theorem ok_kJ7_fill_53178_20_5 (s0 : (Nat → Int32)) (k5 : ((Nat → Int32)) → Int32 → Int32 → Int32 → Option ((Nat → Int32))) (M5 : Nat) (hk5 : ∀ (s : (Nat → Int32)) (x1 : Int32) (x2 : Int32) (x3 : Int32), -1 ≤ x1.toInt → x1.toInt ≤ 0 → 0 ≤ x2.toInt → x2.toInt ≤ 20 → 20 ≤ x3.toInt → x3.toInt ≤ 20 → (20 - x2.toInt).toNat < M5 → Ok (k5 s x1 x2 x3) (Q_kJ7_fill_53178_20 s0)) (s : (Nat → Int32)) (x1 : Int32) (x2 : Int32) (x3 : Int32) (h_x1l : -1 ≤ x1.toInt) (h_x1u : x1.toInt ≤ 0) (h_x2l : 0 ≤ x2.toInt) (h_x2u : x2.toInt ≤ 20) (h_x3l : 20 ≤ x3.toInt) (h_x3u : x3.toInt ≤ 20) (hM5 : (20 - x2.toInt).toNat ≤ M5) : Ok (kJ7_fill_53178_20_5 k5 s x1 x2 x3) (Q_kJ7_fill_53178_20 s0) := by
  unfold kJ7_fill_53178_20_5
  refine ok_ite (fun c_1 => ?_) (fun c_1 => ?_)
  · have c_1 := tn_le (a := (x3).toInt) (b := (x2).toInt) rfl rfl c_1
    exact ok_some (trivial)
  · have c_1 := tn_nle (a := (x3).toInt) (b := (x2).toInt) rfl rfl c_1
    refine ok_grd (vpb_ok (by omega) (by omega)) ?_
    refine ok_let (fun s3 hs3 => ?_)
    have a_2 : ((x2 + 1)).toInt = (x2).toInt + 1 := tn_add rfl (by decide) (by omega) (by omega)
    exact hk5 _ _ _ _ (by omega) (by omega) (by omega) (by omega) (by omega) (by omega) (by omega)
theorem okL_kJ7_fill_53178_20_5 (s0 : (Nat → Int32))  : ∀ (n : Nat) (s : (Nat → Int32)) (x1 : Int32) (x2 : Int32) (x3 : Int32), (20 - x2.toInt).toNat < n → -1 ≤ x1.toInt → x1.toInt ≤ 0 → 0 ≤ x2.toInt → x2.toInt ≤ 20 → 20 ≤ x3.toInt → x3.toInt ≤ 20 → Ok (kJ7_fill_53178_20_5L  n s x1 x2 x3) (Q_kJ7_fill_53178_20 s0) := by
  intro n
  induction n with
  | zero => intro s x1 x2 x3 hn; omega
  | succ n ih =>
    intro s x1 x2 x3 hn h_x1l h_x1u h_x2l h_x2u h_x3l h_x3u 
    exact ok_kJ7_fill_53178_20_5 s0 (kJ7_fill_53178_20_5L  n) ((20 - x2.toInt).toNat) (fun zs zx1 zx2 zx3 g0 g1 g2 g3 g4 g5  hm => ih zs zx1 zx2 zx3 (by omega) g0 g1 g2 g3 g4 g5 ) s x1 x2 x3 h_x1l h_x1u h_x2l h_x2u h_x3l h_x3u (Nat.le_refl _)
set_option maxHeartbeats 1000000 in
theorem ok_kJ7_fill_53178_20B (s0 : (Nat → Int32))  (s : (Nat → Int32)) (x1 : Int32) (h_x1l : -1 ≤ x1.toInt) (h_x1u : x1.toInt ≤ 0)  : Ok (kJ7_fill_53178_20  s x1) (Q_kJ7_fill_53178_20 s0) := by
  unfold kJ7_fill_53178_20
  have l_0 : (0 : Int32).toInt = 0 := by decide
  have l_20 : (20 : Int32).toInt = 20 := by decide
  exact okL_kJ7_fill_53178_20_5 s0  fu _ _ _ _ (by unfold fu; omega) (by omega) (by omega) (by decide) (by decide) (by decide) (by decide) 
theorem ok_kJ7_fill_53178_20 (s : (Nat → Int32)) (x1 : Int32) (h_x1l : -1 ≤ x1.toInt) (h_x1u : x1.toInt ≤ 0) : Ok (kJ7_fill_53178_20 s x1) (Q_kJ7_fill_53178_20 s) := ok_kJ7_fill_53178_20B s s x1 h_x1l h_x1u
abbrev Q_kX0_clearVars (s0 : JS) (y : JS) : Prop := InvK y.k ∧ FrK [113] s0.k y.k
set_option maxHeartbeats 1000000 in
theorem ok_kX0_clearVarsB (s0 : JS)  (s : JS) (hI_s_k : InvK s.k) (hF_s_k : FrK [113] s0.k s.k)  : Ok (kX0_clearVars  s) (Q_kX0_clearVars s0) := by
  unfold kX0_clearVars
  refine ok_bindP (ok_kJ7_fill_53178_9 _ _ (by decide) (by decide)) (fun s1 hc_1 => ?_)
  refine ok_let (fun s2 hs2 => ?_)
  have hI_s2_k : InvK s2.k := by rw [← hs2]; exact hI_s_k.saF (k := 13) rfl rfl
  have hF_s2_k : FrK [113] s0.k s2.k := by rw [← hs2]; exact hF_s_k.sa (k := 13) (by decide)
  refine ok_let (fun s4 hs4 => ?_)
  have hI_s4_k : InvK s4.k := by rw [← hs4]; exact hI_s2_k.sfF (k := 13) rfl rfl
  have hF_s4_k : FrK [113] s0.k s4.k := by rw [← hs4]; exact hF_s2_k.sf (k := 13) (by decide)
  exact ok_some ⟨hI_s4_k, hF_s4_k⟩
theorem ok_kX0_clearVars (s : JS) (hI_s_k : InvK s.k) : Ok (kX0_clearVars s) (Q_kX0_clearVars s) := ok_kX0_clearVarsB s s hI_s_k FrK.rfl
abbrev Q_kX0_setWave (s0 : JS) (y : JS) : Prop := InvK y.k ∧ FrK [113] s0.k y.k
set_option maxHeartbeats 1000000 in
theorem ok_kX0_setWaveB (s0 : JS)  (s : JS) (x2 : Int32) (hI_s_k : InvK s.k) (hF_s_k : FrK [113] s0.k s.k) (h_x2l : 0 ≤ x2.toInt) (h_x2u : x2.toInt ≤ 4)  : Ok (kX0_setWave  s x2) (Q_kX0_setWave s0) := by
  unfold kX0_setWave
  refine ok_let (fun s1 hs1 => ?_)
  have hI_s1_k : InvK s1.k := by rw [← hs1]; exact hI_s_k.sfF (k := 13) rfl rfl
  have hF_s1_k : FrK [113] s0.k s1.k := by rw [← hs1]; exact hF_s_k.sf (k := 13) (by decide)
  refine ok_bindI (ok_kX0_mayBe _ _ hI_s1_k (by omega) (by omega)) (fun r4 s3 hc_1 => ?_)
  have hI_s3_k : InvK s3.k := hc_1.1
  have hFc_s3_k : FrK [] s1.k s3.k := hc_1.2.1
  have hF_s3_k : FrK [113] s0.k s3.k := hF_s1_k.trans hFc_s3_k (by decide)
  refine ok_bindP (ok_kJ6_bitCount_0f7a4 _ ) (fun r5 hc_2 => ?_)
  refine ok_let (fun s6 hs6 => ?_)
  have hI_s6_k : InvK s6.k := by rw [← hs6]; exact hI_s3_k.sfF (k := 13) rfl rfl
  have hF_s6_k : FrK [113] s0.k s6.k := by rw [← hs6]; exact hF_s3_k.sf (k := 13) (by decide)
  refine ok_grd (vpb_ok (by omega) (by omega)) ?_
  refine ok_bindP (ok_kJ6_bitCount_0f7a4 _ ) (fun r9 hc_3 => ?_)
  refine ok_let (fun s10 hs10 => ?_)
  have hI_s10_k : InvK s10.k := by rw [← hs10]; exact hI_s6_k.sfF (k := 13) rfl rfl
  have hF_s10_k : FrK [113] s0.k s10.k := by rw [← hs10]; exact hF_s6_k.sf (k := 13) (by decide)
  exact ok_some ⟨hI_s10_k, hF_s10_k⟩
theorem ok_kX0_setWave (s : JS) (x2 : Int32) (hI_s_k : InvK s.k) (h_x2l : 0 ≤ x2.toInt) (h_x2u : x2.toInt ≤ 4) : Ok (kX0_setWave s x2) (Q_kX0_setWave s) := ok_kX0_setWaveB s s x2 hI_s_k FrK.rfl h_x2l h_x2u
abbrev Q_kX1_putNumber (s0 : KS) (y : KS) : Prop := InvK y ∧ FrK [12, 122] s0 y
set_option maxHeartbeats 1000000 in
theorem ok_kX1_putNumberB (s0 : KS)  (s : KS) (x1 : Int32) (hI_s : InvK s) (hF_s : FrK [12, 122] s0 s)  : Ok (kX1_putNumber  s x1) (Q_kX1_putNumber s0) := by
  unfold kX1_putNumber
  refine ok_bindP (ok_kX1_put _ _ hI_s) (fun s1 hc_1 => ?_)
  have hI_s1 : InvK s1 := hc_1.1
  have hFc_s1 : FrK [12, 122] s s1 := hc_1.2
  have hF_s1 : FrK [12, 122] s0 s1 := hF_s.trans hFc_s1 (by decide)
  exact ok_some ⟨hI_s1, hF_s1⟩
theorem ok_kX1_putNumber (s : KS) (x1 : Int32) (hI_s : InvK s) : Ok (kX1_putNumber s x1) (Q_kX1_putNumber s) := ok_kX1_putNumberB s s x1 hI_s FrK.rfl
abbrev Q_kX1_putVar (s0 : KS) (y : KS) : Prop := InvK y ∧ FrK [12, 122] s0 y
set_option maxHeartbeats 1000000 in
theorem ok_kX1_putVarB (s0 : KS)  (s : KS) (x1 : Int32) (hI_s : InvK s) (hF_s : FrK [12, 122] s0 s) (h_x1l : 0 ≤ x1.toInt) (h_x1u : x1.toInt ≤ 8)  : Ok (kX1_putVar  s x1) (Q_kX1_putVar s0) := by
  unfold kX1_putVar
  have a_1 : (((-1) - x1)).toInt = (-1) - (x1).toInt := tn_sub (by decide) rfl (by omega) (by omega)
  refine ok_bindP (ok_kX1_put _ _ hI_s) (fun s1 hc_2 => ?_)
  have hI_s1 : InvK s1 := hc_2.1
  have hFc_s1 : FrK [12, 122] s s1 := hc_2.2
  have hF_s1 : FrK [12, 122] s0 s1 := hF_s.trans hFc_s1 (by decide)
  exact ok_some ⟨hI_s1, hF_s1⟩
theorem ok_kX1_putVar (s : KS) (x1 : Int32) (hI_s : InvK s) (h_x1l : 0 ≤ x1.toInt) (h_x1u : x1.toInt ≤ 8) : Ok (kX1_putVar s x1) (Q_kX1_putVar s) := ok_kX1_putVarB s s x1 hI_s FrK.rfl h_x1l h_x1u
abbrev Q_kX1_putSign (s0 : KS) (y : KS) : Prop := InvK y ∧ FrK [12, 122] s0 y
set_option maxHeartbeats 1000000 in
theorem ok_kX1_putSignB (s0 : KS)  (s : KS) (x1 : Int32) (hI_s : InvK s) (hF_s : FrK [12, 122] s0 s)  : Ok (kX1_putSign  s x1) (Q_kX1_putSign s0) := by
  unfold kX1_putSign
  refine ok_bindP (ok_kX1_put _ _ hI_s) (fun s1 hc_1 => ?_)
  have hI_s1 : InvK s1 := hc_1.1
  have hFc_s1 : FrK [12, 122] s s1 := hc_1.2
  have hF_s1 : FrK [12, 122] s0 s1 := hF_s.trans hFc_s1 (by decide)
  exact ok_some ⟨hI_s1, hF_s1⟩
theorem ok_kX1_putSign (s : KS) (x1 : Int32) (hI_s : InvK s) : Ok (kX1_putSign s x1) (Q_kX1_putSign s) := ok_kX1_putSignB s s x1 hI_s FrK.rfl
abbrev Q_kX1_partValue (s0 : KS) (y : Int32 × KS) : Prop := InvK y.2 ∧ FrK [7, 114] s0 y.2 ∧ -2147483648 ≤ y.1.toInt ∧ y.1.toInt ≤ 2147483647
set_option maxHeartbeats 1000000 in
theorem ok_kX1_partValue_156 (s0 : KS) (k53 : KS → Int32 → Int32 → Int32 → Option (Int32 × KS)) (M53 : Nat) (hk53 : ∀ (s : KS) (x4 : Int32) (x5 : Int32) (x6 : Int32), InvK s → FrK [7, 114] s0 s → 0 ≤ x4.toInt → x4.toInt ≤ 404 → 0 ≤ x5.toInt → x5.toInt ≤ 16 → 0 ≤ x6.toInt → x6.toInt ≤ 404 → (404 - x6.toInt).toNat < M53 → Ok (k53 s x4 x5 x6) (Q_kX1_partValue s0)) (s : KS) (x4 : Int32) (x5 : Int32) (x6 : Int32) (hI_s : InvK s) (hF_s : FrK [7, 114] s0 s) (h_x4l : 1 ≤ x4.toInt) (h_x4u : x4.toInt ≤ 404) (h_x5l : 0 ≤ x5.toInt) (h_x5u : x5.toInt ≤ 16) (h_x6l : 0 ≤ x6.toInt) (h_x6u : x6.toInt ≤ 403) (hM53 : (404 - x6.toInt).toNat ≤ M53) : Ok (kX1_partValue_156 k53 s x4 x5 x6) (Q_kX1_partValue s0) := by
  unfold kX1_partValue_156
  have a_1 : ((x6 + 1)).toInt = (x6).toInt + 1 := tn_add rfl (by decide) (by omega) (by omega)
  exact hk53 _ _ _ _ hI_s hF_s (by omega) (by omega) (by omega) (by omega) (by omega) (by omega) (by omega)
set_option maxHeartbeats 1000000 in
theorem ok_kX1_partValue_115 (s0 : KS) (k53 : KS → Int32 → Int32 → Int32 → Option (Int32 × KS)) (M53 : Nat) (hk53 : ∀ (s : KS) (x4 : Int32) (x5 : Int32) (x6 : Int32), InvK s → FrK [7, 114] s0 s → 0 ≤ x4.toInt → x4.toInt ≤ 404 → 0 ≤ x5.toInt → x5.toInt ≤ 16 → 0 ≤ x6.toInt → x6.toInt ≤ 404 → (404 - x6.toInt).toNat < M53 → Ok (k53 s x4 x5 x6) (Q_kX1_partValue s0)) (s : KS) (x4 : Int32) (x5 : Int32) (x6 : Int32) (x7 : Int32) (hI_s : InvK s) (hF_s : FrK [7, 114] s0 s) (h_x4l : 1 ≤ x4.toInt) (h_x4u : x4.toInt ≤ 404) (h_x5l : 0 ≤ x5.toInt) (h_x5u : x5.toInt ≤ 16) (h_x6l : 0 ≤ x6.toInt) (h_x6u : x6.toInt ≤ 403) (hM53 : (404 - x6.toInt).toNat ≤ M53) : Ok (kX1_partValue_115 k53 s x4 x5 x6 x7) (Q_kX1_partValue s0) := by
  unfold kX1_partValue_115
  rw [show x5 + (-1) = x5 - 1 from (Int32.sub_eq_add_neg x5 1).symm]
  refine ok_ite (fun c_1 => ?_) (fun c_1 => ?_)
  · have c_1 := tn_lt (a := (x5).toInt) (b := 2) rfl (by decide) c_1
    exact ok_kX1_partValue_156 s0 k53 M53 hk53 _ _ _ _ hI_s hF_s (by omega) (by omega) (by omega) (by omega) (by omega) (by omega) (by omega)
  · have c_1 := tn_nlt (a := (x5).toInt) (b := 2) rfl (by decide) c_1
    have a_2 : ((x5 - 1)).toInt = (x5).toInt - 1 := tn_sub rfl (by decide) (by omega) (by omega)
    have a_3 : (((x5 - 1) - 1)).toInt = ((x5 - 1)).toInt - 1 := tn_sub rfl (by decide) (by omega) (by omega)
    refine ok_grd (vpb_ok (by omega) (by omega)) ?_
    refine ok_grd (vpb_ok (by omega) (by omega)) ?_
    refine ok_bindI (ok_kX1_joined _ _ _ _ hI_s) (fun r5 s4 hc_4 => ?_)
    have hI_s4 : InvK s4 := hc_4.1
    have hFc_s4 : FrK [7] s s4 := hc_4.2.1
    have hF_s4 : FrK [7, 114] s0 s4 := hF_s.trans hFc_s4 (by decide)
    refine ok_grd (vpb_ok (by omega) (by omega)) ?_
    refine ok_let (fun s7 hs7 => ?_)
    have hI_s7 : InvK s7 := by rw [← hs7]; exact hI_s4.sfF (k := 14) rfl rfl
    have hF_s7 : FrK [7, 114] s0 s7 := by rw [← hs7]; exact hF_s4.sf (k := 14) (by decide)
    exact ok_kX1_partValue_156 s0 k53 M53 hk53 _ _ _ _ hI_s7 hF_s7 (by omega) (by omega) (by omega) (by omega) (by omega) (by omega) (by omega)
set_option maxHeartbeats 1000000 in
theorem ok_kX1_partValue_108 (s0 : KS) (k53 : KS → Int32 → Int32 → Int32 → Option (Int32 × KS)) (M53 : Nat) (hk53 : ∀ (s : KS) (x4 : Int32) (x5 : Int32) (x6 : Int32), InvK s → FrK [7, 114] s0 s → 0 ≤ x4.toInt → x4.toInt ≤ 404 → 0 ≤ x5.toInt → x5.toInt ≤ 16 → 0 ≤ x6.toInt → x6.toInt ≤ 404 → (404 - x6.toInt).toNat < M53 → Ok (k53 s x4 x5 x6) (Q_kX1_partValue s0)) (s : KS) (x4 : Int32) (x5 : Int32) (x6 : Int32) (t0 : Int32) (t1 : Int32) (hI_s : InvK s) (hF_s : FrK [7, 114] s0 s) (h_x4l : 1 ≤ x4.toInt) (h_x4u : x4.toInt ≤ 404) (h_x5l : 0 ≤ x5.toInt) (h_x5u : x5.toInt ≤ 15) (h_x6l : 0 ≤ x6.toInt) (h_x6u : x6.toInt ≤ 403) (h_t1l : 0 ≤ t1.toInt) (h_t1u : t1.toInt ≤ 15) (hM53 : (404 - x6.toInt).toNat ≤ M53) : Ok (kX1_partValue_108 k53 s x4 x5 x6 t0 t1) (Q_kX1_partValue s0) := by
  unfold kX1_partValue_108
  refine ok_grd (vpb_ok (by omega) (by omega)) ?_
  refine ok_let (fun s2 hs2 => ?_)
  have hI_s2 : InvK s2 := by rw [← hs2]; exact hI_s.sfF (k := 14) rfl rfl
  have hF_s2 : FrK [7, 114] s0 s2 := by rw [← hs2]; exact hF_s.sf (k := 14) (by decide)
  have a_1 : ((x5 + 1)).toInt = (x5).toInt + 1 := tn_add rfl (by decide) (by omega) (by omega)
  exact ok_kX1_partValue_156 s0 k53 M53 hk53 _ _ _ _ hI_s2 hF_s2 (by omega) (by omega) (by omega) (by omega) (by omega) (by omega) (by omega)
set_option maxHeartbeats 1000000 in
theorem ok_kX1_partValue_53 (s0 : KS) (k53 : KS → Int32 → Int32 → Int32 → Option (Int32 × KS)) (M53 : Nat) (hk53 : ∀ (s : KS) (x4 : Int32) (x5 : Int32) (x6 : Int32), InvK s → FrK [7, 114] s0 s → 0 ≤ x4.toInt → x4.toInt ≤ 404 → 0 ≤ x5.toInt → x5.toInt ≤ 16 → 0 ≤ x6.toInt → x6.toInt ≤ 404 → (404 - x6.toInt).toNat < M53 → Ok (k53 s x4 x5 x6) (Q_kX1_partValue s0)) (s : KS) (x4 : Int32) (x5 : Int32) (x6 : Int32) (hI_s : InvK s) (hF_s : FrK [7, 114] s0 s) (h_x4l : 0 ≤ x4.toInt) (h_x4u : x4.toInt ≤ 404) (h_x5l : 0 ≤ x5.toInt) (h_x5u : x5.toInt ≤ 16) (h_x6l : 0 ≤ x6.toInt) (h_x6u : x6.toInt ≤ 404) (hM53 : (404 - x6.toInt).toNat ≤ M53) : Ok (kX1_partValue_53 k53 s x4 x5 x6) (Q_kX1_partValue s0) := by
  unfold kX1_partValue_53
  refine ok_ite (fun c_1 => ?_) (fun c_1 => ?_)
  · have c_1 := tn_le (a := (x4).toInt) (b := (x6).toInt) rfl rfl c_1
    exact ok_some ⟨hI_s, hF_s, (ti_rng _).1, (ti_rng _).2⟩
  · have c_1 := tn_nle (a := (x4).toInt) (b := (x6).toInt) rfl rfl c_1
    refine ok_grd (vpb_ok (by omega) (by omega)) ?_
    refine ok_ite (fun c_2 => ?_) (fun c_2 => ?_)
    · have c_2 := tn_lt (a := (((s.f 9) (Int32.toNatClampNeg x6))).toInt) (b := (-9)) rfl (by decide) c_2
      exact ok_kX1_partValue_115 s0 k53 M53 hk53 _ _ _ _ _ hI_s hF_s (by omega) (by omega) (by omega) (by omega) (by omega) (by omega) (by omega)
    · have c_2 := tn_nlt (a := (((s.f 9) (Int32.toNatClampNeg x6))).toInt) (b := (-9)) rfl (by decide) c_2
      refine ok_ite (fun c_3 => ?_) (fun c_3 => ?_)
      · have c_3 := tn_le (a := 16) (b := (x5).toInt) (by decide) rfl c_3
        exact ok_kX1_partValue_115 s0 k53 M53 hk53 _ _ _ _ _ hI_s hF_s (by omega) (by omega) (by omega) (by omega) (by omega) (by omega) (by omega)
      · have c_3 := tn_nle (a := 16) (b := (x5).toInt) (by decide) rfl c_3
        refine ok_ite (fun c_4 => ?_) (fun c_4 => ?_)
        · have c_4 := tn_lt (a := (((s.f 9) (Int32.toNatClampNeg x6))).toInt) (b := 0) rfl (by decide) c_4
          have a_5 : (((-1) - ((s.f 9) (Int32.toNatClampNeg x6)))).toInt = (-1) - (((s.f 9) (Int32.toNatClampNeg x6))).toInt := tn_sub (by decide) rfl (by omega) (by omega)
          refine ok_grd (vpb_ok (by omega) (by omega)) ?_
          exact ok_kX1_partValue_108 s0 k53 M53 hk53 _ _ _ _ _ _ hI_s hF_s (by omega) (by omega) (by omega) (by omega) (by omega) (by omega) (by omega) (by omega) (by omega)
        · have c_4 := tn_nlt (a := (((s.f 9) (Int32.toNatClampNeg x6))).toInt) (b := 0) rfl (by decide) c_4
          exact ok_kX1_partValue_108 s0 k53 M53 hk53 _ _ _ _ _ _ hI_s hF_s (by omega) (by omega) (by omega) (by omega) (by omega) (by omega) (by omega) (by omega) (by omega)
theorem okL_kX1_partValue_53 (s0 : KS)  : ∀ (n : Nat) (s : KS) (x4 : Int32) (x5 : Int32) (x6 : Int32), (404 - x6.toInt).toNat < n → InvK s → FrK [7, 114] s0 s → 0 ≤ x4.toInt → x4.toInt ≤ 404 → 0 ≤ x5.toInt → x5.toInt ≤ 16 → 0 ≤ x6.toInt → x6.toInt ≤ 404 → Ok (kX1_partValue_53L  n s x4 x5 x6) (Q_kX1_partValue s0) := by
  intro n
  induction n with
  | zero => intro s x4 x5 x6 hn; omega
  | succ n ih =>
    intro s x4 x5 x6 hn hI_s hF_s h_x4l h_x4u h_x5l h_x5u h_x6l h_x6u 
    exact ok_kX1_partValue_53 s0 (kX1_partValue_53L  n) ((404 - x6.toInt).toNat) (fun zs zx4 zx5 zx6 g0 g1 g2 g3 g4 g5 g6 g7  hm => ih zs zx4 zx5 zx6 (by omega) g0 g1 g2 g3 g4 g5 g6 g7 ) s x4 x5 x6 hI_s hF_s h_x4l h_x4u h_x5l h_x5u h_x6l h_x6u (Nat.le_refl _)
set_option maxHeartbeats 1000000 in
theorem ok_kX1_partValue_51 (s0 : KS)  (s : KS) (x4 : Int32) (x5 : Int32) (t0 : Int32) (hI_s : InvK s) (hF_s : FrK [7, 114] s0 s) (h_x4l : 0 ≤ x4.toInt) (h_x4u : x4.toInt ≤ 404) (h_x5l : 0 ≤ x5.toInt) (h_x5u : x5.toInt ≤ 0) (h_t0l : 0 ≤ t0.toInt) (h_t0u : t0.toInt ≤ 404)  : Ok (kX1_partValue_51  s x4 x5 t0) (Q_kX1_partValue s0) := by
  unfold kX1_partValue_51
  exact okL_kX1_partValue_53 s0  fu _ _ _ _ (by unfold fu; omega) hI_s hF_s (by omega) (by omega) (by omega) (by omega) (by omega) (by omega) 
set_option maxHeartbeats 1000000 in
theorem ok_kX1_partValueB (s0 : KS)  (s : KS) (x1 : Int32) (x2 : Int32) (hI_s : InvK s) (hF_s : FrK [7, 114] s0 s) (h_x1l : 0 ≤ x1.toInt) (h_x1u : x1.toInt ≤ 3) (h_x2l : -1 ≤ x2.toInt) (h_x2u : x2.toInt ≤ 12)  : Ok (kX1_partValue  s x1 x2) (Q_kX1_partValue s0) := by
  unfold kX1_partValue
  refine ok_ite (fun c_1 => ?_) (fun c_1 => ?_)
  · have c_1 := tn_lt (a := (x2).toInt) (b := 0) rfl (by decide) c_1
    exact ok_some ⟨hI_s, hF_s, (ti_rng _).1, (ti_rng _).2⟩
  · have c_1 := tn_nlt (a := (x2).toInt) (b := 0) rfl (by decide) c_1
    refine ok_ite (fun c_2 => ?_) (fun c_2 => ?_)
    · have c_2 := tn_lt (a := (x2).toInt) (b := 13) rfl (by decide) c_2
      have a_3 : ((x1 * 13)).toInt = (x1).toInt * 13 := ti_mulc (c := 13) (by decide) (by omega) (by omega)
      have a_4 : (((x1 * 13) + x2)).toInt = ((x1 * 13)).toInt + (x2).toInt := tn_add rfl rfl (by omega) (by omega)
      refine ok_grd (vpb_ok (by omega) (by omega)) ?_
      refine ok_ite (fun c_5 => ?_) (fun c_5 => ?_)
      · have c_5 := tn_eq (a := (x2).toInt) (b := 0) rfl (by decide) c_5
        refine ok_grd (vpb_ok (by omega) (by omega)) ?_
        have a_6 : 0 ≤ (((s.f 10) (Int32.toNatClampNeg ((x1 * 13) + x2)))).toInt ∧ (((s.f 10) (Int32.toNatClampNeg ((x1 * 13) + x2)))).toInt ≤ 404 := hI_s.2 10 _
        have a_7 : 0 ≤ (((s.f 11) (Int32.toNatClampNeg x1))).toInt ∧ (((s.f 11) (Int32.toNatClampNeg x1))).toInt ≤ 404 := hI_s.2 11 _
        have l_0 : (0 : Int32).toInt = 0 := by decide
        exact ok_kX1_partValue_51 s0  _ _ _ _ hI_s hF_s (by omega) (by omega) (by decide) (by decide) (by omega) (by omega) 
      · have c_5 := tn_ne (a := (x2).toInt) (b := 0) rfl (by decide) c_5
        have a_8 : ((((x1 * 13) + x2) - 1)).toInt = (((x1 * 13) + x2)).toInt - 1 := tn_sub rfl (by decide) (by omega) (by omega)
        refine ok_grd (vpb_ok (by omega) (by omega)) ?_
        have a_9 : 0 ≤ (((s.f 10) (Int32.toNatClampNeg ((x1 * 13) + x2)))).toInt ∧ (((s.f 10) (Int32.toNatClampNeg ((x1 * 13) + x2)))).toInt ≤ 404 := hI_s.2 10 _
        have a_10 : 0 ≤ (((s.f 10) (Int32.toNatClampNeg (((x1 * 13) + x2) - 1)))).toInt ∧ (((s.f 10) (Int32.toNatClampNeg (((x1 * 13) + x2) - 1)))).toInt ≤ 404 := hI_s.2 10 _
        have l_0 : (0 : Int32).toInt = 0 := by decide
        exact ok_kX1_partValue_51 s0  _ _ _ _ hI_s hF_s (by omega) (by omega) (by decide) (by decide) (by omega) (by omega) 
    · have c_2 := tn_nlt (a := (x2).toInt) (b := 13) rfl (by decide) c_2
      omega
theorem ok_kX1_partValue (s : KS) (x1 : Int32) (x2 : Int32) (hI_s : InvK s) (h_x1l : 0 ≤ x1.toInt) (h_x1u : x1.toInt ≤ 3) (h_x2l : -1 ≤ x2.toInt) (h_x2u : x2.toInt ≤ 12) : Ok (kX1_partValue s x1 x2) (Q_kX1_partValue s) := ok_kX1_partValueB s s x1 x2 hI_s FrK.rfl h_x1l h_x1u h_x2l h_x2u
abbrev Q_kX2_mayCount (s0 : JS) (y : Int32 × JS) : Prop := InvK y.2.k ∧ FrK [] s0.k y.2.k ∧ -2147483648 ≤ y.1.toInt ∧ y.1.toInt ≤ 2147483647
set_option maxHeartbeats 1000000 in
theorem ok_kX2_mayCountB (s0 : JS)  (s : JS) (x2 : Int32) (hI_s_k : InvK s.k) (hF_s_k : FrK [] s0.k s.k) (h_x2l : 0 ≤ x2.toInt) (h_x2u : x2.toInt ≤ 4)  : Ok (kX2_mayCount  s x2) (Q_kX2_mayCount s0) := by
  unfold kX2_mayCount
  refine ok_bindI (ok_kX0_mayBe _ _ hI_s_k (by omega) (by omega)) (fun r2 s1 hc_1 => ?_)
  have hI_s1_k : InvK s1.k := hc_1.1
  have hFc_s1_k : FrK [] s.k s1.k := hc_1.2.1
  have hF_s1_k : FrK [] s0.k s1.k := hF_s_k.trans hFc_s1_k (by decide)
  refine ok_bindP (ok_kJ6_bitCount_0f7a4 _ ) (fun r3 hc_2 => ?_)
  exact ok_some ⟨hI_s1_k, hF_s1_k, (ti_rng _).1, (ti_rng _).2⟩
theorem ok_kX2_mayCount (s : JS) (x2 : Int32) (hI_s_k : InvK s.k) (h_x2l : 0 ≤ x2.toInt) (h_x2u : x2.toInt ≤ 4) : Ok (kX2_mayCount s x2) (Q_kX2_mayCount s) := ok_kX2_mayCountB s s x2 hI_s_k FrK.rfl h_x2l h_x2u
abbrev Q_kX2_caseCount (s0 : JS) (y : Int32 × JS) : Prop := InvK y.2.k ∧ FrK [] s0.k y.2.k ∧ -2147483648 ≤ y.1.toInt ∧ y.1.toInt ≤ 2147483647
set_option maxHeartbeats 1000000 in
theorem ok_kX2_caseCount_4 (s0 : JS) (k4 : JS → Int32 → Int32 → Option (Int32 × JS)) (M4 : Nat) (hk4 : ∀ (s : JS) (x2 : Int32) (x3 : Int32), InvK s.k → FrK [] s0.k s.k → 0 ≤ x3.toInt → x3.toInt ≤ 5 → (5 - x3.toInt).toNat < M4 → Ok (k4 s x2 x3) (Q_kX2_caseCount s0)) (s : JS) (x2 : Int32) (x3 : Int32) (hI_s_k : InvK s.k) (hF_s_k : FrK [] s0.k s.k) (h_x3l : 0 ≤ x3.toInt) (h_x3u : x3.toInt ≤ 5) (hM4 : (5 - x3.toInt).toNat ≤ M4) : Ok (kX2_caseCount_4 k4 s x2 x3) (Q_kX2_caseCount s0) := by
  unfold kX2_caseCount_4
  have a_1 : 0 ≤ (s.k.v 1).toInt ∧ (s.k.v 1).toInt ≤ 5 := hI_s_k.1 1
  refine ok_ite (fun c_2 => ?_) (fun c_2 => ?_)
  · have c_2 := tn_le (a := ((s.k.v 1)).toInt) (b := (x3).toInt) rfl rfl c_2
    exact ok_some ⟨hI_s_k, hF_s_k, (ti_rng _).1, (ti_rng _).2⟩
  · have c_2 := tn_nle (a := ((s.k.v 1)).toInt) (b := (x3).toInt) rfl rfl c_2
    refine ok_bindI (ok_kX2_mayCount _ _ hI_s_k (by omega) (by omega)) (fun r3 s2 hc_3 => ?_)
    have hI_s2_k : InvK s2.k := hc_3.1
    have hFc_s2_k : FrK [] s.k s2.k := hc_3.2.1
    have hF_s2_k : FrK [] s0.k s2.k := hF_s_k.trans hFc_s2_k (by decide)
    have a_4 : ((x3 + 1)).toInt = (x3).toInt + 1 := tn_add rfl (by decide) (by omega) (by omega)
    exact hk4 _ _ _ hI_s2_k hF_s2_k (by omega) (by omega) (by omega)
theorem okL_kX2_caseCount_4 (s0 : JS)  : ∀ (n : Nat) (s : JS) (x2 : Int32) (x3 : Int32), (5 - x3.toInt).toNat < n → InvK s.k → FrK [] s0.k s.k → 0 ≤ x3.toInt → x3.toInt ≤ 5 → Ok (kX2_caseCount_4L  n s x2 x3) (Q_kX2_caseCount s0) := by
  intro n
  induction n with
  | zero => intro s x2 x3 hn; omega
  | succ n ih =>
    intro s x2 x3 hn hI_s_k hF_s_k h_x3l h_x3u 
    exact ok_kX2_caseCount_4 s0 (kX2_caseCount_4L  n) ((5 - x3.toInt).toNat) (fun zs zx2 zx3 g0 g1 g2 g3  hm => ih zs zx2 zx3 (by omega) g0 g1 g2 g3 ) s x2 x3 hI_s_k hF_s_k h_x3l h_x3u (Nat.le_refl _)
set_option maxHeartbeats 1000000 in
theorem ok_kX2_caseCountB (s0 : JS)  (s : JS) (hI_s_k : InvK s.k) (hF_s_k : FrK [] s0.k s.k)  : Ok (kX2_caseCount  s) (Q_kX2_caseCount s0) := by
  unfold kX2_caseCount
  have l_1 : (1 : Int32).toInt = 1 := by decide
  have l_0 : (0 : Int32).toInt = 0 := by decide
  exact okL_kX2_caseCount_4 s0  fu _ _ _ (by unfold fu; omega) hI_s_k hF_s_k (by decide) (by decide) 
theorem ok_kX2_caseCount (s : JS) (hI_s_k : InvK s.k) : Ok (kX2_caseCount s) (Q_kX2_caseCount s) := ok_kX2_caseCountB s s hI_s_k FrK.rfl
abbrev Q_kX2_oddsIfMay (s0 : JS) (y : Int32 × JS) : Prop := InvK y.2.k ∧ FrK [] s0.k y.2.k ∧ -2147483648 ≤ y.1.toInt ∧ y.1.toInt ≤ 2147483647
set_option maxHeartbeats 1000000 in
theorem ok_kX2_oddsIfMayB (s0 : JS)  (s : JS) (x2 : Int32) (x3 : Int32) (hI_s_k : InvK s.k) (hF_s_k : FrK [] s0.k s.k) (h_x2l : 0 ≤ x2.toInt) (h_x2u : x2.toInt ≤ 4) (h_x3l : 0 ≤ x3.toInt) (h_x3u : x3.toInt ≤ 5)  : Ok (kX2_oddsIfMay  s x2 x3) (Q_kX2_oddsIfMay s0) := by
  unfold kX2_oddsIfMay
  refine ok_bindI (ok_kX0_mayBe _ _ hI_s_k (by omega) (by omega)) (fun r2 s1 hc_1 => ?_)
  have hI_s1_k : InvK s1.k := hc_1.1
  have hFc_s1_k : FrK [] s.k s1.k := hc_1.2.1
  have hF_s1_k : FrK [] s0.k s1.k := hF_s_k.trans hFc_s1_k (by decide)
  refine ok_bindP (ok_kX10_has _ _ ) (fun r3 hc_2 => ?_)
  have hl_r3 : 0 ≤ r3.toInt := hc_2.1
  have hu_r3 : r3.toInt ≤ 1 := hc_2.2
  refine ok_ite (fun c_3 => ?_) (fun c_3 => ?_)
  · have c_3 := tn_eq (a := (r3).toInt) (b := 0) rfl (by decide) c_3
    exact ok_some ⟨hI_s1_k, hF_s1_k, (ti_rng _).1, (ti_rng _).2⟩
  · have c_3 := tn_ne (a := (r3).toInt) (b := 0) rfl (by decide) c_3
    refine ok_bindI (ok_kX5_oddsAt _ _ _ hI_s1_k (by omega) (by omega) (by omega) (by omega)) (fun r6 s5 hc_4 => ?_)
    have hI_s5 : InvK s5 := hc_4.1
    have hFc_s5 : FrK [] s1.k s5 := hc_4.2.1
    have hF_s5 : FrK [] s0.k s5 := hF_s1_k.trans hFc_s5 (by decide)
    refine ok_let (fun s7 hs7 => ?_)
    have hI_s7_k : InvK s7.k := by rw [← hs7]; exact hI_s5
    have hF_s7_k : FrK [] s0.k s7.k := by rw [← hs7]; exact hF_s5
    exact ok_some ⟨hI_s7_k, hF_s7_k, (ti_rng _).1, (ti_rng _).2⟩
theorem ok_kX2_oddsIfMay (s : JS) (x2 : Int32) (x3 : Int32) (hI_s_k : InvK s.k) (h_x2l : 0 ≤ x2.toInt) (h_x2u : x2.toInt ≤ 4) (h_x3l : 0 ≤ x3.toInt) (h_x3u : x3.toInt ≤ 5) : Ok (kX2_oddsIfMay s x2 x3) (Q_kX2_oddsIfMay s) := ok_kX2_oddsIfMayB s s x2 x3 hI_s_k FrK.rfl h_x2l h_x2u h_x3l h_x3u
abbrev Q_kX2_oddsOf (s0 : JS) (y : Int32 × JS) : Prop := InvK y.2.k ∧ FrK [] s0.k y.2.k ∧ -2147483648 ≤ y.1.toInt ∧ y.1.toInt ≤ 2147483647
set_option maxHeartbeats 1000000 in
theorem ok_kX2_oddsOf_5 (s0 : JS) (k5 : JS → Int32 → Int32 → Int32 → Option (Int32 × JS)) (M5 : Nat) (hk5 : ∀ (s : JS) (x2 : Int32) (x3 : Int32) (x4 : Int32), InvK s.k → FrK [] s0.k s.k → 0 ≤ x2.toInt → 0 ≤ x4.toInt → x4.toInt ≤ 5 → (5 - x4.toInt).toNat < M5 → Ok (k5 s x2 x3 x4) (Q_kX2_oddsOf s0)) (s : JS) (x2 : Int32) (x3 : Int32) (x4 : Int32) (hI_s_k : InvK s.k) (hF_s_k : FrK [] s0.k s.k) (h_x2l : 0 ≤ x2.toInt) (h_x4l : 0 ≤ x4.toInt) (h_x4u : x4.toInt ≤ 5) (hM5 : (5 - x4.toInt).toNat ≤ M5) : Ok (kX2_oddsOf_5 k5 s x2 x3 x4) (Q_kX2_oddsOf s0) := by
  unfold kX2_oddsOf_5
  have a_1 : 0 ≤ (s.k.v 1).toInt ∧ (s.k.v 1).toInt ≤ 5 := hI_s_k.1 1
  refine ok_ite (fun c_2 => ?_) (fun c_2 => ?_)
  · have c_2 := tn_le (a := ((s.k.v 1)).toInt) (b := (x4).toInt) rfl rfl c_2
    exact ok_some ⟨hI_s_k, hF_s_k, (ti_rng _).1, (ti_rng _).2⟩
  · have c_2 := tn_nle (a := ((s.k.v 1)).toInt) (b := (x4).toInt) rfl rfl c_2
    refine ok_bindP (ok_kX10_thingIn _ _ (by omega) (by omega)) (fun r2 hc_3 => ?_)
    have hx0_r2 : (0 ≤ (x2).toInt → 0 ≤ r2.toInt ∧ r2.toInt ≤ 5) := hc_3.2.2
    refine ok_bindI (ok_kX2_oddsIfMay _ _ _ hI_s_k (by omega) (by omega) (by omega) (by omega)) (fun r4 s3 hc_4 => ?_)
    have hI_s3_k : InvK s3.k := hc_4.1
    have hFc_s3_k : FrK [] s.k s3.k := hc_4.2.1
    have hF_s3_k : FrK [] s0.k s3.k := hF_s_k.trans hFc_s3_k (by decide)
    have a_5 : ((x4 + 1)).toInt = (x4).toInt + 1 := tn_add rfl (by decide) (by omega) (by omega)
    exact hk5 _ _ _ _ hI_s3_k hF_s3_k (by omega) (by omega) (by omega) (by omega)
theorem okL_kX2_oddsOf_5 (s0 : JS)  : ∀ (n : Nat) (s : JS) (x2 : Int32) (x3 : Int32) (x4 : Int32), (5 - x4.toInt).toNat < n → InvK s.k → FrK [] s0.k s.k → 0 ≤ x2.toInt → 0 ≤ x4.toInt → x4.toInt ≤ 5 → Ok (kX2_oddsOf_5L  n s x2 x3 x4) (Q_kX2_oddsOf s0) := by
  intro n
  induction n with
  | zero => intro s x2 x3 x4 hn; omega
  | succ n ih =>
    intro s x2 x3 x4 hn hI_s_k hF_s_k h_x2l h_x4l h_x4u 
    exact ok_kX2_oddsOf_5 s0 (kX2_oddsOf_5L  n) ((5 - x4.toInt).toNat) (fun zs zx2 zx3 zx4 g0 g1 g2 g3 g4  hm => ih zs zx2 zx3 zx4 (by omega) g0 g1 g2 g3 g4 ) s x2 x3 x4 hI_s_k hF_s_k h_x2l h_x4l h_x4u (Nat.le_refl _)
set_option maxHeartbeats 1000000 in
theorem ok_kX2_oddsOfB (s0 : JS)  (s : JS) (x2 : Int32) (hI_s_k : InvK s.k) (hF_s_k : FrK [] s0.k s.k) (h_x2l : 0 ≤ x2.toInt)  : Ok (kX2_oddsOf  s x2) (Q_kX2_oddsOf s0) := by
  unfold kX2_oddsOf
  have l_1 : (1 : Int32).toInt = 1 := by decide
  have l_0 : (0 : Int32).toInt = 0 := by decide
  exact okL_kX2_oddsOf_5 s0  fu _ _ _ _ (by unfold fu; omega) hI_s_k hF_s_k (by omega) (by decide) (by decide) 
theorem ok_kX2_oddsOf (s : JS) (x2 : Int32) (hI_s_k : InvK s.k) (h_x2l : 0 ≤ x2.toInt) : Ok (kX2_oddsOf s x2) (Q_kX2_oddsOf s) := ok_kX2_oddsOfB s s x2 hI_s_k FrK.rfl h_x2l
abbrev Q_kX2_goesAtMost (s0 : JS) (y : Int32 × JS) : Prop := InvK y.2.k ∧ FrK [] s0.k y.2.k ∧ -2147483648 ≤ y.1.toInt ∧ y.1.toInt ≤ 2147483647
set_option maxHeartbeats 1000000 in
theorem ok_kX2_goesAtMost_4 (s0 : JS) (k4 : JS → Int32 → Int32 → Option (Int32 × JS)) (M4 : Nat) (hk4 : ∀ (s : JS) (x2 : Int32) (x3 : Int32), InvK s.k → FrK [] s0.k s.k → 0 ≤ x3.toInt → x3.toInt ≤ 5 → (5 - x3.toInt).toNat < M4 → Ok (k4 s x2 x3) (Q_kX2_goesAtMost s0)) (s : JS) (x2 : Int32) (x3 : Int32) (hI_s_k : InvK s.k) (hF_s_k : FrK [] s0.k s.k) (h_x3l : 0 ≤ x3.toInt) (h_x3u : x3.toInt ≤ 5) (hM4 : (5 - x3.toInt).toNat ≤ M4) : Ok (kX2_goesAtMost_4 k4 s x2 x3) (Q_kX2_goesAtMost s0) := by
  unfold kX2_goesAtMost_4
  have a_1 : 0 ≤ (s.k.v 1).toInt ∧ (s.k.v 1).toInt ≤ 5 := hI_s_k.1 1
  refine ok_ite (fun c_2 => ?_) (fun c_2 => ?_)
  · have c_2 := tn_le (a := ((s.k.v 1)).toInt) (b := (x3).toInt) rfl rfl c_2
    exact ok_some ⟨hI_s_k, hF_s_k, (ti_rng _).1, (ti_rng _).2⟩
  · have c_2 := tn_nle (a := ((s.k.v 1)).toInt) (b := (x3).toInt) rfl rfl c_2
    refine ok_bindI (ok_kX2_mayCount _ _ hI_s_k (by omega) (by omega)) (fun r3 s2 hc_3 => ?_)
    have hI_s2_k : InvK s2.k := hc_3.1
    have hFc_s2_k : FrK [] s.k s2.k := hc_3.2.1
    have hF_s2_k : FrK [] s0.k s2.k := hF_s_k.trans hFc_s2_k (by decide)
    have a_4 : ((x3 + 1)).toInt = (x3).toInt + 1 := tn_add rfl (by decide) (by omega) (by omega)
    exact hk4 _ _ _ hI_s2_k hF_s2_k (by omega) (by omega) (by omega)
theorem okL_kX2_goesAtMost_4 (s0 : JS)  : ∀ (n : Nat) (s : JS) (x2 : Int32) (x3 : Int32), (5 - x3.toInt).toNat < n → InvK s.k → FrK [] s0.k s.k → 0 ≤ x3.toInt → x3.toInt ≤ 5 → Ok (kX2_goesAtMost_4L  n s x2 x3) (Q_kX2_goesAtMost s0) := by
  intro n
  induction n with
  | zero => intro s x2 x3 hn; omega
  | succ n ih =>
    intro s x2 x3 hn hI_s_k hF_s_k h_x3l h_x3u 
    exact ok_kX2_goesAtMost_4 s0 (kX2_goesAtMost_4L  n) ((5 - x3.toInt).toNat) (fun zs zx2 zx3 g0 g1 g2 g3  hm => ih zs zx2 zx3 (by omega) g0 g1 g2 g3 ) s x2 x3 hI_s_k hF_s_k h_x3l h_x3u (Nat.le_refl _)
set_option maxHeartbeats 1000000 in
theorem ok_kX2_goesAtMostB (s0 : JS)  (s : JS) (hI_s_k : InvK s.k) (hF_s_k : FrK [] s0.k s.k)  : Ok (kX2_goesAtMost  s) (Q_kX2_goesAtMost s0) := by
  unfold kX2_goesAtMost
  have l_1 : (1 : Int32).toInt = 1 := by decide
  have l_0 : (0 : Int32).toInt = 0 := by decide
  exact okL_kX2_goesAtMost_4 s0  fu _ _ _ (by unfold fu; omega) hI_s_k hF_s_k (by decide) (by decide) 
theorem ok_kX2_goesAtMost (s : JS) (hI_s_k : InvK s.k) : Ok (kX2_goesAtMost s) (Q_kX2_goesAtMost s) := ok_kX2_goesAtMostB s s hI_s_k FrK.rfl
abbrev Q_kX2_leftBehind (s0 : JS) (y : Int32 × JS) : Prop := InvK y.2.k ∧ FrK [] s0.k y.2.k ∧ -2147483648 ≤ y.1.toInt ∧ y.1.toInt ≤ 2147483647
set_option maxHeartbeats 1000000 in
theorem ok_kX2_leftBehind_73 (s0 : JS) (k16 : JS → Int32 → Int32 → Int32 → Int32 → Option (Int32 × JS)) (M16 : Nat) (hk16 : ∀ (s : JS) (x2 : Int32) (x3 : Int32) (x4 : Int32) (x5 : Int32), InvK s.k → FrK [] s0.k s.k → -1 ≤ x5.toInt → x5.toInt ≤ 4 → (x5.toInt - (-1)).toNat < M16 → Ok (k16 s x2 x3 x4 x5) (Q_kX2_leftBehind s0)) (s : JS) (x2 : Int32) (x3 : Int32) (x4 : Int32) (x5 : Int32) (x6 : Int32) (hI_s_k : InvK s.k) (hF_s_k : FrK [] s0.k s.k) (h_x5l : 0 ≤ x5.toInt) (h_x5u : x5.toInt ≤ 4) (hM16 : (x5.toInt - (-1)).toNat ≤ M16) : Ok (kX2_leftBehind_73 k16 s x2 x3 x4 x5 x6) (Q_kX2_leftBehind s0) := by
  unfold kX2_leftBehind_73
  rw [show x5 + (-1) = x5 - 1 from (Int32.sub_eq_add_neg x5 1).symm]
  have a_1 : ((x5 - 1)).toInt = (x5).toInt - 1 := tn_sub rfl (by decide) (by omega) (by omega)
  exact hk16 _ _ _ _ _ hI_s_k hF_s_k (by omega) (by omega) (by omega)
set_option maxHeartbeats 1000000 in
theorem ok_kX2_leftBehind_16 (s0 : JS) (k16 : JS → Int32 → Int32 → Int32 → Int32 → Option (Int32 × JS)) (M16 : Nat) (hk16 : ∀ (s : JS) (x2 : Int32) (x3 : Int32) (x4 : Int32) (x5 : Int32), InvK s.k → FrK [] s0.k s.k → -1 ≤ x5.toInt → x5.toInt ≤ 4 → (x5.toInt - (-1)).toNat < M16 → Ok (k16 s x2 x3 x4 x5) (Q_kX2_leftBehind s0)) (s : JS) (x2 : Int32) (x3 : Int32) (x4 : Int32) (x5 : Int32) (hI_s_k : InvK s.k) (hF_s_k : FrK [] s0.k s.k) (h_x5l : -1 ≤ x5.toInt) (h_x5u : x5.toInt ≤ 4) (hM16 : (x5.toInt - (-1)).toNat ≤ M16) : Ok (kX2_leftBehind_16 k16 s x2 x3 x4 x5) (Q_kX2_leftBehind s0) := by
  unfold kX2_leftBehind_16
  refine ok_ite (fun c_1 => ?_) (fun c_1 => ?_)
  · have c_1 := tn_lt (a := (x5).toInt) (b := 0) rfl (by decide) c_1
    exact ok_some ⟨hI_s_k, hF_s_k, (ti_rng _).1, (ti_rng _).2⟩
  · have c_1 := tn_nlt (a := (x5).toInt) (b := 0) rfl (by decide) c_1
    refine ok_bindI (ok_kX2_mayCount _ _ hI_s_k (by omega) (by omega)) (fun r3 s2 hc_2 => ?_)
    have hI_s2_k : InvK s2.k := hc_2.1
    have hFc_s2_k : FrK [] s.k s2.k := hc_2.2.1
    have hF_s2_k : FrK [] s0.k s2.k := hF_s_k.trans hFc_s2_k (by decide)
    refine ok_bindI (ok_kX0_mayBe _ _ hI_s2_k (by omega) (by omega)) (fun r5 s4 hc_3 => ?_)
    have hI_s4_k : InvK s4.k := hc_3.1
    have hFc_s4_k : FrK [] s2.k s4.k := hc_3.2.1
    have hF_s4_k : FrK [] s0.k s4.k := hF_s2_k.trans hFc_s4_k (by decide)
    refine ok_bindP (ok_kX10_thingIn _ _ (by omega) (by omega)) (fun r6 hc_4 => ?_)
    have hx0_r6 : (0 ≤ (x2).toInt → 0 ≤ r6.toInt ∧ r6.toInt ≤ 5) := hc_4.2.2
    refine ok_bindP (ok_kX10_has _ _ ) (fun r7 hc_5 => ?_)
    have hl_r7 : 0 ≤ r7.toInt := hc_5.1
    have hu_r7 : r7.toInt ≤ 1 := hc_5.2
    refine ok_ite (fun c_6 => ?_) (fun c_6 => ?_)
    · have c_6 := tn_eq (a := (r7).toInt) (b := 0) rfl (by decide) c_6
      exact ok_kX2_leftBehind_73 s0 k16 M16 hk16 _ _ _ _ _ _ hI_s4_k hF_s4_k (by omega) (by omega) (by omega)
    · have c_6 := tn_ne (a := (r7).toInt) (b := 0) rfl (by decide) c_6
      have a_7 := tn_mmax (x := x3) (y := ((r3 - 1) * x4)) (a := (x3).toInt) (b := (((r3 - 1) * x4)).toInt) rfl rfl
      exact ok_kX2_leftBehind_73 s0 k16 M16 hk16 _ _ _ _ _ _ hI_s4_k hF_s4_k (by omega) (by omega) (by omega)
theorem okL_kX2_leftBehind_16 (s0 : JS)  : ∀ (n : Nat) (s : JS) (x2 : Int32) (x3 : Int32) (x4 : Int32) (x5 : Int32), (x5.toInt - (-1)).toNat < n → InvK s.k → FrK [] s0.k s.k → -1 ≤ x5.toInt → x5.toInt ≤ 4 → Ok (kX2_leftBehind_16L  n s x2 x3 x4 x5) (Q_kX2_leftBehind s0) := by
  intro n
  induction n with
  | zero => intro s x2 x3 x4 x5 hn; omega
  | succ n ih =>
    intro s x2 x3 x4 x5 hn hI_s_k hF_s_k h_x5l h_x5u 
    exact ok_kX2_leftBehind_16 s0 (kX2_leftBehind_16L  n) ((x5.toInt - (-1)).toNat) (fun zs zx2 zx3 zx4 zx5 g0 g1 g2 g3  hm => ih zs zx2 zx3 zx4 zx5 (by omega) g0 g1 g2 g3 ) s x2 x3 x4 x5 hI_s_k hF_s_k h_x5l h_x5u (Nat.le_refl _)
set_option maxHeartbeats 1000000 in
theorem ok_kX2_leftBehindB (s0 : JS)  (s : JS) (x2 : Int32) (hI_s_k : InvK s.k) (hF_s_k : FrK [] s0.k s.k)  : Ok (kX2_leftBehind  s x2) (Q_kX2_leftBehind s0) := by
  unfold kX2_leftBehind
  have a_1 : 0 ≤ (s.k.v 1).toInt ∧ (s.k.v 1).toInt ≤ 5 := hI_s_k.1 1
  have a_2 : (((s.k.v 1) - 1)).toInt = ((s.k.v 1)).toInt - 1 := tn_sub rfl (by decide) (by omega) (by omega)
  have l_1 : (1 : Int32).toInt = 1 := by decide
  exact okL_kX2_leftBehind_16 s0  fu _ _ _ _ _ (by unfold fu; omega) hI_s_k hF_s_k (by omega) (by omega) 
theorem ok_kX2_leftBehind (s : JS) (x2 : Int32) (hI_s_k : InvK s.k) : Ok (kX2_leftBehind s x2) (Q_kX2_leftBehind s) := ok_kX2_leftBehindB s s x2 hI_s_k FrK.rfl
abbrev Q_kX2_wisestGuess (s0 : JS) (y : Int32 × JS) : Prop := InvK y.2.k ∧ FrK [] s0.k y.2.k ∧ -2147483648 ≤ y.1.toInt ∧ y.1.toInt ≤ 2147483647
set_option maxHeartbeats 1000000 in
theorem ok_kX2_wisestGuess_7 (s0 : JS) (k7 : JS → Int32 → Int32 → Int32 → Option (Int32 × JS)) (M7 : Nat) (hk7 : ∀ (s : JS) (x2 : Int32) (x3 : Int32) (x4 : Int32), InvK s.k → FrK [] s0.k s.k → 0 ≤ x4.toInt → x4.toInt ≤ 5 → (5 - x4.toInt).toNat < M7 → Ok (k7 s x2 x3 x4) (Q_kX2_wisestGuess s0)) (s : JS) (x2 : Int32) (x3 : Int32) (x4 : Int32) (hI_s_k : InvK s.k) (hF_s_k : FrK [] s0.k s.k) (h_x4l : 0 ≤ x4.toInt) (h_x4u : x4.toInt ≤ 5) (hM7 : (5 - x4.toInt).toNat ≤ M7) : Ok (kX2_wisestGuess_7 k7 s x2 x3 x4) (Q_kX2_wisestGuess s0) := by
  unfold kX2_wisestGuess_7
  have a_1 : 0 ≤ (s.k.v 1).toInt ∧ (s.k.v 1).toInt ≤ 5 := hI_s_k.1 1
  refine ok_ite (fun c_2 => ?_) (fun c_2 => ?_)
  · have c_2 := tn_le (a := ((s.k.v 1)).toInt) (b := (x4).toInt) rfl rfl c_2
    exact ok_some ⟨hI_s_k, hF_s_k, (ti_rng _).1, (ti_rng _).2⟩
  · have c_2 := tn_nle (a := ((s.k.v 1)).toInt) (b := (x4).toInt) rfl rfl c_2
    refine ok_bindI (ok_kX0_mayBe _ _ hI_s_k (by omega) (by omega)) (fun r3 s2 hc_3 => ?_)
    have hI_s2_k : InvK s2.k := hc_3.1
    have hFc_s2_k : FrK [] s.k s2.k := hc_3.2.1
    have hF_s2_k : FrK [] s0.k s2.k := hF_s_k.trans hFc_s2_k (by decide)
    refine ok_bindP (ok_kJ6_numberOfTrailingZeros_0f7a4 _ ) (fun r4 hc_4 => ?_)
    refine ok_bindI (ok_kX2_mayCount _ _ hI_s2_k (by omega) (by omega)) (fun r6 s5 hc_5 => ?_)
    have hI_s5_k : InvK s5.k := hc_5.1
    have hFc_s5_k : FrK [] s2.k s5.k := hc_5.2.1
    have hF_s5_k : FrK [] s0.k s5.k := hF_s2_k.trans hFc_s5_k (by decide)
    refine ok_ite (fun c_6 => ?_) (fun c_6 => ?_)
    · have c_6 := tn_le (a := (r6).toInt) (b := 1) rfl (by decide) c_6
      have a_7 : ((x4 + 1)).toInt = (x4).toInt + 1 := tn_add rfl (by decide) (by omega) (by omega)
      exact hk7 _ _ _ _ hI_s5_k hF_s5_k (by omega) (by omega) (by omega)
    · have c_6 := tn_nle (a := (r6).toInt) (b := 1) rfl (by decide) c_6
      exact ok_some ⟨hI_s5_k, hF_s5_k, (ti_rng _).1, (ti_rng _).2⟩
theorem okL_kX2_wisestGuess_7 (s0 : JS)  : ∀ (n : Nat) (s : JS) (x2 : Int32) (x3 : Int32) (x4 : Int32), (5 - x4.toInt).toNat < n → InvK s.k → FrK [] s0.k s.k → 0 ≤ x4.toInt → x4.toInt ≤ 5 → Ok (kX2_wisestGuess_7L  n s x2 x3 x4) (Q_kX2_wisestGuess s0) := by
  intro n
  induction n with
  | zero => intro s x2 x3 x4 hn; omega
  | succ n ih =>
    intro s x2 x3 x4 hn hI_s_k hF_s_k h_x4l h_x4u 
    exact ok_kX2_wisestGuess_7 s0 (kX2_wisestGuess_7L  n) ((5 - x4.toInt).toNat) (fun zs zx2 zx3 zx4 g0 g1 g2 g3  hm => ih zs zx2 zx3 zx4 (by omega) g0 g1 g2 g3 ) s x2 x3 x4 hI_s_k hF_s_k h_x4l h_x4u (Nat.le_refl _)
set_option maxHeartbeats 1000000 in
theorem ok_kX2_wisestGuessB (s0 : JS)  (s : JS) (hI_s_k : InvK s.k) (hF_s_k : FrK [] s0.k s.k)  : Ok (kX2_wisestGuess  s) (Q_kX2_wisestGuess s0) := by
  unfold kX2_wisestGuess
  have l_0 : (0 : Int32).toInt = 0 := by decide
  have l_1 : (1 : Int32).toInt = 1 := by decide
  exact okL_kX2_wisestGuess_7 s0  fu _ _ _ _ (by unfold fu; omega) hI_s_k hF_s_k (by decide) (by decide) 
theorem ok_kX2_wisestGuess (s : JS) (hI_s_k : InvK s.k) : Ok (kX2_wisestGuess s) (Q_kX2_wisestGuess s) := ok_kX2_wisestGuessB s s hI_s_k FrK.rfl
abbrev Q_kX2_oddsApart (s0 : JS) (y : Int32 × JS) : Prop := InvK y.2.k ∧ FrK [] s0.k y.2.k ∧ 0 ≤ y.1.toInt ∧ y.1.toInt ≤ 2147483647
set_option maxHeartbeats 1000000 in
theorem ok_kX2_oddsApart_47 (s0 : JS) (k9 : JS → Int32 → Int32 → Int32 → Int32 → Option (Int32 × JS)) (M9 : Nat) (hk9 : ∀ (s : JS) (x2 : Int32) (x3 : Int32) (x4 : Int32) (x5 : Int32), InvK s.k → FrK [] s0.k s.k → 0 ≤ x2.toInt → x2.toInt ≤ 4 → 1 ≤ x3.toInt → x3.toInt ≤ 9 → 0 ≤ x4.toInt → 0 ≤ x5.toInt → x5.toInt ≤ 6 → (6 - x5.toInt).toNat < M9 → Ok (k9 s x2 x3 x4 x5) (Q_kX2_oddsApart s0)) (s : JS) (x2 : Int32) (x3 : Int32) (x4 : Int32) (x5 : Int32) (hI_s_k : InvK s.k) (hF_s_k : FrK [] s0.k s.k) (h_x2l : 0 ≤ x2.toInt) (h_x2u : x2.toInt ≤ 4) (h_x3l : 1 ≤ x3.toInt) (h_x3u : x3.toInt ≤ 9) (h_x4l : 0 ≤ x4.toInt) (h_x5l : 0 ≤ x5.toInt) (h_x5u : x5.toInt ≤ 5) (hM9 : (6 - x5.toInt).toNat ≤ M9) : Ok (kX2_oddsApart_47 k9 s x2 x3 x4 x5) (Q_kX2_oddsApart s0) := by
  unfold kX2_oddsApart_47
  have a_1 : ((x5 + 1)).toInt = (x5).toInt + 1 := tn_add rfl (by decide) (by omega) (by omega)
  exact hk9 _ _ _ _ _ hI_s_k hF_s_k (by omega) (by omega) (by omega) (by omega) (by omega) (by omega) (by omega) (by omega)
set_option maxHeartbeats 1000000 in
theorem ok_kX2_oddsApart_9 (s0 : JS) (k9 : JS → Int32 → Int32 → Int32 → Int32 → Option (Int32 × JS)) (M9 : Nat) (hk9 : ∀ (s : JS) (x2 : Int32) (x3 : Int32) (x4 : Int32) (x5 : Int32), InvK s.k → FrK [] s0.k s.k → 0 ≤ x2.toInt → x2.toInt ≤ 4 → 1 ≤ x3.toInt → x3.toInt ≤ 9 → 0 ≤ x4.toInt → 0 ≤ x5.toInt → x5.toInt ≤ 6 → (6 - x5.toInt).toNat < M9 → Ok (k9 s x2 x3 x4 x5) (Q_kX2_oddsApart s0)) (s : JS) (x2 : Int32) (x3 : Int32) (x4 : Int32) (x5 : Int32) (hI_s_k : InvK s.k) (hF_s_k : FrK [] s0.k s.k) (h_x2l : 0 ≤ x2.toInt) (h_x2u : x2.toInt ≤ 4) (h_x3l : 1 ≤ x3.toInt) (h_x3u : x3.toInt ≤ 9) (h_x4l : 0 ≤ x4.toInt) (h_x5l : 0 ≤ x5.toInt) (h_x5u : x5.toInt ≤ 6) (hM9 : (6 - x5.toInt).toNat ≤ M9) : Ok (kX2_oddsApart_9 k9 s x2 x3 x4 x5) (Q_kX2_oddsApart s0) := by
  unfold kX2_oddsApart_9
  refine ok_ite (fun c_1 => ?_) (fun c_1 => ?_)
  · have c_1 := tn_le (a := 6) (b := (x5).toInt) (by decide) rfl c_1
    have a_2 := tn_mmax (x := 0) (y := (x4 - x3)) (a := 0) (b := ((x4 - x3)).toInt) (by decide) rfl
    exact ok_some ⟨hI_s_k, hF_s_k, by show 0 ≤ ((mmax 0 (x4 - x3))).toInt; omega, (ti_rng _).2⟩
  · have c_1 := tn_nle (a := 6) (b := (x5).toInt) (by decide) rfl c_1
    refine ok_bindI (ok_kX2_oddsIfMay _ _ _ hI_s_k (by omega) (by omega) (by omega) (by omega)) (fun r3 s2 hc_3 => ?_)
    have hI_s2_k : InvK s2.k := hc_3.1
    have hFc_s2_k : FrK [] s.k s2.k := hc_3.2.1
    have hF_s2_k : FrK [] s0.k s2.k := hF_s_k.trans hFc_s2_k (by decide)
    refine ok_ite (fun c_4 => ?_) (fun c_4 => ?_)
    · have c_4 := tn_le (a := (r3).toInt) (b := 0) rfl (by decide) c_4
      exact ok_kX2_oddsApart_47 s0 k9 M9 hk9 _ _ _ _ _ hI_s2_k hF_s2_k (by omega) (by omega) (by omega) (by omega) (by omega) (by omega) (by omega) (by omega)
    · have c_4 := tn_nle (a := (r3).toInt) (b := 0) rfl (by decide) c_4
      have a_5 := tn_mmin (x := x3) (y := r3) (a := (x3).toInt) (b := (r3).toInt) rfl rfl
      have a_6 := tn_mmax (x := x4) (y := r3) (a := (x4).toInt) (b := (r3).toInt) rfl rfl
      exact ok_kX2_oddsApart_47 s0 k9 M9 hk9 _ _ _ _ _ hI_s2_k hF_s2_k (by omega) (by omega) (by omega) (by omega) (by omega) (by omega) (by omega) (by omega)
theorem okL_kX2_oddsApart_9 (s0 : JS)  : ∀ (n : Nat) (s : JS) (x2 : Int32) (x3 : Int32) (x4 : Int32) (x5 : Int32), (6 - x5.toInt).toNat < n → InvK s.k → FrK [] s0.k s.k → 0 ≤ x2.toInt → x2.toInt ≤ 4 → 1 ≤ x3.toInt → x3.toInt ≤ 9 → 0 ≤ x4.toInt → 0 ≤ x5.toInt → x5.toInt ≤ 6 → Ok (kX2_oddsApart_9L  n s x2 x3 x4 x5) (Q_kX2_oddsApart s0) := by
  intro n
  induction n with
  | zero => intro s x2 x3 x4 x5 hn; omega
  | succ n ih =>
    intro s x2 x3 x4 x5 hn hI_s_k hF_s_k h_x2l h_x2u h_x3l h_x3u h_x4l h_x5l h_x5u 
    exact ok_kX2_oddsApart_9 s0 (kX2_oddsApart_9L  n) ((6 - x5.toInt).toNat) (fun zs zx2 zx3 zx4 zx5 g0 g1 g2 g3 g4 g5 g6 g7 g8  hm => ih zs zx2 zx3 zx4 zx5 (by omega) g0 g1 g2 g3 g4 g5 g6 g7 g8 ) s x2 x3 x4 x5 hI_s_k hF_s_k h_x2l h_x2u h_x3l h_x3u h_x4l h_x5l h_x5u (Nat.le_refl _)
set_option maxHeartbeats 1000000 in
theorem ok_kX2_oddsApartB (s0 : JS)  (s : JS) (x2 : Int32) (hI_s_k : InvK s.k) (hF_s_k : FrK [] s0.k s.k) (h_x2l : 0 ≤ x2.toInt) (h_x2u : x2.toInt ≤ 4)  : Ok (kX2_oddsApart  s x2) (Q_kX2_oddsApart s0) := by
  unfold kX2_oddsApart
  have l_9 : (9 : Int32).toInt = 9 := by decide
  have l_0 : (0 : Int32).toInt = 0 := by decide
  exact okL_kX2_oddsApart_9 s0  fu _ _ _ _ _ (by unfold fu; omega) hI_s_k hF_s_k (by omega) (by omega) (by decide) (by decide) (by decide) (by decide) (by decide) 
theorem ok_kX2_oddsApart (s : JS) (x2 : Int32) (hI_s_k : InvK s.k) (h_x2l : 0 ≤ x2.toInt) (h_x2u : x2.toInt ≤ 4) : Ok (kX2_oddsApart s x2) (Q_kX2_oddsApart s) := ok_kX2_oddsApartB s s x2 hI_s_k FrK.rfl h_x2l h_x2u
abbrev Q_kX2_fillRow_near (s0 : JS) (y : Int32 × JS) : Prop := InvK y.2.k ∧ FrK [137] s0.k y.2.k ∧ 1 ≤ y.1.toInt ∧ y.1.toInt ≤ 216
set_option maxHeartbeats 1000000 in
theorem ok_kX2_fillRow_near_39 (s0 : JS) (k10 : JS → Int32 → Int32 → Int32 → Option (Int32 × JS)) (M10 : Nat) (hk10 : ∀ (s : JS) (x4 : Int32) (x5 : Int32) (x6 : Int32), InvK s.k → FrK [137] s0.k s.k → 0 ≤ x4.toInt → x4.toInt ≤ 3 → 1 ≤ x5.toInt → x5.toInt ≤ 216 → 0 ≤ x6.toInt → x6.toInt ≤ 3 → (x6.toInt ≤ 0 → x5.toInt ≤ 1) → (x6.toInt ≤ 1 → x5.toInt ≤ 6) → (x6.toInt ≤ 2 → x5.toInt ≤ 36) → (3 - x6.toInt).toNat < M10 → Ok (k10 s x4 x5 x6) (Q_kX2_fillRow_near s0)) (k20 : JS → Int32 → Int32 → Int32 → Int32 → Option (Int32 × JS)) (M20 : Nat) (hk20 : ∀ (s : JS) (x4 : Int32) (x5 : Int32) (x6 : Int32) (x7 : Int32), InvK s.k → FrK [137] s0.k s.k → 1 ≤ x4.toInt → x4.toInt ≤ 3 → 1 ≤ x5.toInt → x5.toInt ≤ 36 → 0 ≤ x6.toInt → x6.toInt ≤ 2 → -1 ≤ x7.toInt → x7.toInt ≤ 5 → (x6.toInt ≤ 0 → x5.toInt ≤ 1) → (x6.toInt ≤ 1 → x5.toInt ≤ 6) → (x6.toInt ≤ 2 → x5.toInt ≤ 36) → (3 - x6.toInt).toNat ≤ M10 → (x7.toInt - (-1)).toNat < M20 → Ok (k20 s x4 x5 x6 x7) (Q_kX2_fillRow_near s0)) (k39 : JS → Int32 → Int32 → Int32 → Int32 → Int32 → Int32 → Option (Int32 × JS)) (M39 : Nat) (hk39 : ∀ (s : JS) (x4 : Int32) (x5 : Int32) (x6 : Int32) (x7 : Int32) (x8 : Int32) (x9 : Int32), InvK s.k → FrK [137] s0.k s.k → 1 ≤ x4.toInt → x4.toInt ≤ 3 → 1 ≤ x5.toInt → x5.toInt ≤ 36 → 0 ≤ x6.toInt → x6.toInt ≤ 2 → 0 ≤ x7.toInt → x7.toInt ≤ 5 → 0 ≤ x9.toInt → x9.toInt ≤ 36 → (x6.toInt ≤ 0 → x5.toInt ≤ 1) → (x6.toInt ≤ 1 → x5.toInt ≤ 6) → (x6.toInt ≤ 2 → x5.toInt ≤ 36) → (3 - x6.toInt).toNat ≤ M10 → (x7.toInt - (-1)).toNat ≤ M20 → (36 - x9.toInt).toNat < M39 → Ok (k39 s x4 x5 x6 x7 x8 x9) (Q_kX2_fillRow_near s0)) (s : JS) (x4 : Int32) (x5 : Int32) (x6 : Int32) (x7 : Int32) (x8 : Int32) (x9 : Int32) (hI_s_k : InvK s.k) (hF_s_k : FrK [137] s0.k s.k) (h_x4l : 1 ≤ x4.toInt) (h_x4u : x4.toInt ≤ 3) (h_x5l : 1 ≤ x5.toInt) (h_x5u : x5.toInt ≤ 36) (h_x6l : 0 ≤ x6.toInt) (h_x6u : x6.toInt ≤ 2) (h_x7l : 0 ≤ x7.toInt) (h_x7u : x7.toInt ≤ 5) (h_x9l : 0 ≤ x9.toInt) (h_x9u : x9.toInt ≤ 36) (hx0 : (x6.toInt ≤ 0 → x5.toInt ≤ 1)) (hx1 : (x6.toInt ≤ 1 → x5.toInt ≤ 6)) (hx2 : (x6.toInt ≤ 2 → x5.toInt ≤ 36)) (hM10 : (3 - x6.toInt).toNat ≤ M10) (hM20 : (x7.toInt - (-1)).toNat ≤ M20) (hM39 : (36 - x9.toInt).toNat ≤ M39) : Ok (kX2_fillRow_near_39 k10 k20 k39 s x4 x5 x6 x7 x8 x9) (Q_kX2_fillRow_near s0) := by
  unfold kX2_fillRow_near_39
  rw [show x7 + (-1) = x7 - 1 from (Int32.sub_eq_add_neg x7 1).symm]
  refine ok_ite (fun c_1 => ?_) (fun c_1 => ?_)
  · have c_1 := tn_le (a := (x5).toInt) (b := (x9).toInt) rfl rfl c_1
    have a_2 : ((x7 - 1)).toInt = (x7).toInt - 1 := tn_sub rfl (by decide) (by omega) (by omega)
    exact hk20 _ _ _ _ _ hI_s_k hF_s_k (by first | (clear hx0 hx1 hx2; omega) | omega) (by first | (clear hx0 hx1 hx2; omega) | omega) (by first | (clear hx0 hx1 hx2; omega) | omega) (by first | (clear hx0 hx1 hx2; omega) | omega) (by first | (clear hx0 hx1 hx2; omega) | omega) (by first | (clear hx0 hx1 hx2; omega) | omega) (by first | (clear hx0 hx1 hx2; omega) | omega) (by first | (clear hx0 hx1 hx2; omega) | omega) (by omega) (by omega) (by omega) (by first | (clear hx0 hx1 hx2; omega) | omega) (by first | (clear hx0 hx1 hx2; omega) | omega)
  · have c_1 := tn_nle (a := (x5).toInt) (b := (x9).toInt) rfl rfl c_1
    refine ok_grd (vpb_ok (by omega) (by omega)) ?_
    have a_3 : 0 ≤ ((x7 * x5)).toInt ∧ ((x7 * x5)).toInt ≤ 180 := ti_mulr (a := 5) (b := 36) (by omega) (by omega) (by omega) (by omega) (by decide)
    have a_4 : (((x7 * x5) + x9)).toInt = ((x7 * x5)).toInt + (x9).toInt := tn_add rfl rfl (by omega) (by omega)
    refine ok_grd (vpb_ok (by omega) (by omega)) ?_
    refine ok_let (fun s4 hs4 => ?_)
    have hI_s4_k : InvK s4.k := by rw [← hs4]; exact hI_s_k.sfF (k := 37) rfl rfl
    have hF_s4_k : FrK [137] s0.k s4.k := by rw [← hs4]; exact hF_s_k.sf (k := 37) (by decide)
    have a_5 : ((x9 + 1)).toInt = (x9).toInt + 1 := tn_add rfl (by decide) (by omega) (by omega)
    exact hk39 _ _ _ _ _ _ _ hI_s4_k hF_s4_k (by first | (clear hx0 hx1 hx2; omega) | omega) (by first | (clear hx0 hx1 hx2; omega) | omega) (by first | (clear hx0 hx1 hx2; omega) | omega) (by first | (clear hx0 hx1 hx2; omega) | omega) (by first | (clear hx0 hx1 hx2; omega) | omega) (by first | (clear hx0 hx1 hx2; omega) | omega) (by first | (clear hx0 hx1 hx2; omega) | omega) (by first | (clear hx0 hx1 hx2; omega) | omega) (by first | (clear hx0 hx1 hx2; omega) | omega) (by first | (clear hx0 hx1 hx2; omega) | omega) (by omega) (by omega) (by omega) (by first | (clear hx0 hx1 hx2; omega) | omega) (by first | (clear hx0 hx1 hx2; omega) | omega) (by first | (clear hx0 hx1 hx2; omega) | omega)
theorem okL_kX2_fillRow_near_39 (s0 : JS) (k10 : JS → Int32 → Int32 → Int32 → Option (Int32 × JS)) (M10 : Nat) (hk10 : ∀ (s : JS) (x4 : Int32) (x5 : Int32) (x6 : Int32), InvK s.k → FrK [137] s0.k s.k → 0 ≤ x4.toInt → x4.toInt ≤ 3 → 1 ≤ x5.toInt → x5.toInt ≤ 216 → 0 ≤ x6.toInt → x6.toInt ≤ 3 → (x6.toInt ≤ 0 → x5.toInt ≤ 1) → (x6.toInt ≤ 1 → x5.toInt ≤ 6) → (x6.toInt ≤ 2 → x5.toInt ≤ 36) → (3 - x6.toInt).toNat < M10 → Ok (k10 s x4 x5 x6) (Q_kX2_fillRow_near s0)) (k20 : JS → Int32 → Int32 → Int32 → Int32 → Option (Int32 × JS)) (M20 : Nat) (hk20 : ∀ (s : JS) (x4 : Int32) (x5 : Int32) (x6 : Int32) (x7 : Int32), InvK s.k → FrK [137] s0.k s.k → 1 ≤ x4.toInt → x4.toInt ≤ 3 → 1 ≤ x5.toInt → x5.toInt ≤ 36 → 0 ≤ x6.toInt → x6.toInt ≤ 2 → -1 ≤ x7.toInt → x7.toInt ≤ 5 → (x6.toInt ≤ 0 → x5.toInt ≤ 1) → (x6.toInt ≤ 1 → x5.toInt ≤ 6) → (x6.toInt ≤ 2 → x5.toInt ≤ 36) → (3 - x6.toInt).toNat ≤ M10 → (x7.toInt - (-1)).toNat < M20 → Ok (k20 s x4 x5 x6 x7) (Q_kX2_fillRow_near s0)) : ∀ (n : Nat) (s : JS) (x4 : Int32) (x5 : Int32) (x6 : Int32) (x7 : Int32) (x8 : Int32) (x9 : Int32), (36 - x9.toInt).toNat < n → InvK s.k → FrK [137] s0.k s.k → 1 ≤ x4.toInt → x4.toInt ≤ 3 → 1 ≤ x5.toInt → x5.toInt ≤ 36 → 0 ≤ x6.toInt → x6.toInt ≤ 2 → 0 ≤ x7.toInt → x7.toInt ≤ 5 → 0 ≤ x9.toInt → x9.toInt ≤ 36 → (x6.toInt ≤ 0 → x5.toInt ≤ 1) → (x6.toInt ≤ 1 → x5.toInt ≤ 6) → (x6.toInt ≤ 2 → x5.toInt ≤ 36) → (3 - x6.toInt).toNat ≤ M10 → (x7.toInt - (-1)).toNat ≤ M20 → Ok (kX2_fillRow_near_39L k10 k20 n s x4 x5 x6 x7 x8 x9) (Q_kX2_fillRow_near s0) := by
  intro n
  induction n with
  | zero => intro s x4 x5 x6 x7 x8 x9 hn; omega
  | succ n ih =>
    intro s x4 x5 x6 x7 x8 x9 hn hI_s_k hF_s_k h_x4l h_x4u h_x5l h_x5u h_x6l h_x6u h_x7l h_x7u h_x9l h_x9u hx0 hx1 hx2 hM10 hM20
    exact ok_kX2_fillRow_near_39 s0 k10 M10 hk10 k20 M20 hk20 (kX2_fillRow_near_39L k10 k20 n) ((36 - x9.toInt).toNat) (fun zs zx4 zx5 zx6 zx7 zx8 zx9 g0 g1 g2 g3 g4 g5 g6 g7 g8 g9 g10 g11 g12 g13 g14 o10 o20 hm => ih zs zx4 zx5 zx6 zx7 zx8 zx9 (by omega) g0 g1 g2 g3 g4 g5 g6 g7 g8 g9 g10 g11 g12 g13 g14 o10 o20) s x4 x5 x6 x7 x8 x9 hI_s_k hF_s_k h_x4l h_x4u h_x5l h_x5u h_x6l h_x6u h_x7l h_x7u h_x9l h_x9u hx0 hx1 hx2 hM10 hM20 (Nat.le_refl _)
set_option maxHeartbeats 1000000 in
theorem ok_kX2_fillRow_near_20 (s0 : JS) (k10 : JS → Int32 → Int32 → Int32 → Option (Int32 × JS)) (M10 : Nat) (hk10 : ∀ (s : JS) (x4 : Int32) (x5 : Int32) (x6 : Int32), InvK s.k → FrK [137] s0.k s.k → 0 ≤ x4.toInt → x4.toInt ≤ 3 → 1 ≤ x5.toInt → x5.toInt ≤ 216 → 0 ≤ x6.toInt → x6.toInt ≤ 3 → (x6.toInt ≤ 0 → x5.toInt ≤ 1) → (x6.toInt ≤ 1 → x5.toInt ≤ 6) → (x6.toInt ≤ 2 → x5.toInt ≤ 36) → (3 - x6.toInt).toNat < M10 → Ok (k10 s x4 x5 x6) (Q_kX2_fillRow_near s0)) (k20 : JS → Int32 → Int32 → Int32 → Int32 → Option (Int32 × JS)) (M20 : Nat) (hk20 : ∀ (s : JS) (x4 : Int32) (x5 : Int32) (x6 : Int32) (x7 : Int32), InvK s.k → FrK [137] s0.k s.k → 1 ≤ x4.toInt → x4.toInt ≤ 3 → 1 ≤ x5.toInt → x5.toInt ≤ 36 → 0 ≤ x6.toInt → x6.toInt ≤ 2 → -1 ≤ x7.toInt → x7.toInt ≤ 5 → (x6.toInt ≤ 0 → x5.toInt ≤ 1) → (x6.toInt ≤ 1 → x5.toInt ≤ 6) → (x6.toInt ≤ 2 → x5.toInt ≤ 36) → (3 - x6.toInt).toNat ≤ M10 → (x7.toInt - (-1)).toNat < M20 → Ok (k20 s x4 x5 x6 x7) (Q_kX2_fillRow_near s0)) (s : JS) (x4 : Int32) (x5 : Int32) (x6 : Int32) (x7 : Int32) (hI_s_k : InvK s.k) (hF_s_k : FrK [137] s0.k s.k) (h_x4l : 1 ≤ x4.toInt) (h_x4u : x4.toInt ≤ 3) (h_x5l : 1 ≤ x5.toInt) (h_x5u : x5.toInt ≤ 36) (h_x6l : 0 ≤ x6.toInt) (h_x6u : x6.toInt ≤ 2) (h_x7l : -1 ≤ x7.toInt) (h_x7u : x7.toInt ≤ 5) (hx0 : (x6.toInt ≤ 0 → x5.toInt ≤ 1)) (hx1 : (x6.toInt ≤ 1 → x5.toInt ≤ 6)) (hx2 : (x6.toInt ≤ 2 → x5.toInt ≤ 36)) (hM10 : (3 - x6.toInt).toNat ≤ M10) (hM20 : (x7.toInt - (-1)).toNat ≤ M20) : Ok (kX2_fillRow_near_20 k10 k20 s x4 x5 x6 x7) (Q_kX2_fillRow_near s0) := by
  unfold kX2_fillRow_near_20
  refine ok_ite (fun c_1 => ?_) (fun c_1 => ?_)
  · have c_1 := tn_lt (a := (x7).toInt) (b := 0) rfl (by decide) c_1
    have a_2 : ((x5 * 6)).toInt = (x5).toInt * 6 := ti_mulc (c := 6) (by decide) (by omega) (by omega)
    have a_3 : ((x6 + 1)).toInt = (x6).toInt + 1 := tn_add rfl (by decide) (by omega) (by omega)
    exact hk10 _ _ _ _ hI_s_k hF_s_k (by first | (clear hx0 hx1 hx2; omega) | omega) (by first | (clear hx0 hx1 hx2; omega) | omega) (by first | (clear hx0 hx1 hx2; omega) | omega) (by first | (clear hx0 hx1 hx2; omega) | omega) (by first | (clear hx0 hx1 hx2; omega) | omega) (by first | (clear hx0 hx1 hx2; omega) | omega) (by omega) (by omega) (by omega) (by first | (clear hx0 hx1 hx2; omega) | omega)
  · have c_1 := tn_nlt (a := (x7).toInt) (b := 0) rfl (by decide) c_1
    refine ok_bindI (ok_kX2_oddsIfMay _ _ _ hI_s_k (by omega) (by omega) (by omega) (by omega)) (fun r3 s2 hc_4 => ?_)
    have hI_s2_k : InvK s2.k := hc_4.1
    have hFc_s2_k : FrK [] s.k s2.k := hc_4.2.1
    have hF_s2_k : FrK [137] s0.k s2.k := hF_s_k.trans hFc_s2_k (by decide)
    have l_0 : (0 : Int32).toInt = 0 := by decide
    exact okL_kX2_fillRow_near_39 s0 k10 M10 hk10 k20 M20 hk20 fu _ _ _ _ _ _ _ (by unfold fu; omega) hI_s2_k hF_s2_k (by first | (clear hx0 hx1 hx2; omega) | omega) (by first | (clear hx0 hx1 hx2; omega) | omega) (by first | (clear hx0 hx1 hx2; omega) | omega) (by first | (clear hx0 hx1 hx2; omega) | omega) (by first | (clear hx0 hx1 hx2; omega) | omega) (by first | (clear hx0 hx1 hx2; omega) | omega) (by first | (clear hx0 hx1 hx2; omega) | omega) (by first | (clear hx0 hx1 hx2; omega) | omega) (by decide) (by decide) (by omega) (by omega) (by omega) (by first | (clear hx0 hx1 hx2; omega) | omega) (by first | (clear hx0 hx1 hx2; omega) | omega)
theorem okL_kX2_fillRow_near_20 (s0 : JS) (k10 : JS → Int32 → Int32 → Int32 → Option (Int32 × JS)) (M10 : Nat) (hk10 : ∀ (s : JS) (x4 : Int32) (x5 : Int32) (x6 : Int32), InvK s.k → FrK [137] s0.k s.k → 0 ≤ x4.toInt → x4.toInt ≤ 3 → 1 ≤ x5.toInt → x5.toInt ≤ 216 → 0 ≤ x6.toInt → x6.toInt ≤ 3 → (x6.toInt ≤ 0 → x5.toInt ≤ 1) → (x6.toInt ≤ 1 → x5.toInt ≤ 6) → (x6.toInt ≤ 2 → x5.toInt ≤ 36) → (3 - x6.toInt).toNat < M10 → Ok (k10 s x4 x5 x6) (Q_kX2_fillRow_near s0)) : ∀ (n : Nat) (s : JS) (x4 : Int32) (x5 : Int32) (x6 : Int32) (x7 : Int32), (x7.toInt - (-1)).toNat < n → InvK s.k → FrK [137] s0.k s.k → 1 ≤ x4.toInt → x4.toInt ≤ 3 → 1 ≤ x5.toInt → x5.toInt ≤ 36 → 0 ≤ x6.toInt → x6.toInt ≤ 2 → -1 ≤ x7.toInt → x7.toInt ≤ 5 → (x6.toInt ≤ 0 → x5.toInt ≤ 1) → (x6.toInt ≤ 1 → x5.toInt ≤ 6) → (x6.toInt ≤ 2 → x5.toInt ≤ 36) → (3 - x6.toInt).toNat ≤ M10 → Ok (kX2_fillRow_near_20L k10 n s x4 x5 x6 x7) (Q_kX2_fillRow_near s0) := by
  intro n
  induction n with
  | zero => intro s x4 x5 x6 x7 hn; omega
  | succ n ih =>
    intro s x4 x5 x6 x7 hn hI_s_k hF_s_k h_x4l h_x4u h_x5l h_x5u h_x6l h_x6u h_x7l h_x7u hx0 hx1 hx2 hM10
    exact ok_kX2_fillRow_near_20 s0 k10 M10 hk10 (kX2_fillRow_near_20L k10 n) ((x7.toInt - (-1)).toNat) (fun zs zx4 zx5 zx6 zx7 g0 g1 g2 g3 g4 g5 g6 g7 g8 g9 g10 g11 g12 o10 hm => ih zs zx4 zx5 zx6 zx7 (by omega) g0 g1 g2 g3 g4 g5 g6 g7 g8 g9 g10 g11 g12 o10) s x4 x5 x6 x7 hI_s_k hF_s_k h_x4l h_x4u h_x5l h_x5u h_x6l h_x6u h_x7l h_x7u hx0 hx1 hx2 hM10 (Nat.le_refl _)
set_option maxHeartbeats 1000000 in
theorem ok_kX2_fillRow_near_10 (s0 : JS) (k10 : JS → Int32 → Int32 → Int32 → Option (Int32 × JS)) (M10 : Nat) (hk10 : ∀ (s : JS) (x4 : Int32) (x5 : Int32) (x6 : Int32), InvK s.k → FrK [137] s0.k s.k → 0 ≤ x4.toInt → x4.toInt ≤ 3 → 1 ≤ x5.toInt → x5.toInt ≤ 216 → 0 ≤ x6.toInt → x6.toInt ≤ 3 → (x6.toInt ≤ 0 → x5.toInt ≤ 1) → (x6.toInt ≤ 1 → x5.toInt ≤ 6) → (x6.toInt ≤ 2 → x5.toInt ≤ 36) → (3 - x6.toInt).toNat < M10 → Ok (k10 s x4 x5 x6) (Q_kX2_fillRow_near s0)) (s : JS) (x4 : Int32) (x5 : Int32) (x6 : Int32) (hI_s_k : InvK s.k) (hF_s_k : FrK [137] s0.k s.k) (h_x4l : 0 ≤ x4.toInt) (h_x4u : x4.toInt ≤ 3) (h_x5l : 1 ≤ x5.toInt) (h_x5u : x5.toInt ≤ 216) (h_x6l : 0 ≤ x6.toInt) (h_x6u : x6.toInt ≤ 3) (hx0 : (x6.toInt ≤ 0 → x5.toInt ≤ 1)) (hx1 : (x6.toInt ≤ 1 → x5.toInt ≤ 6)) (hx2 : (x6.toInt ≤ 2 → x5.toInt ≤ 36)) (hM10 : (3 - x6.toInt).toNat ≤ M10) : Ok (kX2_fillRow_near_10 k10 s x4 x5 x6) (Q_kX2_fillRow_near s0) := by
  unfold kX2_fillRow_near_10
  refine ok_ite (fun c_1 => ?_) (fun c_1 => ?_)
  · have c_1 := tn_le (a := (x4).toInt) (b := (x6).toInt) rfl rfl c_1
    exact ok_some ⟨hI_s_k, hF_s_k, by show 1 ≤ (x5).toInt; omega, by show (x5).toInt ≤ 216; omega⟩
  · have c_1 := tn_nle (a := (x4).toInt) (b := (x6).toInt) rfl rfl c_1
    have l_5 : (5 : Int32).toInt = 5 := by decide
    exact okL_kX2_fillRow_near_20 s0 k10 M10 hk10 fu _ _ _ _ _ (by unfold fu; omega) hI_s_k hF_s_k (by first | (clear hx0 hx1 hx2; omega) | omega) (by first | (clear hx0 hx1 hx2; omega) | omega) (by first | (clear hx0 hx1 hx2; omega) | omega) (by first | (clear hx0 hx1 hx2; omega) | omega) (by first | (clear hx0 hx1 hx2; omega) | omega) (by first | (clear hx0 hx1 hx2; omega) | omega) (by decide) (by decide) (by omega) (by omega) (by omega) (by first | (clear hx0 hx1 hx2; omega) | omega)
theorem okL_kX2_fillRow_near_10 (s0 : JS)  : ∀ (n : Nat) (s : JS) (x4 : Int32) (x5 : Int32) (x6 : Int32), (3 - x6.toInt).toNat < n → InvK s.k → FrK [137] s0.k s.k → 0 ≤ x4.toInt → x4.toInt ≤ 3 → 1 ≤ x5.toInt → x5.toInt ≤ 216 → 0 ≤ x6.toInt → x6.toInt ≤ 3 → (x6.toInt ≤ 0 → x5.toInt ≤ 1) → (x6.toInt ≤ 1 → x5.toInt ≤ 6) → (x6.toInt ≤ 2 → x5.toInt ≤ 36) → Ok (kX2_fillRow_near_10L  n s x4 x5 x6) (Q_kX2_fillRow_near s0) := by
  intro n
  induction n with
  | zero => intro s x4 x5 x6 hn; omega
  | succ n ih =>
    intro s x4 x5 x6 hn hI_s_k hF_s_k h_x4l h_x4u h_x5l h_x5u h_x6l h_x6u hx0 hx1 hx2 
    exact ok_kX2_fillRow_near_10 s0 (kX2_fillRow_near_10L  n) ((3 - x6.toInt).toNat) (fun zs zx4 zx5 zx6 g0 g1 g2 g3 g4 g5 g6 g7 g8 g9 g10  hm => ih zs zx4 zx5 zx6 (by omega) g0 g1 g2 g3 g4 g5 g6 g7 g8 g9 g10 ) s x4 x5 x6 hI_s_k hF_s_k h_x4l h_x4u h_x5l h_x5u h_x6l h_x6u hx0 hx1 hx2 (Nat.le_refl _)
set_option maxHeartbeats 1000000 in
theorem ok_kX2_fillRow_nearB (s0 : JS)  (s : JS) (x3 : Int32) (x4 : Int32) (hI_s_k : InvK s.k) (hF_s_k : FrK [137] s0.k s.k) (h_x3l : 0 ≤ x3.toInt) (h_x3u : x3.toInt ≤ 0) (h_x4l : 0 ≤ x4.toInt) (h_x4u : x4.toInt ≤ 3)  : Ok (kX2_fillRow_near  s x3 x4) (Q_kX2_fillRow_near s0) := by
  unfold kX2_fillRow_near
  refine ok_let (fun s1 hs1 => ?_)
  have hI_s1_k : InvK s1.k := by rw [← hs1]; exact hI_s_k.sfF (k := 37) rfl rfl
  have hF_s1_k : FrK [137] s0.k s1.k := by rw [← hs1]; exact hF_s_k.sf (k := 37) (by decide)
  have l_1 : (1 : Int32).toInt = 1 := by decide
  exact okL_kX2_fillRow_near_10 s0  fu _ _ _ _ (by unfold fu; omega) hI_s1_k hF_s1_k (by omega) (by omega) (by decide) (by decide) (by omega) (by omega) (by omega) (by omega) (by omega) 
theorem ok_kX2_fillRow_near (s : JS) (x3 : Int32) (x4 : Int32) (hI_s_k : InvK s.k) (h_x3l : 0 ≤ x3.toInt) (h_x3u : x3.toInt ≤ 0) (h_x4l : 0 ≤ x4.toInt) (h_x4u : x4.toInt ≤ 3) : Ok (kX2_fillRow_near s x3 x4) (Q_kX2_fillRow_near s) := ok_kX2_fillRow_nearB s s x3 x4 hI_s_k FrK.rfl h_x3l h_x3u h_x4l h_x4u
