theorem put_L (s0 : RS) (x1 : Int32) (T : Int) (hT0 : 0 ≤ T) (hT : T ≤ 1996) : ∀ (n j : Nat) (s : RS) (x2 : Int32), 4 - j < n → j ≤ 4 → x2.toInt = 24 - 8 * (j : Int) → InvR s → FrR [2, 101] s0 s → (s.v 2).toInt = T + (j : Int) → Ok (r_put_3L n s x1 x2) (fun y => InvR y ∧ FrR [2, 101] s0 y ∧ (y.v 2).toInt = T + 4) := by
  intro n
  induction n with
  | zero => intro j s x2 h; omega
  | succ n ih =>
    intro j s x2 hn hj h2 hI hF ht
    show Ok (r_put_3 (r_put_3L n) s x1 x2) _
    unfold r_put_3
    rw [show x2 + (-8) = x2 - 8 from (Int32.sub_eq_add_neg x2 8).symm]
    refine ok_ite (fun c => ?_) (fun c => ?_)
    · have c := tn_lt (b := 0) rfl (by decide) c
      exact ok_some ⟨hI, hF, by omega⟩
    · have c := tn_nlt (b := 0) rfl (by decide) c
      refine ok_grd (vpb_ok (by omega) (by omega)) ?_
      refine ok_let (fun s3 hs3 => ?_)
      have hI3 : InvR s3 := by rw [← hs3]; exact hI.sfF (k := 1) rfl rfl
      have hF3 : FrR [2, 101] s0 s3 := by rw [← hs3]; exact hF.sf (k := 1) (by decide)
      have e3 : s3.v 2 = s.v 2 := by rw [← hs3]; rfl
      refine ok_let (fun s5 hs5 => ?_)
      have a : ((s3.v 2) + 1).toInt = (s3.v 2).toInt + 1 := tn_add rfl (by decide) (by rw [e3]; omega) (by rw [e3]; omega)
      rw [e3] at a
      have hI5 : InvR s5 := by rw [← hs5, e3]; exact hI3.sv (k := 2) (show (0 : Int) ≤ ((s.v 2) + 1).toInt by omega) (show ((s.v 2) + 1).toInt ≤ (2000 : Int) by omega)
      have hF5 : FrR [2, 101] s0 s5 := by rw [← hs5]; exact hF3.sv (k := 2) (by decide)
      have e5 : s5.v 2 = (s.v 2) + 1 := by rw [← hs5, ← e3]; rfl
      have b : (x2 - 8).toInt = x2.toInt - 8 := tn_sub rfl (by decide) (by omega) (by omega)
      exact ih (j + 1) s5 _ (by omega) (by omega) (by omega) hI5 hF5 (by rw [e5]; omega)
theorem ok_put (s : RS) (x1 : Int32) (hI : InvR s) (h : (s.v 2).toInt ≤ 1996) : Ok (r_put s x1) (fun y => InvR y ∧ FrR [2, 101] s y ∧ (y.v 2).toInt = (s.v 2).toInt + 4) := by
  unfold r_put
  have h2 : 0 ≤ (s.v 2).toInt ∧ (s.v 2).toInt ≤ 2000 := hI.1 2
  exact put_L s x1 (s.v 2).toInt h2.1 h fu 0 s 24 (by unfold fu; omega) (by omega) (by decide) hI FrR.rfl (by omega)
abbrev Q_r_feed (s0 : RS) (y : Int32 × RS) : Prop := InvR y.2 ∧ FrR [2, 101] s0 y.2 ∧ -1 ≤ y.1.toInt ∧ y.1.toInt ≤ 2000
/-- what feed answers, and how long the tape is then -/
theorem feed_says (s : RS) (x1 x2 x3 x4 x5 : Int32) (hI : InvR s) : Ok (r_feed s x1 x2 x3 x4 x5) (fun y => InvR y.2 ∧ FrR [2, 101] s y.2 ∧ (((s.v 2).toInt ≤ 1980 ∧ (y.2.v 2).toInt = (s.v 2).toInt + 20 ∧ y.1.toInt = (s.v 2).toInt + 20) ∨ (1980 < (s.v 2).toInt ∧ (y.2.v 2).toInt = (s.v 2).toInt ∧ y.1.toInt = -1))) := by
  unfold r_feed
  have h2 : 0 ≤ (s.v 2).toInt ∧ (s.v 2).toInt ≤ 2000 := hI.1 2
  have a : ((s.v 2) + 20).toInt = (s.v 2).toInt + 20 := tn_add rfl (by decide) (by omega) (by omega)
  refine ok_ite (fun c => ?_) (fun c => ?_)
  · have c := tn_le (b := 2000) rfl (by decide) c
    refine ok_bindP (ok_put s x1 hI (by omega)) (fun s2 h2 => ?_)
    refine ok_bindP (ok_put s2 x2 h2.1 (by omega)) (fun s3 h3 => ?_)
    refine ok_bindP (ok_put s3 x3 h3.1 (by omega)) (fun s4 h4 => ?_)
    refine ok_bindP (ok_put s4 x4 h4.1 (by omega)) (fun s5 h5 => ?_)
    refine ok_bindP (ok_put s5 x5 h5.1 (by omega)) (fun s6 h6 => ?_)
    have e : (s6.v 2).toInt = (s.v 2).toInt + 20 := by omega
    exact ok_some ⟨h6.1, (((h2.2.1.trans h3.2.1 (by decide)).trans h4.2.1 (by decide)).trans h5.2.1 (by decide)).trans h6.2.1 (by decide), Or.inl ⟨by omega, e, e⟩⟩
  · have c := tn_nle (b := 2000) rfl (by decide) c
    exact ok_some ⟨hI, FrR.rfl, Or.inr ⟨by omega, rfl, by show ((-1) : Int32).toInt = -1; decide⟩⟩
theorem ok_r_feed (s : RS) (x1 x2 x3 x4 x5 : Int32) (hI : InvR s) : Ok (r_feed s x1 x2 x3 x4 x5) (Q_r_feed s) := by
  have h2 : 0 ≤ (s.v 2).toInt ∧ (s.v 2).toInt ≤ 2000 := hI.1 2
  refine ok_weak (feed_says s x1 x2 x3 x4 x5 hI) (fun y hy => ⟨hy.1, hy.2.1, ?_, ?_⟩)
  · rcases hy.2.2 with h | h <;> omega
  · rcases hy.2.2 with h | h <;> omega
abbrev Q_r_back (s0 : RS) (y : Int32 × RS) : Prop := InvR y.2 ∧ FrR [2] s0 y.2 ∧ -1 ≤ y.1.toInt ∧ y.1.toInt ≤ 2000
set_option maxHeartbeats 1000000 in
theorem ok_r_backB (s0 : RS)  (s : RS) (x1 : Int32) (hI_s : InvR s) (hF_s : FrR [2] s0 s)  : Ok (r_back  s x1) (Q_r_back s0) := by
  unfold r_back
  refine ok_ite (fun c_1 => ?_) (fun c_1 => ?_)
  · have c_1 := tn_lt (a := (x1).toInt) (b := 0) rfl (by decide) c_1
    exact ok_some ⟨hI_s, hF_s, by show -1 ≤ ((-1) : Int32).toInt; decide, by show ((-1) : Int32).toInt ≤ 2000; decide⟩
  · have c_1 := tn_nlt (a := (x1).toInt) (b := 0) rfl (by decide) c_1
    have a_2 : 0 ≤ (s.v 2).toInt ∧ (s.v 2).toInt ≤ 2000 := hI_s.1 2
    refine ok_ite (fun c_3 => ?_) (fun c_3 => ?_)
    · have c_3 := tn_le (a := (x1).toInt) (b := ((s.v 2)).toInt) rfl rfl c_3
      refine ok_let (fun s3 hs3 => ?_)
      have a_4 : (((s.v 2) - x1)).toInt = ((s.v 2)).toInt - (x1).toInt := tn_sub rfl rfl (by omega) (by omega)
      have hI_s3 : InvR s3 := by rw [← hs3]; exact hI_s.sv (k := 2) (show (0 : Int) ≤ (((s.v 2) - x1)).toInt by omega) (show (((s.v 2) - x1)).toInt ≤ (2000 : Int) by omega)
      have hF_s3 : FrR [2] s0 s3 := by rw [← hs3]; exact hF_s.sv (k := 2) (by decide)
      have a_5 : (s3.v 2).toInt = (((s.v 2) - x1)).toInt := (congrArg Int32.toInt (show s3.v 2 = ((s.v 2) - x1) by rw [← hs3]; rfl)).trans rfl
      exact ok_some ⟨hI_s3, hF_s3, by show -1 ≤ ((s3.v 2)).toInt; omega, by show ((s3.v 2)).toInt ≤ 2000; omega⟩
    · have c_3 := tn_nle (a := (x1).toInt) (b := ((s.v 2)).toInt) rfl rfl c_3
      exact ok_some ⟨hI_s, hF_s, by show -1 ≤ ((-1) : Int32).toInt; decide, by show ((-1) : Int32).toInt ≤ 2000; decide⟩
theorem ok_r_back (s : RS) (x1 : Int32) (hI_s : InvR s) : Ok (r_back s x1) (Q_r_back s) := ok_r_backB s s x1 hI_s FrR.rfl
abbrev Q_r_keepsRow (s0 : RS) (y : RS) : Prop := InvR y ∧ FrR [143] s0 y
set_option maxHeartbeats 1000000 in
theorem ok_r_keepsRow_2 (s0 : RS) (k2 : RS → Int32 → Option (RS)) (M2 : Nat) (hk2 : ∀ (s : RS) (x1 : Int32), InvR s → FrR [143] s0 s → 0 ≤ x1.toInt → x1.toInt ≤ 29 → (29 - x1.toInt).toNat < M2 → Ok (k2 s x1) (Q_r_keepsRow s0)) (s : RS) (x1 : Int32) (hI_s : InvR s) (hF_s : FrR [143] s0 s) (h_x1l : 0 ≤ x1.toInt) (h_x1u : x1.toInt ≤ 29) (hM2 : (29 - x1.toInt).toNat ≤ M2) : Ok (r_keepsRow_2 k2 s x1) (Q_r_keepsRow s0) := by
  unfold r_keepsRow_2
  refine ok_ite (fun c_1 => ?_) (fun c_1 => ?_)
  · have c_1 := tn_le (a := 29) (b := (x1).toInt) (by decide) rfl c_1
    exact ok_some ⟨hI_s, hF_s⟩
  · have c_1 := tn_nle (a := 29) (b := (x1).toInt) (by decide) rfl c_1
    refine ok_grd (vpb_ok (by omega) (by omega)) ?_
    refine ok_grd (vpb_ok (by omega) (by omega)) ?_
    refine ok_let (fun s4 hs4 => ?_)
    have hI_s4 : InvR s4 := by rw [← hs4]; exact hI_s.sfF (k := 43) rfl rfl
    have hF_s4 : FrR [143] s0 s4 := by rw [← hs4]; exact hF_s.sf (k := 43) (by decide)
    have a_2 : ((x1 + 1)).toInt = (x1).toInt + 1 := tn_add rfl (by decide) (by omega) (by omega)
    exact hk2 _ _ hI_s4 hF_s4 (by omega) (by omega) (by omega)
theorem okL_r_keepsRow_2 (s0 : RS)  : ∀ (n : Nat) (s : RS) (x1 : Int32), (29 - x1.toInt).toNat < n → InvR s → FrR [143] s0 s → 0 ≤ x1.toInt → x1.toInt ≤ 29 → Ok (r_keepsRow_2L  n s x1) (Q_r_keepsRow s0) := by
  intro n
  induction n with
  | zero => intro s x1 hn; omega
  | succ n ih =>
    intro s x1 hn hI_s hF_s h_x1l h_x1u 
    exact ok_r_keepsRow_2 s0 (r_keepsRow_2L  n) ((29 - x1.toInt).toNat) (fun zs zx1 g0 g1 g2 g3  hm => ih zs zx1 (by omega) g0 g1 g2 g3 ) s x1 hI_s hF_s h_x1l h_x1u (Nat.le_refl _)
set_option maxHeartbeats 1000000 in
theorem ok_r_keepsRowB (s0 : RS)  (s : RS) (hI_s : InvR s) (hF_s : FrR [143] s0 s)  : Ok (r_keepsRow  s) (Q_r_keepsRow s0) := by
  unfold r_keepsRow
  have l_0 : (0 : Int32).toInt = 0 := by decide
  exact okL_r_keepsRow_2 s0  fu _ _ (by unfold fu; omega) hI_s hF_s (by decide) (by decide) 
theorem ok_r_keepsRow (s : RS) (hI_s : InvR s) : Ok (r_keepsRow s) (Q_r_keepsRow s) := ok_r_keepsRowB s s hI_s FrR.rfl
abbrev Q_r_place (s0 : RS) (y : Int32 × RS) : Prop := InvR y.2 ∧ FrR [] s0 y.2 ∧ -2147483648 ≤ y.1.toInt ∧ y.1.toInt ≤ 2147483647
set_option maxHeartbeats 1000000 in
theorem ok_r_placeB (s0 : RS)  (s : RS) (hI_s : InvR s) (hF_s : FrR [] s0 s)  : Ok (r_place  s) (Q_r_place s0) := by
  unfold r_place
  exact ok_some ⟨hI_s, hF_s, (ti_rng _).1, (ti_rng _).2⟩
theorem ok_r_place (s : RS) (hI_s : InvR s) : Ok (r_place s) (Q_r_place s) := ok_r_placeB s s hI_s FrR.rfl
theorem dep_cons {cd ci : Nat → Int32} {n c d : Nat} (h : ∃ q, dep cd ci (n + 1) c d = some q) : (((cd c).toInt = 0 ∨ ((cd c).toInt = 1 ∧ 0 ≤ (ci c).toInt ∧ (ci c).toInt ≤ 8)) ∧ ∃ q, dep cd ci n (c + 1) (d + 1) = some q) ∨ ((2 ≤ (cd c).toInt ∧ (cd c).toInt ≤ 5 ∧ 2 ≤ d) ∧ ∃ q, dep cd ci n (c + 1) (d - 1) = some q) := by
  obtain ⟨q, h⟩ := h
  unfold dep at h
  by_cases h1 : (cd c).toInt = 0 ∨ ((cd c).toInt = 1 ∧ 0 ≤ (ci c).toInt ∧ (ci c).toInt ≤ 8)
  · rw [if_pos h1] at h; exact Or.inl ⟨h1, q, h⟩
  · rw [if_neg h1] at h
    by_cases h2 : 2 ≤ (cd c).toInt ∧ (cd c).toInt ≤ 5 ∧ 2 ≤ d
    · rw [if_pos h2] at h; exact Or.inr ⟨h2, q, h⟩
    · rw [if_neg h2] at h; cases h
abbrev Q_r_termOf (s0 : RS) (y : Int32 × RS) : Prop := InvR y.2 ∧ FrR [42, 141] s0 y.2
theorem ok_termOf_L (s0 : RS) : ∀ (m n c d : Nat) (s : RS) (x2 x3 x4 : Int32), n < m → InvR s → FrR [42, 141] s0 s → (∃ q, dep (s0.f 36) (s0.f 37) n c d = some q) → c + n ≤ 840 → d + n ≤ 400 → x4.toInt = (c : Int) → x2.toInt = (c : Int) + (n : Int) → x3.toInt = (d : Int) → Ok (r_termOf_5L m s x2 x3 x4) (Q_r_termOf s0) := by
  intro m
  induction m with
  | zero => intro n c d s x2 x3 x4 h; omega
  | succ m ih =>
    intro n c d s x2 x3 x4 hm hI hF hd hc hn h4 h2 h3
    show Ok (r_termOf_5 (r_termOf_5L m) s x2 x3 x4) _
    unfold r_termOf_5
    rw [show x3 + (-1) = x3 - 1 from (Int32.sub_eq_add_neg x3 1).symm]
    have e36 : s.f 36 = s0.f 36 := (hF.2 36 (by decide)).1
    have e37 : s.f 37 = s0.f 37 := (hF.2 37 (by decide)).1
    have ec : x4.toNatClampNeg = c := clamp_of_int h4
    have l0 : (0 : Int32).toInt = 0 := by decide
    have l1 : (1 : Int32).toInt = 1 := by decide
    have l2 : (2 : Int32).toInt = 2 := by decide
    have l5 : (5 : Int32).toInt = 5 := by decide
    have a1 : (x4 + 1).toInt = x4.toInt + (1 : Int32).toInt := ti_add (by omega) (by omega)
    have push : ∀ (z : Int32) (s1 : RS), InvR s1 → FrR [42, 141] s0 s1 → (∃ q, dep (s0.f 36) (s0.f 37) (n - 1) (c + 1) (d + 1) = some q) → 1 ≤ n → Ok (r_termOf_58 (r_termOf_5L m) s1 x2 x3 x4 z x3) (Q_r_termOf s0) := by
      intro z s1 hI1 hF1 hd1 hn1
      unfold r_termOf_58
      refine ok_grd (vpb_ok (by omega) (by omega)) ?_
      refine ok_let (fun s2 hs2 => ?_)
      have hI2 : InvR s2 := by rw [← hs2]; exact hI1.sfF (k := 41) rfl rfl
      have hF2 : FrR [42, 141] s0 s2 := by rw [← hs2]; exact hF1.sf (k := 41) (by decide)
      unfold r_termOf_159
      have a2 : (x3 + 1).toInt = x3.toInt + (1 : Int32).toInt := ti_add (by omega) (by omega)
      exact ih (n - 1) (c + 1) (d + 1) s2 _ _ _ (by omega) hI2 hF2 hd1 (by omega) (by omega) (by omega) (by omega) (by omega)
    refine ok_ite (fun cc => ?_) (fun cc => ?_)
    · exact ok_some ⟨hI, hF⟩
    · have cc := ti_nle cc
      refine ok_grd (vpb_ok (by omega) (by omega)) ?_
      obtain ⟨n', rfl⟩ : ∃ n', n = n' + 1 := ⟨n - 1, by omega⟩
      rw [ec, e36, e37]
      rcases dep_cons hd with ⟨hk, hd1⟩ | ⟨⟨hk1, hk2, hk3⟩, hd1⟩
      · refine ok_ite (fun c1 => ?_) (fun c1 => ?_)
        · have c1 := ti_le c1
          rcases hk with hk | hk
          · omega
          · omega
        · refine ok_ite (fun c2 => ?_) (fun c2 => ?_)
          · refine ok_grd (vpb_ok (by omega) (by omega)) ?_
            exact push _ s hI hF hd1 (by omega)
          · have c2 := ti_ne c2
            refine ok_grd (vpb_ok (by omega) (by omega)) ?_
            refine ok_grd (vpb_ok (by omega) (by omega)) ?_
            exact push _ s hI hF hd1 (by omega)
      · refine ok_ite (fun c1 => ?_) (fun c1 => ?_)
        · have a2 : (x3 - 1).toInt = x3.toInt - (1 : Int32).toInt := ti_sub (by omega) (by omega)
          have a3 : ((x3 - 1) - 1).toInt = (x3 - 1).toInt - (1 : Int32).toInt := ti_sub (by omega) (by omega)
          have fin : ∀ (z : Int32) (s1 : RS), InvR s1 → FrR [42, 141] s0 s1 → Ok (r_termOf_158 (r_termOf_5L m) s1 x2 (x3 - 1) x4 z ((x3 - 1) - 1)) (Q_r_termOf s0) := by
            intro z s1 hI1 hF1
            unfold r_termOf_158
            refine ok_grd (vpb_ok (by omega) (by omega)) ?_
            refine ok_let (fun s2 hs2 => ?_)
            have hI2 : InvR s2 := by rw [← hs2]; exact hI1.sfF (k := 41) rfl rfl
            have hF2 : FrR [42, 141] s0 s2 := by rw [← hs2]; exact hF1.sf (k := 41) (by decide)
            unfold r_termOf_159
            exact ih n' (c + 1) (d - 1) s2 _ _ _ (by omega) hI2 hF2 hd1 (by omega) (by omega) (by omega) (by omega) (by omega)
          refine ok_grd (vpb_ok (by omega) (by omega)) ?_
          refine ok_grd (vpb_ok (by omega) (by omega)) ?_
          have op : ∀ (k a b : Int32), (2 ≤ k.toInt ∧ k.toInt ≤ 5) → (k.toInt = 5 → ¬ b = 0) → Ok (r_termOf_104 (r_termOf_5L m) s x2 (x3 - 1) x4 k a b) (Q_r_termOf s0) := by
            intro k a b hk hb
            unfold r_termOf_104
            refine ok_ite (fun _ => fin _ s hI hF) (fun q1 => ?_)
            refine ok_ite (fun _ => fin _ s hI hF) (fun q2 => ?_)
            refine ok_ite (fun _ => fin _ s hI hF) (fun q3 => ?_)
            have q1 := ti_ne q1
            have q2 := ti_ne q2
            have q3 := ti_ne q3
            have l3 : (3 : Int32).toInt = 3 := by decide
            have l4 : (4 : Int32).toInt = 4 := by decide
            exact ok_grd (hb (by omega)) (fin _ s hI hF)
          refine ok_ite (fun c2 => ?_) (fun c2 => ?_)
          · refine ok_ite (fun c3 => ?_) (fun c3 => ?_)
            · refine ok_let (fun s8 hs8 => ?_)
              exact ok_some ⟨by rw [← hs8]; exact hI.svF (k := 42) rfl rfl, by rw [← hs8]; exact hF.sv (k := 42) (by decide)⟩
            · exact op _ _ _ ⟨hk1, hk2⟩ (fun _ => c3)
          · have c2 := ti_ne c2
            exact op _ _ _ ⟨hk1, hk2⟩ (fun h => by omega)
        · have c1 := ti_nle c1
          omega
theorem ok_r_termOf {lo hi : Nat} (s : RS) (x1 x2 : Int32) (hI : InvR s) (hhi : hi ≤ 840) (hS : Seg lo hi (s.f 36) (s.f 37) x1 x2) : Ok (r_termOf s x1 x2) (Q_r_termOf s) := by
  obtain ⟨p, n, h1, h2, _, h3, h4, hd⟩ := hS
  unfold r_termOf
  have l0 : (0 : Int32).toInt = 0 := by decide
  exact ok_termOf_L s fu n p 0 s _ _ _ (by unfold fu; omega) hI FrR.rfl hd (by omega) (by omega) h1 h2 (by omega)
abbrev Q_r_in (x0 : Int32) (x1 : Int32) (x2 : Int32) (y : Int32) : Prop := 0 ≤ y.toInt ∧ y.toInt ≤ 1 ∧ (¬ y.toInt = 0 → (x1).toInt ≤ (x0).toInt ∧ (x0).toInt ≤ (x2).toInt)
set_option maxHeartbeats 1000000 in
theorem ok_r_inB  (x0 : Int32) (x1 : Int32) (x2 : Int32) (h_x1l : 0 ≤ x1.toInt) (h_x1u : x1.toInt ≤ 1) (h_x2l : -1 ≤ x2.toInt) (h_x2u : x2.toInt ≤ 7775)  : Ok (r_in  x0 x1 x2) (Q_r_in x0 x1 x2) := by
  unfold r_in
  refine ok_ite (fun c_1 => ?_) (fun c_1 => ?_)
  · have c_1 := tn_lt (a := (x0).toInt) (b := (x1).toInt) rfl rfl c_1
    exact ok_some ⟨by show 0 ≤ (0 : Int32).toInt; decide, by show (0 : Int32).toInt ≤ 1; decide, by show (¬ (0 : Int32).toInt = 0 → (x1).toInt ≤ (x0).toInt ∧ (x0).toInt ≤ (x2).toInt); have l := (by decide : (0 : Int32).toInt = 0); omega⟩
  · have c_1 := tn_nlt (a := (x0).toInt) (b := (x1).toInt) rfl rfl c_1
    refine ok_ite (fun c_2 => ?_) (fun c_2 => ?_)
    · have c_2 := tn_lt (a := (x2).toInt) (b := (x0).toInt) rfl rfl c_2
      exact ok_some ⟨by show 0 ≤ (0 : Int32).toInt; decide, by show (0 : Int32).toInt ≤ 1; decide, by show (¬ (0 : Int32).toInt = 0 → (x1).toInt ≤ (x0).toInt ∧ (x0).toInt ≤ (x2).toInt); have l := (by decide : (0 : Int32).toInt = 0); omega⟩
    · have c_2 := tn_nlt (a := (x2).toInt) (b := (x0).toInt) rfl rfl c_2
      exact ok_some ⟨by show 0 ≤ (1 : Int32).toInt; decide, by show (1 : Int32).toInt ≤ 1; decide, by show (¬ (1 : Int32).toInt = 0 → (x1).toInt ≤ (x0).toInt ∧ (x0).toInt ≤ (x2).toInt); have l := (by decide : (1 : Int32).toInt = 1); omega⟩
theorem ok_r_in (x0 : Int32) (x1 : Int32) (x2 : Int32) (h_x1l : 0 ≤ x1.toInt) (h_x1u : x1.toInt ≤ 1) (h_x2l : -1 ≤ x2.toInt) (h_x2u : x2.toInt ≤ 7775) : Ok (r_in x0 x1 x2) (Q_r_in x0 x1 x2) := ok_r_inB x0 x1 x2 h_x1l h_x1u h_x2l h_x2u
abbrev Q_r_within (y : Int32) : Prop := 0 ≤ y.toInt ∧ y.toInt ≤ 100
set_option maxHeartbeats 1000000 in
theorem ok_r_withinB  (x0 : Int32) (x1 : Int32) (x2 : Int32) (h_x1l : 0 ≤ x1.toInt) (h_x1u : x1.toInt ≤ 0) (h_x2l : 9 ≤ x2.toInt) (h_x2u : x2.toInt ≤ 100)  : Ok (r_within  x0 x1 x2) Q_r_within := by
  unfold r_within
  refine ok_ite (fun c_1 => ?_) (fun c_1 => ?_)
  · have c_1 := tn_le (a := (x1).toInt) (b := (x0).toInt) rfl rfl c_1
    refine ok_ite (fun c_2 => ?_) (fun c_2 => ?_)
    · have c_2 := tn_le (a := (x0).toInt) (b := (x2).toInt) rfl rfl c_2
      exact ok_some ⟨by show 0 ≤ (x0).toInt; omega, by show (x0).toInt ≤ 100; omega⟩
    · have c_2 := tn_nle (a := (x0).toInt) (b := (x2).toInt) rfl rfl c_2
      exact ok_some ⟨by show 0 ≤ (x2).toInt; omega, by show (x2).toInt ≤ 100; omega⟩
  · have c_1 := tn_nle (a := (x1).toInt) (b := (x0).toInt) rfl rfl c_1
    exact ok_some ⟨by show 0 ≤ (x1).toInt; omega, by show (x1).toInt ≤ 100; omega⟩
theorem ok_r_within (x0 : Int32) (x1 : Int32) (x2 : Int32) (h_x1l : 0 ≤ x1.toInt) (h_x1u : x1.toInt ≤ 0) (h_x2l : 9 ≤ x2.toInt) (h_x2u : x2.toInt ≤ 100) : Ok (r_within x0 x1 x2) Q_r_within := ok_r_withinB x0 x1 x2 h_x1l h_x1u h_x2l h_x2u
abbrev Q_r_bits (y : Int32) : Prop := 0 ≤ y.toInt ∧ y.toInt ≤ 6
set_option maxHeartbeats 1000000 in
theorem ok_r_bits_4 (k4 : Int32 → Int32 → Int32 → Option (Int32)) (M4 : Nat) (hk4 : ∀ (x0 : Int32) (x1 : Int32) (x2 : Int32), 0 ≤ x1.toInt → x1.toInt ≤ 6 → 0 ≤ x2.toInt → x2.toInt ≤ 6 → (x1.toInt ≤ x2.toInt) → (6 - x2.toInt).toNat < M4 → Ok (k4 x0 x1 x2) Q_r_bits) (x0 : Int32) (x1 : Int32) (x2 : Int32) (h_x1l : 0 ≤ x1.toInt) (h_x1u : x1.toInt ≤ 6) (h_x2l : 0 ≤ x2.toInt) (h_x2u : x2.toInt ≤ 6) (hx0 : (x1.toInt ≤ x2.toInt)) (hM4 : (6 - x2.toInt).toNat ≤ M4) : Ok (r_bits_4 k4 x0 x1 x2) Q_r_bits := by
  unfold r_bits_4
  refine ok_ite (fun c_1 => ?_) (fun c_1 => ?_)
  · have c_1 := tn_le (a := 6) (b := (x2).toInt) (by decide) rfl c_1
    exact ok_some ⟨by show 0 ≤ (x1).toInt; omega, by show (x1).toInt ≤ 6; omega⟩
  · have c_1 := tn_nle (a := 6) (b := (x2).toInt) (by decide) rfl c_1
    have a_2 := ti_and1 ((x0 >>> (x2 &&& 31)))
    have a_3 : ((x1 + ((x0 >>> (x2 &&& 31)) &&& 1))).toInt = (x1).toInt + (((x0 >>> (x2 &&& 31)) &&& 1)).toInt := tn_add rfl rfl (by omega) (by omega)
    have a_4 : ((x2 + 1)).toInt = (x2).toInt + 1 := tn_add rfl (by decide) (by omega) (by omega)
    exact hk4 _ _ _ (by first | (clear hx0; omega) | omega) (by first | (clear hx0; omega) | omega) (by first | (clear hx0; omega) | omega) (by first | (clear hx0; omega) | omega) (by omega) (by first | (clear hx0; omega) | omega)
theorem okL_r_bits_4  : ∀ (n : Nat) (x0 : Int32) (x1 : Int32) (x2 : Int32), (6 - x2.toInt).toNat < n → 0 ≤ x1.toInt → x1.toInt ≤ 6 → 0 ≤ x2.toInt → x2.toInt ≤ 6 → (x1.toInt ≤ x2.toInt) → Ok (r_bits_4L  n x0 x1 x2) Q_r_bits := by
  intro n
  induction n with
  | zero => intro x0 x1 x2 hn; omega
  | succ n ih =>
    intro x0 x1 x2 hn h_x1l h_x1u h_x2l h_x2u hx0 
    exact ok_r_bits_4 (r_bits_4L  n) ((6 - x2.toInt).toNat) (fun zx0 zx1 zx2 g0 g1 g2 g3 g4  hm => ih zx0 zx1 zx2 (by omega) g0 g1 g2 g3 g4 ) x0 x1 x2 h_x1l h_x1u h_x2l h_x2u hx0 (Nat.le_refl _)
set_option maxHeartbeats 1000000 in
theorem ok_r_bitsB  (x0 : Int32)   : Ok (r_bits  x0) Q_r_bits := by
  unfold r_bits
  have l_0 : (0 : Int32).toInt = 0 := by decide
  exact okL_r_bits_4  fu _ _ _ (by unfold fu; omega) (by decide) (by decide) (by decide) (by decide) (by omega) 
theorem ok_r_bits (x0 : Int32)  : Ok (r_bits x0) Q_r_bits := ok_r_bitsB x0 
abbrev Q_r_isWave (s0 : RS) (x1 : Int32) (y : Int32 × RS) : Prop := InvR y.2 ∧ FrR [] s0 y.2 ∧ 0 ≤ y.1.toInt ∧ y.1.toInt ≤ 1 ∧ (¬ y.1.toInt = 0 → 0 ≤ (x1).toInt ∧ (x1).toInt < wv s0 ∧ wv s0 ≤ 5)
set_option maxHeartbeats 1000000 in
theorem ok_r_isWaveB (s0 : RS)  (s : RS) (x1 : Int32) (hI_s : InvR s) (hF_s : FrR [] s0 s)  : Ok (r_isWave  s x1) (Q_r_isWave s0 x1) := by
  unfold r_isWave
  have a_1 : 0 ≤ (s.v 18).toInt ∧ (s.v 18).toInt ≤ 1 := hI_s.1 18
  refine ok_grd (vpb_ok (by omega) (by omega)) ?_
  have a_2 : ((s.f 20 (Int32.toNatClampNeg (s.v 18)))).toInt = wv s0 := wv_fr hF_s (by decide) (by decide)
  have a_3 : 0 ≤ ((s.f 20 (Int32.toNatClampNeg (s.v 18)))).toInt ∧ ((s.f 20 (Int32.toNatClampNeg (s.v 18)))).toInt ≤ 5 := hI_s.2 20 _
  have a_4 : (((s.f 20 (Int32.toNatClampNeg (s.v 18))) - 1)).toInt = ((s.f 20 (Int32.toNatClampNeg (s.v 18)))).toInt - 1 := tn_sub rfl (by decide) (by omega) (by omega)
  refine ok_bindP (ok_r_in _ _ _ (by decide) (by decide) (by omega) (by omega)) (fun r2 hc_5 => ?_)
  have l_0 : (0 : Int32).toInt = 0 := by decide
  have hl_r2 : 0 ≤ r2.toInt := hc_5.1
  have hu_r2 : r2.toInt ≤ 1 := hc_5.2.1
  have hx0_r2 : (¬ r2.toInt = 0 → (0 : Int32).toInt ≤ (x1).toInt ∧ (x1).toInt ≤ (((s.f 20 (Int32.toNatClampNeg (s.v 18))) - 1)).toInt) := hc_5.2.2
  refine ok_grd (ti_z01 (by omega) (by omega)) ?_
  exact ok_some ⟨hI_s, hF_s, by show 0 ≤ (r2).toInt; omega, by show (r2).toInt ≤ 1; omega, by show (¬ (r2).toInt = 0 → 0 ≤ (x1).toInt ∧ (x1).toInt < wv s0 ∧ wv s0 ≤ 5); omega⟩
theorem ok_r_isWave (s : RS) (x1 : Int32) (hI_s : InvR s) : Ok (r_isWave s x1) (Q_r_isWave s x1) := ok_r_isWaveB s s x1 hI_s FrR.rfl
abbrev Q_r_isParty (s0 : RS) (x1 : Int32) (y : Int32 × RS) : Prop := InvR y.2 ∧ FrR [] s0 y.2 ∧ 0 ≤ y.1.toInt ∧ y.1.toInt ≤ 1 ∧ (¬ y.1.toInt = 0 → 0 ≤ (x1).toInt ∧ (x1).toInt ≤ 5)
set_option maxHeartbeats 1000000 in
theorem ok_r_isPartyB (s0 : RS)  (s : RS) (x1 : Int32) (hI_s : InvR s) (hF_s : FrR [] s0 s)  : Ok (r_isParty  s x1) (Q_r_isParty s0 x1) := by
  unfold r_isParty
  have a_1 : 0 ≤ (s.v 18).toInt ∧ (s.v 18).toInt ≤ 1 := hI_s.1 18
  refine ok_grd (vpb_ok (by omega) (by omega)) ?_
  have a_2 : 0 ≤ ((s.f 23 (Int32.toNatClampNeg (s.v 18)))).toInt ∧ ((s.f 23 (Int32.toNatClampNeg (s.v 18)))).toInt ≤ 6 := hI_s.2 23 _
  have a_3 : (((s.f 23 (Int32.toNatClampNeg (s.v 18))) - 1)).toInt = ((s.f 23 (Int32.toNatClampNeg (s.v 18)))).toInt - 1 := tn_sub rfl (by decide) (by omega) (by omega)
  refine ok_bindP (ok_r_in _ _ _ (by decide) (by decide) (by omega) (by omega)) (fun r2 hc_4 => ?_)
  have l_0 : (0 : Int32).toInt = 0 := by decide
  have hl_r2 : 0 ≤ r2.toInt := hc_4.1
  have hu_r2 : r2.toInt ≤ 1 := hc_4.2.1
  have hx0_r2 : (¬ r2.toInt = 0 → (0 : Int32).toInt ≤ (x1).toInt ∧ (x1).toInt ≤ (((s.f 23 (Int32.toNatClampNeg (s.v 18))) - 1)).toInt) := hc_4.2.2
  refine ok_grd (ti_z01 (by omega) (by omega)) ?_
  exact ok_some ⟨hI_s, hF_s, by show 0 ≤ (r2).toInt; omega, by show (r2).toInt ≤ 1; omega, by show (¬ (r2).toInt = 0 → 0 ≤ (x1).toInt ∧ (x1).toInt ≤ 5); omega⟩
theorem ok_r_isParty (s : RS) (x1 : Int32) (hI_s : InvR s) : Ok (r_isParty s x1) (Q_r_isParty s x1) := ok_r_isPartyB s s x1 hI_s FrR.rfl
abbrev Q_r_guesses (s0 : RS) (y : Int32 × RS) : Prop := InvR y.2 ∧ FrR [] s0 y.2 ∧ 1 ≤ y.1.toInt ∧ y.1.toInt ≤ 7776
set_option maxHeartbeats 1000000 in
theorem ok_r_guessesB (s0 : RS) (hB : Big s0)  (s : RS) (hI_s : InvR s) (hF_s : FrR [] s0 s)  : Ok (r_guesses  s) (Q_r_guesses s0) := by
  unfold r_guesses
  have a_1 : 0 ≤ (s.v 18).toInt ∧ (s.v 18).toInt ≤ 1 := hI_s.1 18
  refine ok_grd (vpb_ok (by omega) (by omega)) ?_
  have a_2 : ((s.f 20 (Int32.toNatClampNeg (s.v 18)))).toInt = wv s0 := wv_fr hF_s (by decide) (by decide)
  have a_3 : 0 ≤ ((s.f 20 (Int32.toNatClampNeg (s.v 18)))).toInt ∧ ((s.f 20 (Int32.toNatClampNeg (s.v 18)))).toInt ≤ 5 := hI_s.2 20 _
  refine ok_grd (vpb_ok (by omega) (by omega)) ?_
  have a_4 : 1 ≤ ((s.f 46 (Int32.toNatClampNeg (s.f 20 (Int32.toNatClampNeg (s.v 18)))))).toInt ∧ ((s.f 46 (Int32.toNatClampNeg (s.f 20 (Int32.toNatClampNeg (s.v 18)))))).toInt ≤ 7776 := hB.six hF_s (by decide) (by omega) (by omega)
  exact ok_some ⟨hI_s, hF_s, by show 1 ≤ ((s.f 46 (Int32.toNatClampNeg (s.f 20 (Int32.toNatClampNeg (s.v 18)))))).toInt; omega, by show ((s.f 46 (Int32.toNatClampNeg (s.f 20 (Int32.toNatClampNeg (s.v 18)))))).toInt ≤ 7776; omega⟩
theorem ok_r_guesses (s : RS) (hI_s : InvR s) (hB : Big s) : Ok (r_guesses s) (Q_r_guesses s) := ok_r_guessesB s hB s hI_s FrR.rfl
abbrev Q_r_isGuess (s0 : RS) (x1 : Int32) (y : Int32 × RS) : Prop := InvR y.2 ∧ FrR [] s0 y.2 ∧ 0 ≤ y.1.toInt ∧ y.1.toInt ≤ 1 ∧ (¬ y.1.toInt = 0 → 0 ≤ (x1).toInt ∧ (x1).toInt ≤ 7775)
set_option maxHeartbeats 1000000 in
theorem ok_r_isGuessB (s0 : RS) (hB : Big s0)  (s : RS) (x1 : Int32) (hI_s : InvR s) (hF_s : FrR [] s0 s)  : Ok (r_isGuess  s x1) (Q_r_isGuess s0 x1) := by
  unfold r_isGuess
  refine ok_bindI (ok_r_guesses _  hI_s (hB.fr hF_s (by decide))) (fun r2 s1 hc_1 => ?_)
  have hI_s1 : InvR s1 := hc_1.1
  have hFc_s1 : FrR [] s s1 := hc_1.2.1
  have hF_s1 : FrR [] s0 s1 := hF_s.trans hFc_s1 (by decide)
  have hl_r2 : 1 ≤ r2.toInt := hc_1.2.2.1
  have hu_r2 : r2.toInt ≤ 7776 := hc_1.2.2.2
  have a_2 : ((r2 - 1)).toInt = (r2).toInt - 1 := tn_sub rfl (by decide) (by omega) (by omega)
  refine ok_bindP (ok_r_in _ _ _ (by decide) (by decide) (by omega) (by omega)) (fun r3 hc_3 => ?_)
  have l_0 : (0 : Int32).toInt = 0 := by decide
  have hl_r3 : 0 ≤ r3.toInt := hc_3.1
  have hu_r3 : r3.toInt ≤ 1 := hc_3.2.1
  have hx0_r3 : (¬ r3.toInt = 0 → (0 : Int32).toInt ≤ (x1).toInt ∧ (x1).toInt ≤ ((r2 - 1)).toInt) := hc_3.2.2
  refine ok_grd (ti_z01 (by omega) (by omega)) ?_
  exact ok_some ⟨hI_s1, hF_s1, by show 0 ≤ (r3).toInt; omega, by show (r3).toInt ≤ 1; omega, by show (¬ (r3).toInt = 0 → 0 ≤ (x1).toInt ∧ (x1).toInt ≤ 7775); omega⟩
theorem ok_r_isGuess (s : RS) (x1 : Int32) (hI_s : InvR s) (hB : Big s) : Ok (r_isGuess s x1) (Q_r_isGuess s x1) := ok_r_isGuessB s hB s x1 hI_s FrR.rfl
abbrev Q_r_isThing (x0 : Int32) (y : Int32) : Prop := 0 ≤ y.toInt ∧ y.toInt ≤ 1 ∧ (¬ y.toInt = 0 → 0 ≤ (x0).toInt ∧ (x0).toInt ≤ 5)
set_option maxHeartbeats 1000000 in
theorem ok_r_isThingB  (x0 : Int32)   : Ok (r_isThing  x0) (Q_r_isThing x0) := by
  unfold r_isThing
  refine ok_bindP (ok_r_in _ _ _ (by decide) (by decide) (by decide) (by decide)) (fun r1 hc_1 => ?_)
  have l_0 : (0 : Int32).toInt = 0 := by decide
  have l_5 : (5 : Int32).toInt = 5 := by decide
  have hl_r1 : 0 ≤ r1.toInt := hc_1.1
  have hu_r1 : r1.toInt ≤ 1 := hc_1.2.1
  have hx0_r1 : (¬ r1.toInt = 0 → (0 : Int32).toInt ≤ (x0).toInt ∧ (x0).toInt ≤ (5 : Int32).toInt) := hc_1.2.2
  refine ok_grd (ti_z01 (by omega) (by omega)) ?_
  exact ok_some ⟨by show 0 ≤ (r1).toInt; omega, by show (r1).toInt ≤ 1; omega, by show (¬ (r1).toInt = 0 → 0 ≤ (x0).toInt ∧ (x0).toInt ≤ 5); omega⟩
theorem ok_r_isThing (x0 : Int32)  : Ok (r_isThing x0) (Q_r_isThing x0) := ok_r_isThingB x0 
abbrev Q_r_thingAt (s0 : RS) (y : Int32 × RS) : Prop := InvR y.2 ∧ FrR [] s0 y.2 ∧ 0 ≤ y.1.toInt ∧ y.1.toInt ≤ 5
set_option maxHeartbeats 1000000 in
theorem ok_r_thingAtB (s0 : RS) (hB : Big s0)  (s : RS) (x1 : Int32) (x2 : Int32) (hI_s : InvR s) (hF_s : FrR [] s0 s) (h_x1l : 0 ≤ x1.toInt) (h_x1u : x1.toInt ≤ 194400) (h_x2l : 0 ≤ x2.toInt) (h_x2u : x2.toInt ≤ 4)  : Ok (r_thingAt  s x1 x2) (Q_r_thingAt s0) := by
  unfold r_thingAt
  refine ok_grd (vpb_ok (by omega) (by omega)) ?_
  have a_1 : 1 ≤ ((s.f 46 (Int32.toNatClampNeg x2))).toInt ∧ ((s.f 46 (Int32.toNatClampNeg x2))).toInt ≤ 7776 := hB.six hF_s (by decide) (by omega) (by omega)
  refine ok_grd (fun h => by have := tn_eq rfl (b := 0) (by decide) h; omega) ?_
  have a_2 : 0 ≤ ((x1 / (s.f 46 (Int32.toNatClampNeg x2)))).toInt ∧ ((x1 / (s.f 46 (Int32.toNatClampNeg x2)))).toInt ≤ (x1).toInt := ti_divb (by omega) (by omega)
  have a_3 : (((x1 / (s.f 46 (Int32.toNatClampNeg x2))) - (x1 / (s.f 46 (Int32.toNatClampNeg x2))) / 6 * 6)).toInt = ((x1 / (s.f 46 (Int32.toNatClampNeg x2)))).toInt % 6 := ti_remc (c := 6) (by decide) (by omega) (by decide)
  exact ok_some ⟨hI_s, hF_s, by show 0 ≤ (((x1 / (s.f 46 (Int32.toNatClampNeg x2))) - (x1 / (s.f 46 (Int32.toNatClampNeg x2))) / 6 * 6)).toInt; omega, by show (((x1 / (s.f 46 (Int32.toNatClampNeg x2))) - (x1 / (s.f 46 (Int32.toNatClampNeg x2))) / 6 * 6)).toInt ≤ 5; omega⟩
theorem ok_r_thingAt (s : RS) (x1 : Int32) (x2 : Int32) (hI_s : InvR s) (hB : Big s) (h_x1l : 0 ≤ x1.toInt) (h_x1u : x1.toInt ≤ 194400) (h_x2l : 0 ≤ x2.toInt) (h_x2u : x2.toInt ≤ 4) : Ok (r_thingAt s x1 x2) (Q_r_thingAt s) := ok_r_thingAtB s hB s x1 x2 hI_s FrR.rfl h_x1l h_x1u h_x2l h_x2u
abbrev Q_r_copies (s0 : RS) (y : RS) : Prop := InvR y ∧ FrR [45, 144] s0 y
set_option maxHeartbeats 1000000 in
theorem ok_r_copies_2 (s0 : RS) (k2 : RS → Int32 → Option (RS)) (M2 : Nat) (hk2 : ∀ (s : RS) (x1 : Int32), InvR s → FrR [45, 144] s0 s → 0 ≤ x1.toInt → x1.toInt ≤ 29 → (29 - x1.toInt).toNat < M2 → Ok (k2 s x1) (Q_r_copies s0)) (s : RS) (x1 : Int32) (hI_s : InvR s) (hF_s : FrR [45, 144] s0 s) (h_x1l : 0 ≤ x1.toInt) (h_x1u : x1.toInt ≤ 29) (hM2 : (29 - x1.toInt).toNat ≤ M2) : Ok (r_copies_2 k2 s x1) (Q_r_copies s0) := by
  unfold r_copies_2
  refine ok_ite (fun c_1 => ?_) (fun c_1 => ?_)
  · have c_1 := tn_le (a := 29) (b := (x1).toInt) (by decide) rfl c_1
    have a_2 : 0 ≤ (s.v 18).toInt ∧ (s.v 18).toInt ≤ 1 := hI_s.1 18
    refine ok_grd (vpb_ok (by omega) (by omega)) ?_
    refine ok_let (fun s3 hs3 => ?_)
    have hI_s3 : InvR s3 := by rw [← hs3]; exact hI_s.svF (k := 45) rfl rfl
    have hF_s3 : FrR [45, 144] s0 s3 := by rw [← hs3]; exact hF_s.sv (k := 45) (by decide)
    exact ok_some ⟨hI_s3, hF_s3⟩
  · have c_1 := tn_nle (a := 29) (b := (x1).toInt) (by decide) rfl c_1
    refine ok_grd (vpb_ok (by omega) (by omega)) ?_
    refine ok_grd (vpb_ok (by omega) (by omega)) ?_
    refine ok_let (fun s7 hs7 => ?_)
    have hI_s7 : InvR s7 := by rw [← hs7]; exact hI_s.sfF (k := 44) rfl rfl
    have hF_s7 : FrR [45, 144] s0 s7 := by rw [← hs7]; exact hF_s.sf (k := 44) (by decide)
    have a_3 : ((x1 + 1)).toInt = (x1).toInt + 1 := tn_add rfl (by decide) (by omega) (by omega)
    exact hk2 _ _ hI_s7 hF_s7 (by omega) (by omega) (by omega)
theorem okL_r_copies_2 (s0 : RS)  : ∀ (n : Nat) (s : RS) (x1 : Int32), (29 - x1.toInt).toNat < n → InvR s → FrR [45, 144] s0 s → 0 ≤ x1.toInt → x1.toInt ≤ 29 → Ok (r_copies_2L  n s x1) (Q_r_copies s0) := by
  intro n
  induction n with
  | zero => intro s x1 hn; omega
  | succ n ih =>
    intro s x1 hn hI_s hF_s h_x1l h_x1u 
    exact ok_r_copies_2 s0 (r_copies_2L  n) ((29 - x1.toInt).toNat) (fun zs zx1 g0 g1 g2 g3  hm => ih zs zx1 (by omega) g0 g1 g2 g3 ) s x1 hI_s hF_s h_x1l h_x1u (Nat.le_refl _)
set_option maxHeartbeats 1000000 in
theorem ok_r_copiesB (s0 : RS)  (s : RS) (hI_s : InvR s) (hF_s : FrR [45, 144] s0 s)  : Ok (r_copies  s) (Q_r_copies s0) := by
  unfold r_copies
  have l_0 : (0 : Int32).toInt = 0 := by decide
  exact okL_r_copies_2 s0  fu _ _ (by unfold fu; omega) hI_s hF_s (by decide) (by decide) 
theorem ok_r_copies (s : RS) (hI_s : InvR s) : Ok (r_copies s) (Q_r_copies s) := ok_r_copiesB s s hI_s FrR.rfl
abbrev Q_r_mixed (y : Int32) : Prop := -2147483648 ≤ y.toInt ∧ y.toInt ≤ 2147483647
set_option maxHeartbeats 1000000 in
theorem ok_r_mixedB  (x0 : Int32) (x1 : Int32)   : Ok (r_mixed  x0 x1) Q_r_mixed := by
  unfold r_mixed
  exact ok_some ⟨(ti_rng _).1, (ti_rng _).2⟩
theorem ok_r_mixed (x0 : Int32) (x1 : Int32)  : Ok (r_mixed x0 x1) Q_r_mixed := ok_r_mixedB x0 x1 
abbrev Q_r_lotOf (s0 : RS) (y : Int32 × RS) : Prop := InvR y.2 ∧ FrR [] s0 y.2 ∧ -2147483648 ≤ y.1.toInt ∧ y.1.toInt ≤ 2147483647
set_option maxHeartbeats 1000000 in
theorem ok_r_lotOfB (s0 : RS)  (s : RS) (x1 : Int32) (x2 : Int32) (hI_s : InvR s) (hF_s : FrR [] s0 s) (h_x2l : 1 ≤ x2.toInt) (h_x2u : x2.toInt ≤ 100)  : Ok (r_lotOf  s x1 x2) (Q_r_lotOf s0) := by
  unfold r_lotOf
  refine ok_bindP (ok_r_mixed _ _ ) (fun r1 hc_1 => ?_)
  refine ok_bindP (ok_r_mixed _ _ ) (fun r2 hc_2 => ?_)
  refine ok_grd (fun h => by have := tn_eq rfl (b := 0) (by decide) h; omega) ?_
  exact ok_some ⟨hI_s, hF_s, (ti_rng _).1, (ti_rng _).2⟩
theorem ok_r_lotOf (s : RS) (x1 : Int32) (x2 : Int32) (hI_s : InvR s) (h_x2l : 1 ≤ x2.toInt) (h_x2u : x2.toInt ≤ 100) : Ok (r_lotOf s x1 x2) (Q_r_lotOf s) := ok_r_lotOfB s s x1 x2 hI_s FrR.rfl h_x2l h_x2u
theorem lotOf_rng (s : RS) (x1 x2 : Int32) (hI : InvR s) (h : 0 < x2.toInt) : Ok (r_lotOf s x1 x2) (fun y => InvR y.2 ∧ FrR [] s y.2 ∧ 0 ≤ y.1.toInt ∧ y.1.toInt < x2.toInt) := by
  unfold r_lotOf
  refine ok_bindP (ok_r_mixed _ _) (fun r1 _ => ?_)
  refine ok_bindP (ok_r_mixed _ _) (fun r2 _ => ?_)
  have l0 : (0 : Int32).toInt = 0 := by decide
  refine ok_grd (fun e => by have := ti_eq e; omega) ?_
  have hb := ti_remb (x := ushr r2 1) (y := x2) (ti_ushr1 r2) h
  exact ok_some ⟨hI, FrR.rfl, hb.1, hb.2⟩
abbrev Q_r_oddsAt (s0 : RS) (y : Int32 × RS) : Prop := InvR y.2 ∧ FrR [] s0 y.2 ∧ -2147483648 ≤ y.1.toInt ∧ y.1.toInt ≤ 2147483647
set_option maxHeartbeats 1000000 in
theorem ok_r_oddsAtB (s0 : RS)  (s : RS) (x1 : Int32) (x2 : Int32) (hI_s : InvR s) (hF_s : FrR [] s0 s) (h_x1l : 0 ≤ x1.toInt) (h_x1u : x1.toInt ≤ 4) (h_x2l : 0 ≤ x2.toInt) (h_x2u : x2.toInt ≤ 5)  : Ok (r_oddsAt  s x1 x2) (Q_r_oddsAt s0) := by
  unfold r_oddsAt
  have a_1 : 0 ≤ (s.v 18).toInt ∧ (s.v 18).toInt ≤ 1 := hI_s.1 18
  have a_2 : ((30 * (s.v 18))).toInt = ((s.v 18)).toInt * 30 := ti_cmul (c := 30) (by decide) (by omega) (by omega)
  have a_3 : ((6 * x1)).toInt = (x1).toInt * 6 := ti_cmul (c := 6) (by decide) (by omega) (by omega)
  have a_4 : (((30 * (s.v 18)) + (6 * x1))).toInt = ((30 * (s.v 18))).toInt + ((6 * x1)).toInt := tn_add rfl rfl (by omega) (by omega)
  have a_5 : ((((30 * (s.v 18)) + (6 * x1)) + x2)).toInt = (((30 * (s.v 18)) + (6 * x1))).toInt + (x2).toInt := tn_add rfl rfl (by omega) (by omega)
  refine ok_grd (vpb_ok (by omega) (by omega)) ?_
  exact ok_some ⟨hI_s, hF_s, (ti_rng _).1, (ti_rng _).2⟩
theorem ok_r_oddsAt (s : RS) (x1 : Int32) (x2 : Int32) (hI_s : InvR s) (h_x1l : 0 ≤ x1.toInt) (h_x1u : x1.toInt ≤ 4) (h_x2l : 0 ≤ x2.toInt) (h_x2u : x2.toInt ≤ 5) : Ok (r_oddsAt s x1 x2) (Q_r_oddsAt s) := ok_r_oddsAtB s s x1 x2 hI_s FrR.rfl h_x1l h_x1u h_x2l h_x2u
abbrev Q_r_thereAt (s0 : RS) (y : Int32 × RS) : Prop := InvR y.2 ∧ FrR [] s0 y.2 ∧ 0 ≤ y.1.toInt ∧ y.1.toInt ≤ 5
theorem oddsAt_eq {s : RS} {x1 x2 : Int32} {w v : Nat} (hI : InvR s) (h1 : x1.toInt = (w : Int)) (h2 : x2.toInt = (v : Int)) (hw : w < 5) (hv : v < 6) : r_oddsAt s x1 x2 = some (s.f 21 (30 * (s.v 18).toNatClampNeg + 6 * w + v), s) := by
  have hl : 0 ≤ (s.v 18).toInt ∧ (s.v 18).toInt ≤ 1 := hI.1 18
  have el : (s.v 18).toInt.toNat = (s.v 18).toNatClampNeg := Int32.toNat_toInt _
  have l30 : (30 : Int32).toInt = 30 := by decide
  have l6 : (6 : Int32).toInt = 6 := by decide
  have a1 : ((30 * (s.v 18))).toInt = (s.v 18).toInt * 30 := ti_cmul (c := 30) l30 (by omega) (by omega)
  have a2 : ((6 * x1)).toInt = x1.toInt * 6 := ti_cmul (c := 6) l6 (by omega) (by omega)
  have a3 : ((30 * (s.v 18)) + (6 * x1)).toInt = (30 * (s.v 18)).toInt + (6 * x1).toInt := ti_add (by omega) (by omega)
  have a4 : (((30 * (s.v 18)) + (6 * x1)) + x2).toInt = ((30 * (s.v 18)) + (6 * x1)).toInt + x2.toInt := ti_add (by omega) (by omega)
  unfold r_oddsAt
  rw [if_pos (vpb_ok (by omega) (by omega)), clamp_of_int (n := 30 * (s.v 18).toNatClampNeg + 6 * w + v) (by omega)]
theorem ok_thereAt_55 {s : RS} {x1 x3 : Int32} {w : Nat} (hI : InvR s) (h1 : x1.toInt = (w : Int)) (hw : w < 5) (hO : ∀ v : Nat, v < 6 → 0 ≤ (s.f 21 (30 * (s.v 18).toNatClampNeg + 6 * w + v)).toInt ∧ (s.f 21 (30 * (s.v 18).toNatClampNeg + 6 * w + v)).toInt ≤ 9) (hx : x3.toInt < psum (s.f 21) (30 * (s.v 18).toNatClampNeg + 6 * w) 6) :
    ∀ (n v : Nat) (x2 x4 : Int32), 5 - v < n → v ≤ 5 → x4.toInt = (v : Int) → 0 ≤ x2.toInt → x2.toInt ≤ 9 * (v + 1) → x2.toInt = psum (s.f 21) (30 * (s.v 18).toNatClampNeg + 6 * w) (v + 1) → Ok (r_thereAt_55L n s x1 x2 x3 x4) (Q_r_thereAt s) := by
  intro n
  induction n with
  | zero => intro v x2 x4 h; omega
  | succ n ih =>
    intro v x2 x4 hn hv h4 h20 h29 h2
    show Ok (r_thereAt_55 (r_thereAt_55L n) s x1 x2 x3 x4) _
    unfold r_thereAt_55
    refine ok_ite (fun c => ?_) (fun c => ?_)
    · exact ok_some ⟨hI, FrR.rfl, by show 0 ≤ x4.toInt; omega, by show x4.toInt ≤ 5; omega⟩
    · have c := ti_nlt c
      have hv5 : v < 5 := by
        rcases Nat.lt_or_ge v 5 with h | h
        · exact h
        · obtain rfl : v = 5 := by omega
          have e6 : psum (s.f 21) (30 * (s.v 18).toNatClampNeg + 6 * w) (5 + 1) = psum (s.f 21) (30 * (s.v 18).toNatClampNeg + 6 * w) 6 := rfl
          omega
      have l1 : (1 : Int32).toInt = 1 := by decide
      have a1 : (x4 + 1).toInt = x4.toInt + (1 : Int32).toInt := ti_add (by omega) (by omega)
      rw [oddsAt_eq (v := v + 1) hI h1 (by omega) hw (by omega)]
      have ho := hO (v + 1) (by omega)
      show Ok (r_thereAt_55L n s x1 (x2 + _) x3 (x4 + 1)) _
      have a2 := ti_add (x := x2) (y := s.f 21 (30 * (s.v 18).toNatClampNeg + 6 * w + (v + 1))) (by omega) (by omega)
      have ps : psum (s.f 21) (30 * (s.v 18).toNatClampNeg + 6 * w) (v + 1 + 1) = psum (s.f 21) (30 * (s.v 18).toNatClampNeg + 6 * w) (v + 1) + (s.f 21 (30 * (s.v 18).toNatClampNeg + 6 * w + (v + 1))).toInt := rfl
      exact ih (v + 1) _ _ (by omega) (by omega) (by omega) (by omega) (by omega) (by omega)
theorem ok_thereAt_4 {s : RS} {x1 : Int32} {w : Nat} (hI : InvR s) (h1 : x1.toInt = (w : Int)) (hw : w < 5) (hO : ∀ v : Nat, v < 6 → 0 ≤ (s.f 21 (30 * (s.v 18).toNatClampNeg + 6 * w + v)).toInt ∧ (s.f 21 (30 * (s.v 18).toNatClampNeg + 6 * w + v)).toInt ≤ 9) (hp : 0 < psum (s.f 21) (30 * (s.v 18).toNatClampNeg + 6 * w) 6) :
    ∀ (n v : Nat) (x2 x3 : Int32), 6 - v < n → v ≤ 6 → x3.toInt = (v : Int) → 0 ≤ x2.toInt → x2.toInt ≤ 9 * v → x2.toInt = psum (s.f 21) (30 * (s.v 18).toNatClampNeg + 6 * w) v → Ok (r_thereAt_4L n s x1 x2 x3) (Q_r_thereAt s) := by
  intro n
  induction n with
  | zero => intro v x2 x3 h; omega
  | succ n ih =>
    intro v x2 x3 hn hv h3 h20 h29 h2
    show Ok (r_thereAt_4 (r_thereAt_4L n) s x1 x2 x3) _
    unfold r_thereAt_4
    have l6 : (6 : Int32).toInt = 6 := by decide
    have l1 : (1 : Int32).toInt = 1 := by decide
    have l0 : (0 : Int32).toInt = 0 := by decide
    have l10 : (10 : Int32).toInt = 10 := by decide
    refine ok_ite (fun c => ?_) (fun c => ?_)
    · have c := ti_le c
      obtain rfl : v = 6 := by omega
      have a1 : (10 + x1).toInt = (10 : Int32).toInt + x1.toInt := ti_add (by omega) (by omega)
      refine ok_grd (vpb_ok (by omega) (by omega)) ?_
      obtain ⟨⟨lot, s3⟩, e1, hI3, hF3, hl0, hl1⟩ := lotOf_rng s ((8 * (s.f 44 (Int32.toNatClampNeg (10 + x1)))) + x1) x2 hI (by omega)
      rw [e1]
      obtain rfl : s = s3 := (FrR.eq hF3).symm
      show Ok (bindI (r_oddsAt s x1 0) _) _
      rw [oddsAt_eq (v := 0) hI h1 (by omega) hw (by omega)]
      have ho := hO 0 (by omega)
      have ps : psum (s.f 21) (30 * (s.v 18).toNatClampNeg + 6 * w) (0 + 1) = 0 + (s.f 21 (30 * (s.v 18).toNatClampNeg + 6 * w + 0)).toInt := rfl
      exact ok_thereAt_55 hI h1 hw hO (by show lot.toInt < _; have : lot.toInt < x2.toInt := hl1; omega) fu 0 _ _ (by unfold fu; omega) (by omega) (by omega) (by omega) (by omega) (by omega)
    · have c := ti_nle c
      have a1 : (x3 + 1).toInt = x3.toInt + (1 : Int32).toInt := ti_add (by omega) (by omega)
      rw [oddsAt_eq (v := v) hI h1 (by omega) hw (by omega)]
      have ho := hO v (by omega)
      show Ok (r_thereAt_4L n s x1 (x2 + _) (x3 + 1)) _
      have a2 := ti_add (x := x2) (y := s.f 21 (30 * (s.v 18).toNatClampNeg + 6 * w + v)) (by omega) (by omega)
      have ps : psum (s.f 21) (30 * (s.v 18).toNatClampNeg + 6 * w) (v + 1) = psum (s.f 21) (30 * (s.v 18).toNatClampNeg + 6 * w) v + (s.f 21 (30 * (s.v 18).toNatClampNeg + 6 * w + v)).toInt := rfl
      exact ih (v + 1) _ _ (by omega) (by omega) (by omega) (by omega) (by omega) (by omega)
theorem ok_r_thereAt (s : RS) (x1 : Int32) (hI : InvR s) (hB : Big s) (h0 : 0 ≤ x1.toInt) (h4 : x1.toInt ≤ 4) (hw : x1.toInt < wv s) : Ok (r_thereAt s x1) (Q_r_thereAt s) := by
  have hO := hB.2.1 x1.toInt.toNat (by unfold wv at hw; omega)
  unfold r_thereAt
  have l0 : (0 : Int32).toInt = 0 := by decide
  exact ok_thereAt_4 (w := x1.toInt.toNat) hI (by omega) (by omega) hO.1 hO.2 fu 0 0 0 (by unfold fu; omega) (by omega) (by omega) (by omega) (by omega) (by rw [l0]; rfl)
abbrev Q_r_thereNumber (s0 : RS) (y : Int32 × RS) : Prop := InvR y.2 ∧ FrR [] s0 y.2 ∧ 0 ≤ y.1.toInt ∧ y.1.toInt ≤ 194400
set_option maxHeartbeats 1000000 in
theorem ok_r_thereNumber_4 (s0 : RS) (hB : Big s0) (k4 : RS → Int32 → Int32 → Option (Int32 × RS)) (M4 : Nat) (hk4 : ∀ (s : RS) (x1 : Int32) (x2 : Int32), InvR s → FrR [] s0 s → 0 ≤ x1.toInt → x1.toInt ≤ 194400 → 0 ≤ x2.toInt → x2.toInt ≤ 5 → (x1.toInt ≤ 38880 * x2.toInt) → (5 - x2.toInt).toNat < M4 → Ok (k4 s x1 x2) (Q_r_thereNumber s0)) (s : RS) (x1 : Int32) (x2 : Int32) (hI_s : InvR s) (hF_s : FrR [] s0 s) (h_x1l : 0 ≤ x1.toInt) (h_x1u : x1.toInt ≤ 194400) (h_x2l : 0 ≤ x2.toInt) (h_x2u : x2.toInt ≤ 5) (hx0 : (x1.toInt ≤ 38880 * x2.toInt)) (hM4 : (5 - x2.toInt).toNat ≤ M4) : Ok (r_thereNumber_4 k4 s x1 x2) (Q_r_thereNumber s0) := by
  unfold r_thereNumber_4
  have a_1 : 0 ≤ (s.v 18).toInt ∧ (s.v 18).toInt ≤ 1 := hI_s.1 18
  refine ok_grd (vpb_ok (by omega) (by omega)) ?_
  have a_2 : ((s.f 20 (Int32.toNatClampNeg (s.v 18)))).toInt = wv s0 := wv_fr hF_s (by decide) (by decide)
  have a_3 : 0 ≤ ((s.f 20 (Int32.toNatClampNeg (s.v 18)))).toInt ∧ ((s.f 20 (Int32.toNatClampNeg (s.v 18)))).toInt ≤ 5 := hI_s.2 20 _
  refine ok_ite (fun c_4 => ?_) (fun c_4 => ?_)
  · have c_4 := tn_le (a := ((s.f 20 (Int32.toNatClampNeg (s.v 18)))).toInt) (b := (x2).toInt) rfl rfl c_4
    exact ok_some ⟨hI_s, hF_s, by show 0 ≤ (x1).toInt; omega, by show (x1).toInt ≤ 194400; omega⟩
  · have c_4 := tn_nle (a := ((s.f 20 (Int32.toNatClampNeg (s.v 18)))).toInt) (b := (x2).toInt) rfl rfl c_4
    refine ok_grd (vpb_ok (by omega) (by omega)) ?_
    have a_6 : wv s = wv s0 := wv_fr hF_s (by decide) (by decide)
    refine ok_bindI (ok_r_thereAt _ _ hI_s (hB.fr hF_s (by decide)) (by omega) (by omega) (by omega)) (fun r5 s4 hc_5 => ?_)
    have hI_s4 : InvR s4 := hc_5.1
    have hFc_s4 : FrR [] s s4 := hc_5.2.1
    have hF_s4 : FrR [] s0 s4 := hF_s.trans hFc_s4 (by decide)
    have hl_r5 : 0 ≤ r5.toInt := hc_5.2.2.1
    have hu_r5 : r5.toInt ≤ 5 := hc_5.2.2.2
    have a_7 : 1 ≤ ((s.f 46 (Int32.toNatClampNeg x2))).toInt ∧ ((s.f 46 (Int32.toNatClampNeg x2))).toInt ≤ 7776 := hB.six hF_s (by decide) (by omega) (by omega)
    have a_8 : 0 ≤ (((s.f 46 (Int32.toNatClampNeg x2)) * r5)).toInt ∧ (((s.f 46 (Int32.toNatClampNeg x2)) * r5)).toInt ≤ 38880 := ti_mulr (a := 7776) (b := 5) (by omega) (by omega) (by omega) (by omega) (by decide)
    have a_9 : ((x1 + ((s.f 46 (Int32.toNatClampNeg x2)) * r5))).toInt = (x1).toInt + (((s.f 46 (Int32.toNatClampNeg x2)) * r5)).toInt := tn_add rfl rfl (by omega) (by omega)
    have a_10 : ((x2 + 1)).toInt = (x2).toInt + 1 := tn_add rfl (by decide) (by omega) (by omega)
    exact hk4 _ _ _ hI_s4 hF_s4 (by first | (clear hx0; omega) | omega) (by first | (clear hx0; omega) | omega) (by first | (clear hx0; omega) | omega) (by first | (clear hx0; omega) | omega) (by omega) (by first | (clear hx0; omega) | omega)
theorem okL_r_thereNumber_4 (s0 : RS) (hB : Big s0)  : ∀ (n : Nat) (s : RS) (x1 : Int32) (x2 : Int32), (5 - x2.toInt).toNat < n → InvR s → FrR [] s0 s → 0 ≤ x1.toInt → x1.toInt ≤ 194400 → 0 ≤ x2.toInt → x2.toInt ≤ 5 → (x1.toInt ≤ 38880 * x2.toInt) → Ok (r_thereNumber_4L  n s x1 x2) (Q_r_thereNumber s0) := by
  intro n
  induction n with
  | zero => intro s x1 x2 hn; omega
  | succ n ih =>
    intro s x1 x2 hn hI_s hF_s h_x1l h_x1u h_x2l h_x2u hx0 
    exact ok_r_thereNumber_4 s0 hB (r_thereNumber_4L  n) ((5 - x2.toInt).toNat) (fun zs zx1 zx2 g0 g1 g2 g3 g4 g5 g6  hm => ih zs zx1 zx2 (by omega) g0 g1 g2 g3 g4 g5 g6 ) s x1 x2 hI_s hF_s h_x1l h_x1u h_x2l h_x2u hx0 (Nat.le_refl _)
set_option maxHeartbeats 1000000 in
theorem ok_r_thereNumberB (s0 : RS) (hB : Big s0)  (s : RS) (hI_s : InvR s) (hF_s : FrR [] s0 s)  : Ok (r_thereNumber  s) (Q_r_thereNumber s0) := by
  unfold r_thereNumber
  have l_0 : (0 : Int32).toInt = 0 := by decide
  exact okL_r_thereNumber_4 s0 hB  fu _ _ _ (by unfold fu; omega) hI_s hF_s (by decide) (by decide) (by decide) (by decide) (by omega) 
theorem ok_r_thereNumber (s : RS) (hI_s : InvR s) (hB : Big s) : Ok (r_thereNumber s) (Q_r_thereNumber s) := ok_r_thereNumberB s hB s hI_s FrR.rfl
abbrev Q_r_mayAt (s0 : RS) (y : Int32 × RS) : Prop := InvR y.2 ∧ FrR [] s0 y.2 ∧ -2147483648 ≤ y.1.toInt ∧ y.1.toInt ≤ 2147483647
set_option maxHeartbeats 1000000 in
theorem ok_r_mayAt_60 (s0 : RS) (k26 : RS → Int32 → Int32 → Int32 → Option (Int32 × RS)) (M26 : Nat) (hk26 : ∀ (s : RS) (x1 : Int32) (x2 : Int32) (x3 : Int32), InvR s → FrR [] s0 s → 0 ≤ x1.toInt → x1.toInt ≤ 4 → 0 ≤ x3.toInt → x3.toInt ≤ 6 → (6 - x3.toInt).toNat < M26 → Ok (k26 s x1 x2 x3) (Q_r_mayAt s0)) (s : RS) (x1 : Int32) (x2 : Int32) (x3 : Int32) (hI_s : InvR s) (hF_s : FrR [] s0 s) (h_x1l : 0 ≤ x1.toInt) (h_x1u : x1.toInt ≤ 4) (h_x3l : 0 ≤ x3.toInt) (h_x3u : x3.toInt ≤ 5) (hM26 : (6 - x3.toInt).toNat ≤ M26) : Ok (r_mayAt_60 k26 s x1 x2 x3) (Q_r_mayAt s0) := by
  unfold r_mayAt_60
  have a_1 : ((x3 + 1)).toInt = (x3).toInt + 1 := tn_add rfl (by decide) (by omega) (by omega)
  exact hk26 _ _ _ _ hI_s hF_s (by omega) (by omega) (by omega) (by omega) (by omega)
set_option maxHeartbeats 1000000 in
theorem ok_r_mayAt_26 (s0 : RS) (k26 : RS → Int32 → Int32 → Int32 → Option (Int32 × RS)) (M26 : Nat) (hk26 : ∀ (s : RS) (x1 : Int32) (x2 : Int32) (x3 : Int32), InvR s → FrR [] s0 s → 0 ≤ x1.toInt → x1.toInt ≤ 4 → 0 ≤ x3.toInt → x3.toInt ≤ 6 → (6 - x3.toInt).toNat < M26 → Ok (k26 s x1 x2 x3) (Q_r_mayAt s0)) (s : RS) (x1 : Int32) (x2 : Int32) (x3 : Int32) (hI_s : InvR s) (hF_s : FrR [] s0 s) (h_x1l : 0 ≤ x1.toInt) (h_x1u : x1.toInt ≤ 4) (h_x3l : 0 ≤ x3.toInt) (h_x3u : x3.toInt ≤ 6) (hM26 : (6 - x3.toInt).toNat ≤ M26) : Ok (r_mayAt_26 k26 s x1 x2 x3) (Q_r_mayAt s0) := by
  unfold r_mayAt_26
  refine ok_ite (fun c_1 => ?_) (fun c_1 => ?_)
  · have c_1 := tn_le (a := 6) (b := (x3).toInt) (by decide) rfl c_1
    exact ok_some ⟨hI_s, hF_s, (ti_rng _).1, (ti_rng _).2⟩
  · have c_1 := tn_nle (a := 6) (b := (x3).toInt) (by decide) rfl c_1
    refine ok_bindI (ok_r_oddsAt _ _ _ hI_s (by omega) (by omega) (by omega) (by omega)) (fun r3 s2 hc_2 => ?_)
    have hI_s2 : InvR s2 := hc_2.1
    have hFc_s2 : FrR [] s s2 := hc_2.2.1
    have hF_s2 : FrR [] s0 s2 := hF_s.trans hFc_s2 (by decide)
    refine ok_ite (fun c_3 => ?_) (fun c_3 => ?_)
    · have c_3 := tn_le (a := (r3).toInt) (b := 0) rfl (by decide) c_3
      exact ok_r_mayAt_60 s0 k26 M26 hk26 _ _ _ _ hI_s2 hF_s2 (by omega) (by omega) (by omega) (by omega) (by omega)
    · have c_3 := tn_nle (a := (r3).toInt) (b := 0) rfl (by decide) c_3
      refine ok_grd (vpb_ok (by omega) (by omega)) ?_
      have a_4 := ti_and1 (((s2.f 44 (Int32.toNatClampNeg x1)) >>> (x3 &&& 31)))
      refine ok_ite (fun c_5 => ?_) (fun c_5 => ?_)
      · have c_5 := tn_eq (a := ((((s2.f 44 (Int32.toNatClampNeg x1)) >>> (x3 &&& 31)) &&& 1)).toInt) (b := 0) rfl (by decide) c_5
        exact ok_r_mayAt_60 s0 k26 M26 hk26 _ _ _ _ hI_s2 hF_s2 (by omega) (by omega) (by omega) (by omega) (by omega)
      · have c_5 := tn_ne (a := ((((s2.f 44 (Int32.toNatClampNeg x1)) >>> (x3 &&& 31)) &&& 1)).toInt) (b := 0) rfl (by decide) c_5
        exact ok_r_mayAt_60 s0 k26 M26 hk26 _ _ _ _ hI_s2 hF_s2 (by omega) (by omega) (by omega) (by omega) (by omega)
theorem okL_r_mayAt_26 (s0 : RS)  : ∀ (n : Nat) (s : RS) (x1 : Int32) (x2 : Int32) (x3 : Int32), (6 - x3.toInt).toNat < n → InvR s → FrR [] s0 s → 0 ≤ x1.toInt → x1.toInt ≤ 4 → 0 ≤ x3.toInt → x3.toInt ≤ 6 → Ok (r_mayAt_26L  n s x1 x2 x3) (Q_r_mayAt s0) := by
  intro n
  induction n with
  | zero => intro s x1 x2 x3 hn; omega
  | succ n ih =>
    intro s x1 x2 x3 hn hI_s hF_s h_x1l h_x1u h_x3l h_x3u 
    exact ok_r_mayAt_26 s0 (r_mayAt_26L  n) ((6 - x3.toInt).toNat) (fun zs zx1 zx2 zx3 g0 g1 g2 g3 g4 g5  hm => ih zs zx1 zx2 zx3 (by omega) g0 g1 g2 g3 g4 g5 ) s x1 x2 x3 hI_s hF_s h_x1l h_x1u h_x3l h_x3u (Nat.le_refl _)
set_option maxHeartbeats 1000000 in
theorem ok_r_mayAtB (s0 : RS)  (s : RS) (x1 : Int32) (hI_s : InvR s) (hF_s : FrR [] s0 s) (h_x1l : 0 ≤ x1.toInt) (h_x1u : x1.toInt ≤ 4)  : Ok (r_mayAt  s x1) (Q_r_mayAt s0) := by
  unfold r_mayAt
  have a_1 : ((5 + x1)).toInt = 5 + (x1).toInt := tn_add (by decide) rfl (by omega) (by omega)
  refine ok_grd (vpb_ok (by omega) (by omega)) ?_
  refine ok_ite (fun c_2 => ?_) (fun c_2 => ?_)
  · have c_2 := tn_lt (a := ((s.f 44 (Int32.toNatClampNeg (5 + x1)))).toInt) (b := 0) rfl (by decide) c_2
    have l_0 : (0 : Int32).toInt = 0 := by decide
    exact okL_r_mayAt_26 s0  fu _ _ _ _ (by unfold fu; omega) hI_s hF_s (by omega) (by omega) (by decide) (by decide) 
  · have c_2 := tn_nlt (a := ((s.f 44 (Int32.toNatClampNeg (5 + x1)))).toInt) (b := 0) rfl (by decide) c_2
    refine ok_grd (vpb_ok (by omega) (by omega)) ?_
    exact ok_some ⟨hI_s, hF_s, (ti_rng _).1, (ti_rng _).2⟩
theorem ok_r_mayAt (s : RS) (x1 : Int32) (hI_s : InvR s) (h_x1l : 0 ≤ x1.toInt) (h_x1u : x1.toInt ≤ 4) : Ok (r_mayAt s x1) (Q_r_mayAt s) := ok_r_mayAtB s s x1 hI_s FrR.rfl h_x1l h_x1u
abbrev Q_r_lawTells (s0 : RS) (y : Int32 × RS) : Prop := InvR y.2 ∧ FrR [42, 141] s0 y.2 ∧ -2147483648 ≤ y.1.toInt ∧ y.1.toInt ≤ 2147483647
theorem ok_lawTells_119 (s0 s : RS) (x4 : Int32) (b : Nat) (hI : InvR s) (hF : FrR [42, 141] s0 s) (h4 : x4.toInt = (b : Int)) (hb : b < 260) {lo hi : Nat} (hhi : hi ≤ 840) (hS : Seg lo hi (s0.f 36) (s0.f 37) (s0.f 33 b) (s0.f 34 b)) : Ok (r_lawTells_119 s x4) (Q_r_lawTells s0) := by
  unfold r_lawTells_119
  refine ok_grd (vpb_ok (by omega) (by omega)) ?_
  refine ok_grd (vpb_ok (by omega) (by omega)) ?_
  rw [clamp_of_int h4]
  have e (k : Nat) (hk : 100 + k ∉ [42, 141]) : s.f k = s0.f k := (hF.2 k hk).1
  refine ok_bindI (ok_r_termOf s _ _ hI hhi (by rw [e 36 (by decide), e 37 (by decide), e 33 (by decide), e 34 (by decide)]; exact hS)) (fun r4 s3 hc => ?_)
  have hF3 : FrR [42, 141] s0 s3 := hF.trans hc.2 (by decide)
  exact ok_ite (fun _ => ok_some ⟨hc.1, hF3, (ti_rng _).1, (ti_rng _).2⟩) (fun _ => ok_some ⟨hc.1, hF3, (ti_rng _).1, (ti_rng _).2⟩)
theorem ok_lawTells_39 {lo hi : Nat} (hhi : hi ≤ 840) (s0 : RS) (x3 : Int32) (a : Nat) (h3 : x3.toInt = (a : Int)) (ha : a < 8) (hl : (s0.f 28 a).toInt ≤ 260) (hbr : ∀ b : Nat, (s0.f 27 a).toInt ≤ (b : Int) → (b : Int) < (s0.f 28 a).toInt → BrOK lo hi (s0.f 30) (s0.f 31) (s0.f 32) (s0.f 33) (s0.f 34) (s0.f 36) (s0.f 37) b) :
    ∀ (n b : Nat) (s : RS) (x4 : Int32), 260 - b < n → InvR s → FrR [42, 141] s0 s → x4.toInt = (b : Int) → (s0.f 27 a).toInt ≤ (b : Int) → Ok (r_lawTells_39L n s x3 x4) (Q_r_lawTells s0) := by
  intro n
  induction n with
  | zero => intro b s x4 h; omega
  | succ n ih =>
    intro b s x4 hn hI hF h4 hb
    show Ok (r_lawTells_39 (r_lawTells_39L n) s x3 x4) _
    unfold r_lawTells_39
    have e (k : Nat) (hk : 100 + k ∉ [42, 141]) : s.f k = s0.f k := (hF.2 k hk).1
    have l1 : (1 : Int32).toInt = 1 := by decide
    refine ok_grd (vpb_ok (by omega) (by omega)) ?_
    rw [clamp_of_int h3, e 28 (by decide)]
    refine ok_ite (fun c => ?_) (fun c => ?_)
    · exact ok_some ⟨hI, hF, (ti_rng _).1, (ti_rng _).2⟩
    · have c := ti_nle c
      have hB := hbr b hb (by omega)
      refine ok_grd (vpb_ok (by omega) (by omega)) ?_
      rw [clamp_of_int h4, e 30 (by decide)]
      refine ok_ite (fun c2 => ?_) (fun c2 => ?_)
      · exact ok_lawTells_119 s0 s x4 b hI hF h4 (by omega) hhi hB.2
      · refine ok_grd (vpb_ok (by omega) (by omega)) ?_
        refine ok_grd (vpb_ok (by omega) (by omega)) ?_
        have hS := hB.1 c2
        refine ok_bindI (ok_r_termOf s _ _ hI hhi (by rw [e 36 (by decide), e 37 (by decide), e 31 (by decide), e 32 (by decide)]; exact hS.1)) (fun r8 s7 hc => ?_)
        have hF7 : FrR [42, 141] s0 s7 := hF.trans hc.2 (by decide)
        have e7 (k : Nat) (hk : 100 + k ∉ [42, 141]) : s7.f k = s0.f k := (hF7.2 k hk).1
        refine ok_grd (vpb_ok (by omega) (by omega)) ?_
        refine ok_grd (vpb_ok (by omega) (by omega)) ?_
        refine ok_bindI (ok_r_termOf s7 _ _ hc.1 hhi (by rw [e7 36 (by decide), e7 37 (by decide), e7 32 (by decide), e7 33 (by decide)]; exact hS.2)) (fun r12 s11 hc2 => ?_)
        have hF11 : FrR [42, 141] s0 s11 := hF7.trans hc2.2 (by decide)
        refine ok_ite (fun _ => ?_) (fun _ => ?_)
        · refine ok_ite (fun _ => ?_) (fun _ => ?_)
          · exact ok_lawTells_119 s0 s11 x4 b hc2.1 hF11 h4 (by omega) hhi hB.2
          · have a1 : (x4 + 1).toInt = x4.toInt + (1 : Int32).toInt := ti_add (by omega) (by omega)
            exact ih (b + 1) s11 _ (by omega) hc2.1 hF11 (by omega) (by omega)
        · exact ok_some ⟨hc2.1, hF11, (ti_rng _).1, (ti_rng _).2⟩
theorem ok_r_lawTells (s : RS) (x1 x2 : Int32) (hI : InvR s) (hB : Big s) (h0 : 0 ≤ x1.toInt) (h3 : x1.toInt ≤ 3) : Ok (r_lawTells s x1 x2) (Q_r_lawTells s) := by
  unfold r_lawTells
  have hl : 0 ≤ (s.v 18).toInt ∧ (s.v 18).toInt ≤ 1 := hI.1 18
  have el : (s.v 18).toInt.toNat = (s.v 18).toNatClampNeg := Int32.toNat_toInt _
  have l4 : (4 : Int32).toInt = 4 := by decide
  have a1 : (4 * (s.v 18)).toInt = (s.v 18).toInt * 4 := ti_cmul (c := 4) l4 (by omega) (by omega)
  have a2 : ((4 * (s.v 18)) + x1).toInt = (4 * (s.v 18)).toInt + x1.toInt := ti_add (by omega) (by omega)
  have hk := hB.2.2 x1.toInt.toNat (by omega)
  have ec : ((4 * (s.v 18)) + x1).toNatClampNeg = 4 * (s.v 18).toNatClampNeg + x1.toInt.toNat := clamp_of_int (by omega)
  refine ok_grd (vpb_ok (by omega) (by omega)) ?_
  refine ok_grd (vpb_ok (by omega) (by omega)) ?_
  rw [ec]
  refine ok_ite (fun c => ?_) (fun c => ?_)
  · exact ok_some ⟨hI, FrR.rfl, (ti_rng _).1, (ti_rng _).2⟩
  · refine ok_let (fun s4 hs4 => ?_)
    have hI4 : InvR s4 := by rw [← hs4]; exact hI.svF (k := 42) rfl rfl
    have hF4 : FrR [42, 141] s s4 := by rw [← hs4]; exact FrR.rfl.sv (k := 42) (by decide)
    refine ok_grd (vpb_ok (by omega) (by omega)) ?_
    rcases hk with hk | ⟨hk0, hk1, hk2⟩
    · exact absurd hk c
    · have e27 : s4.f 27 = s.f 27 := (hF4.2 27 (by decide)).1
      rw [e27]
      exact ok_lawTells_39 (hi := 420 * (s.v 18).toNatClampNeg + 402) (by omega) s _ (4 * (s.v 18).toNatClampNeg + x1.toInt.toNat) (by omega) (by omega) (by omega) hk2 fu (s.f 27 (4 * (s.v 18).toNatClampNeg + x1.toInt.toNat)).toInt.toNat s4 _ (by unfold fu; omega) hI4 hF4 (by omega) (by omega)
abbrev Q_r_looks (s0 : RS) (y : RS) : Prop := InvR y ∧ FrR [140] s0 y
set_option maxHeartbeats 1000000 in
theorem ok_r_looks_2 (s0 : RS) (k2 : RS → Int32 → Int32 → Option (RS)) (M2 : Nat) (hk2 : ∀ (s : RS) (x1 : Int32) (x2 : Int32), InvR s → FrR [140] s0 s → -1 ≤ x1.toInt → x1.toInt ≤ 5 → 0 ≤ x2.toInt → x2.toInt ≤ 9 → (9 - x2.toInt).toNat < M2 → Ok (k2 s x1 x2) (Q_r_looks s0)) (s : RS) (x1 : Int32) (x2 : Int32) (hI_s : InvR s) (hF_s : FrR [140] s0 s) (h_x1l : -1 ≤ x1.toInt) (h_x1u : x1.toInt ≤ 5) (h_x2l : 0 ≤ x2.toInt) (h_x2u : x2.toInt ≤ 9) (hM2 : (9 - x2.toInt).toNat ≤ M2) : Ok (r_looks_2 k2 s x1 x2) (Q_r_looks s0) := by
  unfold r_looks_2
  refine ok_ite (fun c_1 => ?_) (fun c_1 => ?_)
  · have c_1 := tn_le (a := 9) (b := (x2).toInt) (by decide) rfl c_1
    refine ok_let (fun s2 hs2 => ?_)
    have hI_s2 : InvR s2 := by rw [← hs2]; exact hI_s.sfF (k := 40) rfl rfl
    have hF_s2 : FrR [140] s0 s2 := by rw [← hs2]; exact hF_s.sf (k := 40) (by decide)
    refine ok_ite (fun c_2 => ?_) (fun c_2 => ?_)
    · have c_2 := tn_le (a := 0) (b := (x1).toInt) (by decide) rfl c_2
      have a_3 : 0 ≤ (s.v 18).toInt ∧ (s.v 18).toInt ≤ 1 := hI_s.1 18
      have a_4 : (s2.v 18).toInt = (s.v 18).toInt := congrArg Int32.toInt (show s2.v 18 = s.v 18 by rw [← hs2]; rfl)
      have a_5 : ((6 * (s2.v 18))).toInt = ((s2.v 18)).toInt * 6 := ti_cmul (c := 6) (by decide) (by omega) (by omega)
      have a_6 : (((6 * (s2.v 18)) + x1)).toInt = ((6 * (s2.v 18))).toInt + (x1).toInt := tn_add rfl rfl (by omega) (by omega)
      refine ok_grd (vpb_ok (by omega) (by omega)) ?_
      refine ok_let (fun s6 hs6 => ?_)
      have hI_s6 : InvR s6 := by rw [← hs6]; exact hI_s2.sfF (k := 40) rfl rfl
      have hF_s6 : FrR [140] s0 s6 := by rw [← hs6]; exact hF_s2.sf (k := 40) (by decide)
      have a_7 : (s6.v 18).toInt = (s2.v 18).toInt := congrArg Int32.toInt (show s6.v 18 = s2.v 18 by rw [← hs6]; rfl)
      have a_8 : ((6 * (s6.v 18))).toInt = ((s6.v 18)).toInt * 6 := ti_cmul (c := 6) (by decide) (by omega) (by omega)
      have a_9 : (((6 * (s6.v 18)) + x1)).toInt = ((6 * (s6.v 18))).toInt + (x1).toInt := tn_add rfl rfl (by omega) (by omega)
      refine ok_grd (vpb_ok (by omega) (by omega)) ?_
      refine ok_let (fun s9 hs9 => ?_)
      have hI_s9 : InvR s9 := by rw [← hs9]; exact hI_s6.sfF (k := 40) rfl rfl
      have hF_s9 : FrR [140] s0 s9 := by rw [← hs9]; exact hF_s6.sf (k := 40) (by decide)
      refine ok_let (fun s11 hs11 => ?_)
      have hI_s11 : InvR s11 := by rw [← hs11]; exact hI_s9.sfF (k := 40) rfl rfl
      have hF_s11 : FrR [140] s0 s11 := by rw [← hs11]; exact hF_s9.sf (k := 40) (by decide)
      have a_10 : ((21 + x1)).toInt = 21 + (x1).toInt := tn_add (by decide) rfl (by omega) (by omega)
      refine ok_grd (vpb_ok (by omega) (by omega)) ?_
      refine ok_let (fun s14 hs14 => ?_)
      have hI_s14 : InvR s14 := by rw [← hs14]; exact hI_s11.sfF (k := 40) rfl rfl
      have hF_s14 : FrR [140] s0 s14 := by rw [← hs14]; exact hF_s11.sf (k := 40) (by decide)
      exact ok_some ⟨hI_s14, hF_s14⟩
    · have c_2 := tn_nle (a := 0) (b := (x1).toInt) (by decide) rfl c_2
      exact ok_some ⟨hI_s2, hF_s2⟩
  · have c_1 := tn_nle (a := 9) (b := (x2).toInt) (by decide) rfl c_1
    refine ok_grd (vpb_ok (by omega) (by omega)) ?_
    refine ok_let (fun s17 hs17 => ?_)
    have hI_s17 : InvR s17 := by rw [← hs17]; exact hI_s.sfF (k := 40) rfl rfl
    have hF_s17 : FrR [140] s0 s17 := by rw [← hs17]; exact hF_s.sf (k := 40) (by decide)
    have a_11 : ((x2 + 1)).toInt = (x2).toInt + 1 := tn_add rfl (by decide) (by omega) (by omega)
    exact hk2 _ _ _ hI_s17 hF_s17 (by omega) (by omega) (by omega) (by omega) (by omega)
theorem okL_r_looks_2 (s0 : RS)  : ∀ (n : Nat) (s : RS) (x1 : Int32) (x2 : Int32), (9 - x2.toInt).toNat < n → InvR s → FrR [140] s0 s → -1 ≤ x1.toInt → x1.toInt ≤ 5 → 0 ≤ x2.toInt → x2.toInt ≤ 9 → Ok (r_looks_2L  n s x1 x2) (Q_r_looks s0) := by
  intro n
  induction n with
  | zero => intro s x1 x2 hn; omega
  | succ n ih =>
    intro s x1 x2 hn hI_s hF_s h_x1l h_x1u h_x2l h_x2u 
    exact ok_r_looks_2 s0 (r_looks_2L  n) ((9 - x2.toInt).toNat) (fun zs zx1 zx2 g0 g1 g2 g3 g4 g5  hm => ih zs zx1 zx2 (by omega) g0 g1 g2 g3 g4 g5 ) s x1 x2 hI_s hF_s h_x1l h_x1u h_x2l h_x2u (Nat.le_refl _)
set_option maxHeartbeats 1000000 in
theorem ok_r_looksB (s0 : RS)  (s : RS) (x1 : Int32) (hI_s : InvR s) (hF_s : FrR [140] s0 s) (h_x1l : -1 ≤ x1.toInt) (h_x1u : x1.toInt ≤ 5)  : Ok (r_looks  s x1) (Q_r_looks s0) := by
  unfold r_looks
  have l_0 : (0 : Int32).toInt = 0 := by decide
  exact okL_r_looks_2 s0  fu _ _ _ (by unfold fu; omega) hI_s hF_s (by omega) (by omega) (by decide) (by decide) 
theorem ok_r_looks (s : RS) (x1 : Int32) (hI_s : InvR s) (h_x1l : -1 ≤ x1.toInt) (h_x1u : x1.toInt ≤ 5) : Ok (r_looks s x1) (Q_r_looks s) := ok_r_looksB s s x1 hI_s FrR.rfl h_x1l h_x1u
abbrev Q_r_looksOver (s0 : RS) (y : RS) : Prop := InvR y ∧ FrR [140] s0 y
set_option maxHeartbeats 1000000 in
theorem ok_r_looksOverB (s0 : RS)  (s : RS) (x1 : Int32) (hI_s : InvR s) (hF_s : FrR [140] s0 s) (h_x1l : 0 ≤ x1.toInt) (h_x1u : x1.toInt ≤ 4)  : Ok (r_looksOver  s x1) (Q_r_looksOver s0) := by
  unfold r_looksOver
  refine ok_let (fun s1 hs1 => ?_)
  have hI_s1 : InvR s1 := by rw [← hs1]; exact hI_s.sfF (k := 40) rfl rfl
  have hF_s1 : FrR [140] s0 s1 := by rw [← hs1]; exact hF_s.sf (k := 40) (by decide)
  refine ok_bindI (ok_r_mayAt _ _ hI_s1 (by omega) (by omega)) (fun r4 s3 hc_1 => ?_)
  have hI_s3 : InvR s3 := hc_1.1
  have hFc_s3 : FrR [] s1 s3 := hc_1.2.1
  have hF_s3 : FrR [140] s0 s3 := hF_s1.trans hFc_s3 (by decide)
  refine ok_bindP (ok_r_bits _ ) (fun r5 hc_2 => ?_)
  have hl_r5 : 0 ≤ r5.toInt := hc_2.1
  have hu_r5 : r5.toInt ≤ 6 := hc_2.2
  refine ok_let (fun s6 hs6 => ?_)
  have hI_s6 : InvR s6 := by rw [← hs6]; exact hI_s3.sfF (k := 40) rfl rfl
  have hF_s6 : FrR [140] s0 s6 := by rw [← hs6]; exact hF_s3.sf (k := 40) (by decide)
  refine ok_grd (vpb_ok (by omega) (by omega)) ?_
  refine ok_bindP (ok_r_bits _ ) (fun r9 hc_3 => ?_)
  have hl_r9 : 0 ≤ r9.toInt := hc_3.1
  have hu_r9 : r9.toInt ≤ 6 := hc_3.2
  refine ok_let (fun s10 hs10 => ?_)
  have hI_s10 : InvR s10 := by rw [← hs10]; exact hI_s6.sfF (k := 40) rfl rfl
  have hF_s10 : FrR [140] s0 s10 := by rw [← hs10]; exact hF_s6.sf (k := 40) (by decide)
  exact ok_some ⟨hI_s10, hF_s10⟩
theorem ok_r_looksOver (s : RS) (x1 : Int32) (hI_s : InvR s) (h_x1l : 0 ≤ x1.toInt) (h_x1u : x1.toInt ≤ 4) : Ok (r_looksOver s x1) (Q_r_looksOver s) := ok_r_looksOverB s s x1 hI_s FrR.rfl h_x1l h_x1u
abbrev Q_r_needsOf (s0 : RS) (y : Int32 × RS) : Prop := InvR y.2 ∧ FrR [42, 140, 141] s0 y.2 ∧ 0 ≤ y.1.toInt ∧ y.1.toInt ≤ 100
set_option maxHeartbeats 1000000 in
theorem ok_r_needsOfB (s0 : RS) (hB : Big s0)  (s : RS) (x1 : Int32) (x2 : Int32) (x3 : Int32) (hI_s : InvR s) (hF_s : FrR [42, 140, 141] s0 s) (h_x1l : 0 ≤ x1.toInt) (h_x1u : x1.toInt ≤ 5) (h_x2l : 0 ≤ x2.toInt) (h_x2u : x2.toInt ≤ 4) (h_x3l : 0 ≤ x3.toInt) (h_x3u : x3.toInt ≤ 5)  : Ok (r_needsOf  s x1 x2 x3) (Q_r_needsOf s0) := by
  unfold r_needsOf
  refine ok_bindP (ok_r_looks _ _ hI_s (by omega) (by omega)) (fun s1 hc_1 => ?_)
  have hI_s1 : InvR s1 := hc_1.1
  have hFc_s1 : FrR [140] s s1 := hc_1.2
  have hF_s1 : FrR [42, 140, 141] s0 s1 := hF_s.trans hFc_s1 (by decide)
  refine ok_bindP (ok_r_looksOver _ _ hI_s1 (by omega) (by omega)) (fun s2 hc_2 => ?_)
  have hI_s2 : InvR s2 := hc_2.1
  have hFc_s2 : FrR [140] s1 s2 := hc_2.2
  have hF_s2 : FrR [42, 140, 141] s0 s2 := hF_s1.trans hFc_s2 (by decide)
  refine ok_bindI (ok_r_oddsAt _ _ _ hI_s2 (by omega) (by omega) (by omega) (by omega)) (fun r4 s3 hc_3 => ?_)
  have hI_s3 : InvR s3 := hc_3.1
  have hFc_s3 : FrR [] s2 s3 := hc_3.2.1
  have hF_s3 : FrR [42, 140, 141] s0 s3 := hF_s2.trans hFc_s3 (by decide)
  refine ok_let (fun s5 hs5 => ?_)
  have hI_s5 : InvR s5 := by rw [← hs5]; exact hI_s3.sfF (k := 40) rfl rfl
  have hF_s5 : FrR [42, 140, 141] s0 s5 := by rw [← hs5]; exact hF_s3.sf (k := 40) (by decide)
  refine ok_bindI (ok_r_lawTells _ _ _ hI_s5 (hB.fr hF_s5 (by decide)) (by decide) (by decide)) (fun r8 s7 hc_4 => ?_)
  have hI_s7 : InvR s7 := hc_4.1
  have hFc_s7 : FrR [42, 141] s5 s7 := hc_4.2.1
  have hF_s7 : FrR [42, 140, 141] s0 s7 := hF_s5.trans hFc_s7 (by decide)
  refine ok_bindP (ok_r_within _ _ _ (by decide) (by decide) (by decide) (by decide)) (fun r9 hc_5 => ?_)
  have hl_r9 : 0 ≤ r9.toInt := hc_5.1
  have hu_r9 : r9.toInt ≤ 100 := hc_5.2
  exact ok_some ⟨hI_s7, hF_s7, by show 0 ≤ (r9).toInt; omega, by show (r9).toInt ≤ 100; omega⟩
theorem ok_r_needsOf (s : RS) (x1 : Int32) (x2 : Int32) (x3 : Int32) (hI_s : InvR s) (hB : Big s) (h_x1l : 0 ≤ x1.toInt) (h_x1u : x1.toInt ≤ 5) (h_x2l : 0 ≤ x2.toInt) (h_x2u : x2.toInt ≤ 4) (h_x3l : 0 ≤ x3.toInt) (h_x3u : x3.toInt ≤ 5) : Ok (r_needsOf s x1 x2 x3) (Q_r_needsOf s) := ok_r_needsOfB s hB s x1 x2 x3 hI_s FrR.rfl h_x1l h_x1u h_x2l h_x2u h_x3l h_x3u
abbrev Q_r_faresOf (s0 : RS) (y : Int32 × RS) : Prop := InvR y.2 ∧ FrR [42, 140, 141] s0 y.2 ∧ 0 ≤ y.1.toInt ∧ y.1.toInt ≤ 100
set_option maxHeartbeats 1000000 in
theorem ok_r_faresOfB (s0 : RS) (hB : Big s0)  (s : RS) (x1 : Int32) (hI_s : InvR s) (hF_s : FrR [42, 140, 141] s0 s) (h_x1l : 0 ≤ x1.toInt) (h_x1u : x1.toInt ≤ 5)  : Ok (r_faresOf  s x1) (Q_r_faresOf s0) := by
  unfold r_faresOf
  refine ok_bindP (ok_r_looks _ _ hI_s (by omega) (by omega)) (fun s1 hc_1 => ?_)
  have hI_s1 : InvR s1 := hc_1.1
  have hFc_s1 : FrR [140] s s1 := hc_1.2
  have hF_s1 : FrR [42, 140, 141] s0 s1 := hF_s.trans hFc_s1 (by decide)
  refine ok_bindI (ok_r_lawTells _ _ _ hI_s1 (hB.fr hF_s1 (by decide)) (by decide) (by decide)) (fun r3 s2 hc_2 => ?_)
  have hI_s2 : InvR s2 := hc_2.1
  have hFc_s2 : FrR [42, 141] s1 s2 := hc_2.2.1
  have hF_s2 : FrR [42, 140, 141] s0 s2 := hF_s1.trans hFc_s2 (by decide)
  refine ok_bindP (ok_r_within _ _ _ (by decide) (by decide) (by decide) (by decide)) (fun r4 hc_3 => ?_)
  have hl_r4 : 0 ≤ r4.toInt := hc_3.1
  have hu_r4 : r4.toInt ≤ 100 := hc_3.2
  exact ok_some ⟨hI_s2, hF_s2, by show 0 ≤ (r4).toInt; omega, by show (r4).toInt ≤ 100; omega⟩
theorem ok_r_faresOf (s : RS) (x1 : Int32) (hI_s : InvR s) (hB : Big s) (h_x1l : 0 ≤ x1.toInt) (h_x1u : x1.toInt ≤ 5) : Ok (r_faresOf s x1) (Q_r_faresOf s) := ok_r_faresOfB s hB s x1 hI_s FrR.rfl h_x1l h_x1u
abbrev Q_r_doesDare (s0 : RS) (y : Int32 × RS) : Prop := InvR y.2 ∧ FrR [42, 140, 141] s0 y.2 ∧ 0 ≤ y.1.toInt ∧ y.1.toInt ≤ 1
set_option maxHeartbeats 1000000 in
theorem ok_r_doesDareB (s0 : RS) (hB : Big s0)  (s : RS) (x1 : Int32) (hI_s : InvR s) (hF_s : FrR [42, 140, 141] s0 s) (h_x1l : 0 ≤ x1.toInt) (h_x1u : x1.toInt ≤ 5)  : Ok (r_doesDare  s x1) (Q_r_doesDare s0) := by
  unfold r_doesDare
  refine ok_bindP (ok_r_looks _ _ hI_s (by omega) (by omega)) (fun s1 hc_1 => ?_)
  have hI_s1 : InvR s1 := hc_1.1
  have hFc_s1 : FrR [140] s s1 := hc_1.2
  have hF_s1 : FrR [42, 140, 141] s0 s1 := hF_s.trans hFc_s1 (by decide)
  refine ok_bindI (ok_r_lawTells _ _ _ hI_s1 (hB.fr hF_s1 (by decide)) (by decide) (by decide)) (fun r3 s2 hc_2 => ?_)
  have hI_s2 : InvR s2 := hc_2.1
  have hFc_s2 : FrR [42, 141] s1 s2 := hc_2.2.1
  have hF_s2 : FrR [42, 140, 141] s0 s2 := hF_s1.trans hFc_s2 (by decide)
  refine ok_ite (fun c_3 => ?_) (fun c_3 => ?_)
  · have c_3 := tn_le (a := (r3).toInt) (b := 0) rfl (by decide) c_3
    exact ok_some ⟨hI_s2, hF_s2, by show 0 ≤ (0 : Int32).toInt; decide, by show (0 : Int32).toInt ≤ 1; decide⟩
  · have c_3 := tn_nle (a := (r3).toInt) (b := 0) rfl (by decide) c_3
    exact ok_some ⟨hI_s2, hF_s2, by show 0 ≤ (1 : Int32).toInt; decide, by show (1 : Int32).toInt ≤ 1; decide⟩
theorem ok_r_doesDare (s : RS) (x1 : Int32) (hI_s : InvR s) (hB : Big s) (h_x1l : 0 ≤ x1.toInt) (h_x1u : x1.toInt ≤ 5) : Ok (r_doesDare s x1) (Q_r_doesDare s) := ok_r_doesDareB s hB s x1 hI_s FrR.rfl h_x1l h_x1u
abbrev Q_r_shiftsOf (s0 : RS) (y : Int32 × RS) : Prop := InvR y.2 ∧ FrR [42, 140, 141] s0 y.2 ∧ 0 ≤ y.1.toInt ∧ y.1.toInt ≤ 100
set_option maxHeartbeats 1000000 in
theorem ok_r_shiftsOfB (s0 : RS) (hB : Big s0)  (s : RS) (x1 : Int32) (hI_s : InvR s) (hF_s : FrR [42, 140, 141] s0 s) (h_x1l : 0 ≤ x1.toInt) (h_x1u : x1.toInt ≤ 4)  : Ok (r_shiftsOf  s x1) (Q_r_shiftsOf s0) := by
  unfold r_shiftsOf
  refine ok_bindP (ok_r_looks _ _ hI_s (by decide) (by decide)) (fun s1 hc_1 => ?_)
  have hI_s1 : InvR s1 := hc_1.1
  have hFc_s1 : FrR [140] s s1 := hc_1.2
  have hF_s1 : FrR [42, 140, 141] s0 s1 := hF_s.trans hFc_s1 (by decide)
  refine ok_bindP (ok_r_looksOver _ _ hI_s1 (by omega) (by omega)) (fun s2 hc_2 => ?_)
  have hI_s2 : InvR s2 := hc_2.1
  have hFc_s2 : FrR [140] s1 s2 := hc_2.2
  have hF_s2 : FrR [42, 140, 141] s0 s2 := hF_s1.trans hFc_s2 (by decide)
  refine ok_bindI (ok_r_lawTells _ _ _ hI_s2 (hB.fr hF_s2 (by decide)) (by decide) (by decide)) (fun r4 s3 hc_3 => ?_)
  have hI_s3 : InvR s3 := hc_3.1
  have hFc_s3 : FrR [42, 141] s2 s3 := hc_3.2.1
  have hF_s3 : FrR [42, 140, 141] s0 s3 := hF_s2.trans hFc_s3 (by decide)
  refine ok_bindP (ok_r_within _ _ _ (by decide) (by decide) (by decide) (by decide)) (fun r5 hc_4 => ?_)
  have hl_r5 : 0 ≤ r5.toInt := hc_4.1
  have hu_r5 : r5.toInt ≤ 100 := hc_4.2
  exact ok_some ⟨hI_s3, hF_s3, by show 0 ≤ (r5).toInt; omega, by show (r5).toInt ≤ 100; omega⟩
theorem ok_r_shiftsOf (s : RS) (x1 : Int32) (hI_s : InvR s) (hB : Big s) (h_x1l : 0 ≤ x1.toInt) (h_x1u : x1.toInt ≤ 4) : Ok (r_shiftsOf s x1) (Q_r_shiftsOf s) := ok_r_shiftsOfB s hB s x1 hI_s FrR.rfl h_x1l h_x1u
abbrev Q_r_doesBear (s0 : RS) (y : Int32 × RS) : Prop := InvR y.2 ∧ FrR [42, 140, 141] s0 y.2 ∧ 0 ≤ y.1.toInt ∧ y.1.toInt ≤ 1
set_option maxHeartbeats 1000000 in
theorem ok_r_doesBearB (s0 : RS) (hB : Big s0)  (s : RS) (x1 : Int32) (x2 : Int32) (x3 : Int32) (hI_s : InvR s) (hF_s : FrR [42, 140, 141] s0 s) (h_x1l : 0 ≤ x1.toInt) (h_x1u : x1.toInt ≤ 5) (h_x2l : 0 ≤ x2.toInt) (h_x2u : x2.toInt ≤ 4) (h_x3l : 0 ≤ x3.toInt) (h_x3u : x3.toInt ≤ 5)  : Ok (r_doesBear  s x1 x2 x3) (Q_r_doesBear s0) := by
  unfold r_doesBear
  refine ok_bindI (ok_r_oddsAt _ _ _ hI_s (by omega) (by omega) (by omega) (by omega)) (fun r2 s1 hc_1 => ?_)
  have hI_s1 : InvR s1 := hc_1.1
  have hFc_s1 : FrR [] s s1 := hc_1.2.1
  have hF_s1 : FrR [42, 140, 141] s0 s1 := hF_s.trans hFc_s1 (by decide)
  refine ok_bindI (ok_r_needsOf _ _ _ _ hI_s1 (hB.fr hF_s1 (by decide)) (by omega) (by omega) (by omega) (by omega) (by omega) (by omega)) (fun r4 s3 hc_2 => ?_)
  have hI_s3 : InvR s3 := hc_2.1
  have hFc_s3 : FrR [42, 140, 141] s1 s3 := hc_2.2.1
  have hF_s3 : FrR [42, 140, 141] s0 s3 := hF_s1.trans hFc_s3 (by decide)
  have hl_r4 : 0 ≤ r4.toInt := hc_2.2.2.1
  have hu_r4 : r4.toInt ≤ 100 := hc_2.2.2.2
  refine ok_ite (fun c_3 => ?_) (fun c_3 => ?_)
  · have c_3 := tn_lt (a := (r2).toInt) (b := (r4).toInt) rfl rfl c_3
    exact ok_some ⟨hI_s3, hF_s3, by show 0 ≤ (0 : Int32).toInt; decide, by show (0 : Int32).toInt ≤ 1; decide⟩
  · have c_3 := tn_nlt (a := (r2).toInt) (b := (r4).toInt) rfl rfl c_3
    exact ok_some ⟨hI_s3, hF_s3, by show 0 ≤ (1 : Int32).toInt; decide, by show (1 : Int32).toInt ≤ 1; decide⟩
theorem ok_r_doesBear (s : RS) (x1 : Int32) (x2 : Int32) (x3 : Int32) (hI_s : InvR s) (hB : Big s) (h_x1l : 0 ≤ x1.toInt) (h_x1u : x1.toInt ≤ 5) (h_x2l : 0 ≤ x2.toInt) (h_x2u : x2.toInt ≤ 4) (h_x3l : 0 ≤ x3.toInt) (h_x3u : x3.toInt ≤ 5) : Ok (r_doesBear s x1 x2 x3) (Q_r_doesBear s) := ok_r_doesBearB s hB s x1 x2 x3 hI_s FrR.rfl h_x1l h_x1u h_x2l h_x2u h_x3l h_x3u
abbrev Q_r_bearsBy (s0 : RS) (y : Int32 × RS) : Prop := InvR y.2 ∧ FrR [42, 140, 141] s0 y.2 ∧ 0 ≤ y.1.toInt ∧ y.1.toInt ≤ 5
set_option maxHeartbeats 1000000 in
theorem ok_r_bearsBy_2 (s0 : RS) (hB : Big s0) (k2 : RS → Int32 → Int32 → Int32 → Option (Int32 × RS)) (M2 : Nat) (hk2 : ∀ (s : RS) (x1 : Int32) (x2 : Int32) (x3 : Int32), InvR s → FrR [42, 140, 141] s0 s → 0 ≤ x1.toInt → x1.toInt ≤ 5 → 0 ≤ x2.toInt → x2.toInt ≤ 194400 → 0 ≤ x3.toInt → x3.toInt ≤ 5 → (5 - x3.toInt).toNat < M2 → Ok (k2 s x1 x2 x3) (Q_r_bearsBy s0)) (s : RS) (x1 : Int32) (x2 : Int32) (x3 : Int32) (hI_s : InvR s) (hF_s : FrR [42, 140, 141] s0 s) (h_x1l : 0 ≤ x1.toInt) (h_x1u : x1.toInt ≤ 5) (h_x2l : 0 ≤ x2.toInt) (h_x2u : x2.toInt ≤ 194400) (h_x3l : 0 ≤ x3.toInt) (h_x3u : x3.toInt ≤ 5) (hM2 : (5 - x3.toInt).toNat ≤ M2) : Ok (r_bearsBy_2 k2 s x1 x2 x3) (Q_r_bearsBy s0) := by
  unfold r_bearsBy_2
  have a_1 : 0 ≤ (s.v 18).toInt ∧ (s.v 18).toInt ≤ 1 := hI_s.1 18
  refine ok_grd (vpb_ok (by omega) (by omega)) ?_
  have a_2 : ((s.f 20 (Int32.toNatClampNeg (s.v 18)))).toInt = wv s0 := wv_fr hF_s (by decide) (by decide)
  have a_3 : 0 ≤ ((s.f 20 (Int32.toNatClampNeg (s.v 18)))).toInt ∧ ((s.f 20 (Int32.toNatClampNeg (s.v 18)))).toInt ≤ 5 := hI_s.2 20 _
  refine ok_ite (fun c_4 => ?_) (fun c_4 => ?_)
  · have c_4 := tn_le (a := ((s.f 20 (Int32.toNatClampNeg (s.v 18)))).toInt) (b := (x3).toInt) rfl rfl c_4
    exact ok_some ⟨hI_s, hF_s, by show 0 ≤ (x3).toInt; omega, by show (x3).toInt ≤ 5; omega⟩
  · have c_4 := tn_nle (a := ((s.f 20 (Int32.toNatClampNeg (s.v 18)))).toInt) (b := (x3).toInt) rfl rfl c_4
    refine ok_bindI (ok_r_thingAt _ _ _ hI_s (hB.fr hF_s (by decide)) (by omega) (by omega) (by omega) (by omega)) (fun r4 s3 hc_5 => ?_)
    have hI_s3 : InvR s3 := hc_5.1
    have hFc_s3 : FrR [] s s3 := hc_5.2.1
    have hF_s3 : FrR [42, 140, 141] s0 s3 := hF_s.trans hFc_s3 (by decide)
    have hl_r4 : 0 ≤ r4.toInt := hc_5.2.2.1
    have hu_r4 : r4.toInt ≤ 5 := hc_5.2.2.2
    refine ok_bindI (ok_r_doesBear _ _ _ _ hI_s3 (hB.fr hF_s3 (by decide)) (by omega) (by omega) (by omega) (by omega) (by omega) (by omega)) (fun r6 s5 hc_6 => ?_)
    have hI_s5 : InvR s5 := hc_6.1
    have hFc_s5 : FrR [42, 140, 141] s3 s5 := hc_6.2.1
    have hF_s5 : FrR [42, 140, 141] s0 s5 := hF_s3.trans hFc_s5 (by decide)
    have hl_r6 : 0 ≤ r6.toInt := hc_6.2.2.1
    have hu_r6 : r6.toInt ≤ 1 := hc_6.2.2.2
    refine ok_ite (fun c_7 => ?_) (fun c_7 => ?_)
    · have c_7 := tn_eq (a := (r6).toInt) (b := 0) rfl (by decide) c_7
      exact ok_some ⟨hI_s5, hF_s5, by show 0 ≤ (x3).toInt; omega, by show (x3).toInt ≤ 5; omega⟩
    · have c_7 := tn_ne (a := (r6).toInt) (b := 0) rfl (by decide) c_7
      have a_8 : ((x3 + 1)).toInt = (x3).toInt + 1 := tn_add rfl (by decide) (by omega) (by omega)
      exact hk2 _ _ _ _ hI_s5 hF_s5 (by omega) (by omega) (by omega) (by omega) (by omega) (by omega) (by omega)
theorem okL_r_bearsBy_2 (s0 : RS) (hB : Big s0)  : ∀ (n : Nat) (s : RS) (x1 : Int32) (x2 : Int32) (x3 : Int32), (5 - x3.toInt).toNat < n → InvR s → FrR [42, 140, 141] s0 s → 0 ≤ x1.toInt → x1.toInt ≤ 5 → 0 ≤ x2.toInt → x2.toInt ≤ 194400 → 0 ≤ x3.toInt → x3.toInt ≤ 5 → Ok (r_bearsBy_2L  n s x1 x2 x3) (Q_r_bearsBy s0) := by
  intro n
  induction n with
  | zero => intro s x1 x2 x3 hn; omega
  | succ n ih =>
    intro s x1 x2 x3 hn hI_s hF_s h_x1l h_x1u h_x2l h_x2u h_x3l h_x3u 
    exact ok_r_bearsBy_2 s0 hB (r_bearsBy_2L  n) ((5 - x3.toInt).toNat) (fun zs zx1 zx2 zx3 g0 g1 g2 g3 g4 g5 g6 g7  hm => ih zs zx1 zx2 zx3 (by omega) g0 g1 g2 g3 g4 g5 g6 g7 ) s x1 x2 x3 hI_s hF_s h_x1l h_x1u h_x2l h_x2u h_x3l h_x3u (Nat.le_refl _)
set_option maxHeartbeats 1000000 in
theorem ok_r_bearsByB (s0 : RS) (hB : Big s0)  (s : RS) (x1 : Int32) (x2 : Int32) (hI_s : InvR s) (hF_s : FrR [42, 140, 141] s0 s) (h_x1l : 0 ≤ x1.toInt) (h_x1u : x1.toInt ≤ 5) (h_x2l : 0 ≤ x2.toInt) (h_x2u : x2.toInt ≤ 194400)  : Ok (r_bearsBy  s x1 x2) (Q_r_bearsBy s0) := by
  unfold r_bearsBy
  have l_0 : (0 : Int32).toInt = 0 := by decide
  exact okL_r_bearsBy_2 s0 hB  fu _ _ _ _ (by unfold fu; omega) hI_s hF_s (by omega) (by omega) (by omega) (by omega) (by decide) (by decide) 
theorem ok_r_bearsBy (s : RS) (x1 : Int32) (x2 : Int32) (hI_s : InvR s) (hB : Big s) (h_x1l : 0 ≤ x1.toInt) (h_x1u : x1.toInt ≤ 5) (h_x2l : 0 ≤ x2.toInt) (h_x2u : x2.toInt ≤ 194400) : Ok (r_bearsBy s x1 x2) (Q_r_bearsBy s) := ok_r_bearsByB s hB s x1 x2 hI_s FrR.rfl h_x1l h_x1u h_x2l h_x2u
