/-! ===== the class takes over what it has read ===== -/
theorem law_copy {s s' : KS} (h : kX1_copyFrom s = some s') : FrK [5, 109, 110, 111, 112] s s' ∧ (∀ i, i < 404 → s'.f 9 i = s.f 22 i) ∧ (∀ i, i < 52 → s'.f 10 i = s.f 23 i) ∧ (∀ i, i < 4 → s'.f 11 i = s.f 24 i ∧ s'.f 12 i = s.f 25 i) := by
  unfold kX1_copyFrom at h
  replace h := letS_inv h
  obtain ⟨b1, f1, h⟩ := h
  replace h := letS_inv h
  obtain ⟨b3, f3, h⟩ := h
  replace h := letS_inv h
  obtain ⟨b5, f5, h⟩ := h
  replace h := letS_inv h
  obtain ⟨b7, f7, h⟩ := h
  replace h := letS_inv h
  obtain ⟨b9, f9, h⟩ := h
  have e9 : s' = b9 := by cases h; rfl
  have K1 : FrK [5, 109, 110, 111, 112] s b1 := by rw [← f1]; exact FrK.rfl.sa (by decide)
  have K3 : FrK [5, 109, 110, 111, 112] s b3 := by rw [← f3]; exact K1.sa (by decide)
  have K5 : FrK [5, 109, 110, 111, 112] s b5 := by rw [← f5]; exact K3.sa (by decide)
  have K7 : FrK [5, 109, 110, 111, 112] s b7 := by rw [← f7]; exact K5.sa (by decide)
  have K9 : FrK [5, 109, 110, 111, 112] s b9 := by rw [← f9]; exact K7.sv (by decide)
  have a9 : b9.f 9 = va_cpy (s.f 22) (s.f 9) 0 0 404 := by
    rw [← f9, ← f7, ← f5, ← f3]
    show b1.f 9 = _
    rw [← f1]
    exact ksa_at
  have a10 : b9.f 10 = va_cpy (b1.f 23) (b1.f 10) 0 0 52 := by
    rw [← f9, ← f7, ← f5]
    show b3.f 10 = _
    rw [← f3]
    exact ksa_at
  have a11 : b9.f 11 = va_cpy (b3.f 24) (b3.f 11) 0 0 4 := by
    rw [← f9, ← f7]
    show b5.f 11 = _
    rw [← f5]
    exact ksa_at
  have a12 : b9.f 12 = va_cpy (b5.f 25) (b5.f 12) 0 0 4 := by
    rw [← f9]
    show b7.f 12 = _
    rw [← f7]
    exact ksa_at
  rw [e9]
  refine ⟨K9, fun i hi => ?_, fun i hi => ?_, fun i hi => ⟨?_, ?_⟩⟩
  · rw [a9, cpy_lt hi]
  · rw [a10, cpy_lt hi, (K1.2 23 (by decide)).1]
  · rw [a11, cpy_lt hi, (K3.2 24 (by decide)).1]
  · rw [a12, cpy_lt hi, (K5.2 25 (by decide)).1]
def CPY (s s' : KS) : Prop := (s'.v 1 = s.v 8 ∧ s'.v 2 = s.v 9 ∧ s'.v 3 = s.v 10 ∧ s'.v 4 = s.v 11) ∧ (∀ j, j < 30 → s'.f 3 j = s.f 16 j) ∧ (∀ w, w < 5 → s'.f 4 w = s.f 17 w ∧ s'.f 5 w = s.f 18 w) ∧ (∀ p, p < 6 → s'.f 6 p = s.f 19 p ∧ s'.f 7 p = s.f 20 p) ∧ (∀ i, i < 404 → s'.f 9 i = s.f 22 i) ∧ (∀ i, i < 52 → s'.f 10 i = s.f 23 i) ∧ (∀ i, i < 4 → s'.f 11 i = s.f 24 i ∧ s'.f 12 i = s.f 25 i)
theorem copy_all {s s' : KS} (h : kX5_copyFrom s = some s') : CPY s s' := by
  unfold kX5_copyFrom at h
  replace h := letS_inv h
  obtain ⟨a1, d1, h⟩ := h
  replace h := letS_inv h
  obtain ⟨a3, d3, h⟩ := h
  replace h := letS_inv h
  obtain ⟨a5, d5, h⟩ := h
  replace h := letS_inv h
  obtain ⟨a7, d7, h⟩ := h
  replace h := letS_inv h
  obtain ⟨a9, d9, h⟩ := h
  replace h := bindP_inv h
  obtain ⟨a11, h11, h⟩ := h
  replace h := letS_inv h
  obtain ⟨a12, d12, h⟩ := h
  replace h := letS_inv h
  obtain ⟨a14, d14, h⟩ := h
  replace h := letS_inv h
  obtain ⟨a16, d16, h⟩ := h
  replace h := letS_inv h
  obtain ⟨a18, d18, h⟩ := h
  have e18 : s' = a18 := by cases h; rfl
  have K1 : FrK [103, 104, 105, 106, 107] s a1 := by rw [← d1]; exact FrK.rfl.sa (by decide)
  have K3 : FrK [103, 104, 105, 106, 107] s a3 := by rw [← d3]; exact K1.sa (by decide)
  have K5 : FrK [103, 104, 105, 106, 107] s a5 := by rw [← d5]; exact K3.sa (by decide)
  have K7 : FrK [103, 104, 105, 106, 107] s a7 := by rw [← d7]; exact K5.sa (by decide)
  have K9 : FrK [103, 104, 105, 106, 107] s a9 := by rw [← d9]; exact K7.sa (by decide)
  obtain ⟨L, l9, l10, l11⟩ := law_copy h11
  have f3 : a9.f 3 = va_cpy (s.f 16) (s.f 3) 0 0 30 := by
    rw [← d9, ← d7, ← d5, ← d3]
    show a1.f 3 = _
    rw [← d1]
    exact ksa_at
  have f4 : a9.f 4 = va_cpy (a1.f 17) (a1.f 4) 0 0 5 := by
    rw [← d9, ← d7, ← d5]
    show a3.f 4 = _
    rw [← d3]
    exact ksa_at
  have f5 : a9.f 5 = va_cpy (a3.f 18) (a3.f 5) 0 0 5 := by
    rw [← d9, ← d7]
    show a5.f 5 = _
    rw [← d5]
    exact ksa_at
  have f6 : a9.f 6 = va_cpy (a5.f 19) (a5.f 6) 0 0 6 := by
    rw [← d9]
    show a7.f 6 = _
    rw [← d7]
    exact ksa_at
  have f7 : a9.f 7 = va_cpy (a7.f 20) (a7.f 7) 0 0 6 := by
    rw [← d9]
    exact ksa_at
  have K12 : FrK [1, 2, 3, 4] a11 a12 := by rw [← d12]; exact FrK.rfl.sv (by decide)
  have K14 : FrK [1, 2, 3, 4] a11 a14 := by rw [← d14]; exact K12.sv (by decide)
  have K16 : FrK [1, 2, 3, 4] a11 a16 := by rw [← d16]; exact K14.sv (by decide)
  have K18 : FrK [1, 2, 3, 4] a11 a18 := by rw [← d18]; exact K16.sv (by decide)
  have v1 : a18.v 1 = a11.v 8 := by
    rw [← d18, ← d16, ← d14]
    show a12.v 1 = _
    rw [← d12]
    rfl
  have v2 : a18.v 2 = a12.v 9 := by
    rw [← d18, ← d16]
    show a14.v 2 = _
    rw [← d14]
    rfl
  have v3 : a18.v 3 = a14.v 10 := by
    rw [← d18]
    show a16.v 3 = _
    rw [← d16]
    rfl
  have v4 : a18.v 4 = a16.v 11 := by
    rw [← d18]
    rfl
  rw [e18]
  refine ⟨⟨?_, ?_, ?_, ?_⟩, fun j hj => ?_, fun w hw => ⟨?_, ?_⟩, fun p hp => ⟨?_, ?_⟩, fun i hi => ?_, fun i hi => ?_, fun i hi => ⟨?_, ?_⟩⟩
  · rw [v1, L.1 8 (by decide), K9.1 8 (by decide)]
  · rw [v2, K12.1 9 (by decide), L.1 9 (by decide), K9.1 9 (by decide)]
  · rw [v3, K14.1 10 (by decide), L.1 10 (by decide), K9.1 10 (by decide)]
  · rw [v4, K16.1 11 (by decide), L.1 11 (by decide), K9.1 11 (by decide)]
  · rw [(K18.2 3 (by decide)).1, (L.2 3 (by decide)).1, f3, cpy_lt hj]
  · rw [(K18.2 4 (by decide)).1, (L.2 4 (by decide)).1, f4, cpy_lt hw, (K1.2 17 (by decide)).1]
  · rw [(K18.2 5 (by decide)).1, (L.2 5 (by decide)).1, f5, cpy_lt hw, (K3.2 18 (by decide)).1]
  · rw [(K18.2 6 (by decide)).1, (L.2 6 (by decide)).1, f6, cpy_lt hp, (K5.2 19 (by decide)).1]
  · rw [(K18.2 7 (by decide)).1, (L.2 7 (by decide)).1, f7, cpy_lt hp, (K7.2 20 (by decide)).1]
  · rw [(K18.2 9 (by decide)).1, l9 i hi, (K9.2 22 (by decide)).1]
  · rw [(K18.2 10 (by decide)).1, l10 i hi, (K9.2 23 (by decide)).1]
  · rw [(K18.2 11 (by decide)).1, (l11 i hi).1, (K9.2 24 (by decide)).1]
  · rw [(K18.2 12 (by decide)).1, (l11 i hi).2, (K9.2 25 (by decide)).1]
theorem fill5 {x1 : Int32} {s' : Nat → Int32} : ∀ (n : Nat) (s : Nat → Int32) (x2 : Int32) (j : Nat), x2.toInt = (j : Int) → j ≤ 5 → kJ7_fill_53178_5_5L n s x1 x2 5 = some s' → (∀ i, j ≤ i → i < 5 → s' i = x1) ∧ (∀ i, (i < j ∨ 5 ≤ i) → s' i = s i) := by
  intro n
  induction n with
  | zero => intro s x2 j _ _ h; exact none_ne h
  | succ n ih =>
    intro s x2 j h2 hj h
    replace h : kJ7_fill_53178_5_5 (kJ7_fill_53178_5_5L n) s x1 x2 5 = some s' := h
    unfold kJ7_fill_53178_5_5 at h
    by_cases c : 5 ≤ x2
    · have c' := tn_le (a := 5) (by decide) rfl c
      rw [if_pos c] at h
      cases h
      exact ⟨fun i h1 h2 => by omega, fun i _ => rfl⟩
    · have c' := tn_nle (a := 5) (by decide) rfl c
      rw [if_neg c] at h
      replace h := guard_inv h
      obtain ⟨_, h⟩ := h
      replace h := letS_inv h
      obtain ⟨s3, d3, h⟩ := h
      rw [clamp_of_int h2] at d3
      have a2 : (x2 + 1).toInt = ((j + 1 : Nat) : Int) := by
        rw [tn_add h2 (by decide : (1 : Int32).toInt = 1) (by omega) (by omega)]
        omega
      obtain ⟨q1, q2⟩ := ih s3 (x2 + 1) (j + 1) a2 (by omega) h
      refine ⟨fun i h1 h2 => ?_, fun i hi => ?_⟩
      · by_cases e : i = j
        · rw [q2 i (by omega), ← d3, e]
          exact upd_same
        · exact q1 i (by omega) h2
      · rw [q2 i (by omega), ← d3]
        exact upd_ne (by omega)
theorem fill6 {x1 : Int32} {s' : Nat → Int32} : ∀ (n : Nat) (s : Nat → Int32) (x2 : Int32) (j : Nat), x2.toInt = (j : Int) → j ≤ 6 → kJ7_fill_53178_6_5L n s x1 x2 6 = some s' → (∀ i, j ≤ i → i < 6 → s' i = x1) ∧ (∀ i, (i < j ∨ 6 ≤ i) → s' i = s i) := by
  intro n
  induction n with
  | zero => intro s x2 j _ _ h; exact none_ne h
  | succ n ih =>
    intro s x2 j h2 hj h
    replace h : kJ7_fill_53178_6_5 (kJ7_fill_53178_6_5L n) s x1 x2 6 = some s' := h
    unfold kJ7_fill_53178_6_5 at h
    by_cases c : 6 ≤ x2
    · have c' := tn_le (a := 6) (by decide) rfl c
      rw [if_pos c] at h
      cases h
      exact ⟨fun i h1 h2 => by omega, fun i _ => rfl⟩
    · have c' := tn_nle (a := 6) (by decide) rfl c
      rw [if_neg c] at h
      replace h := guard_inv h
      obtain ⟨_, h⟩ := h
      replace h := letS_inv h
      obtain ⟨s3, d3, h⟩ := h
      rw [clamp_of_int h2] at d3
      have a2 : (x2 + 1).toInt = ((j + 1 : Nat) : Int) := by
        rw [tn_add h2 (by decide : (1 : Int32).toInt = 1) (by omega) (by omega)]
        omega
      obtain ⟨q1, q2⟩ := ih s3 (x2 + 1) (j + 1) a2 (by omega) h
      refine ⟨fun i h1 h2 => ?_, fun i hi => ?_⟩
      · by_cases e : i = j
        · rw [q2 i (by omega), ← d3, e]
          exact upd_same
        · exact q1 i (by omega) h2
      · rw [q2 i (by omega), ← d3]
        exact upd_ne (by omega)
/-- a standing as it begins -/
def OVR (d : SD) : Prop := (∀ w, w < 5 → d.f 0 w = -1 ∧ d.f 1 w = 0 ∧ d.f 2 w = 0) ∧ (∀ p, p < 6 → d.f 3 p = 0 ∧ d.f 4 p = 0) ∧ d.v 5 = 0 ∧ d.v 6 = 0
theorem over_eq {s s' : SD} (h : kX6_startOver s = some s') : OVR s' := by
  unfold kX6_startOver at h
  replace h := bindP_inv h
  obtain ⟨s1, h1, h⟩ := h
  replace h := letS_inv h
  obtain ⟨s2, e2, h⟩ := h
  replace h := bindP_inv h
  obtain ⟨s4, h4, h⟩ := h
  replace h := letS_inv h
  obtain ⟨s5, e5, h⟩ := h
  replace h := bindP_inv h
  obtain ⟨s7, h7, h⟩ := h
  replace h := letS_inv h
  obtain ⟨s8, e8, h⟩ := h
  replace h := bindP_inv h
  obtain ⟨s10, h10, h⟩ := h
  replace h := letS_inv h
  obtain ⟨s11, e11, h⟩ := h
  replace h := bindP_inv h
  obtain ⟨s13, h13, h⟩ := h
  replace h := letS_inv h
  obtain ⟨s14, e14, h⟩ := h
  replace h := letS_inv h
  obtain ⟨s16, e16, h⟩ := h
  replace h := letS_inv h
  obtain ⟨s18, e18, h⟩ := h
  have es : s' = s18 := by cases h; rfl
  unfold kJ7_fill_53178_5 at h1 h4 h7
  unfold kJ7_fill_53178_6 at h10 h13
  obtain ⟨q1, _⟩ := fill5 fu _ 0 0 (by decide) (by omega) h1
  obtain ⟨q4, _⟩ := fill5 fu _ 0 0 (by decide) (by omega) h4
  obtain ⟨q7, _⟩ := fill5 fu _ 0 0 (by decide) (by omega) h7
  obtain ⟨q10, _⟩ := fill6 fu _ 0 0 (by decide) (by omega) h10
  obtain ⟨q13, _⟩ := fill6 fu _ 0 0 (by decide) (by omega) h13
  have f0 : s18.f 0 = s1 := by
    rw [← e18, ← e16, ← e14, ← e11, ← e8, ← e5]
    show s2.f 0 = _
    rw [← e2]
    exact sda_at
  have f1 : s18.f 1 = s4 := by
    rw [← e18, ← e16, ← e14, ← e11, ← e8]
    show s5.f 1 = _
    rw [← e5]
    exact sda_at
  have f2 : s18.f 2 = s7 := by
    rw [← e18, ← e16, ← e14, ← e11]
    show s8.f 2 = _
    rw [← e8]
    exact sda_at
  have f3 : s18.f 3 = s10 := by
    rw [← e18, ← e16, ← e14]
    show s11.f 3 = _
    rw [← e11]
    exact sda_at
  have f4 : s18.f 4 = s13 := by
    rw [← e18, ← e16]
    show s14.f 4 = _
    rw [← e14]
    exact sda_at
  rw [es]
  refine ⟨fun w hw => ?_, fun p hp => ?_, ?_, ?_⟩
  · rw [f0, f1, f2, q1 w (by omega) hw, q4 w (by omega) hw, q7 w (by omega) hw]
    exact ⟨rfl, rfl, rfl⟩
  · rw [f3, f4, q10 p (by omega) hp, q13 p (by omega) hp]
    exact ⟨rfl, rfl⟩
  · rw [← e18]
    show s16.v 5 = 0
    rw [← e16]
    rfl
  · rw [← e18]
    rfl
theorem OVR.sr {d : SD} {f : Nat → Int32} (h : OVR d) (hf : ∀ i, i < 29 → f i = beg i) : SR d f := by
  obtain ⟨a, b, c, e⟩ := h
  have g : ∀ i, i < 29 → ¬ (5 ≤ i ∧ i < 10) → f i = 0 := fun i hi n => by
    rw [hf i hi]
    unfold beg
    rw [if_neg n]
  refine ⟨fun w hw => ?_, fun p hp => ?_, ?_, ?_⟩
  · obtain ⟨a1, a2, a3⟩ := a w hw
    have e5 : f (5 + w) = -2 := by
      rw [hf (5 + w) (by omega)]
      unfold beg
      rw [if_pos (by omega)]
    rw [a1, a2, a3, e5, g w (by omega) (by omega), g (10 + w) (by omega) (by omega)]
    exact ⟨Or.inl ⟨rfl, rfl⟩, rfl, by decide, rfl⟩
  · obtain ⟨b1, b2⟩ := b p hp
    rw [b1, b2, g (15 + p) (by omega) (by omega), g (21 + p) (by omega) (by omega)]
    exact ⟨rfl, rfl⟩
  · rw [c, g 27 (by omega) (by omega)]
  · rw [e, g 28 (by omega) (by omega)]
theorem OVR.fo {d : SD} {k : KS} (h : OVR d) (hK : InvK k) : FO k d := by
  have bw : 0 ≤ (k.v 1).toInt ∧ (k.v 1).toInt ≤ 5 := hK.1 1
  intro w v hw hv
  rw [(h.1 w (by omega)).1] at hv
  have m1 : (-1 : Int32).toInt = -1 := by decide
  rw [m1] at hv
  omega
theorem forgetL {g' : GS} : ∀ (n : Nat) (g : GS) (x : Int32) (j : Nat), x.toInt = (j : Int) → j ≤ 3 → kX3_forgetAll_7L n g x = some g' → g'.v = g.v ∧ (∀ i, j ≤ i → i < 3 → g'.f 4 i = 0) ∧ (∀ i, i < j → g'.f 4 i = g.f 4 i) := by
  intro n
  induction n with
  | zero => intro g x j _ _ h; exact none_ne h
  | succ n ih =>
    intro g x j ex hj h
    replace h : kX3_forgetAll_7 (kX3_forgetAll_7L n) g x = some g' := h
    unfold kX3_forgetAll_7 at h
    by_cases c : 3 ≤ x
    · have c' := tn_le (a := 3) (by decide) rfl c
      rw [if_pos c] at h
      cases h
      exact ⟨rfl, fun i h1 h2 => by omega, fun i _ => rfl⟩
    · have c' := tn_nle (a := 3) (by decide) rfl c
      rw [if_neg c] at h
      replace h := guard_inv h
      obtain ⟨_, h⟩ := h
      replace h := letS_inv h
      obtain ⟨t, et, h⟩ := h
      rw [clamp_of_int ex] at et
      have ax : (x + 1).toInt = ((j + 1 : Nat) : Int) := by
        rw [tn_add ex (by decide : (1 : Int32).toInt = 1) (by omega) (by omega)]
        omega
      have gt : ∀ i, t.f 4 i = if i = j then vp_nar .boolean 0 else g.f 4 i := fun i => by rw [← et]; exact gsf_at
      have vt : t.v = g.v := by rw [← et]; rfl
      obtain ⟨q1, q2, q3⟩ := ih t (x + 1) (j + 1) ax (by omega) h
      refine ⟨q1.trans vt, fun i h1 h2 => ?_, fun i hi => ?_⟩
      · by_cases e : i = j
        · rw [q3 i (by omega), gt i, if_pos e]
          exact nar0
        · exact q2 i (by omega) h2
      · rw [q3 i (by omega), gt i, if_neg (by omega)]
theorem forgot_eq {g g' : GS} (h : kX3_forgetAll g = some g') : g'.v 4 = 0 ∧ g'.v 3 = g.v 3 ∧ ∀ i, i < 3 → g'.f 4 i = 0 := by
  unfold kX3_forgetAll at h
  replace h := letS_inv h
  obtain ⟨t, et, h⟩ := h
  obtain ⟨q1, q2, _⟩ := forgetL fu t 0 0 (by decide) (by omega) h
  refine ⟨?_, ?_, fun i hi => q2 i (by omega) hi⟩
  · rw [q1, ← et]; rfl
  · rw [q1, ← et]; rfl
theorem lks_cg {f g : Nat → Int32} {a b : Nat} : ∀ j, (∀ v, v < j → f (a + v) = g (b + v)) → lks f a j = lks g b j := by
  intro j
  induction j with
  | zero => intro _; rfl
  | succ j ih =>
    intro h
    show lks f a j ||| lkv (f (a + j)) (Int32.ofNat j) = lks g b j ||| lkv (g (b + j)) (Int32.ofNat j)
    rw [h j (by omega), ih (fun v hv => h v (by omega))]
