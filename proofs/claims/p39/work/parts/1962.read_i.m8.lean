section
/-! digits -/
noncomputable def DVb (n v : Int) : Prop := 0 ≤ v ∧ v ≤ 9999 ∧ (n ≤ 3 → v ≤ 999) ∧ (n ≤ 2 → v ≤ 99) ∧ (n ≤ 1 → v ≤ 9) ∧ (n ≤ 0 → v ≤ 0)
theorem dig64 {u : Int64} {c : Int32} (h0 : 0 ≤ u.toInt) (h : u.toInt ≤ 9999) (hc : IsDi c) : (((u * 10) + (Int32.toInt64 c)) - 48).toInt = u.toInt * 10 + c.toInt - 48 := by
  have ed : (Int32.toInt64 c).toInt = c.toInt := Int32.toInt_toInt64 c
  have e10 : (10 : Int64).toInt = 10 := by decide
  have e48 : (48 : Int64).toInt = 48 := by decide
  have c1 := hc.1
  have c2 := hc.2
  have em : (u * 10).toInt = u.toInt * 10 := by
    rw [Int64.toInt_mul, e10]
    exact Int.bmod_eq_of_le (by omega) (by omega)
  have ea : ((u * 10) + (Int32.toInt64 c)).toInt = u.toInt * 10 + c.toInt := by
    rw [Int64.toInt_add, em, ed]
    exact Int.bmod_eq_of_le (by omega) (by omega)
  rw [Int64.toInt_sub, ea, e48]
  exact Int.bmod_eq_of_le (by omega) (by omega)
theorem digits {z out : RS} {k7 : RS → Int32 → Option RS} {p : Int32} (hp0 : 0 ≤ p.toInt) {r : Int32} {s' : KS} : ∀ (n m : Nat) (s : KS) (x3 x4 : Int32), TX s z → 0 ≤ x3.toInt → (s.v 20).toInt = p.toInt + x3.toInt → (s.v 20).toInt ≤ (s.v 0).toInt → (x3.toInt ≤ 4 → (s.u 0).toInt = x4.toInt ∧ DVb x3.toInt x4.toInt) → kX9_splitDigits_5L n s p = some (r, s') → r_cut_208L k7 m z p x3 x4 = some out →
    ∃ (t : KS) (x v : Int32), kX9_splitDigits_78 t p = some (r, s') ∧ r_cut_261 k7 z p x v (if x ≤ 4 then 2 else 3) = some out ∧ FrK [20] s t ∧ x3.toInt ≤ x.toInt ∧ (t.v 20).toInt = p.toInt + x.toInt ∧ (t.v 20).toInt ≤ (s.v 0).toInt ∧ (x.toInt ≤ 4 → (t.u 0).toInt = v.toInt ∧ DVb x.toInt v.toInt) ∧ (IsDi (cb s (s.v 20)) → (s.v 20).toInt < (s.v 0).toInt → x3.toInt < x.toInt) := by
  intro n
  induction n with
  | zero => intro m s x3 x4 _ _ _ _ _ h; exact none_ne h
  | succ n ih =>
    intro m s x3 x4 hT h30 hv hl hN hs hz
    have hs : kX9_splitDigits_5 (kX9_splitDigits_5L n) s p = some (r, s') := hs
    cases m with
    | zero => exact none_ne hz
    | succ m =>
    have hz : r_cut_208 k7 (r_cut_208L k7 m) z p x3 x4 = some out := hz
    have h2 := hT.2.2.1
    have a : (p + x3).toInt = p.toInt + x3.toInt := ti_add (by omega) (by omega)
    have e20 : s.v 20 = p + x3 := Int32.toInt_inj.mp (by rw [a]; exact hv)
    unfold kX9_splitDigits_5 at hs
    unfold r_cut_208 at hz
    have stop : ∀ c0, r_byteAt z (p + x3) = some (c0, z) → ¬ IsDi c0 → kX9_splitDigits_78 s p = some (r, s') → (IsDi (cb s (s.v 20)) → (s.v 20).toInt < (s.v 0).toInt → False) → ∃ (t : KS) (x v : Int32), kX9_splitDigits_78 t p = some (r, s') ∧ r_cut_261 k7 z p x v (if x ≤ 4 then 2 else 3) = some out ∧ FrK [20] s t ∧ x3.toInt ≤ x.toInt ∧ (t.v 20).toInt = p.toInt + x.toInt ∧ (t.v 20).toInt ≤ (s.v 0).toInt ∧ (x.toInt ≤ 4 → (t.u 0).toInt = v.toInt ∧ DVb x.toInt v.toInt) ∧ (IsDi (cb s (s.v 20)) → (s.v 20).toInt < (s.v 0).toInt → x3.toInt < x.toInt) := by
      intro c0 hb hn h71 hF
      rw [hb, bindI_some, (kdi_no hn).2, bindP_some, if_pos rfl] at hz
      refine ⟨s, x3, x4, h71, ?_, FrK.rfl, Int.le_refl _, hv, hl, hN, fun q1 q2 => absurd (hF q1 q2) id⟩
      by_cases c8 : x3 ≤ 4
      · rw [if_pos c8] at hz ⊢; exact hz
      · rw [if_neg c8] at hz ⊢; exact hz
    by_cases c : s.v 0 ≤ s.v 20
    · have c' := ti_le c
      rw [if_pos c] at hs
      exact stop 0 (zb_out hT (by rw [← e20]; exact c')) (by unfold IsDi; decide) hs (fun _ q => by omega)
    · have c' := ti_nle c
      rw [if_neg c, kb_in hT (by omega) c', bindI_some] at hs
      have hb : r_byteAt z (p + x3) = some (cb s (s.v 20), z) := by rw [← e20]; exact zb_in hT (by omega) c'
      by_cases l : IsDi (cb s (s.v 20))
      · rw [(kdi_yes l).1, bindP_some, if_neg z_one, kb_in hT (by omega) c', bindI_some] at hs
        obtain ⟨t9, e9, hs⟩ := letS_inv hs
        obtain ⟨t, et, hs⟩ := letS_inv hs
        rw [hb, bindI_some, (kdi_yes l).2, bindP_some, if_neg z_one] at hz
        have a3 : (x3 + 1).toInt = x3.toInt + 1 := tn_add rfl (by decide) (by omega) (by omega)
        have a20 : ((s.v 20) + 1).toInt = (s.v 20).toInt + 1 := tn_add rfl (by decide) (by omega) (by omega)
        have v20 : t.v 20 = (s.v 20) + 1 := by rw [← et, ← e9]; rfl
        have v0 : t.v 0 = s.v 0 := by rw [← et, ← e9]; rfl
        have Tt : TX t z := by rw [← et, ← e9]; exact hT
        have Kt : FrK [20] s t := by rw [← et, ← e9]; exact (FrK.rfl.su).sv (by decide)
        have u0 : t.u 0 = (((s.u 0) * 10) + (Int32.toInt64 (cb s (s.v 20)))) - 48 := by rw [← et, ← e9]; rfl
        have nxt : ∃ v2, r_cut_208L k7 m z p (x3 + 1) v2 = some out ∧ (x3.toInt + 1 ≤ 4 → (t.u 0).toInt = v2.toInt ∧ DVb (x3.toInt + 1) v2.toInt) := by
          unfold r_cut_244 at hz
          by_cases c8 : 4 ≤ x3
          · have c8' := tn_le (a := 4) (by decide) rfl c8
            rw [if_pos c8] at hz
            exact ⟨_, hz, fun q => by omega⟩
          · have c8' := tn_nle (a := 4) (by decide) rfl c8
            rw [if_neg c8, hb, bindI_some] at hz
            refine ⟨_, hz, fun _ => ?_⟩
            obtain ⟨g1, g2, g3, g4, g5, g6, g7⟩ := hN (by omega)
            have g4 := g4 (by omega)
            have l1 := l.1
            have l2 := l.2
            have du := dig64 (u := s.u 0) (c := cb s (s.v 20)) (by omega) (by omega) l
            have q1 : (10 * x4).toInt = x4.toInt * 10 := ti_cmul (c := 10) (by decide) (by omega) (by omega)
            have q2 : ((10 * x4) + cb s (s.v 20)).toInt = (10 * x4).toInt + (cb s (s.v 20)).toInt := ti_add (by omega) (by omega)
            have q3 : (((10 * x4) + cb s (s.v 20)) - 48).toInt = ((10 * x4) + cb s (s.v 20)).toInt - 48 := tn_sub rfl (by decide) (by omega) (by omega)
            rw [u0, du, q3, q2, q1]
            refine ⟨by omega, by omega, by omega, fun h => ?_, fun h => ?_, fun h => ?_, fun h => by omega⟩
            · have := g5 (by omega); omega
            · have := g6 (by omega); omega
            · have := g7 (by omega); omega
        obtain ⟨v2, hz, hN2⟩ := nxt
        obtain ⟨t', x, v, f1, f2, f3, f4, f5, f6, f7, _⟩ := ih m t (x3 + 1) v2 Tt (by omega) (by rw [v20, a20]; omega) (by rw [v20, v0, a20]; omega) (by rw [a3]; exact hN2) hs hz
        rw [v0] at f6
        exact ⟨t', x, v, f1, f2, Kt.trans f3 (by decide), by omega, f5, f6, f7, fun _ _ => by omega⟩
      · rw [(kdi_no l).1, bindP_some, if_pos rfl] at hs
        exact stop _ hb l hs (fun q _ => l q)
/-! words -/
noncomputable def KWR (s : KS) (z : RS) : Prop := (∀ k, k < 19 → NmR (s.g 31 k) (z.g 9 k)) ∧ (∀ k k', k < 19 → k' < 19 → s.g 31 k = s.g 31 k' → k = k')
theorem word_k {r : Int32} {s s' : KS} : ∀ (n : Nat) (x : Int32), 0 ≤ x.toInt → x.toInt ≤ 19 → kX9_splitLetters_88L n s x = some (r, s') → s' = s ∧ ((∃ k : Nat, x.toInt ≤ (k : Int) ∧ k < 19 ∧ s.g 31 k = s.u 0 ∧ r.toInt = 256 + (k : Int)) ∨ (r = 300 ∧ ∀ k : Nat, x.toInt ≤ (k : Int) → k < 19 → ¬ s.g 31 k = s.u 0)) := by
  intro n
  induction n with
  | zero => intro x _ _ h; exact none_ne h
  | succ n ih =>
    intro x h0 h19 h
    have h : kX9_splitLetters_88 (kX9_splitLetters_88L n) s x = some (r, s') := h
    unfold kX9_splitLetters_88 at h
    by_cases c : 19 ≤ x
    · have c' := tn_le (a := 19) (by decide) rfl c
      rw [if_pos c] at h
      cases h
      exact ⟨rfl, Or.inr ⟨rfl, fun k q1 q2 => by omega⟩⟩
    · have c' := tn_nle (a := 19) (by decide) rfl c
      rw [if_neg c] at h
      obtain ⟨_, h⟩ := guard_inv h
      have ec := clampI h0
      by_cases c2 : lg_cmp ((s.g 31) (Int32.toNatClampNeg x)) (s.u 0) = 0
      · rw [if_pos c2] at h
        cases h
        refine ⟨rfl, Or.inl ⟨x.toNatClampNeg, by omega, by omega, cmp_zero.mp c2, ?_⟩⟩
        rw [tn_add (x := 256) (y := x) (a := 256) (by decide) rfl (by omega) (by omega)]
        omega
      · rw [if_neg c2] at h
        have a : (x + 1).toInt = x.toInt + 1 := tn_add rfl (by decide) (by omega) (by omega)
        obtain ⟨e1, h⟩ := ih (x + 1) (by omega) (by omega) h
        refine ⟨e1, ?_⟩
        rcases h with ⟨k, h1, h2, h3, h4⟩ | ⟨e2, h1⟩
        · exact Or.inl ⟨k, by omega, h2, h3, h4⟩
        · refine Or.inr ⟨e2, fun k q1 q2 => ?_⟩
          by_cases q3 : k = x.toNatClampNeg
          · subst q3
            exact fun w => c2 (cmp_zero.mpr w)
          · exact h1 k (by omega) q2
theorem word_z {z out : RS} {k7 : RS → Int32 → Option RS} {p x3 : Int32} {nm : Int64} : ∀ (n : Nat) (x6 x : Int32), 0 ≤ x.toInt → x.toInt ≤ 19 → r_cut_146L k7 n z p x3 nm x6 x = some out → ∃ y : Int32, r_cut_179 k7 z p x3 nm y = some out ∧ ((∃ k : Nat, x.toInt ≤ (k : Int) ∧ k < 19 ∧ z.g 9 k = nm ∧ y.toInt = 20 + (k : Int)) ∨ (y = x6 ∧ ∀ k : Nat, x.toInt ≤ (k : Int) → k < 19 → ¬ z.g 9 k = nm)) := by
  intro n
  induction n with
  | zero => intro x6 x _ _ h; exact none_ne h
  | succ n ih =>
    intro x6 x h0 h19 h
    have h : r_cut_146 k7 (r_cut_146L k7 n) z p x3 nm x6 x = some out := h
    unfold r_cut_146 at h
    by_cases c : 19 ≤ x
    · have c' := tn_le (a := 19) (by decide) rfl c
      rw [if_pos c] at h
      exact ⟨x6, h, Or.inr ⟨rfl, fun k q1 q2 => by omega⟩⟩
    · have c' := tn_nle (a := 19) (by decide) rfl c
      rw [if_neg c] at h
      obtain ⟨_, h⟩ := guard_inv h
      have ec := clampI h0
      have a : (x + 1).toInt = x.toInt + 1 := tn_add rfl (by decide) (by omega) (by omega)
      have a20 : (20 + x).toInt = 20 + x.toInt := tn_add (by decide) rfl (by omega) (by omega)
      unfold r_cut_173 at h
      by_cases c2 : lg_cmp (z.g 9 (Int32.toNatClampNeg x)) nm = 0
      · rw [if_pos c2] at h
        obtain ⟨y, e1, e2⟩ := ih (20 + x) (x + 1) (by omega) (by omega) h
        refine ⟨y, e1, Or.inl ?_⟩
        rcases e2 with ⟨k, h1, h2, h3, h4⟩ | ⟨e2, _⟩
        · exact ⟨k, by omega, h2, h3, h4⟩
        · exact ⟨x.toNatClampNeg, by omega, by omega, cmp_zero.mp c2, by rw [e2, a20]; omega⟩
      · rw [if_neg c2] at h
        obtain ⟨y, e1, e2⟩ := ih x6 (x + 1) (by omega) (by omega) h
        refine ⟨y, e1, ?_⟩
        rcases e2 with ⟨k, h1, h2, h3, h4⟩ | ⟨e2, h1⟩
        · exact Or.inl ⟨k, by omega, h2, h3, h4⟩
        · refine Or.inr ⟨e2, fun k q1 q2 => ?_⟩
          by_cases q3 : k = x.toNatClampNeg
          · subst q3
            exact fun w => c2 (cmp_zero.mpr w)
          · exact h1 k (by omega) q2
theorem kpl_word : ∀ k, k < 19 → ((Int32.ofNat (256 + k), Int32.ofNat (20 + k)) : Int32 × Int32) ∈ kpl ∧ (Int32.ofNat (256 + k)).toInt = 256 + (k : Int) ∧ (Int32.ofNat (20 + k)).toInt = 20 + (k : Int) ∧ ¬ Int32.ofNat (256 + k) = 300 ∧ ¬ Int32.ofNat (256 + k) = 301 ∧ ¬ Int32.ofNat (256 + k) = 302 := by decide +kernel
/-! signs -/
theorem idx_inv {x4 r : Int32} : ∀ (n : Nat) (x5 : Int32), 0 ≤ x5.toInt → x5.toInt ≤ 9 → kJ1_indexOfChar_4cfef_7L n 9 x4 x5 = some r → (r.toInt < 0 ∧ ∀ j : Nat, x5.toInt ≤ (j : Int) → j < 9 → ¬ sgn j = x4) ∨ (0 ≤ r.toInt ∧ ∃ j : Nat, j < 9 ∧ sgn j = x4) := by
  intro n
  induction n with
  | zero => intro x5 _ _ h; exact none_ne h
  | succ n ih =>
    intro x5 h0 h9 h
    have h : kJ1_indexOfChar_4cfef_7 (kJ1_indexOfChar_4cfef_7L n) 9 x4 x5 = some r := h
    unfold kJ1_indexOfChar_4cfef_7 at h
    by_cases c : 9 ≤ x5
    · have c' := tn_le (a := 9) (by decide) rfl c
      rw [if_pos c] at h
      cases h
      exact Or.inl ⟨by decide, fun j q1 q2 => by omega⟩
    · have c' := tn_nle (a := 9) (by decide) rfl c
      rw [if_neg c] at h
      obtain ⟨_, h⟩ := guard_inv h
      have ec := clampI h0
      by_cases c2 : sgn (Int32.toNatClampNeg x5) = x4
      · rw [if_pos c2] at h
        cases h
        exact Or.inr ⟨h0, _, by omega, c2⟩
      · rw [if_neg c2] at h
        have a : (x5 + 1).toInt = x5.toInt + 1 := tn_add rfl (by decide) (by omega) (by omega)
        rcases ih (x5 + 1) (by omega) (by omega) h with ⟨e1, e2⟩ | e
        · refine Or.inl ⟨e1, fun j q1 q2 => ?_⟩
          by_cases q3 : j = x5.toNatClampNeg
          · subst q3; exact c2
          · exact e2 j (by omega) q2
        · exact Or.inr e
theorem chr_c : ∀ c, c < 256 → UInt32.toInt32 (Int32.toUInt32 (Int32.ofNat c) % 65536) = Int32.ofNat c ∧ kJ1_canEncode_9a6ad (Int32.ofNat c) = some 1 ∧ (∀ j, j < 9 → (sgn j = Int8.toInt32 (Int32.toInt8 (Int32.ofNat c)) ↔ sgn j = Int32.ofNat c)) := by decide +kernel
theorem ofNat_of {c : Int32} (h0 : 0 ≤ c.toInt) : c = Int32.ofNat c.toInt.toNat := by
  refine Int32.toInt_inj.mp ?_
  have := (ti_rng c).2
  have e : (Int32.ofNat c.toInt.toNat).toInt = (c.toInt.toNat : Int) := nI_toInt (n := c.toInt.toNat) (by omega)
  omega
theorem sign_k {c r : Int32} (h0 : 0 ≤ c.toInt) (h255 : c.toInt ≤ 255) (h : kJ0_indexOf_0f7a4 (UInt32.toInt32 (Int32.toUInt32 c % 65536)) = some r) : (r < 0 ∧ ∀ j : Nat, j < 9 → ¬ sgn j = c) ∨ (¬ r < 0 ∧ ∃ j : Nat, j < 9 ∧ sgn j = c) := by
  have ec := ofNat_of h0
  obtain ⟨q1, q2, q3⟩ := chr_c c.toInt.toNat (by omega)
  rw [← ec] at q1 q2 q3
  rw [q1] at h
  unfold kJ0_indexOf_0f7a4 kJ0_indexOf_7cf53 kJ0_isLatin1_aae02 kJ0_length_8abf5 kJ0_coder_7d493 at h
  rw [bindP_id, bindP_some, bindP_some, bindP_some, bindP_id] at h
  unfold kJ1_indexOf_4cfef at h
  rw [q2, bindP_some, if_neg z_one] at h
  have m1 : mmax 0 0 = (0 : Int32) := by decide
  have m2 : mmin 9 9 = (9 : Int32) := by decide
  rw [m1, m2, if_pos (by decide : (0 : Int32) < 9), bindP_id] at h
  unfold kJ1_indexOfChar_4cfef at h
  have z0 : (0 : Int32).toInt = 0 := by decide
  rcases idx_inv fu 0 (by decide) (by decide) h with ⟨e1, e2⟩ | ⟨e1, j, e2, e3⟩
  · refine Or.inl ⟨Int32.lt_iff_toInt_lt.mpr (by rw [z0]; exact e1), fun j hj q => e2 j (by omega) hj ((q3 j hj).mpr q)⟩
  · refine Or.inr ⟨fun q => ?_, j, e2, (q3 j e2).mp e3⟩
    have := ti_lt q
    omega
noncomputable def sgk (c : Int32) : Int32 := if c = 60 then 13 else if c = 47 then 15 else if c = 42 then 10 else if c = 45 then 9 else if c = 43 then 8 else if c = 59 then 4 else if c = 61 then 5 else if c = 40 then 6 else if c = 41 then 7 else 3
theorem sign_z {z : RS} {p c d : Int32} (hv : vpb (z.v 10) 403 = true) : r_sign z p c d = some (1, ztok z (sgk c) p 0 0) := by
  have h95 : ∀ k, r_sign_95 z p k = some (1, ztok z k p 0 0) := fun k => by
    unfold r_sign_95
    rw [ztok_eq hv, bindP_some]
  have r43 : ∀ k, r_sign_43 z p c k = some (1, ztok z (if c = 60 then 13 else if c = 47 then 15 else if c = 42 then 10 else if c = 45 then 9 else if c = 43 then 8 else k) p 0 0) := by
    intro k
    unfold r_sign_43 r_sign_55 r_sign_65 r_sign_75 r_sign_85
    by_cases c1 : c = 60
    · have n5 : ¬ c = 43 := by rw [c1]; decide
      have n4 : ¬ c = 45 := by rw [c1]; decide
      have n3 : ¬ c = 42 := by rw [c1]; decide
      have n2 : ¬ c = 47 := by rw [c1]; decide
      simp only [if_neg n5, if_neg n4, if_neg n3, if_neg n2, if_pos c1, h95]
    · by_cases c2 : c = 47
      · have n5 : ¬ c = 43 := by rw [c2]; decide
        have n4 : ¬ c = 45 := by rw [c2]; decide
        have n3 : ¬ c = 42 := by rw [c2]; decide
        simp only [if_neg n5, if_neg n4, if_neg n3, if_pos c2, if_neg c1, h95]
      · by_cases c3 : c = 42
        · have n5 : ¬ c = 43 := by rw [c3]; decide
          have n4 : ¬ c = 45 := by rw [c3]; decide
          simp only [if_neg n5, if_neg n4, if_pos c3, if_neg c2, if_neg c1, h95]
        · by_cases c4 : c = 45
          · have n5 : ¬ c = 43 := by rw [c4]; decide
            simp only [if_neg n5, if_pos c4, if_neg c3, if_neg c2, if_neg c1, h95]
          · by_cases c5 : c = 43
            · simp only [if_pos c5, if_neg c4, if_neg c3, if_neg c2, if_neg c1, h95]
            · simp only [if_neg c5, if_neg c4, if_neg c3, if_neg c2, if_neg c1, h95]
  unfold sgk r_sign
  simp only [r43]
  by_cases d1 : c = 59
  · simp only [if_pos d1]
  · by_cases d2 : c = 61
    · simp only [if_neg d1, if_pos d2]
    · by_cases d3 : c = 40
      · simp only [if_neg d1, if_neg d2, if_pos d3]
      · by_cases d4 : c = 41
        · simp only [if_neg d1, if_neg d2, if_neg d3, if_pos d4]
        · simp only [if_neg d1, if_neg d2, if_neg d3, if_neg d4]
theorem kpl_sign : ∀ j, j < 9 → ((sgn j, sgk (sgn j)) : Int32 × Int32) ∈ kpl ∧ ¬ sgn j = 300 ∧ ¬ sgn j = 301 ∧ ¬ sgn j = 302 := by decide +kernel
theorem sgk_no {c : Int32} (h : ∀ j : Nat, j < 9 → ¬ sgn j = c) : sgk c = 3 := by
  have g : ∀ j : Nat, j < 9 → ¬ c = sgn j := fun j hj q => h j hj q.symm
  unfold sgk
  rw [if_neg (show ¬ c = 60 from g 6 (by decide)), if_neg (show ¬ c = 47 from g 5 (by decide)), if_neg (show ¬ c = 42 from g 4 (by decide)), if_neg (show ¬ c = 45 from g 3 (by decide)), if_neg (show ¬ c = 43 from g 2 (by decide)), if_neg (show ¬ c = 59 from g 0 (by decide)), if_neg (show ¬ c = 61 from g 1 (by decide)), if_neg (show ¬ c = 40 from g 7 (by decide)), if_neg (show ¬ c = 41 from g 8 (by decide))]
end
section
/-! ===== one token, all tokens ===== -/
theorem bindI_id {σ : Type} (o : Option (Int32 × σ)) : (bindI o fun r s => some (r, s)) = o := by
  cases o with
  | none => rfl
  | some q => rfl
theorem tok_letters {s s5 : KS} {z out : RS} {p r6 : Int32} {m : Nat} (hT : TX s z) (hW : KWR s z) (hv10 : vpb (z.v 10) 403 = true) (hp : s.v 20 = p) (h0 : 0 ≤ p.toInt) (hl : p.toInt < (s.v 0).toInt) (hu : s.u 0 = 0) (hc : IsLe (cb s p)) (hs : kX9_splitLetters s = some (r6, s5)) (hz : r_cut_85L (r_cut_7L m) fu z p 0 0 = some out) : FrK [20] s s5 ∧ ¬ r6 = 302 ∧ ∃ kd v nm, r_cut_7L m (ztok z kd p v nm) (s5.v 20) = some out ∧ KP r6 kd ∧ ¬ r6 = 301 ∧ (r6 = 300 → NmR (s5.u 0) nm) ∧ p.toInt < (s5.v 20).toInt ∧ (s5.v 20).toInt ≤ (s.v 0).toInt := by
  have h2 := hT.2.2.1
  have z0 : (0 : Int32).toInt = 0 := by decide
  unfold kX9_splitLetters at hs
  rw [hp] at hs
  have hN : (0 : Int32).toInt ≤ 8 → NLn (0 : Int32).toInt (s.u 0) 0 := fun _ => by
    refine ⟨[], rfl, (fun c hc => by cases hc), ?_, by decide⟩
    rw [hu]
    decide
  obtain ⟨t, x, nm, f1, f2, f3, f4, f5, f6, f7, f8⟩ := letters h0 fu fu s 0 0 hT (by decide) (by rw [hp]; omega) (by rw [hp]; omega) hN hs hz
  have x0 := f8 (by rw [hp]; exact hc) (by rw [hp]; exact hl)
  have ax : (t.v 20 - p).toInt = x.toInt := by rw [ti_sub (by omega) (by omega)]; omega
  have ap : (p + x).toInt = p.toInt + x.toInt := ti_add (by omega) (by omega)
  have et : t.v 20 = p + x := Int32.toInt_inj.mp (by rw [ap]; exact f5)
  have g31 : t.g 31 = s.g 31 := (f3.2 31 (by decide)).2
  have tokz : ∀ y nm', r_cut_179 (r_cut_7L m) z p x nm' y = some out → r_cut_7L m (ztok z y p 0 nm') (t.v 20) = some out := by
    intro y nm' h
    unfold r_cut_179 r_cut_291 at h
    rw [ztok_eq hv10, bindP_some] at h
    rw [et]
    exact h
  unfold kX9_splitLetters_71 at f1
  unfold r_cut_135 at f2
  by_cases c8 : x ≤ 8
  · have c8' := tn_le (b := 8) rfl (by decide) c8
    have q1 : (t.v 20 - p) ≤ 8 := Int32.le_iff_toInt_le.mpr (by rw [ax, show (8 : Int32).toInt = 8 from by decide]; exact c8')
    have q2 : ¬ 8 < x := fun q => by
      have := tn_lt (a := 8) (by decide) rfl q
      omega
    rw [if_pos q1] at f1
    rw [if_pos c8, if_neg q2] at f2
    obtain ⟨e5, hk⟩ := word_k fu 0 (by decide) (by decide) f1
    obtain ⟨y, hy, hzk⟩ := word_z fu 1 0 (by decide) (by decide) f2
    subst e5
    have nmr : NmR (s5.u 0) nm := (f7 c8').nm c8'
    have same : ∀ k, k < 19 → (s5.g 31 k = s5.u 0 ↔ z.g 9 k = nm) := fun k hk => by
      have := hW.1 k hk
      rw [← g31] at this
      exact this.iff nmr
    refine ⟨f3, ?_⟩
    rcases hk with ⟨k, _, hk19, hke, hkr⟩ | ⟨hr, hn⟩
    · rcases hzk with ⟨k', _, hk19', hke', hky⟩ | ⟨_, hn⟩
      · have e1 := (same k' hk19').mpr hke'
        have ekk : k = k' := hW.2 k k' hk19 hk19' (by rw [← g31, hke, e1])
        subst ekk
        obtain ⟨w1, w2, w3, w4, w5, w6⟩ := kpl_word k hk19
        have er : r6 = Int32.ofNat (256 + k) := Int32.toInt_inj.mp (by rw [w2]; exact hkr)
        have ey : y = Int32.ofNat (20 + k) := Int32.toInt_inj.mp (by rw [w3]; exact hky)
        refine ⟨by rw [er]; exact w6, y, 0, nm, tokz y nm hy, ⟨_, w1, er, ey⟩, by rw [er]; exact w5, fun q => ?_, by omega, f6⟩
        rw [er] at q
        exact absurd q w4
      · exact absurd ((same k hk19).mp hke) (hn k (by omega) hk19)
    · rcases hzk with ⟨k', _, hk19', hke', hky⟩ | ⟨hy1, _⟩
      · exact absurd ((same k' hk19').mpr hke') (hn k' (by omega) hk19')
      · refine ⟨by rw [hr]; decide, y, 0, nm, tokz y nm hy, ⟨(300, 1), by decide, hr, hy1⟩, by rw [hr]; decide, fun _ => nmr, by omega, f6⟩
  · have c8' := tn_nle (b := 8) rfl (by decide) c8
    have q1 : ¬ (t.v 20 - p) ≤ 8 := fun q => by
      have := tn_le (b := 8) ax (by decide) q
      omega
    have q2 : 8 < x := Int32.lt_iff_toInt_lt.mpr (by rw [show (8 : Int32).toInt = 8 from by decide]; omega)
    rw [if_neg q1] at f1
    rw [if_neg c8, if_pos q2] at f2
    cases f1
    exact ⟨f3, by decide, 3, 0, nm, tokz 3 nm f2, ⟨(303, 3), by decide, rfl, rfl⟩, by decide, fun q => absurd q (by decide), by omega, f6⟩
theorem tok_digits {s s5 : KS} {z out : RS} {p r6 : Int32} {m : Nat} (hT : TX s z) (hv10 : vpb (z.v 10) 403 = true) (hp : s.v 20 = p) (h0 : 0 ≤ p.toInt) (hl : p.toInt < (s.v 0).toInt) (hu : s.u 0 = 0) (hc : IsDi (cb s p)) (hs : kX9_splitDigits s = some (r6, s5)) (hz : r_cut_208L (r_cut_7L m) fu z p 0 0 = some out) : FrK [20] s s5 ∧ ¬ r6 = 302 ∧ ∃ kd v nm, r_cut_7L m (ztok z kd p v nm) (s5.v 20) = some out ∧ KP r6 kd ∧ (r6 = 301 → Int64.toInt32 (s5.u 0) = v ∧ 0 ≤ v.toInt ∧ v.toInt ≤ 9999) ∧ ¬ r6 = 300 ∧ p.toInt < (s5.v 20).toInt ∧ (s5.v 20).toInt ≤ (s.v 0).toInt := by
  have h2 := hT.2.2.1
  have z0 : (0 : Int32).toInt = 0 := by decide
  unfold kX9_splitDigits at hs
  rw [hp] at hs
  have hN : (0 : Int32).toInt ≤ 4 → (s.u 0).toInt = (0 : Int32).toInt ∧ DVb (0 : Int32).toInt (0 : Int32).toInt := fun _ => by
    rw [hu]
    exact ⟨by decide, by decide, by decide, fun _ => by decide, fun _ => by decide, fun _ => by decide, fun _ => by decide⟩
  obtain ⟨t, x, v, f1, f2, f3, f4, f5, f6, f7, f8⟩ := digits h0 fu fu s 0 0 hT (by decide) (by rw [hp]; omega) (by rw [hp]; omega) hN hs hz
  have x0 := f8 (by rw [hp]; exact hc) (by rw [hp]; exact hl)
  have ax : (t.v 20 - p).toInt = x.toInt := by rw [ti_sub (by omega) (by omega)]; omega
  have ap : (p + x).toInt = p.toInt + x.toInt := ti_add (by omega) (by omega)
  have et : t.v 20 = p + x := Int32.toInt_inj.mp (by rw [ap]; exact f5)
  have tokz : ∀ y, r_cut_261 (r_cut_7L m) z p x v y = some out → r_cut_7L m (ztok z y p v 0) (t.v 20) = some out := by
    intro y h
    unfold r_cut_261 r_cut_291 at h
    rw [ztok_eq hv10, bindP_some] at h
    rw [et]
    exact h
  unfold kX9_splitDigits_78 at f1
  by_cases c8 : x ≤ 4
  · have c8' := tn_le (b := 4) rfl (by decide) c8
    have q1 : (t.v 20 - p) ≤ 4 := Int32.le_iff_toInt_le.mpr (by rw [ax, show (4 : Int32).toInt = 4 from by decide]; exact c8')
    rw [if_pos q1] at f1
    rw [if_pos c8] at f2
    cases f1
    obtain ⟨g1, g2⟩ := f7 c8'
    refine ⟨f3, by decide, 2, v, 0, tokz 2 f2, ⟨(301, 2), by decide, rfl, rfl⟩, fun _ => ⟨?_, g2.1, g2.2.1⟩, by decide, by omega, f6⟩
    refine Int32.toInt_inj.mp ?_
    rw [Int64.toInt_toInt32, g1]
    have q1 := g2.1
    have q2 := g2.2.1
    exact ti_bmod (by omega) (by omega)
  · have c8' := tn_nle (b := 4) rfl (by decide) c8
    have q1 : ¬ (t.v 20 - p) ≤ 4 := fun q => by
      have := tn_le (b := 4) ax (by decide) q
      omega
    rw [if_neg q1] at f1
    rw [if_neg c8] at f2
    cases f1
    exact ⟨f3, by decide, 3, v, 0, tokz 3 f2, ⟨(303, 3), by decide, rfl, rfl⟩, fun q => absurd q (by decide), by decide, by omega, f6⟩
theorem tok_one {s s5 : KS} {z out : RS} {p r6 : Int32} {m : Nat} (hT : TX s z) (hW : KWR s z) (hz10 : ¬ 400 < z.v 10) (h10 : 0 ≤ (z.v 10).toInt) (hp : s.v 20 = p) (h0 : 0 ≤ p.toInt) (hl : p.toInt ≤ (s.v 0).toInt) (hnb : p.toInt = (s.v 0).toInt ∨ ¬ IsBl (cb s p)) (hs : kX9_splitOne s = some (r6, s5)) (hz : r_cut_7L m z p = some out) : FrK [20] s s5 ∧ ((r6 = 302 ∧ out = ztok z 0 p 0 0) ∨ (¬ r6 = 302 ∧ ∃ kd v nm m', r_cut_7L m' (ztok z kd p v nm) (s5.v 20) = some out ∧ KP r6 kd ∧ (r6 = 301 → Int64.toInt32 (s5.u 0) = v ∧ 0 ≤ v.toInt ∧ v.toInt ≤ 9999) ∧ (r6 = 300 → NmR (s5.u 0) nm) ∧ p.toInt < (s5.v 20).toInt ∧ (s5.v 20).toInt ≤ (s.v 0).toInt)) := by
  have hv10 := v10_ok h10 hz10
  have h2 := hT.2.2.1
  cases m with
  | zero => exact none_ne hz
  | succ m =>
  have hz : r_cut_7 (r_cut_7L m) z p = some out := hz
  unfold r_cut_7 at hz
  rw [if_neg hz10] at hz
  unfold kX9_splitOne at hs
  obtain ⟨s1, e1, hs⟩ := letS_inv hs
  have T1 : TX s1 z := by rw [← e1]; exact hT
  have W1 : KWR s1 z := by rw [← e1]; exact hW
  have p1 : s1.v 20 = p := by rw [← e1]; exact hp
  have v0 : s1.v 0 = s.v 0 := by rw [← e1]; rfl
  have u1 : s1.u 0 = 0 := by rw [← e1]; rfl
  have K1 : FrK [20] s s1 := by rw [← e1]; exact FrK.rfl.su
  have ecb : cb s1 p = cb s p := by rw [← e1]; rfl
  rw [p1] at hs
  by_cases c : p.toInt = (s.v 0).toInt
  · rw [kb_out h0 (by rw [v0]; omega), bindI_some, if_pos rfl] at hs
    cases hs
    have c4 : ¬ p < z.v 4 := fun q => by
      have := ti_lt q
      rw [← hT.1] at this
      omega
    rw [zb_out hT (by omega), bindI_some, if_neg c4, bindP_id, ztok_eq hv10] at hz
    cases hz
    refine ⟨K1, Or.inl ⟨rfl, ?_⟩⟩
    have e4 : z.v 4 = p := Int32.toInt_inj.mp (by rw [← hT.1]; omega)
    rw [e4]
  · have c' : p.toInt < (s.v 0).toInt := by omega
    have nb : ¬ IsBl (cb s p) := by
      rcases hnb with q | q
      · exact absurd q c
      · exact q
    have bnd := and255 (s.f 1 p.toNatClampNeg)
    have nm1 : ¬ cb s p = -1 := fun q => by
      have : ((s.f 1 p.toNatClampNeg) &&& 255).toInt = -1 := by
        show (cb s p).toInt = -1
        rw [q]
        decide
      omega
    rw [kb_in T1 h0 (by rw [v0]; exact c'), bindI_some, ecb, if_neg nm1] at hs
    have c4 : p < z.v 4 := by
      rw [← hT.1]
      exact Int32.lt_iff_toInt_lt.mpr c'
    rw [zb_in hT h0 c', bindI_some, if_pos c4, if_neg (fun q => nb (Or.inl q)), if_neg (fun q => nb (Or.inr (Or.inl q))), if_neg (fun q => nb (Or.inr (Or.inr (Or.inl q)))), if_neg (fun q => nb (Or.inr (Or.inr (Or.inr q))))] at hz
    by_cases l : IsLe (cb s p)
    · rw [(kle_yes l).1, bindP_some, if_neg z_one, bindI_id] at hs
      rw [(kle_yes l).2, bindP_some, if_neg z_one] at hz
      obtain ⟨F, n2, kd, v, nm, a1, a2, a3, a4, a5, a6⟩ := tok_letters T1 W1 hv10 p1 h0 (by rw [v0]; exact c') u1 (by rw [ecb]; exact l) hs hz
      rw [v0] at a6
      exact ⟨K1.trans F (by decide), Or.inr ⟨n2, kd, v, nm, m, a1, a2, fun q => absurd q a3, a4, a5, a6⟩⟩
    · rw [(kle_no l).1, bindP_some, if_pos rfl] at hs
      rw [(kle_no l).2, bindP_some, if_pos rfl] at hz
      by_cases d : IsDi (cb s p)
      · rw [(kdi_yes d).1, bindP_some, if_neg z_one, bindI_id] at hs
        rw [(kdi_yes d).2, bindP_some, if_neg z_one] at hz
        obtain ⟨F, n2, kd, v, nm, a1, a2, a3, a4, a5, a6⟩ := tok_digits T1 hv10 p1 h0 (by rw [v0]; exact c') u1 (by rw [ecb]; exact d) hs hz
        rw [v0] at a6
        exact ⟨K1.trans F (by decide), Or.inr ⟨n2, kd, v, nm, m, a1, a2, a3, fun q => absurd q a4, a5, a6⟩⟩
      · rw [(kdi_no d).1, bindP_some, if_pos rfl] at hs
        rw [(kdi_no d).2, bindP_some, if_pos rfl] at hz
        obtain ⟨s10, e10, hs⟩ := letS_inv hs
        obtain ⟨r12, hi, hs⟩ := bindP_inv hs
        have ap : (p + 1).toInt = p.toInt + 1 := tn_add rfl (by decide) (by omega) (by omega)
        have v20 : s10.v 20 = p + 1 := by rw [← e10, ← p1]; rfl
        have K10 : FrK [20] s s10 := by rw [← e10]; exact K1.sv (by decide)
        have hz : r_cut_7L m (ztok z (sgk (cb s p)) p 0 0) (p + 1) = some out := by
          obtain ⟨r14, z13, hb, hz2⟩ := bindI_inv hz
          have ez : z13 = z := by
            by_cases q : (p + 1).toInt < (s.v 0).toInt
            · rw [zb_in hT (by omega) q] at hb
              cases hb
              rfl
            · rw [zb_out hT (by omega)] at hb
              cases hb
              rfl
          subst ez
          rw [sign_z hv10, bindI_some] at hz2
          exact hz2
        have fin : p.toInt < (s10.v 20).toInt ∧ (s10.v 20).toInt ≤ (s.v 0).toInt := by rw [v20]; omega
        rcases sign_k bnd.1 bnd.2 hi with ⟨r1, r2⟩ | ⟨r1, j, r2, r3⟩
        · rw [if_pos r1] at hs
          cases hs
          refine ⟨K10, Or.inr ⟨by decide, _, 0, 0, m, by rw [v20]; exact hz, ⟨(303, 3), by decide, rfl, sgk_no r2⟩, fun q => absurd q (by decide), fun q => absurd q (by decide), fin.1, fin.2⟩⟩
        · rw [if_neg r1] at hs
          cases hs
          obtain ⟨w1, w2, w3, w4⟩ := kpl_sign j r2
          rw [r3] at w1 w2 w3 w4
          exact ⟨K10, Or.inr ⟨w4, _, 0, 0, m, by rw [v20]; exact hz, ⟨_, w1, rfl, rfl⟩, fun q => absurd q w3, fun q => absurd q w2, fin.1, fin.2⟩⟩
/-! the reference goes on behind what is no token: what stands before stays -/
theorem pt_tok {z : RS} {Q : RS → Prop} {k7 : RS → Int32 → Option RS} (hk : ∀ (kd pl v : Int32) (nm : Int64) (x : Int32), Pt (k7 (ztok z kd pl v nm) x) Q) (kd pl v : Int32) (nm : Int64) (x : Int32) : Pt (bindP (r_token z kd pl v nm) fun s1 => r_cut_291 k7 s1 x) Q := by
  intro y h
  obtain ⟨t, h1, h2⟩ := bindP_inv h
  have et : t = ztok z kd pl v nm := by
    have e : r_token z kd pl v nm = (if vpb (z.v 10) 403 then (if vpb (z.v 10) 403 then (if vpb (z.v 10) 403 then (if vpb (z.v 10) 403 then some (ztok z kd pl v nm) else none) else none) else none) else none) := rfl
    rw [e] at h1
    obtain ⟨_, h1⟩ := guard_inv h1
    obtain ⟨_, h1⟩ := guard_inv h1
    obtain ⟨_, h1⟩ := guard_inv h1
    obtain ⟨_, h1⟩ := guard_inv h1
    cases h1
    rfl
  subst et
  exact hk _ _ _ _ _ y h2
theorem pt_byte {z : RS} (x : Int32) : Pt (r_byteAt z x) (fun y => y.2 = z) := by
  unfold r_byteAt
  exact pt_ite (fun _ => pt_some rfl) (fun _ => pt_ite (fun _ => pt_some rfl) (fun _ => pt_none))
theorem pt_146 {z : RS} {Q : RS → Prop} {k7 : RS → Int32 → Option RS} (hk : ∀ (kd pl v : Int32) (nm : Int64) (x : Int32), Pt (k7 (ztok z kd pl v nm) x) Q) (p x3 : Int32) (nm : Int64) : ∀ (n : Nat) (x6 x7 : Int32), Pt (r_cut_146L k7 n z p x3 nm x6 x7) Q := by
  intro n
  induction n with
  | zero => intro x6 x7; exact pt_none
  | succ n ih =>
    intro x6 x7
    show Pt (r_cut_146 k7 (r_cut_146L k7 n) z p x3 nm x6 x7) _
    unfold r_cut_146 r_cut_173
    refine pt_ite (fun _ => ?_) (fun _ => pt_ite (fun _ => ?_) (fun _ => pt_none))
    · exact pt_tok hk _ _ _ _ _
    · exact pt_ite (fun _ => ih _ _) (fun _ => ih _ _)
theorem pt_85 {z : RS} {Q : RS → Prop} {k7 : RS → Int32 → Option RS} (hk : ∀ (kd pl v : Int32) (nm : Int64) (x : Int32), Pt (k7 (ztok z kd pl v nm) x) Q) (p : Int32) : ∀ (n : Nat) (x3 : Int32) (nm : Int64), Pt (r_cut_85L k7 n z p x3 nm) Q := by
  intro n
  induction n with
  | zero => intro x3 nm; exact pt_none
  | succ n ih =>
    intro x3 nm
    show Pt (r_cut_85 k7 (r_cut_85L k7 n) z p x3 nm) _
    unfold r_cut_85
    refine pt_bindI (pt_byte (z := z) _) (fun r s h => ?_)
    have h : s = z := h
    subst h
    refine pt_bindP (P := fun _ => True) (fun _ _ => trivial) (fun r3 _ => ?_)
    have ex : ∀ t0, Pt (r_cut_135 k7 s p x3 nm t0) Q := fun t0 => by
      unfold r_cut_135
      exact pt_ite (fun _ => pt_tok hk _ _ _ _ _) (fun _ => pt_146 hk _ _ _ _ _ _)
    refine pt_ite (fun _ => pt_ite (fun _ => ex _) (fun _ => ex _)) (fun _ => ?_)
    unfold r_cut_118
    refine pt_ite (fun _ => ih _ _) (fun _ => ?_)
    refine pt_bindI (pt_byte (z := s) _) (fun r s2 h => ?_)
    have h : s2 = s := h
    subst h
    exact pt_bindP (P := fun _ => True) (fun _ _ => trivial) (fun r9 _ => ih _ _)
theorem pt_208 {z : RS} {Q : RS → Prop} {k7 : RS → Int32 → Option RS} (hk : ∀ (kd pl v : Int32) (nm : Int64) (x : Int32), Pt (k7 (ztok z kd pl v nm) x) Q) (p : Int32) : ∀ (n : Nat) (x3 x4 : Int32), Pt (r_cut_208L k7 n z p x3 x4) Q := by
  intro n
  induction n with
  | zero => intro x3 x4; exact pt_none
  | succ n ih =>
    intro x3 x4
    show Pt (r_cut_208 k7 (r_cut_208L k7 n) z p x3 x4) _
    unfold r_cut_208
    refine pt_bindI (pt_byte (z := z) _) (fun r s h => ?_)
    have h : s = z := h
    subst h
    refine pt_bindP (P := fun _ => True) (fun _ _ => trivial) (fun r3 _ => ?_)
    have ex : ∀ t0, Pt (r_cut_261 k7 s p x3 x4 t0) Q := fun t0 => by
      unfold r_cut_261
      exact pt_tok hk _ _ _ _ _
    refine pt_ite (fun _ => pt_ite (fun _ => ex _) (fun _ => ex _)) (fun _ => ?_)
    unfold r_cut_244
    refine pt_ite (fun _ => ih _ _) (fun _ => ?_)
    refine pt_bindI (pt_byte (z := s) _) (fun r s2 h => ?_)
    have h : s2 = s := h
    subst h
    exact ih _ _
noncomputable def Bef (z y : RS) : Prop := ∀ j : Nat, (j : Int) < (z.v 10).toInt → y.f 5 j = z.f 5 j ∧ y.f 6 j = z.f 6 j ∧ y.f 7 j = z.f 7 j ∧ y.g 8 j = z.g 8 j
theorem cut_before : ∀ (m : Nat) (z : RS) (x : Int32), Pt (r_cut_7L m z x) (Bef z) := by
  intro m
  induction m with
  | zero => intro z x; exact pt_none
  | succ m ih =>
    intro z x
    show Pt (r_cut_7 (r_cut_7L m) z x) _
    unfold r_cut_7
    refine pt_ite (fun _ => pt_some (fun j _ => ⟨rfl, rfl, rfl, rfl⟩)) (fun c => ?_)
    have c := tn_nlt (a := 400) (by decide) rfl c
    have a : ((z.v 10) + 1).toInt = (z.v 10).toInt + 1 := tn_add rfl (by decide) (by have := (ti_rng (z.v 10)).1; omega) (by omega)
    have st : ∀ (kd pl v : Int32) (nm : Int64), Bef z (ztok z kd pl v nm) := fun kd pl v nm j hj => by
      have ne : ¬ j = (z.v 10).toNatClampNeg := fun q => by
        have e : (z.v 10).toInt.toNat = (z.v 10).toNatClampNeg := Int32.toNat_toInt _
        omega
      refine ⟨?_, ?_, ?_, ?_⟩
      · show upd (z.f 5) (z.v 10).toNatClampNeg kd j = _
        exact upd_ne ne
      · show upd (z.f 6) (z.v 10).toNatClampNeg pl j = _
        exact upd_ne ne
      · show upd (z.f 7) (z.v 10).toNatClampNeg v j = _
        exact upd_ne ne
      · show vp_updL (z.g 8) (z.v 10).toNatClampNeg nm j = _
        unfold vp_updL
        exact if_neg ne
    have hk : ∀ (kd pl v : Int32) (nm : Int64) (x : Int32), Pt (r_cut_7L m (ztok z kd pl v nm) x) (Bef z) := by
      intro kd pl v nm x y h j hj
      have q := ih _ _ y h j (by show (j : Int) < ((z.v 10) + 1).toInt; omega)
      have w := st kd pl v nm j hj
      exact ⟨q.1.trans w.1, q.2.1.trans w.2.1, q.2.2.1.trans w.2.2.1, q.2.2.2.trans w.2.2.2⟩
    refine pt_bindI (pt_byte (z := z) _) (fun r s h => ?_)
    have h : s = z := h
    subst h
    refine pt_ite (fun _ => ?_) (fun _ => ?_)
    · have bl : Pt (r_cut_67 (r_cut_7L m) s x) (Bef s) := by
        unfold r_cut_67 r_cut_291
        exact ih s _
      refine pt_ite (fun _ => bl) (fun _ => pt_ite (fun _ => bl) (fun _ => pt_ite (fun _ => bl) (fun _ => pt_ite (fun _ => bl) (fun _ => ?_))))
      refine pt_bindP (P := fun _ => True) (fun _ _ => trivial) (fun r9 _ => ?_)
      refine pt_ite (fun _ => ?_) (fun _ => pt_85 hk _ _ _ _)
      refine pt_bindP (P := fun _ => True) (fun _ _ => trivial) (fun r11 _ => ?_)
      refine pt_ite (fun _ => ?_) (fun _ => pt_208 hk _ _ _ _)
      refine pt_bindI (pt_byte (z := s) _) (fun r s2 h => ?_)
      have h : s2 = s := h
      subst h
      intro y hy
      obtain ⟨r16, s15, h15, hy⟩ := bindI_inv hy
      have h95 : ∀ k, Pt (r_sign_95 s2 x k) (fun y => ∃ kd pl v nm, y.2 = ztok s2 kd pl v nm) := fun k => by
        unfold r_sign_95
        intro q hq
        obtain ⟨t, h1, h2⟩ := bindP_inv hq
        cases h2
        have e : r_token s2 k x 0 0 = (if vpb (s2.v 10) 403 then (if vpb (s2.v 10) 403 then (if vpb (s2.v 10) 403 then (if vpb (s2.v 10) 403 then some (ztok s2 k x 0 0) else none) else none) else none) else none) := rfl
        rw [e] at h1
        obtain ⟨_, h1⟩ := guard_inv h1
        obtain ⟨_, h1⟩ := guard_inv h1
        obtain ⟨_, h1⟩ := guard_inv h1
        obtain ⟨_, h1⟩ := guard_inv h1
        cases h1
        exact ⟨k, x, 0, 0, rfl⟩
      have hsg : ∀ c d, Pt (r_sign s2 x c d) (fun y => ∃ kd pl v nm, y.2 = ztok s2 kd pl v nm) := fun c d => by
        unfold r_sign r_sign_43 r_sign_55 r_sign_65 r_sign_75 r_sign_85
        repeat' (first | exact h95 _ | refine pt_ite (fun _ => ?_) (fun _ => ?_))
      obtain ⟨kd, pl, v, nm, e15⟩ := hsg _ _ _ h15
      have e15 : s15 = ztok s2 kd pl v nm := e15
      subst e15
      exact hk _ _ _ _ _ y hy
    · intro y hy
      rw [bindP_id] at hy
      have e : r_token s 0 (s.v 4) 0 0 = (if vpb (s.v 10) 403 then (if vpb (s.v 10) 403 then (if vpb (s.v 10) 403 then (if vpb (s.v 10) 403 then some (ztok s 0 (s.v 4) 0 0) else none) else none) else none) else none) := rfl
      rw [e] at hy
      obtain ⟨_, hy⟩ := guard_inv hy
      obtain ⟨_, hy⟩ := guard_inv hy
      obtain ⟨_, hy⟩ := guard_inv hy
      obtain ⟨_, hy⟩ := guard_inv hy
      cases hy
      exact st _ _ _ _
end
section
/-! all tokens -/
noncomputable def TK1 (i : Nat) (s : KS) (z : RS) : Prop := KP (s.f 32 i) (z.f 5 i) ∧ s.f 33 i = z.f 6 i ∧ (s.f 32 i = 301 → Int64.toInt32 (s.g 34 i) = z.f 7 i ∧ 0 ≤ (z.f 7 i).toInt ∧ (z.f 7 i).toInt ≤ 9999) ∧ (s.f 32 i = 300 → NmR (s.g 34 i) (z.g 8 i))
theorem TK1.eq {i : Nat} {s s' : KS} {z z' : RS} (h : TK1 i s z) (e1 : s'.f 32 i = s.f 32 i) (e2 : s'.f 33 i = s.f 33 i) (e3 : s'.g 34 i = s.g 34 i) (e4 : z'.f 5 i = z.f 5 i) (e5 : z'.f 6 i = z.f 6 i) (e6 : z'.f 7 i = z.f 7 i) (e7 : z'.g 8 i = z.g 8 i) : TK1 i s' z' := by
  unfold TK1
  rw [e1, e2, e3, e4, e5, e6, e7]
  exact h
theorem sim_split : ∀ (n m : Nat) (s s' : KS) (z out : RS) (kind x : Int32) (X : Nat), TX s z → KWR s z → 0 ≤ (s.v 20).toInt → (s.v 20).toInt ≤ (s.v 0).toInt → z.v 10 = x → x.toInt = (X : Int) → X ≤ 401 → (x = 0 ∨ (¬ kind = 302 ∧ ¬ kind = 303)) → (∀ i, i < X → TK1 i s z) → (∀ i j, i < j → j < X → (z.f 6 i).toInt < (z.f 6 j).toInt) → (∀ i, i < X → (z.f 6 i).toInt < (s.v 20).toInt) → kX9_split_11L n s kind x = some s' → r_cut_7L m z (s.v 20) = some out → ∃ N, N ≤ 400 ∧ TK2 N s' out := by
  intro n
  induction n with
  | zero => intro m s s' z out kind x X _ _ _ _ _ _ _ _ _ _ _ hs; exact none_ne hs
  | succ n ih =>
    intro m s s' z out kind x X hT hW h0 hl e10 hX hX4 hkd hA hB hC hs hz
    have hs : kX9_split_11 (kX9_split_11L n) s kind x = some s' := hs
    have ecl : x.toNatClampNeg = X := clamp_of_int hX
    unfold kX9_split_11 at hs
    by_cases c : 400 < x
    · have c' := tn_lt (a := 400) (by decide) rfl c
      rw [if_pos c] at hs
      cases hs
      cases m with
      | zero => exact none_ne hz
      | succ m =>
      have hz : r_cut_7 (r_cut_7L m) z (s.v 20) = some out := hz
      unfold r_cut_7 at hz
      rw [if_pos (by rw [e10]; exact c)] at hz
      cases hz
      exact ⟨400, Nat.le_refl _, fun i hi => hA i (by omega), Or.inl rfl, fun i j h1 h2 => hB i j h1 (by omega)⟩
    · have c' := tn_nlt (a := 400) (by decide) rfl c
      have hs : kX9_split_36 (kX9_split_11L n) s x = some s' := by
        rw [if_neg c] at hs
        rcases hkd with q | q
        · rw [if_pos q] at hs; exact hs
        · by_cases q0 : x = 0
          · rw [if_pos q0] at hs; exact hs
          · rw [if_neg q0, if_neg q.1, if_neg q.2] at hs; exact hs
      unfold kX9_split_36 at hs
      obtain ⟨s1, h1, hs⟩ := bindP_inv hs
      obtain ⟨_, hs⟩ := guard_inv hs
      obtain ⟨s3, e3, hs⟩ := letS_inv hs
      obtain ⟨r6, s5, h5, hs⟩ := bindI_inv hs
      obtain ⟨_, hs⟩ := guard_inv hs
      obtain ⟨s8, e8, hs⟩ := letS_inv hs
      obtain ⟨_, hs⟩ := guard_inv hs
      obtain ⟨s11, e11, hs⟩ := letS_inv hs
      rw [ecl] at e3 e8 e11
      have z10 : ¬ 400 < z.v 10 := by rw [e10]; exact c
      unfold kX9_skipBlanks at h1
      obtain ⟨m1, hz, K1, l1, l2, nb⟩ := blanks z10 fu m s s1 hT h0 hl h1 hz
      have v01 : s1.v 0 = s.v 0 := K1.1 0 (by decide)
      have f11 : s1.f 1 = s.f 1 := (K1.2 1 (by decide)).1
      have T3 : TX s3 z := by
        rw [← e3]
        show TX s1 z
        unfold TX
        rw [v01, f11]
        exact hT
      have W3 : KWR s3 z := by
        rw [← e3]
        show KWR s1 z
        unfold KWR
        rw [(K1.2 31 (by decide)).2]
        exact hW
      have v203 : s3.v 20 = s1.v 20 := by rw [← e3]; rfl
      have v03 : s3.v 0 = s.v 0 := by rw [← e3]; exact v01
      have nb3 : (s1.v 20).toInt = (s3.v 0).toInt ∨ ¬ IsBl (cb s3 (s1.v 20)) := by
        rw [v03]
        rcases nb with q | q
        · exact Or.inl q
        · right
          rw [← e3]
          exact q
      obtain ⟨K5, hcase⟩ := tok_one T3 W3 z10 (by rw [e10]; omega) v203 (by omega) (by rw [v03]; exact l2) nb3 h5 hz
      rw [v03] at hcase
      -- what the class has written
      have k32 : ∀ i, s11.f 32 i = if i = X then r6 else s.f 32 i := fun i => by
        have q : s5.f 32 = s.f 32 := by rw [(K5.2 32 (by decide)).1, ← e3]; exact (K1.2 32 (by decide)).1
        rw [← e11, ← e8, ← q]
        rfl
      have k33 : ∀ i, s11.f 33 i = if i = X then s1.v 20 else s.f 33 i := fun i => by
        have q : s5.f 33 = upd (s1.f 33) X (s1.v 20) := by rw [(K5.2 33 (by decide)).1, ← e3]; rfl
        have q1 : s1.f 33 = s.f 33 := (K1.2 33 (by decide)).1
        rw [← e11, ← e8]
        show s5.f 33 i = _
        rw [q, q1]
        rfl
      have k34 : ∀ i, s11.g 34 i = if i = X then s5.u 0 else s.g 34 i := fun i => by
        have q : s5.g 34 = s.g 34 := by rw [(K5.2 34 (by decide)).2, ← e3]; exact (K1.2 34 (by decide)).2
        rw [← e11, ← e8, ← q]
        rfl
      have z10c : (z.v 10).toNatClampNeg = X := by rw [e10]; exact ecl
      have t5 : ∀ kd pl v nm i, (ztok z kd pl v nm).f 5 i = if i = X then kd else z.f 5 i := fun kd pl v nm i => by rw [← z10c]; rfl
      have t6 : ∀ kd pl v nm i, (ztok z kd pl v nm).f 6 i = if i = X then pl else z.f 6 i := fun kd pl v nm i => by rw [← z10c]; rfl
      have t7 : ∀ kd pl v nm i, (ztok z kd pl v nm).f 7 i = if i = X then v else z.f 7 i := fun kd pl v nm i => by rw [← z10c]; rfl
      have t8 : ∀ kd pl v nm i, (ztok z kd pl v nm).g 8 i = if i = X then nm else z.g 8 i := fun kd pl v nm i => by rw [← z10c]; rfl
      have newT : ∀ kd v nm, KP r6 kd → (r6 = 301 → Int64.toInt32 (s5.u 0) = v ∧ 0 ≤ v.toInt ∧ v.toInt ≤ 9999) → (r6 = 300 → NmR (s5.u 0) nm) → ∀ i, i ≤ X → TK1 i s11 (ztok z kd (s1.v 20) v nm) := by
        intro kd v nm g1 g2 g3 i hi
        by_cases q : i = X
        · unfold TK1
          rw [k32, k33, k34, t5, t6, t7, t8, if_pos q, if_pos q, if_pos q, if_pos q, if_pos q, if_pos q, if_pos q]
          exact ⟨g1, rfl, g2, g3⟩
        · refine (hA i (by omega)).eq ?_ ?_ ?_ ?_ ?_ ?_ ?_
          · rw [k32, if_neg q]
          · rw [k33, if_neg q]
          · rw [k34, if_neg q]
          · rw [t5, if_neg q]
          · rw [t6, if_neg q]
          · rw [t7, if_neg q]
          · rw [t8, if_neg q]
      have newP : ∀ kd v nm i j, i < j → j ≤ X → ((ztok z kd (s1.v 20) v nm).f 6 i).toInt < ((ztok z kd (s1.v 20) v nm).f 6 j).toInt := by
        intro kd v nm i j h1 h2
        have q : ¬ i = X := by omega
        rw [t6, t6, if_neg q]
        by_cases q2 : j = X
        · rw [if_pos q2]
          have := hC i (by omega)
          omega
        · rw [if_neg q2]
          exact hB i j h1 (by omega)
      have stop : ∀ kd', (kd' = 302 ∨ kd' = 303) → kX9_split_11L n s11 kd' (x + 1) = some s' → s' = s11 := by
        intro kd' hk h
        cases n with
        | zero => exact none_ne h
        | succ n =>
        have h : kX9_split_11 (kX9_split_11L n) s11 kd' (x + 1) = some s' := h
        have ax : (x + 1).toInt = x.toInt + 1 := tn_add rfl (by decide) (by omega) (by omega)
        have nx : ¬ x + 1 = 0 := fun q => by
          have : (x + 1).toInt = 0 := by rw [q]; decide
          omega
        unfold kX9_split_11 at h
        by_cases q : 400 < x + 1
        · rw [if_pos q] at h; cases h; rfl
        · rw [if_neg q, if_neg nx] at h
          rcases hk with e | e
          · rw [if_pos e] at h; cases h; rfl
          · have e2 : ¬ kd' = 302 := by rw [e]; decide
            rw [if_neg e2, if_pos e] at h; cases h; rfl
      rcases hcase with ⟨g1, g2⟩ | ⟨g0, kd, v, nm, m2, g1, g2, g3, g4, g5, g6⟩
      · -- the text's end
        have es := stop r6 (Or.inl g1) hs
        subst es
        subst g2
        refine ⟨X, by omega, fun i hi => newT 0 0 0 ⟨(302, 0), by decide, g1, rfl⟩ (fun q => by rw [g1] at q; exact absurd q (by decide)) (fun q => by rw [g1] at q; exact absurd q (by decide)) i hi, Or.inr (Or.inl ?_), fun i j h1 h2 => newP 0 0 0 i j h1 h2⟩
        rw [k32, if_pos rfl]
        exact g1
      · by_cases c3 : r6 = 303
        · -- no token
          have es := stop r6 (Or.inr c3) hs
          subst es
          have bf := cut_before m2 _ _ _ g1
          have a10 : ((ztok z kd (s1.v 20) v nm).v 10).toInt = (X : Int) + 1 := by
            show ((z.v 10) + 1).toInt = _
            rw [e10, tn_add (y := 1) (b := 1) hX (by decide) (by omega) (by omega)]
          refine ⟨X, by omega, fun i hi => ?_, Or.inr (Or.inr ?_), fun i j h1 h2 => ?_⟩
          · have b := bf i (by rw [a10]; omega)
            exact (newT kd v nm g2 g3 g4 i hi).eq rfl rfl rfl b.1 b.2.1 b.2.2.1 b.2.2.2
          · rw [k32, if_pos rfl]
            exact c3
          · rw [(bf i (by rw [a10]; omega)).2.1, (bf j (by rw [a10]; omega)).2.1]
            exact newP kd v nm i j h1 h2
        · have ax : (x + 1).toInt = ((X + 1 : Nat) : Int) := by rw [tn_add (y := 1) (b := 1) hX (by decide) (by omega) (by omega)]; omega
          have T11 : TX s11 (ztok z kd (s1.v 20) v nm) := by
            have q1 : s11.v 0 = s.v 0 := by
              rw [← e11, ← e8]
              show s5.v 0 = _
              rw [K5.1 0 (by decide)]
              exact v03
            have q2 : s11.f 1 = s.f 1 := by
              rw [← e11, ← e8]
              show s5.f 1 = _
              rw [(K5.2 1 (by decide)).1, ← e3]
              exact f11
            unfold TX
            rw [q1, q2]
            exact hT
          have W11 : KWR s11 (ztok z kd (s1.v 20) v nm) := by
            have q2 : s11.g 31 = s.g 31 := by
              rw [← e11, ← e8]
              show s5.g 31 = _
              rw [(K5.2 31 (by decide)).2, ← e3]
              exact (K1.2 31 (by decide)).2
            unfold KWR
            rw [q2]
            exact hW
          have v2011 : s11.v 20 = s5.v 20 := by rw [← e11, ← e8]; rfl
          have v011 : s11.v 0 = s.v 0 := by
            rw [← e11, ← e8]
            show s5.v 0 = _
            rw [K5.1 0 (by decide)]
            exact v03
          refine ih m2 s11 s' (ztok z kd (s1.v 20) v nm) out r6 (x + 1) (X + 1) T11 W11 ?_ ?_ ?_ ax (by omega) (Or.inr ⟨g0, c3⟩) (fun i hi => newT kd v nm g2 g3 g4 i (by omega)) (fun i j h1 h2 => newP kd v nm i j h1 (by omega)) (fun i hi => ?_) hs ?_
          · rw [v2011]; omega
          · rw [v2011, v011]; exact g6
          · show (z.v 10) + 1 = x + 1
            rw [e10]
          · rw [v2011, t6]
            by_cases q : i = X
            · rw [if_pos q]; exact g5
            · rw [if_neg q]
              have := hC i (by omega)
              omega
          · rw [v2011]; exact g1
theorem sim_tokens {s s' : KS} {z z' : RS} (hT : TX s z) (hW : KWR s z) (hs : kX9_split s = some s') (hz : r_cut z = some z') : ∃ N, N ≤ 400 ∧ TK2 N s' z' := by
  unfold kX9_split at hs
  unfold r_cut at hz
  obtain ⟨s1, e1, hs⟩ := letS_inv hs
  obtain ⟨z1, f1, hz⟩ := letS_inv hz
  have v20 : s1.v 20 = 0 := by rw [← e1]; rfl
  have z0 : (0 : Int32).toInt = 0 := by decide
  have h0 := hT.2.1
  refine sim_split fu fu s1 s' z1 z' 303 0 0 (by rw [← e1, ← f1]; exact hT) (by rw [← e1, ← f1]; exact hW) (by rw [v20]; omega) ?_ (by rw [← f1]; rfl) (by decide) (by omega) (Or.inl rfl) (fun i hi => absurd hi (by omega)) (fun i j _ hj => absurd hj (by omega)) (fun i hi => absurd hi (by omega)) hs (by rw [v20]; exact hz)
  rw [v20, ← e1]
  show (0 : Int32).toInt ≤ (s.v 0).toInt
  omega
end
section
/-! ===== the whole reading ===== -/
theorem sim_loop {N sd : Nat} {z00 : RS} {r1 r2 : Int32} {s' : KS} {z' : RS} : ∀ (n m : Nat) (s : KS) (z : RS) (x : Int32), ML N sd s z → InvK s → (∃ c b, RD z00 sd c b z) → 0 ≤ x.toInt → x.toInt ≤ (s.v 15).toInt → kX4_readTape_41L n s x = some (r1, s') → r_read_107L m z = some (r2, z') → ∃ t w, kX4_readTape_75 t = some (r1, s') ∧ r_read_129 w = some (r2, z') ∧ InvK t ∧ (∃ c b, RD z00 sd c b w) ∧ (ML N sd t w ∨ FR2 t w) := by
  intro n
  induction n with
  | zero => intro m s z x _ _ _ _ _ hs; exact none_ne hs
  | succ n ih =>
    intro m s z x hM hI hR hx0 hx hs hz
    have hs : kX4_readTape_41 (kX4_readTape_41L n) s x = some (r1, s') := hs
    cases m with
    | zero => exact none_ne hz
    | succ m =>
    have hz : r_read_107 (r_read_107L m) z = some (r2, z') := hz
    have hP := hM.1
    have hT := hM.2.1
    have hk := hP.kp hT
    have i0 := kp2 hk (c0 := 302) (r0 := 0) (by decide)
    have b1 := hP.2.2.2.2.1
    have b2 := hP.2.2.2.2.2
    have nx : ¬ 400 < x := fun q => by
      have := tn_lt (a := 400) (by decide) rfl q
      omega
    unfold kX4_readTape_41 at hs
    unfold r_read_107 at hz
    rw [if_neg nx, if_pos hP.1] at hs
    rw [if_pos hP.2.1] at hz
    by_cases c : KAt s = 302
    · rw [kat_yes hP.1 hP.kv c, bindI_some, if_neg z_one] at hs
      rw [zis_yes hP.2.1 hP.zv (i0.mp c), bindI_some, if_neg z_one] at hz
      exact ⟨s, z, hs, hz, hI, hR, Or.inl hM⟩
    · rw [kat_no hP.1 hP.kv c, bindI_some, if_pos rfl] at hs
      rw [zis_no hP.2.1 hP.zv (fun q => c (i0.mpr q)), bindI_some, if_pos rfl] at hz
      obtain ⟨s6, h6, hs⟩ := bindP_inv hs
      obtain ⟨z5, h5, hz⟩ := bindP_inv hz
      obtain ⟨t, et, It, Ft⟩ := ok_kX4_readTell s hI
      rw [h6] at et
      cases et
      obtain ⟨cc, bb, hRD⟩ := hR
      have z13 : (z.v 13).toInt = 0 := by rw [hP.2.1]; decide
      obtain ⟨w, ew, Rw, _⟩ := ok_tellOne z00 sd cc bb z hRD z13
      rw [h5] at ew
      cases ew
      have ax : (x + 1).toInt = x.toInt + 1 := tn_add rfl (by decide) (by omega) (by omega)
      rcases sim_tell hM hI h6 h5 with ⟨hM2, l2⟩ | F
      · exact ih m s6 z5 (x + 1) hM2 It Rw (by omega) (by omega) hs hz
      · refine ⟨s6, z5, ?_, ?_, It, Rw, Or.inr F⟩
        · cases n with
          | zero => exact none_ne hs
          | succ n =>
          have hs : kX4_readTape_41 (kX4_readTape_41L n) s6 (x + 1) = some (r1, s') := hs
          unfold kX4_readTape_41 at hs
          by_cases q : 400 < x + 1
          · rw [if_pos q] at hs; exact hs
          · rw [if_neg q, if_neg F.ne] at hs; exact hs
        · cases m with
          | zero => exact none_ne hz
          | succ m =>
          have hz : r_read_107 (r_read_107L m) z5 = some (r2, z') := hz
          have n13 : ¬ z5.v 13 = 0 := fun q => by
            have := F.1
            rw [q] at this
            exact absurd this (by decide)
          unfold r_read_107 at hz
          rw [if_neg n13] at hz
          exact hz
theorem nar0 : vp_nar .boolean 0 = 0 := by decide
theorem rsf_ne {z : RS} {k i j : Nat} {x : Int32} (h : ¬ j = i) : (z.sf k i x).f k j = z.f k j := by
  show va_up z.f k (upd (z.f k) i x) k j = _
  unfold va_up
  rw [if_pos rfl]
  exact upd_ne h
theorem held_off : ∀ (m : Nat) (z : RS) (x : Int32), 0 ≤ x.toInt → x.toInt ≤ 3 → Pt (r_read_214L m z x) (fun y => y.1 = 0 ∧ FrR [156] z y.2 ∧ (∀ j : Nat, x.toInt ≤ (j : Int) → j < 3 → y.2.f 56 j = 0) ∧ (∀ j : Nat, (j : Int) < x.toInt → y.2.f 56 j = z.f 56 j)) := by
  intro m
  induction m with
  | zero => intro z x _ _; exact pt_none
  | succ m ih =>
    intro z x h0 h3
    show Pt (r_read_214 (r_read_214L m) z x) _
    unfold r_read_214
    refine pt_ite (fun c => ?_) (fun c => pt_ite (fun _ => ?_) (fun _ => pt_none))
    · have c := tn_le (a := 3) (by decide) rfl c
      exact pt_some ⟨rfl, FrR.rfl, fun j h1 h2 => by omega, fun _ _ => rfl⟩
    · have c := tn_nle (a := 3) (by decide) rfl c
      have a : (x + 1).toInt = x.toInt + 1 := tn_add rfl (by decide) (by omega) (by omega)
      have ec := clampI h0
      intro y hy
      obtain ⟨t, et, hy⟩ := letS_inv hy
      obtain ⟨q1, q2, q3, q4⟩ := ih t (x + 1) (by omega) (by omega) y hy
      refine ⟨q1, ?_, fun j h1 h2 => ?_, fun j h1 => ?_⟩
      · refine FrR.trans (t := t) ?_ q2 (by decide)
        rw [← et]
        exact FrR.rfl.sf (by decide)
      · by_cases e : j = x.toNatClampNeg
        · rw [q4 j (by omega), ← et, e, rsf_get]
          exact nar0
        · exact q3 j (by omega) h2
      · rw [q4 j (by omega), ← et]
        exact rsf_ne (by omega)
theorem sim_end {N sd c b : Nat} {z00 w z' : RS} {t s' : KS} {r1 r2 : Int32} (hI : InvK t) (hR : RD z00 sd c b w) (h : ML N sd t w ∨ FR2 t w) (hs : kX4_readTape_75 t = some (r1, s')) (hz : r_read_129 w = some (r2, z')) : r1 = r2 ∧ s'.v 17 = z'.v 17 ∧ FrK [10, 16, 17, 117, 118] t s' ∧ ((r1 = 0 ∧ t.v 8 = w.f 20 sd ∧ z'.v 18 = w.v 19 ∧ z'.v 51 = 0 ∧ (∀ j : Nat, j < 3 → z'.f 56 j = 0) ∧ FrR [17, 18, 45, 48, 51, 143, 144, 146, 156] w z' ∧ ML N sd t w) ∨ (¬ r1 = 0 ∧ FrR [17] w z')) := by
  unfold kX4_readTape_75 kX4_readTape_98 at hs
  unfold r_read_129 r_read_159 at hz
  rcases h with hM | F
  · obtain ⟨hP, hT, hL, h12, h19, e8, e9, hb8, hb9, hNM⟩ := id hM
    rw [if_pos hP.1] at hs
    obtain ⟨s2, d2, hs⟩ := letS_inv hs
    obtain ⟨s4, d4, hs⟩ := letS_inv hs
    have K4 : FrK [10, 16, 17, 117, 118] t s4 := by rw [← d4, ← d2]; exact (FrK.rfl.sv (k := 16) (by decide)).sv (k := 17) (by decide)
    have v16 : s4.v 16 = t.v 18 := by rw [← d4, ← d2]; rfl
    have v17 : s4.v 17 = t.v 19 := by rw [← d4, ← d2]; rfl
    have q13 : w.v 13 ≤ 0 := by rw [hP.2.1]; decide
    obtain ⟨e18, hcs⟩ := hL
    rw [if_pos q13] at hz
    by_cases z15 : w.v 15 = 0
    · have s19 : t.v 19 = -1 := by
        rcases hcs with q | ⟨_, q, _⟩
        · exact q.2
        · rw [z15] at q
          rcases q with q | q <;> exact absurd q (by decide)
      have q15 : w.v 15 ≤ 0 := by rw [z15]; decide
      rw [if_pos (by rw [v16, e18]; exact z15)] at hs
      obtain ⟨s6, h6, hs⟩ := bindP_inv hs
      cases hs
      have I4 : InvK s4 := by
        rw [← d4, ← d2]
        exact (hI.svF (k := 16) rfl rfl).svF (k := 17) rfl rfl
      obtain ⟨y6, f6, I6, F6⟩ := ok_kX5_addUp s4 I4
      rw [h6] at f6
      cases f6
      rw [if_pos q15] at hz
      obtain ⟨z1, g1, hz⟩ := letS_inv hz
      have Ga : FrR [17, 18, 45, 48, 51, 143, 144, 146, 156] w z1 := by rw [← g1]; exact FrR.rfl.sv (by decide)
      rw [if_pos (show z1.v 13 ≤ 0 by rw [Ga.1 13 (by decide)]; exact q13), if_pos (show z1.v 15 ≤ 0 by rw [Ga.1 15 (by decide)]; exact q15)] at hz
      obtain ⟨z5, g5, hz⟩ := letS_inv hz
      obtain ⟨z7, g7, hz⟩ := bindP_inv hz
      obtain ⟨z8, g8, hz⟩ := bindP_inv hz
      obtain ⟨z9, g9, hz⟩ := letS_inv hz
      obtain ⟨z11, g11, hz⟩ := letS_inv hz
      have hIw : InvR w := hR.1.1
      have hsd : sd ≤ 1 := hR.1.2.2.1
      have I1 : InvR z1 := by rw [← g1]; exact hIw.svF (k := 17) rfl rfl
      have e119 : z1.v 19 = w.v 19 := Ga.1 19 (by decide)
      have I5 : InvR z5 := by rw [← g5]; exact I1.sv (k := 18) (show (0 : Int) ≤ (z1.v 19).toInt by rw [e119]; omega) (show (z1.v 19).toInt ≤ (1 : Int) by rw [e119]; omega)
      obtain ⟨y7, f7, I7, F7, _⟩ := ok_begins z5 I5
      rw [g7] at f7
      cases f7
      obtain ⟨y8, f8, I8, F8⟩ := ok_r_keepsRow z7 I7
      rw [g8] at f8
      cases f8
      have G5 : FrR [17, 18, 45, 48, 51, 143, 144, 146, 156] w z5 := by rw [← g5]; exact Ga.sv (by decide)
      have G8 := (G5.trans F7 (by decide)).trans F8 (by decide)
      have G11 : FrR [17, 18, 45, 48, 51, 143, 144, 146, 156] w z11 := by rw [← g11, ← g9]; exact (G8.sv (k := 48) (by decide)).sv (k := 51) (by decide)
      have z0 : (0 : Int32).toInt = 0 := by decide
      obtain ⟨q1, q2, q3, _⟩ := held_off fu z11 0 (by decide) (by decide) _ hz
      have q1 : r2 = 0 := q1
      have r0 : s'.v 16 = 0 := by rw [F6.1 16 (by decide), v16, e18]; exact z15
      have x17 : z11.v 17 = -1 := by
        have a : z11.v 17 = z8.v 17 := by rw [← g11, ← g9]; rfl
        have b : z5.v 17 = z1.v 17 := by rw [← g5]; rfl
        rw [a, F8.1 17 (by decide), F7.1 17 (by decide), b, ← g1]
        rfl
      have x18 : z11.v 18 = w.v 19 := by
        have a : z11.v 18 = z8.v 18 := by rw [← g11, ← g9]; rfl
        have b : z5.v 18 = z1.v 19 := by rw [← g5]; rfl
        rw [a, F8.1 18 (by decide), F7.1 18 (by decide), b, e119]
      have x51 : z11.v 51 = 0 := by rw [← g11]; rfl
      refine ⟨by rw [r0, q1], ?_, K4.trans F6 (by decide), Or.inl ⟨r0, e8, ?_, ?_, fun j hj => q3 j (by omega) hj, G11.trans q2 (by decide), hM⟩⟩
      · show s'.v 17 = _
        rw [F6.1 17 (by decide), v17, s19]
        exact (x17.symm.trans (q2.1 17 (by decide)).symm)
      · exact (q2.1 18 (by decide)).trans x18
      · exact (q2.1 51 (by decide)).trans x51
    · have n15 : ¬ w.v 15 ≤ 0 := fun q => by
        have h1 := tn_le (b := 0) rfl (by decide) q
        rcases hcs with q | ⟨_, q, _⟩
        · exact z15 q.1
        · rcases q with q | q
          · rw [q] at h1; exact absurd h1 (by decide)
          · rw [q] at h1; exact absurd h1 (by decide)
      have n16 : ¬ s4.v 16 = 0 := by rw [v16, e18]; exact z15
      rw [if_neg n16] at hs
      cases hs
      rw [if_neg n15] at hz
      obtain ⟨z1, g1, hz⟩ := letS_inv hz
      have G1 : FrR [17] w z1 := by rw [← g1]; exact FrR.rfl.sv (by decide)
      rw [if_pos (show z1.v 13 ≤ 0 by rw [G1.1 13 (by decide)]; exact q13), if_neg (show ¬ z1.v 15 ≤ 0 by rw [G1.1 15 (by decide)]; exact n15)] at hz
      cases hz
      have s19 : t.v 19 = w.v 16 := by
        rcases hcs with q | ⟨q, _, _⟩
        · exact absurd q.1 z15
        · exact q
      refine ⟨?_, ?_, K4, Or.inr ⟨n16, G1⟩⟩
      · rw [v16, e18, G1.1 15 (by decide)]
      · rw [v17, s19, ← g1]
        rfl
  · have n13 : ¬ w.v 13 ≤ 0 := fun q => by
      have h1 := tn_le (b := 0) rfl (by decide) q
      have h2 := F.1
      omega
    rw [if_neg F.ne, if_neg F.ne] at hs
    cases hs
    rw [if_neg n13] at hz
    obtain ⟨z1, g1, hz⟩ := letS_inv hz
    have G1 : FrR [17] w z1 := by rw [← g1]; exact FrR.rfl.sv (by decide)
    rw [if_neg (show ¬ z1.v 13 ≤ 0 by rw [G1.1 13 (by decide)]; exact n13)] at hz
    cases hz
    refine ⟨?_, ?_, FrK.rfl, Or.inr ⟨F.ne, G1⟩⟩
    · rw [F.2.1, G1.1 13 (by decide)]
    · rw [F.2.2, ← g1]
      rfl
end
section
/-! the text is copied, then all begins -/
noncomputable def rrest (s : RS) : Option (Int32 × RS) := (letS (s.sv 2 0) fun s2 => (bindP (r_cut s2) fun s4 => (letS (s4.sv 11 0) fun s5 => (letS (s5.sv 12 0) fun s7 => (letS (s7.sv 13 0) fun s9 => (letS (s9.sv 15 0) fun s11 => (letS (s11.sv 19 (1 - (s11.v 18))) fun s13 => (bindP (r_plain s13 (s13.v 19)) fun s15 => (letS (s15.sv 29 (130 * (s15.v 19))) fun s16 => (letS (s16.sv 35 (420 * (s16.v 19))) fun s18 => r_read_107L fu s18))))))))))
theorem copy_inv {out : Int32 × RS} : ∀ (m : Nat) (z : RS) (x : Int32), 0 ≤ x.toInt → (z.v 4).toInt ≤ 2000 → InvR z → r_read_10L m z x = some out → ∃ u, rrest u = some out ∧ InvR u ∧ FrR [103] z u ∧ (∀ j : Nat, x.toInt ≤ (j : Int) → (j : Int) < (z.v 4).toInt → u.f 3 j = vp_nar .byte (z.f 1 j)) ∧ (∀ j : Nat, (j : Int) < x.toInt → u.f 3 j = z.f 3 j) := by
  intro m
  induction m with
  | zero => intro z x _ _ _ h; exact none_ne h
  | succ m ih =>
    intro z x h0 h4 hI h
    have h : r_read_10 (r_read_10L m) z x = some out := h
    unfold r_read_10 at h
    by_cases c : z.v 4 ≤ x
    · have c' := ti_le c
      rw [if_pos c] at h
      exact ⟨z, h, hI, FrR.rfl, fun j h1 h2 => by omega, fun _ _ => rfl⟩
    · have c' := ti_nle c
      rw [if_neg c] at h
      obtain ⟨_, h⟩ := guard_inv h
      obtain ⟨_, h⟩ := guard_inv h
      obtain ⟨t, et, h⟩ := letS_inv h
      have a : (x + 1).toInt = x.toInt + 1 := tn_add rfl (by decide) (by omega) (by omega)
      have ec := clampI h0
      have v4 : t.v 4 = z.v 4 := by rw [← et]; rfl
      have f1 : t.f 1 = z.f 1 := by rw [← et]; rfl
      obtain ⟨u, q1, qI, q2, q3, q4⟩ := ih t (x + 1) (by omega) (by rw [v4]; exact h4) (by rw [← et]; exact hI.sfF (k := 3) rfl rfl) h
      rw [v4, f1] at q3
      refine ⟨u, q1, qI, ?_, fun j h1 h2 => ?_, fun j h1 => ?_⟩
      · refine FrR.trans (t := t) ?_ q2 (by decide)
        rw [← et]
        exact FrR.rfl.sf (by decide)
      · by_cases e : j = x.toNatClampNeg
        · rw [q4 j (by omega), ← et, e, rsf_get]
        · exact q3 j (by omega) h2
      · rw [q4 j (by omega), ← et]
        exact rsf_ne (by omega)
theorem and255_mod (x : Int32) : (x &&& 255).toInt = x.toInt % 256 := by
  have e : (x &&& 255).toBitVec.toNat = x.toBitVec.toNat % 256 := by
    show (x.toBitVec &&& 255#32).toNat = _
    rw [BitVec.toNat_and]
    have := Nat.and_two_pow_sub_one_eq_mod x.toBitVec.toNat 8
    exact this
  have h : (x &&& 255).toInt = ((x &&& 255).toBitVec.toNat : Int) := by
    show (x &&& 255).toBitVec.toInt = _
    rw [BitVec.toInt_eq_toNat_of_lt (by omega)]
  have c := BitVec.toInt_eq_toNat_cond x.toBitVec
  have ex : x.toInt = x.toBitVec.toInt := rfl
  rw [h, e, ex]
  split at c <;> omega
theorem nar255 (x : Int32) : (vp_nar .byte x) &&& 255 = x &&& 255 := by
  refine Int32.toInt_inj.mp ?_
  rw [and255_mod, and255_mod, vp_nar_byte, Int8.toInt_toInt32, Int32.toInt_toInt8]
  exact Int.bmod_emod
theorem fr_plainL (x : Int32) : ∀ (n : Nat) (z0 z : RS) (x2 : Int32), FrR [127, 128] z0 z → Pt (r_plain_23L n z x x2) (FrR [127, 128] z0) := by
  intro n
  induction n with
  | zero => intro z0 z x2 _; exact pt_none
  | succ n ih =>
    intro z0 z x2 h
    show Pt (r_plain_23 (r_plain_23L n) z x x2) _
    unfold r_plain_23
    refine pt_ite (fun _ => pt_some h) (fun _ => pt_ite (fun _ => ?_) (fun _ => pt_none))
    refine pt_let (P := FrR [127, 128] z0) (h.sf (by decide)) (fun s h => ?_)
    refine pt_ite (fun _ => ?_) (fun _ => pt_none)
    exact pt_let (P := FrR [127, 128] z0) (h.sf (by decide)) (fun s h => ih _ _ _ h)
theorem plain_23 {z z' : RS} {x : Int32} (h : r_plain z x = some z') : z'.f 20 x.toNatClampNeg = 0 ∧ z'.f 23 x.toNatClampNeg = 0 ∧ z'.f 26 x.toNatClampNeg = 0 := by
  unfold r_plain at h
  obtain ⟨_, h⟩ := guard_inv h
  obtain ⟨z2, e2, h⟩ := letS_inv h
  obtain ⟨_, h⟩ := guard_inv h
  obtain ⟨z5, e5, h⟩ := letS_inv h
  obtain ⟨_, h⟩ := guard_inv h
  obtain ⟨z8, e8, h⟩ := letS_inv h
  have F := fr_plainL x fu z8 z8 0 FrR.rfl _ h
  refine ⟨?_, ?_, ?_⟩
  · rw [(F.2 20 (by decide)).1, ← e8, ← e5]
    show z2.f 20 _ = 0
    rw [← e2]
    exact rsf_get
  · rw [(F.2 23 (by decide)).1, ← e8]
    show z5.f 23 _ = 0
    rw [← e5]
    exact rsf_get
  · rw [(F.2 26 (by decide)).1, ← e8]
    exact rsf_get
theorem Far.fr2 {sd : Nat} {s y : RS} {W : List Nat} (h : FrR W s y) (hW : ∀ k ∈ [120, 121, 127, 128, 130, 131, 132, 133, 134, 136, 137], k ∉ W) : Far sd s y := by
  have e (k : Nat) (hk : 100 + k ∈ [120, 121, 127, 128, 130, 131, 132, 133, 134, 136, 137]) : y.f k = s.f k := (h.2 k (hW _ hk)).1
  refine ⟨fun j _ => ⟨by rw [e 36 (by decide)], by rw [e 37 (by decide)]⟩, fun j _ => ⟨by rw [e 30 (by decide)], by rw [e 31 (by decide)], by rw [e 32 (by decide)], by rw [e 33 (by decide)], by rw [e 34 (by decide)]⟩, fun j _ => ⟨by rw [e 27 (by decide)], by rw [e 28 (by decide)]⟩, fun j _ => by rw [e 20 (by decide)], fun j _ => by rw [e 21 (by decide)]⟩
/-- all laws, on both sides, between two calls -/
noncomputable def LAWF (sd : Nat) (F P S C : Nat → Int32) (z : RS) : Prop := ∀ cl, cl < 4 → LawR 404 ((420 * sd : Nat) : Int) ((420 * sd + 402 : Nat) : Int) (130 * sd) (130 * sd + 103) F P S C cl (4 * sd + cl) z
theorem LAWF.far {l sd : Nat} {F P S C : Nat → Int32} {z z' : RS} (h : LAWF l F P S C z) (hl : l + sd = 1) (R : Far sd z z') : LAWF l F P S C z' := by
  intro cl hcl
  refine (h cl hcl).keep (fun _ _ => rfl) (fun _ _ _ => rfl) rfl rfl (fun i q1 q2 => ?_) (fun i q1 q2 => ?_) ?_ ?_ (Int.le_refl _) (Int.le_refl _) (Nat.le_refl _)
  · have q := R.1 i (by omega)
    unfold es
    rw [q.1, q.2]
  · exact R.2.1 i (by omega)
  · exact (R.2.2.1 _ (by omega)).1
  · exact (R.2.2.1 _ (by omega)).2
theorem LAWF.fr {l : Nat} {F P S C : Nat → Int32} {z z' : RS} {W : List Nat} (h : LAWF l F P S C z) (G : FrR W z z') (hW : (127 ∉ W ∧ 128 ∉ W) ∧ (130 ∉ W ∧ 131 ∉ W ∧ 132 ∉ W ∧ 133 ∉ W ∧ 134 ∉ W) ∧ 136 ∉ W ∧ 137 ∉ W) : LAWF l F P S C z' := by
  intro cl hcl
  exact (h cl hcl).keep (fun _ _ => rfl) (fun _ _ _ => rfl) rfl rfl (fun i _ _ => by rw [es_fr G hW.2.2.1 hW.2.2.2]) (fun i _ _ => SmB.fr G hW.2.1) (by rw [(G.2 27 hW.1.1).1]) (by rw [(G.2 28 hW.1.2).1]) (Int.le_refl _) (Int.le_refl _) (Nat.le_refl _)
theorem one_eq {s s1 s2 s3 : KS} {xc x : Int32} {cl n : Nat} (hx : xc.toInt = (cl : Int)) (hcl : cl < 4) (hn : (s.v 12).toInt = (n : Int)) (hn4 : n ≤ 3) (h1 : kX1_begin s xc = some s1) (h2 : kX1_put s1 x = some s2) (h3 : kX1_endPart s2 = some s3) : (s3.v 12).toInt = (n : Int) + 1 ∧ (∀ i, i < n → s3.f 22 i = s.f 22 i) ∧ s3.f 22 n = x ∧ (∀ i, s3.f 23 i = if i = 13 * cl then s3.v 12 else s.f 23 i) ∧ (∀ i, s3.f 24 i = if i = cl then s.v 12 else s.f 24 i) ∧ s3.f 25 cl = 1 ∧ (∀ i, ¬ i = cl → s3.f 25 i = s.f 25 i) := by
  obtain ⟨b12, b13, b22, b23, b24, b25⟩ := begin_eq hx h1
  have n1 : (s1.v 12).toInt = (n : Int) := by rw [b12]; exact hn
  have ep := put_em (by omega) (by omega) h2
  have fp := (fr_put (s0 := s1) x FrK.rfl _ h2).1
  obtain ⟨e12, e13, e22, e24, e23, e25, e25c⟩ := endPart_eq (cl := cl) (j := 0) (by rw [fp.1 13 (by decide), b13]; exact hx) hcl (by rw [(fp.2 25 (by decide)).1, b25, if_pos rfl]; decide) (by omega) h3
  have ec : (s1.v 12).toNatClampNeg = n := clamp_of_int n1
  have p1 : (s2.v 12).toInt = (s1.v 12).toInt + 1 := ep.2.1
  have p3 : [s2.f 22 (s1.v 12).toNatClampNeg] = [x] := ep.2.2.2
  rw [ec] at p3
  have p4 : s2.f 22 n = x := by injection p3
  refine ⟨by rw [e12]; omega, fun i hi => ?_, by rw [e22]; exact p4, fun i => ?_, fun i => ?_, ?_, fun i hi => ?_⟩
  · rw [e22, ep.2.2.1 i (by omega), b22]
  · rw [e23, Nat.add_zero, e12, (fp.2 23 (by decide)).1, b23]
  · rw [e24, (fp.2 24 (by decide)).1, b24]
  · exact Int32.toInt_inj.mp (e25c.trans (by decide))
  · rw [e25 i hi, (fp.2 25 (by decide)).1, b25, if_neg hi]
theorem sgl1 {F : Nat → Int32} {a b x : Int32} {n : Nat} (ha : a.toInt = (n : Int)) (hb : b.toInt = (n : Int) + 1) (hf : F n = x) : Sg F a b [x] := by
  refine ⟨by omega, ?_, ?_⟩
  · show b.toInt = a.toInt + ((1 : Nat) : Int)
    omega
  · show [F a.toNatClampNeg] = [x]
    rw [clamp_of_int ha, hf]
noncomputable def CLR (s : KS) : Prop := (s.v 12).toInt = 4 ∧ ∀ cl, cl < 4 → s.f 25 cl = 1 ∧ Sg (s.f 22) (s.f 24 cl) (s.f 23 (13 * cl)) [dfl cl] ∧ (s.f 23 (13 * cl)).toInt ≤ 4
theorem clear_eq {s s' : KS} (h : kX1_clear s = some s') : CLR s' := by
  unfold kX1_clear at h
  obtain ⟨a0, d0, h⟩ := letS_inv h
  obtain ⟨a1, h1, h⟩ := bindP_inv h
  obtain ⟨a2, h2, h⟩ := bindP_inv h
  obtain ⟨a3, h3, h⟩ := bindP_inv h
  obtain ⟨a4, h4, h⟩ := bindP_inv h
  obtain ⟨a5, h5, h⟩ := bindP_inv h
  obtain ⟨a6, h6, h⟩ := bindP_inv h
  obtain ⟨a7, h7, h⟩ := bindP_inv h
  obtain ⟨a8, h8, h⟩ := bindP_inv h
  obtain ⟨a9, h9, h⟩ := bindP_inv h
  obtain ⟨a10, h10, h⟩ := bindP_inv h
  obtain ⟨a11, h11, h⟩ := bindP_inv h
  obtain ⟨a12, h12, h⟩ := bindP_inv h
  have eh : s' = a12 := by cases h; rfl
  unfold kX1_putVar at h2
  unfold kX1_putNumber at h5 h8 h11
  rw [bindP_id] at h2 h5 h8 h11
  have n0 : (a0.v 12).toInt = ((0 : Nat) : Int) := by rw [← d0]; show (0 : Int32).toInt = _; decide
  obtain ⟨A1, A2, A3, A4, A5, A6, A7⟩ := one_eq (cl := 0) (n := 0) (by decide) (by omega) n0 (by omega) h1 h2 h3
  obtain ⟨B1, B2, B3, B4, B5, B6, B7⟩ := one_eq (cl := 1) (n := 1) (by decide) (by omega) (by omega) (by omega) h4 h5 h6
  obtain ⟨C1, C2, C3, C4, C5, C6, C7⟩ := one_eq (cl := 2) (n := 2) (by decide) (by omega) (by omega) (by omega) h7 h8 h9
  obtain ⟨D1, D2, D3, D4, D5, D6, D7⟩ := one_eq (cl := 3) (n := 3) (by decide) (by omega) (by omega) (by omega) h10 h11 h12
  rw [eh]
  refine ⟨by omega, fun cl hcl => ?_⟩
  rcases (show cl = 0 ∨ cl = 1 ∨ cl = 2 ∨ cl = 3 by omega) with e | e | e | e <;> subst e
  · have f23 : a12.f 23 (13 * 0) = a3.v 12 := by rw [D4, if_neg (by omega), C4, if_neg (by omega), B4, if_neg (by omega), A4, if_pos rfl]
    have f24 : a12.f 24 0 = a0.v 12 := by rw [D5, if_neg (by omega), C5, if_neg (by omega), B5, if_neg (by omega), A5, if_pos rfl]
    refine ⟨by rw [D7 _ (by omega), C7 _ (by omega), B7 _ (by omega)]; exact A6, ?_, by rw [f23]; omega⟩
    rw [f23, f24]
    exact sgl1 (n := 0) n0 (by omega) (by rw [D2 0 (by omega), C2 0 (by omega), B2 0 (by omega), A3]; decide)
  · have f23 : a12.f 23 (13 * 1) = a6.v 12 := by rw [D4, if_neg (by omega), C4, if_neg (by omega), B4, if_pos rfl]
    have f24 : a12.f 24 1 = a3.v 12 := by rw [D5, if_neg (by omega), C5, if_neg (by omega), B5, if_pos rfl]
    refine ⟨by rw [D7 _ (by omega), C7 _ (by omega)]; exact B6, ?_, by rw [f23]; omega⟩
    rw [f23, f24]
    exact sgl1 (n := 1) (by omega) (by omega) (by rw [D2 1 (by omega), C2 1 (by omega), B3]; decide)
  · have f23 : a12.f 23 (13 * 2) = a9.v 12 := by rw [D4, if_neg (by omega), C4, if_pos rfl]
    have f24 : a12.f 24 2 = a6.v 12 := by rw [D5, if_neg (by omega), C5, if_pos rfl]
    refine ⟨by rw [D7 _ (by omega)]; exact C6, ?_, by rw [f23]; omega⟩
    rw [f23, f24]
    exact sgl1 (n := 2) (by omega) (by omega) (by rw [D2 2 (by omega), C3]; decide)
  · have f23 : a12.f 23 (13 * 3) = a12.v 12 := by rw [D4, if_pos rfl]
    have f24 : a12.f 24 3 = a9.v 12 := by rw [D5, if_pos rfl]
    refine ⟨D6, ?_, by rw [f23]; omega⟩
    rw [f23, f24]
    exact sgl1 (n := 3) (by omega) (by omega) (by rw [D3]; decide)
theorem read_tape {s s' : KS} {z z' : RS} {r1 r2 : Int32} (hI : InvK s) (hR : InvR z) (h0 : s.v 0 = z.v 2) (hb : ∀ i : Nat, (i : Int) < (s.v 0).toInt → s.f 1 i = z.f 1 i) (hW : KWR s z) (hs : kX4_readTape s = some (r1, s')) (hz : r_read z = some (r2, z')) : r1 = r2 ∧ s'.v 17 = z'.v 17 ∧ z'.g 9 = z.g 9 ∧ ((r1 = 0 ∧ s'.v 8 = z'.f 20 (z'.v 18).toNatClampNeg ∧ z'.v 51 = 0 ∧ (∀ j : Nat, j < 3 → z'.f 56 j = 0) ∧ s'.v 9 = z'.f 23 (z'.v 18).toNatClampNeg ∧ CT (z'.v 18).toNatClampNeg s' z' ∧ LAWF (z'.v 18).toNatClampNeg (s'.f 22) (s'.f 23) (s'.f 24) (s'.f 25) z') ∨ (¬ r1 = 0 ∧ z'.v 18 = z.v 18 ∧ z'.f 20 (z.v 18).toNatClampNeg = z.f 20 (z.v 18).toNatClampNeg ∧ z'.v 51 = z.v 51 ∧ z'.f 56 = z.f 56 ∧ (∀ j : Nat, j < 30 → z'.f 21 (30 * (z.v 18).toNatClampNeg + j) = z.f 21 (30 * (z.v 18).toNatClampNeg + j)) ∧ (∃ sd, (z.v 18).toNatClampNeg + sd = 1 ∧ Far sd z z'))) := by
  have b0 : 0 ≤ (s.v 0).toInt ∧ (s.v 0).toInt ≤ 2000 := hI.1 0
  -- the class begins
  unfold kX4_readTape at hs
  obtain ⟨s1, h1, hs⟩ := bindP_inv hs
  obtain ⟨s2, e2, hs⟩ := letS_inv hs
  obtain ⟨s4, e4, hs⟩ := letS_inv hs
  obtain ⟨s6, e6, hs⟩ := letS_inv hs
  obtain ⟨s8, e8, hs⟩ := letS_inv hs
  obtain ⟨s10, e10, hs⟩ := letS_inv hs
  obtain ⟨s12, h12, hs⟩ := bindP_inv hs
  obtain ⟨y1, q1, I1, F1⟩ := ok_kX5_clear s hI
  rw [h1] at q1
  cases q1
  have c89 : s1.v 8 = 0 ∧ s1.v 9 = 0 ∧ s1.v 11 = 0 ∧ CLR s1 := by
    unfold kX5_clear at h1
    obtain ⟨a1, d1, h1⟩ := letS_inv h1
    obtain ⟨a3, d3, h1⟩ := letS_inv h1
    obtain ⟨a5, d5, h1⟩ := letS_inv h1
    obtain ⟨a7, d7, h1⟩ := letS_inv h1
    rw [bindP_id] at h1
    have Ia : InvK a7 := by
      rw [← d7, ← d5, ← d3, ← d1]
      exact (((hI.sv (k := 8) (show (0 : Int) ≤ (0 : Int32).toInt by decide) (show (0 : Int32).toInt ≤ (5 : Int) by decide)).sv (k := 9) (show (0 : Int) ≤ (0 : Int32).toInt by decide) (show (0 : Int32).toInt ≤ (6 : Int) by decide)).svF (k := 10) rfl rfl).svF (k := 11) rfl rfl
    obtain ⟨y, q, _, F⟩ := ok_kX1_clear a7 Ia
    rw [h1] at q
    cases q
    refine ⟨?_, ?_, ?_, clear_eq h1⟩
    · rw [F.1 8 (by decide), ← d7, ← d5, ← d3, ← d1]; rfl
    · rw [F.1 9 (by decide), ← d7, ← d5, ← d3]; rfl
    · rw [F.1 11 (by decide), ← d7]; rfl
  have K10 : FrK [8, 9, 10, 11, 12, 13, 15, 16, 17, 18, 19, 122, 123, 124, 125] s s10 := by
    rw [← e10, ← e8, ← e6, ← e4, ← e2]
    exact (((((FrK.rfl.trans F1 (by decide)).sv (k := 15) (by decide)).sv (k := 16) (by decide)).sv (k := 17) (by decide)).sv (k := 18) (by decide)).sv (k := 19) (by decide)
  have I10 : InvK s10 := by
    rw [← e10, ← e8, ← e6, ← e4, ← e2]
    exact ((((I1.sv (k := 15) (show (0 : Int) ≤ (0 : Int32).toInt by decide) (show (0 : Int32).toInt ≤ (400 : Int) by decide)).svF (k := 16) rfl rfl).svF (k := 17) rfl rfl).svF (k := 18) rfl rfl).svF (k := 19) rfl rfl
  obtain ⟨y12, q12, I12, F12⟩ := ok_kX9_split s10 I10
  rw [h12] at q12
  cases q12
  have u8 : s12.v 8 = 0 := by rw [F12.1 8 (by decide), ← e10, ← e8, ← e6, ← e4, ← e2]; exact c89.1
  have u9 : s12.v 9 = 0 := by rw [F12.1 9 (by decide), ← e10, ← e8, ← e6, ← e4, ← e2]; exact c89.2.1
  have u11 : s12.v 11 = 0 := by rw [F12.1 11 (by decide), ← e10, ← e8, ← e6, ← e4, ← e2]; exact c89.2.2.1
  have uL : CLR s12 := by
    unfold CLR
    rw [F12.1 12 (by decide), (F12.2 22 (by decide)).1, (F12.2 23 (by decide)).1, (F12.2 24 (by decide)).1, (F12.2 25 (by decide)).1, ← e10, ← e8, ← e6, ← e4, ← e2]
    exact c89.2.2.2
  have u15 : s12.v 15 = 0 := by rw [F12.1 15 (by decide), ← e10, ← e8, ← e6, ← e4, ← e2]; rfl
  have u16 : s12.v 16 = 0 := by rw [F12.1 16 (by decide), ← e10, ← e8, ← e6, ← e4]; rfl
  have u18 : s12.v 18 = 0 := by rw [F12.1 18 (by decide), ← e10, ← e8]; rfl
  have u19 : s12.v 19 = -1 := by rw [F12.1 19 (by decide), ← e10]; rfl
  -- the reference begins
  unfold r_read at hz
  obtain ⟨z1, g1, hz⟩ := letS_inv hz
  have v41 : z1.v 4 = z.v 2 := by rw [← g1]; rfl
  have G1 : FrR [4] z z1 := by rw [← g1]; exact FrR.rfl.sv (by decide)
  have z0 : (0 : Int32).toInt = 0 := by decide
  have I1z : InvR z1 := by rw [← g1]; exact hR.sv (k := 4) (show (0 : Int) ≤ (z.v 2).toInt by rw [← h0]; exact b0.1) (show (z.v 2).toInt ≤ (2000 : Int) by rw [← h0]; exact b0.2)
  obtain ⟨u, hz, Iu, Gu, cp, _⟩ := copy_inv fu z1 0 (by decide) (by rw [v41, ← h0]; exact b0.2) I1z hz
  unfold rrest at hz
  obtain ⟨z2, g2, hz⟩ := letS_inv hz
  obtain ⟨z4, g4, hz⟩ := bindP_inv hz
  obtain ⟨z5, g5, hz⟩ := letS_inv hz
  obtain ⟨z7, g7, hz⟩ := letS_inv hz
  obtain ⟨z9, g9, hz⟩ := letS_inv hz
  obtain ⟨z11, g11, hz⟩ := letS_inv hz
  obtain ⟨z13, g13, hz⟩ := letS_inv hz
  obtain ⟨z15, g15, hz⟩ := bindP_inv hz
  obtain ⟨z16, g16, hz⟩ := letS_inv hz
  obtain ⟨z18, g18, hz⟩ := letS_inv hz
  have I2 : InvR z2 := by rw [← g2]; exact Iu.sv (k := 2) (show (0 : Int) ≤ (0 : Int32).toInt by decide) (show (0 : Int32).toInt ≤ (2000 : Int) by decide)
  have G2 : FrR [2, 4, 103] z z2 := by rw [← g2]; exact ((FrR.rfl.trans G1 (by decide)).trans Gu (by decide)).sv (k := 2) (by decide)
  obtain ⟨y4, q4, I4, F4⟩ := ok_cut z2 I2
  rw [g4] at q4
  cases q4
  have hTX : TX s10 z2 := by
    have a1 : s10.v 0 = s.v 0 := K10.1 0 (by decide)
    have a2 : s10.f 1 = s.f 1 := (K10.2 1 (by decide)).1
    have a3 : z2.v 4 = z.v 2 := by
      rw [← g2]
      show u.v 4 = _
      rw [Gu.1 4 (by decide)]
      exact v41
    refine ⟨by rw [a1, a3]; exact h0, by rw [a1]; exact b0.1, by rw [a1]; exact b0.2, fun i hi => ?_⟩
    rw [a1] at hi
    have a4 : z2.f 3 i = vp_nar .byte (z1.f 1 i) := by
      rw [← g2]
      exact cp i (by omega) (by rw [v41, ← h0]; exact hi)
    have a5 : z1.f 1 = z.f 1 := (G1.2 1 (by decide)).1
    rw [a2, a4, a5, nar255, hb i hi]
  have hKW : KWR s10 z2 := by
    unfold KWR
    rw [(K10.2 31 (by decide)).2, (G2.2 9 (by decide)).2]
    exact hW
  obtain ⟨N, hN, hTK⟩ := sim_tokens hTX hKW h12 g4
  have F13 : FrR [11, 12, 13, 15, 19] z4 z13 := by
    rw [← g13, ← g11, ← g9, ← g7, ← g5]
    exact ((((FrR.rfl.sv (k := 11) (by decide)).sv (k := 12) (by decide)).sv (k := 13) (by decide)).sv (k := 15) (by decide)).sv (k := 19) (by decide)
  have I11 : InvR z11 := by
    rw [← g11, ← g9, ← g7, ← g5]
    exact (((I4.sv (k := 11) (show (0 : Int) ≤ (0 : Int32).toInt by decide) (show (0 : Int32).toInt ≤ (400 : Int) by decide)).svF (k := 12) rfl rfl).sv (k := 13) (show (0 : Int) ≤ (0 : Int32).toInt by decide) (show (0 : Int32).toInt ≤ (2 : Int) by decide)).sv (k := 15) (show (0 : Int) ≤ (0 : Int32).toInt by decide) (show (0 : Int32).toInt ≤ (5 : Int) by decide)
  have h18 : 0 ≤ (z11.v 18).toInt ∧ (z11.v 18).toInt ≤ 1 := I11.1 18
  have a18 : (1 - (z11.v 18)).toInt = 1 - (z11.v 18).toInt := tn_sub (by decide) rfl (by omega) (by omega)
  have I13 : InvR z13 := by rw [← g13]; exact I11.sv (k := 19) (show (0 : Int) ≤ (1 - (z11.v 18)).toInt by omega) (show (1 - (z11.v 18)).toInt ≤ (1 : Int) by omega)
  have e19 : z13.v 19 = 1 - (z11.v 18) := by rw [← g13]; rfl
  have e18 : z13.v 18 = z11.v 18 := by rw [← g13]; rfl
  have e11 : z13.v 11 = 0 := by rw [← g13, ← g11, ← g9, ← g7, ← g5]; rfl
  have e12 : z13.v 12 = 0 := by rw [← g13, ← g11, ← g9, ← g7]; rfl
  have e13 : z13.v 13 = 0 := by rw [← g13, ← g11, ← g9]; rfl
  have e15 : z13.v 15 = 0 := by rw [← g13, ← g11]; rfl
  obtain ⟨sd, hsd⟩ : ∃ sd : Nat, (z13.v 19).toInt = (sd : Int) := ⟨(z13.v 19).toInt.toNat, by rw [e19]; omega⟩
  have hsd1 : sd ≤ 1 := by rw [e19] at hsd; omega
  have hl13 : (z13.v 18).toInt + (sd : Int) = 1 := by rw [e18, ← hsd, e19]; omega
  obtain ⟨y15, q15, I15, F15, R15, w15, l15⟩ := ok_plain sd z13 (z13.v 19) hsd1 hsd I13
  rw [g15] at q15
  cases q15
  have pl := plain_23 g15
  rw [clamp_of_int hsd] at pl
  have e1519 : z15.v 19 = z13.v 19 := F15.1 19 (by decide)
  have I16 : InvR z16 := by rw [← g16]; exact I15.svF (k := 29) rfl rfl
  have F16 : FrR [29] z15 z16 := by rw [← g16]; exact FrR.rfl.sv (k := 29) (by decide)
  have b1 : (130 * (z15.v 19)).toInt = (z15.v 19).toInt * 130 := ti_cmul (c := 130) (by decide) (by rw [e1519]; omega) (by rw [e1519]; omega)
  have e29 : z16.v 29 = 130 * (z15.v 19) := by rw [← g16]; rfl
  have e1619 : z16.v 19 = z15.v 19 := F16.1 19 (by decide)
  have I18 : InvR z18 := by rw [← g18]; exact I16.svF (k := 35) rfl rfl
  have F18 : FrR [35] z16 z18 := by rw [← g18]; exact FrR.rfl.sv (k := 35) (by decide)
  have b2 : (420 * (z16.v 19)).toInt = (z16.v 19).toInt * 420 := ti_cmul (c := 420) (by decide) (by rw [e1619, e1519]; omega) (by rw [e1619, e1519]; omega)
  have e35 : z18.v 35 = 420 * (z16.v 19) := by rw [← g18]; rfl
  have FA : FrR [29, 35] z15 z18 := (FrR.rfl.trans F16 (by decide)).trans F18 (by decide)
  have g (k : Nat) (hk : k ∉ [29, 35]) (hk2 : k ∉ [120, 123, 126, 127, 128]) : z18.v k = z13.v k := (FA.1 k hk).trans (F15.1 k hk2)
  have w11 : z18.v 11 = 0 := (g 11 (by decide) (by decide)).trans e11
  have w12 : z18.v 12 = 0 := (g 12 (by decide) (by decide)).trans e12
  have w13 : z18.v 13 = 0 := (g 13 (by decide) (by decide)).trans e13
  have w15' : z18.v 15 = 0 := (g 15 (by decide) (by decide)).trans e15
  have w19 : z18.v 19 = z13.v 19 := g 19 (by decide) (by decide)
  have w29 : z18.v 29 = 130 * (z15.v 19) := (F18.1 29 (by decide)).trans e29
  rw [e1519] at b1
  rw [e1619, e1519] at b2
  have L : LWS sd z18 0 0 := ⟨I18, by rw [w19]; exact hsd, hsd1, by rw [e35, e1619, e1519]; omega, by rw [w29, e1519]; omega, by rw [w12]; decide, by rw [w12]; decide, fun _ => by rw [w12]; decide, by rw [w11]; decide, fun _ => by rw [w11]; decide⟩
  have e20 : z18.f 20 = z15.f 20 := (FA.2 20 (by decide)).1
  have e23 : z18.f 23 = z15.f 23 := (FA.2 23 (by decide)).1
  have R : RD z18 sd 0 0 z18 := ⟨L, by omega, FrR.rfl, Far.rfl, fun _ => ⟨by rw [w11]; decide, fun k hk => Or.inl (by rw [(FA.2 27 (by decide)).1, (FA.2 28 (by decide)).1]; exact l15 k hk)⟩, fun _ _ w hw => by rw [e20] at hw; omega⟩
  have FZ : FrR [11, 12, 13, 15, 19, 29, 35, 120, 123, 126, 127, 128] z4 z18 := (((FrR.rfl.trans F13 (by decide)).trans F15 (by decide)).trans FA (by decide))
  have hML : ML N sd s12 z18 := by
    refine ⟨⟨u16, w13, by rw [u15, w11], by rw [u15]; decide, by rw [u15, z0]; omega, hN⟩, hTK.fr (FrK.rfl (W := [])) FZ (by decide) (by decide), ⟨by rw [u18, w15'], Or.inl ⟨w15', u19⟩⟩, w12, by rw [w19]; exact hsd, by rw [u8, e20, pl.1], by rw [u9, e23, pl.2.1], by rw [u8]; decide, by rw [u9]; decide, ?_, ⟨fun j hj => ?_, fun p hp => ?_, ?_, hsd1⟩, ?_⟩
    · intro p hp
      rw [u9, z0] at hp
      omega
    · rw [u8, z0] at hj
      omega
    · rw [u9, z0] at hp
      omega
    · rw [u11, (FA.2 26 (by decide)).1, pl.2.2]
    · have c4 := uL.1
      have q35 : (z18.v 35).toInt = ((420 * sd : Nat) : Int) := by rw [e35, e1619, e1519]; omega
      have q29 : (z18.v 29).toInt = ((130 * sd : Nat) : Int) := by rw [w29, e1519]; omega
      refine ⟨⟨by omega, by rw [u15, z0]; omega, by omega⟩, by omega, by omega, fun cl hcl => Or.inl ?_⟩
      obtain ⟨k1, k2, k3⟩ := uL.2 cl hcl
      refine ⟨?_, k1, k2, by omega⟩
      rw [(FA.2 27 (by decide)).1, (FA.2 28 (by decide)).1]
      exact l15 cl hcl
  obtain ⟨t, w, ht, hw, It, ⟨cc, bb, Rw⟩, hcase⟩ := sim_loop fu fu s12 z18 0 hML I12 ⟨0, 0, R⟩ (by decide) (by rw [u15]; decide) hs hz
  obtain ⟨er, ep, Ke, hr⟩ := sim_end It Rw hcase ht hw
  have FWq : FrR WRD z18 w := Rw.2.2.1
  have eg9 : w.g 9 = z.g 9 := by rw [(FWq.2 9 (by decide)).2, (FZ.2 9 (by decide)).2, (F4.2 9 (by decide)).2, (G2.2 9 (by decide)).2]
  refine ⟨er, ep, ?_, ?_⟩
  · rcases hr with ⟨_, _, _, _, _, Gf, _⟩ | ⟨_, Gf⟩
    · rw [(Gf.2 9 (by decide)).2, eg9]
    · rw [(Gf.2 9 (by decide)).2, eg9]
  have hwsd : (w.v 19).toInt = (sd : Int) := Rw.1.2.1
  rcases hr with ⟨r0, q8, q18, q51, q56, Gf, hM2⟩ | ⟨r0, Gf⟩
  · obtain ⟨_, _, _, _, _, _, m9, _, _, _, mCT, mLW⟩ := hM2
    have ec : (z'.v 18).toNatClampNeg = sd := by rw [q18]; exact clamp_of_int hwsd
    refine Or.inl ⟨r0, ?_, q51, q56, ?_, ?_, ?_⟩
    · rw [Ke.1 8 (by decide), q8, q18, (Gf.2 20 (by decide)).1, clamp_of_int hwsd]
    · rw [Ke.1 9 (by decide), m9, ec, (Gf.2 23 (by decide)).1]
    · rw [ec]
      exact mCT.keep (Ke.1 8 (by decide)) (Ke.1 9 (by decide)) (Ke.1 11 (by decide)) (Ke.2 16 (by decide)).1 (Ke.2 19 (by decide)).1 (Ke.2 20 (by decide)).1 (Gf.2 21 (by decide)).1 (Gf.2 24 (by decide)).1 (Gf.2 25 (by decide)).1 (Gf.2 26 (by decide)).1
    · rw [ec, (Ke.2 22 (by decide)).1, (Ke.2 23 (by decide)).1, (Ke.2 24 (by decide)).1, (Ke.2 25 (by decide)).1]
      have t12 : (t.v 12).toInt ≤ 404 := (It.1 12).2
      have w11q : (w.v 11).toInt ≤ 400 := (Rw.1.1.1 11).2
      have w35 := Rw.1.2.2.2.1
      have w29q := Rw.1.2.2.2.2.1
      have wc := Rw.1.2.2.2.2.2.2.2.2.1
      have wb := Rw.2.1
      have ew : (w.v 29).toInt.toNat = (w.v 29).toNatClampNeg := Int32.toNat_toInt _
      intro cl hcl
      exact (mLW.2.2.2 cl hcl).keep (fun _ _ => rfl) (fun _ _ _ => rfl) rfl rfl (fun i _ _ => by rw [es_fr Gf (by decide) (by decide)]) (fun i _ _ => SmB.fr Gf (by decide)) (by rw [(Gf.2 27 (by decide)).1]) (by rw [(Gf.2 28 (by decide)).1]) (by omega) (by omega) (by omega)
  · have FW : FrR WRD z18 w := Rw.2.2.1
    have far := Rw.2.2.2.1
    have lv : z18.v 18 = z.v 18 := by rw [FZ.1 18 (by decide), F4.1 18 (by decide), G2.1 18 (by decide)]
    have z18v : z18.v 18 = z13.v 18 := g 18 (by decide) (by decide)
    have nl : ¬ (z.v 18).toNatClampNeg = sd := fun q => by
      have hz18 : 0 ≤ (z.v 18).toInt ∧ (z.v 18).toInt ≤ 1 := hR.1 18
      have ec := clampI hz18.1
      rw [← z18v, lv] at hl13
      omega
    refine Or.inr ⟨r0, ?_, ?_, ?_, ?_, fun j hj => ?_, sd, ?_, ?_⟩
    · rw [Gf.1 18 (by decide), FW.1 18 (by decide), lv]
    · rw [(Gf.2 20 (by decide)).1, far.2.2.2.1 _ nl, e20, R15.2.2.2.1 _ nl, (F13.2 20 (by decide)).1, (F4.2 20 (by decide)).1, (G2.2 20 (by decide)).1]
    · rw [Gf.1 51 (by decide), FW.1 51 (by decide), FZ.1 51 (by decide), F4.1 51 (by decide), G2.1 51 (by decide)]
    · rw [(Gf.2 56 (by decide)).1, (FW.2 56 (by decide)).1, (FZ.2 56 (by decide)).1, (F4.2 56 (by decide)).1, (G2.2 56 (by decide)).1]
    · have hz18 : 0 ≤ (z.v 18).toInt ∧ (z.v 18).toInt ≤ 1 := hR.1 18
      have ec := clampI hz18.1
      rw [← z18v, lv] at hl13
      rw [(Gf.2 21 (by decide)).1, far.2.2.2.2 _ (by omega), (FA.2 21 (by decide)).1, (F15.2 21 (by decide)).1, (F13.2 21 (by decide)).1, (F4.2 21 (by decide)).1, (G2.2 21 (by decide)).1]
    · have hz18 : 0 ≤ (z.v 18).toInt ∧ (z.v 18).toInt ≤ 1 := hR.1 18
      have ec := clampI hz18.1
      rw [← z18v, lv] at hl13
      omega
    · exact (((((Far.fr2 G2 (by decide)).trans (Far.fr2 F4 (by decide))).trans (Far.fr2 F13 (by decide))).trans R15).trans (Far.fr2 FA (by decide))).trans (far.trans (Far.fr2 Gf (by decide)))
end
section
/-! ===== what a law tells: the two piles ===== -/
noncomputable def opv (k a b : Int32) : Option Int32 := if k = 2 then some (a + b) else if k = 3 then some (a - b) else if k = 4 then some (a * b) else if b = 0 then none else some (a / b)
/-- one sign over a pile -/
noncomputable def evo (o : List Int32 → Option (List Int32)) (k : Int32) : List Int32 → Option (List Int32)
  | [] => none
  | [_] => none
  | b :: a :: t => match opv k a b with
    | some x => o (x :: t)
    | none => none
noncomputable def evl (V : Nat → Int32) : List (Int32 × Int32) → List Int32 → Option (List Int32)
  | [], st => some st
  | p :: l, st => if p.1.toInt ≤ 1 then evl V l ((if p.1 = 0 then p.2 else V p.2.toNatClampNeg) :: st) else evo (evl V l) p.1 st
theorem evl_cons {V : Nat → Int32} {p : Int32 × Int32} {l : List (Int32 × Int32)} {st : List Int32} : evl V (p :: l) st = if p.1.toInt ≤ 1 then evl V l ((if p.1 = 0 then p.2 else V p.2.toNatClampNeg) :: st) else evo (evl V l) p.1 st := rfl
theorem evl_push {V : Nat → Int32} {p : Int32 × Int32} {l : List (Int32 × Int32)} {st : List Int32} (h : p.1.toInt ≤ 1) : evl V (p :: l) st = evl V l ((if p.1 = 0 then p.2 else V p.2.toNatClampNeg) :: st) := by
  rw [evl_cons]
  exact if_pos h
theorem evl_op {V : Nat → Int32} {p : Int32 × Int32} {l : List (Int32 × Int32)} {a b : Int32} {t : List Int32} (h : ¬ p.1.toInt ≤ 1) : evl V (p :: l) (b :: a :: t) = (match opv p.1 a b with
      | some x => evl V l (x :: t)
      | none => none) := by
  rw [evl_cons, if_neg h]
  rfl
theorem jn_fr {s : KS} (x1 x2 x3 : Int32) : Pt (kX1_joined s x1 x2 x3) (fun y => FrK [7, 114] s y.2 ∧ (y.2.v 7 = s.v 7 ∨ y.2.v 7 = 1)) := by
  have dv : Pt (if x3 = 0 then (letS (s.sv 7 1) fun s6 => (some ((0 : Int32), s6))) else (if ¬ x3 = 0 then (some ((x2 / x3), s)) else none)) (fun y => FrK [7, 114] s y.2 ∧ (y.2.v 7 = s.v 7 ∨ y.2.v 7 = 1)) :=
    pt_ite (fun _ => pt_let (P := fun y => FrK [7, 114] s y ∧ y.v 7 = 1) ⟨FrK.rfl.sv (by decide), rfl⟩ (fun t h => pt_some ⟨h.1, Or.inr h.2⟩)) (fun _ => pt_ite (fun _ => pt_some ⟨FrK.rfl, Or.inl rfl⟩) (fun _ => pt_none))
  unfold kX1_joined
  exact pt_ite (fun _ => pt_some ⟨FrK.rfl, Or.inl rfl⟩) (fun _ => pt_ite (fun _ => pt_some ⟨FrK.rfl, Or.inl rfl⟩) (fun _ => pt_ite (fun _ => dv) (fun _ => pt_ite (fun _ => pt_some ⟨FrK.rfl, Or.inl rfl⟩) (fun _ => dv))))
noncomputable def PvQ (s0 : KS) (y : Int32 × KS) : Prop := FrK [7, 114] s0 y.2 ∧ (y.2.v 7 = s0.v 7 ∨ y.2.v 7 = 1)
theorem pv_frL (x4 : Int32) {s0 : KS} : ∀ (n : Nat) (s : KS) (x5 x6 : Int32), FrK [7, 114] s0 s → (s.v 7 = s0.v 7 ∨ s.v 7 = 1) → Pt (kX1_partValue_53L n s x4 x5 x6) (PvQ s0) := by
  intro n
  induction n with
  | zero => intro s x5 x6 _ _; exact pt_none
  | succ n ih =>
    intro s x5 x6 h1 h2
    have h115 : ∀ x7, Pt (kX1_partValue_115 (kX1_partValue_53L n) s x4 x5 x6 x7) (PvQ s0) := fun x7 => by
      unfold kX1_partValue_115 kX1_partValue_156
      refine pt_ite (fun _ => ih s x5 _ h1 h2) (fun _ => pt_ite (fun _ => pt_ite (fun _ => ?_) (fun _ => pt_none)) (fun _ => pt_none))
      refine pt_bindI (jn_fr _ _ _) (fun r t ht => pt_ite (fun _ => ?_) (fun _ => pt_none))
      obtain ⟨k1, k2⟩ := ht
      have k1 : FrK [7, 114] s t := k1
      have k2 : t.v 7 = s.v 7 ∨ t.v 7 = 1 := k2
      refine pt_let (P := fun y => FrK [7, 114] s0 y ∧ (y.v 7 = s0.v 7 ∨ y.v 7 = 1)) ⟨(h1.trans k1 (by decide)).sf (k := 14) (by decide), ?_⟩ (fun u hu => ih u _ _ hu.1 hu.2)
      show t.v 7 = s0.v 7 ∨ t.v 7 = 1
      rcases k2 with q | q
      · rw [q]; exact h2
      · exact Or.inr q
    have h108 : ∀ t0 t1, Pt (kX1_partValue_108 (kX1_partValue_53L n) s x4 x5 x6 t0 t1) (PvQ s0) := fun t0 t1 => by
      unfold kX1_partValue_108 kX1_partValue_156
      refine pt_ite (fun _ => ?_) (fun _ => pt_none)
      exact pt_let (P := fun y => FrK [7, 114] s0 y ∧ (y.v 7 = s0.v 7 ∨ y.v 7 = 1)) ⟨h1.sf (k := 14) (by decide), h2⟩ (fun u hu => ih u _ _ hu.1 hu.2)
    show Pt (kX1_partValue_53 (kX1_partValue_53L n) s x4 x5 x6) _
    unfold kX1_partValue_53
    refine pt_ite (fun _ => pt_some ⟨h1, h2⟩) (fun _ => pt_ite (fun _ => ?_) (fun _ => pt_none))
    refine pt_ite (fun _ => h115 _) (fun _ => pt_ite (fun _ => h115 _) (fun _ => pt_ite (fun _ => ?_) (fun _ => h108 _ _)))
    exact pt_ite (fun _ => h108 _ _) (fun _ => pt_none)
theorem stk_up {f g : Nat → Int32} {st : List Int32} {x : Int32} (h : StkOn f 0 st st.length) (hg : ∀ j, g j = if j = st.length then x else f j) : StkOn g 0 (x :: st) (x :: st).length := by
  refine ⟨st.length, rfl, by rw [hg, if_pos rfl], ?_⟩
  exact StkOn.cg st st.length (fun i hi => by rw [hg, if_neg (by omega)]) h
theorem seg_hd {α : Type} {f : Nat → α} {a n : Nat} {x : α} {l : List α} (h : seg f a (n + 1) = x :: l) : f a = x ∧ seg f (a + 1) n = l := by
  have h : f a :: seg f (a + 1) n = x :: l := h
  injection h with h1 h2
  exact ⟨h1, h2⟩
theorem evl_opk {V : Nat → Int32} {p : Int32 × Int32} {l : List (Int32 × Int32)} {a b x : Int32} {t : List Int32} (h : ¬ p.1.toInt ≤ 1) (ho : opv p.1 a b = some x) : evl V (p :: l) (b :: a :: t) = evl V l (x :: t) := by
  rw [evl_op h, ho]
theorem evl_op0 {V : Nat → Int32} {p : Int32 × Int32} {l : List (Int32 × Int32)} {a b : Int32} {t : List Int32} (h : ¬ p.1.toInt ≤ 1) (ho : opv p.1 a b = none) : evl V (p :: l) (b :: a :: t) = none := by
  rw [evl_op h, ho]
theorem encp_k {p : Int32 × Int32} {k : Int32} (e : p.1 = k) (h0 : ¬ k = 0) (h1 : ¬ k = 1) : encp p = if k = 2 then -43 else if k = 3 then -45 else if k = 4 then -42 else -47 := by
  unfold encp enc
  rw [e, if_neg h0, if_neg h1]
/-- the sign that the class joins by -/
theorem joined_eq {s s' : KS} {p : Int32 × Int32} {a b r : Int32} (hp : p.1 = 2 ∨ p.1 = 3 ∨ p.1 = 4 ∨ p.1 = 5) (h : kX1_joined s (-(encp p)) a b = some (r, s')) : (opv p.1 a b = some r ∧ s' = s) ∨ (opv p.1 a b = none ∧ s' = s.sv 7 1) := by
  unfold kX1_joined at h
  rcases hp with e | e | e | e
  · have q : -(encp p) = 43 := by rw [encp_k e (by decide) (by decide)]; decide
    rw [q, if_neg (by decide), if_pos rfl] at h
    refine Or.inl ⟨?_, by cases h; rfl⟩
    unfold opv
    rw [e, if_pos rfl]
    cases h
    rfl
  · have q : -(encp p) = 45 := by rw [encp_k e (by decide) (by decide)]; decide
    rw [q, if_neg (by decide), if_neg (by decide), if_neg (by decide), if_pos rfl] at h
    refine Or.inl ⟨?_, by cases h; rfl⟩
    unfold opv
    rw [e, if_neg (by decide), if_pos rfl]
    cases h
    rfl
  · have q : -(encp p) = 42 := by rw [encp_k e (by decide) (by decide)]; decide
    rw [q, if_pos rfl] at h
    refine Or.inl ⟨?_, by cases h; rfl⟩
    unfold opv
    rw [e, if_neg (by decide), if_neg (by decide), if_pos rfl]
    cases h
    rfl
  · have q : -(encp p) = 47 := by rw [encp_k e (by decide) (by decide)]; decide
    rw [q, if_neg (by decide), if_neg (by decide), if_neg (by decide), if_neg (by decide)] at h
    have o : opv p.1 a b = if b = 0 then none else some (a / b) := by
      unfold opv
      rw [e, if_neg (by decide), if_neg (by decide), if_neg (by decide)]
    rw [o]
    by_cases c : b = 0
    · rw [if_pos c] at h ⊢
      obtain ⟨s6, d6, h⟩ := letS_inv h
      refine Or.inr ⟨rfl, ?_⟩
      rw [d6]
      cases h
      rfl
    · rw [if_neg c] at h ⊢
      rw [if_pos c] at h
      refine Or.inl ⟨?_, by cases h; rfl⟩
      cases h
      rfl
theorem encp_op {p : Int32 × Int32} (hp : p.1 = 2 ∨ p.1 = 3 ∨ p.1 = 4 ∨ p.1 = 5) : encp p < -9 ∧ ¬ p.1.toInt ≤ 1 := by
  rcases hp with e | e | e | e <;> (rw [encp_k e (by decide) (by decide), e]; decide)
theorem neg1 {x : Int32} (h0 : 0 ≤ x.toInt) (h1 : x.toInt ≤ 8) : ¬ (-1) - x < -9 ∧ (-1) - x < 0 ∧ ((-1) - ((-1) - x)) = x := by
  have c : ∀ k : Int32, x.toInt = k.toInt → x = k := fun k e => Int32.toInt_inj.mp e
  rcases (show x.toInt = 0 ∨ x.toInt = 1 ∨ x.toInt = 2 ∨ x.toInt = 3 ∨ x.toInt = 4 ∨ x.toInt = 5 ∨ x.toInt = 6 ∨ x.toInt = 7 ∨ x.toInt = 8 by omega) with e | e | e | e | e | e | e | e | e
  · have q := c 0 (e.trans (by decide))
    subst q
    decide
  · have q := c 1 (e.trans (by decide))
    subst q
    decide
  · have q := c 2 (e.trans (by decide))
    subst q
    decide
  · have q := c 3 (e.trans (by decide))
    subst q
    decide
  · have q := c 4 (e.trans (by decide))
    subst q
    decide
  · have q := c 5 (e.trans (by decide))
    subst q
    decide
  · have q := c 6 (e.trans (by decide))
    subst q
    decide
  · have q := c 7 (e.trans (by decide))
    subst q
    decide
  · have q := c 8 (e.trans (by decide))
    subst q
    decide
noncomputable def EvK (V : Nat → Int32) (l : List (Int32 × Int32)) (st : List Int32) (r v0 v1 : Int32) : Prop := (∃ v, evl V l st = some [v] ∧ r = v ∧ v1 = v0) ∨ (evl V l st = none ∧ v1 = 1)
theorem pv_ev (V : Nat → Int32) (x4 : Int32) : ∀ (l : List (Int32 × Int32)) (n : Nat) (s : KS) (x5 x6 : Int32) (st : List Int32) (r : Int32) (s' : KS), s.f 13 = V → (∀ p ∈ l, CDz p) → Dp l st.length 1 → 0 ≤ x6.toInt → x4.toInt = x6.toInt + (l.length : Int) → seg (s.f 9) x6.toNatClampNeg l.length = l.map encp → x5.toInt = (st.length : Int) → StkOn (s.f 14) 0 st st.length → kX1_partValue_53L n s x4 x5 x6 = some (r, s') → EvK V l st r (s.v 7) (s'.v 7) := by
  intro l
  induction l with
  | nil =>
    intro n s x5 x6 st r s' hV _ hD h60 h4 _ h5 hS h
    cases n with
    | zero => exact none_ne h
    | succ n =>
    have h : kX1_partValue_53 (kX1_partValue_53L n) s x4 x5 x6 = some (r, s') := h
    unfold kX1_partValue_53 at h
    have h4 : x4.toInt = x6.toInt + ((0 : Nat) : Int) := h4
    rw [if_pos (Int32.le_iff_toInt_le.mpr (by omega))] at h
    have hD : st.length = 1 := hD
    have e1 : r = s.f 14 0 ∧ s' = s := by cases h; exact ⟨rfl, rfl⟩
    cases st with
    | nil => exact absurd hD (by decide)
    | cons v st =>
      cases st with
      | cons w st =>
        have hD : st.length + 1 + 1 = 1 := hD
        omega
      | nil =>
        obtain ⟨m, em, hm, q⟩ := hS
        have q : m = 0 := q
        subst q
        exact Or.inl ⟨v, rfl, by rw [e1.1, hm], by rw [e1.2]⟩
  | cons p l ih =>
    intro n s x5 x6 st r s' hV hC hD h60 h4 hsg h5 hS h
    cases n with
    | zero => exact none_ne h
    | succ n =>
    have h : kX1_partValue_53 (kX1_partValue_53L n) s x4 x5 x6 = some (r, s') := h
    have h4 : x4.toInt = x6.toInt + ((l.length + 1 : Nat) : Int) := h4
    obtain ⟨e1, e2⟩ := seg_hd (show seg (s.f 9) x6.toNatClampNeg (l.length + 1) = encp p :: l.map encp from hsg)
    unfold kX1_partValue_53 at h
    rw [if_neg (fun q => by have := ti_le q; omega)] at h
    obtain ⟨g, h⟩ := guard_inv h
    have g2 : ¬ (x6 < 0 ∨ 404 ≤ x6.toNatClampNeg) := of_decide_eq_true g
    have g3 : ¬ 404 ≤ x6.toNatClampNeg := fun q => g2 (Or.inr q)
    have ec6 : x6.toInt.toNat = x6.toNatClampNeg := Int32.toNat_toInt _
    have a6 : (x6 + 1).toInt = x6.toInt + 1 := tn_add rfl (by decide) (by omega) (by omega)
    have c6 : (x6 + 1).toNatClampNeg = x6.toNatClampNeg + 1 := clamp_of_int (by omega)
    have ec5 : x5.toNatClampNeg = st.length := clamp_of_int h5
    rw [e1] at h
    have push : ∀ t0 : Int32, p.1.toInt ≤ 1 → t0 = (if p.1 = 0 then p.2 else V p.2.toNatClampNeg) → kX1_partValue_108 (kX1_partValue_53L n) s x4 x5 x6 t0 x5 = some (r, s') → EvK V (p :: l) st r (s.v 7) (s'.v 7) := by
      intro t0 hp1 ht0 h
      rcases hD with ⟨q, _, _⟩ | ⟨_, ha, hD⟩
      · omega
      unfold kX1_partValue_108 kX1_partValue_156 at h
      obtain ⟨_, h⟩ := guard_inv h
      obtain ⟨s2, d2, h⟩ := letS_inv h
      have a5 : (x5 + 1).toInt = x5.toInt + 1 := tn_add rfl (by decide) (by omega) (by omega)
      have f14 : ∀ j, s2.f 14 j = if j = st.length then t0 else s.f 14 j := fun j => by
        rw [← d2, ec5]
        exact ksf_at
      have f9 : s2.f 9 = s.f 9 := by rw [← d2]; rfl
      have v7 : s2.v 7 = s.v 7 := by rw [← d2]; rfl
      have r1 := ih n s2 (x5 + 1) (x6 + 1) (t0 :: st) r s' (by rw [← d2]; exact hV) (fun q hq => hC q (List.mem_cons_of_mem _ hq)) hD (by omega) (by omega) (by rw [f9, c6]; exact e2) (by show (x5 + 1).toInt = ((st.length + 1 : Nat) : Int); omega) (stk_up hS f14) h
      unfold EvK at r1 ⊢
      rw [evl_push hp1, ← ht0, ← v7]
      exact r1
    rcases hC p (List.mem_cons_self ..) with ⟨k0, v0⟩ | ⟨k1, v1, v2⟩ | hop
    · have ep : encp p = p.2 := by
        unfold encp enc
        rw [if_pos k0]
      have hp1 : p.1.toInt ≤ 1 := by rw [k0]; decide
      rw [ep] at h
      have n1 : ¬ p.2 < -9 := fun q => by
        have := tn_lt (b := -9) rfl (by decide) q
        omega
      have n2 : ¬ p.2 < 0 := fun q => by
        have := tn_lt (b := 0) rfl (by decide) q
        omega
      have n3 : ¬ 16 ≤ x5 := fun q => by
        have := tn_le (a := 16) (by decide) rfl q
        rcases hD with ⟨q, _, _⟩ | ⟨_, ha, _⟩
        · omega
        · omega
      rw [if_neg n1, if_neg n3, if_neg n2] at h
      exact push _ hp1 (by rw [if_pos k0]) h
    · have k0 : ¬ p.1 = 0 := by rw [k1]; decide
      have ep : encp p = (-1) - p.2 := by
        unfold encp enc
        rw [if_neg k0, if_pos k1]
      have hp1 : p.1.toInt ≤ 1 := by rw [k1]; decide
      obtain ⟨n1, n2, ai⟩ := neg1 v1 v2
      rw [ep] at h
      have n3 : ¬ 16 ≤ x5 := fun q => by
        have := tn_le (a := 16) (by decide) rfl q
        rcases hD with ⟨q, _, _⟩ | ⟨_, ha, _⟩
        · omega
        · omega
      rw [if_neg n1, if_neg n3, if_pos n2] at h
      obtain ⟨_, h⟩ := guard_inv h
      rw [ai] at h
      exact push _ hp1 (by rw [if_neg k0, hV]) h
    · obtain ⟨lt9, n1⟩ := encp_op hop
      rw [if_pos lt9] at h
      rcases hD with ⟨_, ha, hD⟩ | ⟨q, _, _⟩
      · cases st with
        | nil => exact absurd ha (by decide)
        | cons b st =>
        cases st with
        | nil =>
          have ha : 2 ≤ 1 := ha
          omega
        | cons a t =>
        have h5 : x5.toInt = ((t.length + 1 + 1 : Nat) : Int) := h5
        have hD : Dp l (t.length + 1) 1 := hD
        obtain ⟨m, em, hm, m2, em2, hm2, hS⟩ := hS
        have em : t.length + 1 + 1 = m + 1 := em
        have e1' : m = t.length + 1 := by omega
        have e2' : m2 = t.length := by omega
        subst e1'
        subst e2'
        unfold kX1_partValue_115 kX1_partValue_156 at h
        have n5 : ¬ x5 < 2 := fun q => by
          have := tn_lt (b := 2) rfl (by decide) q
          omega
        have r5 := ti_rng x5
        have a5 : (x5 + (-1)).toInt = x5.toInt + (-1) := tn_add rfl (by decide) (by omega) (by omega)
        rw [if_neg n5] at h
        generalize x5 + (-1) = y5 at a5 h
        have b5 : (y5 - 1).toInt = y5.toInt - 1 := tn_sub rfl (by decide) (by omega) (by omega)
        have c5 : y5.toNatClampNeg = t.length + 1 := clamp_of_int (by omega)
        have d5 : (y5 - 1).toNatClampNeg = t.length := clamp_of_int (by omega)
        obtain ⟨_, h⟩ := guard_inv h
        obtain ⟨_, h⟩ := guard_inv h
        obtain ⟨q5, s4, hj, h⟩ := bindI_inv h
        obtain ⟨_, h⟩ := guard_inv h
        obtain ⟨s7, d7, h⟩ := letS_inv h
        rw [c5, d5, hm, hm2] at hj
        rw [d5] at d7
        rcases joined_eq hop hj with ⟨ho, es4⟩ | ⟨ho, es4⟩
        · have f14 : ∀ j, s7.f 14 j = if j = t.length then q5 else s.f 14 j := fun j => by
            rw [← d7, es4]
            exact ksf_at
          have f9 : s7.f 9 = s.f 9 := by rw [← d7, es4]; rfl
          have v7 : s7.v 7 = s.v 7 := by rw [← d7, es4]; rfl
          have r1 := ih n s7 y5 (x6 + 1) (q5 :: t) r s' (by rw [← d7, es4]; exact hV) (fun q hq => hC q (List.mem_cons_of_mem _ hq)) hD (by omega) (by omega) (by rw [f9, c6]; exact e2) (by show y5.toInt = ((t.length + 1 : Nat) : Int); omega) (stk_up hS f14) h
          unfold EvK at r1 ⊢
          rw [evl_opk n1 ho, ← v7]
          exact r1
        · have v7 : s7.v 7 = 1 := by rw [← d7, es4]; rfl
          have q := (pv_frL x4 n s7 _ _ FrK.rfl (Or.inl rfl) _ h).2
          refine Or.inr ⟨evl_op0 n1 ho, ?_⟩
          have q : s'.v 7 = s7.v 7 ∨ s'.v 7 = 1 := q
          rw [v7] at q
          exact q.elim id id
      · exact absurd q n1
/-! the reference's pile -/
noncomputable def TmQ (z0 : RS) (y : Int32 × RS) : Prop := FrR [42, 141] z0 y.2 ∧ (y.2.v 42 = z0.v 42 ∨ y.2.v 42 = 1)
theorem tm_frL (x2 : Int32) {z0 : RS} : ∀ (n : Nat) (z : RS) (x3 x4 : Int32), FrR [42, 141] z0 z → (z.v 42 = z0.v 42 ∨ z.v 42 = 1) → Pt (r_termOf_5L n z x2 x3 x4) (TmQ z0) := by
  intro n
  induction n with
  | zero => intro z x3 x4 _ _; exact pt_none
  | succ n ih =>
    intro z x3 x4 h1 h2
    have h158 : ∀ x3' t0 t1, Pt (r_termOf_158 (r_termOf_5L n) z x2 x3' x4 t0 t1) (TmQ z0) := fun x3' t0 t1 => by
      unfold r_termOf_158 r_termOf_159
      refine pt_ite (fun _ => ?_) (fun _ => pt_none)
      exact pt_let (P := fun y => FrR [42, 141] z0 y ∧ (y.v 42 = z0.v 42 ∨ y.v 42 = 1)) ⟨h1.sf (k := 41) (by decide), h2⟩ (fun u hu => ih u _ _ hu.1 hu.2)
    have h58 : ∀ t0 t1, Pt (r_termOf_58 (r_termOf_5L n) z x2 x3 x4 t0 t1) (TmQ z0) := fun t0 t1 => by
      unfold r_termOf_58 r_termOf_159
      refine pt_ite (fun _ => ?_) (fun _ => pt_none)
      exact pt_let (P := fun y => FrR [42, 141] z0 y ∧ (y.v 42 = z0.v 42 ∨ y.v 42 = 1)) ⟨h1.sf (k := 41) (by decide), h2⟩ (fun u hu => ih u _ _ hu.1 hu.2)
    have h104 : ∀ x3' x5 x6 x7, Pt (r_termOf_104 (r_termOf_5L n) z x2 x3' x4 x5 x6 x7) (TmQ z0) := fun x3' x5 x6 x7 => by
      unfold r_termOf_104
      exact pt_ite (fun _ => h158 _ _ _) (fun _ => pt_ite (fun _ => h158 _ _ _) (fun _ => pt_ite (fun _ => h158 _ _ _) (fun _ => pt_ite (fun _ => h158 _ _ _) (fun _ => pt_none))))
    show Pt (r_termOf_5 (r_termOf_5L n) z x2 x3 x4) _
    unfold r_termOf_5
    refine pt_ite (fun _ => pt_some ⟨h1, h2⟩) (fun _ => pt_ite (fun _ => ?_) (fun _ => pt_none))
    refine pt_ite (fun _ => ?_) (fun _ => ?_)
    · refine pt_ite (fun _ => pt_ite (fun _ => ?_) (fun _ => pt_none)) (fun _ => pt_none)
      refine pt_ite (fun _ => pt_ite (fun _ => ?_) (fun _ => h104 _ _ _ _)) (fun _ => h104 _ _ _ _)
      exact pt_let (P := fun y => FrR [42, 141] z0 y ∧ (y.v 42 = z0.v 42 ∨ y.v 42 = 1)) ⟨h1.sv (k := 42) (by decide), Or.inr rfl⟩ (fun u hu => pt_some hu)
    · refine pt_ite (fun _ => pt_ite (fun _ => h58 _ _) (fun _ => pt_none)) (fun _ => ?_)
      exact pt_ite (fun _ => pt_ite (fun _ => h58 _ _) (fun _ => pt_none)) (fun _ => pt_none)
theorem op_two {p : Int32 × Int32} (hp : p.1 = 2 ∨ p.1 = 3 ∨ p.1 = 4 ∨ p.1 = 5) : 2 ≤ p.1 := by
  rcases hp with e | e | e | e <;> (rw [e]; decide)
theorem tm_ev (V : Nat → Int32) (x2 : Int32) : ∀ (l : List (Int32 × Int32)) (n : Nat) (z : RS) (x3 x4 : Int32) (st : List Int32) (r : Int32) (z' : RS), z.f 40 = V → (∀ p ∈ l, CDz p) → Dp l st.length 1 → 0 ≤ x4.toInt → x2.toInt = x4.toInt + (l.length : Int) → seg (es z) x4.toNatClampNeg l.length = l → x3.toInt = (st.length : Int) → StkOn (z.f 41) 0 st st.length → r_termOf_5L n z x2 x3 x4 = some (r, z') → EvK V l st r (z.v 42) (z'.v 42) := by
  intro l
  induction l with
  | nil =>
    intro n z x3 x4 st r z' hV _ hD h60 h4 _ h5 hS h
    cases n with
    | zero => exact none_ne h
    | succ n =>
    have h : r_termOf_5 (r_termOf_5L n) z x2 x3 x4 = some (r, z') := h
    unfold r_termOf_5 at h
    have h4 : x2.toInt = x4.toInt + ((0 : Nat) : Int) := h4
    rw [if_pos (Int32.le_iff_toInt_le.mpr (by omega))] at h
    have hD : st.length = 1 := hD
    have e1 : r = z.f 41 0 ∧ z' = z := by cases h; exact ⟨rfl, rfl⟩
    cases st with
    | nil => exact absurd hD (by decide)
    | cons v st =>
      cases st with
      | cons w st =>
        have hD : st.length + 1 + 1 = 1 := hD
        omega
      | nil =>
        obtain ⟨m, em, hm, q⟩ := hS
        have q : m = 0 := q
        subst q
        exact Or.inl ⟨v, rfl, by rw [e1.1, hm], by rw [e1.2]⟩
  | cons p l ih =>
    intro n z x3 x4 st r z' hV hC hD h60 h4 hsg h5 hS h
    cases n with
    | zero => exact none_ne h
    | succ n =>
    have h : r_termOf_5 (r_termOf_5L n) z x2 x3 x4 = some (r, z') := h
    have h4 : x2.toInt = x4.toInt + ((l.length + 1 : Nat) : Int) := h4
    obtain ⟨e1, e2⟩ := seg_hd (show seg (es z) x4.toNatClampNeg (l.length + 1) = p :: l from hsg)
    have p36 : z.f 36 x4.toNatClampNeg = p.1 := by rw [← e1]; rfl
    have p37 : z.f 37 x4.toNatClampNeg = p.2 := by rw [← e1]; rfl
    unfold r_termOf_5 at h
    rw [if_neg (fun q => by have := ti_le q; omega)] at h
    obtain ⟨g, h⟩ := guard_inv h
    have g2 : ¬ (x4 < 0 ∨ 840 ≤ x4.toNatClampNeg) := of_decide_eq_true g
    have g3 : ¬ 840 ≤ x4.toNatClampNeg := fun q => g2 (Or.inr q)
    have ec6 : x4.toInt.toNat = x4.toNatClampNeg := Int32.toNat_toInt _
    have a6 : (x4 + 1).toInt = x4.toInt + 1 := tn_add rfl (by decide) (by omega) (by omega)
    have c6 : (x4 + 1).toNatClampNeg = x4.toNatClampNeg + 1 := clamp_of_int (by omega)
    have ec5 : x3.toNatClampNeg = st.length := clamp_of_int h5
    rw [p36, p37] at h
    have push : ∀ t0 : Int32, p.1.toInt ≤ 1 → t0 = (if p.1 = 0 then p.2 else V p.2.toNatClampNeg) → r_termOf_58 (r_termOf_5L n) z x2 x3 x4 t0 x3 = some (r, z') → EvK V (p :: l) st r (z.v 42) (z'.v 42) := by
      intro t0 hp1 ht0 h
      rcases hD with ⟨q, _, _⟩ | ⟨_, ha, hD⟩
      · omega
      unfold r_termOf_58 r_termOf_159 at h
      obtain ⟨_, h⟩ := guard_inv h
      obtain ⟨s2, d2, h⟩ := letS_inv h
      have a5 : (x3 + 1).toInt = x3.toInt + 1 := tn_add rfl (by decide) (by omega) (by omega)
      have f14 : ∀ j, s2.f 41 j = if j = st.length then t0 else z.f 41 j := fun j => by
        rw [← d2, ec5]
        exact rsf_at
      have f9 : es s2 = es z := by rw [← d2]; rfl
      have v7 : s2.v 42 = z.v 42 := by rw [← d2]; rfl
      have r1 := ih n s2 (x3 + 1) (x4 + 1) (t0 :: st) r z' (by rw [← d2]; exact hV) (fun q hq => hC q (List.mem_cons_of_mem _ hq)) hD (by omega) (by omega) (by rw [f9, c6]; exact e2) (by show (x3 + 1).toInt = ((st.length + 1 : Nat) : Int); omega) (stk_up hS f14) h
      unfold EvK at r1 ⊢
      rw [evl_push hp1, ← ht0, ← v7]
      exact r1
    rcases hC p (List.mem_cons_self ..) with ⟨k0, v0⟩ | ⟨k1, v1, v2⟩ | hop
    · have hp1 : p.1.toInt ≤ 1 := by rw [k0]; decide
      rw [if_neg (by rw [k0]; decide), if_pos k0] at h
      obtain ⟨_, h⟩ := guard_inv h
      exact push _ hp1 (by rw [if_pos k0]) h
    · have k0 : ¬ p.1 = 0 := by rw [k1]; decide
      have hp1 : p.1.toInt ≤ 1 := by rw [k1]; decide
      rw [if_neg (by rw [k1]; decide), if_neg k0] at h
      obtain ⟨_, h⟩ := guard_inv h
      obtain ⟨_, h⟩ := guard_inv h
      exact push _ hp1 (by rw [if_neg k0, hV]) h
    · obtain ⟨_, n1⟩ := encp_op hop
      rw [if_pos (op_two hop)] at h
      rcases hD with ⟨_, ha, hD⟩ | ⟨q, _, _⟩
      · cases st with
        | nil => exact absurd ha (by decide)
        | cons b st =>
        cases st with
        | nil =>
          have ha : 2 ≤ 1 := ha
          omega
        | cons a t =>
        have h5 : x3.toInt = ((t.length + 1 + 1 : Nat) : Int) := h5
        have hD : Dp l (t.length + 1) 1 := hD
        obtain ⟨m, em, hm, m2, em2, hm2, hS⟩ := hS
        have em : t.length + 1 + 1 = m + 1 := em
        have e1' : m = t.length + 1 := by omega
        have e2' : m2 = t.length := by omega
        subst e1'
        subst e2'
        have r5 := ti_rng x3
        have a5 : (x3 + (-1)).toInt = x3.toInt + (-1) := tn_add rfl (by decide) (by omega) (by omega)
        generalize x3 + (-1) = y5 at a5 h
        have b5 : (y5 - 1).toInt = y5.toInt - 1 := tn_sub rfl (by decide) (by omega) (by omega)
        have c5 : y5.toNatClampNeg = t.length + 1 := clamp_of_int (by omega)
        have d5 : (y5 - 1).toNatClampNeg = t.length := clamp_of_int (by omega)
        obtain ⟨_, h⟩ := guard_inv h
        obtain ⟨_, h⟩ := guard_inv h
        rw [c5, d5, hm, hm2] at h
        have fin : ∀ q5 : Int32, opv p.1 a b = some q5 → r_termOf_158 (r_termOf_5L n) z x2 y5 x4 q5 (y5 - 1) = some (r, z') → EvK V (p :: l) (b :: a :: t) r (z.v 42) (z'.v 42) := by
          intro q5 ho h
          unfold r_termOf_158 r_termOf_159 at h
          obtain ⟨_, h⟩ := guard_inv h
          obtain ⟨s7, d7, h⟩ := letS_inv h
          rw [d5] at d7
          have f14 : ∀ j, s7.f 41 j = if j = t.length then q5 else z.f 41 j := fun j => by
            rw [← d7]
            exact rsf_at
          have f9 : es s7 = es z := by rw [← d7]; rfl
          have v7 : s7.v 42 = z.v 42 := by rw [← d7]; rfl
          have r1 := ih n s7 y5 (x4 + 1) (q5 :: t) r z' (by rw [← d7]; exact hV) (fun q hq => hC q (List.mem_cons_of_mem _ hq)) hD (by omega) (by omega) (by rw [f9, c6]; exact e2) (by show y5.toInt = ((t.length + 1 : Nat) : Int); omega) (stk_up hS f14) h
          unfold EvK at r1 ⊢
          rw [evl_opk n1 ho, ← v7]
          exact r1
        have h104 : r_termOf_104 (r_termOf_5L n) z x2 y5 x4 p.1 a b = some (r, z') → (p.1 = 5 → ¬ b = 0) → EvK V (p :: l) (b :: a :: t) r (z.v 42) (z'.v 42) := by
          intro h hb
          unfold r_termOf_104 at h
          by_cases k2 : p.1 = 2
          · rw [if_pos k2] at h
            exact fin _ (by unfold opv; rw [if_pos k2]) h
          · rw [if_neg k2] at h
            by_cases k3 : p.1 = 3
            · rw [if_pos k3] at h
              exact fin _ (by unfold opv; rw [if_neg k2, if_pos k3]) h
            · rw [if_neg k3] at h
              by_cases k4 : p.1 = 4
              · rw [if_pos k4] at h
                exact fin _ (by unfold opv; rw [if_neg k2, if_neg k3, if_pos k4]) h
              · rw [if_neg k4] at h
                have k5 : p.1 = 5 := by
                  rcases hop with q | q | q | q
                  · exact absurd q k2
                  · exact absurd q k3
                  · exact absurd q k4
                  · exact q
                have nb := hb k5
                rw [if_pos nb] at h
                exact fin _ (by unfold opv; rw [if_neg k2, if_neg k3, if_neg k4, if_neg nb]) h
        by_cases k5 : p.1 = 5
        · rw [if_pos k5] at h
          by_cases b0 : b = 0
          · rw [if_pos b0] at h
            obtain ⟨s8, d8, h⟩ := letS_inv h
            have ez : z' = s8 := by cases h; rfl
            refine Or.inr ⟨evl_op0 n1 ?_, by rw [ez, ← d8]; rfl⟩
            unfold opv
            rw [k5, if_neg (by decide), if_neg (by decide), if_neg (by decide), if_pos b0]
          · rw [if_neg b0] at h
            exact h104 h (fun _ => b0)
        · rw [if_neg k5] at h
          exact h104 h (fun q => absurd q k5)
      · exact absurd q n1
end
section
/-! ===== a law's value is the same on both sides ===== -/
noncomputable def VarEq (s : KS) (z : RS) : Prop := ∀ i : Nat, i < 9 → s.f 13 i = z.f 40 i
theorem evl_cg {V V' : Nat → Int32} (hV : ∀ i : Nat, i < 9 → V i = V' i) : ∀ (l : List (Int32 × Int32)) (st : List Int32), (∀ p ∈ l, CDz p) → evl V l st = evl V' l st := by
  intro l
  induction l with
  | nil => intro st _; rfl
  | cons p l ih =>
    intro st hC
    have ih' := fun st => ih st (fun q hq => hC q (List.mem_cons_of_mem _ hq))
    by_cases h : p.1.toInt ≤ 1
    · rw [evl_push h, evl_push h, ih']
      rcases hC p (List.mem_cons_self ..) with ⟨k0, _⟩ | ⟨k1, v1, v2⟩ | hop
      · rw [if_pos k0, if_pos k0]
      · have e : p.2.toInt.toNat = p.2.toNatClampNeg := Int32.toNat_toInt _
        rw [hV _ (by omega)]
      · exact absurd h (encp_op hop).2
    · match st with
      | [] => rw [evl_cons, evl_cons, if_neg h, if_neg h]; rfl
      | [b] => rw [evl_cons, evl_cons, if_neg h, if_neg h]; rfl
      | b :: a :: t =>
        rw [evl_op h, evl_op h]
        cases opv p.1 a b with
        | none => rfl
        | some x => exact ih' _
theorem pv_inv {s s' : KS} {x1 x2 r : Int32} {cl k : Nat} (h1 : x1.toInt = (cl : Int)) (hcl : cl < 4) (h2 : x2.toInt = (k : Int)) (hk : k < 13) (h : kX1_partValue s x1 x2 = some (r, s')) : kX1_partValue_53L fu s (s.f 10 (13 * cl + k)) 0 (pst (s.f 10) (s.f 11) cl k) = some (r, s') := by
  unfold kX1_partValue at h
  have m1 : (x1 * 13).toInt = x1.toInt * 13 := ti_mulc (c := 13) (by decide) (by omega) (by omega)
  have m2 : ((x1 * 13) + x2).toInt = ((13 * cl + k : Nat) : Int) := by
    rw [ti_add (by omega) (by omega)]
    omega
  have e2 := clamp_of_int m2
  rw [if_neg (fun q => by have := tn_lt (b := 0) rfl (by decide) q; omega), if_pos (Int32.lt_iff_toInt_lt.mpr (by rw [show (13 : Int32).toInt = 13 from by decide]; omega))] at h
  obtain ⟨_, h⟩ := guard_inv h
  rw [e2] at h
  unfold kX1_partValue_51 at h
  by_cases c : x2 = 0
  · have k0 : k = 0 := by
      rw [c] at h2
      have : (0 : Int32).toInt = 0 := by decide
      omega
    rw [if_pos c] at h
    obtain ⟨_, h⟩ := guard_inv h
    rw [clamp_of_int h1] at h
    unfold pst
    rw [if_pos k0]
    exact h
  · have k0 : ¬ k = 0 := fun q => c (Int32.toInt_inj.mp (by rw [h2, q]; decide))
    have m3 : (((x1 * 13) + x2) - 1).toInt = ((13 * cl + (k - 1) : Nat) : Int) := by
      rw [tn_sub m2 (by decide : (1 : Int32).toInt = 1) (by omega) (by omega)]
      omega
    rw [if_neg c] at h
    obtain ⟨_, h⟩ := guard_inv h
    rw [clamp_of_int m3] at h
    unfold pst
    rw [if_neg k0]
    exact h
theorem stk0 {f : Nat → Int32} : StkOn f 0 [] ([] : List Int32).length := rfl
theorem part_same {M lo hi : Int} {s s' : KS} {z z' : RS} {x1 x2 r1 r2 a b : Int32} {cl k : Nat} (hB : Bth M lo hi (s.f 9) (es z) (pst (s.f 10) (s.f 11) cl k) (s.f 10 (13 * cl + k)) a b) (hV : VarEq s z) (e1 : x1.toInt = (cl : Int)) (hcl : cl < 4) (e2 : x2.toInt = (k : Int)) (hk : k < 13) (h1 : kX1_partValue s x1 x2 = some (r1, s')) (h2 : r_termOf z a b = some (r2, z')) : ((r1 = r2 ∧ s'.v 7 = s.v 7 ∧ z'.v 42 = z.v 42) ∨ (s'.v 7 = 1 ∧ z'.v 42 = 1)) ∧ FrK [7, 114] s s' ∧ FrR [42, 141] z z' := by
  have h1 := pv_inv e1 hcl e2 hk h1
  unfold r_termOf at h2
  have f1 := pv_frL (s0 := s) _ fu s 0 _ FrK.rfl (Or.inl rfl) _ h1
  have f2 := tm_frL (z0 := z) b fu z 0 a FrR.rfl (Or.inl rfl) _ h2
  refine ⟨?_, f1.1, f2.1⟩
  obtain ⟨l, ⟨g1, g2, g3⟩, ⟨g4, g5, g6⟩, g7, g8, _, _, _⟩ := hB
  rw [List.length_map] at g2 g3
  have q1 := pv_ev (s.f 13) _ l fu s 0 _ [] r1 s' rfl g7 g8 g1 g2 g3 (by decide) stk0 h1
  have q2 := tm_ev (z.f 40) b l fu z 0 a [] r2 z' rfl g7 g8 g4 g5 g6 (by decide) stk0 h2
  unfold EvK at q1 q2
  rw [evl_cg (V' := z.f 40) hV l [] g7] at q1
  rcases q1 with ⟨v, v1, v2, v3⟩ | ⟨v1, v2⟩
  · rcases q2 with ⟨w, w1, w2, w3⟩ | ⟨w1, w2⟩
    · rw [v1] at w1
      have e : v = w := by
        injection w1 with w1
        injection w1
      exact Or.inl ⟨by rw [v2, w2, e], v3, w3⟩
    · rw [v1] at w1
      cases w1
  · rcases q2 with ⟨w, w1, w2, w3⟩ | ⟨w1, w2⟩
    · rw [v1] at w1
      cases w1
    · exact Or.inr ⟨v2, w2⟩
theorem LawT.fr {M lo hi : Int} {s s' : KS} {z z' : RS} {cl b m : Nat} (h : LawT M lo hi (s.f 9) (s.f 10) (s.f 11) (s.f 12) cl z b m) (K : FrK [7, 114] s s') (G : FrR [42, 141] z z') : LawT M lo hi (s'.f 9) (s'.f 10) (s'.f 11) (s'.f 12) cl z' b m := by
  rw [(K.2 9 (by decide)).1, (K.2 10 (by decide)).1, (K.2 11 (by decide)).1, (K.2 12 (by decide)).1]
  exact h.keep (fun _ _ => rfl) (fun _ _ _ => rfl) rfl rfl (fun i _ _ => by rw [es_fr G (by decide) (by decide)]) (fun i _ _ => SmB.fr G (by decide)) (Int.le_refl _) (Int.le_refl _)
theorem VarEq.fr {s s' : KS} {z z' : RS} (h : VarEq s z) (K : FrK [7, 114] s s') (G : FrR [42, 141] z z') : VarEq s' z' := by
  unfold VarEq
  rw [(K.2 13 (by decide)).1, (G.2 40 (by decide)).1]
  exact h
/-- the flags say the same, and the values, where nothing is broken -/
theorem val_end {M lo hi : Int} {s s' : KS} {z z' : RS} {x1 x3 y4 r1 r2 : Int32} {cl k y : Nat} (hB : Bth M lo hi (s.f 9) (es z) (pst (s.f 10) (s.f 11) cl k) (s.f 10 (13 * cl + k)) (z.f 33 y) (z.f 34 y)) (hV : VarEq s z) (e1 : x1.toInt = (cl : Int)) (hcl : cl < 4) (e2 : x3.toInt = (k : Int)) (hk : k < 13) (ey : y4.toInt = (y : Int)) (hf1 : s.v 7 = 0) (hf2 : z.v 42 = 0) (h1 : kX1_valueOf_77 s x1 x3 = some (r1, s')) (h2 : r_lawTells_119 z y4 = some (r2, z')) : r1 = r2 ∧ FrK [7, 114] s s' ∧ FrR [42, 141] z z' := by
  unfold kX1_valueOf_77 at h1
  unfold r_lawTells_119 at h2
  obtain ⟨q1, t, p1, h1⟩ := bindI_inv h1
  obtain ⟨_, h2⟩ := guard_inv h2
  obtain ⟨_, h2⟩ := guard_inv h2
  rw [clamp_of_int ey] at h2
  obtain ⟨q2, w, p2, h2⟩ := bindI_inv h2
  obtain ⟨hc, K, G⟩ := part_same hB hV e1 hcl e2 hk p1 p2
  rcases hc with ⟨c1, c2, c3⟩ | ⟨c1, c2⟩
  · rw [if_pos (c2.trans hf1)] at h1
    rw [if_pos (c3.trans hf2)] at h2
    have a1 : r1 = q1 ∧ s' = t := by cases h1; exact ⟨rfl, rfl⟩
    have a2 : r2 = q2 ∧ z' = w := by cases h2; exact ⟨rfl, rfl⟩
    rw [a1.1, a1.2, a2.1, a2.2]
    exact ⟨c1, K, G⟩
  · rw [if_neg (by rw [c1]; exact z_one)] at h1
    rw [if_neg (by rw [c2]; exact z_one)] at h2
    have a1 : r1 = 0 ∧ s' = t := by cases h1; exact ⟨rfl, rfl⟩
    have a2 : r2 = 0 ∧ z' = w := by cases h2; exact ⟨rfl, rfl⟩
    rw [a1.1, a1.2, a2.1, a2.2]
    exact ⟨rfl, K, G⟩
theorem val_loop {M lo hi : Int} {s0 s' : KS} {z0 z' : RS} {x1 x2 x3 r1 r2 : Int32} {cl b m : Nat} (e1 : x1.toInt = (cl : Int)) (hcl : cl < 4) (e2 : x2.toInt = ((3 * m : Nat) : Int)) (hb : b + m + 1 ≤ 260) : ∀ (n n2 : Nat) (s : KS) (z : RS) (x4 y4 : Int32) (j : Nat), LawT M lo hi (s.f 9) (s.f 10) (s.f 11) (s.f 12) cl z b m → VarEq s z → (z.f 28 x3.toNatClampNeg).toInt = ((b + m + 1 : Nat) : Int) → FrK [7, 114] s0 s → FrR [42, 141] z0 z → s.v 7 = 0 → z.v 42 = 0 → j ≤ m → x4.toInt = ((3 * j : Nat) : Int) → y4.toInt = ((b + j : Nat) : Int) → kX1_valueOf_19L n s x1 x2 x2 x4 = some (r1, s') → r_lawTells_39L n2 z x3 y4 = some (r2, z') → r1 = r2 ∧ FrK [7, 114] s0 s' ∧ FrR [42, 141] z0 z' := by
  intro n
  induction n with
  | zero => intro n2 s z x4 y4 j _ _ _ _ _ _ _ _ _ _ h1; exact none_ne h1
  | succ n ih =>
    intro n2 s z x4 y4 j hT hV h28 K0 G0 hf1 hf2 hj e4 ey h1 h2
    have h1 : kX1_valueOf_19 (kX1_valueOf_19L n) s x1 x2 x2 x4 = some (r1, s') := h1
    cases n2 with
    | zero => exact none_ne h2
    | succ n2 =>
    have h2 : r_lawTells_39 (r_lawTells_39L n2) z x3 y4 = some (r2, z') := h2
    obtain ⟨t1, t2, t3, t4, t5⟩ := id hT
    have a2 : (x4 + 2).toInt = x4.toInt + 2 := tn_add rfl (by decide) (by omega) (by omega)
    unfold kX1_valueOf_19 at h1
    unfold r_lawTells_39 at h2
    obtain ⟨_, h2⟩ := guard_inv h2
    rw [if_neg (fun q => by have := tn_le h28 ey q; omega)] at h2
    obtain ⟨_, h2⟩ := guard_inv h2
    have ec : y4.toNatClampNeg = b + j := clamp_of_int ey
    by_cases c : j = m
    · subst c
      rw [if_pos (Int32.le_iff_toInt_le.mpr (by omega))] at h1
      rw [ec, if_pos t4] at h2
      obtain ⟨v1, v2, v3⟩ := val_end t5 hV e1 hcl e2 (by omega) ey hf1 hf2 h1 h2
      exact ⟨v1, K0.trans v2 (by decide), G0.trans v3 (by decide)⟩
    · have nl : ¬ x2 ≤ x4 + 2 := fun q => by
        have := tn_le e2 a2 q
        omega
      obtain ⟨n0, b1, b2, b3⟩ := t3 j (by omega)
      rw [if_neg nl] at h1
      rw [ec, if_neg n0] at h2
      obtain ⟨u3, s2, p1, h1⟩ := bindI_inv h1
      obtain ⟨u5, s4, p2, h1⟩ := bindI_inv h1
      obtain ⟨_, h2⟩ := guard_inv h2
      obtain ⟨_, h2⟩ := guard_inv h2
      obtain ⟨w8, z7, p3, h2⟩ := bindI_inv h2
      obtain ⟨_, h2⟩ := guard_inv h2
      obtain ⟨_, h2⟩ := guard_inv h2
      obtain ⟨w12, z11, p4, h2⟩ := bindI_inv h2
      have a1 : (x4 + 1).toInt = x4.toInt + 1 := tn_add rfl (by decide) (by omega) (by omega)
      have a3 : (x4 + 3).toInt = x4.toInt + 3 := tn_add rfl (by decide) (by omega) (by omega)
      have ay : (y4 + 1).toInt = y4.toInt + 1 := tn_add rfl (by decide) (by omega) (by omega)
      obtain ⟨hc1, K1, G1⟩ := part_same (k := 3 * j) b1 hV e1 hcl e4 (by omega) p1 p3
      have T2 := hT.fr K1 G1
      have V2 := hV.fr K1 G1
      obtain ⟨_, c1, c2, c3⟩ := T2.2.2.1 j (by omega)
      have c2 : Bth M lo hi (s2.f 9) (es z7) (pst (s2.f 10) (s2.f 11) cl (3 * j + 1)) (s2.f 10 (13 * cl + (3 * j + 1))) (z7.f 32 (b + j)) (z7.f 33 (b + j)) := by
        rw [pst_succ]
        exact c2
      obtain ⟨hc2, K2, G2⟩ := part_same (k := 3 * j + 1) c2 V2 e1 hcl (by omega) (by omega) p2 p4
      have K12 : FrK [7, 114] s s4 := K1.trans K2 (by decide)
      have G12 : FrR [42, 141] z z11 := G1.trans G2 (by decide)
      have T4 := T2.fr K2 G2
      have V4 := V2.fr K2 G2
      have fl : (s4.v 7 = 0 ∧ z11.v 42 = 0 ∧ u3 = w8 ∧ u5 = w12) ∨ (s4.v 7 = 1 ∧ z11.v 42 = 1) := by
        rcases hc1 with ⟨d1, d2, d3⟩ | ⟨d1, d2⟩
        · rcases hc2 with ⟨k1, k2, k3⟩ | ⟨k1, k2⟩
          · exact Or.inl ⟨by rw [k2, d2, hf1], by rw [k3, d3, hf2], d1, k1⟩
          · exact Or.inr ⟨k1, k2⟩
        · rcases hc2 with ⟨k1, k2, k3⟩ | ⟨k1, k2⟩
          · exact Or.inr ⟨by rw [k2, d1], by rw [k3, d2]⟩
          · exact Or.inr ⟨k1, k2⟩
      rcases fl with ⟨f1, f2, f3, f4⟩ | ⟨f1, f2⟩
      · rw [if_pos f1] at h1
        rw [if_pos f2] at h2
        by_cases cc : w8 < w12
        · have n5 : ¬ u5 ≤ u3 := fun q => by
            have q1 := ti_le q
            have q2 := ti_lt cc
            rw [f3, f4] at q1
            omega
          rw [if_neg n5] at h1
          rw [if_pos cc] at h2
          obtain ⟨_, _, _, c3⟩ := T4.2.2.1 j (by omega)
          have c3 : Bth M lo hi (s4.f 9) (es z11) (pst (s4.f 10) (s4.f 11) cl (3 * j + 2)) (s4.f 10 (13 * cl + (3 * j + 2))) (z11.f 33 (b + j)) (z11.f 34 (b + j)) := by
            rw [show 3 * j + 2 = (3 * j + 1) + 1 from rfl, pst_succ]
            exact c3
          obtain ⟨v1, v2, v3⟩ := val_end c3 V4 e1 hcl (by omega) (by omega) ey f1 f2 h1 h2
          exact ⟨v1, (K0.trans K12 (by decide)).trans v2 (by decide), (G0.trans G12 (by decide)).trans v3 (by decide)⟩
        · have n5 : u5 ≤ u3 := Int32.le_iff_toInt_le.mpr (by
            have := ti_nlt cc
            rw [f3, f4]
            exact this)
          rw [if_pos n5] at h1
          rw [if_neg cc] at h2
          exact ih n2 s4 z11 (x4 + 3) (y4 + 1) (j + 1) T4 V4 (by rw [(G12.2 28 (by decide)).1]; exact h28) (K0.trans K12 (by decide)) (G0.trans G12 (by decide)) f1 f2 (by omega) (by omega) (by omega) h1 h2
      · rw [if_neg (by rw [f1]; exact z_one)] at h1
        rw [if_neg (by rw [f2]; exact z_one)] at h2
        have a1 : r1 = 0 ∧ s' = s4 := by cases h1; exact ⟨rfl, rfl⟩
        have a2 : r2 = 0 ∧ z' = z11 := by cases h2; exact ⟨rfl, rfl⟩
        rw [a1.1, a1.2, a2.1, a2.2]
        exact ⟨rfl, K0.trans K12 (by decide), G0.trans G12 (by decide)⟩
noncomputable def dfc (cl : Nat) : Int32 × Int32 := if cl = 0 then (1, 2) else if cl = 3 then (0, 0) else (0, 1)
noncomputable def dfv (cl : Nat) (V : Nat → Int32) : Int32 := if cl = 0 then V 2 else if cl = 3 then 0 else 1
theorem dfl_ok (cl : Nat) (h : cl < 4) (V : Nat → Int32) : [dfl cl] = [dfc cl].map encp ∧ CDz (dfc cl) ∧ Dp [dfc cl] 0 1 ∧ evl V [dfc cl] [] = some [dfv cl V] := by
  rcases (show cl = 0 ∨ cl = 1 ∨ cl = 2 ∨ cl = 3 by omega) with e | e | e | e <;> subst e
  · exact ⟨by decide, Or.inr (Or.inl (by decide)), Or.inr ⟨by decide, by decide, rfl⟩, by
      rw [evl_push (by decide)]
      rfl⟩
  · exact ⟨by decide, Or.inl (by decide), Or.inr ⟨by decide, by decide, rfl⟩, by
      rw [evl_push (by decide)]
      rfl⟩
  · exact ⟨by decide, Or.inl (by decide), Or.inr ⟨by decide, by decide, rfl⟩, by
      rw [evl_push (by decide)]
      rfl⟩
  · exact ⟨by decide, Or.inl (by decide), Or.inr ⟨by decide, by decide, rfl⟩, by
      rw [evl_push (by decide)]
      rfl⟩
theorem law_same {M lo hi : Int} {lob l cl : Nat} {s s' : KS} {z z' : RS} {x1 xp r1 r2 : Int32} (hL : LawR M lo hi lob 260 (s.f 9) (s.f 10) (s.f 11) (s.f 12) cl (4 * l + cl) z) (hl : (z.v 18).toInt = (l : Int)) (hl1 : l ≤ 1) (e1 : x1.toInt = (cl : Int)) (hcl : cl < 4) (hV : VarEq s z) (hp : xp = dfv cl (z.f 40)) (h1 : kX1_valueOf s x1 = some (r1, s')) (h2 : r_lawTells z x1 xp = some (r2, z')) : r1 = r2 ∧ FrK [7, 114] s s' ∧ FrR [42, 141] z z' := by
  unfold kX1_valueOf at h1
  unfold r_lawTells at h2
  obtain ⟨s1, d1, h1⟩ := letS_inv h1
  obtain ⟨_, h1⟩ := guard_inv h1
  obtain ⟨_, h2⟩ := guard_inv h2
  obtain ⟨_, h2⟩ := guard_inv h2
  have m1 : (4 * (z.v 18)).toInt = (z.v 18).toInt * 4 := ti_cmul (c := 4) (by decide) (by omega) (by omega)
  have m2 : ((4 * (z.v 18)) + x1).toInt = ((4 * l + cl : Nat) : Int) := by
    rw [ti_add (by omega) (by omega)]
    omega
  have ei := clamp_of_int m2
  have K1 : FrK [7, 114] s s1 := by rw [← d1]; exact FrK.rfl.sv (by decide)
  have v7 : s1.v 7 = 0 := by rw [← d1]; rfl
  have f12 : s1.f 12 = s.f 12 := (K1.2 12 (by decide)).1
  have f13 : s1.f 13 = s.f 13 := (K1.2 13 (by decide)).1
  rw [clamp_of_int e1, f12] at h1
  rcases hL with ⟨a1, a2, a3, a4⟩ | ⟨b, m, a1, a2, a3, a4, a5⟩
  · rw [ei, if_pos a1] at h2
    have q2 : r2 = xp ∧ z' = z := by cases h2; exact ⟨rfl, rfl⟩
    rw [a2] at h1
    have z10 : ((1 : Int32) - 1) = 0 := by decide
    rw [z10] at h1
    have h1 : kX1_valueOf_19 (kX1_valueOf_19L 19999) s1 x1 0 0 0 = some (r1, s') := h1
    unfold kX1_valueOf_19 at h1
    rw [if_pos (by decide)] at h1
    unfold kX1_valueOf_77 at h1
    obtain ⟨q, t, p1, h1⟩ := bindI_inv h1
    have p1 := pv_inv (k := 0) e1 hcl (by decide) (by omega) p1
    have fr := pv_frL (s0 := s1) _ fu s1 0 _ FrK.rfl (Or.inl rfl) _ p1
    obtain ⟨o1, o2, o3, o4⟩ := dfl_ok cl hcl (s1.f 13)
    have ep : pst (s1.f 10) (s1.f 11) cl 0 = s.f 11 cl := by
      unfold pst
      rw [if_pos rfl, (K1.2 11 (by decide)).1]
    have e10 : s1.f 10 (13 * cl + 0) = s.f 10 (13 * cl) := by rw [(K1.2 10 (by decide)).1]; rfl
    rw [ep, e10] at p1
    have ev := pv_ev (s1.f 13) _ [dfc cl] fu s1 0 _ [] q t rfl (fun p hp => by rw [List.mem_singleton] at hp; rw [hp]; exact o2) o3 a3.1 a3.2.1 (by rw [(K1.2 9 (by decide)).1, ← o1]; exact a3.2.2) (by decide) stk0 p1
    unfold EvK at ev
    rw [o4] at ev
    rcases ev with ⟨v, w1, w2, w3⟩ | ⟨w1, _⟩
    · rw [if_pos (w3.trans v7)] at h1
      have q1 : r1 = q ∧ s' = t := by cases h1; exact ⟨rfl, rfl⟩
      have ev : dfv cl (s1.f 13) = v := by
        injection w1 with w1
        injection w1
      have ed : dfv cl (s1.f 13) = dfv cl (z.f 40) := by
        unfold dfv
        rw [f13, hV 2 (by omega)]
      rw [q1.1, q1.2, q2.1, q2.2]
      exact ⟨by rw [w2, ← ev, ed, hp], K1.trans fr.1 (by decide), FrR.rfl⟩
    · cases w1
  · have ne : ¬ z.f 27 (4 * l + cl) = z.f 28 (4 * l + cl) := fun q => by
      rw [q, a4] at a3
      omega
    rw [ei, if_neg ne] at h2
    obtain ⟨z4, g4, h2⟩ := letS_inv h2
    obtain ⟨_, h2⟩ := guard_inv h2
    have G4 : FrR [42, 141] z z4 := by rw [← g4]; exact FrR.rfl.sv (by decide)
    have v42 : z4.v 42 = 0 := by rw [← g4]; rfl
    have T1 := a5.fr K1 G4
    have V1 := hV.fr K1 G4
    have c1 : ((s.f 12 cl) - 1).toInt = ((3 * m : Nat) : Int) := by
      have q := a5.2.1
      have q0 := a5.1
      rw [tn_sub q (by decide : (1 : Int32).toInt = 1) (by omega) (by omega)]
      omega
    have z27 : z4.f 27 = z.f 27 := (G4.2 27 (by decide)).1
    have z28 : z4.f 28 = z.f 28 := (G4.2 28 (by decide)).1
    obtain ⟨v1, v2, v3⟩ := val_loop (s0 := s1) (z0 := z4) e1 hcl c1 a2 fu fu s1 z4 0 _ 0 T1 V1 (by rw [ei, z28]; exact a4) FrK.rfl FrR.rfl v7 v42 (by omega) (by decide) (by rw [z27]; exact a3) h1 h2
    exact ⟨v1, K1.trans v2 (by decide), G4.trans v3 (by decide)⟩
end
section
/-! ===== the tapes, byte by byte ===== -/
theorem shr8 (x : Int32) (k : Nat) (hk : k ≤ 24) : BitVec.setWidth 8 (x.toBitVec >>> k) = BitVec.setWidth 8 (x.toBitVec.sshiftRight k) := by
  refine BitVec.eq_of_getLsbD_eq (fun i hi => ?_)
  rw [BitVec.getLsbD_setWidth, BitVec.getLsbD_setWidth, BitVec.getLsbD_ushiftRight, BitVec.getLsbD_sshiftRight]
  have h1 : ¬ 32 ≤ i := by omega
  have h2 : k + i < 32 := by omega
  simp [h1, h2]
theorem byte8 {a b : Int32} {v : BitVec 32} {k : Nat} (h1 : a.toBitVec = v >>> k) (h2 : b.toBitVec = v.sshiftRight k) (hv : BitVec.setWidth 8 (v >>> k) = BitVec.setWidth 8 (v.sshiftRight k)) : Int32.toInt8 a = Int32.toInt8 b := by
  refine Int8.toBitVec_inj.mp ?_
  rw [Int32.toBitVec_toInt8, Int32.toBitVec_toInt8, h1, h2, BitVec.signExtend_eq_setWidth_of_le _ (by omega), BitVec.signExtend_eq_setWidth_of_le _ (by omega)]
  exact hv
theorem byte_eq (x : Int32) {j : Int32} (hj : j = 24 ∨ j = 16 ∨ j = 8 ∨ j = 0) : Int32.toInt8 (ushr x j) = Int32.toInt8 (x >>> (j &&& 31)) := by
  rcases hj with e | e | e | e
  · subst e
    exact byte8 (v := x.toBitVec) (k := 24) rfl rfl (shr8 x 24 (by omega))
  · subst e
    exact byte8 (v := x.toBitVec) (k := 16) rfl rfl (shr8 x 16 (by omega))
  · subst e
    exact byte8 (v := x.toBitVec) (k := 8) rfl rfl (shr8 x 8 (by omega))
  · subst e
    exact byte8 (v := x.toBitVec) (k := 0) rfl rfl (shr8 x 0 (by omega))
noncomputable def TB (k : KS) (z : RS) : Prop := k.v 0 = z.v 2 ∧ 0 ≤ (k.v 0).toInt ∧ (∀ i : Nat, (i : Int) < (k.v 0).toInt → k.f 1 i = z.f 1 i)
theorem add4L (x : Int32) : ∀ (n m : Nat) (s s' : KS) (z z' : RS) (q : Int32) (j : Nat), q.toInt = 8 * (j : Int) - 8 → j ≤ 4 → TB s z → (s.v 0).toInt + (j : Int) ≤ 2000 → kX7_addFour_3L n s x q = some s' → r_put_3L m z x q = some z' → TB s' z' ∧ FrK [0, 101] s s' ∧ FrR [2, 101] z z' ∧ (s'.v 0).toInt = (s.v 0).toInt + (j : Int) := by
  intro n
  induction n with
  | zero => intro m s s' z z' q j _ _ _ _ h; exact none_ne h
  | succ n ih =>
    intro m s s' z z' q j hq hj hT hl hs hz
    have hs : kX7_addFour_3 (kX7_addFour_3L n) s x q = some s' := hs
    cases m with
    | zero => exact none_ne hz
    | succ m =>
    have hz : r_put_3 (r_put_3L m) z x q = some z' := hz
    obtain ⟨e0, h0, hb⟩ := id hT
    unfold kX7_addFour_3 at hs
    unfold r_put_3 at hz
    by_cases c : q < 0
    · have c' := tn_lt (b := 0) rfl (by decide) c
      rw [if_pos c] at hs hz
      cases hs
      cases hz
      exact ⟨hT, FrK.rfl, FrR.rfl, by omega⟩
    · have c' := tn_nlt (b := 0) rfl (by decide) c
      have n2 : ¬ 2000 ≤ s.v 0 := fun w => by
        have := tn_le (a := 2000) (by decide) rfl w
        omega
      rw [if_neg c, if_neg n2] at hs
      rw [if_neg c] at hz
      obtain ⟨_, hs⟩ := guard_inv hs
      obtain ⟨_, hz⟩ := guard_inv hz
      obtain ⟨s4, d4, hs⟩ := letS_inv hs
      obtain ⟨s6, d6, hs⟩ := letS_inv hs
      obtain ⟨z3, g3, hz⟩ := letS_inv hz
      obtain ⟨z5, g5, hz⟩ := letS_inv hz
      unfold kX7_addFour_42 at hs
      have a : ((s.v 0) + 1).toInt = (s.v 0).toInt + 1 := tn_add rfl (by decide) (by omega) (by omega)
      have v6 : s6.v 0 = (s.v 0) + 1 := by rw [← d6, ← d4]; rfl
      have v5 : z5.v 2 = (z.v 2) + 1 := by rw [← g5, ← g3]; rfl
      have jq : q = 24 ∨ q = 16 ∨ q = 8 ∨ q = 0 := by
        rcases (show q.toInt = 24 ∨ q.toInt = 16 ∨ q.toInt = 8 ∨ q.toInt = 0 by omega) with w | w | w | w
        · exact Or.inl (Int32.toInt_inj.mp (w.trans (by decide)))
        · exact Or.inr (Or.inl (Int32.toInt_inj.mp (w.trans (by decide))))
        · exact Or.inr (Or.inr (Or.inl (Int32.toInt_inj.mp (w.trans (by decide)))))
        · exact Or.inr (Or.inr (Or.inr (Int32.toInt_inj.mp (w.trans (by decide)))))
      have ec := clampI h0
      have K6 : FrK [0, 101] s s6 := by rw [← d6, ← d4]; exact (FrK.rfl.sf (k := 1) (by decide)).sv (k := 0) (by decide)
      have G5 : FrR [2, 101] z z5 := by rw [← g5, ← g3]; exact (FrR.rfl.sf (k := 1) (by decide)).sv (k := 2) (by decide)
      have T6 : TB s6 z5 := by
        refine ⟨by rw [v6, v5, e0], by rw [v6]; omega, fun i hi => ?_⟩
        rw [v6, a] at hi
        have p1 : s6.f 1 i = if i = (s.v 0).toNatClampNeg then vp_nar .byte (Int8.toInt32 (Int32.toInt8 (ushr x q))) else s.f 1 i := by
          rw [← d6, ← d4]
          exact ksf_get
        have p2 : z5.f 1 i = if i = (s.v 0).toNatClampNeg then vp_nar .byte (Int8.toInt32 (Int32.toInt8 (x >>> (q &&& 31)))) else z.f 1 i := by
          rw [← g5, ← g3, e0]
          exact rsf_all
        rw [p1, p2]
        by_cases w : i = (s.v 0).toNatClampNeg
        · rw [if_pos w, if_pos w, byte_eq x jq]
        · rw [if_neg w, if_neg w]
          exact hb i (by omega)
      have b : (q + (-8)).toInt = q.toInt + (-8) := tn_add rfl (by decide) (by omega) (by omega)
      generalize q + (-8) = q' at b hs hz
      obtain ⟨j', rfl⟩ : ∃ j', j = j' + 1 := ⟨j - 1, by omega⟩
      obtain ⟨r1, r2, r3, r4⟩ := ih m s6 s' z5 z' q' j' (by omega) (by omega) T6 (by rw [v6]; omega) hs hz
      exact ⟨r1, K6.trans r2 (by decide), G5.trans r3 (by decide), by rw [r4, v6]; omega⟩
theorem add4 {x : Int32} {s s' : KS} {z z' : RS} (hT : TB s z) (hl : (s.v 0).toInt + 4 ≤ 2000) (hs : kX7_addFour s x = some s') (hz : r_put z x = some z') : TB s' z' ∧ FrK [0, 101] s s' ∧ FrR [2, 101] z z' ∧ (s'.v 0).toInt = (s.v 0).toInt + 4 := by
  unfold kX7_addFour at hs
  unfold r_put at hz
  exact add4L x fu fu s s' z z' 24 4 (by decide) (by omega) hT hl hs hz
/-! ===== what holds between two calls ===== -/
/-- the odds of the waves that are told -/
noncomputable def OD7 (k : KS) (z : RS) : Prop := ∀ j : Nat, (j : Int) < 6 * (k.v 1).toInt → k.f 3 j = z.f 21 (30 * (z.v 18).toNatClampNeg + j)
noncomputable def TPk (k : KS) (z : RS) : Prop := TB k z ∧ KWR k z ∧ k.v 17 = z.v 17 ∧ k.v 1 = z.f 20 (z.v 18).toNatClampNeg ∧ k.v 21 = z.v 51 ∧ OD7 k z
theorem tpr_told {k k' : KS} {z z' : RS} {W W' : List Nat} (hF : FrK W k k') (hG : FrR W' z z') (hW : 0 ∉ W ∧ 17 ∉ W ∧ 101 ∉ W ∧ 131 ∉ W ∧ 1 ∉ W ∧ 103 ∉ W) (hW' : 2 ∉ W' ∧ 17 ∉ W' ∧ 101 ∉ W' ∧ 109 ∉ W' ∧ 18 ∉ W' ∧ 120 ∉ W' ∧ 121 ∉ W') (h : TPk k z) (ht : k'.v 21 = z'.v 51) : TPk k' z' := by
  obtain ⟨h1, h2, h3, h4, _, h6⟩ := h
  refine ⟨?_, ?_, ?_, ?_, ht, ?_⟩
  · unfold TB
    rw [hF.1 0 hW.1, (hF.2 1 hW.2.2.1).1, hG.1 2 hW'.1, (hG.2 1 hW'.2.2.1).1]
    exact h1
  · unfold KWR
    rw [(hF.2 31 hW.2.2.2.1).2, (hG.2 9 hW'.2.2.2.1).2]
    exact h2
  · rw [hF.1 17 hW.2.1, hG.1 17 hW'.2.1]
    exact h3
  · rw [hF.1 1 hW.2.2.2.2.1, hG.1 18 hW'.2.2.2.2.1, (hG.2 20 hW'.2.2.2.2.2.1).1]
    exact h4
  · unfold OD7
    rw [hF.1 1 hW.2.2.2.2.1, (hF.2 3 hW.2.2.2.2.2).1, hG.1 18 hW'.2.2.2.2.1, (hG.2 21 hW'.2.2.2.2.2.2).1]
    exact h6
theorem tpr_keep {k k' : KS} {z z' : RS} {W W' : List Nat} (hF : FrK W k k') (hG : FrR W' z z') (hW : (0 ∉ W ∧ 17 ∉ W ∧ 101 ∉ W ∧ 131 ∉ W ∧ 1 ∉ W ∧ 103 ∉ W) ∧ 21 ∉ W) (hW' : (2 ∉ W' ∧ 17 ∉ W' ∧ 101 ∉ W' ∧ 109 ∉ W' ∧ 18 ∉ W' ∧ 120 ∉ W' ∧ 121 ∉ W') ∧ 51 ∉ W') (h : TPk k z) : TPk k' z' :=
  tpr_told hF hG hW.1 hW'.1 h (by rw [hF.1 21 hW.2, hG.1 51 hW'.2]; exact h.2.2.2.2.1)
theorem tpr_tape {k k' : KS} {z z' : RS} (hF : FrK [0, 101] k k') (hG : FrR [2, 101] z z') (hT : TB k' z') (h : TPk k z) : TPk k' z' := by
  obtain ⟨h1, h2, h3, h4, h5, h6⟩ := h
  refine ⟨hT, ?_, ?_, ?_, ?_, ?_⟩
  · unfold KWR
    rw [(hF.2 31 (by decide)).2, (hG.2 9 (by decide)).2]
    exact h2
  · rw [hF.1 17 (by decide), hG.1 17 (by decide)]
    exact h3
  · rw [hF.1 1 (by decide), hG.1 18 (by decide), (hG.2 20 (by decide)).1]
    exact h4
  · rw [hF.1 21 (by decide), hG.1 51 (by decide)]
    exact h5
  · unfold OD7
    rw [hF.1 1 (by decide), (hF.2 3 (by decide)).1, hG.1 18 (by decide), (hG.2 21 (by decide)).1]
    exact h6
/-! is it a wave -/
theorem kw_yes {s : KS} {x : Int32} (h0 : 0 ≤ x.toInt) (h1 : x.toInt < (s.v 1).toInt) : kX5_hasWave s x = some (1, s) := by
  unfold kX5_hasWave
  have n1 : ¬ x < 0 := fun q => by
    have := tn_lt (b := 0) rfl (by decide) q
    omega
  have n2 : ¬ s.v 1 ≤ x := fun q => by
    have := ti_le q
    omega
  rw [if_neg n1, if_neg n2]
theorem kw_no {s : KS} {x : Int32} (h : ¬ (0 ≤ x.toInt ∧ x.toInt < (s.v 1).toInt)) : kX5_hasWave s x = some (0, s) := by
  unfold kX5_hasWave
  by_cases c : x < 0
  · rw [if_pos c]
  · have c' := tn_nlt (b := 0) rfl (by decide) c
    have n2 : s.v 1 ≤ x := Int32.le_iff_toInt_le.mpr (by omega)
    rw [if_neg c, if_pos n2]
theorem rw_yes {z : RS} {x : Int32} (hR : InvR z) (h5 : (z.f 20 (z.v 18).toNatClampNeg).toInt ≤ 5) (h0 : 0 ≤ x.toInt) (h1 : x.toInt < (z.f 20 (z.v 18).toNatClampNeg).toInt) : r_isWave z x = some (1, z) := by
  have b : 0 ≤ (z.v 18).toInt ∧ (z.v 18).toInt ≤ 1 := hR.1 18
  have a : ((z.f 20 (z.v 18).toNatClampNeg) - 1).toInt = (z.f 20 (z.v 18).toNatClampNeg).toInt - 1 := tn_sub rfl (by decide) (by omega) (by omega)
  unfold r_isWave r_in
  have n1 : ¬ x < 0 := fun q => by
    have := tn_lt (b := 0) rfl (by decide) q
    omega
  have n2 : ¬ ((z.f 20 (z.v 18).toNatClampNeg) - 1) < x := fun q => by
    have := ti_lt q
    omega
  rw [if_pos (vpb_ok (by omega) (by omega)), if_neg n1, if_neg n2, bindP_some]
  exact if_pos (Or.inr rfl)
theorem rw_no {z : RS} {x : Int32} (hR : InvR z) (h00 : 0 ≤ (z.f 20 (z.v 18).toNatClampNeg).toInt) (h5 : (z.f 20 (z.v 18).toNatClampNeg).toInt ≤ 5) (h : ¬ (0 ≤ x.toInt ∧ x.toInt < (z.f 20 (z.v 18).toNatClampNeg).toInt)) : r_isWave z x = some (0, z) := by
  have b : 0 ≤ (z.v 18).toInt ∧ (z.v 18).toInt ≤ 1 := hR.1 18
  have a : ((z.f 20 (z.v 18).toNatClampNeg) - 1).toInt = (z.f 20 (z.v 18).toNatClampNeg).toInt - 1 := tn_sub rfl (by decide) (by omega) (by omega)
  unfold r_isWave r_in
  rw [if_pos (vpb_ok (by omega) (by omega))]
  by_cases c : x < 0
  · rw [if_pos c, bindP_some]
    exact if_pos (Or.inl rfl)
  · have c' := tn_nlt (b := 0) rfl (by decide) c
    have n2 : ((z.f 20 (z.v 18).toNatClampNeg) - 1) < x := Int32.lt_iff_toInt_lt.mpr (by omega)
    rw [if_neg c, if_pos n2, bindP_some]
    exact if_pos (Or.inl rfl)
theorem tell_same {y y' : XS} {z z' : RS} {x1 x2 x3 r1 r2 : Int32} (hK : InvK y.k) (hR : InvR z) (h : TPk y.k z) (h1 : kX10_tell y x1 x2 x3 = some (r1, y')) (h2 : r_tell z x1 x2 x3 = some (r2, z')) : r1 = r2 ∧ y'.k.v 21 = z'.v 51 := by
  have bt : 0 ≤ (y.k.v 21).toInt ∧ (y.k.v 21).toInt ≤ 20 := hK.1 21
  have bw : 0 ≤ (y.k.v 1).toInt ∧ (y.k.v 1).toInt ≤ 5 := hK.1 1
  have ew : y.k.v 1 = z.f 20 (z.v 18).toNatClampNeg := h.2.2.2.1
  have et : y.k.v 21 = z.v 51 := h.2.2.2.2.1
  unfold kX10_tell at h1
  unfold r_tell at h2
  by_cases hw : 0 ≤ x1.toInt ∧ x1.toInt < (y.k.v 1).toInt
  · rw [kw_yes hw.1 hw.2, bindI_some] at h1
    obtain ⟨s3, d3, h1⟩ := letS_inv h1
    have k3 : s3.k = y.k := by rw [← d3]; rfl
    rw [if_neg z_one] at h1
    have hz := rw_yes (z := z) (x := x1) hR (by rw [← ew]; exact bw.2) hw.1 (by rw [← ew]; exact hw.2)
    by_cases hx : 1 ≤ x2.toInt ∧ x2.toInt ≤ 63
    · have q1 : ¬ x2 < 1 := fun q => by
        have := tn_lt (b := 1) rfl (by decide) q
        omega
      have q2 : x2 ≤ 63 := Int32.le_iff_toInt_le.mpr (by rw [show (63 : Int32).toInt = 63 from by decide]; exact hx.2)
      have q3 : ¬ 63 < x2 := fun q => by
        have := tn_lt (a := 63) (by decide) rfl q
        omega
      rw [if_neg q1, if_pos q2] at h1
      have h1 : ∃ t, kX10_tell_43 s3 t x1 = some (r1, y') := by
        by_cases c : x3 = 0
        · rw [if_pos c] at h1; exact ⟨_, h1⟩
        · rw [if_neg c] at h1; exact ⟨_, h1⟩
      obtain ⟨t, h1⟩ := h1
      unfold kX10_tell_43 kX8_add at h1
      rw [k3] at h1
      by_cases ct : y.k.v 21 = 20
      · have n : ¬ y.k.v 21 < 20 := by rw [ct]; decide
        rw [if_neg n, bindI_some] at h1
        obtain ⟨s4, d4, h1⟩ := letS_inv h1
        cases h1
        rw [if_pos (et.symm.trans ct)] at h2
        cases h2
        refine ⟨rfl, ?_⟩
        rw [← d4]
        exact et
      · have ct' := tn_ne (b := 20) rfl (by decide) ct
        have n : y.k.v 21 < 20 := Int32.lt_iff_toInt_lt.mpr (by rw [show (20 : Int32).toInt = 20 from by decide]; omega)
        have n5 : ¬ z.v 51 = 20 := by rw [← et]; exact ct
        rw [if_pos n] at h1
        obtain ⟨q, s1, hq, h1⟩ := bindI_inv h1
        obtain ⟨_, hq⟩ := guard_inv hq
        obtain ⟨u3, e3, hq⟩ := letS_inv hq
        obtain ⟨_, hq⟩ := guard_inv hq
        obtain ⟨u6, e6, hq⟩ := letS_inv hq
        obtain ⟨u8, e8, hq⟩ := letS_inv hq
        have v1 : u8.v 21 = (y.k.v 21) + 1 := by rw [← e8, ← e6, ← e3]; rfl
        have eq : q = (u8.v 21) - 1 ∧ s1 = u8 := by cases hq; exact ⟨rfl, rfl⟩
        obtain ⟨s4, d4, h1⟩ := letS_inv h1
        have ey : r1 = q ∧ y' = s4 := by cases h1; exact ⟨rfl, rfl⟩
        rw [if_neg n5, hz, bindI_some, if_neg z_one] at h2
        unfold r_in at h2
        rw [if_neg q1, if_neg q3, bindP_some, if_neg z_one] at h2
        obtain ⟨_, h2⟩ := guard_inv h2
        obtain ⟨w8, f8, h2⟩ := letS_inv h2
        obtain ⟨_, h2⟩ := guard_inv h2
        obtain ⟨w11, f11, h2⟩ := letS_inv h2
        obtain ⟨_, h2⟩ := guard_inv h2
        obtain ⟨w14, f14, h2⟩ := letS_inv h2
        obtain ⟨w16, f16, h2⟩ := letS_inv h2
        have v2 : w16.v 51 = (z.v 51) + 1 := by rw [← f16, ← f14, ← f11, ← f8]; rfl
        have ez : r2 = (w16.v 51) - 1 ∧ z' = w16 := by cases h2; exact ⟨rfl, rfl⟩
        rw [ey.1, ey.2, ez.1, ez.2, eq.1]
        refine ⟨by rw [v1, v2, et], ?_⟩
        rw [← d4]
        show s1.v 21 = _
        rw [eq.2, v1, v2, et]
    · have h1 : y'.k = y.k ∧ r1 = -1 := by
        by_cases q1 : x2 < 1
        · rw [if_pos q1] at h1
          cases h1
          exact ⟨k3, rfl⟩
        · have q1' := tn_nlt (b := 1) rfl (by decide) q1
          have q2 : ¬ x2 ≤ 63 := fun q => by
            have := tn_le (b := 63) rfl (by decide) q
            omega
          rw [if_neg q1, if_neg q2] at h1
          cases h1
          exact ⟨k3, rfl⟩
      have h2 : z' = z ∧ r2 = -1 := by
        by_cases ct : z.v 51 = 20
        · rw [if_pos ct] at h2
          cases h2
          exact ⟨rfl, rfl⟩
        · rw [if_neg ct, hz, bindI_some, if_neg z_one] at h2
          unfold r_in at h2
          by_cases q1 : x2 < 1
          · rw [if_pos q1, bindP_some, if_pos rfl] at h2
            cases h2
            exact ⟨rfl, rfl⟩
          · have q1' := tn_nlt (b := 1) rfl (by decide) q1
            have q3 : 63 < x2 := Int32.lt_iff_toInt_lt.mpr (by rw [show (63 : Int32).toInt = 63 from by decide]; omega)
            rw [if_neg q1, if_pos q3, bindP_some, if_pos rfl] at h2
            cases h2
            exact ⟨rfl, rfl⟩
      rw [h1.1, h1.2, h2.1, h2.2]
      exact ⟨rfl, et⟩
  · rw [kw_no hw, bindI_some] at h1
    obtain ⟨s3, d3, h1⟩ := letS_inv h1
    rw [if_pos rfl] at h1
    cases h1
    have hz := rw_no (z := z) (x := x1) hR (by rw [← ew]; exact bw.1) (by rw [← ew]; exact bw.2) (by rw [← ew]; exact hw)
    have h2 : z' = z ∧ r2 = -1 := by
      by_cases ct : z.v 51 = 20
      · rw [if_pos ct] at h2
        cases h2
        exact ⟨rfl, rfl⟩
      · rw [if_neg ct, hz, bindI_some, if_pos rfl] at h2
        cases h2
        exact ⟨rfl, rfl⟩
    rw [h2.1, h2.2, ← d3]
    exact ⟨rfl, et⟩
theorem forget_same {y y' : XS} {z z' : RS} {r1 r2 : Int32} (hK : InvK y.k) (hR : InvR z) (h : TPk y.k z) (h1 : kX10_forget y = some (r1, y')) (h2 : r_forget z = some (r2, z')) : r1 = r2 ∧ y'.k.v 21 = z'.v 51 := by
  unfold kX10_forget at h1
  unfold r_forget at h2
  obtain ⟨s1, d1, h1⟩ := letS_inv h1
  obtain ⟨z1, g1, h2⟩ := letS_inv h2
  cases h1
  cases h2
  refine ⟨h.2.2.2.2.1, ?_⟩
  rw [← d1, ← g1]
  rfl
theorem feed_same {y y' : XS} {z z' : RS} {x1 x2 x3 x4 x5 r1 r2 : Int32} (hK : InvK y.k) (hR : InvR z) (h : TPk y.k z) (h1 : kX10_feed y x1 x2 x3 x4 x5 = some (r1, y')) (h2 : r_feed z x1 x2 x3 x4 x5 = some (r2, z')) : r1 = r2 ∧ TPk y'.k z' := by
  have b0 : 0 ≤ (y.k.v 0).toInt ∧ (y.k.v 0).toInt ≤ 2000 := hK.1 0
  have e0 : y.k.v 0 = z.v 2 := h.1.1
  have a1 : (2000 - (y.k.v 0)).toInt = 2000 - (y.k.v 0).toInt := tn_sub (by decide) rfl (by omega) (by omega)
  have a2 : ((z.v 2) + 20).toInt = (z.v 2).toInt + 20 := tn_add rfl (by decide) (by rw [← e0]; omega) (by rw [← e0]; omega)
  unfold kX10_feed kX7_hasRoomFor at h1
  unfold r_feed at h2
  by_cases c : (2000 - (y.k.v 0)) < 20
  · have c' := tn_lt (b := 20) a1 (by decide) c
    have n : ¬ ((z.v 2) + 20) ≤ 2000 := fun q => by
      have := tn_le (b := 2000) a2 (by decide) q
      rw [← e0] at this
      omega
    rw [if_pos c, bindI_some] at h1
    obtain ⟨s3, d3, h1⟩ := letS_inv h1
    rw [if_pos rfl] at h1
    rw [if_neg n] at h2
    cases h1
    cases h2
    refine ⟨rfl, ?_⟩
    rw [← d3]
    exact h
  · have c' := tn_nlt (b := 20) a1 (by decide) c
    have n : ((z.v 2) + 20) ≤ 2000 := Int32.le_iff_toInt_le.mpr (by
      rw [a2, show (2000 : Int32).toInt = 2000 from by decide, ← e0]
      omega)
    rw [if_neg c, bindI_some] at h1
    obtain ⟨s3, d3, h1⟩ := letS_inv h1
    rw [if_neg z_one] at h1
    rw [if_pos n] at h2
    have k3 : s3.k = y.k := by rw [← d3]; rfl
    obtain ⟨s6, f6, h1⟩ := bindP_inv h1
    obtain ⟨s7, d7, h1⟩ := letS_inv h1
    obtain ⟨s9, f9, h1⟩ := bindP_inv h1
    obtain ⟨s10, d10, h1⟩ := letS_inv h1
    obtain ⟨s12, f12, h1⟩ := bindP_inv h1
    obtain ⟨s13, d13, h1⟩ := letS_inv h1
    obtain ⟨s15, f15, h1⟩ := bindP_inv h1
    obtain ⟨s16, d16, h1⟩ := letS_inv h1
    obtain ⟨s18, f18, h1⟩ := bindP_inv h1
    obtain ⟨s19, d19, h1⟩ := letS_inv h1
    obtain ⟨w2, g2, h2⟩ := bindP_inv h2
    obtain ⟨w3, g3, h2⟩ := bindP_inv h2
    obtain ⟨w4, g4, h2⟩ := bindP_inv h2
    obtain ⟨w5, g5, h2⟩ := bindP_inv h2
    obtain ⟨w6, g6, h2⟩ := bindP_inv h2
    have k7 : s7.k = s6 := by rw [← d7]; rfl
    have k10 : s10.k = s9 := by rw [← d10]; rfl
    have k13 : s13.k = s12 := by rw [← d13]; rfl
    have k16 : s16.k = s15 := by rw [← d16]; rfl
    have k19 : s19.k = s18 := by rw [← d19]; rfl
    have e1 : r1 = s19.k.v 0 ∧ y' = s19 := by cases h1; exact ⟨rfl, rfl⟩
    have e2 : r2 = w6.v 2 ∧ z' = w6 := by cases h2; exact ⟨rfl, rfl⟩
    rw [k3] at f6
    rw [k7] at f9
    rw [k10] at f12
    rw [k13] at f15
    rw [k16] at f18
    obtain ⟨t1, u1, v1, l1⟩ := add4 h.1 (by omega) f6 g2
    obtain ⟨t2, u2, v2, l2⟩ := add4 t1 (by omega) f9 g3
    obtain ⟨t3, u3, v3, l3⟩ := add4 t2 (by omega) f12 g4
    obtain ⟨t4, u4, v4, l4⟩ := add4 t3 (by omega) f15 g5
    obtain ⟨t5, u5, v5, l5⟩ := add4 t4 (by omega) f18 g6
    have U := (((u1.trans u2 (by decide)).trans u3 (by decide)).trans u4 (by decide)).trans u5 (by decide)
    have V := (((v1.trans v2 (by decide)).trans v3 (by decide)).trans v4 (by decide)).trans v5 (by decide)
    rw [e1.1, e1.2, e2.1, e2.2, k19]
    exact ⟨t5.1, tpr_tape U V t5 h⟩
theorem back_same {y y' : XS} {z z' : RS} {x r1 r2 : Int32} (hK : InvK y.k) (hR : InvR z) (h : TPk y.k z) (h1 : kX10_back y x = some (r1, y')) (h2 : r_back z x = some (r2, z')) : r1 = r2 ∧ TPk y'.k z' := by
  have b0 : 0 ≤ (y.k.v 0).toInt ∧ (y.k.v 0).toInt ≤ 2000 := hK.1 0
  have e0 : y.k.v 0 = z.v 2 := h.1.1
  unfold kX10_back at h1
  unfold r_back at h2
  by_cases c : x < 0
  · rw [if_pos c] at h1 h2
    cases h1
    cases h2
    exact ⟨rfl, h⟩
  · have c' := tn_nlt (b := 0) rfl (by decide) c
    rw [if_neg c] at h1 h2
    rw [← e0] at h2
    by_cases d : x ≤ y.k.v 0
    · have d' := ti_le d
      rw [if_pos d] at h1 h2
      obtain ⟨s3, d3, h1⟩ := letS_inv h1
      obtain ⟨z3, g3, h2⟩ := letS_inv h2
      have e1 : r1 = s3.k.v 0 ∧ y' = s3 := by cases h1; exact ⟨rfl, rfl⟩
      have e2 : r2 = z3.v 2 ∧ z' = z3 := by cases h2; exact ⟨rfl, rfl⟩
      rw [e1.1, e1.2, e2.1, e2.2]
      have a : ((y.k.v 0) - x).toInt = (y.k.v 0).toInt - x.toInt := ti_sub (by omega) (by omega)
      have v3 : s3.k.v 0 = (y.k.v 0) - x := by rw [← d3]; rfl
      have w3 : z3.v 2 = (y.k.v 0) - x := by rw [← g3]; rfl
      have K : FrK [0, 101] y.k s3.k := by rw [← d3]; exact FrK.rfl.sv (k := 0) (by decide)
      have G : FrR [2, 101] z z3 := by rw [← g3]; exact FrR.rfl.sv (k := 2) (by decide)
      refine ⟨by rw [v3, w3], tpr_tape K G ⟨by rw [v3, w3], by rw [v3]; omega, fun i hi => ?_⟩ h⟩
      rw [v3, a] at hi
      have p1 : s3.k.f 1 = y.k.f 1 := by rw [← d3]; rfl
      have p2 : z3.f 1 = z.f 1 := by rw [← g3]; rfl
      rw [p1, p2]
      exact h.1.2.2 i (by omega)
    · rw [if_neg d] at h1 h2
      cases h1
      cases h2
      exact ⟨rfl, h⟩
theorem place_same {y y' : XS} {z z' : RS} {r1 r2 : Int32} (hK : InvK y.k) (hR : InvR z) (h : TPk y.k z) (h1 : kX10_place y = some (r1, y')) (h2 : r_place z = some (r2, z')) : r1 = r2 ∧ TPk y'.k z' := by
  unfold kX10_place at h1
  unfold r_place at h2
  cases h1
  cases h2
  exact ⟨h.2.2.1, h⟩
theorem kt_yes {x : Int32} (h0 : 0 ≤ x.toInt) (h5 : x.toInt ≤ 5) : kX10_isThing x = some 1 := by
  unfold kX10_isThing
  have n1 : ¬ x < 0 := fun q => by
    have := tn_lt (b := 0) rfl (by decide) q
    omega
  have n2 : ¬ 6 ≤ x := fun q => by
    have := tn_le (a := 6) (by decide) rfl q
    omega
  rw [if_neg n1, if_neg n2]
theorem kt_no {x : Int32} (h : ¬ (0 ≤ x.toInt ∧ x.toInt ≤ 5)) : kX10_isThing x = some 0 := by
  unfold kX10_isThing
  by_cases c : x < 0
  · rw [if_pos c]
  · have c' := tn_nlt (b := 0) rfl (by decide) c
    have n2 : 6 ≤ x := Int32.le_iff_toInt_le.mpr (by rw [show (6 : Int32).toInt = 6 from by decide]; omega)
    rw [if_neg c, if_pos n2]
theorem rt_yes {x : Int32} (h0 : 0 ≤ x.toInt) (h5 : x.toInt ≤ 5) : r_isThing x = some 1 := by
  unfold r_isThing r_in
  have n1 : ¬ x < 0 := fun q => by
    have := tn_lt (b := 0) rfl (by decide) q
    omega
  have n2 : ¬ 5 < x := fun q => by
    have := tn_lt (a := 5) (by decide) rfl q
    omega
  rw [if_neg n1, if_neg n2, bindP_some]
  exact if_pos (Or.inr rfl)
theorem rt_no {x : Int32} (h : ¬ (0 ≤ x.toInt ∧ x.toInt ≤ 5)) : r_isThing x = some 0 := by
  unfold r_isThing r_in
  by_cases c : x < 0
  · rw [if_pos c, bindP_some]
    exact if_pos (Or.inl rfl)
  · have c' := tn_nlt (b := 0) rfl (by decide) c
    have n2 : 5 < x := Int32.lt_iff_toInt_lt.mpr (by rw [show (5 : Int32).toInt = 5 from by decide]; omega)
    rw [if_neg c, if_pos n2, bindP_some]
    exact if_pos (Or.inl rfl)
theorem odds_same {y y' : XS} {z z' : RS} {x1 x2 r1 r2 : Int32} (hK : InvK y.k) (hR : InvR z) (h : TPk y.k z) (h1 : kX10_odds y x1 x2 = some (r1, y')) (h2 : r_odds z x1 x2 = some (r2, z')) : r1 = r2 ∧ True := by
  refine ⟨?_, trivial⟩
  have bw : 0 ≤ (y.k.v 1).toInt ∧ (y.k.v 1).toInt ≤ 5 := hK.1 1
  have bl : 0 ≤ (z.v 18).toInt ∧ (z.v 18).toInt ≤ 1 := hR.1 18
  have ew : y.k.v 1 = z.f 20 (z.v 18).toNatClampNeg := h.2.2.2.1
  have el := clampI bl.1
  unfold kX10_odds at h1
  unfold r_odds at h2
  by_cases hw : 0 ≤ x1.toInt ∧ x1.toInt < (y.k.v 1).toInt
  · rw [kw_yes hw.1 hw.2, bindI_some] at h1
    obtain ⟨s3, d3, h1⟩ := letS_inv h1
    have k3 : s3.k = y.k := by rw [← d3]; rfl
    rw [if_neg z_one] at h1
    rw [rw_yes (z := z) (x := x1) hR (by rw [← ew]; exact bw.2) hw.1 (by rw [← ew]; exact hw.2), bindI_some, if_neg z_one] at h2
    by_cases ht : 0 ≤ x2.toInt ∧ x2.toInt ≤ 5
    · rw [kt_yes ht.1 ht.2, bindP_some, if_neg z_one] at h1
      rw [rt_yes ht.1 ht.2, bindP_some, if_neg z_one] at h2
      obtain ⟨q, s8, hq, h1⟩ := bindI_inv h1
      obtain ⟨q', z6, hq', h2⟩ := bindI_inv h2
      unfold kX5_oddsAt at hq
      unfold r_oddsAt at hq'
      obtain ⟨_, hq⟩ := guard_inv hq
      obtain ⟨_, hq'⟩ := guard_inv hq'
      obtain ⟨s10, d10, h1⟩ := letS_inv h1
      have e1 : r1 = q := by cases h1; rfl
      have e2 : r2 = q' := by cases h2; rfl
      have e3 : q = s3.k.f 3 (Int32.toNatClampNeg ((x1 * 6) + x2)) := by cases hq; rfl
      have e4 : q' = z.f 21 (Int32.toNatClampNeg (((30 * (z.v 18)) + (6 * x1)) + x2)) := by cases hq'; rfl
      have m1 : (x1 * 6).toInt = x1.toInt * 6 := ti_mulc (c := 6) (by decide) (by omega) (by omega)
      have i1 : ((x1 * 6) + x2).toInt = ((6 * x1.toInt.toNat + x2.toInt.toNat : Nat) : Int) := by
        rw [ti_add (by omega) (by omega)]
        omega
      have m2 : (30 * (z.v 18)).toInt = (z.v 18).toInt * 30 := ti_cmul (c := 30) (by decide) (by omega) (by omega)
      have m3 : (6 * x1).toInt = x1.toInt * 6 := ti_cmul (c := 6) (by decide) (by omega) (by omega)
      have m4 : ((30 * (z.v 18)) + (6 * x1)).toInt = (30 * (z.v 18)).toInt + (6 * x1).toInt := ti_add (by omega) (by omega)
      have i2 : (((30 * (z.v 18)) + (6 * x1)) + x2).toInt = ((30 * (z.v 18).toNatClampNeg + (6 * x1.toInt.toNat + x2.toInt.toNat) : Nat) : Int) := by
        rw [ti_add (by omega) (by omega)]
        omega
      rw [e1, e2, e3, e4, k3, clamp_of_int i1, clamp_of_int i2]
      exact h.2.2.2.2.2 _ (by omega)
    · rw [kt_no ht, bindP_some, if_pos rfl] at h1
      rw [rt_no ht, bindP_some, if_pos rfl] at h2
      have e1 : r1 = -1 := by cases h1; rfl
      have e2 : r2 = -1 := by cases h2; rfl
      rw [e1, e2]
  · rw [kw_no hw, bindI_some] at h1
    obtain ⟨s3, d3, h1⟩ := letS_inv h1
    rw [if_pos rfl] at h1
    rw [rw_no (z := z) (x := x1) hR (by rw [← ew]; exact bw.1) (by rw [← ew]; exact bw.2) (by rw [← ew]; exact hw), bindI_some, if_pos rfl] at h2
    have e1 : r1 = -1 := by cases h1; rfl
    have e2 : r2 = -1 := by cases h2; rfl
    rw [e1, e2]
end
