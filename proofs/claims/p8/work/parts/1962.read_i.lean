/-! digits -/
def DVb (n v : Int) : Prop := 0 ≤ v ∧ v ≤ 9999 ∧ (n ≤ 3 → v ≤ 999) ∧ (n ≤ 2 → v ≤ 99) ∧ (n ≤ 1 → v ≤ 9) ∧ (n ≤ 0 → v ≤ 0)
theorem dig64 {u : Int64} {c : Int32} (h0 : 0 ≤ u.toInt) (h : u.toInt ≤ 9999) (hc : IsDi c) : (((u * 10) + (Int32.toInt64 c)) - 48).toInt = u.toInt * 10 + c.toInt - 48 := by
  have ed : (Int32.toInt64 c).toInt = c.toInt := Int32.toInt_toInt64 c
  have e10 : (10 : Int64).toInt = 10 := by decide
  have e48 : (48 : Int64).toInt = 48 := by decide
  have c1 := hc.1
  have c2 := hc.2
  have em : (u * 10).toInt = u.toInt * 10 := by
    rw [Int64.toInt_mul, e10]
    exact Int.bmod_eq_of_le (by omega) (by omega)
  have ea : ((u * 10) + (Int32.toInt64 c)).toInt = u.toInt * 10 + c.toInt := by
    rw [Int64.toInt_add, em, ed]
    exact Int.bmod_eq_of_le (by omega) (by omega)
  rw [Int64.toInt_sub, ea, e48]
  exact Int.bmod_eq_of_le (by omega) (by omega)
theorem digits {z out : RS} {k7 : RS → Int32 → Option RS} {p : Int32} (hp0 : 0 ≤ p.toInt) {r : Int32} {s' : KS} : ∀ (n m : Nat) (s : KS) (x3 x4 : Int32), TX s z → 0 ≤ x3.toInt → (s.v 20).toInt = p.toInt + x3.toInt → (s.v 20).toInt ≤ (s.v 0).toInt → (x3.toInt ≤ 4 → (s.u 0).toInt = x4.toInt ∧ DVb x3.toInt x4.toInt) → kX9_splitDigits_5L n s p = some (r, s') → r_cut_208L k7 m z p x3 x4 = some out →
    ∃ (t : KS) (x v : Int32), kX9_splitDigits_78 t p = some (r, s') ∧ r_cut_261 k7 z p x v (if x ≤ 4 then 2 else 3) = some out ∧ FrK [20] s t ∧ x3.toInt ≤ x.toInt ∧ (t.v 20).toInt = p.toInt + x.toInt ∧ (t.v 20).toInt ≤ (s.v 0).toInt ∧ (x.toInt ≤ 4 → (t.u 0).toInt = v.toInt ∧ DVb x.toInt v.toInt) ∧ (IsDi (cb s (s.v 20)) → (s.v 20).toInt < (s.v 0).toInt → x3.toInt < x.toInt) := by
  intro n
  induction n with
  | zero => intro m s x3 x4 _ _ _ _ _ h; exact none_ne h
  | succ n ih =>
    intro m s x3 x4 hT h30 hv hl hN hs hz
    have hs : kX9_splitDigits_5 (kX9_splitDigits_5L n) s p = some (r, s') := hs
    cases m with
    | zero => exact none_ne hz
    | succ m =>
    have hz : r_cut_208 k7 (r_cut_208L k7 m) z p x3 x4 = some out := hz
    have h2 := hT.2.2.1
    have a : (p + x3).toInt = p.toInt + x3.toInt := ti_add (by omega) (by omega)
    have e20 : s.v 20 = p + x3 := Int32.toInt_inj.mp (by rw [a]; exact hv)
    unfold kX9_splitDigits_5 at hs
    unfold r_cut_208 at hz
    have stop : ∀ c0, r_byteAt z (p + x3) = some (c0, z) → ¬ IsDi c0 → kX9_splitDigits_78 s p = some (r, s') → (IsDi (cb s (s.v 20)) → (s.v 20).toInt < (s.v 0).toInt → False) → ∃ (t : KS) (x v : Int32), kX9_splitDigits_78 t p = some (r, s') ∧ r_cut_261 k7 z p x v (if x ≤ 4 then 2 else 3) = some out ∧ FrK [20] s t ∧ x3.toInt ≤ x.toInt ∧ (t.v 20).toInt = p.toInt + x.toInt ∧ (t.v 20).toInt ≤ (s.v 0).toInt ∧ (x.toInt ≤ 4 → (t.u 0).toInt = v.toInt ∧ DVb x.toInt v.toInt) ∧ (IsDi (cb s (s.v 20)) → (s.v 20).toInt < (s.v 0).toInt → x3.toInt < x.toInt) := by
      intro c0 hb hn h71 hF
      rw [hb, bindI_some, (kdi_no hn).2, bindP_some, if_pos rfl] at hz
      refine ⟨s, x3, x4, h71, ?_, FrK.rfl, Int.le_refl _, hv, hl, hN, fun q1 q2 => absurd (hF q1 q2) id⟩
      by_cases c8 : x3 ≤ 4
      · rw [if_pos c8] at hz ⊢; exact hz
      · rw [if_neg c8] at hz ⊢; exact hz
    by_cases c : s.v 0 ≤ s.v 20
    · have c' := ti_le c
      rw [if_pos c] at hs
      exact stop 0 (zb_out hT (by rw [← e20]; exact c')) (by unfold IsDi; decide) hs (fun _ q => by omega)
    · have c' := ti_nle c
      rw [if_neg c, kb_in hT (by omega) c', bindI_some] at hs
      have hb : r_byteAt z (p + x3) = some (cb s (s.v 20), z) := by rw [← e20]; exact zb_in hT (by omega) c'
      by_cases l : IsDi (cb s (s.v 20))
      · rw [(kdi_yes l).1, bindP_some, if_neg z_one, kb_in hT (by omega) c', bindI_some] at hs
        obtain ⟨t9, e9, hs⟩ := letS_inv hs
        obtain ⟨t, et, hs⟩ := letS_inv hs
        rw [hb, bindI_some, (kdi_yes l).2, bindP_some, if_neg z_one] at hz
        have a3 : (x3 + 1).toInt = x3.toInt + 1 := tn_add rfl (by decide) (by omega) (by omega)
        have a20 : ((s.v 20) + 1).toInt = (s.v 20).toInt + 1 := tn_add rfl (by decide) (by omega) (by omega)
        have v20 : t.v 20 = (s.v 20) + 1 := by rw [← et, ← e9]; rfl
        have v0 : t.v 0 = s.v 0 := by rw [← et, ← e9]; rfl
        have Tt : TX t z := by rw [← et, ← e9]; exact hT
        have Kt : FrK [20] s t := by rw [← et, ← e9]; exact (FrK.rfl.su).sv (by decide)
        have u0 : t.u 0 = (((s.u 0) * 10) + (Int32.toInt64 (cb s (s.v 20)))) - 48 := by rw [← et, ← e9]; rfl
        have nxt : ∃ v2, r_cut_208L k7 m z p (x3 + 1) v2 = some out ∧ (x3.toInt + 1 ≤ 4 → (t.u 0).toInt = v2.toInt ∧ DVb (x3.toInt + 1) v2.toInt) := by
          unfold r_cut_244 at hz
          by_cases c8 : 4 ≤ x3
          · have c8' := tn_le (a := 4) (by decide) rfl c8
            rw [if_pos c8] at hz
            exact ⟨_, hz, fun q => by omega⟩
          · have c8' := tn_nle (a := 4) (by decide) rfl c8
            rw [if_neg c8, hb, bindI_some] at hz
            refine ⟨_, hz, fun _ => ?_⟩
            obtain ⟨g1, g2, g3, g4, g5, g6, g7⟩ := hN (by omega)
            have g4 := g4 (by omega)
            have l1 := l.1
            have l2 := l.2
            have du := dig64 (u := s.u 0) (c := cb s (s.v 20)) (by omega) (by omega) l
            have q1 : (10 * x4).toInt = x4.toInt * 10 := ti_cmul (c := 10) (by decide) (by omega) (by omega)
            have q2 : ((10 * x4) + cb s (s.v 20)).toInt = (10 * x4).toInt + (cb s (s.v 20)).toInt := ti_add (by omega) (by omega)
            have q3 : (((10 * x4) + cb s (s.v 20)) - 48).toInt = ((10 * x4) + cb s (s.v 20)).toInt - 48 := tn_sub rfl (by decide) (by omega) (by omega)
            rw [u0, du, q3, q2, q1]
            refine ⟨by omega, by omega, by omega, fun h => ?_, fun h => ?_, fun h => ?_, fun h => by omega⟩
            · have := g5 (by omega); omega
            · have := g6 (by omega); omega
            · have := g7 (by omega); omega
        obtain ⟨v2, hz, hN2⟩ := nxt
        obtain ⟨t', x, v, f1, f2, f3, f4, f5, f6, f7, _⟩ := ih m t (x3 + 1) v2 Tt (by omega) (by rw [v20, a20]; omega) (by rw [v20, v0, a20]; omega) (by rw [a3]; exact hN2) hs hz
        rw [v0] at f6
        exact ⟨t', x, v, f1, f2, Kt.trans f3 (by decide), by omega, f5, f6, f7, fun _ _ => by omega⟩
      · rw [(kdi_no l).1, bindP_some, if_pos rfl] at hs
        exact stop _ hb l hs (fun q _ => l q)
/-! words -/
def KWR (s : KS) (z : RS) : Prop := (∀ k, k < 19 → NmR (s.g 31 k) (z.g 9 k)) ∧ (∀ k k', k < 19 → k' < 19 → s.g 31 k = s.g 31 k' → k = k')
theorem word_k {r : Int32} {s s' : KS} : ∀ (n : Nat) (x : Int32), 0 ≤ x.toInt → x.toInt ≤ 19 → kX9_splitLetters_88L n s x = some (r, s') → s' = s ∧ ((∃ k : Nat, x.toInt ≤ (k : Int) ∧ k < 19 ∧ s.g 31 k = s.u 0 ∧ r.toInt = 256 + (k : Int)) ∨ (r = 300 ∧ ∀ k : Nat, x.toInt ≤ (k : Int) → k < 19 → ¬ s.g 31 k = s.u 0)) := by
  intro n
  induction n with
  | zero => intro x _ _ h; exact none_ne h
  | succ n ih =>
    intro x h0 h19 h
    have h : kX9_splitLetters_88 (kX9_splitLetters_88L n) s x = some (r, s') := h
    unfold kX9_splitLetters_88 at h
    by_cases c : 19 ≤ x
    · have c' := tn_le (a := 19) (by decide) rfl c
      rw [if_pos c] at h
      cases h
      exact ⟨rfl, Or.inr ⟨rfl, fun k q1 q2 => by omega⟩⟩
    · have c' := tn_nle (a := 19) (by decide) rfl c
      rw [if_neg c] at h
      obtain ⟨_, h⟩ := guard_inv h
      have ec := clampI h0
      by_cases c2 : lg_cmp ((s.g 31) (Int32.toNatClampNeg x)) (s.u 0) = 0
      · rw [if_pos c2] at h
        cases h
        refine ⟨rfl, Or.inl ⟨x.toNatClampNeg, by omega, by omega, cmp_zero.mp c2, ?_⟩⟩
        rw [tn_add (x := 256) (y := x) (a := 256) (by decide) rfl (by omega) (by omega)]
        omega
      · rw [if_neg c2] at h
        have a : (x + 1).toInt = x.toInt + 1 := tn_add rfl (by decide) (by omega) (by omega)
        obtain ⟨e1, h⟩ := ih (x + 1) (by omega) (by omega) h
        refine ⟨e1, ?_⟩
        rcases h with ⟨k, h1, h2, h3, h4⟩ | ⟨e2, h1⟩
        · exact Or.inl ⟨k, by omega, h2, h3, h4⟩
        · refine Or.inr ⟨e2, fun k q1 q2 => ?_⟩
          by_cases q3 : k = x.toNatClampNeg
          · subst q3
            exact fun w => c2 (cmp_zero.mpr w)
          · exact h1 k (by omega) q2
theorem word_z {z out : RS} {k7 : RS → Int32 → Option RS} {p x3 : Int32} {nm : Int64} : ∀ (n : Nat) (x6 x : Int32), 0 ≤ x.toInt → x.toInt ≤ 19 → r_cut_146L k7 n z p x3 nm x6 x = some out → ∃ y : Int32, r_cut_179 k7 z p x3 nm y = some out ∧ ((∃ k : Nat, x.toInt ≤ (k : Int) ∧ k < 19 ∧ z.g 9 k = nm ∧ y.toInt = 20 + (k : Int)) ∨ (y = x6 ∧ ∀ k : Nat, x.toInt ≤ (k : Int) → k < 19 → ¬ z.g 9 k = nm)) := by
  intro n
  induction n with
  | zero => intro x6 x _ _ h; exact none_ne h
  | succ n ih =>
    intro x6 x h0 h19 h
    have h : r_cut_146 k7 (r_cut_146L k7 n) z p x3 nm x6 x = some out := h
    unfold r_cut_146 at h
    by_cases c : 19 ≤ x
    · have c' := tn_le (a := 19) (by decide) rfl c
      rw [if_pos c] at h
      exact ⟨x6, h, Or.inr ⟨rfl, fun k q1 q2 => by omega⟩⟩
    · have c' := tn_nle (a := 19) (by decide) rfl c
      rw [if_neg c] at h
      obtain ⟨_, h⟩ := guard_inv h
      have ec := clampI h0
      have a : (x + 1).toInt = x.toInt + 1 := tn_add rfl (by decide) (by omega) (by omega)
      have a20 : (20 + x).toInt = 20 + x.toInt := tn_add (by decide) rfl (by omega) (by omega)
      unfold r_cut_173 at h
      by_cases c2 : lg_cmp (z.g 9 (Int32.toNatClampNeg x)) nm = 0
      · rw [if_pos c2] at h
        obtain ⟨y, e1, e2⟩ := ih (20 + x) (x + 1) (by omega) (by omega) h
        refine ⟨y, e1, Or.inl ?_⟩
        rcases e2 with ⟨k, h1, h2, h3, h4⟩ | ⟨e2, _⟩
        · exact ⟨k, by omega, h2, h3, h4⟩
        · exact ⟨x.toNatClampNeg, by omega, by omega, cmp_zero.mp c2, by rw [e2, a20]; omega⟩
      · rw [if_neg c2] at h
        obtain ⟨y, e1, e2⟩ := ih x6 (x + 1) (by omega) (by omega) h
        refine ⟨y, e1, ?_⟩
        rcases e2 with ⟨k, h1, h2, h3, h4⟩ | ⟨e2, h1⟩
        · exact Or.inl ⟨k, by omega, h2, h3, h4⟩
        · refine Or.inr ⟨e2, fun k q1 q2 => ?_⟩
          by_cases q3 : k = x.toNatClampNeg
          · subst q3
            exact fun w => c2 (cmp_zero.mpr w)
          · exact h1 k (by omega) q2
theorem kpl_word : ∀ k, k < 19 → ((Int32.ofNat (256 + k), Int32.ofNat (20 + k)) : Int32 × Int32) ∈ kpl ∧ (Int32.ofNat (256 + k)).toInt = 256 + (k : Int) ∧ (Int32.ofNat (20 + k)).toInt = 20 + (k : Int) ∧ ¬ Int32.ofNat (256 + k) = 300 ∧ ¬ Int32.ofNat (256 + k) = 301 ∧ ¬ Int32.ofNat (256 + k) = 302 := by decide +kernel
/-! signs -/
theorem idx_inv {x4 r : Int32} : ∀ (n : Nat) (x5 : Int32), 0 ≤ x5.toInt → x5.toInt ≤ 9 → kJ1_indexOfChar_4cfef_7L n 9 x4 x5 = some r → (r.toInt < 0 ∧ ∀ j : Nat, x5.toInt ≤ (j : Int) → j < 9 → ¬ sgn j = x4) ∨ (0 ≤ r.toInt ∧ ∃ j : Nat, j < 9 ∧ sgn j = x4) := by
  intro n
  induction n with
  | zero => intro x5 _ _ h; exact none_ne h
  | succ n ih =>
    intro x5 h0 h9 h
    have h : kJ1_indexOfChar_4cfef_7 (kJ1_indexOfChar_4cfef_7L n) 9 x4 x5 = some r := h
    unfold kJ1_indexOfChar_4cfef_7 at h
    by_cases c : 9 ≤ x5
    · have c' := tn_le (a := 9) (by decide) rfl c
      rw [if_pos c] at h
      cases h
      exact Or.inl ⟨by decide, fun j q1 q2 => by omega⟩
    · have c' := tn_nle (a := 9) (by decide) rfl c
      rw [if_neg c] at h
      obtain ⟨_, h⟩ := guard_inv h
      have ec := clampI h0
      by_cases c2 : sgn (Int32.toNatClampNeg x5) = x4
      · rw [if_pos c2] at h
        cases h
        exact Or.inr ⟨h0, _, by omega, c2⟩
      · rw [if_neg c2] at h
        have a : (x5 + 1).toInt = x5.toInt + 1 := tn_add rfl (by decide) (by omega) (by omega)
        rcases ih (x5 + 1) (by omega) (by omega) h with ⟨e1, e2⟩ | e
        · refine Or.inl ⟨e1, fun j q1 q2 => ?_⟩
          by_cases q3 : j = x5.toNatClampNeg
          · subst q3; exact c2
          · exact e2 j (by omega) q2
        · exact Or.inr e
theorem chr_c : ∀ c, c < 256 → UInt32.toInt32 (Int32.toUInt32 (Int32.ofNat c) % 65536) = Int32.ofNat c ∧ kJ1_canEncode_9a6ad (Int32.ofNat c) = some 1 ∧ (∀ j, j < 9 → (sgn j = Int8.toInt32 (Int32.toInt8 (Int32.ofNat c)) ↔ sgn j = Int32.ofNat c)) := by decide +kernel
theorem ofNat_of {c : Int32} (h0 : 0 ≤ c.toInt) : c = Int32.ofNat c.toInt.toNat := by
  refine Int32.toInt_inj.mp ?_
  have := (ti_rng c).2
  have e : (Int32.ofNat c.toInt.toNat).toInt = (c.toInt.toNat : Int) := nI_toInt (n := c.toInt.toNat) (by omega)
  omega
theorem sign_k {c r : Int32} (h0 : 0 ≤ c.toInt) (h255 : c.toInt ≤ 255) (h : kJ0_indexOf_0f7a4 (UInt32.toInt32 (Int32.toUInt32 c % 65536)) = some r) : (r < 0 ∧ ∀ j : Nat, j < 9 → ¬ sgn j = c) ∨ (¬ r < 0 ∧ ∃ j : Nat, j < 9 ∧ sgn j = c) := by
  have ec := ofNat_of h0
  obtain ⟨q1, q2, q3⟩ := chr_c c.toInt.toNat (by omega)
  rw [← ec] at q1 q2 q3
  rw [q1] at h
  unfold kJ0_indexOf_0f7a4 kJ0_indexOf_7cf53 kJ0_isLatin1_aae02 kJ0_length_8abf5 kJ0_coder_7d493 at h
  rw [bindP_id, bindP_some, bindP_some, bindP_some, bindP_id] at h
  unfold kJ1_indexOf_4cfef at h
  rw [q2, bindP_some, if_neg z_one] at h
  have m1 : mmax 0 0 = (0 : Int32) := by decide
  have m2 : mmin 9 9 = (9 : Int32) := by decide
  rw [m1, m2, if_pos (by decide : (0 : Int32) < 9), bindP_id] at h
  unfold kJ1_indexOfChar_4cfef at h
  have z0 : (0 : Int32).toInt = 0 := by decide
  rcases idx_inv fu 0 (by decide) (by decide) h with ⟨e1, e2⟩ | ⟨e1, j, e2, e3⟩
  · refine Or.inl ⟨Int32.lt_iff_toInt_lt.mpr (by rw [z0]; exact e1), fun j hj q => e2 j (by omega) hj ((q3 j hj).mpr q)⟩
  · refine Or.inr ⟨fun q => ?_, j, e2, (q3 j e2).mp e3⟩
    have := ti_lt q
    omega
def sgk (c : Int32) : Int32 := if c = 60 then 13 else if c = 47 then 15 else if c = 42 then 10 else if c = 45 then 9 else if c = 43 then 8 else if c = 59 then 4 else if c = 61 then 5 else if c = 40 then 6 else if c = 41 then 7 else 3
theorem sign_z {z : RS} {p c d : Int32} (hv : vpb (z.v 10) 403 = true) : r_sign z p c d = some (1, ztok z (sgk c) p 0 0) := by
  have h95 : ∀ k, r_sign_95 z p k = some (1, ztok z k p 0 0) := fun k => by
    unfold r_sign_95
    rw [ztok_eq hv, bindP_some]
  have r43 : ∀ k, r_sign_43 z p c k = some (1, ztok z (if c = 60 then 13 else if c = 47 then 15 else if c = 42 then 10 else if c = 45 then 9 else if c = 43 then 8 else k) p 0 0) := by
    intro k
    unfold r_sign_43 r_sign_55 r_sign_65 r_sign_75 r_sign_85
    by_cases c1 : c = 60
    · have n5 : ¬ c = 43 := by rw [c1]; decide
      have n4 : ¬ c = 45 := by rw [c1]; decide
      have n3 : ¬ c = 42 := by rw [c1]; decide
      have n2 : ¬ c = 47 := by rw [c1]; decide
      simp only [if_neg n5, if_neg n4, if_neg n3, if_neg n2, if_pos c1, h95]
    · by_cases c2 : c = 47
      · have n5 : ¬ c = 43 := by rw [c2]; decide
        have n4 : ¬ c = 45 := by rw [c2]; decide
        have n3 : ¬ c = 42 := by rw [c2]; decide
        simp only [if_neg n5, if_neg n4, if_neg n3, if_pos c2, if_neg c1, h95]
      · by_cases c3 : c = 42
        · have n5 : ¬ c = 43 := by rw [c3]; decide
          have n4 : ¬ c = 45 := by rw [c3]; decide
          simp only [if_neg n5, if_neg n4, if_pos c3, if_neg c2, if_neg c1, h95]
        · by_cases c4 : c = 45
          · have n5 : ¬ c = 43 := by rw [c4]; decide
            simp only [if_neg n5, if_pos c4, if_neg c3, if_neg c2, if_neg c1, h95]
          · by_cases c5 : c = 43
            · simp only [if_pos c5, if_neg c4, if_neg c3, if_neg c2, if_neg c1, h95]
            · simp only [if_neg c5, if_neg c4, if_neg c3, if_neg c2, if_neg c1, h95]
  unfold sgk r_sign
  simp only [r43]
  by_cases d1 : c = 59
  · simp only [if_pos d1]
  · by_cases d2 : c = 61
    · simp only [if_neg d1, if_pos d2]
    · by_cases d3 : c = 40
      · simp only [if_neg d1, if_neg d2, if_pos d3]
      · by_cases d4 : c = 41
        · simp only [if_neg d1, if_neg d2, if_neg d3, if_pos d4]
        · simp only [if_neg d1, if_neg d2, if_neg d3, if_neg d4]
theorem kpl_sign : ∀ j, j < 9 → ((sgn j, sgk (sgn j)) : Int32 × Int32) ∈ kpl ∧ ¬ sgn j = 300 ∧ ¬ sgn j = 301 ∧ ¬ sgn j = 302 := by decide +kernel
theorem sgk_no {c : Int32} (h : ∀ j : Nat, j < 9 → ¬ sgn j = c) : sgk c = 3 := by
  have g : ∀ j : Nat, j < 9 → ¬ c = sgn j := fun j hj q => h j hj q.symm
  unfold sgk
  rw [if_neg (show ¬ c = 60 from g 6 (by decide)), if_neg (show ¬ c = 47 from g 5 (by decide)), if_neg (show ¬ c = 42 from g 4 (by decide)), if_neg (show ¬ c = 45 from g 3 (by decide)), if_neg (show ¬ c = 43 from g 2 (by decide)), if_neg (show ¬ c = 59 from g 0 (by decide)), if_neg (show ¬ c = 61 from g 1 (by decide)), if_neg (show ¬ c = 40 from g 7 (by decide)), if_neg (show ¬ c = 41 from g 8 (by decide))]
