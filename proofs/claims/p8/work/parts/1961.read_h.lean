/-! ===== the text is cut: two ways of it ===== -/
def TX (s : KS) (z : RS) : Prop := s.v 0 = z.v 4 ∧ 0 ≤ (s.v 0).toInt ∧ (s.v 0).toInt ≤ 2000 ∧ ∀ i : Nat, (i : Int) < (s.v 0).toInt → (s.f 1 i) &&& 255 = (z.f 3 i) &&& 255
abbrev cb (s : KS) (x : Int32) : Int32 := (s.f 1 x.toNatClampNeg) &&& 255
def IsBl (c : Int32) : Prop := c = 9 ∨ c = 10 ∨ c = 13 ∨ c = 32
def IsLe (c : Int32) : Prop := 97 ≤ c.toInt ∧ c.toInt ≤ 122
def IsDi (c : Int32) : Prop := 48 ≤ c.toInt ∧ c.toInt ≤ 57
theorem and255 (x : Int32) : 0 ≤ (x &&& 255).toInt ∧ (x &&& 255).toInt ≤ 255 := by
  have h : (x &&& 255).toBitVec.toNat ≤ 255 := by
    show (x.toBitVec &&& 255#32).toNat ≤ 255
    rw [BitVec.toNat_and]
    exact Nat.and_le_right
  have e : (x &&& 255).toInt = ((x &&& 255).toBitVec.toNat : Int) := by
    show (x &&& 255).toBitVec.toInt = _
    rw [BitVec.toInt_eq_toNat_of_lt (by omega)]
  omega
theorem clampI {x : Int32} (h : 0 ≤ x.toInt) : (x.toNatClampNeg : Int) = x.toInt := by
  have e : x.toInt.toNat = x.toNatClampNeg := Int32.toNat_toInt _
  omega
theorem kb_in {s : KS} {z : RS} {x : Int32} (hT : TX s z) (h0 : 0 ≤ x.toInt) (hl : x.toInt < (s.v 0).toInt) : kX7_byteAt s x = some (cb s x, s) := by
  have h2 := hT.2.2.1
  unfold kX7_byteAt
  have n1 : ¬ x < 0 := fun q => by
    have := tn_lt (b := 0) rfl (by decide) q
    omega
  have n2 : ¬ s.v 0 ≤ x := fun q => by
    have := ti_le q
    omega
  rw [if_neg n1, if_neg n2]
  exact if_pos (vpb_ok h0 (by omega))
theorem kb_out {s : KS} {x : Int32} (h0 : 0 ≤ x.toInt) (hl : (s.v 0).toInt ≤ x.toInt) : kX7_byteAt s x = some (-1, s) := by
  unfold kX7_byteAt
  have n1 : ¬ x < 0 := fun q => by
    have := tn_lt (b := 0) rfl (by decide) q
    omega
  have n2 : s.v 0 ≤ x := Int32.le_iff_toInt_le.mpr hl
  rw [if_neg n1]
  exact if_pos n2
theorem zb_in {s : KS} {z : RS} {x : Int32} (hT : TX s z) (h0 : 0 ≤ x.toInt) (hl : x.toInt < (s.v 0).toInt) : r_byteAt z x = some (cb s x, z) := by
  have h2 := hT.2.2.1
  unfold r_byteAt
  have n2 : ¬ z.v 4 ≤ x := fun q => by
    have := ti_le q
    rw [← hT.1] at this
    omega
  rw [if_neg n2, if_pos (vpb_ok h0 (by omega))]
  have e := hT.2.2.2 x.toNatClampNeg (by rw [clampI h0]; exact hl)
  show some (((z.f 3 x.toNatClampNeg) &&& 255), z) = some ((s.f 1 x.toNatClampNeg) &&& 255, z)
  rw [e]
theorem zb_out {s : KS} {z : RS} {x : Int32} (hT : TX s z) (hl : (s.v 0).toInt ≤ x.toInt) : r_byteAt z x = some (0, z) := by
  unfold r_byteAt
  have n2 : z.v 4 ≤ x := by
    rw [← hT.1]
    exact Int32.le_iff_toInt_le.mpr hl
  exact if_pos n2
theorem kle_yes {c : Int32} (h : IsLe c) : kX9_isLetter c = some 1 ∧ r_isLetter c = some 1 := by
  have h1 := h.1
  have h2 := h.2
  have n1 : ¬ c < 97 := fun q => by
    have := tn_lt (b := 97) rfl (by decide) q
    omega
  have n2 : ¬ 122 < c := fun q => by
    have := tn_lt (a := 122) (by decide) rfl q
    omega
  unfold kX9_isLetter r_isLetter
  rw [if_neg n1, if_neg n2]
  exact ⟨rfl, rfl⟩
theorem kle_no {c : Int32} (h : ¬ IsLe c) : kX9_isLetter c = some 0 ∧ r_isLetter c = some 0 := by
  unfold kX9_isLetter r_isLetter
  by_cases n1 : c < 97
  · rw [if_pos n1]
    exact ⟨rfl, rfl⟩
  · have q1 := tn_nlt (b := 97) rfl (by decide) n1
    have n2 : 122 < c := Int32.lt_iff_toInt_lt.mpr (by
      rw [show (122 : Int32).toInt = 122 from by decide]
      unfold IsLe at h
      omega)
    rw [if_neg n1, if_pos n2]
    exact ⟨rfl, rfl⟩
theorem kdi_yes {c : Int32} (h : IsDi c) : kX9_isDigit c = some 1 ∧ r_isDigit c = some 1 := by
  have h1 := h.1
  have h2 := h.2
  have n1 : ¬ c < 48 := fun q => by
    have := tn_lt (b := 48) rfl (by decide) q
    omega
  have n2 : ¬ 57 < c := fun q => by
    have := tn_lt (a := 57) (by decide) rfl q
    omega
  unfold kX9_isDigit r_isDigit
  rw [if_neg n1, if_neg n2]
  exact ⟨rfl, rfl⟩
theorem kdi_no {c : Int32} (h : ¬ IsDi c) : kX9_isDigit c = some 0 ∧ r_isDigit c = some 0 := by
  unfold kX9_isDigit r_isDigit
  by_cases n1 : c < 48
  · rw [if_pos n1]
    exact ⟨rfl, rfl⟩
  · have q1 := tn_nlt (b := 48) rfl (by decide) n1
    have n2 : 57 < c := Int32.lt_iff_toInt_lt.mpr (by
      rw [show (57 : Int32).toInt = 57 from by decide]
      unfold IsDi at h
      omega)
    rw [if_neg n1, if_pos n2]
    exact ⟨rfl, rfl⟩
theorem kbl_yes {c : Int32} (h : IsBl c) : kX9_isBlank c = some 1 := by
  unfold kX9_isBlank
  rcases h with h | h | h | h <;> (rw [h]; decide)
theorem kbl_no {c : Int32} (h : ¬ IsBl c) : kX9_isBlank c = some 0 := by
  unfold kX9_isBlank
  rw [if_neg (fun q => h (Or.inl q)), if_neg (fun q => h (Or.inr (Or.inl q))), if_neg (fun q => h (Or.inr (Or.inr (Or.inl q)))), if_neg (fun q => h (Or.inr (Or.inr (Or.inr q))))]
/-- the reference writes a token down -/
def ztok (z : RS) (kd pl v : Int32) (nm : Int64) : RS := ((((z.sf 5 (z.v 10).toNatClampNeg kd).sf 6 (z.v 10).toNatClampNeg pl).sf 7 (z.v 10).toNatClampNeg v).sg 8 (z.v 10).toNatClampNeg nm).sv 10 ((z.v 10) + 1)
theorem ztok_eq {z : RS} {kd pl v : Int32} {nm : Int64} (hv : vpb (z.v 10) 403 = true) : r_token z kd pl v nm = some (ztok z kd pl v nm) := by
  have e : r_token z kd pl v nm = (if vpb (z.v 10) 403 then (if vpb (z.v 10) 403 then (if vpb (z.v 10) 403 then (if vpb (z.v 10) 403 then some (ztok z kd pl v nm) else none) else none) else none) else none) := rfl
  rw [e, if_pos hv, if_pos hv, if_pos hv, if_pos hv]
theorem v10_ok {z : RS} (h0 : 0 ≤ (z.v 10).toInt) (h : ¬ 400 < z.v 10) : vpb (z.v 10) 403 = true := by
  have := tn_nlt (a := 400) (by decide) rfl h
  exact vpb_ok h0 (by omega)
/-! blanks -/
theorem blanks {z out : RS} (hz10 : ¬ 400 < z.v 10) : ∀ (n m : Nat) (s s1 : KS), TX s z → 0 ≤ (s.v 20).toInt → (s.v 20).toInt ≤ (s.v 0).toInt → kX9_skipBlanks_0L n s = some s1 → r_cut_7L m z (s.v 20) = some out →
    ∃ m', r_cut_7L m' z (s1.v 20) = some out ∧ FrK [20] s s1 ∧ (s.v 20).toInt ≤ (s1.v 20).toInt ∧ (s1.v 20).toInt ≤ (s.v 0).toInt ∧ ((s1.v 20).toInt = (s.v 0).toInt ∨ ¬ IsBl (cb s1 (s1.v 20))) := by
  intro n
  induction n with
  | zero => intro m s s1 _ _ _ h; exact none_ne h
  | succ n ih =>
    intro m s s1 hT h0 hl hs hz
    have hs : kX9_skipBlanks_0 (kX9_skipBlanks_0L n) s = some s1 := hs
    have h2 := hT.2.2.1
    unfold kX9_skipBlanks_0 at hs
    by_cases c : s.v 0 ≤ s.v 20
    · have c' := ti_le c
      rw [if_pos c] at hs
      cases hs
      exact ⟨m, hz, FrK.rfl, Int.le_refl _, hl, Or.inl (by omega)⟩
    · have c' := ti_nle c
      rw [if_neg c, kb_in hT h0 c', bindI_some] at hs
      by_cases b : IsBl (cb s (s.v 20))
      · rw [kbl_yes b, bindP_some, if_neg z_one] at hs
        have a : ((s.v 20) + 1).toInt = (s.v 20).toInt + 1 := tn_add rfl (by decide) (by omega) (by omega)
        cases m with
        | zero => exact none_ne hz
        | succ m =>
        have hz : r_cut_7 (r_cut_7L m) z (s.v 20) = some out := hz
        unfold r_cut_7 at hz
        have c4 : s.v 20 < z.v 4 := by
          rw [← hT.1]
          exact Int32.lt_iff_toInt_lt.mpr c'
        rw [if_neg hz10, zb_in hT h0 c', bindI_some, if_pos c4] at hz
        have hz : r_cut_7L m z ((s.v 20) + 1) = some out := by
          unfold r_cut_67 r_cut_291 at hz
          by_cases q1 : cb s (s.v 20) = 9
          · rw [if_pos q1] at hz; exact hz
          · rw [if_neg q1] at hz
            by_cases q2 : cb s (s.v 20) = 10
            · rw [if_pos q2] at hz; exact hz
            · rw [if_neg q2] at hz
              by_cases q3 : cb s (s.v 20) = 13
              · rw [if_pos q3] at hz; exact hz
              · rw [if_neg q3] at hz
                by_cases q4 : cb s (s.v 20) = 32
                · rw [if_pos q4] at hz; exact hz
                · rcases b with b | b | b | b
                  · exact absurd b q1
                  · exact absurd b q2
                  · exact absurd b q3
                  · exact absurd b q4
        obtain ⟨t, et, hs⟩ := letS_inv hs
        have v20 : t.v 20 = (s.v 20) + 1 := by rw [← et]; rfl
        have v0 : t.v 0 = s.v 0 := by rw [← et]; rfl
        have Tt : TX t z := by rw [← et]; exact hT
        have Kt : FrK [20] s t := by rw [← et]; exact FrK.rfl.sv (by decide)
        obtain ⟨m', e1, e2, e3, e4, e5⟩ := ih m t s1 Tt (by rw [v20]; omega) (by rw [v20, v0]; omega) hs (by rw [v20]; exact hz)
        rw [v0] at e4 e5
        rw [v20] at e3
        exact ⟨m', e1, Kt.trans e2 (by decide), by omega, e4, e5⟩
      · rw [kbl_no b, bindP_some, if_pos rfl] at hs
        cases hs
        exact ⟨m, hz, FrK.rfl, Int.le_refl _, hl, Or.inr b⟩
/-! letters -/
theorem shl5 {u : Int64} (h0 : 0 ≤ u.toInt) (h : u.toInt < 2 ^ 40) : (lshlf u 5).toInt = u.toInt * 2 ^ 5 := by
  have e1 : ((5 : Int32).toInt64 &&& 63 : Int64) = 5 := by decide
  show (u <<< ((5 : Int32).toInt64 &&& 63)).toInt = _
  rw [e1]
  have eb : (u <<< (5 : Int64)).toBitVec = u.toBitVec <<< 5 := rfl
  have en := k2_nat h0
  have hn : u.toBitVec.toNat < 2 ^ 40 := by
    rw [← en] at h
    exact_mod_cast h
  have es : (u <<< (5 : Int64)).toBitVec.toNat = u.toBitVec.toNat * 2 ^ 5 := by
    rw [eb, BitVec.toNat_shiftLeft, Nat.shiftLeft_eq, Nat.mod_eq_of_lt (by omega)]
  rw [k2_int (by rw [es]; omega), es, Int.natCast_mul, en]
  rfl
theorem letter32 {u : Int64} {d : Int32} (h0 : 0 ≤ u.toInt) (h : u.toInt < 2 ^ 40) (hd1 : 1 ≤ d.toInt) (hd2 : d.toInt ≤ 26) : ((lshlf u 5) ||| (Int32.toInt64 d)).toInt = 32 * u.toInt + d.toInt := by
  have es := shl5 h0 h
  have ed : (Int32.toInt64 d).toInt = d.toInt := Int32.toInt_toInt64 d
  have := k2_or_add (x := lshlf u 5) (y := Int32.toInt64 d) (k := 5) (z := u.toInt) (by decide) h0 es (by omega) (by rw [ed]; omega) (by rw [ed]; omega)
  rw [this, es, ed]
  omega
theorem letter27 {u : Int64} {d : Int32} (h0 : 0 ≤ u.toInt) (h : u.toInt < 2 ^ 40) (hd1 : 1 ≤ d.toInt) (hd2 : d.toInt ≤ 26) : ((27 * u) + (Int32.toInt64 d)).toInt = 27 * u.toInt + d.toInt := by
  have ed : (Int32.toInt64 d).toInt = d.toInt := Int32.toInt_toInt64 d
  have e27 : (27 : Int64).toInt = 27 := by decide
  have em : (27 * u).toInt = 27 * u.toInt := by
    rw [Int64.toInt_mul, e27]
    exact Int.bmod_eq_of_le (by omega) (by omega)
  rw [Int64.toInt_add, em, ed]
  exact Int.bmod_eq_of_le (by omega) (by omega)
theorem lval_lt (b : Nat) (hb : 27 ≤ b) : ∀ l : List Nat, (∀ c ∈ l, 1 ≤ c ∧ c ≤ 26) → lval b l < b ^ l.length := by
  intro l
  induction l with
  | nil => intro _; exact Nat.one_pos
  | cons c l ih =>
    intro h
    have h1 := ih (fun q hq => h q (List.mem_cons_of_mem _ hq))
    have h2 := (h c (List.mem_cons_self ..)).2
    show b * lval b l + c < b ^ (l.length + 1)
    rw [Nat.pow_succ]
    have : b * (lval b l + 1) ≤ b * b ^ l.length := Nat.mul_le_mul_left _ h1
    rw [Nat.mul_add] at this
    rw [Nat.mul_comm (b ^ l.length) b]
    omega
/-- n letters so far -/
def NLn (n : Int) (a b : Int64) : Prop := ∃ l : List Nat, (l.length : Int) = n ∧ (∀ c ∈ l, 1 ≤ c ∧ c ≤ 26) ∧ a.toInt = (lval 32 l : Int) ∧ b.toInt = (lval 27 l : Int)
theorem NLn.nm {n : Int} {a b : Int64} (h : NLn n a b) (hn : n ≤ 8) : NmR a b := by
  obtain ⟨l, h1, h2, h3, h4⟩ := h
  exact ⟨l, by omega, h2, h3, h4⟩
theorem NLn.step {n : Int} {a b : Int64} {c : Int32} (h : NLn n a b) (hn : n < 8) (hc : IsLe c) : NLn (n + 1) ((lshlf a 5) ||| (Int32.toInt64 ((c - 97) + 1))) ((27 * b) + (Int32.toInt64 ((c - 97) + 1))) := by
  obtain ⟨l, h1, h2, h3, h4⟩ := h
  have c1 := hc.1
  have c2 := hc.2
  have a1 : (c - 97).toInt = c.toInt - 97 := tn_sub rfl (by decide) (by omega) (by omega)
  have a2 : ((c - 97) + 1).toInt = c.toInt - 97 + 1 := tn_add a1 (by decide) (by omega) (by omega)
  have b1 := lval_lt 32 (by omega) l h2
  have b2 := lval_lt 27 (by omega) l h2
  have hl : l.length ≤ 7 := by omega
  have p1 : 32 ^ l.length ≤ 32 ^ 7 := Nat.pow_le_pow_right (by omega) hl
  have p2 : 27 ^ l.length ≤ 27 ^ 7 := Nat.pow_le_pow_right (by omega) hl
  have q1 : (32 : Nat) ^ 7 = 34359738368 := by decide
  have q2 : (27 : Nat) ^ 7 = 10460353203 := by decide
  have q3 : (2 : Int) ^ 40 = 1099511627776 := by decide
  have r1 := letter32 (u := a) (d := (c - 97) + 1) (by omega) (by rw [q3]; omega) (by omega) (by omega)
  have r2 := letter27 (u := b) (d := (c - 97) + 1) (by omega) (by rw [q3]; omega) (by omega) (by omega)
  refine ⟨(c.toInt - 96).toNat :: l, ?_, ?_, ?_, ?_⟩
  · rw [List.length_cons]; omega
  · intro q hq
    rcases List.mem_cons.mp hq with e | e
    · subst e; omega
    · exact h2 q e
  · rw [r1, h3, a2]
    show _ = ((32 * lval 32 l + (c.toInt - 96).toNat : Nat) : Int)
    omega
  · rw [r2, h4, a2]
    show _ = ((27 * lval 27 l + (c.toInt - 96).toNat : Nat) : Int)
    omega
theorem letters {z out : RS} {k7 : RS → Int32 → Option RS} {p : Int32} (hp0 : 0 ≤ p.toInt) {r : Int32} {s' : KS} : ∀ (n m : Nat) (s : KS) (x3 : Int32) (nm : Int64), TX s z → 0 ≤ x3.toInt → (s.v 20).toInt = p.toInt + x3.toInt → (s.v 20).toInt ≤ (s.v 0).toInt → (x3.toInt ≤ 8 → NLn x3.toInt (s.u 0) nm) → kX9_splitLetters_5L n s p = some (r, s') → r_cut_85L k7 m z p x3 nm = some out →
    ∃ (t : KS) (x : Int32) (nm' : Int64), kX9_splitLetters_71 t p = some (r, s') ∧ r_cut_135 k7 z p x nm' (if x ≤ 8 then 1 else 3) = some out ∧ FrK [20] s t ∧ x3.toInt ≤ x.toInt ∧ (t.v 20).toInt = p.toInt + x.toInt ∧ (t.v 20).toInt ≤ (s.v 0).toInt ∧ (x.toInt ≤ 8 → NLn x.toInt (t.u 0) nm') ∧ (IsLe (cb s (s.v 20)) → (s.v 20).toInt < (s.v 0).toInt → x3.toInt < x.toInt) := by
  intro n
  induction n with
  | zero => intro m s x3 nm _ _ _ _ _ h; exact none_ne h
  | succ n ih =>
    intro m s x3 nm hT h30 hv hl hN hs hz
    have hs : kX9_splitLetters_5 (kX9_splitLetters_5L n) s p = some (r, s') := hs
    cases m with
    | zero => exact none_ne hz
    | succ m =>
    have hz : r_cut_85 k7 (r_cut_85L k7 m) z p x3 nm = some out := hz
    have h2 := hT.2.2.1
    have a : (p + x3).toInt = p.toInt + x3.toInt := ti_add (by omega) (by omega)
    have e20 : s.v 20 = p + x3 := Int32.toInt_inj.mp (by rw [a]; exact hv)
    unfold kX9_splitLetters_5 at hs
    unfold r_cut_85 at hz
    have stop : ∀ c0, r_byteAt z (p + x3) = some (c0, z) → ¬ IsLe c0 → kX9_splitLetters_71 s p = some (r, s') → (IsLe (cb s (s.v 20)) → (s.v 20).toInt < (s.v 0).toInt → False) → ∃ (t : KS) (x : Int32) (nm' : Int64), kX9_splitLetters_71 t p = some (r, s') ∧ r_cut_135 k7 z p x nm' (if x ≤ 8 then 1 else 3) = some out ∧ FrK [20] s t ∧ x3.toInt ≤ x.toInt ∧ (t.v 20).toInt = p.toInt + x.toInt ∧ (t.v 20).toInt ≤ (s.v 0).toInt ∧ (x.toInt ≤ 8 → NLn x.toInt (t.u 0) nm') ∧ (IsLe (cb s (s.v 20)) → (s.v 20).toInt < (s.v 0).toInt → x3.toInt < x.toInt) := by
      intro c0 hb hn h71 hF
      rw [hb, bindI_some, (kle_no hn).2, bindP_some, if_pos rfl] at hz
      refine ⟨s, x3, nm, h71, ?_, FrK.rfl, Int.le_refl _, hv, hl, hN, fun q1 q2 => absurd (hF q1 q2) id⟩
      by_cases c8 : x3 ≤ 8
      · rw [if_pos c8] at hz ⊢; exact hz
      · rw [if_neg c8] at hz ⊢; exact hz
    by_cases c : s.v 0 ≤ s.v 20
    · have c' := ti_le c
      rw [if_pos c] at hs
      exact stop 0 (zb_out hT (by rw [← e20]; exact c')) (by unfold IsLe; decide) hs (fun _ q => by omega)
    · have c' := ti_nle c
      rw [if_neg c, kb_in hT (by omega) c', bindI_some] at hs
      have hb : r_byteAt z (p + x3) = some (cb s (s.v 20), z) := by rw [← e20]; exact zb_in hT (by omega) c'
      by_cases l : IsLe (cb s (s.v 20))
      · rw [(kle_yes l).1, bindP_some, if_neg z_one, kb_in hT (by omega) c', bindI_some] at hs
        unfold kX9_withLetter at hs
        rw [bindP_some] at hs
        obtain ⟨t9, e9, hs⟩ := letS_inv hs
        obtain ⟨t, et, hs⟩ := letS_inv hs
        rw [hb, bindI_some, (kle_yes l).2, bindP_some, if_neg z_one] at hz
        have a3 : (x3 + 1).toInt = x3.toInt + 1 := tn_add rfl (by decide) (by omega) (by omega)
        have a20 : ((s.v 20) + 1).toInt = (s.v 20).toInt + 1 := tn_add rfl (by decide) (by omega) (by omega)
        have v20 : t.v 20 = (s.v 20) + 1 := by rw [← et, ← e9]; rfl
        have v0 : t.v 0 = s.v 0 := by rw [← et, ← e9]; rfl
        have Tt : TX t z := by rw [← et, ← e9]; exact hT
        have Kt : FrK [20] s t := by rw [← et, ← e9]; exact (FrK.rfl.su).sv (by decide)
        have u0 : t.u 0 = (lshlf (s.u 0) 5) ||| (Int32.toInt64 ((cb s (s.v 20) - 97) + 1)) := by rw [← et, ← e9]; rfl
        have nxt : ∃ nm2, r_cut_85L k7 m z p (x3 + 1) nm2 = some out ∧ (x3.toInt + 1 ≤ 8 → NLn (x3.toInt + 1) (t.u 0) nm2) := by
          unfold r_cut_118 at hz
          by_cases c8 : 8 ≤ x3
          · have c8' := tn_le (a := 8) (by decide) rfl c8
            rw [if_pos c8] at hz
            exact ⟨_, hz, fun q => by omega⟩
          · have c8' := tn_nle (a := 8) (by decide) rfl c8
            rw [if_neg c8, hb, bindI_some] at hz
            unfold r_appends at hz
            have nz : ¬ cb s (s.v 20) = 0 := fun q => by
              have := l.1
              rw [q] at this
              exact absurd this (by decide)
            rw [if_neg nz, bindP_some] at hz
            refine ⟨_, hz, fun _ => ?_⟩
            rw [u0]
            exact (hN (by omega)).step (by omega) l
        obtain ⟨nm2, hz, hN2⟩ := nxt
        obtain ⟨t', x, nm', f1, f2, f3, f4, f5, f6, f7, _⟩ := ih m t (x3 + 1) nm2 Tt (by omega) (by rw [v20, a20]; omega) (by rw [v20, v0, a20]; omega) (by rw [a3]; exact hN2) hs hz
        rw [v0] at f6
        exact ⟨t', x, nm', f1, f2, Kt.trans f3 (by decide), by omega, f5, f6, f7, fun _ _ => by omega⟩
      · rw [(kle_no l).1, bindP_some, if_pos rfl] at hs
        exact stop _ hb l hs (fun q _ => l q)
