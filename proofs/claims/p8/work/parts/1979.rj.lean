/-! ===== the queries that look at one thing ===== -/
theorem kp_yes {s : KS} {x : Int32} (h0 : 0 ≤ x.toInt) (h1 : x.toInt < (s.v 2).toInt) : kX5_hasParty s x = some (1, s) := by
  unfold kX5_hasParty
  have n1 : ¬ x < 0 := fun q => by
    have := tn_lt (b := 0) rfl (by decide) q
    omega
  have n2 : ¬ s.v 2 ≤ x := fun q => by
    have := ti_le q
    omega
  rw [if_neg n1, if_neg n2]
theorem kp_no {s : KS} {x : Int32} (h : ¬ (0 ≤ x.toInt ∧ x.toInt < (s.v 2).toInt)) : kX5_hasParty s x = some (0, s) := by
  unfold kX5_hasParty
  by_cases c : x < 0
  · rw [if_pos c]
  · have c' := tn_nlt (b := 0) rfl (by decide) c
    have n2 : s.v 2 ≤ x := Int32.le_iff_toInt_le.mpr (by omega)
    rw [if_neg c, if_pos n2]
theorem r_in_yes {x a b : Int32} (h0 : a.toInt ≤ x.toInt) (h1 : x.toInt ≤ b.toInt) : r_in x a b = some 1 := by
  unfold r_in
  rw [if_neg (fun q => by have := ti_lt q; omega), if_neg (fun q => by have := ti_lt q; omega)]
theorem r_in_no {x a b : Int32} (h : ¬ (a.toInt ≤ x.toInt ∧ x.toInt ≤ b.toInt)) : r_in x a b = some 0 := by
  unfold r_in
  by_cases c : x < a
  · rw [if_pos c]
  · have c' := ti_nlt c
    rw [if_neg c, if_pos (Int32.lt_iff_toInt_lt.mpr (by omega))]
theorem rp_eq {z : RS} {x : Int32} (hR : InvR z) : r_isParty z x = some ((if 0 ≤ x.toInt ∧ x.toInt < (z.f 23 (z.v 18).toNatClampNeg).toInt then 1 else 0), z) := by
  have b : 0 ≤ (z.v 18).toInt ∧ (z.v 18).toInt ≤ 1 := hR.1 18
  have c : 0 ≤ (z.f 23 (z.v 18).toNatClampNeg).toInt ∧ (z.f 23 (z.v 18).toNatClampNeg).toInt ≤ 6 := hR.2 23 _
  have a : ((z.f 23 (z.v 18).toNatClampNeg) - 1).toInt = (z.f 23 (z.v 18).toNatClampNeg).toInt - 1 := tn_sub rfl (by decide) (by omega) (by omega)
  have z0 : (0 : Int32).toInt = 0 := by decide
  unfold r_isParty
  rw [if_pos (vpb_ok (by omega) (by omega))]
  by_cases h : 0 ≤ x.toInt ∧ x.toInt < (z.f 23 (z.v 18).toNatClampNeg).toInt
  · rw [if_pos h, r_in_yes (by omega) (by omega), bindP_some]
    exact if_pos (Or.inr rfl)
  · rw [if_neg h, r_in_no (by omega), bindP_some]
    exact if_pos (Or.inl rfl)
theorem rw_eq {z : RS} {x : Int32} (hR : InvR z) : r_isWave z x = some ((if 0 ≤ x.toInt ∧ x.toInt < (z.f 20 (z.v 18).toNatClampNeg).toInt then 1 else 0), z) := by
  have b : 0 ≤ (z.v 18).toInt ∧ (z.v 18).toInt ≤ 1 := hR.1 18
  have c : 0 ≤ (z.f 20 (z.v 18).toNatClampNeg).toInt ∧ (z.f 20 (z.v 18).toNatClampNeg).toInt ≤ 5 := hR.2 20 _
  have a : ((z.f 20 (z.v 18).toNatClampNeg) - 1).toInt = (z.f 20 (z.v 18).toNatClampNeg).toInt - 1 := tn_sub rfl (by decide) (by omega) (by omega)
  have z0 : (0 : Int32).toInt = 0 := by decide
  unfold r_isWave
  rw [if_pos (vpb_ok (by omega) (by omega))]
  by_cases h : 0 ≤ x.toInt ∧ x.toInt < (z.f 20 (z.v 18).toNatClampNeg).toInt
  · rw [if_pos h, r_in_yes (by omega) (by omega), bindP_some]
    exact if_pos (Or.inr rfl)
  · rw [if_neg h, r_in_no (by omega), bindP_some]
    exact if_pos (Or.inl rfl)
theorem kw_eq {s : KS} {x : Int32} : kX5_hasWave s x = some ((if 0 ≤ x.toInt ∧ x.toInt < (s.v 1).toInt then 1 else 0), s) := by
  by_cases h : 0 ≤ x.toInt ∧ x.toInt < (s.v 1).toInt
  · rw [if_pos h]; exact kw_yes h.1 h.2
  · rw [if_neg h]; exact kw_no h
theorem kp_eq {s : KS} {x : Int32} : kX5_hasParty s x = some ((if 0 ≤ x.toInt ∧ x.toInt < (s.v 2).toInt then 1 else 0), s) := by
  by_cases h : 0 ≤ x.toInt ∧ x.toInt < (s.v 2).toInt
  · rw [if_pos h]; exact kp_yes h.1 h.2
  · rw [if_neg h]; exact kp_no h
theorem kg_eq {s : KS} {x : Int32} : kX5_hasGuess s x = some ((if 0 ≤ x.toInt ∧ x.toInt < (s.v 3).toInt then 1 else 0), s) := by
  unfold kX5_hasGuess
  by_cases h : 0 ≤ x.toInt ∧ x.toInt < (s.v 3).toInt
  · rw [if_pos h, if_neg (fun q => by have := tn_lt (b := 0) rfl (by decide) q; omega), if_neg (fun q => by have := ti_le q; omega)]
  · rw [if_neg h]
    by_cases c : x < 0
    · rw [if_pos c]
    · have c' := tn_nlt (b := 0) rfl (by decide) c
      rw [if_neg c, if_pos (Int32.le_iff_toInt_le.mpr (by omega))]
theorem rg_eq {k : KS} {z : RS} {x : Int32} (hR : InvR z) (hK : InvK k) (hS : SO k z) : r_isGuess z x = some ((if 0 ≤ x.toInt ∧ x.toInt < (k.v 3).toInt then 1 else 0), z) := by
  have b : 0 ≤ (z.v 18).toInt ∧ (z.v 18).toInt ≤ 1 := hR.1 18
  have bw : 0 ≤ (k.v 1).toInt ∧ (k.v 1).toInt ≤ 5 := hK.1 1
  have ec : (k.v 1).toInt.toNat = (k.v 1).toNatClampNeg := Int32.toNat_toInt _
  have sp := six_pow (k.v 1).toNatClampNeg (by omega)
  have pl := pow_le (k.v 1).toNatClampNeg (by omega)
  have pp : 0 < 6 ^ (k.v 1).toNatClampNeg := Nat.pow_pos (by omega)
  have z0 : (0 : Int32).toInt = 0 := by decide
  unfold r_isGuess r_guesses
  rw [if_pos (vpb_ok (by omega) (by omega)), ← hS.1.1, if_pos (vpb_ok (by omega) (by omega)), bindI_some, hS.2.1 _ (by omega), ← hS.1.2.2.2]
  have e3 := hS.1.2.2.2
  have a : ((k.v 3) - 1).toInt = (k.v 3).toInt - 1 := tn_sub rfl (by decide) (by rw [e3]; omega) (by rw [e3]; omega)
  by_cases h : 0 ≤ x.toInt ∧ x.toInt < (k.v 3).toInt
  · rw [if_pos h, r_in_yes (by omega) (by omega), bindP_some]
    exact if_pos (Or.inr rfl)
  · rw [if_neg h, r_in_no (by omega), bindP_some]
    exact if_pos (Or.inl rfl)
/-- what a query answers, and what it leaves of the class's object -/
def QSm (x x' : XS) (r1 r2 : Int32) : Prop := r1 = r2 ∧ x'.g = x.g ∧ x'.n = x.n
theorem wave_same {y : YS} {x' : XS} {z z' : RS} {x1 x2 r1 r2 : Int32} (h : REL y z) (hK : InvK y.x.k) (hI : InvR z) (hB : Big z) (h1 : kX10_wave y.x x1 x2 = some (r1, x')) (h2 : r_wave z x1 x2 = some (r2, z')) : QSm y.x x' r1 r2 := by
  have bw : 0 ≤ (y.x.k.v 1).toInt ∧ (y.x.k.v 1).toInt ≤ 5 := hK.1 1
  unfold kX10_wave at h1
  unfold r_wave at h2
  rw [kw_eq, bindI_some] at h1
  rw [rw_eq hI, bindI_some, ← h.1.1.1] at h2
  replace h1 := letS_inv h1
  obtain ⟨s3, c3, h1⟩ := h1
  have e3 : s3 = y.x := by rw [← c3]; rfl
  subst e3
  by_cases hw : 0 ≤ x1.toInt ∧ x1.toInt < (y.x.k.v 1).toInt
  · rw [if_pos hw, if_neg z_one] at h1 h2
    replace h2 := bindP_inv h2
    obtain ⟨z4, w4, h2⟩ := h2
    obtain ⟨hJ, _⟩ := h.jr hK hI hB w4
    obtain ⟨w, ew⟩ : ∃ w : Nat, x1.toInt = (w : Int) := ⟨x1.toInt.toNat, by omega⟩
    have a5 : (5 + x1).toInt = ((5 + w : Nat) : Int) := by
      rw [tn_add (by decide : (5 : Int32).toInt = 5) ew (by omega) (by omega)]
      omega
    have a10 : (10 + x1).toInt = ((10 + w : Nat) : Int) := by
      rw [tn_add (by decide : (10 : Int32).toInt = 10) ew (by omega) (by omega)]
      omega
    have cw := clamp_of_int ew
    obtain ⟨m1, m2, m3, m4⟩ := hJ.2.1.1 w (by omega)
    by_cases e0 : x2 = 0
    · rw [if_pos e0] at h1 h2
      rw [k_may ew (by omega), bindI_some] at h1
      replace h1 := letS_inv h1
      obtain ⟨s9, c9, h1⟩ := h1
      replace h2 := bindI_inv h2
      obtain ⟨q, z6, w6, h2⟩ := h2
      obtain ⟨_, eq⟩ := may_same hJ.1 (hJ.2.1.at (by omega)) hJ.2.2.2.1 hK ew (show (w : Int) < (y.x.k.v 1).toInt by omega) w6
      cases h1
      cases h2
      rw [← c9]
      exact ⟨eq.symm, rfl, rfl⟩
    · rw [if_neg e0] at h1 h2
      by_cases e1 : x2 = 1
      · rw [if_pos e1, cw] at h1
        rw [if_pos e1, clamp_of_int a5] at h2
        replace h1 := guard_inv h1
        obtain ⟨_, h1⟩ := h1
        replace h2 := guard_inv h2
        obtain ⟨_, h2⟩ := h2
        have e2 : r2 = z4.f 44 (5 + w) := by cases h2; rfl
        rcases m1 with ⟨f1, f2⟩ | ⟨f1, f2, f3⟩
        · have f1 : y.x.n.f 0 w = -1 := f1
          rw [if_pos f1] at h1
          cases h1
          exact ⟨by rw [e2, f2], rfl, rfl⟩
        · have f1 : y.x.n.f 0 w = z4.f 44 (5 + w) := f1
          have n1 : ¬ y.x.n.f 0 w = -1 := fun q => by
            rw [← f1, q] at f2
            exact absurd f2 (by decide)
          rw [if_neg n1] at h1
          replace h1 := guard_inv h1
          obtain ⟨_, h1⟩ := h1
          cases h1
          exact ⟨by rw [e2, f1], rfl, rfl⟩
      · rw [if_neg e1] at h1 h2
        by_cases e2 : x2 = 2
        · rw [if_pos e2, cw] at h1 h2
          replace h1 := guard_inv h1
          obtain ⟨_, h1⟩ := h1
          replace h2 := guard_inv h2
          obtain ⟨_, h2⟩ := h2
          cases h1
          cases h2
          exact ⟨m2, rfl, rfl⟩
        · rw [if_neg e2] at h1 h2
          by_cases e3 : x2 = 3
          · rw [if_pos e3, cw] at h1
            rw [if_pos e3, clamp_of_int a10] at h2
            replace h1 := guard_inv h1
            obtain ⟨_, h1⟩ := h1
            replace h2 := guard_inv h2
            obtain ⟨_, h2⟩ := h2
            cases h1
            cases h2
            exact ⟨m4, rfl, rfl⟩
          · rw [if_neg e3] at h1 h2
            by_cases e4 : x2 = 4
            · rw [if_pos e4] at h1 h2
              replace h1 := bindI_inv h1
              obtain ⟨b8, s7, u8, h1⟩ := h1
              replace h1 := letS_inv h1
              obtain ⟨s22, c22, h1⟩ := h1
              replace h2 := bindI_inv h2
              obtain ⟨q, z15, w15, h2⟩ := h2
              unfold kX0_thereNow at u8
              replace u8 := guard_inv u8
              obtain ⟨_, u8⟩ := u8
              replace u8 := bindI_inv u8
              obtain ⟨b3, k2, u3, u8⟩ := u8
              replace u8 := letS_inv u8
              obtain ⟨s8, c8, u8⟩ := u8
              have e8 : b8 = b3 ∧ s7 = s8 := by cases u8; exact ⟨rfl, rfl⟩
              rw [cw] at u3
              obtain ⟨er, ek, _⟩ := there_same hJ.2.2.1 hJ.1 hJ.2.2.2.1 hK ew (show (w : Int) < (y.x.k.v 1).toInt by omega) m4 (by rw [hJ.2.2.2.2.2]; exact hJ.1.1.2.2.1) u3 w15
              cases h1
              cases h2
              rw [← c22, e8.2, ← c8]
              exact ⟨e8.1.trans er, rfl, rfl⟩
            · rw [if_neg e4] at h1 h2
              by_cases e5 : x2 = 5
              · rw [if_pos e5] at h1 h2
                replace h1 := bindI_inv h1
                obtain ⟨q1, s25, u25, h1⟩ := h1
                replace h1 := letS_inv h1
                obtain ⟨s27, c27, h1⟩ := h1
                replace h2 := bindI_inv h2
                obtain ⟨q2, z18, w18, h2⟩ := h2
                obtain ⟨er, kp⟩ := shift_same hJ.1 hJ.2.2.2.1 hK hJ.2.1.2.2.1 (hJ.2.1.at (by omega)) ew (show (w : Int) < (y.x.k.v 1).toInt by omega) u25 w18
                cases h1
                cases h2
                rw [← c27]
                exact ⟨er, rfl, kp.1⟩
              · rw [if_neg e5] at h1 h2
                cases h1
                cases h2
                exact ⟨rfl, rfl, rfl⟩
  · rw [if_neg hw, if_pos rfl] at h1 h2
    cases h1
    cases h2
    exact ⟨rfl, rfl, rfl⟩
theorem needs_same {y : YS} {x' : XS} {z z' : RS} {x1 x2 x3 r1 r2 : Int32} (h : REL y z) (hK : InvK y.x.k) (hI : InvR z) (hB : Big z) (h1 : kX10_needs y.x x1 x2 x3 = some (r1, x')) (h2 : r_needs z x1 x2 x3 = some (r2, z')) : QSm y.x x' r1 r2 := by
  have bw : 0 ≤ (y.x.k.v 1).toInt ∧ (y.x.k.v 1).toInt ≤ 5 := hK.1 1
  have bp : 0 ≤ (y.x.k.v 2).toInt ∧ (y.x.k.v 2).toInt ≤ 6 := hK.1 2
  unfold kX10_needs at h1
  unfold r_needs at h2
  rw [kp_eq, bindI_some] at h1
  rw [rp_eq hI, bindI_some, ← h.1.1.2.1] at h2
  replace h1 := letS_inv h1
  obtain ⟨s3, c3, h1⟩ := h1
  have e3 : s3 = y.x := by rw [← c3]; rfl
  subst e3
  by_cases hp : 0 ≤ x1.toInt ∧ x1.toInt < (y.x.k.v 2).toInt
  · rw [if_pos hp, if_neg z_one] at h1 h2
    rw [kw_eq, bindI_some] at h1
    rw [rw_eq hI, bindI_some, ← h.1.1.1] at h2
    replace h1 := letS_inv h1
    obtain ⟨s8, c8, h1⟩ := h1
    have e8 : s8 = y.x := by rw [← c8]; rfl
    subst e8
    by_cases hw : 0 ≤ x2.toInt ∧ x2.toInt < (y.x.k.v 1).toInt
    · rw [if_pos hw, if_neg z_one] at h1 h2
      by_cases ht : 0 ≤ x3.toInt ∧ x3.toInt ≤ 5
      · rw [kt_yes ht.1 ht.2, bindP_some, if_neg z_one] at h1
        rw [rt_yes ht.1 ht.2, bindP_some, if_neg z_one] at h2
        replace h2 := bindP_inv h2
        obtain ⟨z9, w9, h2⟩ := h2
        obtain ⟨hJ, _⟩ := h.jr hK hI hB w9
        replace h1 := bindI_inv h1
        obtain ⟨q1, s13, u13, h1⟩ := h1
        replace h1 := letS_inv h1
        obtain ⟨s15, c15, h1⟩ := h1
        replace h2 := bindI_inv h2
        obtain ⟨q2, z10, w10, h2⟩ := h2
        obtain ⟨p, ep⟩ : ∃ p : Nat, x1.toInt = (p : Int) := ⟨x1.toInt.toNat, by omega⟩
        obtain ⟨w, ew⟩ : ∃ w : Nat, x2.toInt = (w : Int) := ⟨x2.toInt.toNat, by omega⟩
        obtain ⟨v, ev⟩ : ∃ v : Nat, x3.toInt = (v : Int) := ⟨x3.toInt.toNat, by omega⟩
        obtain ⟨er, kp⟩ := need_same (s := JS.mk y.x.k y.x.n) (hJ.nr (by omega) (by omega)) ep (by show (p : Int) < (y.x.k.v 2).toInt; omega) ew (by show (w : Int) < (y.x.k.v 1).toInt; omega) ev (by omega) u13 w10
        cases h1
        cases h2
        rw [← c15]
        exact ⟨er, rfl, kp.1⟩
      · rw [kt_no ht, bindP_some, if_pos rfl] at h1
        rw [rt_no ht, bindP_some, if_pos rfl] at h2
        cases h1
        cases h2
        exact ⟨rfl, rfl, rfl⟩
    · rw [if_neg hw, if_pos rfl] at h1 h2
      cases h1
      cases h2
      exact ⟨rfl, rfl, rfl⟩
  · rw [if_neg hp, if_pos rfl] at h1 h2
    cases h1
    cases h2
    exact ⟨rfl, rfl, rfl⟩
