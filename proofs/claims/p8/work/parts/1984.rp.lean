/-! ===== parties, how far a guess bears, the surest thing over a wave ===== -/
theorem party_same {y : YS} {x' : XS} {z z' : RS} {x1 x2 r1 r2 : Int32} (h : REL y z) (hK : InvK y.x.k) (hI : InvR z) (hB : Big z) (h1 : kX10_party y.x x1 x2 = some (r1, x')) (h2 : r_party z x1 x2 = some (r2, z')) : QSm y.x x' r1 r2 := by
  have bp : 0 ≤ (y.x.k.v 2).toInt ∧ (y.x.k.v 2).toInt ≤ 6 := hK.1 2
  have bl : 0 ≤ (z.v 18).toInt ∧ (z.v 18).toInt ≤ 1 := hI.1 18
  unfold kX10_party at h1
  unfold r_party at h2
  rw [kp_eq, bindI_some] at h1
  rw [rp_eq hI, bindI_some, ← h.1.1.2.1] at h2
  replace h1 := letS_inv h1
  obtain ⟨s3, c3, h1⟩ := h1
  have e3 : s3 = y.x := by rw [← c3]; rfl
  subst e3
  by_cases hp : 0 ≤ x1.toInt ∧ x1.toInt < (y.x.k.v 2).toInt
  · rw [if_pos hp, if_neg z_one] at h1 h2
    replace h2 := bindP_inv h2
    obtain ⟨z4, w4, h2⟩ := h2
    obtain ⟨hJ, F4⟩ := h.jr hK hI hB w4
    obtain ⟨p, ep⟩ : ∃ p : Nat, x1.toInt = (p : Int) := ⟨x1.toInt.toNat, by omega⟩
    obtain ⟨l, hl⟩ : ∃ l : Nat, (z4.v 18).toInt = (l : Int) := ⟨(z4.v 18).toInt.toNat, by rw [F4.1 18 (by decide)]; omega⟩
    have bl4 : (z4.v 18).toInt ≤ 1 := by rw [F4.1 18 (by decide)]; exact bl.2
    have m1 : (6 * (z4.v 18)).toInt = (z4.v 18).toInt * 6 := ti_cmul (c := 6) (by decide) (by omega) (by omega)
    have m2 : ((6 * (z4.v 18)) + x1).toInt = ((6 * l + p : Nat) : Int) := by
      rw [ti_add (by omega) (by omega)]
      omega
    have a15 : (15 + x1).toInt = ((15 + p : Nat) : Int) := by
      rw [tn_add (by decide : (15 : Int32).toInt = 15) ep (by omega) (by omega)]
      omega
    have a21 : (21 + x1).toInt = ((21 + p : Nat) : Int) := by
      rw [tn_add (by decide : (21 : Int32).toInt = 21) ep (by omega) (by omega)]
      omega
    have cp := clamp_of_int ep
    have hp2 := hJ.1.2.2.2.1 p (by show (p : Int) < (y.x.k.v 2).toInt; omega)
    rw [clamp_of_int hl] at hp2
    have hp3 := hJ.2.1.2.1 p (by omega)
    by_cases e0 : x2 = 0
    · rw [if_pos e0, cp] at h1
      rw [if_pos e0, clamp_of_int m2] at h2
      replace h1 := guard_inv h1
      obtain ⟨_, h1⟩ := h1
      replace h2 := guard_inv h2
      obtain ⟨_, h2⟩ := h2
      cases h1
      cases h2
      exact ⟨hp2.1, rfl, rfl⟩
    · rw [if_neg e0] at h1 h2
      by_cases e1 : x2 = 1
      · rw [if_pos e1, cp] at h1
        rw [if_pos e1, clamp_of_int m2] at h2
        replace h1 := guard_inv h1
        obtain ⟨_, h1⟩ := h1
        replace h2 := guard_inv h2
        obtain ⟨_, h2⟩ := h2
        cases h1
        cases h2
        exact ⟨hp2.2, rfl, rfl⟩
      · rw [if_neg e1] at h1 h2
        by_cases e2 : x2 = 2
        · rw [if_pos e2, cp] at h1
          rw [if_pos e2, clamp_of_int a15] at h2
          replace h1 := guard_inv h1
          obtain ⟨_, h1⟩ := h1
          replace h2 := guard_inv h2
          obtain ⟨_, h2⟩ := h2
          cases h1
          cases h2
          exact ⟨hp3.1, rfl, rfl⟩
        · rw [if_neg e2] at h1 h2
          by_cases e3 : x2 = 3
          · rw [if_pos e3, cp] at h1
            rw [if_pos e3, clamp_of_int a21] at h2
            replace h1 := guard_inv h1
            obtain ⟨_, h1⟩ := h1
            replace h2 := guard_inv h2
            obtain ⟨_, h2⟩ := h2
            cases h1
            cases h2
            exact ⟨hp3.2, rfl, rfl⟩
          · rw [if_neg e3] at h1 h2
            by_cases e4 : x2 = 4
            · rw [if_pos e4] at h1 h2
              replace h1 := bindI_inv h1
              obtain ⟨q1, s15, u15, h1⟩ := h1
              replace h1 := letS_inv h1
              obtain ⟨s17, c17, h1⟩ := h1
              replace h2 := bindI_inv h2
              obtain ⟨q2, z14, w14, h2⟩ := h2
              obtain ⟨er, kp⟩ := fare_same (s := JS.mk y.x.k y.x.n) hJ ep (by show (p : Int) < (y.x.k.v 2).toInt; omega) u15 w14
              cases h1
              cases h2
              rw [← c17]
              exact ⟨er, rfl, kp.1⟩
            · rw [if_neg e4] at h1 h2
              by_cases e5 : x2 = 5
              · rw [if_pos e5] at h1 h2
                replace h1 := bindI_inv h1
                obtain ⟨q1, s20, u20, h1⟩ := h1
                replace h1 := letS_inv h1
                obtain ⟨s22, c22, h1⟩ := h1
                replace h2 := bindI_inv h2
                obtain ⟨q2, z17, w17, h2⟩ := h2
                obtain ⟨er, kp⟩ := dare_same (s := JS.mk y.x.k y.x.n) hJ ep (by show (p : Int) < (y.x.k.v 2).toInt; omega) u20 w17
                subst er
                by_cases d : q1 = 0
                · rw [if_pos d] at h1 h2
                  cases h1
                  cases h2
                  rw [← c22]
                  exact ⟨rfl, rfl, kp.1⟩
                · rw [if_neg d] at h1 h2
                  cases h1
                  cases h2
                  rw [← c22]
                  exact ⟨rfl, rfl, kp.1⟩
              · rw [if_neg e5] at h1 h2
                cases h1
                cases h2
                exact ⟨rfl, rfl, rfl⟩
  · rw [if_neg hp, if_pos rfl] at h1 h2
    cases h1
    cases h2
    exact ⟨rfl, rfl, rfl⟩
theorem bears_same {y : YS} {x' : XS} {z z' : RS} {x1 x2 r1 r2 : Int32} (h : REL y z) (hK : InvK y.x.k) (hI : InvR z) (hB : Big z) (h1 : kX10_bears y.x x1 x2 = some (r1, x')) (h2 : r_bears z x1 x2 = some (r2, z')) : QSm y.x x' r1 r2 := by
  have bp : 0 ≤ (y.x.k.v 2).toInt ∧ (y.x.k.v 2).toInt ≤ 6 := hK.1 2
  unfold kX10_bears at h1
  unfold r_bears at h2
  rw [kp_eq, bindI_some] at h1
  rw [rp_eq hI, bindI_some, ← h.1.1.2.1] at h2
  replace h1 := letS_inv h1
  obtain ⟨s3, c3, h1⟩ := h1
  have e3 : s3 = y.x := by rw [← c3]; rfl
  subst e3
  by_cases hp : 0 ≤ x1.toInt ∧ x1.toInt < (y.x.k.v 2).toInt
  · rw [if_pos hp, if_neg z_one] at h1 h2
    rw [kg_eq, bindI_some] at h1
    rw [rg_eq hI hK h.1, bindI_some] at h2
    replace h1 := letS_inv h1
    obtain ⟨s8, c8, h1⟩ := h1
    have e8 : s8 = y.x := by rw [← c8]; rfl
    subst e8
    by_cases hg : 0 ≤ x2.toInt ∧ x2.toInt < (y.x.k.v 3).toInt
    · rw [if_pos hg, if_neg z_one] at h1 h2
      replace h1 := bindI_inv h1
      obtain ⟨q1, s11, u11, h1⟩ := h1
      replace h1 := letS_inv h1
      obtain ⟨s13, c13, h1⟩ := h1
      replace h2 := bindP_inv h2
      obtain ⟨z7, w7, h2⟩ := h2
      replace h2 := bindI_inv h2
      obtain ⟨q2, z8, w8, h2⟩ := h2
      obtain ⟨hJ, _⟩ := h.jr hK hI hB w7
      obtain ⟨p, ep⟩ : ∃ p : Nat, x1.toInt = (p : Int) := ⟨x1.toInt.toNat, by omega⟩
      obtain ⟨g, eg⟩ : ∃ g : Nat, x2.toInt = (g : Int) := ⟨x2.toInt.toNat, by omega⟩
      obtain ⟨er, kp, _⟩ := borne_same (s := JS.mk y.x.k y.x.n) hJ ep (by show (p : Int) < (y.x.k.v 2).toInt; omega) eg u11 w8
      cases h1
      cases h2
      rw [← c13]
      exact ⟨er, rfl, kp.1⟩
    · rw [if_neg hg, if_pos rfl] at h1 h2
      cases h1
      cases h2
      exact ⟨rfl, rfl, rfl⟩
  · rw [if_neg hp, if_pos rfl] at h1 h2
    cases h1
    cases h2
    exact ⟨rfl, rfl, rfl⟩
