section
/-! ===== what can be undone ===== -/
theorem keepsL {z' : RS} : ∀ (n : Nat) (z : RS) (x : Int32) (j : Nat), x.toInt = (j : Int) → j ≤ 29 → r_keepsRow_2L n z x = some z' → FrR [143] z z' ∧ (∀ i, j ≤ i → i < 29 → z'.f 43 i = z.f 44 i) ∧ (∀ i, i < j → z'.f 43 i = z.f 43 i) := by
  intro n
  induction n with
  | zero => intro z x j _ _ h; exact none_ne h
  | succ n ih =>
    intro z x j ex hj h
    replace h : r_keepsRow_2 (r_keepsRow_2L n) z x = some z' := h
    unfold r_keepsRow_2 at h
    by_cases c : 29 ≤ x
    · have c' := tn_le (a := 29) (by decide) rfl c
      rw [if_pos c] at h
      cases h
      exact ⟨FrR.rfl, fun i h1 h2 => by omega, fun i _ => rfl⟩
    · have c' := tn_nle (a := 29) (by decide) rfl c
      rw [if_neg c] at h
      replace h := guard_inv h
      obtain ⟨_, h⟩ := h
      replace h := guard_inv h
      obtain ⟨_, h⟩ := h
      replace h := letS_inv h
      obtain ⟨z4, d4, h⟩ := h
      rw [clamp_of_int ex] at d4
      have f4 : ∀ i, z4.f 43 i = if i = j then z.f 44 j else z.f 43 i := fun i => by
        rw [← d4]
        exact rsf_at
      have a : (x + 1).toInt = ((j + 1 : Nat) : Int) := by
        rw [tn_add ex (by decide : (1 : Int32).toInt = 1) (by omega) (by omega)]
        omega
      obtain ⟨q0, q1, q2⟩ := ih z4 (x + 1) (j + 1) a (by omega) h
      have f44 : z4.f 44 = z.f 44 := by rw [← d4]; rfl
      refine ⟨FrR.trans (t := z4) (by rw [← d4]; exact FrR.rfl.sf (by decide)) q0 (by decide), fun i h1 h2 => ?_, fun i hi => ?_⟩
      · by_cases e : i = j
        · rw [q2 i (by omega), f4, if_pos e, e]
        · rw [q1 i (by omega) h2, f44]
      · rw [q2 i (by omega), f4, if_neg (by omega)]
theorem r49_at {z t : RS} {i : Nat} {x : Int32} (h : z.sf 49 i x = t) : ∀ j, t.f 49 j = if j = i then x else z.f 49 j := fun j => by
  rw [← h]
  exact rsf_at
theorem rec_shift {z' : RS} : ∀ (n : Nat) (z : RS) (x : Int32) (j : Nat), x.toInt = (j : Int) → j ≤ 1131 → r_records_11L n z x = some z' → ∃ y, r_records_49 (y.sv 48 ((y.v 48) - 1)) = some z' ∧ FrR [149] z y ∧ (∀ i, j ≤ i → i < 1131 → y.f 49 i = z.f 49 (i + 29)) ∧ (∀ i, (i < j ∨ 1131 ≤ i) → y.f 49 i = z.f 49 i) := by
  intro n
  induction n with
  | zero => intro z x j _ _ h; exact none_ne h
  | succ n ih =>
    intro z x j ex hj h
    replace h : r_records_11 (r_records_11L n) z x = some z' := h
    unfold r_records_11 at h
    by_cases c : 1131 ≤ x
    · have c' := tn_le (a := 1131) (by decide) rfl c
      rw [if_pos c] at h
      exact ⟨z, h, FrR.rfl, fun i h1 h2 => by omega, fun i _ => rfl⟩
    · have c' := tn_nle (a := 1131) (by decide) rfl c
      rw [if_neg c] at h
      replace h := guard_inv h
      obtain ⟨_, h⟩ := h
      replace h := guard_inv h
      obtain ⟨_, h⟩ := h
      replace h := letS_inv h
      obtain ⟨z6, d6, h⟩ := h
      have a29 : (x + 29).toInt = ((j + 29 : Nat) : Int) := by
        rw [tn_add ex (by decide : (29 : Int32).toInt = 29) (by omega) (by omega)]
        omega
      rw [clamp_of_int ex, clamp_of_int a29] at d6
      have f6 := r49_at d6
      have a : (x + 1).toInt = ((j + 1 : Nat) : Int) := by
        rw [tn_add ex (by decide : (1 : Int32).toInt = 1) (by omega) (by omega)]
        omega
      obtain ⟨y, q0, qF, q1, q2⟩ := ih z6 (x + 1) (j + 1) a (by omega) h
      refine ⟨y, q0, FrR.trans (t := z6) (by rw [← d6]; exact FrR.rfl.sf (by decide)) qF (by decide), fun i h1 h2 => ?_, fun i hi => ?_⟩
      · by_cases e : i = j
        · rw [q2 i (by omega), f6, if_pos e, e]
        · rw [q1 i (by omega) h2, f6, if_neg (by omega)]
      · rw [q2 i (by omega), f6, if_neg (by omega)]
theorem rec_put {z' : RS} {U : Nat} (hU : U ≤ 39) : ∀ (n : Nat) (z : RS) (x : Int32) (j : Nat), (z.v 48).toInt = (U : Int) → x.toInt = (j : Int) → j ≤ 29 → r_records_51L n z x = some z' → ∃ y, r_keepsRow (y.sv 48 ((y.v 48) + 1)) = some z' ∧ FrR [149] z y ∧ (∀ i, j ≤ i → i < 29 → y.f 49 (29 * U + i) = z.f 43 i) ∧ (∀ i, (i < 29 * U + j ∨ 29 * U + 29 ≤ i) → y.f 49 i = z.f 49 i) := by
  intro n
  induction n with
  | zero => intro z x j _ _ _ h; exact none_ne h
  | succ n ih =>
    intro z x j hv ex hj h
    replace h : r_records_51 (r_records_51L n) z x = some z' := h
    unfold r_records_51 at h
    by_cases c : 29 ≤ x
    · have c' := tn_le (a := 29) (by decide) rfl c
      rw [if_pos c] at h
      replace h := letS_inv h
      obtain ⟨y2, d2, h⟩ := h
      rw [bindP_id] at h
      rw [← d2] at h
      exact ⟨z, h, FrR.rfl, fun i h1 h2 => by omega, fun i _ => rfl⟩
    · have c' := tn_nle (a := 29) (by decide) rfl c
      rw [if_neg c] at h
      replace h := guard_inv h
      obtain ⟨_, h⟩ := h
      replace h := guard_inv h
      obtain ⟨_, h⟩ := h
      replace h := letS_inv h
      obtain ⟨z7, d7, h⟩ := h
      have m1 : (29 * (z.v 48)).toInt = (z.v 48).toInt * 29 := ti_cmul (c := 29) (by decide) (by omega) (by omega)
      have m2 : ((29 * (z.v 48)) + x).toInt = ((29 * U + j : Nat) : Int) := by
        rw [ti_add (by omega) (by omega)]
        omega
      rw [clamp_of_int ex, clamp_of_int m2] at d7
      have f7 := r49_at d7
      have a : (x + 1).toInt = ((j + 1 : Nat) : Int) := by
        rw [tn_add ex (by decide : (1 : Int32).toInt = 1) (by omega) (by omega)]
        omega
      have v7 : z7.v 48 = z.v 48 := by rw [← d7]; rfl
      have f43 : z7.f 43 = z.f 43 := by rw [← d7]; rfl
      obtain ⟨y, q0, qF, q1, q2⟩ := ih z7 (x + 1) (j + 1) (by rw [v7]; exact hv) a (by omega) h
      refine ⟨y, q0, FrR.trans (t := z7) (by rw [← d7]; exact FrR.rfl.sf (by decide)) qF (by decide), fun i h1 h2 => ?_, fun i hi => ?_⟩
      · by_cases e : i = j
        · rw [q2 (29 * U + i) (by omega), f7, if_pos (by omega), e]
        · rw [q1 i (by omega) h2, f43]
      · rw [q2 i (by omega), f7, if_neg (by omega)]
/-- what the reference's records leave -/
theorem records_eq {z z' : RS} {U : Nat} (hv : (z.v 48).toInt = (U : Int)) (hU : U ≤ 40) (h : r_records z = some z') : FrR [48, 143, 149] z z' ∧ (∀ i, i < 29 → z'.f 43 i = z.f 44 i) ∧ ((U < 40 ∧ (z'.v 48).toInt = ((U + 1 : Nat) : Int) ∧ (∀ i, i < 29 → z'.f 49 (29 * U + i) = z.f 43 i) ∧ (∀ i, i < 29 * U → z'.f 49 i = z.f 49 i)) ∨ (U = 40 ∧ (z'.v 48).toInt = 40 ∧ (∀ i, i < 29 → z'.f 49 (29 * 39 + i) = z.f 43 i) ∧ (∀ i, i < 1131 → z'.f 49 i = z.f 49 (i + 29)))) := by
  unfold r_records at h
  have fin : ∀ (t : RS) (V : Nat), V ≤ 39 → (t.v 48).toInt = (V : Int) → r_records_49 t = some z' → FrR [48, 143, 149] t z' ∧ (∀ i, i < 29 → z'.f 43 i = t.f 44 i) ∧ (z'.v 48).toInt = ((V + 1 : Nat) : Int) ∧ (∀ i, i < 29 → z'.f 49 (29 * V + i) = t.f 43 i) ∧ (∀ i, i < 29 * V → z'.f 49 i = t.f 49 i) := by
    intro t V hV ht h
    unfold r_records_49 at h
    obtain ⟨y, q0, qF, q1, q2⟩ := rec_put hV fu t 0 0 ht (by decide) (by omega) h
    unfold r_keepsRow at q0
    obtain ⟨k0, k1, _⟩ := keepsL fu _ 0 0 (by decide) (by omega) q0
    have v48 : (y.sv 48 ((y.v 48) + 1)).v 48 = (t.v 48) + 1 := by
      show (y.v 48) + 1 = _
      rw [qF.1 48 (by decide)]
    have a : ((t.v 48) + 1).toInt = ((V + 1 : Nat) : Int) := by
      rw [tn_add ht (by decide : (1 : Int32).toInt = 1) (by omega) (by omega)]
      omega
    refine ⟨((FrR.rfl.trans qF (by decide)).sv (k := 48) (by decide)).trans k0 (by decide), fun i hi => ?_, ?_, fun i hi => ?_, fun i hi => ?_⟩
    · rw [k1 i (by omega) hi]
      show y.f 44 i = _
      rw [(qF.2 44 (by decide)).1]
    · rw [k0.1 48 (by decide), v48]
      exact a
    · rw [(k0.2 49 (by decide)).1]
      exact q1 i (by omega) hi
    · rw [(k0.2 49 (by decide)).1]
      exact q2 i (by omega)
  by_cases c : z.v 48 = 40
  · have c' : U = 40 := by
      rw [c] at hv
      have : (40 : Int32).toInt = 40 := by decide
      omega
    rw [if_pos c] at h
    obtain ⟨y, q0, qF, q1, q2⟩ := rec_shift fu z 0 0 (by decide) (by omega) h
    have v39 : ((y.sv 48 ((y.v 48) - 1)).v 48).toInt = ((39 : Nat) : Int) := by
      show ((y.v 48) - 1).toInt = _
      rw [qF.1 48 (by decide), c]
      decide
    obtain ⟨p1, p2, p3, p4, p5⟩ := fin _ 39 (by omega) v39 q0
    refine ⟨((FrR.rfl.trans qF (by decide)).sv (k := 48) (by decide)).trans p1 (by decide), fun i hi => ?_, Or.inr ⟨c', ?_, fun i hi => ?_, fun i hi => ?_⟩⟩
    · rw [p2 i hi]
      show y.f 44 i = _
      rw [(qF.2 44 (by decide)).1]
    · rw [p3]
      rfl
    · rw [p4 i hi]
      show y.f 43 i = _
      rw [(qF.2 43 (by decide)).1]
    · rw [p5 i (by omega)]
      exact q1 i (by omega) hi
  · have c' : ¬ U = 40 := fun q => c (Int32.toInt_inj.mp (by rw [hv, q]; decide))
    rw [if_neg c] at h
    obtain ⟨p1, p2, p3, p4, p5⟩ := fin z U (by omega) hv h
    exact ⟨p1, p2, Or.inl ⟨by omega, p3, p4, p5⟩⟩
theorem SDq.rfl {d : SD} : SDq d d := ⟨fun _ _ => ⟨Eq.refl _, Eq.refl _, Eq.refl _⟩, fun _ _ => ⟨Eq.refl _, Eq.refl _⟩, Eq.refl _, Eq.refl _⟩
/-- what the class remembers -/
theorem remember_eq {g : GS} {n : SD} {r : Nat → SD} {p' : PS} {F U : Nat} (h3 : (g.v 3).toInt = (F : Int)) (hF : F ≤ 39) (h4 : (g.v 4).toInt = (U : Int)) (hU : U ≤ 40) (h : kX3_remember (PS.mk g n r) = some p') : p'.n = n ∧ p'.g.f 4 = g.f 4 ∧ (∀ i, ¬ i = (F + U) % 40 → p'.r i = r i) ∧ SDq (p'.r ((F + U) % 40)) n ∧ ((U < 40 ∧ p'.g.v 3 = g.v 3 ∧ (p'.g.v 4).toInt = ((U + 1 : Nat) : Int)) ∨ (U = 40 ∧ (p'.g.v 3).toInt = (((F + 1) % 40 : Nat) : Int) ∧ p'.g.v 4 = g.v 4)) := by
  unfold kX3_remember at h
  replace h := guard_inv h
  obtain ⟨_, h⟩ := h
  replace h := bindP_inv h
  obtain ⟨s2, hc, h⟩ := h
  replace h := letS_inv h
  obtain ⟨s3, c3, h⟩ := h
  have a1 : ((g.v 3) + (g.v 4)).toInt = ((F + U : Nat) : Int) := by
    rw [ti_add (by omega) (by omega)]
    omega
  have a2 : (((g.v 3) + (g.v 4)) - ((g.v 3) + (g.v 4)) / 40 * 40).toInt = (((F + U) % 40 : Nat) : Int) := by
    rw [ti_remc (c := 40) (by decide) (by omega) (by omega), a1]
    omega
  have ei := clamp_of_int a2
  obtain ⟨e1, e2⟩ := copyFrom_eq hc
  have e1 : s2.e = n := e1
  have e2 : SDq s2.d n := e2
  have r3 : ∀ i, s3.r i = if i = (F + U) % 40 then s2.d else r i := fun i => by
    have q : s3.r i = va_up r (Int32.toNatClampNeg (((g.v 3) + (g.v 4)) - ((g.v 3) + (g.v 4)) / 40 * 40)) s2.d i := by rw [← c3]; rfl
    rw [q, ei]
    by_cases e : i = (F + U) % 40
    · rw [if_pos e, e, va_up_self]
    · rw [if_neg e, va_up_ne _ _ e]
  have n3 : s3.n = n := by rw [← c3]; exact e1
  have g3 : s3.g = g := by rw [← c3]; rfl
  have main : ∀ t : PS, t.n = s3.n → t.r = s3.r → t.g.f 4 = s3.g.f 4 → t.n = n ∧ t.g.f 4 = g.f 4 ∧ (∀ i, ¬ i = (F + U) % 40 → t.r i = r i) ∧ SDq (t.r ((F + U) % 40)) n := by
    intro t t1 t2 t3
    refine ⟨t1.trans n3, by rw [t3, g3], fun i hi => by rw [t2, r3, if_neg hi], ?_⟩
    rw [t2, r3, if_pos rfl]
    exact e2
  rw [g3] at h
  by_cases c : 40 ≤ g.v 4
  · have c' := tn_le (a := 40) (by decide) rfl c
    rw [if_pos c] at h
    replace h := letS_inv h
    obtain ⟨s6, c6, h⟩ := h
    cases h
    obtain ⟨m1, m2, m3, m4⟩ := main p' (by rw [← c6]; rfl) (by rw [← c6]; rfl) (by rw [← c6]; rfl)
    refine ⟨m1, m2, m3, m4, Or.inr ⟨by omega, ?_, ?_⟩⟩
    · have q : p'.g.v 3 = ((g.v 3) + 1) - ((g.v 3) + 1) / 40 * 40 := by rw [← c6]; rfl
      have b1 : ((g.v 3) + 1).toInt = ((F + 1 : Nat) : Int) := by
        rw [tn_add h3 (by decide : (1 : Int32).toInt = 1) (by omega) (by omega)]
        omega
      rw [q, ti_remc (c := 40) (by decide) (by omega) (by omega), b1]
      omega
    · rw [← c6]
      show s3.g.v 4 = _
      rw [g3]
  · have c' := tn_nle (a := 40) (by decide) rfl c
    rw [if_neg c] at h
    replace h := letS_inv h
    obtain ⟨s8, c8, h⟩ := h
    cases h
    obtain ⟨m1, m2, m3, m4⟩ := main p' (by rw [← c8]; rfl) (by rw [← c8]; rfl) (by rw [← c8]; rfl)
    refine ⟨m1, m2, m3, m4, Or.inl ⟨by omega, ?_, ?_⟩⟩
    · rw [← c8]
      show s3.g.v 3 = _
      rw [g3]
    · have q : p'.g.v 4 = (g.v 4) + 1 := by rw [← c8]; rfl
      rw [q, tn_add h4 (by decide : (1 : Int32).toInt = 1) (by omega) (by omega)]
      omega
/-- both remember the same -/
theorem push_same {y : YS} {p' : PS} {z z2 z3 : RS} (hK : InvK y.x.k) (hI : InvR z) (hG : InvG y.x.g) (hH : HIS y z) (hL : SLT y z) (hR : SR y.x.n (z.f 43)) (hF : FO y.x.k y.x.n) (e48 : z2.v 48 = z.v 48) (e49 : z2.f 49 = z.f 49) (e43 : z2.f 43 = z.f 43) (e56 : z2.f 56 = z.f 56) (e57 : z2.f 57 = z.f 57) (h1 : kX3_remember (PS.mk y.x.g y.x.n y.r) = some p') (h2 : r_records z2 = some z3) : p'.n = y.x.n ∧ FrR [48, 143, 149] z2 z3 ∧ (∀ i, i < 29 → z3.f 43 i = z2.f 44 i) ∧ (∀ x : XS, x.g = p'.g → x.k = y.x.k → HIS (YS.mk x p'.r) z3 ∧ SLT (YS.mk x p'.r) z3) := by
  obtain ⟨a1, ⟨a2, a3⟩, a4⟩ := hH
  have b48 : 0 ≤ (z.v 48).toInt ∧ (z.v 48).toInt ≤ 40 := hI.1 48
  obtain ⟨U, hU⟩ : ∃ U : Nat, (z.v 48).toInt = (U : Int) := ⟨(z.v 48).toInt.toNat, by omega⟩
  obtain ⟨F, hFn⟩ : ∃ F : Nat, (y.x.g.v 3).toInt = (F : Int) := ⟨(y.x.g.v 3).toInt.toNat, by omega⟩
  have eF : (y.x.g.v 3).toNatClampNeg = F := clamp_of_int hFn
  obtain ⟨p1, p2, p3, p4, p5⟩ := remember_eq (U := U) hFn (by omega) (by rw [a1]; exact hU) (by omega) h1
  obtain ⟨q1, q2, q3⟩ := records_eq (U := U) (by rw [e48]; exact hU) (by omega) h2
  rw [eF] at a4
  refine ⟨p1, q1, q2, fun x hx hk => ⟨?_, fun s hs => ?_⟩⟩
  · rcases p5 with ⟨u1, u2, u3⟩ | ⟨u1, u2, u3⟩
    · rcases q3 with ⟨_, v2, v3, v4⟩ | ⟨v1, _⟩
      · refine ⟨?_, ?_, fun i hi => ?_⟩
        · show x.g.v 4 = _
          rw [hx]
          exact Int32.toInt_inj.mp (u3.trans v2.symm)
        · show 0 ≤ (x.g.v 3).toInt ∧ (x.g.v 3).toInt ≤ 39
          rw [hx, u2]
          exact ⟨a2, a3⟩
        · show SR (p'.r (((x.g.v 3).toNatClampNeg + i) % 40)) _ ∧ FO x.k (p'.r (((x.g.v 3).toNatClampNeg + i) % 40))
          rw [hx, u2, eF, hk]
          rw [v2] at hi
          by_cases e : i = U
          · subst e
            have S : SR (p'.r ((F + i) % 40)) (z.f 43) := hR.q p4
            exact ⟨S.cgf (fun j hj => by rw [v3 j hj, e43]), hF.q hK p4⟩
          · rw [p3 _ (by omega)]
            have o := a4 i (by omega)
            exact ⟨o.1.cgf (fun j hj => by show z3.f 49 (29 * i + j) = _; rw [v4 _ (by omega), e49]), o.2⟩
      · omega
    · rcases q3 with ⟨v1, _⟩ | ⟨_, v2, v3, v4⟩
      · omega
      · have e4 : (y.x.g.v 4).toInt = 40 := by rw [a1, hU]; omega
        have ef' : (p'.g.v 3).toNatClampNeg = (F + 1) % 40 := clamp_of_int u2
        refine ⟨?_, ?_, fun i hi => ?_⟩
        · show x.g.v 4 = _
          rw [hx, u3]
          exact Int32.toInt_inj.mp (e4.trans v2.symm)
        · show 0 ≤ (x.g.v 3).toInt ∧ (x.g.v 3).toInt ≤ 39
          rw [hx, u2]
          omega
        · show SR (p'.r (((x.g.v 3).toNatClampNeg + i) % 40)) _ ∧ FO x.k (p'.r (((x.g.v 3).toNatClampNeg + i) % 40))
          rw [hx, ef', hk]
          rw [v2] at hi
          by_cases e : i = 39
          · subst e
            have ei : ((F + 1) % 40 + 39) % 40 = (F + U) % 40 := by omega
            rw [ei]
            have S : SR (p'.r ((F + U) % 40)) (z.f 43) := hR.q p4
            exact ⟨S.cgf (fun j hj => by rw [v3 j hj, e43]), hF.q hK p4⟩
          · rw [p3 _ (by omega)]
            have o := a4 (i + 1) (by omega)
            have ei : ((F + 1) % 40 + i) % 40 = (F + (i + 1)) % 40 := by omega
            rw [ei]
            exact ⟨o.1.cgf (fun j hj => by
              show z3.f 49 (29 * i + j) = z.f 49 (29 * (i + 1) + j)
              rw [v4 _ (by omega), e49]
              exact congrArg (z.f 49) (by omega)), o.2⟩
  · show x.g.f 4 s = z3.f 56 s ∧ (¬ z3.f 56 s = 0 → SR (p'.r (40 + s)) (fun j => z3.f 57 (29 * s + j)) ∧ FO x.k (p'.r (40 + s)))
    rw [hx, p2, hk, p3 _ (by omega), (q1.2 56 (by decide)).1, (q1.2 57 (by decide)).1, e56, e57]
    exact hL s hs
end
section
/-! ===== what is done by hand ===== -/
theorem HIS.on {x x' : XS} {r : Nat → SD} {z : RS} (h : HIS (YS.mk x r) z) (eg : x'.g = x.g) (ek : ∀ d, FO x.k d → FO x'.k d) : HIS (YS.mk x' r) z := by
  obtain ⟨a1, a2, a3⟩ := h
  have a1 : x.g.v 4 = z.v 48 := a1
  have a2 : 0 ≤ (x.g.v 3).toInt ∧ (x.g.v 3).toInt ≤ 39 := a2
  refine ⟨?_, ?_, fun i hi => ?_⟩
  · show x'.g.v 4 = _
    rw [eg]; exact a1
  · show 0 ≤ (x'.g.v 3).toInt ∧ (x'.g.v 3).toInt ≤ 39
    rw [eg]; exact a2
  · show SR (r (((x'.g.v 3).toNatClampNeg + i) % 40)) _ ∧ FO x'.k (r (((x'.g.v 3).toNatClampNeg + i) % 40))
    rw [eg]
    have o : SR (r (((x.g.v 3).toNatClampNeg + i) % 40)) (fun j => z.f 49 (29 * i + j)) ∧ FO x.k (r (((x.g.v 3).toNatClampNeg + i) % 40)) := a3 i hi
    exact ⟨o.1, ek _ o.2⟩
theorem SLT.on {x x' : XS} {r : Nat → SD} {z : RS} (h : SLT (YS.mk x r) z) (eg : x'.g = x.g) (ek : ∀ d, FO x.k d → FO x'.k d) : SLT (YS.mk x' r) z := by
  intro s hs
  show x'.g.f 4 s = z.f 56 s ∧ (¬ z.f 56 s = 0 → SR (r (40 + s)) (fun j => z.f 57 (29 * s + j)) ∧ FO x'.k (r (40 + s)))
  rw [eg]
  have o : x.g.f 4 s = z.f 56 s ∧ (¬ z.f 56 s = 0 → SR (r (40 + s)) (fun j => z.f 57 (29 * s + j)) ∧ FO x.k (r (40 + s))) := h s hs
  exact ⟨o.1, fun q => ⟨(o.2 q).1, ek _ (o.2 q).2⟩⟩
theorem TEL.fr {k k' : KS} {z z' : RS} {W W' : List Nat} (h : TEL k z) (K : FrK W k k') (G : FrR W' z z') (hW : 1 ∉ W ∧ 21 ∉ W ∧ 142 ∉ W ∧ 143 ∉ W) (hW' : 152 ∉ W' ∧ 153 ∉ W' ∧ 154 ∉ W') : TEL k' z' := by
  unfold TEL
  rw [K.1 21 hW.2.1, K.1 1 hW.1, (K.2 42 hW.2.2.1).1, (K.2 43 hW.2.2.2).1, (G.2 52 hW'.1).1, (G.2 53 hW'.2.1).1, (G.2 54 hW'.2.2).1]
  exact h
theorem kh_eq {x : XS} {x1 : Int32} {p : Nat} (hK : InvK x.k) (e1 : x1.toInt = (p : Int)) (hp : (p : Int) < (x.k.v 2).toInt) : kX10_isHere x x1 = some ((if x.n.f 3 p = 0 then 1 else 0), x) := by
  have bp : 0 ≤ (x.k.v 2).toInt ∧ (x.k.v 2).toInt ≤ 6 := hK.1 2
  unfold kX10_isHere
  rw [kp_yes (by omega) (by omega), bindI_some]
  show (if (1 : Int32) = 0 then some ((0 : Int32), x) else if vpb x1 6 = true then (if x.n.f 3 x1.toNatClampNeg = 0 then some ((1 : Int32), x) else some ((0 : Int32), x)) else none) = _
  rw [if_neg z_one, if_pos (vpb_ok (by omega) (by omega)), clamp_of_int e1]
  by_cases c : x.n.f 3 p = 0
  · rw [if_pos c, if_pos c]
  · rw [if_neg c, if_neg c]
theorem kh_no {x : XS} {x1 : Int32} (h : ¬ (0 ≤ x1.toInt ∧ x1.toInt < (x.k.v 2).toInt)) : kX10_isHere x x1 = some (0, x) := by
  unfold kX10_isHere
  rw [kp_no h, bindI_some]
  show (if (0 : Int32) = 0 then some ((0 : Int32), x) else if vpb x1 6 = true then (if x.n.f 3 x1.toNatClampNeg = 0 then some ((1 : Int32), x) else some ((0 : Int32), x)) else none) = _
  rw [if_pos rfl]
theorem rh_eq {z : RS} {x1 : Int32} {p : Nat} (hI : InvR z) (e1 : x1.toInt = (p : Int)) (hp : (p : Int) < (z.f 23 (z.v 18).toNatClampNeg).toInt) : r_isHere z x1 = some ((if z.f 43 (15 + p) = 0 then 1 else 0), z) := by
  have c : 0 ≤ (z.f 23 (z.v 18).toNatClampNeg).toInt ∧ (z.f 23 (z.v 18).toNatClampNeg).toInt ≤ 6 := hI.2 23 _
  have a15 : (15 + x1).toInt = ((15 + p : Nat) : Int) := by
    rw [tn_add (by decide : (15 : Int32).toInt = 15) e1 (by omega) (by omega)]
    omega
  unfold r_isHere
  rw [rp_eq hI, bindI_some, if_pos (show 0 ≤ x1.toInt ∧ x1.toInt < (z.f 23 (z.v 18).toNatClampNeg).toInt from ⟨by omega, by omega⟩), if_neg z_one, if_pos (vpb_ok (by omega) (by omega)), clamp_of_int a15]
  by_cases d : z.f 43 (15 + p) = 0
  · rw [if_pos d, if_pos d]
  · rw [if_neg d, if_neg d]
theorem rh_no {z : RS} {x1 : Int32} (hI : InvR z) (h : ¬ (0 ≤ x1.toInt ∧ x1.toInt < (z.f 23 (z.v 18).toNatClampNeg).toInt)) : r_isHere z x1 = some (0, z) := by
  unfold r_isHere
  rw [rp_eq hI, bindI_some, if_neg h, if_pos rfl]
/-- a new standing, both having remembered the old one -/
theorem REL.done {y : YS} {p' : PS} {z z2 z3 : RS} {k' : KS} {d' t' : SD} {W : List Nat} (h : REL y z) (hK : InvK y.x.k) (hI : InvR z) (hG : InvG y.x.g) (K : FrK WSK y.x.k k') (G2 : FrR W z z2) (hW : (18 ∉ W ∧ 120 ∉ W ∧ 121 ∉ W ∧ 123 ∉ W ∧ 124 ∉ W ∧ 125 ∉ W ∧ 126 ∉ W ∧ 146 ∉ W) ∧ ((127 ∉ W ∧ 128 ∉ W) ∧ (130 ∉ W ∧ 131 ∉ W ∧ 132 ∉ W ∧ 133 ∉ W ∧ 134 ∉ W) ∧ 136 ∉ W ∧ 137 ∉ W)) (hW2 : (48 ∉ W ∧ 143 ∉ W ∧ 149 ∉ W ∧ 156 ∉ W ∧ 157 ∉ W) ∧ 152 ∉ W ∧ 153 ∉ W ∧ 154 ∉ W) (hd : SR d' (z2.f 44)) (hf : FO k' d') (h1 : kX3_remember (PS.mk y.x.g y.x.n y.r) = some p') (h2 : r_records z2 = some z3) : REL (YS.mk (XS.mk p'.g t' d' k') p'.r) z3 ∧ p'.n = y.x.n := by
  obtain ⟨a1, ⟨a2, a3⟩, a4, a5, a6⟩ := h
  obtain ⟨p1, p2, p3, p4⟩ := push_same hK hI hG a4 a5 a2 a3 (G2.1 48 hW2.1.1) (G2.2 49 hW2.1.2.2.1).1 (G2.2 43 hW2.1.2.1).1 (G2.2 56 hW2.1.2.2.2.1).1 (G2.2 57 hW2.1.2.2.2.2).1 h1 h2
  obtain ⟨q1, q2⟩ := p4 (XS.mk p'.g t' d' y.x.k) rfl rfl
  have fo : ∀ d, FO y.x.k d → FO k' d := fun d q => q.fr K (by decide)
  have S3 : SO k' z3 := (a1.fr K G2 (by decide) hW).fr (FrK.rfl (W := [])) p2 (by decide) (by decide)
  refine ⟨⟨S3, ⟨hd.cgf p3, hf⟩, q1.on rfl fo, q2.on rfl fo, ?_⟩, p1⟩
  exact (a6.fr K G2 (by decide) hW2.2).fr (FrK.rfl (W := [])) p2 (by decide) (by decide)
theorem go_same {y y' : YS} {z z' : RS} {x1 x2 r1 r2 : Int32} (h : REL y z) (hK : InvK y.x.k) (hI : InvR z) (hB : Big z) (hG : InvG y.x.g) (h1 : kX10_go y x1 x2 = some (r1, y')) (h2 : r_go z x1 x2 = some (r2, z')) : r1 = r2 ∧ REL y' z' := by
  have bw : 0 ≤ (y.x.k.v 1).toInt ∧ (y.x.k.v 1).toInt ≤ 5 := hK.1 1
  have bp : 0 ≤ (y.x.k.v 2).toInt ∧ (y.x.k.v 2).toInt ≤ 6 := hK.1 2
  have b18 : 0 ≤ (z.v 18).toInt ∧ (z.v 18).toInt ≤ 1 := hI.1 18
  unfold kX10_go at h1
  unfold r_go at h2
  by_cases hp : 0 ≤ x1.toInt ∧ x1.toInt < (y.x.k.v 2).toInt
  · obtain ⟨p, ep⟩ : ∃ p : Nat, x1.toInt = (p : Int) := ⟨x1.toInt.toNat, by omega⟩
    have est := (h.2.1.1.2.1 p (by omega)).1
    rw [kh_eq (x := XS.mk y.x.g y.x.t y.x.n y.x.k) hK ep (by show (p : Int) < (y.x.k.v 2).toInt; omega), bindI_some] at h1
    rw [rh_eq hI ep (by rw [← h.1.1.2.1]; omega), bindI_some, ← est] at h2
    replace h1 := letS_inv h1
    obtain ⟨s3, c3, h1⟩ := h1
    have e3 : s3 = y := by rw [← c3]; rfl
    subst e3
    by_cases c : s3.x.n.f 3 p = 0
    · have c0 : (XS.mk s3.x.g s3.x.t s3.x.n s3.x.k).n.f 3 p = 0 := c
      rw [if_pos c0, if_neg z_one] at h1
      rw [if_pos c, if_neg z_one, if_pos (vpb_ok (by omega) (by omega)), ← h.1.1.1] at h2
      by_cases cw : s3.x.k.v 1 = 0
      · rw [if_pos cw] at h1 h2
        cases h1
        cases h2
        exact ⟨rfl, h⟩
      · rw [if_neg cw] at h1 h2
        rw [kg_eq, bindI_some] at h1
        rw [rg_eq hI hK h.1, bindI_some] at h2
        replace h1 := letS_inv h1
        obtain ⟨s9, c9, h1⟩ := h1
        have e9 : s9 = s3 := by rw [← c9]; rfl
        subst e9
        by_cases hg : 0 ≤ x2.toInt ∧ x2.toInt < (s9.x.k.v 3).toInt
        · rw [if_pos hg, if_neg z_one] at h1 h2
          replace h1 := bindP_inv h1
          obtain ⟨p', u12, h1⟩ := h1
          replace h1 := letS_inv h1
          obtain ⟨s13, c13, h1⟩ := h1
          replace h1 := bindI_inv h1
          obtain ⟨q16, s15, u16, h1⟩ := h1
          replace h1 := letS_inv h1
          obtain ⟨s17, c17, h1⟩ := h1
          replace h2 := bindP_inv h2
          obtain ⟨z9, w9, h2⟩ := h2
          replace h2 := bindI_inv h2
          obtain ⟨q11, z10, w11, h2⟩ := h2
          replace h2 := bindI_inv h2
          obtain ⟨q13, z12, w13, h2⟩ := h2
          replace h2 := bindP_inv h2
          obtain ⟨z14, w14, h2⟩ := h2
          obtain ⟨hJ, F9⟩ := h.jr hK hI hB w9
          obtain ⟨g, eg⟩ : ∃ g : Nat, x2.toInt = (g : Int) := ⟨x2.toInt.toNat, by omega⟩
          have n13 : s13.x.n = s9.x.n ∧ s13.x.k = s9.x.k := by
            rw [← c13]
            refine ⟨?_, rfl⟩
            obtain ⟨_, ⟨f1, f2⟩, _⟩ := h.2.2.1
            obtain ⟨F, hF⟩ : ∃ F : Nat, (s9.x.g.v 3).toInt = (F : Int) := ⟨(s9.x.g.v 3).toInt.toNat, by omega⟩
            have b48 : 0 ≤ (z.v 48).toInt ∧ (z.v 48).toInt ≤ 40 := hI.1 48
            obtain ⟨U, hU⟩ : ∃ U : Nat, (z.v 48).toInt = (U : Int) := ⟨(z.v 48).toInt.toNat, by omega⟩
            exact (remember_eq hF (by omega) (by rw [h.2.2.1.1]; exact hU) (by omega) u12).1
          rw [n13.1, n13.2] at u16
          have sp := six_pow (s9.x.k.v 1).toNatClampNeg (by have : (s9.x.k.v 1).toInt.toNat = (s9.x.k.v 1).toNatClampNeg := Int32.toNat_toInt _; omega)
          have pl := pow_le (s9.x.k.v 1).toNatClampNeg (by have : (s9.x.k.v 1).toInt.toNat = (s9.x.k.v 1).toNatClampNeg := Int32.toNat_toInt _; omega)
          have e3 := h.1.1.2.2.2
          obtain ⟨er, K15, F12, R12, O12⟩ := send_same (s := JS.mk s9.x.k s9.x.n) hJ h.2.1.2 ep (by show (p : Int) < (s9.x.k.v 2).toInt; omega) eg (by rw [e3] at hg; omega) c w11 u16 w13
          have G12 : FrR [42, 45, 140, 141, 144] z z12 := (FrR.rfl.trans F9 (by decide)).trans F12 (by decide)
          obtain ⟨R, pn⟩ := h.done (t' := s13.x.t) hK hI hG K15 G12 (by decide) (by decide) R12 O12 u12 w14
          have a1 : r1 = q16 ∧ y' = s17 := by cases h1; exact ⟨rfl, rfl⟩
          have a2 : r2 = q13 ∧ z' = z14 := by cases h2; exact ⟨rfl, rfl⟩
          refine ⟨by rw [a1.1, a2.1, er], ?_⟩
          rw [a1.2, a2.2, ← c17, ← c13]
          rw [← c13] at R
          exact R
        · rw [if_neg hg, if_pos rfl] at h1 h2
          cases h1
          cases h2
          exact ⟨rfl, h⟩
    · have c0 : ¬ (XS.mk s3.x.g s3.x.t s3.x.n s3.x.k).n.f 3 p = 0 := c
      rw [if_neg c0, if_pos rfl] at h1
      rw [if_neg c, if_pos rfl] at h2
      cases h1
      cases h2
      exact ⟨rfl, h⟩
  · rw [kh_no (x := XS.mk y.x.g y.x.t y.x.n y.x.k) hp, bindI_some] at h1
    rw [rh_no hI (by rw [← h.1.1.2.1]; exact hp), bindI_some, if_pos rfl] at h2
    replace h1 := letS_inv h1
    obtain ⟨s3, c3, h1⟩ := h1
    have e3 : s3 = y := by rw [← c3]; rfl
    rw [if_pos rfl] at h1
    cases h1
    cases h2
    rw [e3]
    exact ⟨rfl, h⟩
theorem fetch_same {y y' : YS} {z z' : RS} {x1 r1 r2 : Int32} (h : REL y z) (hK : InvK y.x.k) (hI : InvR z) (hB : Big z) (hG : InvG y.x.g) (h1 : kX10_fetch y x1 = some (r1, y')) (h2 : r_fetch z x1 = some (r2, z')) : r1 = r2 ∧ REL y' z' := by
  have bp : 0 ≤ (y.x.k.v 2).toInt ∧ (y.x.k.v 2).toInt ≤ 6 := hK.1 2
  unfold kX10_fetch at h1
  unfold r_fetch at h2
  rw [kp_eq, bindI_some] at h1
  rw [rp_eq hI, bindI_some, ← h.1.1.2.1] at h2
  replace h1 := letS_inv h1
  obtain ⟨s3, c3, h1⟩ := h1
  have e3 : s3 = y := by rw [← c3]; rfl
  subst e3
  by_cases hp : 0 ≤ x1.toInt ∧ x1.toInt < (s3.x.k.v 2).toInt
  · rw [if_pos hp, if_neg z_one] at h1 h2
    obtain ⟨p, ep⟩ : ∃ p : Nat, x1.toInt = (p : Int) := ⟨x1.toInt.toNat, by omega⟩
    have a15 : (15 + x1).toInt = ((15 + p : Nat) : Int) := by
      rw [tn_add (by decide : (15 : Int32).toInt = 15) ep (by omega) (by omega)]
      omega
    have est := (h.2.1.1.2.1 p (by omega)).1
    replace h1 := guard_inv h1
    obtain ⟨_, h1⟩ := h1
    replace h2 := guard_inv h2
    obtain ⟨_, h2⟩ := h2
    rw [clamp_of_int ep] at h1
    rw [clamp_of_int a15] at h2
    by_cases c : s3.x.n.f 3 p = 0
    · rw [if_pos c] at h1
      rw [if_pos (est.symm.trans c)] at h2
      cases h1
      cases h2
      exact ⟨rfl, h⟩
    · rw [if_neg c] at h1
      rw [if_neg (fun q => c (est.trans q))] at h2
      replace h1 := bindP_inv h1
      obtain ⟨p', u8, h1⟩ := h1
      replace h1 := letS_inv h1
      obtain ⟨s9, c9, h1⟩ := h1
      replace h1 := guard_inv h1
      obtain ⟨_, h1⟩ := h1
      replace h1 := letS_inv h1
      obtain ⟨s12, c12, h1⟩ := h1
      replace h2 := bindP_inv h2
      obtain ⟨z6, w6, h2⟩ := h2
      replace h2 := guard_inv h2
      obtain ⟨_, h2⟩ := h2
      replace h2 := letS_inv h2
      obtain ⟨z8, g8, h2⟩ := h2
      replace h2 := bindP_inv h2
      obtain ⟨z10, w10, h2⟩ := h2
      obtain ⟨hJ, F6⟩ := h.jr hK hI hB w6
      have f8 := r44_at g8
      have R8 : SR (s3.x.n.sf 3 p 0) (z8.f 44) := SR.set3 hJ.2.1 (by omega) rfl f8
      have O8 : FO s3.x.k (s3.x.n.sf 3 p 0) := h.2.1.2
      have G8 : FrR [45, 144] z z8 := by rw [← g8]; exact F6.sf (by decide)
      obtain ⟨R, pn⟩ := h.done (t' := s3.x.t) hK hI hG FrK.rfl G8 (by decide) (by decide) R8 O8 u8 w10
      have a1 : r1 = 1 ∧ y' = s12 := by cases h1; exact ⟨rfl, rfl⟩
      have a2 : r2 = 1 ∧ z' = z10 := by cases h2; exact ⟨rfl, rfl⟩
      refine ⟨by rw [a1.1, a2.1], ?_⟩
      have e12 : s12 = YS.mk (XS.mk p'.g s3.x.t (s3.x.n.sf 3 p 0) s3.x.k) p'.r := by
        rw [← c12, ← c9, ← pn]
        rfl
      rw [a1.2, a2.2, e12]
      exact R
  · rw [if_neg hp, if_pos rfl] at h1 h2
    cases h1
    cases h2
    exact ⟨rfl, h⟩
end
section
/-! ===== buoys, years, what is undone, held, gone on from ===== -/
theorem xor_small2 : ∀ j, j < 6 → ∀ n, n < 64 → 0 ≤ ((Int32.ofNat n) ^^^ ((1 : Int32) <<< ((Int32.ofNat j) &&& 31))).toInt ∧ ((Int32.ofNat n) ^^^ ((1 : Int32) <<< ((Int32.ofNat j) &&& 31))).toInt ≤ 63 := by decide +kernel
theorem xor_small {x v : Int32} (h0 : 0 ≤ x.toInt) (h1 : x.toInt ≤ 63) (v0 : 0 ≤ v.toInt) (v5 : v.toInt ≤ 5) : 0 ≤ (x ^^^ ((1 : Int32) <<< (v &&& 31))).toInt ∧ (x ^^^ ((1 : Int32) <<< (v &&& 31))).toInt ≤ 63 := by
  have ev : v = Int32.ofNat v.toInt.toNat := eq_ofnat (by omega)
  rw [ev]
  exact all_small (P := fun x => 0 ≤ (x ^^^ ((1 : Int32) <<< ((Int32.ofNat v.toInt.toNat) &&& 31))).toInt ∧ (x ^^^ ((1 : Int32) <<< ((Int32.ofNat v.toInt.toNat) &&& 31))).toInt ≤ 63) (N := 64) (by omega) (xor_small2 _ (by omega)) h0 (by omega)
theorem buoy_same {y y' : YS} {z z' : RS} {x1 x2 x3 r1 r2 : Int32} (h : REL y z) (hK : InvK y.x.k) (hI : InvR z) (hB : Big z) (hG : InvG y.x.g) (h1 : kX10_buoy y x1 x2 x3 = some (r1, y')) (h2 : r_buoy z x1 x2 x3 = some (r2, z')) : r1 = r2 ∧ REL y' z' := by
  have bw : 0 ≤ (y.x.k.v 1).toInt ∧ (y.x.k.v 1).toInt ≤ 5 := hK.1 1
  unfold kX10_buoy at h1
  unfold r_buoy at h2
  rw [kw_eq, bindI_some] at h1
  rw [rw_eq hI, bindI_some, ← h.1.1.1] at h2
  replace h1 := letS_inv h1
  obtain ⟨s3, c3, h1⟩ := h1
  have e3 : s3 = y := by rw [← c3]; rfl
  subst e3
  by_cases hw : 0 ≤ x1.toInt ∧ x1.toInt < (s3.x.k.v 1).toInt
  · rw [if_pos hw, if_neg z_one] at h1 h2
    obtain ⟨w, ew⟩ : ∃ w : Nat, x1.toInt = (w : Int) := ⟨x1.toInt.toNat, by omega⟩
    by_cases ht : 0 ≤ x2.toInt ∧ x2.toInt ≤ 5
    · rw [kt_yes ht.1 ht.2, bindP_some, if_neg z_one] at h1
      rw [rt_yes ht.1 ht.2, bindP_some, if_neg z_one] at h2
      replace h1 := guard_inv h1
      obtain ⟨_, h1⟩ := h1
      replace h2 := guard_inv h2
      obtain ⟨_, h2⟩ := h2
      rw [clamp_of_int ew] at h1 h2
      obtain ⟨_, hb, hb2, _⟩ := h.2.1.1.1 w (by omega)
      unfold kX10_has at h1
      rw [hb] at h1
      have go : ∀ t : Int32, (bindP (some t) fun r9 => (if r9 = x3 then (some ((0 : Int32), s3)) else (bindP (kX3_remember (PS.mk s3.x.g s3.x.n s3.r)) fun s11 => (letS (YS.mk (XS.mk s11.g s3.x.t s11.n s3.x.k) s11.r) fun s12 => (if vpb x1 5 then (if vpb x1 5 then (letS (s12.nsf 1 w (((s12.x.n.f 1) w) ^^^ (1 <<< (x2 &&& 31)))) fun s16 => (some ((1 : Int32), s16))) else none) else none))))) = some (r1, y') → r_buoy_34 z x1 x2 x3 t = some (r2, z') → r1 = r2 ∧ REL y' z' := by
        intro t h1 h2
        rw [bindP_some] at h1
        unfold r_buoy_34 at h2
        by_cases c : t = x3
        · rw [if_pos c] at h1 h2
          cases h1
          cases h2
          exact ⟨rfl, h⟩
        · rw [if_neg c] at h1 h2
          replace h1 := bindP_inv h1
          obtain ⟨p', u11, h1⟩ := h1
          replace h1 := letS_inv h1
          obtain ⟨s12, c12, h1⟩ := h1
          replace h1 := guard_inv h1
          obtain ⟨_, h1⟩ := h1
          replace h1 := guard_inv h1
          obtain ⟨_, h1⟩ := h1
          replace h1 := letS_inv h1
          obtain ⟨s16, c16, h1⟩ := h1
          replace h2 := bindP_inv h2
          obtain ⟨z2, w2, h2⟩ := h2
          replace h2 := guard_inv h2
          obtain ⟨_, h2⟩ := h2
          replace h2 := guard_inv h2
          obtain ⟨_, h2⟩ := h2
          replace h2 := letS_inv h2
          obtain ⟨z5, g5, h2⟩ := h2
          replace h2 := bindP_inv h2
          obtain ⟨z7, w7, h2⟩ := h2
          rw [clamp_of_int ew] at g5
          obtain ⟨hJ, F2⟩ := h.jr hK hI hB w2
          have f5 := r44_at g5
          obtain ⟨_, jb, jb2, _⟩ := hJ.2.1.1 w (by omega)
          have jb : s3.x.n.f 1 w = z2.f 44 w := jb
          have xs := xor_small jb2.1 jb2.2 ht.1 ht.2
          have R5 : SR (s3.x.n.sf 1 w ((s3.x.n.f 1 w) ^^^ (1 <<< (x2 &&& 31)))) (z5.f 44) := SR.set1 hJ.2.1 (by omega) (by rw [jb]) xs.1 xs.2 f5
          have O5 : FO s3.x.k (s3.x.n.sf 1 w ((s3.x.n.f 1 w) ^^^ (1 <<< (x2 &&& 31)))) := h.2.1.2
          have G5 : FrR [45, 144] z z5 := by rw [← g5]; exact F2.sf (by decide)
          obtain ⟨R, pn⟩ := h.done (t' := s3.x.t) hK hI hG FrK.rfl G5 (by decide) (by decide) R5 O5 u11 w7
          have a1 : r1 = 1 ∧ y' = s16 := by cases h1; exact ⟨rfl, rfl⟩
          have a2 : r2 = 1 ∧ z' = z7 := by cases h2; exact ⟨rfl, rfl⟩
          refine ⟨by rw [a1.1, a2.1], ?_⟩
          have e16 : s16 = YS.mk (XS.mk p'.g s3.x.t (s3.x.n.sf 1 w ((s3.x.n.f 1 w) ^^^ (1 <<< (x2 &&& 31)))) s3.x.k) p'.r := by
            rw [← c16, ← c12, ← pn]
            rfl
          rw [a1.2, a2.2, e16]
          exact R
      by_cases c : (((z.f 43 w) >>> (x2 &&& 31)) &&& 1) = 1
      · rw [if_pos c] at h1 h2
        exact go 1 h1 h2
      · rw [if_neg c] at h1 h2
        exact go 0 h1 h2
    · rw [kt_no ht, bindP_some, if_pos rfl] at h1
      rw [rt_no ht, bindP_some, if_pos rfl] at h2
      cases h1
      cases h2
      exact ⟨rfl, h⟩
  · rw [if_neg hw, if_pos rfl] at h1 h2
    cases h1
    cases h2
    exact ⟨rfl, h⟩
theorem years2_same {y y' : YS} {z z' : RS} {x1 r1 r2 : Int32} (h : REL y z) (hK : InvK y.x.k) (hI : InvR z) (hB : Big z) (hG : InvG y.x.g) (h1 : kX10_years y x1 = some (r1, y')) (h2 : r_years z x1 = some (r2, z')) : r1 = r2 ∧ REL y' z' := by
  unfold kX10_years at h1
  unfold r_years r_isLong at h2
  have z0 : (0 : Int32).toInt = 0 := by decide
  have z40 : (40 : Int32).toInt = 40 := by decide
  by_cases c : x1 < 0
  · have c' := tn_lt (b := 0) rfl (by decide) c
    rw [if_pos c] at h1
    rw [r_in_no (by omega), bindP_some, if_pos (Or.inl rfl), bindP_some, if_pos rfl] at h2
    cases h1
    cases h2
    exact ⟨rfl, h⟩
  · have c' := tn_nlt (b := 0) rfl (by decide) c
    rw [if_neg c] at h1
    by_cases d : x1 ≤ 40
    · have d' := tn_le (b := 40) rfl (by decide) d
      rw [if_pos d] at h1
      rw [r_in_yes (by omega) (by omega), bindP_some, if_pos (Or.inr rfl), bindP_some, if_neg z_one] at h2
      by_cases e : x1 ≤ 0
      · have e' := tn_le (b := 0) rfl (by decide) e
        have ex : x1 = 0 := Int32.toInt_inj.mp (by omega)
        rw [if_pos e] at h1
        rw [if_pos ex] at h2
        have a1 : r1 = y.x.n.v 5 ∧ y' = y := by cases h1; exact ⟨rfl, rfl⟩
        have a2 : r2 = z.f 43 27 ∧ z' = z := by cases h2; exact ⟨rfl, rfl⟩
        rw [a1.1, a1.2, a2.1, a2.2]
        exact ⟨h.2.1.1.2.2.1, h⟩
      · have e' := tn_nle (b := 0) rfl (by decide) e
        have ex : ¬ x1 = 0 := fun q => by
          rw [q] at e'
          omega
        rw [if_neg e] at h1
        rw [if_neg ex] at h2
        replace h1 := bindP_inv h1
        obtain ⟨p', u4, h1⟩ := h1
        replace h1 := letS_inv h1
        obtain ⟨s5, c5, h1⟩ := h1
        replace h1 := bindP_inv h1
        obtain ⟨s7, u7, h1⟩ := h1
        replace h1 := letS_inv h1
        obtain ⟨s8, c8, h1⟩ := h1
        replace h2 := bindP_inv h2
        obtain ⟨z4, w4, h2⟩ := h2
        replace h2 := bindP_inv h2
        obtain ⟨z5, w5, h2⟩ := h2
        replace h2 := bindP_inv h2
        obtain ⟨z6, w6, h2⟩ := h2
        obtain ⟨hJ, F4⟩ := h.jr hK hI hB w4
        have pn : p'.n = y.x.n := by
          obtain ⟨_, ⟨f1, f2⟩, _⟩ := h.2.2.1
          obtain ⟨F, hF⟩ : ∃ F : Nat, (y.x.g.v 3).toInt = (F : Int) := ⟨(y.x.g.v 3).toInt.toNat, by omega⟩
          have b48 : 0 ≤ (z.v 48).toInt ∧ (z.v 48).toInt ≤ 40 := hI.1 48
          obtain ⟨U, hU⟩ : ∃ U : Nat, (z.v 48).toInt = (U : Int) := ⟨(z.v 48).toInt.toNat, by omega⟩
          exact (remember_eq hF (by omega) (by rw [h.2.2.1.1]; exact hU) (by omega) u4).1
        have u7 : kX0_passYears (JS.mk y.x.k y.x.n) x1 = some s7 := by
          rw [← pn]
          rw [← c5] at u7
          exact u7
        obtain ⟨K7, F5, J5, O5⟩ := years_same hJ h.2.1.2 u7 w5
        have G5 : FrR [42, 45, 140, 141, 144, 147] z z5 := (FrR.rfl.trans F4 (by decide)).trans F5 (by decide)
        obtain ⟨R, _⟩ := h.done (t' := y.x.t) hK hI hG K7 G5 (by decide) (by decide) J5.2.1 O5 u4 w6
        have e8 : s8 = YS.mk (XS.mk p'.g y.x.t s7.d s7.k) p'.r := by
          rw [← c8, ← c5]
          rfl
        have a1 : r1 = s8.x.n.v 5 ∧ y' = s8 := by cases h1; exact ⟨rfl, rfl⟩
        have a2 : r2 = z6.f 43 27 ∧ z' = z6 := by cases h2; exact ⟨rfl, rfl⟩
        rw [a1.1, a1.2, a2.1, a2.2, e8]
        exact ⟨R.2.1.1.2.2.1, R⟩
    · have d' := tn_nle (b := 40) rfl (by decide) d
      rw [if_neg d] at h1
      rw [r_in_no (by omega), bindP_some, if_pos (Or.inl rfl), bindP_some, if_pos rfl] at h2
      cases h1
      cases h2
      exact ⟨rfl, h⟩
/-- the reference's standing out of a row of its own -/
theorem undoL {r : Int32} {z' : RS} {U : Nat} (hU : U ≤ 39) : ∀ (n : Nat) (z : RS) (x : Int32) (j : Nat), (z.v 48).toInt = (U : Int) → x.toInt = (j : Int) → j ≤ 29 → r_undo_21L n z x = some (r, z') → r = 1 ∧ FrR [143] z z' ∧ (∀ i, j ≤ i → i < 29 → z'.f 43 i = z.f 49 (29 * U + i)) ∧ (∀ i, i < j → z'.f 43 i = z.f 43 i) := by
  intro n
  induction n with
  | zero => intro z x j _ _ _ h; exact none_ne h
  | succ n ih =>
    intro z x j hv ex hj h
    replace h : r_undo_21 (r_undo_21L n) z x = some (r, z') := h
    unfold r_undo_21 at h
    by_cases c : 29 ≤ x
    · have c' := tn_le (a := 29) (by decide) rfl c
      rw [if_pos c] at h
      cases h
      exact ⟨rfl, FrR.rfl, fun i h1 h2 => by omega, fun i _ => rfl⟩
    · have c' := tn_nle (a := 29) (by decide) rfl c
      rw [if_neg c] at h
      replace h := guard_inv h
      obtain ⟨_, h⟩ := h
      replace h := guard_inv h
      obtain ⟨_, h⟩ := h
      replace h := letS_inv h
      obtain ⟨z4, d4, h⟩ := h
      have m1 : (29 * (z.v 48)).toInt = (z.v 48).toInt * 29 := ti_cmul (c := 29) (by decide) (by omega) (by omega)
      have m2 : ((29 * (z.v 48)) + x).toInt = ((29 * U + j : Nat) : Int) := by
        rw [ti_add (by omega) (by omega)]
        omega
      rw [clamp_of_int ex, clamp_of_int m2] at d4
      have f4 : ∀ i, z4.f 43 i = if i = j then z.f 49 (29 * U + j) else z.f 43 i := fun i => by
        rw [← d4]
        exact rsf_at
      have a : (x + 1).toInt = ((j + 1 : Nat) : Int) := by
        rw [tn_add ex (by decide : (1 : Int32).toInt = 1) (by omega) (by omega)]
        omega
      have v4 : z4.v 48 = z.v 48 := by rw [← d4]; rfl
      have f49 : z4.f 49 = z.f 49 := by rw [← d4]; rfl
      obtain ⟨q, q0, q1, q2⟩ := ih z4 (x + 1) (j + 1) (by rw [v4]; exact hv) a (by omega) h
      refine ⟨q, FrR.trans (t := z4) (by rw [← d4]; exact FrR.rfl.sf (by decide)) q0 (by decide), fun i h1 h2 => ?_, fun i hi => ?_⟩
      · by_cases e : i = j
        · rw [q2 i (by omega), f4, if_pos e, e]
        · rw [q1 i (by omega) h2, f49]
      · rw [q2 i (by omega), f4, if_neg (by omega)]
theorem undo_same {y y' : YS} {z z' : RS} {r1 r2 : Int32} (h : REL y z) (hK : InvK y.x.k) (hI : InvR z) (h1 : kX10_undo y = some (r1, y')) (h2 : r_undo z = some (r2, z')) : r1 = r2 ∧ REL y' z' := by
  obtain ⟨a1, ⟨a2, a3⟩, ⟨i1, ⟨i2, i3⟩, i4⟩, a5, a6⟩ := id h
  have b48 : 0 ≤ (z.v 48).toInt ∧ (z.v 48).toInt ≤ 40 := hI.1 48
  unfold kX10_undo kX3_takeBack at h1
  unfold r_undo at h2
  by_cases c : z.v 48 = 0
  · have c0 : (PS.mk y.x.g y.x.n y.r).g.v 4 = 0 := i1.trans c
    rw [if_pos c0, bindI_some] at h1
    rw [if_pos c] at h2
    replace h1 := letS_inv h1
    obtain ⟨s3, c3, h1⟩ := h1
    rw [if_pos (Or.inl rfl)] at h1
    cases h1
    cases h2
    rw [← c3]
    exact ⟨rfl, h⟩
  · have c0 : ¬ (PS.mk y.x.g y.x.n y.r).g.v 4 = 0 := fun q => c (i1.symm.trans q)
    have nz := tn_ne (b := 0) rfl (by decide) c
    obtain ⟨U, hU⟩ : ∃ U : Nat, (z.v 48).toInt = ((U + 1 : Nat) : Int) := ⟨(z.v 48).toInt.toNat - 1, by omega⟩
    obtain ⟨F, hF⟩ : ∃ F : Nat, (y.x.g.v 3).toInt = (F : Int) := ⟨(y.x.g.v 3).toInt.toNat, by omega⟩
    have eF := clamp_of_int hF
    rw [if_neg c0] at h1
    rw [if_neg c] at h2
    replace h2 := letS_inv h2
    obtain ⟨z2, d2, h2⟩ := h2
    have v2 : (z2.v 48).toInt = (U : Int) := by
      rw [← d2]
      show ((z.v 48) - 1).toInt = _
      rw [tn_sub hU (by decide : (1 : Int32).toInt = 1) (by omega) (by omega)]
      omega
    obtain ⟨er2, Fz, q1, _⟩ := undoL (by omega) fu z2 0 0 v2 (by decide) (by omega) h2
    replace h1 := bindI_inv h1
    obtain ⟨q, s1, u1, h1⟩ := h1
    replace u1 := letS_inv u1
    obtain ⟨p2, c2, u1⟩ := u1
    replace u1 := guard_inv u1
    obtain ⟨_, u1⟩ := u1
    replace u1 := bindP_inv u1
    obtain ⟨s5, u5, u1⟩ := u1
    replace u1 := letS_inv u1
    obtain ⟨p6, c6, u1⟩ := u1
    replace h1 := letS_inv h1
    obtain ⟨s3, c3, h1⟩ := h1
    have g2 : p2.g = y.x.g.sv 4 ((y.x.g.v 4) - 1) ∧ p2.n = y.x.n ∧ p2.r = y.r := by rw [← c2]; exact ⟨rfl, rfl, rfl⟩
    have w3 : p2.g.v 3 = y.x.g.v 3 := by rw [g2.1]; rfl
    have w4 : p2.g.v 4 = (y.x.g.v 4) - 1 := by rw [g2.1]; rfl
    have w4i : (p2.g.v 4).toInt = (U : Int) := by
      rw [w4, i1, tn_sub hU (by decide : (1 : Int32).toInt = 1) (by omega) (by omega)]
      omega
    have b1 : ((p2.g.v 3) + (p2.g.v 4)).toInt = ((F + U : Nat) : Int) := by
      rw [ti_add (by rw [w3]; omega) (by rw [w3]; omega), w3, w4i]
      omega
    have b2 : (((p2.g.v 3) + (p2.g.v 4)) - ((p2.g.v 3) + (p2.g.v 4)) / 40 * 40).toInt = (((F + U) % 40 : Nat) : Int) := by
      rw [ti_remc (c := 40) (by decide) (by omega) (by omega), b1]
      omega
    rw [clamp_of_int b2] at u5 c6
    obtain ⟨e1, e2⟩ := copyFrom_eq u5
    have e1 : s5.e = p2.r ((F + U) % 40) := e1
    have e2 : SDq s5.d (p2.r ((F + U) % 40)) := e2
    have u1' : q = 1 ∧ s1 = p6 := by cases u1; exact ⟨rfl, rfl⟩
    rw [u1'.1, if_pos (Or.inr rfl)] at h1
    have o1 : r1 = 1 ∧ y' = s3 := by cases h1; exact ⟨rfl, rfl⟩
    have r6 : ∀ i, p6.r i = y.r i := fun i => by
      have q : p6.r i = va_up p2.r ((F + U) % 40) s5.e i := by rw [← c6]; rfl
      rw [q, e1]
      by_cases e : i = (F + U) % 40
      · rw [e, va_up_self, g2.2.2]
      · rw [va_up_ne _ _ e, g2.2.2]
    have hr6 : p6.r = y.r := funext r6
    have g6 : p6.g = p2.g := by rw [← c6]; rfl
    have n6 : p6.n = s5.d := by rw [← c6]; rfl
    have e3 : s3 = YS.mk (XS.mk p2.g y.x.t s5.d y.x.k) y.r := by
      rw [← c3, u1'.2, g6, n6, hr6]
    have Fall : FrR [48, 143] z z' := FrR.trans (t := z2) (by rw [← d2]; exact FrR.rfl.sv (by decide)) Fz (by decide)
    have o := i4 U (by omega)
    rw [eF] at o
    rw [g2.2.2] at e2
    have z249 : z2.f 49 = z.f 49 := by rw [← d2]; rfl
    refine ⟨by rw [o1.1, er2], ?_⟩
    rw [o1.2, e3]
    refine ⟨a1.fr (FrK.rfl (W := [])) Fall (by decide) (by decide), ⟨?_, ?_⟩, ⟨?_, ?_, fun i hi => ?_⟩, fun s hs => ?_, a6.fr (FrK.rfl (W := [])) Fall (by decide) (by decide)⟩
    · exact (o.1.q e2).cgf (fun i hi => by rw [q1 i (by omega) hi, z249])
    · exact o.2.q hK e2
    · show p2.g.v 4 = z'.v 48
      rw [Fz.1 48 (by decide)]
      exact Int32.toInt_inj.mp (w4i.trans v2.symm)
    · show 0 ≤ (p2.g.v 3).toInt ∧ (p2.g.v 3).toInt ≤ 39
      rw [w3]
      exact ⟨i2, i3⟩
    · show SR (y.r (((p2.g.v 3).toNatClampNeg + i) % 40)) (fun j => z'.f 49 (29 * i + j)) ∧ FO y.x.k (y.r (((p2.g.v 3).toNatClampNeg + i) % 40))
      rw [Fz.1 48 (by decide), v2] at hi
      rw [w3, (Fall.2 49 (by decide)).1]
      exact i4 i (by omega)
    · show p2.g.f 4 s = z'.f 56 s ∧ (¬ z'.f 56 s = 0 → SR (y.r (40 + s)) (fun j => z'.f 57 (29 * s + j)) ∧ FO y.x.k (y.r (40 + s)))
      rw [(Fall.2 56 (by decide)).1, (Fall.2 57 (by decide)).1, g2.1]
      exact a5 s hs
end
section
/-! ===== held, gone on from ===== -/
theorem holdL {r x1 : Int32} {z' : RS} {u : Nat} (e1 : x1.toInt = (u : Int)) (hu : u ≤ 2) : ∀ (n : Nat) (z : RS) (x : Int32) (j : Nat), x.toInt = (j : Int) → j ≤ 29 → r_hold_20L n z x1 x = some (r, z') → r = 1 ∧ FrR [157] z z' ∧ (∀ i, j ≤ i → i < 29 → z'.f 57 (29 * u + i) = z.f 43 i) ∧ (∀ i, (i < 29 * u + j ∨ 29 * u + 29 ≤ i) → z'.f 57 i = z.f 57 i) := by
  intro n
  induction n with
  | zero => intro z x j _ _ h; exact none_ne h
  | succ n ih =>
    intro z x j ex hj h
    replace h : r_hold_20 (r_hold_20L n) z x1 x = some (r, z') := h
    unfold r_hold_20 at h
    by_cases c : 29 ≤ x
    · have c' := tn_le (a := 29) (by decide) rfl c
      rw [if_pos c] at h
      cases h
      exact ⟨rfl, FrR.rfl, fun i h1 h2 => by omega, fun i _ => rfl⟩
    · have c' := tn_nle (a := 29) (by decide) rfl c
      rw [if_neg c] at h
      replace h := guard_inv h
      obtain ⟨_, h⟩ := h
      replace h := guard_inv h
      obtain ⟨_, h⟩ := h
      replace h := letS_inv h
      obtain ⟨z4, d4, h⟩ := h
      have m1 : (29 * x1).toInt = x1.toInt * 29 := ti_cmul (c := 29) (by decide) (by omega) (by omega)
      have m2 : ((29 * x1) + x).toInt = ((29 * u + j : Nat) : Int) := by
        rw [ti_add (by omega) (by omega)]
        omega
      rw [clamp_of_int ex, clamp_of_int m2] at d4
      have f4 : ∀ i, z4.f 57 i = if i = 29 * u + j then z.f 43 j else z.f 57 i := fun i => by
        rw [← d4]
        exact rsf_at
      have f43 : z4.f 43 = z.f 43 := by rw [← d4]; rfl
      have a : (x + 1).toInt = ((j + 1 : Nat) : Int) := by
        rw [tn_add ex (by decide : (1 : Int32).toInt = 1) (by omega) (by omega)]
        omega
      obtain ⟨q, q0, q1, q2⟩ := ih z4 (x + 1) (j + 1) a (by omega) h
      refine ⟨q, FrR.trans (t := z4) (by rw [← d4]; exact FrR.rfl.sf (by decide)) q0 (by decide), fun i h1 h2 => ?_, fun i hi => ?_⟩
      · by_cases e : i = j
        · rw [q2 (29 * u + i) (by omega), f4, if_pos (by omega), e]
        · rw [q1 i (by omega) h2, f43]
      · rw [q2 i (by omega), f4, if_neg (by omega)]
theorem gsf_at {s : GS} {k i j : Nat} {x : Int32} : (s.sf k i x).f k j = if j = i then x else s.f k j := by
  show va_up s.f k (upd (s.f k) i x) k j = _
  unfold va_up
  rw [if_pos rfl]
  rfl
theorem hold2_same {y y' : YS} {z z' : RS} {x1 r1 r2 : Int32} (h : REL y z) (hK : InvK y.x.k) (hI : InvR z) (h1 : kX10_hold y x1 = some (r1, y')) (h2 : r_hold z x1 = some (r2, z')) : r1 = r2 ∧ REL y' z' := by
  obtain ⟨a1, ⟨a2, a3⟩, a4, a5, a6⟩ := id h
  have z0 : (0 : Int32).toInt = 0 := by decide
  have z2 : (2 : Int32).toInt = 2 := by decide
  unfold kX10_hold kX3_keepIn at h1
  unfold r_hold at h2
  by_cases c : 0 ≤ x1.toInt ∧ x1.toInt ≤ 2
  · obtain ⟨u, eu⟩ : ∃ u : Nat, x1.toInt = (u : Int) := ⟨x1.toInt.toNat, by omega⟩
    rw [if_neg (fun q => by have := tn_lt (b := 0) rfl (by decide) q; omega), if_pos (Int32.lt_iff_toInt_lt.mpr (by rw [show (3 : Int32).toInt = 3 from by decide]; omega))] at h1
    rw [r_in_yes (by omega) (by omega), bindP_some, if_neg z_one] at h2
    replace h1 := bindI_inv h1
    obtain ⟨q, s1, u1, h1⟩ := h1
    replace u1 := guard_inv u1
    obtain ⟨_, u1⟩ := u1
    replace u1 := bindP_inv u1
    obtain ⟨s4, u4, u1⟩ := u1
    replace u1 := letS_inv u1
    obtain ⟨p5, c5, u1⟩ := u1
    replace u1 := guard_inv u1
    obtain ⟨_, u1⟩ := u1
    replace u1 := letS_inv u1
    obtain ⟨p8, c8, u1⟩ := u1
    replace h1 := letS_inv h1
    obtain ⟨s3, c3, h1⟩ := h1
    have u1' : q = 1 ∧ s1 = p8 := by cases u1; exact ⟨rfl, rfl⟩
    rw [u1'.1, if_pos (Or.inr rfl)] at h1
    have o1 : r1 = 1 ∧ y' = s3 := by cases h1; exact ⟨rfl, rfl⟩
    rw [clamp_of_int eu] at u4 c5 c8
    obtain ⟨e1, e2⟩ := copyFrom_eq u4
    have e1 : s4.e = y.x.n := e1
    have e2 : SDq s4.d y.x.n := e2
    replace h2 := guard_inv h2
    obtain ⟨_, h2⟩ := h2
    replace h2 := letS_inv h2
    obtain ⟨z3, d3, h2⟩ := h2
    rw [clamp_of_int eu] at d3
    obtain ⟨er2, Fz, q1, q2⟩ := holdL eu (by omega) fu z3 0 0 (by decide) (by omega) h2
    have F3 : FrR [156, 157] z z3 := by rw [← d3]; exact FrR.rfl.sf (by decide)
    have Fall : FrR [156, 157] z z' := F3.trans Fz (by decide)
    have z356 : ∀ i, z3.f 56 i = if i = u then vp_nar .boolean 1 else z.f 56 i := fun i => by
      rw [← d3]
      exact rsf_at
    have g5 : p5.g = y.x.g ∧ p5.n = y.x.n := by rw [← c5]; exact ⟨rfl, e1⟩
    have r5 : ∀ i, p5.r i = if i = 40 + u then s4.d else y.r i := fun i => by
      have q : p5.r i = va_up y.r (40 + u) s4.d i := by rw [← c5]; rfl
      rw [q]
      by_cases e : i = 40 + u
      · rw [if_pos e, e, va_up_self]
      · rw [if_neg e, va_up_ne _ _ e]
    have e3 : s3 = YS.mk (XS.mk (y.x.g.sf 4 u (vp_nar .boolean 1)) y.x.t y.x.n y.x.k) p5.r := by
      rw [← c3, u1'.2, ← c8]
      show YS.mk (XS.mk (p5.g.sf 4 u _) _ p5.n _) p5.r = _
      rw [g5.1, g5.2]
    refine ⟨by rw [o1.1, er2], ?_⟩
    rw [o1.2, e3]
    refine ⟨a1.fr (FrK.rfl (W := [])) Fall (by decide) (by decide), ⟨?_, a3⟩, ⟨?_, a4.2.1, fun i hi => ?_⟩, fun s hs => ?_, a6.fr (FrK.rfl (W := [])) Fall (by decide) (by decide)⟩
    · show SR y.x.n (z'.f 43)
      rw [(Fall.2 43 (by decide)).1]
      exact a2
    · show y.x.g.v 4 = z'.v 48
      rw [Fall.1 48 (by decide)]
      exact a4.1
    · show SR (p5.r (((y.x.g.v 3).toNatClampNeg + i) % 40)) (fun j => z'.f 49 (29 * i + j)) ∧ FO y.x.k (p5.r (((y.x.g.v 3).toNatClampNeg + i) % 40))
      rw [Fall.1 48 (by decide)] at hi
      rw [r5, if_neg (by omega), (Fall.2 49 (by decide)).1]
      exact a4.2.2 i hi
    · show (y.x.g.sf 4 u (vp_nar .boolean 1)).f 4 s = z'.f 56 s ∧ (¬ z'.f 56 s = 0 → SR (p5.r (40 + s)) (fun j => z'.f 57 (29 * s + j)) ∧ FO y.x.k (p5.r (40 + s)))
      have g4 : (y.x.g.sf 4 u (vp_nar .boolean 1)).f 4 s = if s = u then vp_nar .boolean 1 else y.x.g.f 4 s := gsf_at
      rw [g4, (Fz.2 56 (by decide)).1, z356 s, r5 (40 + s)]
      by_cases e : s = u
      · subst e
        rw [if_pos rfl, if_pos rfl, if_pos rfl]
        refine ⟨rfl, fun _ => ⟨(a2.q e2).cgf (fun i hi => ?_), a3.q hK e2⟩⟩
        rw [q1 i (by omega) hi, (F3.2 43 (by decide)).1]
      · rw [if_neg e, if_neg e, if_neg (by omega)]
        refine ⟨(a5 s hs).1, fun q => ?_⟩
        have o := (a5 s hs).2 q
        refine ⟨o.1.cgf (fun i hi => ?_), o.2⟩
        have z357 : z3.f 57 = z.f 57 := by rw [← d3]; rfl
        show z'.f 57 (29 * s + i) = z.f 57 (29 * s + i)
        rw [q2 _ (by omega), z357]
  · have h1 : r1 = 0 ∧ y' = y := by
      by_cases c1 : x1 < 0
      · rw [if_pos c1, bindI_some] at h1
        replace h1 := letS_inv h1
        obtain ⟨s3, c3, h1⟩ := h1
        rw [if_pos (Or.inl rfl)] at h1
        cases h1
        rw [← c3]
        exact ⟨rfl, rfl⟩
      · have c1' := tn_nlt (b := 0) rfl (by decide) c1
        rw [if_neg c1, if_neg (fun q => by have := tn_lt (b := 3) rfl (by decide) q; omega), bindI_some] at h1
        replace h1 := letS_inv h1
        obtain ⟨s3, c3, h1⟩ := h1
        rw [if_pos (Or.inl rfl)] at h1
        cases h1
        rw [← c3]
        exact ⟨rfl, rfl⟩
    rw [r_in_no (by omega), bindP_some, if_pos rfl] at h2
    cases h2
    rw [h1.1, h1.2]
    exact ⟨rfl, h⟩
theorem restoreL {r x1 : Int32} {z' : RS} {u : Nat} (e1 : x1.toInt = (u : Int)) (hu : u ≤ 2) : ∀ (n : Nat) (z : RS) (x : Int32) (j : Nat), x.toInt = (j : Int) → j ≤ 29 → r_restore_22L n z x1 x = some (r, z') → r = 1 ∧ FrR [48, 143] z z' ∧ z'.v 48 = 0 ∧ (∀ i, j ≤ i → i < 29 → z'.f 43 i = z.f 57 (29 * u + i)) ∧ (∀ i, i < j → z'.f 43 i = z.f 43 i) := by
  intro n
  induction n with
  | zero => intro z x j _ _ h; exact none_ne h
  | succ n ih =>
    intro z x j ex hj h
    replace h : r_restore_22 (r_restore_22L n) z x1 x = some (r, z') := h
    unfold r_restore_22 at h
    by_cases c : 29 ≤ x
    · have c' := tn_le (a := 29) (by decide) rfl c
      rw [if_pos c] at h
      replace h := letS_inv h
      obtain ⟨z2, d2, h⟩ := h
      cases h
      exact ⟨rfl, by rw [← d2]; exact FrR.rfl.sv (by decide), by rw [← d2]; rfl, fun i h1 h2 => by omega, fun i _ => by rw [← d2]; rfl⟩
    · have c' := tn_nle (a := 29) (by decide) rfl c
      rw [if_neg c] at h
      replace h := guard_inv h
      obtain ⟨_, h⟩ := h
      replace h := guard_inv h
      obtain ⟨_, h⟩ := h
      replace h := letS_inv h
      obtain ⟨z4, d4, h⟩ := h
      have m1 : (29 * x1).toInt = x1.toInt * 29 := ti_cmul (c := 29) (by decide) (by omega) (by omega)
      have m2 : ((29 * x1) + x).toInt = ((29 * u + j : Nat) : Int) := by
        rw [ti_add (by omega) (by omega)]
        omega
      rw [clamp_of_int ex, clamp_of_int m2] at d4
      have f4 : ∀ i, z4.f 43 i = if i = j then z.f 57 (29 * u + j) else z.f 43 i := fun i => by
        rw [← d4]
        exact rsf_at
      have f57 : z4.f 57 = z.f 57 := by rw [← d4]; rfl
      have a : (x + 1).toInt = ((j + 1 : Nat) : Int) := by
        rw [tn_add ex (by decide : (1 : Int32).toInt = 1) (by omega) (by omega)]
        omega
      obtain ⟨q, q0, qv, q1, q2⟩ := ih z4 (x + 1) (j + 1) a (by omega) h
      refine ⟨q, FrR.trans (t := z4) (by rw [← d4]; exact FrR.rfl.sf (by decide)) q0 (by decide), qv, fun i h1 h2 => ?_, fun i hi => ?_⟩
      · by_cases e : i = j
        · rw [q2 i (by omega), f4, if_pos e, e]
        · rw [q1 i (by omega) h2, f57]
      · rw [q2 i (by omega), f4, if_neg (by omega)]
theorem restore_same {y y' : YS} {z z' : RS} {x1 r1 r2 : Int32} (h : REL y z) (hK : InvK y.x.k) (hI : InvR z) (h1 : kX10_restore y x1 = some (r1, y')) (h2 : r_restore z x1 = some (r2, z')) : r1 = r2 ∧ REL y' z' := by
  obtain ⟨a1, ⟨a2, a3⟩, a4, a5, a6⟩ := id h
  have z0 : (0 : Int32).toInt = 0 := by decide
  have z2 : (2 : Int32).toInt = 2 := by decide
  unfold kX10_restore kX3_goOnFrom at h1
  unfold r_restore at h2
  by_cases c : 0 ≤ x1.toInt ∧ x1.toInt ≤ 2
  · obtain ⟨u, eu⟩ : ∃ u : Nat, x1.toInt = (u : Int) := ⟨x1.toInt.toNat, by omega⟩
    rw [if_neg (fun q => by have := tn_lt (b := 0) rfl (by decide) q; omega), if_neg (fun q => by have := tn_le (a := 3) (by decide) rfl q; omega), clamp_of_int eu] at h1
    rw [r_in_yes (by omega) (by omega), bindP_some, if_neg z_one, clamp_of_int eu] at h2
    replace h1 := bindI_inv h1
    obtain ⟨q, s1, u1, h1⟩ := h1
    replace u1 := guard_inv u1
    obtain ⟨_, u1⟩ := u1
    replace h2 := guard_inv h2
    obtain ⟨_, h2⟩ := h2
    replace h1 := letS_inv h1
    obtain ⟨s3, c3, h1⟩ := h1
    have hs := a5 u (by omega)
    by_cases d : z.f 56 u = 0
    · have d0 : (PS.mk y.x.g y.x.n y.r).g.f 4 u = 0 := hs.1.trans d
      rw [if_pos d0] at u1
      rw [if_pos d] at h2
      have u1' : q = 0 ∧ s1 = PS.mk y.x.g y.x.n y.r := by cases u1; exact ⟨rfl, rfl⟩
      rw [u1'.1, if_pos (Or.inl rfl)] at h1
      cases h1
      cases h2
      rw [← c3, u1'.2]
      exact ⟨rfl, h⟩
    · have d0 : ¬ (PS.mk y.x.g y.x.n y.r).g.f 4 u = 0 := fun q => d (hs.1.symm.trans q)
      rw [if_neg d0] at u1
      rw [if_neg d] at h2
      replace u1 := guard_inv u1
      obtain ⟨_, u1⟩ := u1
      replace u1 := bindP_inv u1
      obtain ⟨s6, u6, u1⟩ := u1
      replace u1 := letS_inv u1
      obtain ⟨p7, c7, u1⟩ := u1
      replace u1 := letS_inv u1
      obtain ⟨p9, c9, u1⟩ := u1
      have u1' : q = 1 ∧ s1 = p9 := by cases u1; exact ⟨rfl, rfl⟩
      rw [u1'.1, if_pos (Or.inr rfl)] at h1
      have o1 : r1 = 1 ∧ y' = s3 := by cases h1; exact ⟨rfl, rfl⟩
      obtain ⟨e1, e2⟩ := copyFrom_eq u6
      have e1 : s6.e = y.r (40 + u) := e1
      have e2 : SDq s6.d (y.r (40 + u)) := e2
      obtain ⟨er2, Fz, v48, q1, _⟩ := restoreL eu (by omega) fu z 0 0 (by decide) (by omega) h2
      have hr7 : p7.r = y.r := funext (fun i => by
        have q : p7.r i = va_up y.r (40 + u) s6.e i := by rw [← c7]; rfl
        rw [q, e1]
        by_cases e : i = 40 + u
        · rw [e, va_up_self]
        · rw [va_up_ne _ _ e])
      have e3 : s3 = YS.mk (XS.mk (y.x.g.sv 4 0) y.x.t s6.d y.x.k) y.r := by
        rw [← c3, u1'.2, ← c9]
        show YS.mk (XS.mk (p7.g.sv 4 0) _ p7.n _) p7.r = _
        rw [hr7, ← c7]
        rfl
      have o := hs.2 d
      refine ⟨by rw [o1.1, er2], ?_⟩
      rw [o1.2, e3]
      refine ⟨a1.fr (FrK.rfl (W := [])) Fz (by decide) (by decide), ⟨?_, o.2.q hK e2⟩, ⟨?_, a4.2.1, fun i hi => ?_⟩, fun s hs => ?_, a6.fr (FrK.rfl (W := [])) Fz (by decide) (by decide)⟩
      · exact (o.1.q e2).cgf (fun i hi => q1 i (by omega) hi)
      · show (0 : Int32) = z'.v 48
        rw [v48]
      · rw [v48, z0] at hi
        omega
      · show y.x.g.f 4 s = z'.f 56 s ∧ (¬ z'.f 56 s = 0 → SR (y.r (40 + s)) (fun j => z'.f 57 (29 * s + j)) ∧ FO y.x.k (y.r (40 + s)))
        rw [(Fz.2 56 (by decide)).1, (Fz.2 57 (by decide)).1]
        exact a5 s hs
  · have h1 : r1 = 0 ∧ y' = y := by
      by_cases c1 : x1 < 0
      · rw [if_pos c1, bindI_some] at h1
        replace h1 := letS_inv h1
        obtain ⟨s3, c3, h1⟩ := h1
        rw [if_pos (Or.inl rfl)] at h1
        cases h1
        rw [← c3]
        exact ⟨rfl, rfl⟩
      · have c1' := tn_nlt (b := 0) rfl (by decide) c1
        rw [if_neg c1, if_pos (Int32.le_iff_toInt_le.mpr (by rw [show (3 : Int32).toInt = 3 from by decide]; omega)), bindI_some] at h1
        replace h1 := letS_inv h1
        obtain ⟨s3, c3, h1⟩ := h1
        rw [if_pos (Or.inl rfl)] at h1
        cases h1
        rw [← c3]
        exact ⟨rfl, rfl⟩
    rw [r_in_no (by omega), bindP_some, if_pos rfl] at h2
    cases h2
    rw [h1.1, h1.2]
    exact ⟨rfl, h⟩
end
section
/-! ===== parties, how far a guess bears, the surest thing over a wave ===== -/
theorem party_same {y : YS} {x' : XS} {z z' : RS} {x1 x2 r1 r2 : Int32} (h : REL y z) (hK : InvK y.x.k) (hI : InvR z) (hB : Big z) (h1 : kX10_party y.x x1 x2 = some (r1, x')) (h2 : r_party z x1 x2 = some (r2, z')) : QSm y.x x' r1 r2 := by
  have bp : 0 ≤ (y.x.k.v 2).toInt ∧ (y.x.k.v 2).toInt ≤ 6 := hK.1 2
  have bl : 0 ≤ (z.v 18).toInt ∧ (z.v 18).toInt ≤ 1 := hI.1 18
  unfold kX10_party at h1
  unfold r_party at h2
  rw [kp_eq, bindI_some] at h1
  rw [rp_eq hI, bindI_some, ← h.1.1.2.1] at h2
  replace h1 := letS_inv h1
  obtain ⟨s3, c3, h1⟩ := h1
  have e3 : s3 = y.x := by rw [← c3]; rfl
  subst e3
  by_cases hp : 0 ≤ x1.toInt ∧ x1.toInt < (y.x.k.v 2).toInt
  · rw [if_pos hp, if_neg z_one] at h1 h2
    replace h2 := bindP_inv h2
    obtain ⟨z4, w4, h2⟩ := h2
    obtain ⟨hJ, F4⟩ := h.jr hK hI hB w4
    obtain ⟨p, ep⟩ : ∃ p : Nat, x1.toInt = (p : Int) := ⟨x1.toInt.toNat, by omega⟩
    obtain ⟨l, hl⟩ : ∃ l : Nat, (z4.v 18).toInt = (l : Int) := ⟨(z4.v 18).toInt.toNat, by rw [F4.1 18 (by decide)]; omega⟩
    have bl4 : (z4.v 18).toInt ≤ 1 := by rw [F4.1 18 (by decide)]; exact bl.2
    have m1 : (6 * (z4.v 18)).toInt = (z4.v 18).toInt * 6 := ti_cmul (c := 6) (by decide) (by omega) (by omega)
    have m2 : ((6 * (z4.v 18)) + x1).toInt = ((6 * l + p : Nat) : Int) := by
      rw [ti_add (by omega) (by omega)]
      omega
    have a15 : (15 + x1).toInt = ((15 + p : Nat) : Int) := by
      rw [tn_add (by decide : (15 : Int32).toInt = 15) ep (by omega) (by omega)]
      omega
    have a21 : (21 + x1).toInt = ((21 + p : Nat) : Int) := by
      rw [tn_add (by decide : (21 : Int32).toInt = 21) ep (by omega) (by omega)]
      omega
    have cp := clamp_of_int ep
    have hp2 := hJ.1.2.2.2.1 p (by show (p : Int) < (y.x.k.v 2).toInt; omega)
    rw [clamp_of_int hl] at hp2
    have hp3 := hJ.2.1.2.1 p (by omega)
    by_cases e0 : x2 = 0
    · rw [if_pos e0, cp] at h1
      rw [if_pos e0, clamp_of_int m2] at h2
      replace h1 := guard_inv h1
      obtain ⟨_, h1⟩ := h1
      replace h2 := guard_inv h2
      obtain ⟨_, h2⟩ := h2
      cases h1
      cases h2
      exact ⟨hp2.1, rfl, rfl⟩
    · rw [if_neg e0] at h1 h2
      by_cases e1 : x2 = 1
      · rw [if_pos e1, cp] at h1
        rw [if_pos e1, clamp_of_int m2] at h2
        replace h1 := guard_inv h1
        obtain ⟨_, h1⟩ := h1
        replace h2 := guard_inv h2
        obtain ⟨_, h2⟩ := h2
        cases h1
        cases h2
        exact ⟨hp2.2, rfl, rfl⟩
      · rw [if_neg e1] at h1 h2
        by_cases e2 : x2 = 2
        · rw [if_pos e2, cp] at h1
          rw [if_pos e2, clamp_of_int a15] at h2
          replace h1 := guard_inv h1
          obtain ⟨_, h1⟩ := h1
          replace h2 := guard_inv h2
          obtain ⟨_, h2⟩ := h2
          cases h1
          cases h2
          exact ⟨hp3.1, rfl, rfl⟩
        · rw [if_neg e2] at h1 h2
          by_cases e3 : x2 = 3
          · rw [if_pos e3, cp] at h1
            rw [if_pos e3, clamp_of_int a21] at h2
            replace h1 := guard_inv h1
            obtain ⟨_, h1⟩ := h1
            replace h2 := guard_inv h2
            obtain ⟨_, h2⟩ := h2
            cases h1
            cases h2
            exact ⟨hp3.2, rfl, rfl⟩
          · rw [if_neg e3] at h1 h2
            by_cases e4 : x2 = 4
            · rw [if_pos e4] at h1 h2
              replace h1 := bindI_inv h1
              obtain ⟨q1, s15, u15, h1⟩ := h1
              replace h1 := letS_inv h1
              obtain ⟨s17, c17, h1⟩ := h1
              replace h2 := bindI_inv h2
              obtain ⟨q2, z14, w14, h2⟩ := h2
              obtain ⟨er, kp⟩ := fare_same (s := JS.mk y.x.k y.x.n) hJ ep (by show (p : Int) < (y.x.k.v 2).toInt; omega) u15 w14
              cases h1
              cases h2
              rw [← c17]
              exact ⟨er, rfl, kp.1⟩
            · rw [if_neg e4] at h1 h2
              by_cases e5 : x2 = 5
              · rw [if_pos e5] at h1 h2
                replace h1 := bindI_inv h1
                obtain ⟨q1, s20, u20, h1⟩ := h1
                replace h1 := letS_inv h1
                obtain ⟨s22, c22, h1⟩ := h1
                replace h2 := bindI_inv h2
                obtain ⟨q2, z17, w17, h2⟩ := h2
                obtain ⟨er, kp⟩ := dare_same (s := JS.mk y.x.k y.x.n) hJ ep (by show (p : Int) < (y.x.k.v 2).toInt; omega) u20 w17
                subst er
                by_cases d : q1 = 0
                · rw [if_pos d] at h1 h2
                  cases h1
                  cases h2
                  rw [← c22]
                  exact ⟨rfl, rfl, kp.1⟩
                · rw [if_neg d] at h1 h2
                  cases h1
                  cases h2
                  rw [← c22]
                  exact ⟨rfl, rfl, kp.1⟩
              · rw [if_neg e5] at h1 h2
                cases h1
                cases h2
                exact ⟨rfl, rfl, rfl⟩
  · rw [if_neg hp, if_pos rfl] at h1 h2
    cases h1
    cases h2
    exact ⟨rfl, rfl, rfl⟩
theorem bears_same {y : YS} {x' : XS} {z z' : RS} {x1 x2 r1 r2 : Int32} (h : REL y z) (hK : InvK y.x.k) (hI : InvR z) (hB : Big z) (h1 : kX10_bears y.x x1 x2 = some (r1, x')) (h2 : r_bears z x1 x2 = some (r2, z')) : QSm y.x x' r1 r2 := by
  have bp : 0 ≤ (y.x.k.v 2).toInt ∧ (y.x.k.v 2).toInt ≤ 6 := hK.1 2
  unfold kX10_bears at h1
  unfold r_bears at h2
  rw [kp_eq, bindI_some] at h1
  rw [rp_eq hI, bindI_some, ← h.1.1.2.1] at h2
  replace h1 := letS_inv h1
  obtain ⟨s3, c3, h1⟩ := h1
  have e3 : s3 = y.x := by rw [← c3]; rfl
  subst e3
  by_cases hp : 0 ≤ x1.toInt ∧ x1.toInt < (y.x.k.v 2).toInt
  · rw [if_pos hp, if_neg z_one] at h1 h2
    rw [kg_eq, bindI_some] at h1
    rw [rg_eq hI hK h.1, bindI_some] at h2
    replace h1 := letS_inv h1
    obtain ⟨s8, c8, h1⟩ := h1
    have e8 : s8 = y.x := by rw [← c8]; rfl
    subst e8
    by_cases hg : 0 ≤ x2.toInt ∧ x2.toInt < (y.x.k.v 3).toInt
    · rw [if_pos hg, if_neg z_one] at h1 h2
      replace h1 := bindI_inv h1
      obtain ⟨q1, s11, u11, h1⟩ := h1
      replace h1 := letS_inv h1
      obtain ⟨s13, c13, h1⟩ := h1
      replace h2 := bindP_inv h2
      obtain ⟨z7, w7, h2⟩ := h2
      replace h2 := bindI_inv h2
      obtain ⟨q2, z8, w8, h2⟩ := h2
      obtain ⟨hJ, _⟩ := h.jr hK hI hB w7
      obtain ⟨p, ep⟩ : ∃ p : Nat, x1.toInt = (p : Int) := ⟨x1.toInt.toNat, by omega⟩
      obtain ⟨g, eg⟩ : ∃ g : Nat, x2.toInt = (g : Int) := ⟨x2.toInt.toNat, by omega⟩
      obtain ⟨er, kp, _⟩ := borne_same (s := JS.mk y.x.k y.x.n) hJ ep (by show (p : Int) < (y.x.k.v 2).toInt; omega) eg u11 w8
      cases h1
      cases h2
      rw [← c13]
      exact ⟨er, rfl, kp.1⟩
    · rw [if_neg hg, if_pos rfl] at h1 h2
      cases h1
      cases h2
      exact ⟨rfl, rfl, rfl⟩
  · rw [if_neg hp, if_pos rfl] at h1 h2
    cases h1
    cases h2
    exact ⟨rfl, rfl, rfl⟩
end
section
/-! ===== what the queries leave as it was ===== -/
theorem fr_kX6_copyFrom (n0 : SD) (s : DS) (h : s.e = n0) : Pt (kX6_copyFrom s) (fun y => y.e = n0) := fun y e => (copyFrom_eq e).1.trans h
theorem fr_sh_4L (g0 : GS) : ∀ (n : Nat) (s : GS) (x1 x2 : Int32), s = g0 → Pt (kX3_slotsHeld_4L n s x1 x2) (fun y => y.2 = g0) := by
  intro n
  induction n with
  | zero => intro s x1 x2 _; exact pt_none
  | succ n ih =>
    intro s x1 x2 h
    show Pt (kX3_slotsHeld_4 (kX3_slotsHeld_4L n) s x1 x2) _
    unfold kX3_slotsHeld_4 kX3_slotsHeld_24
    exact pt_ite (fun _ => pt_some h) (fun _ => pt_ite (fun _ => pt_ite (fun _ => ih _ _ _ h) (fun _ => ih _ _ _ h)) (fun _ => pt_none))
theorem fr_kX3_slotsHeld (g0 : GS) (s : GS) (h : s = g0) : Pt (kX3_slotsHeld s) (fun y => y.2 = g0) := by
  unfold kX3_slotsHeld
  exact fr_sh_4L g0 _ _ _ _ h
theorem sda_self {d : SD} {k : Nat} : d.sa k (d.f k) = d := by
  refine Prod.ext rfl (funext fun m => ?_)
  show va_up d.f k (d.f k) m = d.f m
  unfold va_up
  by_cases e : m = k
  · rw [if_pos e, e]
  · rw [if_neg e]
theorem fr_so5 (f0 : Nat → Int32) : ∀ (n : Nat) (s : Nat → Int32) (x1 x2 : Int32), s = f0 → Pt (kX10_sumOf_5_4L n s x1 x2) (fun y => y.2 = f0) := by
  intro n
  induction n with
  | zero => intro s x1 x2 _; exact pt_none
  | succ n ih =>
    intro s x1 x2 h
    show Pt (kX10_sumOf_5_4 (kX10_sumOf_5_4L n) s x1 x2) _
    unfold kX10_sumOf_5_4
    exact pt_ite (fun _ => pt_some h) (fun _ => pt_ite (fun _ => ih _ _ _ h) (fun _ => pt_none))
theorem fr_kX10_sumOf_5 (f0 s : Nat → Int32) (h : s = f0) : Pt (kX10_sumOf_5 s) (fun y => y.2 = f0) := by
  unfold kX10_sumOf_5
  exact fr_so5 f0 _ _ _ _ h
theorem fr_so6 (f0 : Nat → Int32) : ∀ (n : Nat) (s : Nat → Int32) (x1 x2 : Int32), s = f0 → Pt (kX10_sumOf_6_4L n s x1 x2) (fun y => y.2 = f0) := by
  intro n
  induction n with
  | zero => intro s x1 x2 _; exact pt_none
  | succ n ih =>
    intro s x1 x2 h
    show Pt (kX10_sumOf_6_4 (kX10_sumOf_6_4L n) s x1 x2) _
    unfold kX10_sumOf_6_4
    exact pt_ite (fun _ => pt_some h) (fun _ => pt_ite (fun _ => ih _ _ _ h) (fun _ => pt_none))
theorem fr_kX10_sumOf_6 (f0 s : Nat → Int32) (h : s = f0) : Pt (kX10_sumOf_6 s) (fun y => y.2 = f0) := by
  unfold kX10_sumOf_6
  exact fr_so6 f0 _ _ _ _ h
theorem fr_kX0_mayBe (n0 : SD) (s : JS) (x2 : Int32) (h1 : s.d = n0) : Pt (kX0_mayBe s x2) (fun y => y.2.d = n0) := by
  unfold kX0_mayBe
  exact pt_ite (fun _ => pt_ite (fun _ => pt_ite (fun _ => pt_ite (fun _ => pt_some h1) (fun _ => pt_none)) (fun _ => pt_none)) (fun _ => pt_ite (fun _ => pt_some h1) (fun _ => pt_none))) (fun _ => pt_none)

theorem fr_kX0_setParty (n0 : SD) (s : JS) (x2 : Int32) (h1 : s.d = n0) : Pt (kX0_setParty s x2) (fun y => y.d = n0) := by
  unfold kX0_setParty
  exact pt_ite (fun _ => pt_let (P := (fun s : JS => s.d = n0)) h1 (fun s2 qs2 => pt_ite (fun _ => pt_let (P := (fun s : JS => s.d = n0)) qs2 (fun s5 qs5 => pt_let (P := (fun s : JS => s.d = n0)) qs5 (fun s7 qs7 => pt_ite (fun _ => pt_let (P := (fun s : JS => s.d = n0)) qs7 (fun s10 qs10 => pt_some qs10)) (fun _ => pt_none)))) (fun _ => pt_none))) (fun _ => pt_none)

theorem fr_kX10_feed (g0 : GS) (n0 : SD) (s : XS) (x1 : Int32) (x2 : Int32) (x3 : Int32) (x4 : Int32) (x5 : Int32) (h1 : s.g = g0 ∧ s.n = n0) : Pt (kX10_feed s x1 x2 x3 x4 x5) (fun y => y.2.g = g0 ∧ y.2.n = n0) := by
  unfold kX10_feed
  exact pt_bindI (P := fun _ => True) (fun _ _ => trivial) (fun r2 s1 _ => pt_let (P := (fun s : XS => s.g = g0 ∧ s.n = n0)) ⟨h1.1, h1.2⟩ (fun s3 qs3 => pt_ite (fun _ => pt_some qs3) (fun _ => pt_bindP (P := fun _ => True) (fun _ _ => trivial) (fun s6 _ => pt_let (P := (fun s : XS => s.g = g0 ∧ s.n = n0)) ⟨qs3.1, qs3.2⟩ (fun s7 qs7 => pt_bindP (P := fun _ => True) (fun _ _ => trivial) (fun s9 _ => pt_let (P := (fun s : XS => s.g = g0 ∧ s.n = n0)) ⟨qs7.1, qs7.2⟩ (fun s10 qs10 => pt_bindP (P := fun _ => True) (fun _ _ => trivial) (fun s12 _ => pt_let (P := (fun s : XS => s.g = g0 ∧ s.n = n0)) ⟨qs10.1, qs10.2⟩ (fun s13 qs13 => pt_bindP (P := fun _ => True) (fun _ _ => trivial) (fun s15 _ => pt_let (P := (fun s : XS => s.g = g0 ∧ s.n = n0)) ⟨qs13.1, qs13.2⟩ (fun s16 qs16 => pt_bindP (P := fun _ => True) (fun _ _ => trivial) (fun s18 _ => pt_let (P := (fun s : XS => s.g = g0 ∧ s.n = n0)) ⟨qs16.1, qs16.2⟩ (fun s19 qs19 => pt_some qs19)))))))))))))

theorem fr_kX10_back (g0 : GS) (n0 : SD) (s : XS) (x1 : Int32) (h1 : s.g = g0 ∧ s.n = n0) : Pt (kX10_back s x1) (fun y => y.2.g = g0 ∧ y.2.n = n0) := by
  unfold kX10_back
  exact pt_ite (fun _ => pt_some h1) (fun _ => pt_ite (fun _ => pt_let (P := (fun s : XS => s.g = g0 ∧ s.n = n0)) h1 (fun s3 qs3 => pt_some qs3)) (fun _ => pt_some h1))

theorem fr_kX10_place (g0 : GS) (n0 : SD) (s : XS) (h1 : s.g = g0 ∧ s.n = n0) : Pt (kX10_place s) (fun y => y.2.g = g0 ∧ y.2.n = n0) := by
  unfold kX10_place
  exact pt_some h1

theorem fr_kX10_tell_43 (g0 : GS) (n0 : SD) (s : XS) (t0 : Int32) (t1 : Int32) (h1 : s.g = g0 ∧ s.n = n0) : Pt (kX10_tell_43 s t0 t1) (fun y => y.2.g = g0 ∧ y.2.n = n0) := by
  unfold kX10_tell_43
  exact pt_bindI (P := fun _ => True) (fun _ _ => trivial) (fun r2 s1 _ => pt_let (P := (fun s : XS => s.g = g0 ∧ s.n = n0)) ⟨h1.1, h1.2⟩ (fun s3 qs3 => pt_some qs3))

theorem fr_kX10_tell (g0 : GS) (n0 : SD) (s : XS) (x1 : Int32) (x2 : Int32) (x3 : Int32) (h1 : s.g = g0 ∧ s.n = n0) : Pt (kX10_tell s x1 x2 x3) (fun y => y.2.g = g0 ∧ y.2.n = n0) := by
  unfold kX10_tell
  exact pt_bindI (P := fun _ => True) (fun _ _ => trivial) (fun r2 s1 _ => pt_let (P := (fun s : XS => s.g = g0 ∧ s.n = n0)) ⟨h1.1, h1.2⟩ (fun s3 qs3 => pt_ite (fun _ => pt_some qs3) (fun _ => pt_ite (fun _ => pt_some qs3) (fun _ => pt_ite (fun _ => pt_ite (fun _ => fr_kX10_tell_43 g0 n0 s3 _ _ qs3) (fun _ => fr_kX10_tell_43 g0 n0 s3 _ _ qs3)) (fun _ => pt_some qs3)))))

theorem fr_kX10_forget (g0 : GS) (n0 : SD) (s : XS) (h1 : s.g = g0 ∧ s.n = n0) : Pt (kX10_forget s) (fun y => y.2.g = g0 ∧ y.2.n = n0) := by
  unfold kX10_forget
  exact pt_let (P := (fun s : XS => s.g = g0 ∧ s.n = n0)) h1 (fun s1 qs1 => pt_some qs1)

theorem fr_kX10_isHere (g0 : GS) (n0 : SD) (s : XS) (x1 : Int32) (h1 : s.g = g0 ∧ s.n = n0) : Pt (kX10_isHere s x1) (fun y => y.2.g = g0 ∧ y.2.n = n0) := by
  unfold kX10_isHere
  exact pt_bindI (P := fun _ => True) (fun _ _ => trivial) (fun r2 s1 _ => pt_let (P := (fun s : XS => s.g = g0 ∧ s.n = n0)) ⟨h1.1, h1.2⟩ (fun s3 qs3 => pt_ite (fun _ => pt_some qs3) (fun _ => pt_ite (fun _ => pt_ite (fun _ => pt_some qs3) (fun _ => pt_some qs3)) (fun _ => pt_none))))

theorem fr_kX10_partiesThatAre_35 (g0 : GS) (n0 : SD) (k5 : XS → Int32 → Int32 → Int32 → Option (Int32 × XS)) (hk5 : ∀ (a0 : XS) (a1 : Int32) (a2 : Int32) (a3 : Int32), a0.g = g0 ∧ a0.n = n0 → Pt (k5 a0 a1 a2 a3) (fun y => y.2.g = g0 ∧ y.2.n = n0)) (s : XS) (x2 : Int32) (x3 : Int32) (x4 : Int32) (h1 : s.g = g0 ∧ s.n = n0) : Pt (kX10_partiesThatAre_35 k5 s x2 x3 x4) (fun y => y.2.g = g0 ∧ y.2.n = n0) := by
  unfold kX10_partiesThatAre_35
  exact hk5 _ _ _ _ h1

theorem fr_kX10_partiesThatAre_5 (g0 : GS) (n0 : SD) (k5 : XS → Int32 → Int32 → Int32 → Option (Int32 × XS)) (hk5 : ∀ (a0 : XS) (a1 : Int32) (a2 : Int32) (a3 : Int32), a0.g = g0 ∧ a0.n = n0 → Pt (k5 a0 a1 a2 a3) (fun y => y.2.g = g0 ∧ y.2.n = n0)) (s : XS) (x2 : Int32) (x3 : Int32) (x4 : Int32) (h1 : s.g = g0 ∧ s.n = n0) : Pt (kX10_partiesThatAre_5 k5 s x2 x3 x4) (fun y => y.2.g = g0 ∧ y.2.n = n0) := by
  unfold kX10_partiesThatAre_5
  exact pt_ite (fun _ => pt_some h1) (fun _ => pt_ite (fun _ => pt_ite (fun _ => fr_kX10_partiesThatAre_35 g0 n0 _ hk5 s _ _ _ h1) (fun _ => fr_kX10_partiesThatAre_35 g0 n0 _ hk5 s _ _ _ h1)) (fun _ => pt_none))

theorem fr_kX10_partiesThatAre_5L (g0 : GS) (n0 : SD) : ∀ (n : Nat) (s : XS) (x1 : Int32) (x2 : Int32) (x3 : Int32), s.g = g0 ∧ s.n = n0 → Pt (kX10_partiesThatAre_5L n s x1 x2 x3) (fun y => y.2.g = g0 ∧ y.2.n = n0) := by
  intro n
  induction n with
  | zero => intro _ _ _ _ _; exact pt_none
  | succ n ih =>
    intro s x1 x2 x3 h1
    exact fr_kX10_partiesThatAre_5 g0 n0 (kX10_partiesThatAre_5L n) ih s x1 x2 x3 h1

theorem fr_kX10_partiesThatAre (g0 : GS) (n0 : SD) (s : XS) (x2 : Int32) (h1 : s.g = g0 ∧ s.n = n0) : Pt (kX10_partiesThatAre s x2) (fun y => y.2.g = g0 ∧ y.2.n = n0) := by
  unfold kX10_partiesThatAre
  exact fr_kX10_partiesThatAre_5L g0 n0 _ s _ _ _ h1

theorem fr_kX10_partiesThatAre_t_35 (g0 : GS) (n0 : SD) (k5 : XS → Int32 → Int32 → Int32 → Option (Int32 × XS)) (hk5 : ∀ (a0 : XS) (a1 : Int32) (a2 : Int32) (a3 : Int32), a0.g = g0 ∧ a0.n = n0 → Pt (k5 a0 a1 a2 a3) (fun y => y.2.g = g0 ∧ y.2.n = n0)) (s : XS) (x2 : Int32) (x3 : Int32) (x4 : Int32) (h1 : s.g = g0 ∧ s.n = n0) : Pt (kX10_partiesThatAre_t_35 k5 s x2 x3 x4) (fun y => y.2.g = g0 ∧ y.2.n = n0) := by
  unfold kX10_partiesThatAre_t_35
  exact hk5 _ _ _ _ h1

theorem fr_kX10_partiesThatAre_t_5 (g0 : GS) (n0 : SD) (k5 : XS → Int32 → Int32 → Int32 → Option (Int32 × XS)) (hk5 : ∀ (a0 : XS) (a1 : Int32) (a2 : Int32) (a3 : Int32), a0.g = g0 ∧ a0.n = n0 → Pt (k5 a0 a1 a2 a3) (fun y => y.2.g = g0 ∧ y.2.n = n0)) (s : XS) (x2 : Int32) (x3 : Int32) (x4 : Int32) (h1 : s.g = g0 ∧ s.n = n0) : Pt (kX10_partiesThatAre_t_5 k5 s x2 x3 x4) (fun y => y.2.g = g0 ∧ y.2.n = n0) := by
  unfold kX10_partiesThatAre_t_5
  exact pt_ite (fun _ => pt_some h1) (fun _ => pt_ite (fun _ => pt_ite (fun _ => fr_kX10_partiesThatAre_t_35 g0 n0 _ hk5 s _ _ _ h1) (fun _ => fr_kX10_partiesThatAre_t_35 g0 n0 _ hk5 s _ _ _ h1)) (fun _ => pt_none))

theorem fr_kX10_partiesThatAre_t_5L (g0 : GS) (n0 : SD) : ∀ (n : Nat) (s : XS) (x1 : Int32) (x2 : Int32) (x3 : Int32), s.g = g0 ∧ s.n = n0 → Pt (kX10_partiesThatAre_t_5L n s x1 x2 x3) (fun y => y.2.g = g0 ∧ y.2.n = n0) := by
  intro n
  induction n with
  | zero => intro _ _ _ _ _; exact pt_none
  | succ n ih =>
    intro s x1 x2 x3 h1
    exact fr_kX10_partiesThatAre_t_5 g0 n0 (kX10_partiesThatAre_t_5L n) ih s x1 x2 x3 h1

theorem fr_kX10_partiesThatAre_t (g0 : GS) (n0 : SD) (s : XS) (x2 : Int32) (h1 : s.g = g0 ∧ s.n = n0) : Pt (kX10_partiesThatAre_t s x2) (fun y => y.2.g = g0 ∧ y.2.n = n0) := by
  unfold kX10_partiesThatAre_t
  exact fr_kX10_partiesThatAre_t_5L g0 n0 _ s _ _ _ h1

theorem fr_kX10_wavesFound_34 (g0 : GS) (n0 : SD) (k4 : XS → Int32 → Int32 → Option (Int32 × XS)) (hk4 : ∀ (a0 : XS) (a1 : Int32) (a2 : Int32), a0.g = g0 ∧ a0.n = n0 → Pt (k4 a0 a1 a2) (fun y => y.2.g = g0 ∧ y.2.n = n0)) (s : XS) (x1 : Int32) (x2 : Int32) (h1 : s.g = g0 ∧ s.n = n0) : Pt (kX10_wavesFound_34 k4 s x1 x2) (fun y => y.2.g = g0 ∧ y.2.n = n0) := by
  unfold kX10_wavesFound_34
  exact hk4 _ _ _ h1

theorem fr_kX10_wavesFound_4 (g0 : GS) (n0 : SD) (k4 : XS → Int32 → Int32 → Option (Int32 × XS)) (hk4 : ∀ (a0 : XS) (a1 : Int32) (a2 : Int32), a0.g = g0 ∧ a0.n = n0 → Pt (k4 a0 a1 a2) (fun y => y.2.g = g0 ∧ y.2.n = n0)) (s : XS) (x1 : Int32) (x2 : Int32) (h1 : s.g = g0 ∧ s.n = n0) : Pt (kX10_wavesFound_4 k4 s x1 x2) (fun y => y.2.g = g0 ∧ y.2.n = n0) := by
  unfold kX10_wavesFound_4
  exact pt_ite (fun _ => pt_some h1) (fun _ => pt_ite (fun _ => pt_ite (fun _ => fr_kX10_wavesFound_34 g0 n0 _ hk4 s _ _ h1) (fun _ => fr_kX10_wavesFound_34 g0 n0 _ hk4 s _ _ h1)) (fun _ => pt_none))

theorem fr_kX10_wavesFound_4L (g0 : GS) (n0 : SD) : ∀ (n : Nat) (s : XS) (x1 : Int32) (x2 : Int32), s.g = g0 ∧ s.n = n0 → Pt (kX10_wavesFound_4L n s x1 x2) (fun y => y.2.g = g0 ∧ y.2.n = n0) := by
  intro n
  induction n with
  | zero => intro _ _ _ _; exact pt_none
  | succ n ih =>
    intro s x1 x2 h1
    exact fr_kX10_wavesFound_4 g0 n0 (kX10_wavesFound_4L n) ih s x1 x2 h1

theorem fr_kX10_wavesFound (g0 : GS) (n0 : SD) (s : XS) (h1 : s.g = g0 ∧ s.n = n0) : Pt (kX10_wavesFound s) (fun y => y.2.g = g0 ∧ y.2.n = n0) := by
  unfold kX10_wavesFound
  exact fr_kX10_wavesFound_4L g0 n0 _ s _ _ h1

theorem fr_kX10_wavesWithNothing_36 (g0 : GS) (n0 : SD) (k4 : XS → Int32 → Int32 → Option (Int32 × XS)) (hk4 : ∀ (a0 : XS) (a1 : Int32) (a2 : Int32), a0.g = g0 ∧ a0.n = n0 → Pt (k4 a0 a1 a2) (fun y => y.2.g = g0 ∧ y.2.n = n0)) (s : XS) (x1 : Int32) (x2 : Int32) (h1 : s.g = g0 ∧ s.n = n0) : Pt (kX10_wavesWithNothing_36 k4 s x1 x2) (fun y => y.2.g = g0 ∧ y.2.n = n0) := by
  unfold kX10_wavesWithNothing_36
  exact hk4 _ _ _ h1

theorem fr_kX10_wavesWithNothing_4 (g0 : GS) (n0 : SD) (k4 : XS → Int32 → Int32 → Option (Int32 × XS)) (hk4 : ∀ (a0 : XS) (a1 : Int32) (a2 : Int32), a0.g = g0 ∧ a0.n = n0 → Pt (k4 a0 a1 a2) (fun y => y.2.g = g0 ∧ y.2.n = n0)) (s : XS) (x1 : Int32) (x2 : Int32) (h1 : s.g = g0 ∧ s.n = n0) : Pt (kX10_wavesWithNothing_4 k4 s x1 x2) (fun y => y.2.g = g0 ∧ y.2.n = n0) := by
  unfold kX10_wavesWithNothing_4
  exact pt_ite (fun _ => pt_some h1) (fun _ => pt_bindI (P := (fun y => y.2.d = n0)) (fr_kX0_mayBe n0 (JS.mk s.k s.n) _ h1.2) (fun r3 s2 qs2 => pt_let (P := (fun s : XS => s.g = g0 ∧ s.n = n0)) ⟨h1.1, qs2⟩ (fun s4 qs4 => pt_ite (fun _ => fr_kX10_wavesWithNothing_36 g0 n0 _ hk4 s4 _ _ qs4) (fun _ => fr_kX10_wavesWithNothing_36 g0 n0 _ hk4 s4 _ _ qs4))))

theorem fr_kX10_wavesWithNothing_4L (g0 : GS) (n0 : SD) : ∀ (n : Nat) (s : XS) (x1 : Int32) (x2 : Int32), s.g = g0 ∧ s.n = n0 → Pt (kX10_wavesWithNothing_4L n s x1 x2) (fun y => y.2.g = g0 ∧ y.2.n = n0) := by
  intro n
  induction n with
  | zero => intro _ _ _ _; exact pt_none
  | succ n ih =>
    intro s x1 x2 h1
    exact fr_kX10_wavesWithNothing_4 g0 n0 (kX10_wavesWithNothing_4L n) ih s x1 x2 h1

theorem fr_kX10_wavesWithNothing (g0 : GS) (n0 : SD) (s : XS) (h1 : s.g = g0 ∧ s.n = n0) : Pt (kX10_wavesWithNothing s) (fun y => y.2.g = g0 ∧ y.2.n = n0) := by
  unfold kX10_wavesWithNothing
  exact fr_kX10_wavesWithNothing_4L g0 n0 _ s _ _ h1

theorem fr_kX0_clearVars (n0 : SD) (s : JS) (h1 : s.d = n0) : Pt (kX0_clearVars s) (fun y => y.d = n0) := by
  unfold kX0_clearVars
  exact pt_bindP (P := fun _ => True) (fun _ _ => trivial) (fun s1 _ => pt_let (P := (fun s : JS => s.d = n0)) h1 (fun s2 qs2 => pt_let (P := (fun s : JS => s.d = n0)) qs2 (fun s4 qs4 => pt_some qs4)))

theorem fr_kX0_setWave (n0 : SD) (s : JS) (x2 : Int32) (h1 : s.d = n0) : Pt (kX0_setWave s x2) (fun y => y.d = n0) := by
  unfold kX0_setWave
  exact pt_let (P := (fun s : JS => s.d = n0)) h1 (fun s1 qs1 => pt_bindI (P := (fun y => y.2.d = n0)) (fr_kX0_mayBe n0 s1 _ qs1) (fun r4 s3 qs3 => pt_bindP (P := fun _ => True) (fun _ _ => trivial) (fun r5 _ => pt_let (P := (fun s : JS => s.d = n0)) qs3 (fun s6 qs6 => pt_ite (fun _ => pt_bindP (P := fun _ => True) (fun _ _ => trivial) (fun r9 _ => pt_let (P := (fun s : JS => s.d = n0)) qs6 (fun s10 qs10 => pt_some qs10))) (fun _ => pt_none)))))

theorem fr_kX2_mayCount (n0 : SD) (s : JS) (x2 : Int32) (h1 : s.d = n0) : Pt (kX2_mayCount s x2) (fun y => y.2.d = n0) := by
  unfold kX2_mayCount
  exact pt_bindI (P := (fun y => y.2.d = n0)) (fr_kX0_mayBe n0 s _ h1) (fun r2 s1 qs1 => pt_bindP (P := fun _ => True) (fun _ _ => trivial) (fun r3 _ => pt_some qs1))

theorem fr_kX2_caseCount_4 (n0 : SD) (k4 : JS → Int32 → Int32 → Option (Int32 × JS)) (hk4 : ∀ (a0 : JS) (a1 : Int32) (a2 : Int32), a0.d = n0 → Pt (k4 a0 a1 a2) (fun y => y.2.d = n0)) (s : JS) (x2 : Int32) (x3 : Int32) (h1 : s.d = n0) : Pt (kX2_caseCount_4 k4 s x2 x3) (fun y => y.2.d = n0) := by
  unfold kX2_caseCount_4
  exact pt_ite (fun _ => pt_some h1) (fun _ => pt_bindI (P := (fun y => y.2.d = n0)) (fr_kX2_mayCount n0 s _ h1) (fun r3 s2 qs2 => hk4 _ _ _ qs2))

theorem fr_kX2_caseCount_4L (n0 : SD) : ∀ (n : Nat) (s : JS) (x1 : Int32) (x2 : Int32), s.d = n0 → Pt (kX2_caseCount_4L n s x1 x2) (fun y => y.2.d = n0) := by
  intro n
  induction n with
  | zero => intro _ _ _ _; exact pt_none
  | succ n ih =>
    intro s x1 x2 h1
    exact fr_kX2_caseCount_4 n0 (kX2_caseCount_4L n) ih s x1 x2 h1

theorem fr_kX2_caseCount (n0 : SD) (s : JS) (h1 : s.d = n0) : Pt (kX2_caseCount s) (fun y => y.2.d = n0) := by
  unfold kX2_caseCount
  exact fr_kX2_caseCount_4L n0 _ s _ _ h1

theorem fr_kX2_oddsIfMay (n0 : SD) (s : JS) (x2 : Int32) (x3 : Int32) (h1 : s.d = n0) : Pt (kX2_oddsIfMay s x2 x3) (fun y => y.2.d = n0) := by
  unfold kX2_oddsIfMay
  exact pt_bindI (P := (fun y => y.2.d = n0)) (fr_kX0_mayBe n0 s _ h1) (fun r2 s1 qs1 => pt_bindP (P := fun _ => True) (fun _ _ => trivial) (fun r3 _ => pt_ite (fun _ => pt_some qs1) (fun _ => pt_bindI (P := fun _ => True) (fun _ _ => trivial) (fun r6 s5 _ => pt_let (P := (fun s : JS => s.d = n0)) qs1 (fun s7 qs7 => pt_some qs7)))))

theorem fr_kX2_oddsOf_5 (n0 : SD) (k5 : JS → Int32 → Int32 → Int32 → Option (Int32 × JS)) (hk5 : ∀ (a0 : JS) (a1 : Int32) (a2 : Int32) (a3 : Int32), a0.d = n0 → Pt (k5 a0 a1 a2 a3) (fun y => y.2.d = n0)) (s : JS) (x2 : Int32) (x3 : Int32) (x4 : Int32) (h1 : s.d = n0) : Pt (kX2_oddsOf_5 k5 s x2 x3 x4) (fun y => y.2.d = n0) := by
  unfold kX2_oddsOf_5
  exact pt_ite (fun _ => pt_some h1) (fun _ => pt_bindP (P := fun _ => True) (fun _ _ => trivial) (fun r2 _ => pt_bindI (P := (fun y => y.2.d = n0)) (fr_kX2_oddsIfMay n0 s _ _ h1) (fun r4 s3 qs3 => hk5 _ _ _ _ qs3)))

theorem fr_kX2_oddsOf_5L (n0 : SD) : ∀ (n : Nat) (s : JS) (x1 : Int32) (x2 : Int32) (x3 : Int32), s.d = n0 → Pt (kX2_oddsOf_5L n s x1 x2 x3) (fun y => y.2.d = n0) := by
  intro n
  induction n with
  | zero => intro _ _ _ _ _; exact pt_none
  | succ n ih =>
    intro s x1 x2 x3 h1
    exact fr_kX2_oddsOf_5 n0 (kX2_oddsOf_5L n) ih s x1 x2 x3 h1

theorem fr_kX2_oddsOf (n0 : SD) (s : JS) (x2 : Int32) (h1 : s.d = n0) : Pt (kX2_oddsOf s x2) (fun y => y.2.d = n0) := by
  unfold kX2_oddsOf
  exact fr_kX2_oddsOf_5L n0 _ s _ _ _ h1

theorem fr_kX2_goesAtMost_4 (n0 : SD) (k4 : JS → Int32 → Int32 → Option (Int32 × JS)) (hk4 : ∀ (a0 : JS) (a1 : Int32) (a2 : Int32), a0.d = n0 → Pt (k4 a0 a1 a2) (fun y => y.2.d = n0)) (s : JS) (x2 : Int32) (x3 : Int32) (h1 : s.d = n0) : Pt (kX2_goesAtMost_4 k4 s x2 x3) (fun y => y.2.d = n0) := by
  unfold kX2_goesAtMost_4
  exact pt_ite (fun _ => pt_some h1) (fun _ => pt_bindI (P := (fun y => y.2.d = n0)) (fr_kX2_mayCount n0 s _ h1) (fun r3 s2 qs2 => hk4 _ _ _ qs2))

theorem fr_kX2_goesAtMost_4L (n0 : SD) : ∀ (n : Nat) (s : JS) (x1 : Int32) (x2 : Int32), s.d = n0 → Pt (kX2_goesAtMost_4L n s x1 x2) (fun y => y.2.d = n0) := by
  intro n
  induction n with
  | zero => intro _ _ _ _; exact pt_none
  | succ n ih =>
    intro s x1 x2 h1
    exact fr_kX2_goesAtMost_4 n0 (kX2_goesAtMost_4L n) ih s x1 x2 h1

theorem fr_kX2_goesAtMost (n0 : SD) (s : JS) (h1 : s.d = n0) : Pt (kX2_goesAtMost s) (fun y => y.2.d = n0) := by
  unfold kX2_goesAtMost
  exact fr_kX2_goesAtMost_4L n0 _ s _ _ h1

theorem fr_kX2_leftBehind_73 (n0 : SD) (k16 : JS → Int32 → Int32 → Int32 → Int32 → Option (Int32 × JS)) (hk16 : ∀ (a0 : JS) (a1 : Int32) (a2 : Int32) (a3 : Int32) (a4 : Int32), a0.d = n0 → Pt (k16 a0 a1 a2 a3 a4) (fun y => y.2.d = n0)) (s : JS) (x2 : Int32) (x3 : Int32) (x4 : Int32) (x5 : Int32) (x6 : Int32) (h1 : s.d = n0) : Pt (kX2_leftBehind_73 k16 s x2 x3 x4 x5 x6) (fun y => y.2.d = n0) := by
  unfold kX2_leftBehind_73
  exact hk16 _ _ _ _ _ h1

theorem fr_kX2_leftBehind_16 (n0 : SD) (k16 : JS → Int32 → Int32 → Int32 → Int32 → Option (Int32 × JS)) (hk16 : ∀ (a0 : JS) (a1 : Int32) (a2 : Int32) (a3 : Int32) (a4 : Int32), a0.d = n0 → Pt (k16 a0 a1 a2 a3 a4) (fun y => y.2.d = n0)) (s : JS) (x2 : Int32) (x3 : Int32) (x4 : Int32) (x5 : Int32) (h1 : s.d = n0) : Pt (kX2_leftBehind_16 k16 s x2 x3 x4 x5) (fun y => y.2.d = n0) := by
  unfold kX2_leftBehind_16
  exact pt_ite (fun _ => pt_some h1) (fun _ => pt_bindI (P := (fun y => y.2.d = n0)) (fr_kX2_mayCount n0 s _ h1) (fun r3 s2 qs2 => pt_bindI (P := (fun y => y.2.d = n0)) (fr_kX0_mayBe n0 s2 _ qs2) (fun r5 s4 qs4 => pt_bindP (P := fun _ => True) (fun _ _ => trivial) (fun r6 _ => pt_bindP (P := fun _ => True) (fun _ _ => trivial) (fun r7 _ => pt_ite (fun _ => fr_kX2_leftBehind_73 n0 _ hk16 s4 _ _ _ _ _ qs4) (fun _ => fr_kX2_leftBehind_73 n0 _ hk16 s4 _ _ _ _ _ qs4))))))

theorem fr_kX2_leftBehind_16L (n0 : SD) : ∀ (n : Nat) (s : JS) (x1 : Int32) (x2 : Int32) (x3 : Int32) (x4 : Int32), s.d = n0 → Pt (kX2_leftBehind_16L n s x1 x2 x3 x4) (fun y => y.2.d = n0) := by
  intro n
  induction n with
  | zero => intro _ _ _ _ _ _; exact pt_none
  | succ n ih =>
    intro s x1 x2 x3 x4 h1
    exact fr_kX2_leftBehind_16 n0 (kX2_leftBehind_16L n) ih s x1 x2 x3 x4 h1

theorem fr_kX2_leftBehind (n0 : SD) (s : JS) (x2 : Int32) (h1 : s.d = n0) : Pt (kX2_leftBehind s x2) (fun y => y.2.d = n0) := by
  unfold kX2_leftBehind
  exact fr_kX2_leftBehind_16L n0 _ s _ _ _ _ h1

theorem fr_kX2_wisestGuess_7 (n0 : SD) (k7 : JS → Int32 → Int32 → Int32 → Option (Int32 × JS)) (hk7 : ∀ (a0 : JS) (a1 : Int32) (a2 : Int32) (a3 : Int32), a0.d = n0 → Pt (k7 a0 a1 a2 a3) (fun y => y.2.d = n0)) (s : JS) (x2 : Int32) (x3 : Int32) (x4 : Int32) (h1 : s.d = n0) : Pt (kX2_wisestGuess_7 k7 s x2 x3 x4) (fun y => y.2.d = n0) := by
  unfold kX2_wisestGuess_7
  exact pt_ite (fun _ => pt_some h1) (fun _ => pt_bindI (P := (fun y => y.2.d = n0)) (fr_kX0_mayBe n0 s _ h1) (fun r3 s2 qs2 => pt_bindP (P := fun _ => True) (fun _ _ => trivial) (fun r4 _ => pt_bindI (P := (fun y => y.2.d = n0)) (fr_kX2_mayCount n0 s2 _ qs2) (fun r6 s5 qs5 => pt_ite (fun _ => hk7 _ _ _ _ qs5) (fun _ => pt_some qs5)))))

theorem fr_kX2_wisestGuess_7L (n0 : SD) : ∀ (n : Nat) (s : JS) (x1 : Int32) (x2 : Int32) (x3 : Int32), s.d = n0 → Pt (kX2_wisestGuess_7L n s x1 x2 x3) (fun y => y.2.d = n0) := by
  intro n
  induction n with
  | zero => intro _ _ _ _ _; exact pt_none
  | succ n ih =>
    intro s x1 x2 x3 h1
    exact fr_kX2_wisestGuess_7 n0 (kX2_wisestGuess_7L n) ih s x1 x2 x3 h1

theorem fr_kX2_wisestGuess (n0 : SD) (s : JS) (h1 : s.d = n0) : Pt (kX2_wisestGuess s) (fun y => y.2.d = n0) := by
  unfold kX2_wisestGuess
  exact fr_kX2_wisestGuess_7L n0 _ s _ _ _ h1
end
section
/-! ===== what the queries leave as it was ===== -/
theorem fr_kX2_oddsApart_47 (n0 : SD) (k9 : JS → Int32 → Int32 → Int32 → Int32 → Option (Int32 × JS)) (hk9 : ∀ (a0 : JS) (a1 : Int32) (a2 : Int32) (a3 : Int32) (a4 : Int32), a0.d = n0 → Pt (k9 a0 a1 a2 a3 a4) (fun y => y.2.d = n0)) (s : JS) (x2 : Int32) (x3 : Int32) (x4 : Int32) (x5 : Int32) (h1 : s.d = n0) : Pt (kX2_oddsApart_47 k9 s x2 x3 x4 x5) (fun y => y.2.d = n0) := by
  unfold kX2_oddsApart_47
  exact hk9 _ _ _ _ _ h1

theorem fr_kX2_oddsApart_9 (n0 : SD) (k9 : JS → Int32 → Int32 → Int32 → Int32 → Option (Int32 × JS)) (hk9 : ∀ (a0 : JS) (a1 : Int32) (a2 : Int32) (a3 : Int32) (a4 : Int32), a0.d = n0 → Pt (k9 a0 a1 a2 a3 a4) (fun y => y.2.d = n0)) (s : JS) (x2 : Int32) (x3 : Int32) (x4 : Int32) (x5 : Int32) (h1 : s.d = n0) : Pt (kX2_oddsApart_9 k9 s x2 x3 x4 x5) (fun y => y.2.d = n0) := by
  unfold kX2_oddsApart_9
  exact pt_ite (fun _ => pt_some h1) (fun _ => pt_bindI (P := (fun y => y.2.d = n0)) (fr_kX2_oddsIfMay n0 s _ _ h1) (fun r3 s2 qs2 => pt_ite (fun _ => fr_kX2_oddsApart_47 n0 _ hk9 s2 _ _ _ _ qs2) (fun _ => fr_kX2_oddsApart_47 n0 _ hk9 s2 _ _ _ _ qs2)))

theorem fr_kX2_oddsApart_9L (n0 : SD) : ∀ (n : Nat) (s : JS) (x1 : Int32) (x2 : Int32) (x3 : Int32) (x4 : Int32), s.d = n0 → Pt (kX2_oddsApart_9L n s x1 x2 x3 x4) (fun y => y.2.d = n0) := by
  intro n
  induction n with
  | zero => intro _ _ _ _ _ _; exact pt_none
  | succ n ih =>
    intro s x1 x2 x3 x4 h1
    exact fr_kX2_oddsApart_9 n0 (kX2_oddsApart_9L n) ih s x1 x2 x3 x4 h1

theorem fr_kX2_oddsApart (n0 : SD) (s : JS) (x2 : Int32) (h1 : s.d = n0) : Pt (kX2_oddsApart s x2) (fun y => y.2.d = n0) := by
  unfold kX2_oddsApart
  exact fr_kX2_oddsApart_9L n0 _ s _ _ _ _ h1

theorem fr_kX2_fillRow_near_39 (n0 : SD) (k10 : JS → Int32 → Int32 → Int32 → Option (Int32 × JS)) (k20 : JS → Int32 → Int32 → Int32 → Int32 → Option (Int32 × JS)) (k39 : JS → Int32 → Int32 → Int32 → Int32 → Int32 → Int32 → Option (Int32 × JS)) (hk10 : ∀ (a0 : JS) (a1 : Int32) (a2 : Int32) (a3 : Int32), a0.d = n0 → Pt (k10 a0 a1 a2 a3) (fun y => y.2.d = n0)) (hk20 : ∀ (a0 : JS) (a1 : Int32) (a2 : Int32) (a3 : Int32) (a4 : Int32), a0.d = n0 → Pt (k20 a0 a1 a2 a3 a4) (fun y => y.2.d = n0)) (hk39 : ∀ (a0 : JS) (a1 : Int32) (a2 : Int32) (a3 : Int32) (a4 : Int32) (a5 : Int32) (a6 : Int32), a0.d = n0 → Pt (k39 a0 a1 a2 a3 a4 a5 a6) (fun y => y.2.d = n0)) (s : JS) (x4 : Int32) (x5 : Int32) (x6 : Int32) (x7 : Int32) (x8 : Int32) (x9 : Int32) (h1 : s.d = n0) : Pt (kX2_fillRow_near_39 k10 k20 k39 s x4 x5 x6 x7 x8 x9) (fun y => y.2.d = n0) := by
  unfold kX2_fillRow_near_39
  exact pt_ite (fun _ => hk20 _ _ _ _ _ h1) (fun _ => pt_ite (fun _ => pt_ite (fun _ => pt_let (P := (fun s : JS => s.d = n0)) h1 (fun s4 qs4 => hk39 _ _ _ _ _ _ _ qs4)) (fun _ => pt_none)) (fun _ => pt_none))

theorem fr_kX2_fillRow_near_39L (n0 : SD) (k10 : JS → Int32 → Int32 → Int32 → Option (Int32 × JS)) (k20 : JS → Int32 → Int32 → Int32 → Int32 → Option (Int32 × JS)) (hk10 : ∀ (a0 : JS) (a1 : Int32) (a2 : Int32) (a3 : Int32), a0.d = n0 → Pt (k10 a0 a1 a2 a3) (fun y => y.2.d = n0)) (hk20 : ∀ (a0 : JS) (a1 : Int32) (a2 : Int32) (a3 : Int32) (a4 : Int32), a0.d = n0 → Pt (k20 a0 a1 a2 a3 a4) (fun y => y.2.d = n0)) : ∀ (n : Nat) (s : JS) (x1 : Int32) (x2 : Int32) (x3 : Int32) (x4 : Int32) (x5 : Int32) (x6 : Int32), s.d = n0 → Pt (kX2_fillRow_near_39L k10 k20 n s x1 x2 x3 x4 x5 x6) (fun y => y.2.d = n0) := by
  intro n
  induction n with
  | zero => intro _ _ _ _ _ _ _ _; exact pt_none
  | succ n ih =>
    intro s x1 x2 x3 x4 x5 x6 h1
    exact fr_kX2_fillRow_near_39 n0 k10 k20 (kX2_fillRow_near_39L k10 k20 n) hk10 hk20 ih s x1 x2 x3 x4 x5 x6 h1

theorem fr_kX2_fillRow_near_20 (n0 : SD) (k10 : JS → Int32 → Int32 → Int32 → Option (Int32 × JS)) (k20 : JS → Int32 → Int32 → Int32 → Int32 → Option (Int32 × JS)) (hk10 : ∀ (a0 : JS) (a1 : Int32) (a2 : Int32) (a3 : Int32), a0.d = n0 → Pt (k10 a0 a1 a2 a3) (fun y => y.2.d = n0)) (hk20 : ∀ (a0 : JS) (a1 : Int32) (a2 : Int32) (a3 : Int32) (a4 : Int32), a0.d = n0 → Pt (k20 a0 a1 a2 a3 a4) (fun y => y.2.d = n0)) (s : JS) (x4 : Int32) (x5 : Int32) (x6 : Int32) (x7 : Int32) (h1 : s.d = n0) : Pt (kX2_fillRow_near_20 k10 k20 s x4 x5 x6 x7) (fun y => y.2.d = n0) := by
  unfold kX2_fillRow_near_20
  exact pt_ite (fun _ => hk10 _ _ _ _ h1) (fun _ => pt_bindI (P := (fun y => y.2.d = n0)) (fr_kX2_oddsIfMay n0 s _ _ h1) (fun r3 s2 qs2 => fr_kX2_fillRow_near_39L n0 _ _ hk10 hk20 _ s2 _ _ _ _ _ _ qs2))

theorem fr_kX2_fillRow_near_20L (n0 : SD) (k10 : JS → Int32 → Int32 → Int32 → Option (Int32 × JS)) (hk10 : ∀ (a0 : JS) (a1 : Int32) (a2 : Int32) (a3 : Int32), a0.d = n0 → Pt (k10 a0 a1 a2 a3) (fun y => y.2.d = n0)) : ∀ (n : Nat) (s : JS) (x1 : Int32) (x2 : Int32) (x3 : Int32) (x4 : Int32), s.d = n0 → Pt (kX2_fillRow_near_20L k10 n s x1 x2 x3 x4) (fun y => y.2.d = n0) := by
  intro n
  induction n with
  | zero => intro _ _ _ _ _ _; exact pt_none
  | succ n ih =>
    intro s x1 x2 x3 x4 h1
    exact fr_kX2_fillRow_near_20 n0 k10 (kX2_fillRow_near_20L k10 n) hk10 ih s x1 x2 x3 x4 h1

theorem fr_kX2_fillRow_near_10 (n0 : SD) (k10 : JS → Int32 → Int32 → Int32 → Option (Int32 × JS)) (hk10 : ∀ (a0 : JS) (a1 : Int32) (a2 : Int32) (a3 : Int32), a0.d = n0 → Pt (k10 a0 a1 a2 a3) (fun y => y.2.d = n0)) (s : JS) (x4 : Int32) (x5 : Int32) (x6 : Int32) (h1 : s.d = n0) : Pt (kX2_fillRow_near_10 k10 s x4 x5 x6) (fun y => y.2.d = n0) := by
  unfold kX2_fillRow_near_10
  exact pt_ite (fun _ => pt_some h1) (fun _ => fr_kX2_fillRow_near_20L n0 _ hk10 _ s _ _ _ _ h1)

theorem fr_kX2_fillRow_near_10L (n0 : SD) : ∀ (n : Nat) (s : JS) (x1 : Int32) (x2 : Int32) (x3 : Int32), s.d = n0 → Pt (kX2_fillRow_near_10L n s x1 x2 x3) (fun y => y.2.d = n0) := by
  intro n
  induction n with
  | zero => intro _ _ _ _ _; exact pt_none
  | succ n ih =>
    intro s x1 x2 x3 h1
    exact fr_kX2_fillRow_near_10 n0 (kX2_fillRow_near_10L n) ih s x1 x2 x3 h1

theorem fr_kX2_fillRow_near (n0 : SD) (s : JS) (x3 : Int32) (x4 : Int32) (h1 : s.d = n0) : Pt (kX2_fillRow_near s x3 x4) (fun y => y.2.d = n0) := by
  unfold kX2_fillRow_near
  exact pt_let (P := (fun s : JS => s.d = n0)) h1 (fun s1 qs1 => fr_kX2_fillRow_near_10L n0 _ s1 _ _ _ qs1)

theorem fr_kX2_fillRow_far_39 (n0 : SD) (k10 : JS → Int32 → Int32 → Int32 → Option (Int32 × JS)) (k20 : JS → Int32 → Int32 → Int32 → Int32 → Option (Int32 × JS)) (k39 : JS → Int32 → Int32 → Int32 → Int32 → Int32 → Int32 → Option (Int32 × JS)) (hk10 : ∀ (a0 : JS) (a1 : Int32) (a2 : Int32) (a3 : Int32), a0.d = n0 → Pt (k10 a0 a1 a2 a3) (fun y => y.2.d = n0)) (hk20 : ∀ (a0 : JS) (a1 : Int32) (a2 : Int32) (a3 : Int32) (a4 : Int32), a0.d = n0 → Pt (k20 a0 a1 a2 a3 a4) (fun y => y.2.d = n0)) (hk39 : ∀ (a0 : JS) (a1 : Int32) (a2 : Int32) (a3 : Int32) (a4 : Int32) (a5 : Int32) (a6 : Int32), a0.d = n0 → Pt (k39 a0 a1 a2 a3 a4 a5 a6) (fun y => y.2.d = n0)) (s : JS) (x4 : Int32) (x5 : Int32) (x6 : Int32) (x7 : Int32) (x8 : Int32) (x9 : Int32) (h1 : s.d = n0) : Pt (kX2_fillRow_far_39 k10 k20 k39 s x4 x5 x6 x7 x8 x9) (fun y => y.2.d = n0) := by
  unfold kX2_fillRow_far_39
  exact pt_ite (fun _ => hk20 _ _ _ _ _ h1) (fun _ => pt_ite (fun _ => pt_ite (fun _ => pt_let (P := (fun s : JS => s.d = n0)) h1 (fun s4 qs4 => hk39 _ _ _ _ _ _ _ qs4)) (fun _ => pt_none)) (fun _ => pt_none))

theorem fr_kX2_fillRow_far_39L (n0 : SD) (k10 : JS → Int32 → Int32 → Int32 → Option (Int32 × JS)) (k20 : JS → Int32 → Int32 → Int32 → Int32 → Option (Int32 × JS)) (hk10 : ∀ (a0 : JS) (a1 : Int32) (a2 : Int32) (a3 : Int32), a0.d = n0 → Pt (k10 a0 a1 a2 a3) (fun y => y.2.d = n0)) (hk20 : ∀ (a0 : JS) (a1 : Int32) (a2 : Int32) (a3 : Int32) (a4 : Int32), a0.d = n0 → Pt (k20 a0 a1 a2 a3 a4) (fun y => y.2.d = n0)) : ∀ (n : Nat) (s : JS) (x1 : Int32) (x2 : Int32) (x3 : Int32) (x4 : Int32) (x5 : Int32) (x6 : Int32), s.d = n0 → Pt (kX2_fillRow_far_39L k10 k20 n s x1 x2 x3 x4 x5 x6) (fun y => y.2.d = n0) := by
  intro n
  induction n with
  | zero => intro _ _ _ _ _ _ _ _; exact pt_none
  | succ n ih =>
    intro s x1 x2 x3 x4 x5 x6 h1
    exact fr_kX2_fillRow_far_39 n0 k10 k20 (kX2_fillRow_far_39L k10 k20 n) hk10 hk20 ih s x1 x2 x3 x4 x5 x6 h1

theorem fr_kX2_fillRow_far_20 (n0 : SD) (k10 : JS → Int32 → Int32 → Int32 → Option (Int32 × JS)) (k20 : JS → Int32 → Int32 → Int32 → Int32 → Option (Int32 × JS)) (hk10 : ∀ (a0 : JS) (a1 : Int32) (a2 : Int32) (a3 : Int32), a0.d = n0 → Pt (k10 a0 a1 a2 a3) (fun y => y.2.d = n0)) (hk20 : ∀ (a0 : JS) (a1 : Int32) (a2 : Int32) (a3 : Int32) (a4 : Int32), a0.d = n0 → Pt (k20 a0 a1 a2 a3 a4) (fun y => y.2.d = n0)) (s : JS) (x4 : Int32) (x5 : Int32) (x6 : Int32) (x7 : Int32) (h1 : s.d = n0) : Pt (kX2_fillRow_far_20 k10 k20 s x4 x5 x6 x7) (fun y => y.2.d = n0) := by
  unfold kX2_fillRow_far_20
  exact pt_ite (fun _ => hk10 _ _ _ _ h1) (fun _ => pt_bindI (P := (fun y => y.2.d = n0)) (fr_kX2_oddsIfMay n0 s _ _ h1) (fun r3 s2 qs2 => fr_kX2_fillRow_far_39L n0 _ _ hk10 hk20 _ s2 _ _ _ _ _ _ qs2))

theorem fr_kX2_fillRow_far_20L (n0 : SD) (k10 : JS → Int32 → Int32 → Int32 → Option (Int32 × JS)) (hk10 : ∀ (a0 : JS) (a1 : Int32) (a2 : Int32) (a3 : Int32), a0.d = n0 → Pt (k10 a0 a1 a2 a3) (fun y => y.2.d = n0)) : ∀ (n : Nat) (s : JS) (x1 : Int32) (x2 : Int32) (x3 : Int32) (x4 : Int32), s.d = n0 → Pt (kX2_fillRow_far_20L k10 n s x1 x2 x3 x4) (fun y => y.2.d = n0) := by
  intro n
  induction n with
  | zero => intro _ _ _ _ _ _; exact pt_none
  | succ n ih =>
    intro s x1 x2 x3 x4 h1
    exact fr_kX2_fillRow_far_20 n0 k10 (kX2_fillRow_far_20L k10 n) hk10 ih s x1 x2 x3 x4 h1

theorem fr_kX2_fillRow_far_10 (n0 : SD) (k10 : JS → Int32 → Int32 → Int32 → Option (Int32 × JS)) (hk10 : ∀ (a0 : JS) (a1 : Int32) (a2 : Int32) (a3 : Int32), a0.d = n0 → Pt (k10 a0 a1 a2 a3) (fun y => y.2.d = n0)) (s : JS) (x4 : Int32) (x5 : Int32) (x6 : Int32) (h1 : s.d = n0) : Pt (kX2_fillRow_far_10 k10 s x4 x5 x6) (fun y => y.2.d = n0) := by
  unfold kX2_fillRow_far_10
  exact pt_ite (fun _ => pt_some h1) (fun _ => fr_kX2_fillRow_far_20L n0 _ hk10 _ s _ _ _ _ h1)

theorem fr_kX2_fillRow_far_10L (n0 : SD) : ∀ (n : Nat) (s : JS) (x1 : Int32) (x2 : Int32) (x3 : Int32), s.d = n0 → Pt (kX2_fillRow_far_10L n s x1 x2 x3) (fun y => y.2.d = n0) := by
  intro n
  induction n with
  | zero => intro _ _ _ _ _; exact pt_none
  | succ n ih =>
    intro s x1 x2 x3 h1
    exact fr_kX2_fillRow_far_10 n0 (kX2_fillRow_far_10L n) ih s x1 x2 x3 h1

theorem fr_kX2_fillRow_far (n0 : SD) (s : JS) (x3 : Int32) (x4 : Int32) (h1 : s.d = n0) : Pt (kX2_fillRow_far s x3 x4) (fun y => y.2.d = n0) := by
  unfold kX2_fillRow_far
  exact pt_let (P := (fun s : JS => s.d = n0)) h1 (fun s1 qs1 => fr_kX2_fillRow_far_10L n0 _ s1 _ _ _ qs1)

theorem fr_kX2_fillNear (n0 : SD) (s : JS) (h1 : s.d = n0) : Pt (kX2_fillNear s) (fun y => y.2.d = n0) := by
  unfold kX2_fillNear
  exact pt_bindI (P := (fun y => y.2.d = n0)) (fr_kX2_fillRow_near n0 s _ _ h1) (fun r2 s1 qs1 => pt_some qs1)

theorem fr_kX2_fillFar (n0 : SD) (s : JS) (h1 : s.d = n0) : Pt (kX2_fillFar s) (fun y => y.2.d = n0) := by
  unfold kX2_fillFar
  exact pt_bindI (P := (fun y => y.2.d = n0)) (fr_kX2_fillRow_far n0 s _ _ h1) (fun r2 s1 qs1 => pt_some qs1)

theorem fr_kX2_casesAheadOf_78 (n0 : SD) (k23 : JS → Int32 → Int32 → Int32 → Int32 → Int32 → Int32 → Int32 → Option (Int32 × JS)) (k33 : JS → Int32 → Int32 → Int32 → Int32 → Int32 → Int32 → Int32 → Int32 → Option (Int32 × JS)) (hk23 : ∀ (a0 : JS) (a1 : Int32) (a2 : Int32) (a3 : Int32) (a4 : Int32) (a5 : Int32) (a6 : Int32) (a7 : Int32), a0.d = n0 → Pt (k23 a0 a1 a2 a3 a4 a5 a6 a7) (fun y => y.2.d = n0)) (hk33 : ∀ (a0 : JS) (a1 : Int32) (a2 : Int32) (a3 : Int32) (a4 : Int32) (a5 : Int32) (a6 : Int32) (a7 : Int32) (a8 : Int32), a0.d = n0 → Pt (k33 a0 a1 a2 a3 a4 a5 a6 a7 a8) (fun y => y.2.d = n0)) (s : JS) (x2 : Int32) (x3 : Int32) (x4 : Int32) (x5 : Int32) (x6 : Int32) (x7 : Int32) (x8 : Int32) (x9 : Int32) (h1 : s.d = n0) : Pt (kX2_casesAheadOf_78 k23 k33 s x2 x3 x4 x5 x6 x7 x8 x9) (fun y => y.2.d = n0) := by
  unfold kX2_casesAheadOf_78
  exact hk33 _ _ _ _ _ _ _ _ _ h1

theorem fr_kX2_casesAheadOf_75 (n0 : SD) (k23 : JS → Int32 → Int32 → Int32 → Int32 → Int32 → Int32 → Int32 → Option (Int32 × JS)) (k33 : JS → Int32 → Int32 → Int32 → Int32 → Int32 → Int32 → Int32 → Int32 → Option (Int32 × JS)) (hk23 : ∀ (a0 : JS) (a1 : Int32) (a2 : Int32) (a3 : Int32) (a4 : Int32) (a5 : Int32) (a6 : Int32) (a7 : Int32), a0.d = n0 → Pt (k23 a0 a1 a2 a3 a4 a5 a6 a7) (fun y => y.2.d = n0)) (hk33 : ∀ (a0 : JS) (a1 : Int32) (a2 : Int32) (a3 : Int32) (a4 : Int32) (a5 : Int32) (a6 : Int32) (a7 : Int32) (a8 : Int32), a0.d = n0 → Pt (k33 a0 a1 a2 a3 a4 a5 a6 a7 a8) (fun y => y.2.d = n0)) (s : JS) (x2 : Int32) (x3 : Int32) (x4 : Int32) (x5 : Int32) (x6 : Int32) (x7 : Int32) (x8 : Int32) (x9 : Int32) (h1 : s.d = n0) : Pt (kX2_casesAheadOf_75 k23 k33 s x2 x3 x4 x5 x6 x7 x8 x9) (fun y => y.2.d = n0) := by
  unfold kX2_casesAheadOf_75
  exact fr_kX2_casesAheadOf_78 n0 _ _ hk23 hk33 s _ _ _ _ _ _ _ _ h1

theorem fr_kX2_casesAheadOf_33 (n0 : SD) (k23 : JS → Int32 → Int32 → Int32 → Int32 → Int32 → Int32 → Int32 → Option (Int32 × JS)) (k33 : JS → Int32 → Int32 → Int32 → Int32 → Int32 → Int32 → Int32 → Int32 → Option (Int32 × JS)) (hk23 : ∀ (a0 : JS) (a1 : Int32) (a2 : Int32) (a3 : Int32) (a4 : Int32) (a5 : Int32) (a6 : Int32) (a7 : Int32), a0.d = n0 → Pt (k23 a0 a1 a2 a3 a4 a5 a6 a7) (fun y => y.2.d = n0)) (hk33 : ∀ (a0 : JS) (a1 : Int32) (a2 : Int32) (a3 : Int32) (a4 : Int32) (a5 : Int32) (a6 : Int32) (a7 : Int32) (a8 : Int32), a0.d = n0 → Pt (k33 a0 a1 a2 a3 a4 a5 a6 a7 a8) (fun y => y.2.d = n0)) (s : JS) (x2 : Int32) (x3 : Int32) (x4 : Int32) (x5 : Int32) (x6 : Int32) (x7 : Int32) (x8 : Int32) (x9 : Int32) (h1 : s.d = n0) : Pt (kX2_casesAheadOf_33 k23 k33 s x2 x3 x4 x5 x6 x7 x8 x9) (fun y => y.2.d = n0) := by
  unfold kX2_casesAheadOf_33
  exact pt_ite (fun _ => hk23 _ _ _ _ _ _ _ _ h1) (fun _ => pt_ite (fun _ => pt_ite (fun _ => pt_ite (fun _ => fr_kX2_casesAheadOf_75 n0 _ _ hk23 hk33 s _ _ _ _ _ _ _ _ h1) (fun _ => pt_ite (fun _ => pt_ite (fun _ => fr_kX2_casesAheadOf_78 n0 _ _ hk23 hk33 s _ _ _ _ _ _ _ _ h1) (fun _ => fr_kX2_casesAheadOf_75 n0 _ _ hk23 hk33 s _ _ _ _ _ _ _ _ h1)) (fun _ => fr_kX2_casesAheadOf_78 n0 _ _ hk23 hk33 s _ _ _ _ _ _ _ _ h1))) (fun _ => pt_none)) (fun _ => pt_none))

theorem fr_kX2_casesAheadOf_33L (n0 : SD) (k23 : JS → Int32 → Int32 → Int32 → Int32 → Int32 → Int32 → Int32 → Option (Int32 × JS)) (hk23 : ∀ (a0 : JS) (a1 : Int32) (a2 : Int32) (a3 : Int32) (a4 : Int32) (a5 : Int32) (a6 : Int32) (a7 : Int32), a0.d = n0 → Pt (k23 a0 a1 a2 a3 a4 a5 a6 a7) (fun y => y.2.d = n0)) : ∀ (n : Nat) (s : JS) (x1 : Int32) (x2 : Int32) (x3 : Int32) (x4 : Int32) (x5 : Int32) (x6 : Int32) (x7 : Int32) (x8 : Int32), s.d = n0 → Pt (kX2_casesAheadOf_33L k23 n s x1 x2 x3 x4 x5 x6 x7 x8) (fun y => y.2.d = n0) := by
  intro n
  induction n with
  | zero => intro _ _ _ _ _ _ _ _ _ _; exact pt_none
  | succ n ih =>
    intro s x1 x2 x3 x4 x5 x6 x7 x8 h1
    exact fr_kX2_casesAheadOf_33 n0 k23 (kX2_casesAheadOf_33L k23 n) hk23 ih s x1 x2 x3 x4 x5 x6 x7 x8 h1

theorem fr_kX2_casesAheadOf_23 (n0 : SD) (k23 : JS → Int32 → Int32 → Int32 → Int32 → Int32 → Int32 → Int32 → Option (Int32 × JS)) (hk23 : ∀ (a0 : JS) (a1 : Int32) (a2 : Int32) (a3 : Int32) (a4 : Int32) (a5 : Int32) (a6 : Int32) (a7 : Int32), a0.d = n0 → Pt (k23 a0 a1 a2 a3 a4 a5 a6 a7) (fun y => y.2.d = n0)) (s : JS) (x2 : Int32) (x3 : Int32) (x4 : Int32) (x5 : Int32) (x6 : Int32) (x7 : Int32) (x8 : Int32) (h1 : s.d = n0) : Pt (kX2_casesAheadOf_23 k23 s x2 x3 x4 x5 x6 x7 x8) (fun y => y.2.d = n0) := by
  unfold kX2_casesAheadOf_23
  exact pt_ite (fun _ => pt_some h1) (fun _ => fr_kX2_casesAheadOf_33L n0 _ hk23 _ s _ _ _ _ _ _ _ _ h1)

theorem fr_kX2_casesAheadOf_23L (n0 : SD) : ∀ (n : Nat) (s : JS) (x1 : Int32) (x2 : Int32) (x3 : Int32) (x4 : Int32) (x5 : Int32) (x6 : Int32) (x7 : Int32), s.d = n0 → Pt (kX2_casesAheadOf_23L n s x1 x2 x3 x4 x5 x6 x7) (fun y => y.2.d = n0) := by
  intro n
  induction n with
  | zero => intro _ _ _ _ _ _ _ _ _; exact pt_none
  | succ n ih =>
    intro s x1 x2 x3 x4 x5 x6 x7 h1
    exact fr_kX2_casesAheadOf_23 n0 (kX2_casesAheadOf_23L n) ih s x1 x2 x3 x4 x5 x6 x7 h1

theorem fr_kX2_casesAheadOf (n0 : SD) (s : JS) (x2 : Int32) (x3 : Int32) (h1 : s.d = n0) : Pt (kX2_casesAheadOf s x2 x3) (fun y => y.2.d = n0) := by
  unfold kX2_casesAheadOf
  exact pt_bindI (P := (fun y => y.2.d = n0)) (fr_kX2_fillNear n0 s h1) (fun r2 s1 qs1 => pt_bindI (P := (fun y => y.2.d = n0)) (fr_kX2_fillFar n0 s1 qs1) (fun r4 s3 qs3 => fr_kX2_casesAheadOf_23L n0 _ s3 _ _ _ _ _ _ _ qs3))

theorem fr_kX2_caseAtRank_88 (n0 : SD) (k35 : JS → Int32 → Int32 → Int32 → Int32 → Int32 → Option (Int32 × JS)) (k45 : JS → Int32 → Int32 → Int32 → Int32 → Int32 → Int32 → Option (Int32 × JS)) (hk35 : ∀ (a0 : JS) (a1 : Int32) (a2 : Int32) (a3 : Int32) (a4 : Int32) (a5 : Int32), a0.d = n0 → Pt (k35 a0 a1 a2 a3 a4 a5) (fun y => y.2.d = n0)) (hk45 : ∀ (a0 : JS) (a1 : Int32) (a2 : Int32) (a3 : Int32) (a4 : Int32) (a5 : Int32) (a6 : Int32), a0.d = n0 → Pt (k45 a0 a1 a2 a3 a4 a5 a6) (fun y => y.2.d = n0)) (s : JS) (x2 : Int32) (x3 : Int32) (x4 : Int32) (x5 : Int32) (x6 : Int32) (x7 : Int32) (h1 : s.d = n0) : Pt (kX2_caseAtRank_88 k35 k45 s x2 x3 x4 x5 x6 x7) (fun y => y.2.d = n0) := by
  unfold kX2_caseAtRank_88
  exact hk45 _ _ _ _ _ _ _ h1

theorem fr_kX2_caseAtRank_45 (n0 : SD) (k35 : JS → Int32 → Int32 → Int32 → Int32 → Int32 → Option (Int32 × JS)) (k45 : JS → Int32 → Int32 → Int32 → Int32 → Int32 → Int32 → Option (Int32 × JS)) (hk35 : ∀ (a0 : JS) (a1 : Int32) (a2 : Int32) (a3 : Int32) (a4 : Int32) (a5 : Int32), a0.d = n0 → Pt (k35 a0 a1 a2 a3 a4 a5) (fun y => y.2.d = n0)) (hk45 : ∀ (a0 : JS) (a1 : Int32) (a2 : Int32) (a3 : Int32) (a4 : Int32) (a5 : Int32) (a6 : Int32), a0.d = n0 → Pt (k45 a0 a1 a2 a3 a4 a5 a6) (fun y => y.2.d = n0)) (s : JS) (x2 : Int32) (x3 : Int32) (x4 : Int32) (x5 : Int32) (x6 : Int32) (x7 : Int32) (h1 : s.d = n0) : Pt (kX2_caseAtRank_45 k35 k45 s x2 x3 x4 x5 x6 x7) (fun y => y.2.d = n0) := by
  unfold kX2_caseAtRank_45
  exact pt_ite (fun _ => hk35 _ _ _ _ _ _ h1) (fun _ => pt_ite (fun _ => pt_ite (fun _ => pt_ite (fun _ => pt_ite (fun _ => fr_kX2_caseAtRank_88 n0 _ _ hk35 hk45 s _ _ _ _ _ _ h1) (fun _ => pt_bindP (P := fun _ => True) (fun _ _ => trivial) (fun s6 _ => pt_let (P := (fun s : JS => s.d = n0)) h1 (fun s7 qs7 => fr_kX2_caseAtRank_88 n0 _ _ hk35 hk45 s7 _ _ _ _ _ _ qs7)))) (fun _ => pt_none)) (fun _ => pt_none)) (fun _ => pt_none))

theorem fr_kX2_caseAtRank_45L (n0 : SD) (k35 : JS → Int32 → Int32 → Int32 → Int32 → Int32 → Option (Int32 × JS)) (hk35 : ∀ (a0 : JS) (a1 : Int32) (a2 : Int32) (a3 : Int32) (a4 : Int32) (a5 : Int32), a0.d = n0 → Pt (k35 a0 a1 a2 a3 a4 a5) (fun y => y.2.d = n0)) : ∀ (n : Nat) (s : JS) (x1 : Int32) (x2 : Int32) (x3 : Int32) (x4 : Int32) (x5 : Int32) (x6 : Int32), s.d = n0 → Pt (kX2_caseAtRank_45L k35 n s x1 x2 x3 x4 x5 x6) (fun y => y.2.d = n0) := by
  intro n
  induction n with
  | zero => intro _ _ _ _ _ _ _ _; exact pt_none
  | succ n ih =>
    intro s x1 x2 x3 x4 x5 x6 h1
    exact fr_kX2_caseAtRank_45 n0 k35 (kX2_caseAtRank_45L k35 n) hk35 ih s x1 x2 x3 x4 x5 x6 h1

theorem fr_kX2_caseAtRank_35 (n0 : SD) (k35 : JS → Int32 → Int32 → Int32 → Int32 → Int32 → Option (Int32 × JS)) (hk35 : ∀ (a0 : JS) (a1 : Int32) (a2 : Int32) (a3 : Int32) (a4 : Int32) (a5 : Int32), a0.d = n0 → Pt (k35 a0 a1 a2 a3 a4 a5) (fun y => y.2.d = n0)) (s : JS) (x2 : Int32) (x3 : Int32) (x4 : Int32) (x5 : Int32) (x6 : Int32) (h1 : s.d = n0) : Pt (kX2_caseAtRank_35 k35 s x2 x3 x4 x5 x6) (fun y => y.2.d = n0) := by
  unfold kX2_caseAtRank_35
  exact pt_ite (fun _ => pt_ite (fun _ => pt_some h1) (fun _ => pt_none)) (fun _ => fr_kX2_caseAtRank_45L n0 _ hk35 _ s _ _ _ _ _ _ h1)

theorem fr_kX2_caseAtRank_35L (n0 : SD) : ∀ (n : Nat) (s : JS) (x1 : Int32) (x2 : Int32) (x3 : Int32) (x4 : Int32) (x5 : Int32), s.d = n0 → Pt (kX2_caseAtRank_35L n s x1 x2 x3 x4 x5) (fun y => y.2.d = n0) := by
  intro n
  induction n with
  | zero => intro _ _ _ _ _ _ _; exact pt_none
  | succ n ih =>
    intro s x1 x2 x3 x4 x5 h1
    exact fr_kX2_caseAtRank_35 n0 (kX2_caseAtRank_35L n) ih s x1 x2 x3 x4 x5 h1

theorem fr_kX2_caseAtRank (n0 : SD) (s : JS) (x2 : Int32) (h1 : s.d = n0) : Pt (kX2_caseAtRank s x2) (fun y => y.2.d = n0) := by
  unfold kX2_caseAtRank
  exact pt_bindI (P := (fun y => y.2.d = n0)) (fr_kX2_fillNear n0 s h1) (fun r2 s1 qs1 => pt_bindI (P := (fun y => y.2.d = n0)) (fr_kX2_fillFar n0 s1 qs1) (fun r4 s3 qs3 => pt_bindP (P := fun _ => True) (fun _ _ => trivial) (fun s5 _ => pt_let (P := (fun s : JS => s.d = n0)) qs3 (fun s6 qs6 => pt_bindP (P := fun _ => True) (fun _ _ => trivial) (fun s8 _ => pt_let (P := (fun s : JS => s.d = n0)) qs6 (fun s9 qs9 => fr_kX2_caseAtRank_35L n0 _ s9 _ _ _ _ _ qs9))))))

theorem fr_kX2_unfind_28 (n0 : SD) (k2 : JS → Int32 → Int32 → Option JS) (hk2 : ∀ (a0 : JS) (a1 : Int32) (a2 : Int32), a0.d = n0 → Pt (k2 a0 a1 a2) (fun y => y.d = n0)) (s : JS) (x2 : Int32) (x3 : Int32) (h1 : s.d = n0) : Pt (kX2_unfind_28 k2 s x2 x3) (fun y => y.d = n0) := by
  unfold kX2_unfind_28
  exact hk2 _ _ _ h1

theorem fr_kX10_odds (g0 : GS) (n0 : SD) (s : XS) (x1 : Int32) (x2 : Int32) (h1 : s.g = g0 ∧ s.n = n0) : Pt (kX10_odds s x1 x2) (fun y => y.2.g = g0 ∧ y.2.n = n0) := by
  unfold kX10_odds
  exact pt_bindI (P := fun _ => True) (fun _ _ => trivial) (fun r2 s1 _ => pt_let (P := (fun s : XS => s.g = g0 ∧ s.n = n0)) ⟨h1.1, h1.2⟩ (fun s3 qs3 => pt_ite (fun _ => pt_some qs3) (fun _ => pt_bindP (P := fun _ => True) (fun _ _ => trivial) (fun r6 _ => pt_ite (fun _ => pt_some qs3) (fun _ => pt_bindI (P := fun _ => True) (fun _ _ => trivial) (fun r9 s8 _ => pt_let (P := (fun s : XS => s.g = g0 ∧ s.n = n0)) ⟨qs3.1, qs3.2⟩ (fun s10 qs10 => pt_some qs10)))))))

theorem fr_kX10_cases (g0 : GS) (n0 : SD) (s : XS) (h1 : s.g = g0 ∧ s.n = n0) : Pt (kX10_cases s) (fun y => y.2.g = g0 ∧ y.2.n = n0) := by
  unfold kX10_cases
  exact pt_bindI (P := (fun y => y.2.d = n0)) (fr_kX2_caseCount n0 (JS.mk s.k s.n) h1.2) (fun r2 s1 qs1 => pt_let (P := (fun s : XS => s.g = g0 ∧ s.n = n0)) ⟨h1.1, qs1⟩ (fun s3 qs3 => pt_some qs3))

theorem fr_kX10_chance (g0 : GS) (n0 : SD) (s : XS) (x1 : Int32) (h1 : s.g = g0 ∧ s.n = n0) : Pt (kX10_chance s x1) (fun y => y.2.g = g0 ∧ y.2.n = n0) := by
  unfold kX10_chance
  exact pt_bindI (P := fun _ => True) (fun _ _ => trivial) (fun r2 s1 _ => pt_let (P := (fun s : XS => s.g = g0 ∧ s.n = n0)) ⟨h1.1, h1.2⟩ (fun s3 qs3 => pt_ite (fun _ => pt_some qs3) (fun _ => pt_bindI (P := (fun y => y.2.d = n0)) (fr_kX2_oddsOf n0 (JS.mk s3.k s3.n) _ qs3.2) (fun r7 s6 qs6 => pt_let (P := (fun s : XS => s.g = g0 ∧ s.n = n0)) ⟨qs3.1, qs6⟩ (fun s8 qs8 => pt_some qs8)))))

theorem fr_kX10_enough (g0 : GS) (n0 : SD) (s : XS) (h1 : s.g = g0 ∧ s.n = n0) : Pt (kX10_enough s) (fun y => y.2.g = g0 ∧ y.2.n = n0) := by
  unfold kX10_enough
  exact pt_bindI (P := (fun y => y.2.d = n0)) (fr_kX2_caseCount n0 (JS.mk s.k s.n) h1.2) (fun r2 s1 qs1 => pt_let (P := (fun s : XS => s.g = g0 ∧ s.n = n0)) ⟨h1.1, qs1⟩ (fun s3 qs3 => pt_ite (fun _ => pt_some qs3) (fun _ => pt_bindI (P := (fun y => y.2.d = n0)) (fr_kX2_goesAtMost n0 (JS.mk s3.k s3.n) qs3.2) (fun r7 s6 qs6 => pt_let (P := (fun s : XS => s.g = g0 ∧ s.n = n0)) ⟨qs3.1, qs6⟩ (fun s8 qs8 => pt_some qs8)))))

theorem fr_kX10_left (g0 : GS) (n0 : SD) (s : XS) (x1 : Int32) (h1 : s.g = g0 ∧ s.n = n0) : Pt (kX10_left s x1) (fun y => y.2.g = g0 ∧ y.2.n = n0) := by
  unfold kX10_left
  exact pt_bindI (P := fun _ => True) (fun _ _ => trivial) (fun r2 s1 _ => pt_let (P := (fun s : XS => s.g = g0 ∧ s.n = n0)) ⟨h1.1, h1.2⟩ (fun s3 qs3 => pt_ite (fun _ => pt_some qs3) (fun _ => pt_bindI (P := (fun y => y.2.d = n0)) (fr_kX2_caseCount n0 (JS.mk s3.k s3.n) qs3.2) (fun r7 s6 qs6 => pt_let (P := (fun s : XS => s.g = g0 ∧ s.n = n0)) ⟨qs3.1, qs6⟩ (fun s8 qs8 => pt_ite (fun _ => pt_some qs8) (fun _ => pt_bindI (P := (fun y => y.2.d = n0)) (fr_kX2_leftBehind n0 (JS.mk s8.k s8.n) _ qs8.2) (fun r12 s11 qs11 => pt_let (P := (fun s : XS => s.g = g0 ∧ s.n = n0)) ⟨qs8.1, qs11⟩ (fun s13 qs13 => pt_some qs13))))))))

theorem fr_kX10_wisest_11 (g0 : GS) (n0 : SD) (s : XS) (x1 : Int32) (h1 : s.g = g0 ∧ s.n = n0) : Pt (kX10_wisest_11 s x1) (fun y => y.2.g = g0 ∧ y.2.n = n0) := by
  unfold kX10_wisest_11
  exact pt_bindI (P := (fun y => y.2.d = n0)) (fr_kX2_caseCount n0 (JS.mk s.k s.n) h1.2) (fun r2 s1 qs1 => pt_let (P := (fun s : XS => s.g = g0 ∧ s.n = n0)) ⟨h1.1, qs1⟩ (fun s3 qs3 => pt_ite (fun _ => pt_some qs3) (fun _ => pt_bindI (P := (fun y => y.2.d = n0)) (fr_kX2_wisestGuess n0 (JS.mk s3.k s3.n) qs3.2) (fun r7 s6 qs6 => pt_let (P := (fun s : XS => s.g = g0 ∧ s.n = n0)) ⟨qs3.1, qs6⟩ (fun s8 qs8 => pt_ite (fun _ => pt_some qs8) (fun _ => pt_bindI (P := (fun y => y.2.d = n0)) (fr_kX2_leftBehind n0 (JS.mk s8.k s8.n) _ qs8.2) (fun r12 s11 qs11 => pt_let (P := (fun s : XS => s.g = g0 ∧ s.n = n0)) ⟨qs8.1, qs11⟩ (fun s13 qs13 => pt_some qs13))))))))

theorem fr_kX10_wisest (g0 : GS) (n0 : SD) (s : XS) (x1 : Int32) (h1 : s.g = g0 ∧ s.n = n0) : Pt (kX10_wisest s x1) (fun y => y.2.g = g0 ∧ y.2.n = n0) := by
  unfold kX10_wisest
  exact pt_ite (fun _ => fr_kX10_wisest_11 g0 n0 s _ h1) (fun _ => pt_ite (fun _ => fr_kX10_wisest_11 g0 n0 s _ h1) (fun _ => pt_some h1))

theorem fr_kX10_rank (g0 : GS) (n0 : SD) (s : XS) (x1 : Int32) (h1 : s.g = g0 ∧ s.n = n0) : Pt (kX10_rank s x1) (fun y => y.2.g = g0 ∧ y.2.n = n0) := by
  unfold kX10_rank
  exact pt_bindI (P := fun _ => True) (fun _ _ => trivial) (fun r2 s1 _ => pt_let (P := (fun s : XS => s.g = g0 ∧ s.n = n0)) ⟨h1.1, h1.2⟩ (fun s3 qs3 => pt_ite (fun _ => pt_some qs3) (fun _ => pt_bindI (P := (fun y => y.2.d = n0)) (fr_kX2_oddsOf n0 (JS.mk s3.k s3.n) _ qs3.2) (fun r7 s6 qs6 => pt_let (P := (fun s : XS => s.g = g0 ∧ s.n = n0)) ⟨qs3.1, qs6⟩ (fun s8 qs8 => pt_ite (fun _ => pt_some qs8) (fun _ => pt_bindI (P := (fun y => y.2.d = n0)) (fr_kX2_casesAheadOf n0 (JS.mk s8.k s8.n) _ _ qs8.2) (fun r12 s11 qs11 => pt_let (P := (fun s : XS => s.g = g0 ∧ s.n = n0)) ⟨qs8.1, qs11⟩ (fun s13 qs13 => pt_some qs13))))))))

theorem fr_kX10_ranked (g0 : GS) (n0 : SD) (s : XS) (x1 : Int32) (h1 : s.g = g0 ∧ s.n = n0) : Pt (kX10_ranked s x1) (fun y => y.2.g = g0 ∧ y.2.n = n0) := by
  unfold kX10_ranked
  exact pt_ite (fun _ => pt_some h1) (fun _ => pt_ite (fun _ => pt_bindI (P := (fun y => y.2.d = n0)) (fr_kX2_caseAtRank n0 (JS.mk s.k s.n) _ h1.2) (fun r4 s3 qs3 => pt_let (P := (fun s : XS => s.g = g0 ∧ s.n = n0)) ⟨h1.1, qs3⟩ (fun s5 qs5 => pt_some qs5))) (fun _ => pt_some h1))

theorem fr_kX10_alike_26 (g0 : GS) (n0 : SD) (k26 : XS → Int32 → Int32 → Int32 → Option (Int32 × XS)) (hk26 : ∀ (a0 : XS) (a1 : Int32) (a2 : Int32) (a3 : Int32), a0.g = g0 ∧ a0.n = n0 → Pt (k26 a0 a1 a2 a3) (fun y => y.2.g = g0 ∧ y.2.n = n0)) (s : XS) (x1 : Int32) (x2 : Int32) (x3 : Int32) (h1 : s.g = g0 ∧ s.n = n0) : Pt (kX10_alike_26 k26 s x1 x2 x3) (fun y => y.2.g = g0 ∧ y.2.n = n0) := by
  unfold kX10_alike_26
  exact pt_ite (fun _ => pt_some h1) (fun _ => pt_bindP (P := fun _ => True) (fun _ _ => trivial) (fun r2 _ => pt_bindP (P := fun _ => True) (fun _ _ => trivial) (fun r3 _ => pt_ite (fun _ => hk26 _ _ _ _ h1) (fun _ => pt_some h1))))

theorem fr_kX10_alike_26L (g0 : GS) (n0 : SD) : ∀ (n : Nat) (s : XS) (x1 : Int32) (x2 : Int32) (x3 : Int32), s.g = g0 ∧ s.n = n0 → Pt (kX10_alike_26L n s x1 x2 x3) (fun y => y.2.g = g0 ∧ y.2.n = n0) := by
  intro n
  induction n with
  | zero => intro _ _ _ _ _; exact pt_none
  | succ n ih =>
    intro s x1 x2 x3 h1
    exact fr_kX10_alike_26 g0 n0 (kX10_alike_26L n) ih s x1 x2 x3 h1
end
section
/-! ===== what the queries leave as it was ===== -/
theorem fr_kX10_alike (g0 : GS) (n0 : SD) (s : XS) (x1 : Int32) (x2 : Int32) (h1 : s.g = g0 ∧ s.n = n0) : Pt (kX10_alike s x1 x2) (fun y => y.2.g = g0 ∧ y.2.n = n0) := by
  unfold kX10_alike
  exact pt_bindI (P := fun _ => True) (fun _ _ => trivial) (fun r2 s1 _ => pt_let (P := (fun s : XS => s.g = g0 ∧ s.n = n0)) ⟨h1.1, h1.2⟩ (fun s3 qs3 => pt_ite (fun _ => pt_some qs3) (fun _ => pt_bindI (P := fun _ => True) (fun _ _ => trivial) (fun r7 s6 _ => pt_let (P := (fun s : XS => s.g = g0 ∧ s.n = n0)) ⟨qs3.1, qs3.2⟩ (fun s8 qs8 => pt_ite (fun _ => pt_some qs8) (fun _ => fr_kX10_alike_26L g0 n0 _ s8 _ _ _ qs8))))))

theorem fr_kX10_spread (g0 : GS) (n0 : SD) (s : XS) (x1 : Int32) (h1 : s.g = g0 ∧ s.n = n0) : Pt (kX10_spread s x1) (fun y => y.2.g = g0 ∧ y.2.n = n0) := by
  unfold kX10_spread
  exact pt_bindI (P := fun _ => True) (fun _ _ => trivial) (fun r2 s1 _ => pt_let (P := (fun s : XS => s.g = g0 ∧ s.n = n0)) ⟨h1.1, h1.2⟩ (fun s3 qs3 => pt_ite (fun _ => pt_some qs3) (fun _ => pt_bindI (P := (fun y => y.2.d = n0)) (fr_kX2_oddsApart n0 (JS.mk s3.k s3.n) _ qs3.2) (fun r7 s6 qs6 => pt_let (P := (fun s : XS => s.g = g0 ∧ s.n = n0)) ⟨qs3.1, qs6⟩ (fun s8 qs8 => pt_some qs8)))))

theorem fr_kX10_open_40 (g0 : GS) (n0 : SD) (k4 : XS → Int32 → Int32 → Option (Int32 × XS)) (hk4 : ∀ (a0 : XS) (a1 : Int32) (a2 : Int32), a0.g = g0 ∧ a0.n = n0 → Pt (k4 a0 a1 a2) (fun y => y.2.g = g0 ∧ y.2.n = n0)) (s : XS) (x1 : Int32) (x2 : Int32) (h1 : s.g = g0 ∧ s.n = n0) : Pt (kX10_open_40 k4 s x1 x2) (fun y => y.2.g = g0 ∧ y.2.n = n0) := by
  unfold kX10_open_40
  exact hk4 _ _ _ h1

theorem fr_kX10_open_4 (g0 : GS) (n0 : SD) (k4 : XS → Int32 → Int32 → Option (Int32 × XS)) (hk4 : ∀ (a0 : XS) (a1 : Int32) (a2 : Int32), a0.g = g0 ∧ a0.n = n0 → Pt (k4 a0 a1 a2) (fun y => y.2.g = g0 ∧ y.2.n = n0)) (s : XS) (x1 : Int32) (x2 : Int32) (h1 : s.g = g0 ∧ s.n = n0) : Pt (kX10_open_4 k4 s x1 x2) (fun y => y.2.g = g0 ∧ y.2.n = n0) := by
  unfold kX10_open_4
  exact pt_ite (fun _ => pt_some h1) (fun _ => pt_bindI (P := (fun y => y.2.d = n0)) (fr_kX0_mayBe n0 (JS.mk s.k s.n) _ h1.2) (fun r3 s2 qs2 => pt_let (P := (fun s : XS => s.g = g0 ∧ s.n = n0)) ⟨h1.1, qs2⟩ (fun s4 qs4 => pt_bindP (P := fun _ => True) (fun _ _ => trivial) (fun r6 _ => pt_ite (fun _ => fr_kX10_open_40 g0 n0 _ hk4 s4 _ _ qs4) (fun _ => fr_kX10_open_40 g0 n0 _ hk4 s4 _ _ qs4)))))

theorem fr_kX10_open_4L (g0 : GS) (n0 : SD) : ∀ (n : Nat) (s : XS) (x1 : Int32) (x2 : Int32), s.g = g0 ∧ s.n = n0 → Pt (kX10_open_4L n s x1 x2) (fun y => y.2.g = g0 ∧ y.2.n = n0) := by
  intro n
  induction n with
  | zero => intro _ _ _ _; exact pt_none
  | succ n ih =>
    intro s x1 x2 h1
    exact fr_kX10_open_4 g0 n0 (kX10_open_4L n) ih s x1 x2 h1

theorem fr_kX10_open (g0 : GS) (n0 : SD) (s : XS) (h1 : s.g = g0 ∧ s.n = n0) : Pt (kX10_open s) (fun y => y.2.g = g0 ∧ y.2.n = n0) := by
  unfold kX10_open
  exact fr_kX10_open_4L g0 n0 _ s _ _ h1

theorem fr_kX10_buoysLying_4 (g0 : GS) (n0 : SD) (k4 : XS → Int32 → Int32 → Option (Int32 × XS)) (hk4 : ∀ (a0 : XS) (a1 : Int32) (a2 : Int32), a0.g = g0 ∧ a0.n = n0 → Pt (k4 a0 a1 a2) (fun y => y.2.g = g0 ∧ y.2.n = n0)) (s : XS) (x1 : Int32) (x2 : Int32) (h1 : s.g = g0 ∧ s.n = n0) : Pt (kX10_buoysLying_4 k4 s x1 x2) (fun y => y.2.g = g0 ∧ y.2.n = n0) := by
  unfold kX10_buoysLying_4
  exact pt_ite (fun _ => pt_some h1) (fun _ => pt_ite (fun _ => pt_bindP (P := fun _ => True) (fun _ _ => trivial) (fun r3 _ => hk4 _ _ _ h1)) (fun _ => pt_none))

theorem fr_kX10_buoysLying_4L (g0 : GS) (n0 : SD) : ∀ (n : Nat) (s : XS) (x1 : Int32) (x2 : Int32), s.g = g0 ∧ s.n = n0 → Pt (kX10_buoysLying_4L n s x1 x2) (fun y => y.2.g = g0 ∧ y.2.n = n0) := by
  intro n
  induction n with
  | zero => intro _ _ _ _; exact pt_none
  | succ n ih =>
    intro s x1 x2 h1
    exact fr_kX10_buoysLying_4 g0 n0 (kX10_buoysLying_4L n) ih s x1 x2 h1

theorem fr_kX10_buoysLying (g0 : GS) (n0 : SD) (s : XS) (h1 : s.g = g0 ∧ s.n = n0) : Pt (kX10_buoysLying s) (fun y => y.2.g = g0 ∧ y.2.n = n0) := by
  unfold kX10_buoysLying
  exact fr_kX10_buoysLying_4L g0 n0 _ s _ _ h1

theorem fr_kX2_oddsOfAll_61 (n0 : SD) (k5 : JS → Int32 → Int32 → Int32 → Option (Int32 × JS)) (hk5 : ∀ (a0 : JS) (a1 : Int32) (a2 : Int32) (a3 : Int32), a0.d = n0 → Pt (k5 a0 a1 a2 a3) (fun y => y.2.d = n0)) (s : JS) (x2 : Int32) (x3 : Int32) (x4 : Int32) (h1 : s.d = n0) : Pt (kX2_oddsOfAll_61 k5 s x2 x3 x4) (fun y => y.2.d = n0) := by
  unfold kX2_oddsOfAll_61
  exact hk5 _ _ _ _ h1

theorem fr_kX2_oddsOfAll_29 (n0 : SD) (k5 : JS → Int32 → Int32 → Int32 → Option (Int32 × JS)) (k29 : JS → Int32 → Int32 → Int32 → Int32 → Int32 → Option (Int32 × JS)) (hk5 : ∀ (a0 : JS) (a1 : Int32) (a2 : Int32) (a3 : Int32), a0.d = n0 → Pt (k5 a0 a1 a2 a3) (fun y => y.2.d = n0)) (hk29 : ∀ (a0 : JS) (a1 : Int32) (a2 : Int32) (a3 : Int32) (a4 : Int32) (a5 : Int32), a0.d = n0 → Pt (k29 a0 a1 a2 a3 a4 a5) (fun y => y.2.d = n0)) (s : JS) (x2 : Int32) (x3 : Int32) (x4 : Int32) (x5 : Int32) (x6 : Int32) (h1 : s.d = n0) : Pt (kX2_oddsOfAll_29 k5 k29 s x2 x3 x4 x5 x6) (fun y => y.2.d = n0) := by
  unfold kX2_oddsOfAll_29
  exact pt_ite (fun _ => fr_kX2_oddsOfAll_61 n0 _ hk5 s _ _ _ h1) (fun _ => pt_bindI (P := (fun y => y.2.d = n0)) (fr_kX2_oddsIfMay n0 s _ _ h1) (fun r3 s2 qs2 => hk29 _ _ _ _ _ _ qs2))

theorem fr_kX2_oddsOfAll_29L (n0 : SD) (k5 : JS → Int32 → Int32 → Int32 → Option (Int32 × JS)) (hk5 : ∀ (a0 : JS) (a1 : Int32) (a2 : Int32) (a3 : Int32), a0.d = n0 → Pt (k5 a0 a1 a2 a3) (fun y => y.2.d = n0)) : ∀ (n : Nat) (s : JS) (x1 : Int32) (x2 : Int32) (x3 : Int32) (x4 : Int32) (x5 : Int32), s.d = n0 → Pt (kX2_oddsOfAll_29L k5 n s x1 x2 x3 x4 x5) (fun y => y.2.d = n0) := by
  intro n
  induction n with
  | zero => intro _ _ _ _ _ _ _; exact pt_none
  | succ n ih =>
    intro s x1 x2 x3 x4 x5 h1
    exact fr_kX2_oddsOfAll_29 n0 k5 (kX2_oddsOfAll_29L k5 n) hk5 ih s x1 x2 x3 x4 x5 h1

theorem fr_kX2_oddsOfAll_5 (n0 : SD) (k5 : JS → Int32 → Int32 → Int32 → Option (Int32 × JS)) (hk5 : ∀ (a0 : JS) (a1 : Int32) (a2 : Int32) (a3 : Int32), a0.d = n0 → Pt (k5 a0 a1 a2 a3) (fun y => y.2.d = n0)) (s : JS) (x2 : Int32) (x3 : Int32) (x4 : Int32) (h1 : s.d = n0) : Pt (kX2_oddsOfAll_5 k5 s x2 x3 x4) (fun y => y.2.d = n0) := by
  unfold kX2_oddsOfAll_5
  exact pt_ite (fun _ => pt_some h1) (fun _ => pt_ite (fun _ => fr_kX2_oddsOfAll_61 n0 _ hk5 s _ _ _ h1) (fun _ => fr_kX2_oddsOfAll_29L n0 _ hk5 _ s _ _ _ _ _ h1))

theorem fr_kX2_oddsOfAll_5L (n0 : SD) : ∀ (n : Nat) (s : JS) (x1 : Int32) (x2 : Int32) (x3 : Int32), s.d = n0 → Pt (kX2_oddsOfAll_5L n s x1 x2 x3) (fun y => y.2.d = n0) := by
  intro n
  induction n with
  | zero => intro _ _ _ _ _; exact pt_none
  | succ n ih =>
    intro s x1 x2 x3 h1
    exact fr_kX2_oddsOfAll_5 n0 (kX2_oddsOfAll_5L n) ih s x1 x2 x3 h1

theorem fr_kX2_oddsOfAll (n0 : SD) (s : JS) (x2 : Int32) (h1 : s.d = n0) : Pt (kX2_oddsOfAll s x2) (fun y => y.2.d = n0) := by
  unfold kX2_oddsOfAll
  exact fr_kX2_oddsOfAll_5L n0 _ s _ _ _ h1

theorem fr_kX8_believe_73 (n0 : SD) (k2 : JS → Int32 → Int32 → Option JS) (k27 : JS → Int32 → Int32 → Int32 → Int32 → Option JS) (hk2 : ∀ (a0 : JS) (a1 : Int32) (a2 : Int32), a0.d = n0 → Pt (k2 a0 a1 a2) (fun y => y.d = n0)) (hk27 : ∀ (a0 : JS) (a1 : Int32) (a2 : Int32) (a3 : Int32) (a4 : Int32), a0.d = n0 → Pt (k27 a0 a1 a2 a3 a4) (fun y => y.d = n0)) (s : JS) (x2 : Int32) (x3 : Int32) (x4 : Int32) (x5 : Int32) (x6 : Int32) (t0 : Int32) (t1 : Int32) (h1 : s.d = n0) : Pt (kX8_believe_73 k2 k27 s x2 x3 x4 x5 x6 t0 t1) (fun y => y.d = n0) := by
  unfold kX8_believe_73
  exact pt_ite (fun _ => pt_let (P := (fun s : JS => s.d = n0)) h1 (fun s2 qs2 => pt_bindI (P := fun _ => True) (fun _ _ => trivial) (fun r5 s4 _ => pt_let (P := (fun s : JS => s.d = n0)) qs2 (fun s6 qs6 => pt_ite (fun _ => pt_let (P := (fun s : JS => s.d = n0)) qs6 (fun s9 qs9 => hk27 _ _ _ _ _ qs9)) (fun _ => pt_none))))) (fun _ => pt_none)

theorem fr_kX8_believe_27 (n0 : SD) (k2 : JS → Int32 → Int32 → Option JS) (k27 : JS → Int32 → Int32 → Int32 → Int32 → Option JS) (hk2 : ∀ (a0 : JS) (a1 : Int32) (a2 : Int32), a0.d = n0 → Pt (k2 a0 a1 a2) (fun y => y.d = n0)) (hk27 : ∀ (a0 : JS) (a1 : Int32) (a2 : Int32) (a3 : Int32) (a4 : Int32), a0.d = n0 → Pt (k27 a0 a1 a2 a3 a4) (fun y => y.d = n0)) (s : JS) (x2 : Int32) (x3 : Int32) (x4 : Int32) (x5 : Int32) (h1 : s.d = n0) : Pt (kX8_believe_27 k2 k27 s x2 x3 x4 x5) (fun y => y.d = n0) := by
  unfold kX8_believe_27
  exact pt_ite (fun _ => hk2 _ _ _ h1) (fun _ => pt_bindP (P := fun _ => True) (fun _ _ => trivial) (fun r2 _ => pt_ite (fun _ => fr_kX8_believe_73 n0 _ _ hk2 hk27 s _ _ _ _ _ _ _ h1) (fun _ => pt_bindI (P := fun _ => True) (fun _ _ => trivial) (fun r5 s4 _ => pt_let (P := (fun s : JS => s.d = n0)) h1 (fun s6 qs6 => fr_kX8_believe_73 n0 _ _ hk2 hk27 s6 _ _ _ _ _ _ _ qs6)))))

theorem fr_kX8_believe_27L (n0 : SD) (k2 : JS → Int32 → Int32 → Option JS) (hk2 : ∀ (a0 : JS) (a1 : Int32) (a2 : Int32), a0.d = n0 → Pt (k2 a0 a1 a2) (fun y => y.d = n0)) : ∀ (n : Nat) (s : JS) (x1 : Int32) (x2 : Int32) (x3 : Int32) (x4 : Int32), s.d = n0 → Pt (kX8_believe_27L k2 n s x1 x2 x3 x4) (fun y => y.d = n0) := by
  intro n
  induction n with
  | zero => intro _ _ _ _ _ _; exact pt_none
  | succ n ih =>
    intro s x1 x2 x3 x4 h1
    exact fr_kX8_believe_27 n0 k2 (kX8_believe_27L k2 n) hk2 ih s x1 x2 x3 x4 h1

theorem fr_kX8_believe_2 (n0 : SD) (k2 : JS → Int32 → Int32 → Option JS) (hk2 : ∀ (a0 : JS) (a1 : Int32) (a2 : Int32), a0.d = n0 → Pt (k2 a0 a1 a2) (fun y => y.d = n0)) (s : JS) (x2 : Int32) (x3 : Int32) (h1 : s.d = n0) : Pt (kX8_believe_2 k2 s x2 x3) (fun y => y.d = n0) := by
  unfold kX8_believe_2
  exact pt_ite (fun _ => pt_some h1) (fun _ => pt_bindI (P := (fun y => y.2.d = n0)) (fr_kX0_mayBe n0 s _ h1) (fun r3 s2 qs2 => fr_kX8_believe_27L n0 _ hk2 _ s2 _ _ _ _ qs2))

theorem fr_kX8_believe_2L (n0 : SD) : ∀ (n : Nat) (s : JS) (x1 : Int32) (x2 : Int32), s.d = n0 → Pt (kX8_believe_2L n s x1 x2) (fun y => y.d = n0) := by
  intro n
  induction n with
  | zero => intro _ _ _ _; exact pt_none
  | succ n ih =>
    intro s x1 x2 h1
    exact fr_kX8_believe_2 n0 (kX8_believe_2L n) ih s x1 x2 h1

theorem fr_kX8_believe (n0 : SD) (s : JS) (x2 : Int32) (h1 : s.d = n0) : Pt (kX8_believe s x2) (fun y => y.d = n0) := by
  unfold kX8_believe
  exact fr_kX8_believe_2L n0 _ s _ _ h1

theorem fr_kX10_all (g0 : GS) (n0 : SD) (s : XS) (h1 : s.g = g0 ∧ s.n = n0) : Pt (kX10_all s) (fun y => y.2.g = g0 ∧ y.2.n = n0) := by
  unfold kX10_all
  exact pt_bindI (P := (fun y => y.2.d = n0)) (fr_kX2_oddsOfAll n0 (JS.mk s.k s.n) _ h1.2) (fun r2 s1 qs1 => pt_let (P := (fun s : XS => s.g = g0 ∧ s.n = n0)) ⟨h1.1, qs1⟩ (fun s3 qs3 => pt_some qs3))

theorem fr_kX10_share (g0 : GS) (n0 : SD) (s : XS) (x1 : Int32) (x2 : Int32) (h1 : s.g = g0 ∧ s.n = n0) : Pt (kX10_share s x1 x2) (fun y => y.2.g = g0 ∧ y.2.n = n0) := by
  unfold kX10_share
  exact pt_bindI (P := fun _ => True) (fun _ _ => trivial) (fun r2 s1 _ => pt_let (P := (fun s : XS => s.g = g0 ∧ s.n = n0)) ⟨h1.1, h1.2⟩ (fun s3 qs3 => pt_ite (fun _ => pt_some qs3) (fun _ => pt_bindP (P := fun _ => True) (fun _ _ => trivial) (fun r6 _ => pt_ite (fun _ => pt_some qs3) (fun _ => pt_bindI (P := (fun y => y.2.d = n0)) (fr_kX0_mayBe n0 (JS.mk s3.k s3.n) _ qs3.2) (fun r9 s8 qs8 => pt_let (P := (fun s : XS => s.g = g0 ∧ s.n = n0)) ⟨qs3.1, qs8⟩ (fun s10 qs10 => pt_bindP (P := fun _ => True) (fun _ _ => trivial) (fun r12 _ => pt_ite (fun _ => pt_some qs10) (fun _ => pt_bindI (P := fun _ => True) (fun _ _ => trivial) (fun r15 s14 _ => pt_let (P := (fun s : XS => s.g = g0 ∧ s.n = n0)) ⟨qs10.1, qs10.2⟩ (fun s16 qs16 => pt_bindI (P := (fun y => y.2.d = n0)) (fr_kX2_oddsOfAll n0 (JS.mk s16.k s16.n) _ qs16.2) (fun r19 s18 qs18 => pt_let (P := (fun s : XS => s.g = g0 ∧ s.n = n0)) ⟨qs16.1, qs18⟩ (fun s20 qs20 => pt_some qs20)))))))))))))

theorem fr_kX10_drawn_29 (g0 : GS) (n0 : SD) (k29 : XS → Int32 → Int32 → Int32 → Int32 → Option (Int32 × XS)) (hk29 : ∀ (a0 : XS) (a1 : Int32) (a2 : Int32) (a3 : Int32) (a4 : Int32), a0.g = g0 ∧ a0.n = n0 → Pt (k29 a0 a1 a2 a3 a4) (fun y => y.2.g = g0 ∧ y.2.n = n0)) (s : XS) (x1 : Int32) (x2 : Int32) (x3 : Int32) (x4 : Int32) (h1 : s.g = g0 ∧ s.n = n0) : Pt (kX10_drawn_29 k29 s x1 x2 x3 x4) (fun y => y.2.g = g0 ∧ y.2.n = n0) := by
  unfold kX10_drawn_29
  exact pt_ite (fun _ => pt_bindP (P := fun _ => True) (fun _ _ => trivial) (fun r2 _ => pt_some h1)) (fun _ => pt_ite (fun _ => pt_bindI (P := fun _ => True) (fun _ _ => trivial) (fun r5 s4 _ => pt_let (P := (fun s : XS => s.g = g0 ∧ s.n = n0)) ⟨h1.1, h1.2⟩ (fun s6 qs6 => hk29 _ _ _ _ _ qs6))) (fun _ => pt_none))

theorem fr_kX10_drawn_29L (g0 : GS) (n0 : SD) : ∀ (n : Nat) (s : XS) (x1 : Int32) (x2 : Int32) (x3 : Int32) (x4 : Int32), s.g = g0 ∧ s.n = n0 → Pt (kX10_drawn_29L n s x1 x2 x3 x4) (fun y => y.2.g = g0 ∧ y.2.n = n0) := by
  intro n
  induction n with
  | zero => intro _ _ _ _ _ _; exact pt_none
  | succ n ih =>
    intro s x1 x2 x3 x4 h1
    exact fr_kX10_drawn_29 g0 n0 (kX10_drawn_29L n) ih s x1 x2 x3 x4 h1

theorem fr_kX10_drawn (g0 : GS) (n0 : SD) (s : XS) (x1 : Int32) (x2 : Int32) (h1 : s.g = g0 ∧ s.n = n0) : Pt (kX10_drawn s x1 x2) (fun y => y.2.g = g0 ∧ y.2.n = n0) := by
  unfold kX10_drawn
  exact pt_bindI (P := fun _ => True) (fun _ _ => trivial) (fun r2 s1 _ => pt_let (P := (fun s : XS => s.g = g0 ∧ s.n = n0)) ⟨h1.1, h1.2⟩ (fun s3 qs3 => pt_ite (fun _ => pt_some qs3) (fun _ => pt_ite (fun _ => pt_some qs3) (fun _ => pt_ite (fun _ => fr_kX10_drawn_29L g0 n0 _ s3 _ _ _ _ qs3) (fun _ => pt_some qs3)))))

theorem fr_kX10_fit_50 (g0 : GS) (n0 : SD) (s : XS) (t0 : Int32) (t1 : Int32) (h1 : s.g = g0 ∧ s.n = n0) : Pt (kX10_fit_50 s t0 t1) (fun y => y.2.g = g0 ∧ y.2.n = n0) := by
  unfold kX10_fit_50
  exact pt_bindI (P := fun _ => True) (fun _ _ => trivial) (fun r2 s1 _ => pt_let (P := (fun s : XS => s.g = g0 ∧ s.n = n0)) ⟨h1.1, h1.2⟩ (fun s3 qs3 => pt_some qs3))

theorem fr_kX10_fit (g0 : GS) (n0 : SD) (s : XS) (x1 : Int32) (x2 : Int32) (x3 : Int32) (h1 : s.g = g0 ∧ s.n = n0) : Pt (kX10_fit s x1 x2 x3) (fun y => y.2.g = g0 ∧ y.2.n = n0) := by
  unfold kX10_fit
  exact pt_bindI (P := fun _ => True) (fun _ _ => trivial) (fun r2 s1 _ => pt_let (P := (fun s : XS => s.g = g0 ∧ s.n = n0)) ⟨h1.1, h1.2⟩ (fun s3 qs3 => pt_ite (fun _ => pt_some qs3) (fun _ => pt_ite (fun _ => pt_some qs3) (fun _ => pt_ite (fun _ => pt_bindP (P := (fun s : JS => s.d = n0)) (fr_kX8_believe n0 (JS.mk s3.k s3.n) _ qs3.2) (fun s8 qs8 => pt_let (P := (fun s : XS => s.g = g0 ∧ s.n = n0)) ⟨qs3.1, qs8⟩ (fun s9 qs9 => pt_ite (fun _ => fr_kX10_fit_50 g0 n0 s9 _ _ qs9) (fun _ => fr_kX10_fit_50 g0 n0 s9 _ _ qs9)))) (fun _ => pt_some qs3)))))

theorem fr_kX10_lie (g0 : GS) (n0 : SD) (s : XS) (x1 : Int32) (x2 : Int32) (h1 : s.g = g0 ∧ s.n = n0) : Pt (kX10_lie s x1 x2) (fun y => y.2.g = g0 ∧ y.2.n = n0) := by
  unfold kX10_lie
  exact pt_bindI (P := fun _ => True) (fun _ _ => trivial) (fun r2 s1 _ => pt_let (P := (fun s : XS => s.g = g0 ∧ s.n = n0)) ⟨h1.1, h1.2⟩ (fun s3 qs3 => pt_ite (fun _ => pt_some qs3) (fun _ => pt_bindP (P := (fun s : JS => s.d = n0)) (fr_kX8_believe n0 (JS.mk s3.k s3.n) _ qs3.2) (fun s6 qs6 => pt_let (P := (fun s : XS => s.g = g0 ∧ s.n = n0)) ⟨qs3.1, qs6⟩ (fun s7 qs7 => pt_bindI (P := fun _ => True) (fun _ _ => trivial) (fun r10 s9 _ => pt_let (P := (fun s : XS => s.g = g0 ∧ s.n = n0)) ⟨qs7.1, qs7.2⟩ (fun s11 qs11 => pt_some qs11)))))))

theorem fr_kX10_ask (g0 : GS) (n0 : SD) (s : XS) (x1 : Int32) (x2 : Int32) (h1 : s.g = g0 ∧ s.n = n0) : Pt (kX10_ask s x1 x2) (fun y => y.2.g = g0 ∧ y.2.n = n0) := by
  unfold kX10_ask
  exact pt_bindI (P := fun _ => True) (fun _ _ => trivial) (fun r2 s1 _ => pt_let (P := (fun s : XS => s.g = g0 ∧ s.n = n0)) ⟨h1.1, h1.2⟩ (fun s3 qs3 => pt_ite (fun _ => pt_some qs3) (fun _ => pt_bindP (P := (fun s : JS => s.d = n0)) (fr_kX8_believe n0 (JS.mk s3.k s3.n) _ qs3.2) (fun s6 qs6 => pt_let (P := (fun s : XS => s.g = g0 ∧ s.n = n0)) ⟨qs3.1, qs6⟩ (fun s7 qs7 => pt_bindI (P := fun _ => True) (fun _ _ => trivial) (fun r10 s9 _ => pt_let (P := (fun s : XS => s.g = g0 ∧ s.n = n0)) ⟨qs7.1, qs7.2⟩ (fun s11 qs11 => pt_some qs11)))))))

theorem fr_kX0_thereNow (n0 : SD) (s : JS) (x2 : Int32) (h1 : s.d = n0) : Pt (kX0_thereNow s x2) (fun y => y.2.d = n0) := by
  unfold kX0_thereNow
  exact pt_ite (fun _ => pt_bindI (P := fun _ => True) (fun _ _ => trivial) (fun r3 s2 _ => pt_let (P := (fun s : JS => s.d = n0)) h1 (fun s4 qs4 => pt_some qs4))) (fun _ => pt_none)

theorem fr_kX0_guessThere_13 (n0 : SD) (k13 : JS → Int32 → Int32 → Int32 → Option (Int32 × JS)) (hk13 : ∀ (a0 : JS) (a1 : Int32) (a2 : Int32) (a3 : Int32), a0.d = n0 → Pt (k13 a0 a1 a2 a3) (fun y => y.2.d = n0)) (s : JS) (x2 : Int32) (x3 : Int32) (x4 : Int32) (h1 : s.d = n0) : Pt (kX0_guessThere_13 k13 s x2 x3 x4) (fun y => y.2.d = n0) := by
  unfold kX0_guessThere_13
  exact pt_ite (fun _ => pt_some h1) (fun _ => pt_ite (fun _ => pt_bindI (P := fun _ => True) (fun _ _ => trivial) (fun r4 s3 _ => pt_let (P := (fun s : JS => s.d = n0)) h1 (fun s5 qs5 => hk13 _ _ _ _ qs5))) (fun _ => pt_none))

theorem fr_kX0_guessThere_13L (n0 : SD) : ∀ (n : Nat) (s : JS) (x1 : Int32) (x2 : Int32) (x3 : Int32), s.d = n0 → Pt (kX0_guessThere_13L n s x1 x2 x3) (fun y => y.2.d = n0) := by
  intro n
  induction n with
  | zero => intro _ _ _ _ _; exact pt_none
  | succ n ih =>
    intro s x1 x2 x3 h1
    exact fr_kX0_guessThere_13 n0 (kX0_guessThere_13L n) ih s x1 x2 x3 h1

theorem fr_kX0_guessThere (n0 : SD) (s : JS) (x2 : Int32) (h1 : s.d = n0) : Pt (kX0_guessThere s x2) (fun y => y.2.d = n0) := by
  unfold kX0_guessThere
  exact fr_kX0_guessThere_13L n0 _ s _ _ _ h1

theorem fr_kX0_needOf (n0 : SD) (s : JS) (x2 : Int32) (x3 : Int32) (x4 : Int32) (h1 : s.d = n0) : Pt (kX0_needOf s x2 x3 x4) (fun y => y.2.d = n0) := by
  unfold kX0_needOf
  exact pt_bindP (P := (fun s : JS => s.d = n0)) (fr_kX0_clearVars n0 s h1) (fun s1 qs1 => pt_bindP (P := (fun s : JS => s.d = n0)) (fr_kX0_setParty n0 s1 _ qs1) (fun s2 qs2 => pt_bindP (P := (fun s : JS => s.d = n0)) (fr_kX0_setWave n0 s2 _ qs2) (fun s3 qs3 => pt_bindI (P := fun _ => True) (fun _ _ => trivial) (fun r5 s4 _ => pt_let (P := (fun s : JS => s.d = n0)) qs3 (fun s6 qs6 => pt_let (P := (fun s : JS => s.d = n0)) qs6 (fun s8 qs8 => pt_bindI (P := fun _ => True) (fun _ _ => trivial) (fun r11 s10 _ => pt_let (P := (fun s : JS => s.d = n0)) qs8 (fun s12 qs12 => pt_bindP (P := fun _ => True) (fun _ _ => trivial) (fun r14 _ => pt_some qs12)))))))))

theorem fr_kX0_isBearing (n0 : SD) (s : JS) (x2 : Int32) (x3 : Int32) (x4 : Int32) (h1 : s.d = n0) : Pt (kX0_isBearing s x2 x3 x4) (fun y => y.2.d = n0) := by
  unfold kX0_isBearing
  exact pt_bindI (P := fun _ => True) (fun _ _ => trivial) (fun r2 s1 _ => pt_let (P := (fun s : JS => s.d = n0)) h1 (fun s3 qs3 => pt_bindI (P := (fun y => y.2.d = n0)) (fr_kX0_needOf n0 s3 _ _ _ qs3) (fun r6 s5 qs5 => pt_ite (fun _ => pt_some qs5) (fun _ => pt_some qs5))))

theorem fr_kX0_fareOf (n0 : SD) (s : JS) (x2 : Int32) (h1 : s.d = n0) : Pt (kX0_fareOf s x2) (fun y => y.2.d = n0) := by
  unfold kX0_fareOf
  exact pt_bindP (P := (fun s : JS => s.d = n0)) (fr_kX0_clearVars n0 s h1) (fun s1 qs1 => pt_bindP (P := (fun s : JS => s.d = n0)) (fr_kX0_setParty n0 s1 _ qs1) (fun s2 qs2 => pt_bindI (P := fun _ => True) (fun _ _ => trivial) (fun r4 s3 _ => pt_let (P := (fun s : JS => s.d = n0)) qs2 (fun s5 qs5 => pt_bindP (P := fun _ => True) (fun _ _ => trivial) (fun r7 _ => pt_some qs5)))))

theorem fr_kX0_isDaring (n0 : SD) (s : JS) (x2 : Int32) (h1 : s.d = n0) : Pt (kX0_isDaring s x2) (fun y => y.2.d = n0) := by
  unfold kX0_isDaring
  exact pt_bindP (P := (fun s : JS => s.d = n0)) (fr_kX0_clearVars n0 s h1) (fun s1 qs1 => pt_bindP (P := (fun s : JS => s.d = n0)) (fr_kX0_setParty n0 s1 _ qs1) (fun s2 qs2 => pt_bindI (P := fun _ => True) (fun _ _ => trivial) (fun r4 s3 _ => pt_let (P := (fun s : JS => s.d = n0)) qs2 (fun s5 qs5 => pt_ite (fun _ => pt_some qs5) (fun _ => pt_some qs5)))))

theorem fr_kX0_shiftsOf (n0 : SD) (s : JS) (x2 : Int32) (h1 : s.d = n0) : Pt (kX0_shiftsOf s x2) (fun y => y.2.d = n0) := by
  unfold kX0_shiftsOf
  exact pt_bindP (P := (fun s : JS => s.d = n0)) (fr_kX0_clearVars n0 s h1) (fun s1 qs1 => pt_bindP (P := (fun s : JS => s.d = n0)) (fr_kX0_setWave n0 s1 _ qs1) (fun s2 qs2 => pt_bindI (P := fun _ => True) (fun _ _ => trivial) (fun r4 s3 _ => pt_let (P := (fun s : JS => s.d = n0)) qs2 (fun s5 qs5 => pt_bindP (P := fun _ => True) (fun _ _ => trivial) (fun r7 _ => pt_some qs5)))))

theorem fr_kX0_sendBy_113 (n0 : SD) (k24 : JS → Int32 → Int32 → Int32 → Int32 → Int32 → Option (Int32 × JS)) (hk24 : ∀ (a0 : JS) (a1 : Int32) (a2 : Int32) (a3 : Int32) (a4 : Int32) (a5 : Int32), a0.d = n0 → Pt (k24 a0 a1 a2 a3 a4 a5) (fun y => y.2.d = n0)) (s : JS) (x2 : Int32) (x3 : Int32) (x4 : Int32) (x5 : Int32) (x6 : Int32) (h1 : s.d = n0) : Pt (kX0_sendBy_113 k24 s x2 x3 x4 x5 x6) (fun y => y.2.d = n0) := by
  unfold kX0_sendBy_113
  exact hk24 _ _ _ _ _ _ h1

theorem fr_kX2_bestThing_63 (n0 : SD) (k9 : JS → Int32 → Int32 → Int32 → Int32 → Int32 → Option (Int32 × JS)) (hk9 : ∀ (a0 : JS) (a1 : Int32) (a2 : Int32) (a3 : Int32) (a4 : Int32) (a5 : Int32), a0.d = n0 → Pt (k9 a0 a1 a2 a3 a4 a5) (fun y => y.2.d = n0)) (s : JS) (x2 : Int32) (x3 : Int32) (x4 : Int32) (x5 : Int32) (x6 : Int32) (h1 : s.d = n0) : Pt (kX2_bestThing_63 k9 s x2 x3 x4 x5 x6) (fun y => y.2.d = n0) := by
  unfold kX2_bestThing_63
  exact hk9 _ _ _ _ _ _ h1

theorem fr_kX2_bestThing_55 (n0 : SD) (k9 : JS → Int32 → Int32 → Int32 → Int32 → Int32 → Option (Int32 × JS)) (hk9 : ∀ (a0 : JS) (a1 : Int32) (a2 : Int32) (a3 : Int32) (a4 : Int32) (a5 : Int32), a0.d = n0 → Pt (k9 a0 a1 a2 a3 a4 a5) (fun y => y.2.d = n0)) (s : JS) (x2 : Int32) (x3 : Int32) (x6 : Int32) (x7 : Int32) (h1 : s.d = n0) : Pt (kX2_bestThing_55 k9 s x2 x3 x6 x7) (fun y => y.2.d = n0) := by
  unfold kX2_bestThing_55
  exact fr_kX2_bestThing_63 n0 _ hk9 s _ _ _ _ _ h1

theorem fr_kX2_bestThing_9 (n0 : SD) (k9 : JS → Int32 → Int32 → Int32 → Int32 → Int32 → Option (Int32 × JS)) (hk9 : ∀ (a0 : JS) (a1 : Int32) (a2 : Int32) (a3 : Int32) (a4 : Int32) (a5 : Int32), a0.d = n0 → Pt (k9 a0 a1 a2 a3 a4 a5) (fun y => y.2.d = n0)) (s : JS) (x2 : Int32) (x3 : Int32) (x4 : Int32) (x5 : Int32) (x6 : Int32) (h1 : s.d = n0) : Pt (kX2_bestThing_9 k9 s x2 x3 x4 x5 x6) (fun y => y.2.d = n0) := by
  unfold kX2_bestThing_9
  exact pt_ite (fun _ => pt_some h1) (fun _ => pt_bindI (P := (fun y => y.2.d = n0)) (fr_kX2_oddsIfMay n0 s _ _ h1) (fun r3 s2 qs2 => pt_ite (fun _ => fr_kX2_bestThing_63 n0 _ hk9 s2 _ _ _ _ _ qs2) (fun _ => pt_ite (fun _ => fr_kX2_bestThing_55 n0 _ hk9 s2 _ _ _ _ qs2) (fun _ => pt_bindI (P := (fun y => y.2.d = n0)) (fr_kX0_needOf n0 s2 _ _ _ qs2) (fun r7 s6 qs6 => pt_ite (fun _ => fr_kX2_bestThing_63 n0 _ hk9 s6 _ _ _ _ _ qs6) (fun _ => fr_kX2_bestThing_55 n0 _ hk9 s6 _ _ _ _ qs6))))))

theorem fr_kX2_bestThing_9L (n0 : SD) : ∀ (n : Nat) (s : JS) (x1 : Int32) (x2 : Int32) (x3 : Int32) (x4 : Int32) (x5 : Int32), s.d = n0 → Pt (kX2_bestThing_9L n s x1 x2 x3 x4 x5) (fun y => y.2.d = n0) := by
  intro n
  induction n with
  | zero => intro _ _ _ _ _ _ _; exact pt_none
  | succ n ih =>
    intro s x1 x2 x3 x4 x5 h1
    exact fr_kX2_bestThing_9 n0 (kX2_bestThing_9L n) ih s x1 x2 x3 x4 x5 h1

theorem fr_kX2_bestThing (n0 : SD) (s : JS) (x2 : Int32) (x3 : Int32) (h1 : s.d = n0) : Pt (kX2_bestThing s x2 x3) (fun y => y.2.d = n0) := by
  unfold kX2_bestThing
  exact fr_kX2_bestThing_9L n0 _ s _ _ _ _ _ h1
end
section
/-! ===== what the queries leave as it was ===== -/
theorem fr_kX2_borneOver_3 (n0 : SD) (k3 : JS → Int32 → Int32 → Int32 → Option (Int32 × JS)) (hk3 : ∀ (a0 : JS) (a1 : Int32) (a2 : Int32) (a3 : Int32), a0.d = n0 → Pt (k3 a0 a1 a2 a3) (fun y => y.2.d = n0)) (s : JS) (x2 : Int32) (x3 : Int32) (x4 : Int32) (h1 : s.d = n0) : Pt (kX2_borneOver_3 k3 s x2 x3 x4) (fun y => y.2.d = n0) := by
  unfold kX2_borneOver_3
  exact pt_ite (fun _ => pt_some h1) (fun _ => pt_bindP (P := fun _ => True) (fun _ _ => trivial) (fun r2 _ => pt_bindI (P := (fun y => y.2.d = n0)) (fr_kX0_isBearing n0 s _ _ _ h1) (fun r4 s3 qs3 => pt_ite (fun _ => pt_some qs3) (fun _ => hk3 _ _ _ _ qs3))))

theorem fr_kX2_borneOver_3L (n0 : SD) : ∀ (n : Nat) (s : JS) (x1 : Int32) (x2 : Int32) (x3 : Int32), s.d = n0 → Pt (kX2_borneOver_3L n s x1 x2 x3) (fun y => y.2.d = n0) := by
  intro n
  induction n with
  | zero => intro _ _ _ _ _; exact pt_none
  | succ n ih =>
    intro s x1 x2 x3 h1
    exact fr_kX2_borneOver_3 n0 (kX2_borneOver_3L n) ih s x1 x2 x3 h1

theorem fr_kX2_borneOver (n0 : SD) (s : JS) (x2 : Int32) (x3 : Int32) (h1 : s.d = n0) : Pt (kX2_borneOver s x2 x3) (fun y => y.2.d = n0) := by
  unfold kX2_borneOver
  exact fr_kX2_borneOver_3L n0 _ s _ _ _ h1

theorem fr_kX10_wave (g0 : GS) (n0 : SD) (s : XS) (x1 : Int32) (x2 : Int32) (h1 : s.g = g0 ∧ s.n = n0) : Pt (kX10_wave s x1 x2) (fun y => y.2.g = g0 ∧ y.2.n = n0) := by
  unfold kX10_wave
  exact pt_bindI (P := fun _ => True) (fun _ _ => trivial) (fun r2 s1 _ => pt_let (P := (fun s : XS => s.g = g0 ∧ s.n = n0)) ⟨h1.1, h1.2⟩ (fun s3 qs3 => pt_ite (fun _ => pt_some qs3) (fun _ => pt_ite (fun _ => pt_bindI (P := (fun y => y.2.d = n0)) (fr_kX0_mayBe n0 (JS.mk s3.k s3.n) _ qs3.2) (fun r8 s7 qs7 => pt_let (P := (fun s : XS => s.g = g0 ∧ s.n = n0)) ⟨qs3.1, qs7⟩ (fun s9 qs9 => pt_some qs9))) (fun _ => pt_ite (fun _ => pt_ite (fun _ => pt_ite (fun _ => pt_some qs3) (fun _ => pt_ite (fun _ => pt_some qs3) (fun _ => pt_none))) (fun _ => pt_none)) (fun _ => pt_ite (fun _ => pt_ite (fun _ => pt_some qs3) (fun _ => pt_none)) (fun _ => pt_ite (fun _ => pt_ite (fun _ => pt_some qs3) (fun _ => pt_none)) (fun _ => pt_ite (fun _ => pt_bindI (P := (fun y => y.2.d = n0)) (fr_kX0_thereNow n0 (JS.mk s3.k s3.n) _ qs3.2) (fun r21 s20 qs20 => pt_let (P := (fun s : XS => s.g = g0 ∧ s.n = n0)) ⟨qs3.1, qs20⟩ (fun s22 qs22 => pt_some qs22))) (fun _ => pt_ite (fun _ => pt_bindI (P := (fun y => y.2.d = n0)) (fr_kX0_shiftsOf n0 (JS.mk s3.k s3.n) _ qs3.2) (fun r26 s25 qs25 => pt_let (P := (fun s : XS => s.g = g0 ∧ s.n = n0)) ⟨qs3.1, qs25⟩ (fun s27 qs27 => pt_some qs27))) (fun _ => pt_some qs3)))))))))

theorem fr_kX10_party (g0 : GS) (n0 : SD) (s : XS) (x1 : Int32) (x2 : Int32) (h1 : s.g = g0 ∧ s.n = n0) : Pt (kX10_party s x1 x2) (fun y => y.2.g = g0 ∧ y.2.n = n0) := by
  unfold kX10_party
  exact pt_bindI (P := fun _ => True) (fun _ _ => trivial) (fun r2 s1 _ => pt_let (P := (fun s : XS => s.g = g0 ∧ s.n = n0)) ⟨h1.1, h1.2⟩ (fun s3 qs3 => pt_ite (fun _ => pt_some qs3) (fun _ => pt_ite (fun _ => pt_ite (fun _ => pt_some qs3) (fun _ => pt_none)) (fun _ => pt_ite (fun _ => pt_ite (fun _ => pt_some qs3) (fun _ => pt_none)) (fun _ => pt_ite (fun _ => pt_ite (fun _ => pt_some qs3) (fun _ => pt_none)) (fun _ => pt_ite (fun _ => pt_ite (fun _ => pt_some qs3) (fun _ => pt_none)) (fun _ => pt_ite (fun _ => pt_bindI (P := (fun y => y.2.d = n0)) (fr_kX0_fareOf n0 (JS.mk s3.k s3.n) _ qs3.2) (fun r16 s15 qs15 => pt_let (P := (fun s : XS => s.g = g0 ∧ s.n = n0)) ⟨qs3.1, qs15⟩ (fun s17 qs17 => pt_some qs17))) (fun _ => pt_ite (fun _ => pt_bindI (P := (fun y => y.2.d = n0)) (fr_kX0_isDaring n0 (JS.mk s3.k s3.n) _ qs3.2) (fun r21 s20 qs20 => pt_let (P := (fun s : XS => s.g = g0 ∧ s.n = n0)) ⟨qs3.1, qs20⟩ (fun s22 qs22 => pt_ite (fun _ => pt_some qs22) (fun _ => pt_some qs22)))) (fun _ => pt_some qs3)))))))))

theorem fr_kX10_needs (g0 : GS) (n0 : SD) (s : XS) (x1 : Int32) (x2 : Int32) (x3 : Int32) (h1 : s.g = g0 ∧ s.n = n0) : Pt (kX10_needs s x1 x2 x3) (fun y => y.2.g = g0 ∧ y.2.n = n0) := by
  unfold kX10_needs
  exact pt_bindI (P := fun _ => True) (fun _ _ => trivial) (fun r2 s1 _ => pt_let (P := (fun s : XS => s.g = g0 ∧ s.n = n0)) ⟨h1.1, h1.2⟩ (fun s3 qs3 => pt_ite (fun _ => pt_some qs3) (fun _ => pt_bindI (P := fun _ => True) (fun _ _ => trivial) (fun r7 s6 _ => pt_let (P := (fun s : XS => s.g = g0 ∧ s.n = n0)) ⟨qs3.1, qs3.2⟩ (fun s8 qs8 => pt_ite (fun _ => pt_some qs8) (fun _ => pt_bindP (P := fun _ => True) (fun _ _ => trivial) (fun r11 _ => pt_ite (fun _ => pt_some qs8) (fun _ => pt_bindI (P := (fun y => y.2.d = n0)) (fr_kX0_needOf n0 (JS.mk s8.k s8.n) _ _ _ qs8.2) (fun r14 s13 qs13 => pt_let (P := (fun s : XS => s.g = g0 ∧ s.n = n0)) ⟨qs8.1, qs13⟩ (fun s15 qs15 => pt_some qs15))))))))))

theorem fr_kX10_bears (g0 : GS) (n0 : SD) (s : XS) (x1 : Int32) (x2 : Int32) (h1 : s.g = g0 ∧ s.n = n0) : Pt (kX10_bears s x1 x2) (fun y => y.2.g = g0 ∧ y.2.n = n0) := by
  unfold kX10_bears
  exact pt_bindI (P := fun _ => True) (fun _ _ => trivial) (fun r2 s1 _ => pt_let (P := (fun s : XS => s.g = g0 ∧ s.n = n0)) ⟨h1.1, h1.2⟩ (fun s3 qs3 => pt_ite (fun _ => pt_some qs3) (fun _ => pt_bindI (P := fun _ => True) (fun _ _ => trivial) (fun r7 s6 _ => pt_let (P := (fun s : XS => s.g = g0 ∧ s.n = n0)) ⟨qs3.1, qs3.2⟩ (fun s8 qs8 => pt_ite (fun _ => pt_some qs8) (fun _ => pt_bindI (P := (fun y => y.2.d = n0)) (fr_kX2_borneOver n0 (JS.mk s8.k s8.n) _ _ qs8.2) (fun r12 s11 qs11 => pt_let (P := (fun s : XS => s.g = g0 ∧ s.n = n0)) ⟨qs8.1, qs11⟩ (fun s13 qs13 => pt_some qs13))))))))

theorem fr_kX10_sunk_69 (g0 : GS) (n0 : SD) (k17 : XS → Int32 → Int32 → Int32 → Option (Int32 × XS)) (hk17 : ∀ (a0 : XS) (a1 : Int32) (a2 : Int32) (a3 : Int32), a0.g = g0 ∧ a0.n = n0 → Pt (k17 a0 a1 a2 a3) (fun y => y.2.g = g0 ∧ y.2.n = n0)) (s : XS) (x1 : Int32) (x2 : Int32) (x3 : Int32) (h1 : s.g = g0 ∧ s.n = n0) : Pt (kX10_sunk_69 k17 s x1 x2 x3) (fun y => y.2.g = g0 ∧ y.2.n = n0) := by
  unfold kX10_sunk_69
  exact hk17 _ _ _ _ h1

theorem fr_kX10_sunk_17 (g0 : GS) (n0 : SD) (k17 : XS → Int32 → Int32 → Int32 → Option (Int32 × XS)) (hk17 : ∀ (a0 : XS) (a1 : Int32) (a2 : Int32) (a3 : Int32), a0.g = g0 ∧ a0.n = n0 → Pt (k17 a0 a1 a2 a3) (fun y => y.2.g = g0 ∧ y.2.n = n0)) (s : XS) (x1 : Int32) (x2 : Int32) (x3 : Int32) (h1 : s.g = g0 ∧ s.n = n0) : Pt (kX10_sunk_17 k17 s x1 x2 x3) (fun y => y.2.g = g0 ∧ y.2.n = n0) := by
  unfold kX10_sunk_17
  exact pt_ite (fun _ => pt_some h1) (fun _ => pt_ite (fun _ => pt_ite (fun _ => pt_bindI (P := (fun y => y.2.d = n0)) (fr_kX2_borneOver n0 (JS.mk s.k s.n) _ _ h1.2) (fun r5 s4 qs4 => pt_let (P := (fun s : XS => s.g = g0 ∧ s.n = n0)) ⟨h1.1, qs4⟩ (fun s6 qs6 => pt_ite (fun _ => fr_kX10_sunk_69 g0 n0 _ hk17 s6 _ _ _ qs6) (fun _ => fr_kX10_sunk_69 g0 n0 _ hk17 s6 _ _ _ qs6)))) (fun _ => fr_kX10_sunk_69 g0 n0 _ hk17 s _ _ _ h1)) (fun _ => pt_none))

theorem fr_kX10_sunk_17L (g0 : GS) (n0 : SD) : ∀ (n : Nat) (s : XS) (x1 : Int32) (x2 : Int32) (x3 : Int32), s.g = g0 ∧ s.n = n0 → Pt (kX10_sunk_17L n s x1 x2 x3) (fun y => y.2.g = g0 ∧ y.2.n = n0) := by
  intro n
  induction n with
  | zero => intro _ _ _ _ _; exact pt_none
  | succ n ih =>
    intro s x1 x2 x3 h1
    exact fr_kX10_sunk_17 g0 n0 (kX10_sunk_17L n) ih s x1 x2 x3 h1

theorem fr_kX10_sunk (g0 : GS) (n0 : SD) (s : XS) (x1 : Int32) (h1 : s.g = g0 ∧ s.n = n0) : Pt (kX10_sunk s x1) (fun y => y.2.g = g0 ∧ y.2.n = n0) := by
  unfold kX10_sunk
  exact pt_bindI (P := fun _ => True) (fun _ _ => trivial) (fun r2 s1 _ => pt_let (P := (fun s : XS => s.g = g0 ∧ s.n = n0)) ⟨h1.1, h1.2⟩ (fun s3 qs3 => pt_ite (fun _ => pt_some qs3) (fun _ => fr_kX10_sunk_17L g0 n0 _ s3 _ _ _ qs3)))

theorem fr_kX10_dearest_59 (g0 : GS) (n0 : SD) (k20 : XS → Int32 → Int32 → Int32 → Int32 → Option (Int32 × XS)) (hk20 : ∀ (a0 : XS) (a1 : Int32) (a2 : Int32) (a3 : Int32) (a4 : Int32), a0.g = g0 ∧ a0.n = n0 → Pt (k20 a0 a1 a2 a3 a4) (fun y => y.2.g = g0 ∧ y.2.n = n0)) (s : XS) (x1 : Int32) (x2 : Int32) (x3 : Int32) (x4 : Int32) (h1 : s.g = g0 ∧ s.n = n0) : Pt (kX10_dearest_59 k20 s x1 x2 x3 x4) (fun y => y.2.g = g0 ∧ y.2.n = n0) := by
  unfold kX10_dearest_59
  exact hk20 _ _ _ _ _ h1

theorem fr_kX10_dearest_20 (g0 : GS) (n0 : SD) (k20 : XS → Int32 → Int32 → Int32 → Int32 → Option (Int32 × XS)) (hk20 : ∀ (a0 : XS) (a1 : Int32) (a2 : Int32) (a3 : Int32) (a4 : Int32), a0.g = g0 ∧ a0.n = n0 → Pt (k20 a0 a1 a2 a3 a4) (fun y => y.2.g = g0 ∧ y.2.n = n0)) (s : XS) (x1 : Int32) (x2 : Int32) (x3 : Int32) (x4 : Int32) (h1 : s.g = g0 ∧ s.n = n0) : Pt (kX10_dearest_20 k20 s x1 x2 x3 x4) (fun y => y.2.g = g0 ∧ y.2.n = n0) := by
  unfold kX10_dearest_20
  exact pt_ite (fun _ => pt_ite (fun _ => pt_some h1) (fun _ => pt_some h1)) (fun _ => pt_bindI (P := (fun y => y.2.d = n0)) (fr_kX0_fareOf n0 (JS.mk s.k s.n) _ h1.2) (fun r4 s3 qs3 => pt_let (P := (fun s : XS => s.g = g0 ∧ s.n = n0)) ⟨h1.1, qs3⟩ (fun s5 qs5 => pt_ite (fun _ => fr_kX10_dearest_59 g0 n0 _ hk20 s5 _ _ _ _ qs5) (fun _ => fr_kX10_dearest_59 g0 n0 _ hk20 s5 _ _ _ _ qs5))))

theorem fr_kX10_dearest_20L (g0 : GS) (n0 : SD) : ∀ (n : Nat) (s : XS) (x1 : Int32) (x2 : Int32) (x3 : Int32) (x4 : Int32), s.g = g0 ∧ s.n = n0 → Pt (kX10_dearest_20L n s x1 x2 x3 x4) (fun y => y.2.g = g0 ∧ y.2.n = n0) := by
  intro n
  induction n with
  | zero => intro _ _ _ _ _ _; exact pt_none
  | succ n ih =>
    intro s x1 x2 x3 x4 h1
    exact fr_kX10_dearest_20 g0 n0 (kX10_dearest_20L n) ih s x1 x2 x3 x4 h1

theorem fr_kX10_dearest_11 (g0 : GS) (n0 : SD) (s : XS) (x1 : Int32) (h1 : s.g = g0 ∧ s.n = n0) : Pt (kX10_dearest_11 s x1) (fun y => y.2.g = g0 ∧ y.2.n = n0) := by
  unfold kX10_dearest_11
  exact fr_kX10_dearest_20L g0 n0 _ s _ _ _ _ h1

theorem fr_kX10_dearest (g0 : GS) (n0 : SD) (s : XS) (x1 : Int32) (h1 : s.g = g0 ∧ s.n = n0) : Pt (kX10_dearest s x1) (fun y => y.2.g = g0 ∧ y.2.n = n0) := by
  unfold kX10_dearest
  exact pt_ite (fun _ => fr_kX10_dearest_11 g0 n0 s _ h1) (fun _ => pt_ite (fun _ => fr_kX10_dearest_11 g0 n0 s _ h1) (fun _ => pt_some h1))

theorem fr_kX10_darers_48 (g0 : GS) (n0 : SD) (k4 : XS → Int32 → Int32 → Option (Int32 × XS)) (hk4 : ∀ (a0 : XS) (a1 : Int32) (a2 : Int32), a0.g = g0 ∧ a0.n = n0 → Pt (k4 a0 a1 a2) (fun y => y.2.g = g0 ∧ y.2.n = n0)) (s : XS) (x1 : Int32) (x2 : Int32) (h1 : s.g = g0 ∧ s.n = n0) : Pt (kX10_darers_48 k4 s x1 x2) (fun y => y.2.g = g0 ∧ y.2.n = n0) := by
  unfold kX10_darers_48
  exact hk4 _ _ _ h1

theorem fr_kX10_darers_4 (g0 : GS) (n0 : SD) (k4 : XS → Int32 → Int32 → Option (Int32 × XS)) (hk4 : ∀ (a0 : XS) (a1 : Int32) (a2 : Int32), a0.g = g0 ∧ a0.n = n0 → Pt (k4 a0 a1 a2) (fun y => y.2.g = g0 ∧ y.2.n = n0)) (s : XS) (x1 : Int32) (x2 : Int32) (h1 : s.g = g0 ∧ s.n = n0) : Pt (kX10_darers_4 k4 s x1 x2) (fun y => y.2.g = g0 ∧ y.2.n = n0) := by
  unfold kX10_darers_4
  exact pt_ite (fun _ => pt_some h1) (fun _ => pt_ite (fun _ => pt_ite (fun _ => pt_bindI (P := (fun y => y.2.d = n0)) (fr_kX0_isDaring n0 (JS.mk s.k s.n) _ h1.2) (fun r5 s4 qs4 => pt_let (P := (fun s : XS => s.g = g0 ∧ s.n = n0)) ⟨h1.1, qs4⟩ (fun s6 qs6 => pt_ite (fun _ => fr_kX10_darers_48 g0 n0 _ hk4 s6 _ _ qs6) (fun _ => fr_kX10_darers_48 g0 n0 _ hk4 s6 _ _ qs6)))) (fun _ => fr_kX10_darers_48 g0 n0 _ hk4 s _ _ h1)) (fun _ => pt_none))

theorem fr_kX10_darers_4L (g0 : GS) (n0 : SD) : ∀ (n : Nat) (s : XS) (x1 : Int32) (x2 : Int32), s.g = g0 ∧ s.n = n0 → Pt (kX10_darers_4L n s x1 x2) (fun y => y.2.g = g0 ∧ y.2.n = n0) := by
  intro n
  induction n with
  | zero => intro _ _ _ _; exact pt_none
  | succ n ih =>
    intro s x1 x2 h1
    exact fr_kX10_darers_4 g0 n0 (kX10_darers_4L n) ih s x1 x2 h1

theorem fr_kX10_darers (g0 : GS) (n0 : SD) (s : XS) (h1 : s.g = g0 ∧ s.n = n0) : Pt (kX10_darers s) (fun y => y.2.g = g0 ∧ y.2.n = n0) := by
  unfold kX10_darers
  exact fr_kX10_darers_4L g0 n0 _ s _ _ h1

theorem fr_kX10_year_63 (g0 : GS) (n0 : SD) (k29 : XS → Int32 → Int32 → Int32 → Int32 → Option (Int32 × XS)) (hk29 : ∀ (a0 : XS) (a1 : Int32) (a2 : Int32) (a3 : Int32) (a4 : Int32), a0.g = g0 ∧ a0.n = n0 → Pt (k29 a0 a1 a2 a3 a4) (fun y => y.2.g = g0 ∧ y.2.n = n0)) (s : XS) (x1 : Int32) (x2 : Int32) (x3 : Int32) (x4 : Int32) (h1 : s.g = g0 ∧ s.n = n0) : Pt (kX10_year_63 k29 s x1 x2 x3 x4) (fun y => y.2.g = g0 ∧ y.2.n = n0) := by
  unfold kX10_year_63
  exact hk29 _ _ _ _ _ h1

theorem fr_kX10_year_29 (g0 : GS) (n0 : SD) (k29 : XS → Int32 → Int32 → Int32 → Int32 → Option (Int32 × XS)) (hk29 : ∀ (a0 : XS) (a1 : Int32) (a2 : Int32) (a3 : Int32) (a4 : Int32), a0.g = g0 ∧ a0.n = n0 → Pt (k29 a0 a1 a2 a3 a4) (fun y => y.2.g = g0 ∧ y.2.n = n0)) (s : XS) (x1 : Int32) (x2 : Int32) (x3 : Int32) (x4 : Int32) (h1 : s.g = g0 ∧ s.n = n0) : Pt (kX10_year_29 k29 s x1 x2 x3 x4) (fun y => y.2.g = g0 ∧ y.2.n = n0) := by
  unfold kX10_year_29
  exact pt_ite (fun _ => pt_some h1) (fun _ => pt_bindI (P := (fun y => y.2.d = n0)) (fr_kX0_guessThere n0 (JS.mk s.k s.n) _ h1.2) (fun r3 s2 qs2 => pt_let (P := (fun s : XS => s.g = g0 ∧ s.n = n0)) ⟨h1.1, qs2⟩ (fun s4 qs4 => pt_ite (fun _ => fr_kX10_year_63 g0 n0 _ hk29 s4 _ _ _ _ qs4) (fun _ => fr_kX10_year_63 g0 n0 _ hk29 s4 _ _ _ _ qs4))))

theorem fr_kX10_year_29L (g0 : GS) (n0 : SD) : ∀ (n : Nat) (s : XS) (x1 : Int32) (x2 : Int32) (x3 : Int32) (x4 : Int32), s.g = g0 ∧ s.n = n0 → Pt (kX10_year_29L n s x1 x2 x3 x4) (fun y => y.2.g = g0 ∧ y.2.n = n0) := by
  intro n
  induction n with
  | zero => intro _ _ _ _ _ _; exact pt_none
  | succ n ih =>
    intro s x1 x2 x3 x4 h1
    exact fr_kX10_year_29 g0 n0 (kX10_year_29L n) ih s x1 x2 x3 x4 h1

theorem fr_kX10_year (g0 : GS) (n0 : SD) (s : XS) (x1 : Int32) (x2 : Int32) (h1 : s.g = g0 ∧ s.n = n0) : Pt (kX10_year s x1 x2) (fun y => y.2.g = g0 ∧ y.2.n = n0) := by
  unfold kX10_year
  exact pt_bindI (P := fun _ => True) (fun _ _ => trivial) (fun r2 s1 _ => pt_let (P := (fun s : XS => s.g = g0 ∧ s.n = n0)) ⟨h1.1, h1.2⟩ (fun s3 qs3 => pt_ite (fun _ => pt_some qs3) (fun _ => pt_ite (fun _ => pt_some qs3) (fun _ => pt_ite (fun _ => fr_kX10_year_29L g0 n0 _ s3 _ _ _ _ qs3) (fun _ => pt_some qs3)))))

theorem fr_kX10_faresOfAllHere_42 (g0 : GS) (n0 : SD) (k4 : XS → Int32 → Int32 → Option (Int32 × XS)) (hk4 : ∀ (a0 : XS) (a1 : Int32) (a2 : Int32), a0.g = g0 ∧ a0.n = n0 → Pt (k4 a0 a1 a2) (fun y => y.2.g = g0 ∧ y.2.n = n0)) (s : XS) (x1 : Int32) (x2 : Int32) (h1 : s.g = g0 ∧ s.n = n0) : Pt (kX10_faresOfAllHere_42 k4 s x1 x2) (fun y => y.2.g = g0 ∧ y.2.n = n0) := by
  unfold kX10_faresOfAllHere_42
  exact hk4 _ _ _ h1

theorem fr_kX10_faresOfAllHere_4 (g0 : GS) (n0 : SD) (k4 : XS → Int32 → Int32 → Option (Int32 × XS)) (hk4 : ∀ (a0 : XS) (a1 : Int32) (a2 : Int32), a0.g = g0 ∧ a0.n = n0 → Pt (k4 a0 a1 a2) (fun y => y.2.g = g0 ∧ y.2.n = n0)) (s : XS) (x1 : Int32) (x2 : Int32) (h1 : s.g = g0 ∧ s.n = n0) : Pt (kX10_faresOfAllHere_4 k4 s x1 x2) (fun y => y.2.g = g0 ∧ y.2.n = n0) := by
  unfold kX10_faresOfAllHere_4
  exact pt_ite (fun _ => pt_some h1) (fun _ => pt_ite (fun _ => pt_ite (fun _ => pt_bindI (P := (fun y => y.2.d = n0)) (fr_kX0_fareOf n0 (JS.mk s.k s.n) _ h1.2) (fun r5 s4 qs4 => pt_let (P := (fun s : XS => s.g = g0 ∧ s.n = n0)) ⟨h1.1, qs4⟩ (fun s6 qs6 => fr_kX10_faresOfAllHere_42 g0 n0 _ hk4 s6 _ _ qs6))) (fun _ => fr_kX10_faresOfAllHere_42 g0 n0 _ hk4 s _ _ h1)) (fun _ => pt_none))

theorem fr_kX10_faresOfAllHere_4L (g0 : GS) (n0 : SD) : ∀ (n : Nat) (s : XS) (x1 : Int32) (x2 : Int32), s.g = g0 ∧ s.n = n0 → Pt (kX10_faresOfAllHere_4L n s x1 x2) (fun y => y.2.g = g0 ∧ y.2.n = n0) := by
  intro n
  induction n with
  | zero => intro _ _ _ _; exact pt_none
  | succ n ih =>
    intro s x1 x2 h1
    exact fr_kX10_faresOfAllHere_4 g0 n0 (kX10_faresOfAllHere_4L n) ih s x1 x2 h1

theorem fr_kX10_faresOfAllHere (g0 : GS) (n0 : SD) (s : XS) (h1 : s.g = g0 ∧ s.n = n0) : Pt (kX10_faresOfAllHere s) (fun y => y.2.g = g0 ∧ y.2.n = n0) := by
  unfold kX10_faresOfAllHere
  exact fr_kX10_faresOfAllHere_4L g0 n0 _ s _ _ h1

theorem fr_kX2_bestGuess_13 (n0 : SD) (k13 : JS → Int32 → Int32 → Int32 → Option (Int32 × JS)) (hk13 : ∀ (a0 : JS) (a1 : Int32) (a2 : Int32) (a3 : Int32), a0.d = n0 → Pt (k13 a0 a1 a2 a3) (fun y => y.2.d = n0)) (s : JS) (x2 : Int32) (x3 : Int32) (x4 : Int32) (h1 : s.d = n0) : Pt (kX2_bestGuess_13 k13 s x2 x3 x4) (fun y => y.2.d = n0) := by
  unfold kX2_bestGuess_13
  exact pt_ite (fun _ => pt_some h1) (fun _ => pt_bindI (P := (fun y => y.2.d = n0)) (fr_kX2_bestThing n0 s _ _ h1) (fun r3 s2 qs2 => pt_ite (fun _ => pt_some qs2) (fun _ => hk13 _ _ _ _ qs2)))

theorem fr_kX2_bestGuess_13L (n0 : SD) : ∀ (n : Nat) (s : JS) (x1 : Int32) (x2 : Int32) (x3 : Int32), s.d = n0 → Pt (kX2_bestGuess_13L n s x1 x2 x3) (fun y => y.2.d = n0) := by
  intro n
  induction n with
  | zero => intro _ _ _ _ _; exact pt_none
  | succ n ih =>
    intro s x1 x2 x3 h1
    exact fr_kX2_bestGuess_13 n0 (kX2_bestGuess_13L n) ih s x1 x2 x3 h1

theorem fr_kX2_bestGuess (n0 : SD) (s : JS) (x2 : Int32) (h1 : s.d = n0) : Pt (kX2_bestGuess s x2) (fun y => y.2.d = n0) := by
  unfold kX2_bestGuess
  exact fr_kX2_bestGuess_13L n0 _ s _ _ _ h1

theorem fr_kX2_oddsOverWithin_158 (n0 : SD) (R : JS → Int32 → Int32 → Option (Int32 × JS)) (k55 : JS → Int32 → Int32 → Int32 → Int32 → Int32 → Int32 → Option (Int32 × JS)) (hR : ∀ (a0 : JS) (a1 : Int32) (a2 : Int32), a0.d = n0 → Pt (R a0 a1 a2) (fun y => y.2.d = n0)) (hk55 : ∀ (a0 : JS) (a1 : Int32) (a2 : Int32) (a3 : Int32) (a4 : Int32) (a5 : Int32) (a6 : Int32), a0.d = n0 → Pt (k55 a0 a1 a2 a3 a4 a5 a6) (fun y => y.2.d = n0)) (s : JS) (x2 : Int32) (x3 : Int32) (x4 : Int32) (x5 : Int32) (x6 : Int32) (x7 : Int32) (h1 : s.d = n0) : Pt (kX2_oddsOverWithin_158 R k55 s x2 x3 x4 x5 x6 x7) (fun y => y.2.d = n0) := by
  unfold kX2_oddsOverWithin_158
  exact hk55 _ _ _ _ _ _ _ h1

theorem fr_kX10_likeliest (g0 : GS) (n0 : SD) (s : XS) (h1 : s.g = g0 ∧ s.n = n0) : Pt (kX10_likeliest s) (fun y => y.2.g = g0 ∧ y.2.n = n0) := by
  unfold kX10_likeliest
  exact pt_bindI (P := (fun y => y.2.d = n0)) (fr_kX2_bestGuess n0 (JS.mk s.k s.n) _ h1.2) (fun r2 s1 qs1 => pt_let (P := (fun s : XS => s.g = g0 ∧ s.n = n0)) ⟨h1.1, qs1⟩ (fun s3 qs3 => pt_some qs3))

theorem fr_kX10_safest (g0 : GS) (n0 : SD) (s : XS) (x1 : Int32) (h1 : s.g = g0 ∧ s.n = n0) : Pt (kX10_safest s x1) (fun y => y.2.g = g0 ∧ y.2.n = n0) := by
  unfold kX10_safest
  exact pt_bindI (P := fun _ => True) (fun _ _ => trivial) (fun r2 s1 _ => pt_let (P := (fun s : XS => s.g = g0 ∧ s.n = n0)) ⟨h1.1, h1.2⟩ (fun s3 qs3 => pt_ite (fun _ => pt_some qs3) (fun _ => pt_bindI (P := (fun y => y.2.d = n0)) (fr_kX2_bestGuess n0 (JS.mk s3.k s3.n) _ qs3.2) (fun r7 s6 qs6 => pt_let (P := (fun s : XS => s.g = g0 ∧ s.n = n0)) ⟨qs3.1, qs6⟩ (fun s8 qs8 => pt_some qs8)))))

theorem fr_kX10_sure (g0 : GS) (n0 : SD) (s : XS) (x1 : Int32) (x2 : Int32) (h1 : s.g = g0 ∧ s.n = n0) : Pt (kX10_sure s x1 x2) (fun y => y.2.g = g0 ∧ y.2.n = n0) := by
  unfold kX10_sure
  exact pt_bindI (P := (fun y => y.2.g = g0 ∧ y.2.n = n0)) (fr_kX10_isHere g0 n0 s _ h1) (fun r2 s1 qs1 => pt_ite (fun _ => pt_some qs1) (fun _ => pt_ite (fun _ => pt_some qs1) (fun _ => pt_ite (fun _ => pt_some qs1) (fun _ => pt_ite (fun _ => pt_bindP (P := (fun s : DS => s.e = n0)) (fr_kX6_copyFrom n0 (DS.mk s1.t s1.n) qs1.2) (fun s7 qs7 => pt_let (P := (fun s : XS => s.g = g0 ∧ s.n = n0)) ⟨qs1.1, qs7⟩ (fun s8 qs8 => pt_bindI (P := fun _ => True) (fun _ _ => trivial) (fun r11 s10 _ => pt_let (P := (fun s : XS => s.g = g0 ∧ s.n = n0)) ⟨qs8.1, qs8.2⟩ (fun s12 qs12 => pt_some qs12))))) (fun _ => pt_some qs1)))))

theorem fr_kX10_stuck_50 (g0 : GS) (n0 : SD) (k4 : XS → Int32 → Int32 → Option (Int32 × XS)) (hk4 : ∀ (a0 : XS) (a1 : Int32) (a2 : Int32), a0.g = g0 ∧ a0.n = n0 → Pt (k4 a0 a1 a2) (fun y => y.2.g = g0 ∧ y.2.n = n0)) (s : XS) (x1 : Int32) (x2 : Int32) (h1 : s.g = g0 ∧ s.n = n0) : Pt (kX10_stuck_50 k4 s x1 x2) (fun y => y.2.g = g0 ∧ y.2.n = n0) := by
  unfold kX10_stuck_50
  exact hk4 _ _ _ h1

theorem fr_kX10_stuck_4 (g0 : GS) (n0 : SD) (k4 : XS → Int32 → Int32 → Option (Int32 × XS)) (hk4 : ∀ (a0 : XS) (a1 : Int32) (a2 : Int32), a0.g = g0 ∧ a0.n = n0 → Pt (k4 a0 a1 a2) (fun y => y.2.g = g0 ∧ y.2.n = n0)) (s : XS) (x1 : Int32) (x2 : Int32) (h1 : s.g = g0 ∧ s.n = n0) : Pt (kX10_stuck_4 k4 s x1 x2) (fun y => y.2.g = g0 ∧ y.2.n = n0) := by
  unfold kX10_stuck_4
  exact pt_ite (fun _ => pt_some h1) (fun _ => pt_ite (fun _ => pt_ite (fun _ => pt_bindI (P := (fun y => y.2.d = n0)) (fr_kX2_bestGuess n0 (JS.mk s.k s.n) _ h1.2) (fun r5 s4 qs4 => pt_let (P := (fun s : XS => s.g = g0 ∧ s.n = n0)) ⟨h1.1, qs4⟩ (fun s6 qs6 => pt_ite (fun _ => fr_kX10_stuck_50 g0 n0 _ hk4 s6 _ _ qs6) (fun _ => fr_kX10_stuck_50 g0 n0 _ hk4 s6 _ _ qs6)))) (fun _ => fr_kX10_stuck_50 g0 n0 _ hk4 s _ _ h1)) (fun _ => pt_none))

theorem fr_kX10_stuck_4L (g0 : GS) (n0 : SD) : ∀ (n : Nat) (s : XS) (x1 : Int32) (x2 : Int32), s.g = g0 ∧ s.n = n0 → Pt (kX10_stuck_4L n s x1 x2) (fun y => y.2.g = g0 ∧ y.2.n = n0) := by
  intro n
  induction n with
  | zero => intro _ _ _ _; exact pt_none
  | succ n ih =>
    intro s x1 x2 h1
    exact fr_kX10_stuck_4 g0 n0 (kX10_stuck_4L n) ih s x1 x2 h1

theorem fr_kX10_stuck (g0 : GS) (n0 : SD) (s : XS) (h1 : s.g = g0 ∧ s.n = n0) : Pt (kX10_stuck s) (fun y => y.2.g = g0 ∧ y.2.n = n0) := by
  unfold kX10_stuck
  exact fr_kX10_stuck_4L g0 n0 _ s _ _ h1

theorem fr_kX10_chosen_86 (g0 : GS) (n0 : SD) (k7 : XS → Int32 → Int32 → Int32 → Option (Int32 × XS)) (hk7 : ∀ (a0 : XS) (a1 : Int32) (a2 : Int32) (a3 : Int32), a0.g = g0 ∧ a0.n = n0 → Pt (k7 a0 a1 a2 a3) (fun y => y.2.g = g0 ∧ y.2.n = n0)) (s : XS) (x1 : Int32) (x2 : Int32) (x3 : Int32) (h1 : s.g = g0 ∧ s.n = n0) : Pt (kX10_chosen_86 k7 s x1 x2 x3) (fun y => y.2.g = g0 ∧ y.2.n = n0) := by
  unfold kX10_chosen_86
  exact hk7 _ _ _ _ h1

theorem fr_kX10_chosen_73 (g0 : GS) (n0 : SD) (k7 : XS → Int32 → Int32 → Int32 → Option (Int32 × XS)) (hk7 : ∀ (a0 : XS) (a1 : Int32) (a2 : Int32) (a3 : Int32), a0.g = g0 ∧ a0.n = n0 → Pt (k7 a0 a1 a2 a3) (fun y => y.2.g = g0 ∧ y.2.n = n0)) (s : XS) (x1 : Int32) (x2 : Int32) (x3 : Int32) (t0 : Int32) (h1 : s.g = g0 ∧ s.n = n0) : Pt (kX10_chosen_73 k7 s x1 x2 x3 t0) (fun y => y.2.g = g0 ∧ y.2.n = n0) := by
  unfold kX10_chosen_73
  exact pt_ite (fun _ => fr_kX10_chosen_86 g0 n0 _ hk7 s _ _ _ h1) (fun _ => fr_kX10_chosen_86 g0 n0 _ hk7 s _ _ _ h1)

theorem fr_kX10_chosen_47 (g0 : GS) (n0 : SD) (k7 : XS → Int32 → Int32 → Int32 → Option (Int32 × XS)) (hk7 : ∀ (a0 : XS) (a1 : Int32) (a2 : Int32) (a3 : Int32), a0.g = g0 ∧ a0.n = n0 → Pt (k7 a0 a1 a2 a3) (fun y => y.2.g = g0 ∧ y.2.n = n0)) (s : XS) (x1 : Int32) (x2 : Int32) (x3 : Int32) (t0 : Int32) (h1 : s.g = g0 ∧ s.n = n0) : Pt (kX10_chosen_47 k7 s x1 x2 x3 t0) (fun y => y.2.g = g0 ∧ y.2.n = n0) := by
  unfold kX10_chosen_47
  exact pt_ite (fun _ => fr_kX10_chosen_73 g0 n0 _ hk7 s _ _ _ _ h1) (fun _ => pt_bindI (P := (fun y => y.2.d = n0)) (fr_kX2_oddsOf n0 (JS.mk s.k s.n) _ h1.2) (fun r3 s2 qs2 => pt_let (P := (fun s : XS => s.g = g0 ∧ s.n = n0)) ⟨h1.1, qs2⟩ (fun s4 qs4 => fr_kX10_chosen_73 g0 n0 _ hk7 s4 _ _ _ _ qs4)))

theorem fr_kX10_chosen_7 (g0 : GS) (n0 : SD) (k7 : XS → Int32 → Int32 → Int32 → Option (Int32 × XS)) (hk7 : ∀ (a0 : XS) (a1 : Int32) (a2 : Int32) (a3 : Int32), a0.g = g0 ∧ a0.n = n0 → Pt (k7 a0 a1 a2 a3) (fun y => y.2.g = g0 ∧ y.2.n = n0)) (s : XS) (x1 : Int32) (x2 : Int32) (x3 : Int32) (h1 : s.g = g0 ∧ s.n = n0) : Pt (kX10_chosen_7 k7 s x1 x2 x3) (fun y => y.2.g = g0 ∧ y.2.n = n0) := by
  unfold kX10_chosen_7
  exact pt_ite (fun _ => pt_some h1) (fun _ => pt_ite (fun _ => pt_ite (fun _ => pt_bindI (P := (fun y => y.2.d = n0)) (fr_kX2_bestGuess n0 (JS.mk s.k s.n) _ h1.2) (fun r5 s4 qs4 => pt_let (P := (fun s : XS => s.g = g0 ∧ s.n = n0)) ⟨h1.1, qs4⟩ (fun s6 qs6 => fr_kX10_chosen_47 g0 n0 _ hk7 s6 _ _ _ _ qs6))) (fun _ => fr_kX10_chosen_47 g0 n0 _ hk7 s _ _ _ _ h1)) (fun _ => pt_none))

theorem fr_kX10_chosen_7L (g0 : GS) (n0 : SD) : ∀ (n : Nat) (s : XS) (x1 : Int32) (x2 : Int32) (x3 : Int32), s.g = g0 ∧ s.n = n0 → Pt (kX10_chosen_7L n s x1 x2 x3) (fun y => y.2.g = g0 ∧ y.2.n = n0) := by
  intro n
  induction n with
  | zero => intro _ _ _ _ _; exact pt_none
  | succ n ih =>
    intro s x1 x2 x3 h1
    exact fr_kX10_chosen_7 g0 n0 (kX10_chosen_7L n) ih s x1 x2 x3 h1

theorem fr_kX10_chosen (g0 : GS) (n0 : SD) (s : XS) (h1 : s.g = g0 ∧ s.n = n0) : Pt (kX10_chosen s) (fun y => y.2.g = g0 ∧ y.2.n = n0) := by
  unfold kX10_chosen
  exact fr_kX10_chosen_7L g0 n0 _ s _ _ _ h1
end
section
/-! ===== what the queries leave as it was ===== -/
theorem fr_kX10_allGo_136 (g0 : GS) (n0 : SD) (s : XS) (t0 : Int32) (h1 : s.g = g0 ∧ s.n = n0) : Pt (kX10_allGo_136 s t0) (fun y => y.2.g = g0 ∧ y.2.n = n0) := by
  unfold kX10_allGo_136
  exact pt_bindI (P := (fun y => y.2.g = g0 ∧ y.2.n = n0)) (fr_kX10_partiesThatAre_t g0 n0 s _ h1) (fun r2 s1 qs1 => pt_bindP (P := fun _ => True) (fun _ _ => trivial) (fun r3 _ => pt_some qs1))

theorem fr_kX10_allGo_95 (g0 : GS) (n0 : SD) (k24 : XS → Int32 → Int32 → Option (Int32 × XS)) (hk24 : ∀ (a0 : XS) (a1 : Int32) (a2 : Int32), a0.g = g0 ∧ a0.n = n0 → Pt (k24 a0 a1 a2) (fun y => y.2.g = g0 ∧ y.2.n = n0)) (s : XS) (x1 : Int32) (x2 : Int32) (h1 : s.g = g0 ∧ s.n = n0) : Pt (kX10_allGo_95 k24 s x1 x2) (fun y => y.2.g = g0 ∧ y.2.n = n0) := by
  unfold kX10_allGo_95
  exact hk24 _ _ _ h1

theorem fr_kX10_allGo_24 (g0 : GS) (n0 : SD) (k24 : XS → Int32 → Int32 → Option (Int32 × XS)) (hk24 : ∀ (a0 : XS) (a1 : Int32) (a2 : Int32), a0.g = g0 ∧ a0.n = n0 → Pt (k24 a0 a1 a2) (fun y => y.2.g = g0 ∧ y.2.n = n0)) (s : XS) (x1 : Int32) (x2 : Int32) (h1 : s.g = g0 ∧ s.n = n0) : Pt (kX10_allGo_24 k24 s x1 x2) (fun y => y.2.g = g0 ∧ y.2.n = n0) := by
  unfold kX10_allGo_24
  exact pt_ite (fun _ => pt_ite (fun _ => pt_some h1) (fun _ => pt_ite (fun _ => fr_kX10_allGo_136 g0 n0 s _ h1) (fun _ => fr_kX10_allGo_136 g0 n0 s _ h1))) (fun _ => pt_ite (fun _ => pt_ite (fun _ => pt_bindI (P := fun _ => True) (fun _ _ => trivial) (fun r7 s6 _ => pt_let (P := (fun s : XS => s.g = g0 ∧ s.n = n0)) ⟨h1.1, h1.2⟩ (fun s8 qs8 => pt_ite (fun _ => fr_kX10_allGo_95 g0 n0 _ hk24 s8 _ _ qs8) (fun _ => pt_bindI (P := fun _ => True) (fun _ _ => trivial) (fun r12 s11 _ => pt_let (P := (fun s : XS => s.g = g0 ∧ s.n = n0)) ⟨qs8.1, qs8.2⟩ (fun s13 qs13 => pt_ite (fun _ => fr_kX10_allGo_95 g0 n0 _ hk24 s13 _ _ qs13) (fun _ => pt_bindI (P := fun _ => True) (fun _ _ => trivial) (fun r17 s16 _ => pt_let (P := (fun s : XS => s.g = g0 ∧ s.n = n0)) ⟨qs13.1, qs13.2⟩ (fun s18 qs18 => fr_kX10_allGo_95 g0 n0 _ hk24 s18 _ _ qs18))))))))) (fun _ => fr_kX10_allGo_95 g0 n0 _ hk24 s _ _ h1)) (fun _ => pt_none))

theorem fr_kX10_allGo_24L (g0 : GS) (n0 : SD) : ∀ (n : Nat) (s : XS) (x1 : Int32) (x2 : Int32), s.g = g0 ∧ s.n = n0 → Pt (kX10_allGo_24L n s x1 x2) (fun y => y.2.g = g0 ∧ y.2.n = n0) := by
  intro n
  induction n with
  | zero => intro _ _ _ _; exact pt_none
  | succ n ih =>
    intro s x1 x2 h1
    exact fr_kX10_allGo_24 g0 n0 (kX10_allGo_24L n) ih s x1 x2 h1

theorem fr_kX10_allGo (g0 : GS) (n0 : SD) (s : XS) (x1 : Int32) (h1 : s.g = g0 ∧ s.n = n0) : Pt (kX10_allGo s x1) (fun y => y.2.g = g0 ∧ y.2.n = n0) := by
  unfold kX10_allGo
  exact pt_ite (fun _ => pt_some h1) (fun _ => pt_ite (fun _ => pt_bindP (P := (fun s : DS => s.e = n0)) (fr_kX6_copyFrom n0 (DS.mk s.t s.n) h1.2) (fun s3 qs3 => pt_let (P := (fun s : XS => s.g = g0 ∧ s.n = n0)) ⟨h1.1, qs3⟩ (fun s4 qs4 => fr_kX10_allGo_24L g0 n0 _ s4 _ _ qs4))) (fun _ => pt_some h1))

theorem fr_kX10_then (g0 : GS) (n0 : SD) (s : XS) (x1 : Int32) (x2 : Int32) (x3 : Int32) (h1 : s.g = g0 ∧ s.n = n0) : Pt (kX10_then s x1 x2 x3) (fun y => y.2.g = g0 ∧ y.2.n = n0) := by
  unfold kX10_then
  exact pt_bindI (P := fun _ => True) (fun _ _ => trivial) (fun r2 s1 _ => pt_let (P := (fun s : XS => s.g = g0 ∧ s.n = n0)) ⟨h1.1, h1.2⟩ (fun s3 qs3 => pt_ite (fun _ => pt_some qs3) (fun _ => pt_ite (fun _ => pt_some qs3) (fun _ => pt_ite (fun _ => pt_bindP (P := (fun s : DS => s.e = n0)) (fr_kX6_copyFrom n0 (DS.mk s3.t s3.n) qs3.2) (fun s8 qs8 => pt_let (P := (fun s : XS => s.g = g0 ∧ s.n = n0)) ⟨qs3.1, qs8⟩ (fun s9 qs9 => pt_bindP (P := fun _ => True) (fun _ _ => trivial) (fun s11 _ => pt_let (P := (fun s : XS => s.g = g0 ∧ s.n = n0)) ⟨qs9.1, qs9.2⟩ (fun s12 qs12 => pt_ite (fun _ => pt_bindI (P := fun _ => True) (fun _ _ => trivial) (fun r16 s15 _ => pt_let (P := (fun s : XS => s.g = g0 ∧ s.n = n0)) ⟨qs12.1, qs12.2⟩ (fun s17 qs17 => pt_some qs17))) (fun _ => pt_ite (fun _ => pt_ite (fun _ => pt_some qs12) (fun _ => pt_none)) (fun _ => pt_ite (fun _ => pt_bindI (P := fun _ => True) (fun _ _ => trivial) (fun r23 s22 _ => pt_let (P := (fun s : XS => s.g = g0 ∧ s.n = n0)) ⟨qs12.1, qs12.2⟩ (fun s24 qs24 => pt_some qs24))) (fun _ => pt_some qs12)))))))) (fun _ => pt_some qs3)))))

theorem fr_kX10_next_26 (g0 : GS) (n0 : SD) (k26 : XS → Int32 → Int32 → Option (Int32 × XS)) (hk26 : ∀ (a0 : XS) (a1 : Int32) (a2 : Int32), a0.g = g0 ∧ a0.n = n0 → Pt (k26 a0 a1 a2) (fun y => y.2.g = g0 ∧ y.2.n = n0)) (s : XS) (x1 : Int32) (x2 : Int32) (h1 : s.g = g0 ∧ s.n = n0) : Pt (kX10_next_26 k26 s x1 x2) (fun y => y.2.g = g0 ∧ y.2.n = n0) := by
  unfold kX10_next_26
  exact pt_ite (fun _ => pt_some h1) (fun _ => pt_bindP (P := fun _ => True) (fun _ _ => trivial) (fun s2 _ => pt_let (P := (fun s : XS => s.g = g0 ∧ s.n = n0)) ⟨h1.1, h1.2⟩ (fun s3 qs3 => pt_ite (fun _ => pt_ite (fun _ => pt_ite (fun _ => hk26 _ _ _ qs3) (fun _ => pt_some qs3)) (fun _ => pt_none)) (fun _ => pt_none))))

theorem fr_kX10_next_26L (g0 : GS) (n0 : SD) : ∀ (n : Nat) (s : XS) (x1 : Int32) (x2 : Int32), s.g = g0 ∧ s.n = n0 → Pt (kX10_next_26L n s x1 x2) (fun y => y.2.g = g0 ∧ y.2.n = n0) := by
  intro n
  induction n with
  | zero => intro _ _ _ _; exact pt_none
  | succ n ih =>
    intro s x1 x2 h1
    exact fr_kX10_next_26 g0 n0 (kX10_next_26L n) ih s x1 x2 h1

theorem fr_kX10_next (g0 : GS) (n0 : SD) (s : XS) (x1 : Int32) (h1 : s.g = g0 ∧ s.n = n0) : Pt (kX10_next s x1) (fun y => y.2.g = g0 ∧ y.2.n = n0) := by
  unfold kX10_next
  exact pt_bindI (P := fun _ => True) (fun _ _ => trivial) (fun r2 s1 _ => pt_let (P := (fun s : XS => s.g = g0 ∧ s.n = n0)) ⟨h1.1, h1.2⟩ (fun s3 qs3 => pt_ite (fun _ => pt_some qs3) (fun _ => pt_bindP (P := (fun s : DS => s.e = n0)) (fr_kX6_copyFrom n0 (DS.mk s3.t s3.n) qs3.2) (fun s6 qs6 => pt_let (P := (fun s : XS => s.g = g0 ∧ s.n = n0)) ⟨qs3.1, qs6⟩ (fun s7 qs7 => fr_kX10_next_26L g0 n0 _ s7 _ _ qs7)))))

theorem fr_kX10_count (g0 : GS) (n0 : SD) (s : XS) (x1 : Int32) (h1 : s.g = g0 ∧ s.n = n0) : Pt (kX10_count s x1) (fun y => y.2.g = g0 ∧ y.2.n = n0) := by
  unfold kX10_count
  exact pt_ite (fun _ => pt_some h1) (fun _ => pt_ite (fun _ => pt_some h1) (fun _ => pt_ite (fun _ => pt_some h1) (fun _ => pt_ite (fun _ => pt_some h1) (fun _ => pt_ite (fun _ => pt_bindI (P := (fun y => y.2.g = g0 ∧ y.2.n = n0)) (fr_kX10_partiesThatAre g0 n0 s _ h1) (fun r7 s6 qs6 => pt_some qs6)) (fun _ => pt_ite (fun _ => pt_bindI (P := (fun y => y.2.g = g0 ∧ y.2.n = n0)) (fr_kX10_partiesThatAre g0 n0 s _ h1) (fun r10 s9 qs9 => pt_some qs9)) (fun _ => pt_ite (fun _ => pt_bindI (P := (fun y => y.2.g = g0 ∧ y.2.n = n0)) (fr_kX10_partiesThatAre g0 n0 s _ h1) (fun r13 s12 qs12 => pt_some qs12)) (fun _ => pt_ite (fun _ => pt_bindI (P := (fun y => y.2 = s.n.f 4)) (fr_kX10_sumOf_6 _ _ rfl) (fun r16 s15 qs15 => pt_let (P := (fun s : XS => s.g = g0 ∧ s.n = n0)) ⟨h1.1, (congrArg (fun a => s.n.sa 4 a) qs15).trans (sda_self.trans h1.2)⟩ (fun s17 qs17 => pt_some qs17))) (fun _ => pt_ite (fun _ => pt_some h1) (fun _ => pt_ite (fun _ => pt_some h1) (fun _ => pt_ite (fun _ => pt_some h1) (fun _ => pt_ite (fun _ => pt_bindI (P := (fun y => y.2 = g0)) (fr_kX3_slotsHeld g0 _ h1.1) (fun r24 s23 qs23 => pt_let (P := (fun s : XS => s.g = g0 ∧ s.n = n0)) ⟨qs23, h1.2⟩ (fun s25 qs25 => pt_some qs25))) (fun _ => pt_ite (fun _ => pt_bindI (P := (fun y => y.2.g = g0 ∧ y.2.n = n0)) (fr_kX10_buoysLying g0 n0 s h1) (fun r29 s28 qs28 => pt_some qs28)) (fun _ => pt_ite (fun _ => pt_bindI (P := (fun y => y.2.g = g0 ∧ y.2.n = n0)) (fr_kX10_wavesFound g0 n0 s h1) (fun r32 s31 qs31 => pt_some qs31)) (fun _ => pt_ite (fun _ => pt_some h1) (fun _ => pt_ite (fun _ => pt_bindI (P := (fun y => y.2.d = n0)) (fr_kX0_guessThere n0 (JS.mk s.k s.n) _ h1.2) (fun r36 s35 qs35 => pt_let (P := (fun s : XS => s.g = g0 ∧ s.n = n0)) ⟨h1.1, qs35⟩ (fun s37 qs37 => pt_some qs37))) (fun _ => pt_ite (fun _ => pt_bindI (P := (fun y => y.2 = s.n.f 2)) (fr_kX10_sumOf_5 _ _ rfl) (fun r41 s40 qs40 => pt_let (P := (fun s : XS => s.g = g0 ∧ s.n = n0)) ⟨h1.1, (congrArg (fun a => s.n.sa 2 a) qs40).trans (sda_self.trans h1.2)⟩ (fun s42 qs42 => pt_some qs42))) (fun _ => pt_ite (fun _ => pt_bindI (P := (fun y => y.2.g = g0 ∧ y.2.n = n0)) (fr_kX10_wavesWithNothing g0 n0 s h1) (fun r46 s45 qs45 => pt_some qs45)) (fun _ => pt_ite (fun _ => pt_bindI (P := (fun y => y.2.g = g0 ∧ y.2.n = n0)) (fr_kX10_faresOfAllHere g0 n0 s h1) (fun r49 s48 qs48 => pt_some qs48)) (fun _ => pt_some h1)))))))))))))))))))
end
