/-! ===== what can be undone ===== -/
theorem keepsL {z' : RS} : ∀ (n : Nat) (z : RS) (x : Int32) (j : Nat), x.toInt = (j : Int) → j ≤ 29 → r_keepsRow_2L n z x = some z' → FrR [143] z z' ∧ (∀ i, j ≤ i → i < 29 → z'.f 43 i = z.f 44 i) ∧ (∀ i, i < j → z'.f 43 i = z.f 43 i) := by
  intro n
  induction n with
  | zero => intro z x j _ _ h; exact none_ne h
  | succ n ih =>
    intro z x j ex hj h
    replace h : r_keepsRow_2 (r_keepsRow_2L n) z x = some z' := h
    unfold r_keepsRow_2 at h
    by_cases c : 29 ≤ x
    · have c' := tn_le (a := 29) (by decide) rfl c
      rw [if_pos c] at h
      cases h
      exact ⟨FrR.rfl, fun i h1 h2 => by omega, fun i _ => rfl⟩
    · have c' := tn_nle (a := 29) (by decide) rfl c
      rw [if_neg c] at h
      replace h := guard_inv h
      obtain ⟨_, h⟩ := h
      replace h := guard_inv h
      obtain ⟨_, h⟩ := h
      replace h := letS_inv h
      obtain ⟨z4, d4, h⟩ := h
      rw [clamp_of_int ex] at d4
      have f4 : ∀ i, z4.f 43 i = if i = j then z.f 44 j else z.f 43 i := fun i => by
        rw [← d4]
        exact rsf_at
      have a : (x + 1).toInt = ((j + 1 : Nat) : Int) := by
        rw [tn_add ex (by decide : (1 : Int32).toInt = 1) (by omega) (by omega)]
        omega
      obtain ⟨q0, q1, q2⟩ := ih z4 (x + 1) (j + 1) a (by omega) h
      have f44 : z4.f 44 = z.f 44 := by rw [← d4]; rfl
      refine ⟨FrR.trans (t := z4) (by rw [← d4]; exact FrR.rfl.sf (by decide)) q0 (by decide), fun i h1 h2 => ?_, fun i hi => ?_⟩
      · by_cases e : i = j
        · rw [q2 i (by omega), f4, if_pos e, e]
        · rw [q1 i (by omega) h2, f44]
      · rw [q2 i (by omega), f4, if_neg (by omega)]
theorem r49_at {z t : RS} {i : Nat} {x : Int32} (h : z.sf 49 i x = t) : ∀ j, t.f 49 j = if j = i then x else z.f 49 j := fun j => by
  rw [← h]
  exact rsf_at
theorem rec_shift {z' : RS} : ∀ (n : Nat) (z : RS) (x : Int32) (j : Nat), x.toInt = (j : Int) → j ≤ 1131 → r_records_11L n z x = some z' → ∃ y, r_records_49 (y.sv 48 ((y.v 48) - 1)) = some z' ∧ FrR [149] z y ∧ (∀ i, j ≤ i → i < 1131 → y.f 49 i = z.f 49 (i + 29)) ∧ (∀ i, (i < j ∨ 1131 ≤ i) → y.f 49 i = z.f 49 i) := by
  intro n
  induction n with
  | zero => intro z x j _ _ h; exact none_ne h
  | succ n ih =>
    intro z x j ex hj h
    replace h : r_records_11 (r_records_11L n) z x = some z' := h
    unfold r_records_11 at h
    by_cases c : 1131 ≤ x
    · have c' := tn_le (a := 1131) (by decide) rfl c
      rw [if_pos c] at h
      exact ⟨z, h, FrR.rfl, fun i h1 h2 => by omega, fun i _ => rfl⟩
    · have c' := tn_nle (a := 1131) (by decide) rfl c
      rw [if_neg c] at h
      replace h := guard_inv h
      obtain ⟨_, h⟩ := h
      replace h := guard_inv h
      obtain ⟨_, h⟩ := h
      replace h := letS_inv h
      obtain ⟨z6, d6, h⟩ := h
      have a29 : (x + 29).toInt = ((j + 29 : Nat) : Int) := by
        rw [tn_add ex (by decide : (29 : Int32).toInt = 29) (by omega) (by omega)]
        omega
      rw [clamp_of_int ex, clamp_of_int a29] at d6
      have f6 := r49_at d6
      have a : (x + 1).toInt = ((j + 1 : Nat) : Int) := by
        rw [tn_add ex (by decide : (1 : Int32).toInt = 1) (by omega) (by omega)]
        omega
      obtain ⟨y, q0, qF, q1, q2⟩ := ih z6 (x + 1) (j + 1) a (by omega) h
      refine ⟨y, q0, FrR.trans (t := z6) (by rw [← d6]; exact FrR.rfl.sf (by decide)) qF (by decide), fun i h1 h2 => ?_, fun i hi => ?_⟩
      · by_cases e : i = j
        · rw [q2 i (by omega), f6, if_pos e, e]
        · rw [q1 i (by omega) h2, f6, if_neg (by omega)]
      · rw [q2 i (by omega), f6, if_neg (by omega)]
theorem rec_put {z' : RS} {U : Nat} (hU : U ≤ 39) : ∀ (n : Nat) (z : RS) (x : Int32) (j : Nat), (z.v 48).toInt = (U : Int) → x.toInt = (j : Int) → j ≤ 29 → r_records_51L n z x = some z' → ∃ y, r_keepsRow (y.sv 48 ((y.v 48) + 1)) = some z' ∧ FrR [149] z y ∧ (∀ i, j ≤ i → i < 29 → y.f 49 (29 * U + i) = z.f 43 i) ∧ (∀ i, (i < 29 * U + j ∨ 29 * U + 29 ≤ i) → y.f 49 i = z.f 49 i) := by
  intro n
  induction n with
  | zero => intro z x j _ _ _ h; exact none_ne h
  | succ n ih =>
    intro z x j hv ex hj h
    replace h : r_records_51 (r_records_51L n) z x = some z' := h
    unfold r_records_51 at h
    by_cases c : 29 ≤ x
    · have c' := tn_le (a := 29) (by decide) rfl c
      rw [if_pos c] at h
      replace h := letS_inv h
      obtain ⟨y2, d2, h⟩ := h
      rw [bindP_id] at h
      rw [← d2] at h
      exact ⟨z, h, FrR.rfl, fun i h1 h2 => by omega, fun i _ => rfl⟩
    · have c' := tn_nle (a := 29) (by decide) rfl c
      rw [if_neg c] at h
      replace h := guard_inv h
      obtain ⟨_, h⟩ := h
      replace h := guard_inv h
      obtain ⟨_, h⟩ := h
      replace h := letS_inv h
      obtain ⟨z7, d7, h⟩ := h
      have m1 : (29 * (z.v 48)).toInt = (z.v 48).toInt * 29 := ti_cmul (c := 29) (by decide) (by omega) (by omega)
      have m2 : ((29 * (z.v 48)) + x).toInt = ((29 * U + j : Nat) : Int) := by
        rw [ti_add (by omega) (by omega)]
        omega
      rw [clamp_of_int ex, clamp_of_int m2] at d7
      have f7 := r49_at d7
      have a : (x + 1).toInt = ((j + 1 : Nat) : Int) := by
        rw [tn_add ex (by decide : (1 : Int32).toInt = 1) (by omega) (by omega)]
        omega
      have v7 : z7.v 48 = z.v 48 := by rw [← d7]; rfl
      have f43 : z7.f 43 = z.f 43 := by rw [← d7]; rfl
      obtain ⟨y, q0, qF, q1, q2⟩ := ih z7 (x + 1) (j + 1) (by rw [v7]; exact hv) a (by omega) h
      refine ⟨y, q0, FrR.trans (t := z7) (by rw [← d7]; exact FrR.rfl.sf (by decide)) qF (by decide), fun i h1 h2 => ?_, fun i hi => ?_⟩
      · by_cases e : i = j
        · rw [q2 (29 * U + i) (by omega), f7, if_pos (by omega), e]
        · rw [q1 i (by omega) h2, f43]
      · rw [q2 i (by omega), f7, if_neg (by omega)]
/-- what the reference's records leave -/
theorem records_eq {z z' : RS} {U : Nat} (hv : (z.v 48).toInt = (U : Int)) (hU : U ≤ 40) (h : r_records z = some z') : FrR [48, 143, 149] z z' ∧ (∀ i, i < 29 → z'.f 43 i = z.f 44 i) ∧ ((U < 40 ∧ (z'.v 48).toInt = ((U + 1 : Nat) : Int) ∧ (∀ i, i < 29 → z'.f 49 (29 * U + i) = z.f 43 i) ∧ (∀ i, i < 29 * U → z'.f 49 i = z.f 49 i)) ∨ (U = 40 ∧ (z'.v 48).toInt = 40 ∧ (∀ i, i < 29 → z'.f 49 (29 * 39 + i) = z.f 43 i) ∧ (∀ i, i < 1131 → z'.f 49 i = z.f 49 (i + 29)))) := by
  unfold r_records at h
  have fin : ∀ (t : RS) (V : Nat), V ≤ 39 → (t.v 48).toInt = (V : Int) → r_records_49 t = some z' → FrR [48, 143, 149] t z' ∧ (∀ i, i < 29 → z'.f 43 i = t.f 44 i) ∧ (z'.v 48).toInt = ((V + 1 : Nat) : Int) ∧ (∀ i, i < 29 → z'.f 49 (29 * V + i) = t.f 43 i) ∧ (∀ i, i < 29 * V → z'.f 49 i = t.f 49 i) := by
    intro t V hV ht h
    unfold r_records_49 at h
    obtain ⟨y, q0, qF, q1, q2⟩ := rec_put hV fu t 0 0 ht (by decide) (by omega) h
    unfold r_keepsRow at q0
    obtain ⟨k0, k1, _⟩ := keepsL fu _ 0 0 (by decide) (by omega) q0
    have v48 : (y.sv 48 ((y.v 48) + 1)).v 48 = (t.v 48) + 1 := by
      show (y.v 48) + 1 = _
      rw [qF.1 48 (by decide)]
    have a : ((t.v 48) + 1).toInt = ((V + 1 : Nat) : Int) := by
      rw [tn_add ht (by decide : (1 : Int32).toInt = 1) (by omega) (by omega)]
      omega
    refine ⟨((FrR.rfl.trans qF (by decide)).sv (k := 48) (by decide)).trans k0 (by decide), fun i hi => ?_, ?_, fun i hi => ?_, fun i hi => ?_⟩
    · rw [k1 i (by omega) hi]
      show y.f 44 i = _
      rw [(qF.2 44 (by decide)).1]
    · rw [k0.1 48 (by decide), v48]
      exact a
    · rw [(k0.2 49 (by decide)).1]
      exact q1 i (by omega) hi
    · rw [(k0.2 49 (by decide)).1]
      exact q2 i (by omega)
  by_cases c : z.v 48 = 40
  · have c' : U = 40 := by
      rw [c] at hv
      have : (40 : Int32).toInt = 40 := by decide
      omega
    rw [if_pos c] at h
    obtain ⟨y, q0, qF, q1, q2⟩ := rec_shift fu z 0 0 (by decide) (by omega) h
    have v39 : ((y.sv 48 ((y.v 48) - 1)).v 48).toInt = ((39 : Nat) : Int) := by
      show ((y.v 48) - 1).toInt = _
      rw [qF.1 48 (by decide), c]
      decide
    obtain ⟨p1, p2, p3, p4, p5⟩ := fin _ 39 (by omega) v39 q0
    refine ⟨((FrR.rfl.trans qF (by decide)).sv (k := 48) (by decide)).trans p1 (by decide), fun i hi => ?_, Or.inr ⟨c', ?_, fun i hi => ?_, fun i hi => ?_⟩⟩
    · rw [p2 i hi]
      show y.f 44 i = _
      rw [(qF.2 44 (by decide)).1]
    · rw [p3]
      rfl
    · rw [p4 i hi]
      show y.f 43 i = _
      rw [(qF.2 43 (by decide)).1]
    · rw [p5 i (by omega)]
      exact q1 i (by omega) hi
  · have c' : ¬ U = 40 := fun q => c (Int32.toInt_inj.mp (by rw [hv, q]; decide))
    rw [if_neg c] at h
    obtain ⟨p1, p2, p3, p4, p5⟩ := fin z U (by omega) hv h
    exact ⟨p1, p2, Or.inl ⟨by omega, p3, p4, p5⟩⟩
theorem SDq.rfl {d : SD} : SDq d d := ⟨fun _ _ => ⟨Eq.refl _, Eq.refl _, Eq.refl _⟩, fun _ _ => ⟨Eq.refl _, Eq.refl _⟩, Eq.refl _, Eq.refl _⟩
/-- what the class remembers -/
theorem remember_eq {g : GS} {n : SD} {r : Nat → SD} {p' : PS} {F U : Nat} (h3 : (g.v 3).toInt = (F : Int)) (hF : F ≤ 39) (h4 : (g.v 4).toInt = (U : Int)) (hU : U ≤ 40) (h : kX3_remember (PS.mk g n r) = some p') : p'.n = n ∧ p'.g.f 4 = g.f 4 ∧ (∀ i, ¬ i = (F + U) % 40 → p'.r i = r i) ∧ SDq (p'.r ((F + U) % 40)) n ∧ ((U < 40 ∧ p'.g.v 3 = g.v 3 ∧ (p'.g.v 4).toInt = ((U + 1 : Nat) : Int)) ∨ (U = 40 ∧ (p'.g.v 3).toInt = (((F + 1) % 40 : Nat) : Int) ∧ p'.g.v 4 = g.v 4)) := by
  unfold kX3_remember at h
  replace h := guard_inv h
  obtain ⟨_, h⟩ := h
  replace h := bindP_inv h
  obtain ⟨s2, hc, h⟩ := h
  replace h := letS_inv h
  obtain ⟨s3, c3, h⟩ := h
  have a1 : ((g.v 3) + (g.v 4)).toInt = ((F + U : Nat) : Int) := by
    rw [ti_add (by omega) (by omega)]
    omega
  have a2 : (((g.v 3) + (g.v 4)) - ((g.v 3) + (g.v 4)) / 40 * 40).toInt = (((F + U) % 40 : Nat) : Int) := by
    rw [ti_remc (c := 40) (by decide) (by omega) (by omega), a1]
    omega
  have ei := clamp_of_int a2
  obtain ⟨e1, e2⟩ := copyFrom_eq hc
  have e1 : s2.e = n := e1
  have e2 : SDq s2.d n := e2
  have r3 : ∀ i, s3.r i = if i = (F + U) % 40 then s2.d else r i := fun i => by
    have q : s3.r i = va_up r (Int32.toNatClampNeg (((g.v 3) + (g.v 4)) - ((g.v 3) + (g.v 4)) / 40 * 40)) s2.d i := by rw [← c3]; rfl
    rw [q, ei]
    by_cases e : i = (F + U) % 40
    · rw [if_pos e, e, va_up_self]
    · rw [if_neg e, va_up_ne _ _ e]
  have n3 : s3.n = n := by rw [← c3]; exact e1
  have g3 : s3.g = g := by rw [← c3]; rfl
  have main : ∀ t : PS, t.n = s3.n → t.r = s3.r → t.g.f 4 = s3.g.f 4 → t.n = n ∧ t.g.f 4 = g.f 4 ∧ (∀ i, ¬ i = (F + U) % 40 → t.r i = r i) ∧ SDq (t.r ((F + U) % 40)) n := by
    intro t t1 t2 t3
    refine ⟨t1.trans n3, by rw [t3, g3], fun i hi => by rw [t2, r3, if_neg hi], ?_⟩
    rw [t2, r3, if_pos rfl]
    exact e2
  rw [g3] at h
  by_cases c : 40 ≤ g.v 4
  · have c' := tn_le (a := 40) (by decide) rfl c
    rw [if_pos c] at h
    replace h := letS_inv h
    obtain ⟨s6, c6, h⟩ := h
    cases h
    obtain ⟨m1, m2, m3, m4⟩ := main p' (by rw [← c6]; rfl) (by rw [← c6]; rfl) (by rw [← c6]; rfl)
    refine ⟨m1, m2, m3, m4, Or.inr ⟨by omega, ?_, ?_⟩⟩
    · have q : p'.g.v 3 = ((g.v 3) + 1) - ((g.v 3) + 1) / 40 * 40 := by rw [← c6]; rfl
      have b1 : ((g.v 3) + 1).toInt = ((F + 1 : Nat) : Int) := by
        rw [tn_add h3 (by decide : (1 : Int32).toInt = 1) (by omega) (by omega)]
        omega
      rw [q, ti_remc (c := 40) (by decide) (by omega) (by omega), b1]
      omega
    · rw [← c6]
      show s3.g.v 4 = _
      rw [g3]
  · have c' := tn_nle (a := 40) (by decide) rfl c
    rw [if_neg c] at h
    replace h := letS_inv h
    obtain ⟨s8, c8, h⟩ := h
    cases h
    obtain ⟨m1, m2, m3, m4⟩ := main p' (by rw [← c8]; rfl) (by rw [← c8]; rfl) (by rw [← c8]; rfl)
    refine ⟨m1, m2, m3, m4, Or.inl ⟨by omega, ?_, ?_⟩⟩
    · rw [← c8]
      show s3.g.v 3 = _
      rw [g3]
    · have q : p'.g.v 4 = (g.v 4) + 1 := by rw [← c8]; rfl
      rw [q, tn_add h4 (by decide : (1 : Int32).toInt = 1) (by omega) (by omega)]
      omega
/-- both remember the same -/
theorem push_same {y : YS} {p' : PS} {z z2 z3 : RS} (hK : InvK y.x.k) (hI : InvR z) (hG : InvG y.x.g) (hH : HIS y z) (hL : SLT y z) (hR : SR y.x.n (z.f 43)) (hF : FO y.x.k y.x.n) (e48 : z2.v 48 = z.v 48) (e49 : z2.f 49 = z.f 49) (e43 : z2.f 43 = z.f 43) (e56 : z2.f 56 = z.f 56) (e57 : z2.f 57 = z.f 57) (h1 : kX3_remember (PS.mk y.x.g y.x.n y.r) = some p') (h2 : r_records z2 = some z3) : p'.n = y.x.n ∧ FrR [48, 143, 149] z2 z3 ∧ (∀ i, i < 29 → z3.f 43 i = z2.f 44 i) ∧ (∀ x : XS, x.g = p'.g → x.k = y.x.k → HIS (YS.mk x p'.r) z3 ∧ SLT (YS.mk x p'.r) z3) := by
  obtain ⟨a1, ⟨a2, a3⟩, a4⟩ := hH
  have b48 : 0 ≤ (z.v 48).toInt ∧ (z.v 48).toInt ≤ 40 := hI.1 48
  obtain ⟨U, hU⟩ : ∃ U : Nat, (z.v 48).toInt = (U : Int) := ⟨(z.v 48).toInt.toNat, by omega⟩
  obtain ⟨F, hFn⟩ : ∃ F : Nat, (y.x.g.v 3).toInt = (F : Int) := ⟨(y.x.g.v 3).toInt.toNat, by omega⟩
  have eF : (y.x.g.v 3).toNatClampNeg = F := clamp_of_int hFn
  obtain ⟨p1, p2, p3, p4, p5⟩ := remember_eq (U := U) hFn (by omega) (by rw [a1]; exact hU) (by omega) h1
  obtain ⟨q1, q2, q3⟩ := records_eq (U := U) (by rw [e48]; exact hU) (by omega) h2
  rw [eF] at a4
  refine ⟨p1, q1, q2, fun x hx hk => ⟨?_, fun s hs => ?_⟩⟩
  · rcases p5 with ⟨u1, u2, u3⟩ | ⟨u1, u2, u3⟩
    · rcases q3 with ⟨_, v2, v3, v4⟩ | ⟨v1, _⟩
      · refine ⟨?_, ?_, fun i hi => ?_⟩
        · show x.g.v 4 = _
          rw [hx]
          exact Int32.toInt_inj.mp (u3.trans v2.symm)
        · show 0 ≤ (x.g.v 3).toInt ∧ (x.g.v 3).toInt ≤ 39
          rw [hx, u2]
          exact ⟨a2, a3⟩
        · show SR (p'.r (((x.g.v 3).toNatClampNeg + i) % 40)) _ ∧ FO x.k (p'.r (((x.g.v 3).toNatClampNeg + i) % 40))
          rw [hx, u2, eF, hk]
          rw [v2] at hi
          by_cases e : i = U
          · subst e
            have S : SR (p'.r ((F + i) % 40)) (z.f 43) := hR.q p4
            exact ⟨S.cgf (fun j hj => by rw [v3 j hj, e43]), hF.q hK p4⟩
          · rw [p3 _ (by omega)]
            have o := a4 i (by omega)
            exact ⟨o.1.cgf (fun j hj => by show z3.f 49 (29 * i + j) = _; rw [v4 _ (by omega), e49]), o.2⟩
      · omega
    · rcases q3 with ⟨v1, _⟩ | ⟨_, v2, v3, v4⟩
      · omega
      · have e4 : (y.x.g.v 4).toInt = 40 := by rw [a1, hU]; omega
        have ef' : (p'.g.v 3).toNatClampNeg = (F + 1) % 40 := clamp_of_int u2
        refine ⟨?_, ?_, fun i hi => ?_⟩
        · show x.g.v 4 = _
          rw [hx, u3]
          exact Int32.toInt_inj.mp (e4.trans v2.symm)
        · show 0 ≤ (x.g.v 3).toInt ∧ (x.g.v 3).toInt ≤ 39
          rw [hx, u2]
          omega
        · show SR (p'.r (((x.g.v 3).toNatClampNeg + i) % 40)) _ ∧ FO x.k (p'.r (((x.g.v 3).toNatClampNeg + i) % 40))
          rw [hx, ef', hk]
          rw [v2] at hi
          by_cases e : i = 39
          · subst e
            have ei : ((F + 1) % 40 + 39) % 40 = (F + U) % 40 := by omega
            rw [ei]
            have S : SR (p'.r ((F + U) % 40)) (z.f 43) := hR.q p4
            exact ⟨S.cgf (fun j hj => by rw [v3 j hj, e43]), hF.q hK p4⟩
          · rw [p3 _ (by omega)]
            have o := a4 (i + 1) (by omega)
            have ei : ((F + 1) % 40 + i) % 40 = (F + (i + 1)) % 40 := by omega
            rw [ei]
            exact ⟨o.1.cgf (fun j hj => by
              show z3.f 49 (29 * i + j) = z.f 49 (29 * (i + 1) + j)
              rw [v4 _ (by omega), e49]
              exact congrArg (z.f 49) (by omega)), o.2⟩
  · show x.g.f 4 s = z3.f 56 s ∧ (¬ z3.f 56 s = 0 → SR (p'.r (40 + s)) (fun j => z3.f 57 (29 * s + j)) ∧ FO x.k (p'.r (40 + s)))
    rw [hx, p2, hk, p3 _ (by omega), (q1.2 56 (by decide)).1, (q1.2 57 (by decide)).1, e56, e57]
    exact hL s hs
