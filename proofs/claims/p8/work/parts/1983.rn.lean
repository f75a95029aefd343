/-! ===== held, gone on from ===== -/
theorem holdL {r x1 : Int32} {z' : RS} {u : Nat} (e1 : x1.toInt = (u : Int)) (hu : u ≤ 2) : ∀ (n : Nat) (z : RS) (x : Int32) (j : Nat), x.toInt = (j : Int) → j ≤ 29 → r_hold_20L n z x1 x = some (r, z') → r = 1 ∧ FrR [157] z z' ∧ (∀ i, j ≤ i → i < 29 → z'.f 57 (29 * u + i) = z.f 43 i) ∧ (∀ i, (i < 29 * u + j ∨ 29 * u + 29 ≤ i) → z'.f 57 i = z.f 57 i) := by
  intro n
  induction n with
  | zero => intro z x j _ _ h; exact none_ne h
  | succ n ih =>
    intro z x j ex hj h
    replace h : r_hold_20 (r_hold_20L n) z x1 x = some (r, z') := h
    unfold r_hold_20 at h
    by_cases c : 29 ≤ x
    · have c' := tn_le (a := 29) (by decide) rfl c
      rw [if_pos c] at h
      cases h
      exact ⟨rfl, FrR.rfl, fun i h1 h2 => by omega, fun i _ => rfl⟩
    · have c' := tn_nle (a := 29) (by decide) rfl c
      rw [if_neg c] at h
      replace h := guard_inv h
      obtain ⟨_, h⟩ := h
      replace h := guard_inv h
      obtain ⟨_, h⟩ := h
      replace h := letS_inv h
      obtain ⟨z4, d4, h⟩ := h
      have m1 : (29 * x1).toInt = x1.toInt * 29 := ti_cmul (c := 29) (by decide) (by omega) (by omega)
      have m2 : ((29 * x1) + x).toInt = ((29 * u + j : Nat) : Int) := by
        rw [ti_add (by omega) (by omega)]
        omega
      rw [clamp_of_int ex, clamp_of_int m2] at d4
      have f4 : ∀ i, z4.f 57 i = if i = 29 * u + j then z.f 43 j else z.f 57 i := fun i => by
        rw [← d4]
        exact rsf_at
      have f43 : z4.f 43 = z.f 43 := by rw [← d4]; rfl
      have a : (x + 1).toInt = ((j + 1 : Nat) : Int) := by
        rw [tn_add ex (by decide : (1 : Int32).toInt = 1) (by omega) (by omega)]
        omega
      obtain ⟨q, q0, q1, q2⟩ := ih z4 (x + 1) (j + 1) a (by omega) h
      refine ⟨q, FrR.trans (t := z4) (by rw [← d4]; exact FrR.rfl.sf (by decide)) q0 (by decide), fun i h1 h2 => ?_, fun i hi => ?_⟩
      · by_cases e : i = j
        · rw [q2 (29 * u + i) (by omega), f4, if_pos (by omega), e]
        · rw [q1 i (by omega) h2, f43]
      · rw [q2 i (by omega), f4, if_neg (by omega)]
theorem gsf_at {s : GS} {k i j : Nat} {x : Int32} : (s.sf k i x).f k j = if j = i then x else s.f k j := by
  show va_up s.f k (upd (s.f k) i x) k j = _
  unfold va_up
  rw [if_pos rfl]
  rfl
theorem hold2_same {y y' : YS} {z z' : RS} {x1 r1 r2 : Int32} (h : REL y z) (hK : InvK y.x.k) (hI : InvR z) (h1 : kX10_hold y x1 = some (r1, y')) (h2 : r_hold z x1 = some (r2, z')) : r1 = r2 ∧ REL y' z' := by
  obtain ⟨a1, ⟨a2, a3⟩, a4, a5, a6⟩ := id h
  have z0 : (0 : Int32).toInt = 0 := by decide
  have z2 : (2 : Int32).toInt = 2 := by decide
  unfold kX10_hold kX3_keepIn at h1
  unfold r_hold at h2
  by_cases c : 0 ≤ x1.toInt ∧ x1.toInt ≤ 2
  · obtain ⟨u, eu⟩ : ∃ u : Nat, x1.toInt = (u : Int) := ⟨x1.toInt.toNat, by omega⟩
    rw [if_neg (fun q => by have := tn_lt (b := 0) rfl (by decide) q; omega), if_pos (Int32.lt_iff_toInt_lt.mpr (by rw [show (3 : Int32).toInt = 3 from by decide]; omega))] at h1
    rw [r_in_yes (by omega) (by omega), bindP_some, if_neg z_one] at h2
    replace h1 := bindI_inv h1
    obtain ⟨q, s1, u1, h1⟩ := h1
    replace u1 := guard_inv u1
    obtain ⟨_, u1⟩ := u1
    replace u1 := bindP_inv u1
    obtain ⟨s4, u4, u1⟩ := u1
    replace u1 := letS_inv u1
    obtain ⟨p5, c5, u1⟩ := u1
    replace u1 := guard_inv u1
    obtain ⟨_, u1⟩ := u1
    replace u1 := letS_inv u1
    obtain ⟨p8, c8, u1⟩ := u1
    replace h1 := letS_inv h1
    obtain ⟨s3, c3, h1⟩ := h1
    have u1' : q = 1 ∧ s1 = p8 := by cases u1; exact ⟨rfl, rfl⟩
    rw [u1'.1, if_pos (Or.inr rfl)] at h1
    have o1 : r1 = 1 ∧ y' = s3 := by cases h1; exact ⟨rfl, rfl⟩
    rw [clamp_of_int eu] at u4 c5 c8
    obtain ⟨e1, e2⟩ := copyFrom_eq u4
    have e1 : s4.e = y.x.n := e1
    have e2 : SDq s4.d y.x.n := e2
    replace h2 := guard_inv h2
    obtain ⟨_, h2⟩ := h2
    replace h2 := letS_inv h2
    obtain ⟨z3, d3, h2⟩ := h2
    rw [clamp_of_int eu] at d3
    obtain ⟨er2, Fz, q1, q2⟩ := holdL eu (by omega) fu z3 0 0 (by decide) (by omega) h2
    have F3 : FrR [156, 157] z z3 := by rw [← d3]; exact FrR.rfl.sf (by decide)
    have Fall : FrR [156, 157] z z' := F3.trans Fz (by decide)
    have z356 : ∀ i, z3.f 56 i = if i = u then vp_nar .boolean 1 else z.f 56 i := fun i => by
      rw [← d3]
      exact rsf_at
    have g5 : p5.g = y.x.g ∧ p5.n = y.x.n := by rw [← c5]; exact ⟨rfl, e1⟩
    have r5 : ∀ i, p5.r i = if i = 40 + u then s4.d else y.r i := fun i => by
      have q : p5.r i = va_up y.r (40 + u) s4.d i := by rw [← c5]; rfl
      rw [q]
      by_cases e : i = 40 + u
      · rw [if_pos e, e, va_up_self]
      · rw [if_neg e, va_up_ne _ _ e]
    have e3 : s3 = YS.mk (XS.mk (y.x.g.sf 4 u (vp_nar .boolean 1)) y.x.t y.x.n y.x.k) p5.r := by
      rw [← c3, u1'.2, ← c8]
      show YS.mk (XS.mk (p5.g.sf 4 u _) _ p5.n _) p5.r = _
      rw [g5.1, g5.2]
    refine ⟨by rw [o1.1, er2], ?_⟩
    rw [o1.2, e3]
    refine ⟨a1.fr (FrK.rfl (W := [])) Fall (by decide) (by decide), ⟨?_, a3⟩, ⟨?_, a4.2.1, fun i hi => ?_⟩, fun s hs => ?_, a6.fr (FrK.rfl (W := [])) Fall (by decide) (by decide)⟩
    · show SR y.x.n (z'.f 43)
      rw [(Fall.2 43 (by decide)).1]
      exact a2
    · show y.x.g.v 4 = z'.v 48
      rw [Fall.1 48 (by decide)]
      exact a4.1
    · show SR (p5.r (((y.x.g.v 3).toNatClampNeg + i) % 40)) (fun j => z'.f 49 (29 * i + j)) ∧ FO y.x.k (p5.r (((y.x.g.v 3).toNatClampNeg + i) % 40))
      rw [Fall.1 48 (by decide)] at hi
      rw [r5, if_neg (by omega), (Fall.2 49 (by decide)).1]
      exact a4.2.2 i hi
    · show (y.x.g.sf 4 u (vp_nar .boolean 1)).f 4 s = z'.f 56 s ∧ (¬ z'.f 56 s = 0 → SR (p5.r (40 + s)) (fun j => z'.f 57 (29 * s + j)) ∧ FO y.x.k (p5.r (40 + s)))
      have g4 : (y.x.g.sf 4 u (vp_nar .boolean 1)).f 4 s = if s = u then vp_nar .boolean 1 else y.x.g.f 4 s := gsf_at
      rw [g4, (Fz.2 56 (by decide)).1, z356 s, r5 (40 + s)]
      by_cases e : s = u
      · subst e
        rw [if_pos rfl, if_pos rfl, if_pos rfl]
        refine ⟨rfl, fun _ => ⟨(a2.q e2).cgf (fun i hi => ?_), a3.q hK e2⟩⟩
        rw [q1 i (by omega) hi, (F3.2 43 (by decide)).1]
      · rw [if_neg e, if_neg e, if_neg (by omega)]
        refine ⟨(a5 s hs).1, fun q => ?_⟩
        have o := (a5 s hs).2 q
        refine ⟨o.1.cgf (fun i hi => ?_), o.2⟩
        have z357 : z3.f 57 = z.f 57 := by rw [← d3]; rfl
        show z'.f 57 (29 * s + i) = z.f 57 (29 * s + i)
        rw [q2 _ (by omega), z357]
  · have h1 : r1 = 0 ∧ y' = y := by
      by_cases c1 : x1 < 0
      · rw [if_pos c1, bindI_some] at h1
        replace h1 := letS_inv h1
        obtain ⟨s3, c3, h1⟩ := h1
        rw [if_pos (Or.inl rfl)] at h1
        cases h1
        rw [← c3]
        exact ⟨rfl, rfl⟩
      · have c1' := tn_nlt (b := 0) rfl (by decide) c1
        rw [if_neg c1, if_neg (fun q => by have := tn_lt (b := 3) rfl (by decide) q; omega), bindI_some] at h1
        replace h1 := letS_inv h1
        obtain ⟨s3, c3, h1⟩ := h1
        rw [if_pos (Or.inl rfl)] at h1
        cases h1
        rw [← c3]
        exact ⟨rfl, rfl⟩
    rw [r_in_no (by omega), bindP_some, if_pos rfl] at h2
    cases h2
    rw [h1.1, h1.2]
    exact ⟨rfl, h⟩
theorem restoreL {r x1 : Int32} {z' : RS} {u : Nat} (e1 : x1.toInt = (u : Int)) (hu : u ≤ 2) : ∀ (n : Nat) (z : RS) (x : Int32) (j : Nat), x.toInt = (j : Int) → j ≤ 29 → r_restore_22L n z x1 x = some (r, z') → r = 1 ∧ FrR [48, 143] z z' ∧ z'.v 48 = 0 ∧ (∀ i, j ≤ i → i < 29 → z'.f 43 i = z.f 57 (29 * u + i)) ∧ (∀ i, i < j → z'.f 43 i = z.f 43 i) := by
  intro n
  induction n with
  | zero => intro z x j _ _ h; exact none_ne h
  | succ n ih =>
    intro z x j ex hj h
    replace h : r_restore_22 (r_restore_22L n) z x1 x = some (r, z') := h
    unfold r_restore_22 at h
    by_cases c : 29 ≤ x
    · have c' := tn_le (a := 29) (by decide) rfl c
      rw [if_pos c] at h
      replace h := letS_inv h
      obtain ⟨z2, d2, h⟩ := h
      cases h
      exact ⟨rfl, by rw [← d2]; exact FrR.rfl.sv (by decide), by rw [← d2]; rfl, fun i h1 h2 => by omega, fun i _ => by rw [← d2]; rfl⟩
    · have c' := tn_nle (a := 29) (by decide) rfl c
      rw [if_neg c] at h
      replace h := guard_inv h
      obtain ⟨_, h⟩ := h
      replace h := guard_inv h
      obtain ⟨_, h⟩ := h
      replace h := letS_inv h
      obtain ⟨z4, d4, h⟩ := h
      have m1 : (29 * x1).toInt = x1.toInt * 29 := ti_cmul (c := 29) (by decide) (by omega) (by omega)
      have m2 : ((29 * x1) + x).toInt = ((29 * u + j : Nat) : Int) := by
        rw [ti_add (by omega) (by omega)]
        omega
      rw [clamp_of_int ex, clamp_of_int m2] at d4
      have f4 : ∀ i, z4.f 43 i = if i = j then z.f 57 (29 * u + j) else z.f 43 i := fun i => by
        rw [← d4]
        exact rsf_at
      have f57 : z4.f 57 = z.f 57 := by rw [← d4]; rfl
      have a : (x + 1).toInt = ((j + 1 : Nat) : Int) := by
        rw [tn_add ex (by decide : (1 : Int32).toInt = 1) (by omega) (by omega)]
        omega
      obtain ⟨q, q0, qv, q1, q2⟩ := ih z4 (x + 1) (j + 1) a (by omega) h
      refine ⟨q, FrR.trans (t := z4) (by rw [← d4]; exact FrR.rfl.sf (by decide)) q0 (by decide), qv, fun i h1 h2 => ?_, fun i hi => ?_⟩
      · by_cases e : i = j
        · rw [q2 i (by omega), f4, if_pos e, e]
        · rw [q1 i (by omega) h2, f57]
      · rw [q2 i (by omega), f4, if_neg (by omega)]
theorem restore_same {y y' : YS} {z z' : RS} {x1 r1 r2 : Int32} (h : REL y z) (hK : InvK y.x.k) (hI : InvR z) (h1 : kX10_restore y x1 = some (r1, y')) (h2 : r_restore z x1 = some (r2, z')) : r1 = r2 ∧ REL y' z' := by
  obtain ⟨a1, ⟨a2, a3⟩, a4, a5, a6⟩ := id h
  have z0 : (0 : Int32).toInt = 0 := by decide
  have z2 : (2 : Int32).toInt = 2 := by decide
  unfold kX10_restore kX3_goOnFrom at h1
  unfold r_restore at h2
  by_cases c : 0 ≤ x1.toInt ∧ x1.toInt ≤ 2
  · obtain ⟨u, eu⟩ : ∃ u : Nat, x1.toInt = (u : Int) := ⟨x1.toInt.toNat, by omega⟩
    rw [if_neg (fun q => by have := tn_lt (b := 0) rfl (by decide) q; omega), if_neg (fun q => by have := tn_le (a := 3) (by decide) rfl q; omega), clamp_of_int eu] at h1
    rw [r_in_yes (by omega) (by omega), bindP_some, if_neg z_one, clamp_of_int eu] at h2
    replace h1 := bindI_inv h1
    obtain ⟨q, s1, u1, h1⟩ := h1
    replace u1 := guard_inv u1
    obtain ⟨_, u1⟩ := u1
    replace h2 := guard_inv h2
    obtain ⟨_, h2⟩ := h2
    replace h1 := letS_inv h1
    obtain ⟨s3, c3, h1⟩ := h1
    have hs := a5 u (by omega)
    by_cases d : z.f 56 u = 0
    · have d0 : (PS.mk y.x.g y.x.n y.r).g.f 4 u = 0 := hs.1.trans d
      rw [if_pos d0] at u1
      rw [if_pos d] at h2
      have u1' : q = 0 ∧ s1 = PS.mk y.x.g y.x.n y.r := by cases u1; exact ⟨rfl, rfl⟩
      rw [u1'.1, if_pos (Or.inl rfl)] at h1
      cases h1
      cases h2
      rw [← c3, u1'.2]
      exact ⟨rfl, h⟩
    · have d0 : ¬ (PS.mk y.x.g y.x.n y.r).g.f 4 u = 0 := fun q => d (hs.1.symm.trans q)
      rw [if_neg d0] at u1
      rw [if_neg d] at h2
      replace u1 := guard_inv u1
      obtain ⟨_, u1⟩ := u1
      replace u1 := bindP_inv u1
      obtain ⟨s6, u6, u1⟩ := u1
      replace u1 := letS_inv u1
      obtain ⟨p7, c7, u1⟩ := u1
      replace u1 := letS_inv u1
      obtain ⟨p9, c9, u1⟩ := u1
      have u1' : q = 1 ∧ s1 = p9 := by cases u1; exact ⟨rfl, rfl⟩
      rw [u1'.1, if_pos (Or.inr rfl)] at h1
      have o1 : r1 = 1 ∧ y' = s3 := by cases h1; exact ⟨rfl, rfl⟩
      obtain ⟨e1, e2⟩ := copyFrom_eq u6
      have e1 : s6.e = y.r (40 + u) := e1
      have e2 : SDq s6.d (y.r (40 + u)) := e2
      obtain ⟨er2, Fz, v48, q1, _⟩ := restoreL eu (by omega) fu z 0 0 (by decide) (by omega) h2
      have hr7 : p7.r = y.r := funext (fun i => by
        have q : p7.r i = va_up y.r (40 + u) s6.e i := by rw [← c7]; rfl
        rw [q, e1]
        by_cases e : i = 40 + u
        · rw [e, va_up_self]
        · rw [va_up_ne _ _ e])
      have e3 : s3 = YS.mk (XS.mk (y.x.g.sv 4 0) y.x.t s6.d y.x.k) y.r := by
        rw [← c3, u1'.2, ← c9]
        show YS.mk (XS.mk (p7.g.sv 4 0) _ p7.n _) p7.r = _
        rw [hr7, ← c7]
        rfl
      have o := hs.2 d
      refine ⟨by rw [o1.1, er2], ?_⟩
      rw [o1.2, e3]
      refine ⟨a1.fr (FrK.rfl (W := [])) Fz (by decide) (by decide), ⟨?_, o.2.q hK e2⟩, ⟨?_, a4.2.1, fun i hi => ?_⟩, fun s hs => ?_, a6.fr (FrK.rfl (W := [])) Fz (by decide) (by decide)⟩
      · exact (o.1.q e2).cgf (fun i hi => q1 i (by omega) hi)
      · show (0 : Int32) = z'.v 48
        rw [v48]
      · rw [v48, z0] at hi
        omega
      · show y.x.g.f 4 s = z'.f 56 s ∧ (¬ z'.f 56 s = 0 → SR (y.r (40 + s)) (fun j => z'.f 57 (29 * s + j)) ∧ FO y.x.k (y.r (40 + s)))
        rw [(Fz.2 56 (by decide)).1, (Fz.2 57 (by decide)).1]
        exact a5 s hs
  · have h1 : r1 = 0 ∧ y' = y := by
      by_cases c1 : x1 < 0
      · rw [if_pos c1, bindI_some] at h1
        replace h1 := letS_inv h1
        obtain ⟨s3, c3, h1⟩ := h1
        rw [if_pos (Or.inl rfl)] at h1
        cases h1
        rw [← c3]
        exact ⟨rfl, rfl⟩
      · have c1' := tn_nlt (b := 0) rfl (by decide) c1
        rw [if_neg c1, if_pos (Int32.le_iff_toInt_le.mpr (by rw [show (3 : Int32).toInt = 3 from by decide]; omega)), bindI_some] at h1
        replace h1 := letS_inv h1
        obtain ⟨s3, c3, h1⟩ := h1
        rw [if_pos (Or.inl rfl)] at h1
        cases h1
        rw [← c3]
        exact ⟨rfl, rfl⟩
    rw [r_in_no (by omega), bindP_some, if_pos rfl] at h2
    cases h2
    rw [h1.1, h1.2]
    exact ⟨rfl, h⟩
