/-! ===== fares, who dares, what shifts, what bears ===== -/
theorem fare_same {s s' : JS} {z z' : RS} {x r1 r2 : Int32} {p : Nat} (hJ : JR s z) (e1 : x.toInt = (p : Int)) (hp : (p : Int) < (s.k.v 2).toInt) (h1 : kX0_fareOf s x = some (r1, s')) (h2 : r_faresOf z x = some (r2, z')) : r1 = r2 ∧ KeptJ s s' z z' := by
  have bp : 0 ≤ (s.k.v 2).toInt ∧ (s.k.v 2).toInt ≤ 6 := hJ.2.2.2.2.1.1 2
  unfold kX0_fareOf at h1
  unfold r_faresOf at h2
  replace h1 := bindP_inv h1
  obtain ⟨s1, p1, h1⟩ := h1
  replace h1 := bindP_inv h1
  obtain ⟨s2, p2, h1⟩ := h1
  replace h1 := bindI_inv h1
  obtain ⟨r4, k3, p4, h1⟩ := h1
  replace h1 := letS_inv h1
  obtain ⟨s5, c5, h1⟩ := h1
  replace h1 := bindP_inv h1
  obtain ⟨r7, p7, h1⟩ := h1
  replace h2 := bindP_inv h2
  obtain ⟨z1, q1, h2⟩ := h2
  replace h2 := bindI_inv h2
  obtain ⟨r3, z2, q3, h2⟩ := h2
  replace h2 := bindP_inv h2
  obtain ⟨t4, q4, h2⟩ := h2
  obtain ⟨V2, d2, K2, G1⟩ := vars_party hJ.1 hJ.2.2.2.1 hJ.2.2.2.2.1 hJ.2.1.2.2.1 (hJ.2.1.2.1 p (by omega)).2 e1 hp p1 p2 q1
  have S2 : SO s2.k z1 := hJ.1.fr K2 G1 (by decide) (by decide)
  obtain ⟨w1, g1, j1, _⟩ := ok_r_looks z x hJ.2.2.2.1 (by omega) (by omega)
  rw [q1] at g1
  cases g1
  obtain ⟨er, K3, G2⟩ := law_ask (cl := 1) S2 j1 V2 (by decide) (by omega) (by unfold dfv; rw [if_neg (by decide), if_neg (by decide)]) p4 q3
  subst er
  have e7 := held_same (m := 99) (by decide) p7 q4
  have a1 : r1 = r7 ∧ s' = s5 := by cases h1; exact ⟨rfl, rfl⟩
  have a2 : r2 = t4 ∧ z' = z2 := by cases h2; exact ⟨rfl, rfl⟩
  refine ⟨by rw [a1.1, a2.1, e7], ?_, ?_, ?_⟩
  · rw [a1.2, ← c5]
    exact d2
  · rw [a1.2, ← c5]
    exact (FrK.rfl.trans K2 (by decide)).trans K3 (by decide)
  · rw [a2.2]
    exact (FrR.rfl.trans G1 (by decide)).trans G2 (by decide)
theorem dare_same {s s' : JS} {z z' : RS} {x r1 r2 : Int32} {p : Nat} (hJ : JR s z) (e1 : x.toInt = (p : Int)) (hp : (p : Int) < (s.k.v 2).toInt) (h1 : kX0_isDaring s x = some (r1, s')) (h2 : r_doesDare z x = some (r2, z')) : r1 = r2 ∧ KeptJ s s' z z' := by
  have bp : 0 ≤ (s.k.v 2).toInt ∧ (s.k.v 2).toInt ≤ 6 := hJ.2.2.2.2.1.1 2
  unfold kX0_isDaring at h1
  unfold r_doesDare at h2
  replace h1 := bindP_inv h1
  obtain ⟨s1, p1, h1⟩ := h1
  replace h1 := bindP_inv h1
  obtain ⟨s2, p2, h1⟩ := h1
  replace h1 := bindI_inv h1
  obtain ⟨r4, k3, p4, h1⟩ := h1
  replace h1 := letS_inv h1
  obtain ⟨s5, c5, h1⟩ := h1
  replace h2 := bindP_inv h2
  obtain ⟨z1, q1, h2⟩ := h2
  replace h2 := bindI_inv h2
  obtain ⟨r3, z2, q3, h2⟩ := h2
  obtain ⟨V2, d2, K2, G1⟩ := vars_party hJ.1 hJ.2.2.2.1 hJ.2.2.2.2.1 hJ.2.1.2.2.1 (hJ.2.1.2.1 p (by omega)).2 e1 hp p1 p2 q1
  have S2 : SO s2.k z1 := hJ.1.fr K2 G1 (by decide) (by decide)
  obtain ⟨w1, g1, j1, _⟩ := ok_r_looks z x hJ.2.2.2.1 (by omega) (by omega)
  rw [q1] at g1
  cases g1
  obtain ⟨er, K3, G2⟩ := law_ask (cl := 2) S2 j1 V2 (by decide) (by omega) (by unfold dfv; rw [if_neg (by decide), if_neg (by decide)]) p4 q3
  subst er
  have a : r1 = r2 ∧ s' = s5 ∧ z' = z2 := by
    by_cases c : r4 ≤ 0
    · rw [if_pos c] at h1 h2
      cases h1
      cases h2
      exact ⟨rfl, rfl, rfl⟩
    · rw [if_neg c] at h1 h2
      cases h1
      cases h2
      exact ⟨rfl, rfl, rfl⟩
  refine ⟨a.1, ?_, ?_, ?_⟩
  · rw [a.2.1, ← c5]
    exact d2
  · rw [a.2.1, ← c5]
    exact (FrK.rfl.trans K2 (by decide)).trans K3 (by decide)
  · rw [a.2.2]
    exact (FrR.rfl.trans G1 (by decide)).trans G2 (by decide)
theorem shift_same {s s' : JS} {z z' : RS} {x r1 r2 : Int32} {w : Nat} (hS : SO s.k z) (hI : InvR z) (hK : InvK s.k) (hy : s.d.v 5 = z.f 44 27) (hR : SRw s.d (z.f 44) w) (e1 : x.toInt = (w : Int)) (hw : (w : Int) < (s.k.v 1).toInt) (h1 : kX0_shiftsOf s x = some (r1, s')) (h2 : r_shiftsOf z x = some (r2, z')) : r1 = r2 ∧ KeptJ s s' z z' := by
  have bw : 0 ≤ (s.k.v 1).toInt ∧ (s.k.v 1).toInt ≤ 5 := hK.1 1
  unfold kX0_shiftsOf at h1
  unfold r_shiftsOf at h2
  replace h1 := bindP_inv h1
  obtain ⟨s1, p1, h1⟩ := h1
  replace h1 := bindP_inv h1
  obtain ⟨s2, p2, h1⟩ := h1
  replace h1 := bindI_inv h1
  obtain ⟨r4, k3, p4, h1⟩ := h1
  replace h1 := letS_inv h1
  obtain ⟨s5, c5, h1⟩ := h1
  replace h1 := bindP_inv h1
  obtain ⟨r7, p7, h1⟩ := h1
  replace h2 := bindP_inv h2
  obtain ⟨z1, q1, h2⟩ := h2
  replace h2 := bindP_inv h2
  obtain ⟨z2, q2, h2⟩ := h2
  replace h2 := bindI_inv h2
  obtain ⟨t4, z3, q4, h2⟩ := h2
  replace h2 := bindP_inv h2
  obtain ⟨t5, q5, h2⟩ := h2
  obtain ⟨V1, d1, K1, G1⟩ := vars_none hy p1 q1
  have S1 : SO s1.k z1 := hS.fr K1 G1 (by decide) (by decide)
  have R1 : SRw s1.d (z1.f 44) w := by rw [d1, (G1.2 44 (by decide)).1]; exact hR
  obtain ⟨y1, f1, i1, _⟩ := ok_kX0_clearVars s hK
  rw [p1] at f1
  cases f1
  obtain ⟨w1, g1, j1, _⟩ := ok_r_looks z (-1) hI (by decide) (by decide)
  rw [q1] at g1
  cases g1
  have hw1 : (w : Int) < (s1.k.v 1).toInt := by rw [K1.1 1 (by decide)]; exact hw
  obtain ⟨V2, d2, K2, G2⟩ := vars_wave V1 S1 R1 j1 i1 e1 hw1 p2 q2
  obtain ⟨w2, g2, j2, _⟩ := ok_r_looksOver z1 x j1 (by omega) (by omega)
  rw [q2] at g2
  cases g2
  have K12 : FrK [113] s.k s2.k := K1.trans K2 (by decide)
  have G12 : FrR [140] z z2 := G1.trans G2 (by decide)
  have S2 : SO s2.k z2 := hS.fr K12 G12 (by decide) (by decide)
  obtain ⟨er, K3, G3⟩ := law_ask (cl := 3) S2 j2 V2 (by decide) (by omega) (by unfold dfv; rw [if_neg (by decide), if_pos rfl]) p4 q4
  subst er
  have e7 := held_same (m := 100) (by decide) p7 q5
  have a1 : r1 = r7 ∧ s' = s5 := by cases h1; exact ⟨rfl, rfl⟩
  have a2 : r2 = t5 ∧ z' = z3 := by cases h2; exact ⟨rfl, rfl⟩
  refine ⟨by rw [a1.1, a2.1, e7], ?_, ?_, ?_⟩
  · rw [a1.2, ← c5]
    exact d2.trans d1
  · rw [a1.2, ← c5]
    exact (FrK.rfl.trans K12 (by decide)).trans K3 (by decide)
  · rw [a2.2]
    exact (FrR.rfl.trans G12 (by decide)).trans G3 (by decide)
/-! the things of a guess -/
def tg (g w : Nat) : Nat := g / 6 ^ w % 6
theorem tg_lt (g w : Nat) : tg g w < 6 := Nat.mod_lt _ (by omega)
theorem k_thingL {x1 r : Int32} {w : Nat} (h1 : x1.toInt = (w : Int)) (hw : w ≤ 5) : ∀ (n : Nat) (x2 x3 : Int32) (j m : Nat), x3.toInt = (j : Int) → j ≤ w → x2.toInt = (m : Int) → kX10_thingIn_4L n x1 x2 x3 = some r → r.toInt = ((m / 6 ^ (w - j) % 6 : Nat) : Int) := by
  intro n
  induction n with
  | zero => intro x2 x3 j m _ _ _ h; exact none_ne h
  | succ n ih =>
    intro x2 x3 j m h3 hj h2 h
    replace h : kX10_thingIn_4 (kX10_thingIn_4L n) x1 x2 x3 = some r := h
    unfold kX10_thingIn_4 at h
    by_cases c : x1 ≤ x3
    · have c' := ti_le c
      have ej : w - j = 0 := by omega
      rw [if_pos c] at h
      have e : r = x2 - x2 / 6 * 6 := by cases h; rfl
      rw [e, ej, ti_remc (c := 6) (by decide) (by omega) (by omega), h2]
      simp
    · have c' := ti_nle c
      rw [if_neg c] at h
      have a3 : (x3 + 1).toInt = ((j + 1 : Nat) : Int) := by
        rw [tn_add h3 (by decide : (1 : Int32).toInt = 1) (by omega) (by omega)]
        omega
      have a2 : (x2 / 6).toInt = ((m / 6 : Nat) : Int) := by
        rw [ti_divc (c := 6) (by decide) (by omega) (by omega), h2]
        omega
      have r1 := ih (x2 / 6) (x3 + 1) (j + 1) (m / 6) a3 (by omega) a2 h
      rw [r1]
      have e1 : w - j = (w - (j + 1)) + 1 := by omega
      rw [e1, Nat.pow_succ, Nat.mul_comm, ← Nat.div_div_eq_div_mul]
theorem k_thing {x0 x1 r : Int32} {g w : Nat} (h0 : x0.toInt = (g : Int)) (h1 : x1.toInt = (w : Int)) (hw : w ≤ 5) (h : kX10_thingIn x0 x1 = some r) : r.toInt = (tg g w : Int) := by
  unfold kX10_thingIn at h
  have q := k_thingL h1 hw fu x0 0 0 g (by decide) (by omega) h0 h
  rw [Nat.sub_zero] at q
  exact q
theorem six_pow (w : Nat) (h : w ≤ 5) : (six6 w).toInt = ((6 ^ w : Nat) : Int) := by
  rcases (show w = 0 ∨ w = 1 ∨ w = 2 ∨ w = 3 ∨ w = 4 ∨ w = 5 by omega) with e | e | e | e | e | e <;> (rw [e]; decide)
theorem r_thing {z z' : RS} {x1 x2 r : Int32} {g w : Nat} (h6 : ∀ j, j < 6 → z.f 46 j = six6 j) (h0 : x1.toInt = (g : Int)) (h1 : x2.toInt = (w : Int)) (hw : w ≤ 5) (h : r_thingAt z x1 x2 = some (r, z')) : z' = z ∧ r.toInt = (tg g w : Int) := by
  unfold r_thingAt at h
  replace h := guard_inv h
  obtain ⟨_, h⟩ := h
  replace h := guard_inv h
  obtain ⟨_, h⟩ := h
  rw [clamp_of_int h1, h6 w (by omega)] at h
  have e : r = (x1 / six6 w) - (x1 / six6 w) / 6 * 6 ∧ z' = z := by cases h; exact ⟨rfl, rfl⟩
  refine ⟨e.2, ?_⟩
  have sp := six_pow w hw
  have pp : 0 < 6 ^ w := Nat.pow_pos (by omega)
  have a : (x1 / six6 w).toInt = ((g / 6 ^ w : Nat) : Int) := by
    rw [ti_div (by omega) (by omega), h0, sp]
    exact (Int.natCast_ediv g (6 ^ w)).symm
  have a0 : 0 ≤ (x1 / six6 w).toInt := by rw [a]; exact Int.natCast_nonneg _
  rw [e.1, ti_remc (c := 6) (by decide) a0 (by omega), a]
  unfold tg
  generalize g / 6 ^ w = m
  omega
theorem bear_same {s s' : JS} {z z' : RS} {x1 x2 x3 r1 r2 : Int32} {p w v : Nat} (hN : NRw s z p w) (e1 : x1.toInt = (p : Int)) (hp : (p : Int) < (s.k.v 2).toInt) (e2 : x2.toInt = (w : Int)) (hw : (w : Int) < (s.k.v 1).toInt) (e3 : x3.toInt = (v : Int)) (hv : v < 6) (h1 : kX0_isBearing s x1 x2 x3 = some (r1, s')) (h2 : r_doesBear z x1 x2 x3 = some (r2, z')) : r1 = r2 ∧ KeptJ s s' z z' := by
  have bw : 0 ≤ (s.k.v 1).toInt ∧ (s.k.v 1).toInt ≤ 5 := hN.2.2.1.1 1
  have bl : 0 ≤ (z.v 18).toInt ∧ (z.v 18).toInt ≤ 1 := hN.2.1.1 18
  obtain ⟨l, hl⟩ : ∃ l : Nat, (z.v 18).toInt = (l : Int) := ⟨(z.v 18).toInt.toNat, by omega⟩
  unfold kX0_isBearing at h1
  unfold r_doesBear at h2
  rw [k_odds e2 (by omega) e3 hv, bindI_some] at h1
  replace h1 := letS_inv h1
  obtain ⟨s3, c3, h1⟩ := h1
  replace h1 := bindI_inv h1
  obtain ⟨r6, s5, p6, h1⟩ := h1
  replace h2 := bindI_inv h2
  obtain ⟨o2, z1, q2, h2⟩ := h2
  obtain ⟨ez, eo⟩ := r_odds_inv hl (by omega) e2 (by omega) e3 hv q2
  subst ez
  replace h2 := bindI_inv h2
  obtain ⟨r4, z3, q4, h2⟩ := h2
  have es3 : s3 = s := by rw [← c3]; rfl
  rw [es3] at p6
  obtain ⟨er, kp⟩ := need_same hN e1 hp e2 hw e3 hv p6 q4
  subst er
  have eod : s.k.f 3 (6 * w + v) = o2 := by
    rw [od_eq hN.1.2.2.1 hl hw hv, eo]
    exact congrArg (z1.f 21) (by omega)
  rw [eod] at h1
  by_cases c : o2 < r6
  · rw [if_pos c] at h1 h2
    cases h1
    cases h2
    exact ⟨rfl, kp⟩
  · rw [if_neg c] at h1 h2
    cases h1
    cases h2
    exact ⟨rfl, kp⟩
/-- a query's end: the two worlds again -/
theorem KeptJ.on {s s' : JS} {z z' : RS} (h : KeptJ s s' z z') (hJ : JR s z) : InvK s'.k → InvR z' → JR s' z' := fun a b => h.jr hJ a b
theorem need_jr {s s' : JS} {z z' : RS} {x1 x2 x3 r1 r2 : Int32} {p w v : Nat} (hJ : JR s z) (e1 : x1.toInt = (p : Int)) (hp : (p : Int) < (s.k.v 2).toInt) (e2 : x2.toInt = (w : Int)) (hw : (w : Int) < (s.k.v 1).toInt) (e3 : x3.toInt = (v : Int)) (hv : v < 6) (h1 : kX0_needOf s x1 x2 x3 = some (r1, s')) (h2 : r_needsOf z x1 x2 x3 = some (r2, z')) : JR s' z' := by
  have bw : 0 ≤ (s.k.v 1).toInt ∧ (s.k.v 1).toInt ≤ 5 := hJ.2.2.2.2.1.1 1
  have bp : 0 ≤ (s.k.v 2).toInt ∧ (s.k.v 2).toInt ≤ 6 := hJ.2.2.2.2.1.1 2
  obtain ⟨y, f, i, _⟩ := ok_kX0_needOf s x1 x2 x3 hJ.2.2.2.2.1 (by omega) (by omega) (by omega) (by omega) (by omega) (by omega)
  rw [h1] at f
  cases f
  obtain ⟨u, g, j, _⟩ := ok_r_needsOf z x1 x2 x3 hJ.2.2.2.1 hJ.2.2.1 (by omega) (by omega) (by omega) (by omega) (by omega) (by omega)
  rw [h2] at g
  cases g
  exact (need_same (hJ.nr (by omega) (by omega)) e1 hp e2 hw e3 hv h1 h2).2.jr hJ i j
theorem bear_jr {s s' : JS} {z z' : RS} {x1 x2 x3 r1 r2 : Int32} {p w v : Nat} (hJ : JR s z) (e1 : x1.toInt = (p : Int)) (hp : (p : Int) < (s.k.v 2).toInt) (e2 : x2.toInt = (w : Int)) (hw : (w : Int) < (s.k.v 1).toInt) (e3 : x3.toInt = (v : Int)) (hv : v < 6) (h1 : kX0_isBearing s x1 x2 x3 = some (r1, s')) (h2 : r_doesBear z x1 x2 x3 = some (r2, z')) : JR s' z' := by
  have bw : 0 ≤ (s.k.v 1).toInt ∧ (s.k.v 1).toInt ≤ 5 := hJ.2.2.2.2.1.1 1
  have bp : 0 ≤ (s.k.v 2).toInt ∧ (s.k.v 2).toInt ≤ 6 := hJ.2.2.2.2.1.1 2
  obtain ⟨y, f, i, _⟩ := ok_kX0_isBearing s x1 x2 x3 hJ.2.2.2.2.1 (by omega) (by omega) (by omega) (by omega) (by omega) (by omega)
  rw [h1] at f
  cases f
  obtain ⟨u, g, j, _⟩ := ok_r_doesBear z x1 x2 x3 hJ.2.2.2.1 hJ.2.2.1 (by omega) (by omega) (by omega) (by omega) (by omega) (by omega)
  rw [h2] at g
  cases g
  exact (bear_same (hJ.nr (by omega) (by omega)) e1 hp e2 hw e3 hv h1 h2).2.jr hJ i j
/-- over how many waves a guess bears a party -/
theorem borneL {x1 x2 r1 r2 : Int32} {p g : Nat} {s' : JS} {z' : RS} (e1 : x1.toInt = (p : Int)) (e2 : x2.toInt = (g : Int)) {s0 : JS} {z0 : RS} : ∀ (n m : Nat) (s : JS) (z : RS) (x : Int32) (j : Nat), JR s z → KeptJ s0 s z0 z → (p : Int) < (s.k.v 2).toInt → x.toInt = (j : Int) → (j : Int) ≤ (s.k.v 1).toInt → kX2_borneOver_3L n s x1 x2 x = some (r1, s') → r_bearsBy_2L m z x1 x2 x = some (r2, z') → r1 = r2 ∧ KeptJ s0 s' z0 z' ∧ JR s' z' := by
  intro n
  induction n with
  | zero => intro m s z x j _ _ _ _ _ h; exact none_ne h
  | succ n ih =>
    intro m s z x j hJ hk hp ex hj hs hz
    replace hs : kX2_borneOver_3 (kX2_borneOver_3L n) s x1 x2 x = some (r1, s') := hs
    cases m with
    | zero => exact none_ne hz
    | succ m =>
    replace hz : r_bearsBy_2 (r_bearsBy_2L m) z x1 x2 x = some (r2, z') := hz
    have bw : 0 ≤ (s.k.v 1).toInt ∧ (s.k.v 1).toInt ≤ 5 := hJ.2.2.2.2.1.1 1
    have bp : (s.k.v 2).toInt ≤ 6 := (hJ.2.2.2.2.1.1 2).2
    unfold kX2_borneOver_3 at hs
    unfold r_bearsBy_2 at hz
    replace hz := guard_inv hz
    obtain ⟨_, hz⟩ := hz
    rw [← hJ.1.1.1] at hz
    by_cases c : s.k.v 1 ≤ x
    · rw [if_pos c] at hs hz
      have a1 : r1 = x ∧ s' = s := by cases hs; exact ⟨rfl, rfl⟩
      have a2 : r2 = x ∧ z' = z := by cases hz; exact ⟨rfl, rfl⟩
      rw [a1.1, a2.1, a1.2, a2.2]
      exact ⟨rfl, hk, hJ⟩
    · have c' := ti_nle c
      rw [if_neg c] at hs hz
      replace hs := bindP_inv hs
      obtain ⟨t1, u1, hs⟩ := hs
      replace hs := bindI_inv hs
      obtain ⟨t4, s3, u4, hs⟩ := hs
      replace hz := bindI_inv hz
      obtain ⟨y4, z3, w4, hz⟩ := hz
      replace hz := bindI_inv hz
      obtain ⟨y6, z5, w6, hz⟩ := hz
      have q1 := k_thing e2 ex (by omega) u1
      obtain ⟨ez, q2⟩ := r_thing hJ.1.2.1 e2 ex (by omega) w4
      subst ez
      have et : t1 = y4 := Int32.toInt_inj.mp (q1.trans q2.symm)
      subst et
      obtain ⟨er, kp⟩ := bear_same (hJ.nr (by omega) (by omega)) e1 hp ex (by omega) q1 (tg_lt g j) u4 w6
      have J5 := bear_jr hJ e1 hp ex (by omega) q1 (tg_lt g j) u4 w6
      subst er
      by_cases d : t4 = 0
      · rw [if_pos d] at hs hz
        have a1 : r1 = x ∧ s' = s3 := by cases hs; exact ⟨rfl, rfl⟩
        have a2 : r2 = x ∧ z' = z5 := by cases hz; exact ⟨rfl, rfl⟩
        rw [a1.1, a2.1, a1.2, a2.2]
        exact ⟨rfl, hk.trans kp, J5⟩
      · rw [if_neg d] at hs hz
        have a : (x + 1).toInt = ((j + 1 : Nat) : Int) := by
          rw [tn_add ex (by decide : (1 : Int32).toInt = 1) (by omega) (by omega)]
          omega
        exact ih m s3 z5 (x + 1) (j + 1) J5 (hk.trans kp) (by rw [kp.2.1.1 2 (by decide)]; exact hp) a (by rw [kp.2.1.1 1 (by decide)]; omega) hs hz
theorem borne_same {s s' : JS} {z z' : RS} {x1 x2 r1 r2 : Int32} {p g : Nat} (hJ : JR s z) (e1 : x1.toInt = (p : Int)) (hp : (p : Int) < (s.k.v 2).toInt) (e2 : x2.toInt = (g : Int)) (h1 : kX2_borneOver s x1 x2 = some (r1, s')) (h2 : r_bearsBy z x1 x2 = some (r2, z')) : r1 = r2 ∧ KeptJ s s' z z' ∧ JR s' z' := by
  have bw : 0 ≤ (s.k.v 1).toInt ∧ (s.k.v 1).toInt ≤ 5 := hJ.2.2.2.2.1.1 1
  unfold kX2_borneOver at h1
  unfold r_bearsBy at h2
  exact borneL e1 e2 fu fu s z 0 0 hJ KeptJ.rfl hp (by decide) (by omega) h1 h2
