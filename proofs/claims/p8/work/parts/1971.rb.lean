/-! ===== what is there ===== -/
theorem sms_int {f : Nat → Int32} {b : Nat} : ∀ j, j ≤ 6 → (∀ v, v < j → 0 ≤ (f (b + v)).toInt ∧ (f (b + v)).toInt ≤ 9) → (sms f b j).toInt = psum f b j ∧ 0 ≤ psum f b j ∧ psum f b j ≤ 9 * (j : Int) := by
  intro j
  induction j with
  | zero => intro _ _; exact ⟨by show (0 : Int32).toInt = (0 : Int); decide, Int.le_refl _, Int.le_refl _⟩
  | succ j ih =>
    intro hj h
    obtain ⟨i1, i2, i3⟩ := ih (by omega) (fun v hv => h v (by omega))
    have q := h j (by omega)
    have e : psum f b (j + 1) = psum f b j + (f (b + j)).toInt := rfl
    refine ⟨?_, by omega, by omega⟩
    show (sms f b j + f (b + j)).toInt = _
    rw [ti_add (by omega) (by omega), i1]
    rfl
theorem lot_same {z z' : RS} {n sd wh r1 r2 : Int32} (hn : 0 < n.toInt) (hs : sd = z.v 45) (h1 : kX10_lot n sd wh = some r1) (h2 : r_lotOf z wh n = some (r2, z')) : r1 = r2 ∧ z' = z ∧ 0 ≤ r1.toInt ∧ r1.toInt < n.toInt := by
  unfold kX10_lot kX10_stirred at h1
  unfold r_lotOf r_mixed at h2
  rw [if_pos (Int32.lt_iff_toInt_lt.mpr (by rw [show (0 : Int32).toInt = 0 from by decide]; exact hn))] at h1
  rw [bindP_some, bindP_some] at h1 h2
  replace h1 := guard_inv h1
  obtain ⟨n0, h1⟩ := h1
  replace h2 := guard_inv h2
  obtain ⟨_, h2⟩ := h2
  have u : ∀ x : Int32, 0 ≤ (ushr x 1).toInt := ti_ushr1
  rw [hs] at h1
  generalize (((((((z.v 45) ^^^ 173) * 1103515245) + 12345) ^^^ (ushr ((((z.v 45) ^^^ 173) * 1103515245) + 12345) 15)) ^^^ wh) * 1103515245) + 12345 = y at h1 h2
  have b := ti_remb (u (y ^^^ ushr y 15)) hn
  have e1 : r1 = (ushr (y ^^^ ushr y 15) 1) - (ushr (y ^^^ ushr y 15) 1) / n * n := by cases h1; rfl
  have e2 : r2 = (ushr (y ^^^ ushr y 15) 1) - (ushr (y ^^^ ushr y 15) 1) / n * n ∧ z' = z := by cases h2; exact ⟨rfl, rfl⟩
  rw [e1, e2.1, e2.2]
  exact ⟨rfl, rfl, b.1, b.2⟩
/-- the odds of a wave as Big has them -/
theorem od_big {k : KS} {z : RS} {l w : Nat} (hB : Big z) (hS : SO k z) (hl : (z.v 18).toInt = (l : Int)) (hw : (w : Int) < (k.v 1).toInt) : (∀ v, v < 6 → 0 ≤ (k.f 3 (6 * w + v)).toInt ∧ (k.f 3 (6 * w + v)).toInt ≤ 9) ∧ 0 < psum (k.f 3) (6 * w) 6 ∧ (sms (k.f 3) (6 * w) 6).toInt = psum (k.f 3) (6 * w) 6 := by
  have e1 := hS.1.1
  have o := hB.2.1 w (by rw [← e1]; exact hw)
  rw [clamp_of_int hl] at o
  have r : ∀ v, v < 6 → 0 ≤ (k.f 3 (6 * w + v)).toInt ∧ (k.f 3 (6 * w + v)).toInt ≤ 9 := fun v hv => by
    rw [od_eq hS.2.2.1 hl hw hv]
    exact o.1 v hv
  have p : ∀ j, j ≤ 6 → psum (k.f 3) (6 * w) j = psum (z.f 21) (30 * l + 6 * w) j := by
    intro j
    induction j with
    | zero => intro _; rfl
    | succ j ih =>
      intro hj
      show psum (k.f 3) (6 * w) j + (k.f 3 (6 * w + j)).toInt = psum (z.f 21) (30 * l + 6 * w) j + (z.f 21 (30 * l + 6 * w + j)).toInt
      rw [ih (by omega), od_eq hS.2.2.1 hl hw (by omega : j < 6)]
  exact ⟨r, by rw [p 6 (by omega)]; exact o.2, (sms_int 6 (by omega) r).1⟩
/-- from the j-th thing on, with what the things ahead have -/
theorem thereL {k k' : KS} {z z' : RS} {x1 lt r1 r2 : Int32} {l w : Nat} (hB : Big z) (hS : SO k z) (hl : (z.v 18).toInt = (l : Int)) (hl1 : l ≤ 1) (h1 : x1.toInt = (w : Int)) (hw : (w : Int) < (k.v 1).toInt) (hw5 : w < 5) (hlt : lt.toInt < psum (k.f 3) (6 * w) 6) (hlt0 : 0 ≤ lt.toInt) : ∀ (n m : Nat) (x5 x6 y2 y4 : Int32) (j : Nat), j < 6 → x6.toInt = (j : Int) → y4 = x6 → x5.toInt = psum (k.f 3) (6 * w) j → psum (k.f 3) (6 * w) j ≤ lt.toInt → y2.toInt = psum (k.f 3) (6 * w) (j + 1) → kX5_thingThere_24L n k x1 lt x5 x6 = some (r1, k') → r_thereAt_55L m z x1 y2 lt y4 = some (r2, z') → r1 = r2 ∧ k' = k ∧ z' = z ∧ ∃ v : Nat, v < 6 ∧ r1 = Int32.ofNat v ∧ 0 < (k.f 3 (6 * w + v)).toInt := by
  obtain ⟨rg, _, _⟩ := od_big hB hS hl hw
  intro n
  induction n with
  | zero => intro m x5 x6 y2 y4 j _ _ _ _ _ _ h; exact none_ne h
  | succ n ih =>
    intro m x5 x6 y2 y4 j hj h6 hy h5 hle h2 hs hz
    replace hs : kX5_thingThere_24 (kX5_thingThere_24L n) k x1 lt x5 x6 = some (r1, k') := hs
    cases m with
    | zero => exact none_ne hz
    | succ m =>
    replace hz : r_thereAt_55 (r_thereAt_55L m) z x1 y2 lt y4 = some (r2, z') := hz
    unfold kX5_thingThere_24 at hs
    unfold r_thereAt_55 at hz
    have n6 : ¬ 6 ≤ x6 := fun q => by
      have := tn_le (a := 6) (by decide) rfl q
      omega
    rw [if_neg n6, k_odds h1 hw5 h6 hj, bindI_some] at hs
    have pj := sms_int (f := k.f 3) (b := 6 * w) j (by omega) (fun v hv => rg v (by omega))
    have oj := rg j hj
    have ps : psum (k.f 3) (6 * w) (j + 1) = psum (k.f 3) (6 * w) j + (k.f 3 (6 * w + j)).toInt := rfl
    have a5 : (x5 + k.f 3 (6 * w + j)).toInt = psum (k.f 3) (6 * w) (j + 1) := by
      rw [ti_add (by omega) (by omega), h5, ps]
    by_cases c : lt < y2
    · have c' := ti_lt c
      rw [if_pos c] at hz
      rw [if_neg (fun q => by have := ti_le q; omega)] at hs
      have e1 : r1 = x6 ∧ k' = k := by cases hs; exact ⟨rfl, rfl⟩
      have e2 : r2 = y4 ∧ z' = z := by cases hz; exact ⟨rfl, rfl⟩
      refine ⟨by rw [e1.1, e2.1, hy], e1.2, e2.2, j, hj, by rw [e1.1]; exact eq_ofnat h6, by omega⟩
    · have c' := ti_nlt c
      rw [if_neg c] at hz
      rw [if_pos (Int32.le_iff_toInt_le.mpr (by omega))] at hs
      have j5 : j < 5 := by
        rcases (show j < 5 ∨ j = 5 by omega) with q | q
        · exact q
        · subst q
          have e6 : psum (k.f 3) (6 * w) (5 + 1) = psum (k.f 3) (6 * w) 6 := rfl
          omega
      replace hz := bindI_inv hz
      obtain ⟨q, z2, hq, hz⟩ := hz
      have a6 : (x6 + 1).toInt = ((j + 1 : Nat) : Int) := by
        rw [tn_add h6 (by decide : (1 : Int32).toInt = 1) (by omega) (by omega)]
        omega
      rw [hy] at hq hz
      obtain ⟨ez, eq⟩ := r_odds_inv hl hl1 h1 hw5 a6 (by omega) hq
      subst ez
      have eo : q = k.f 3 (6 * w + (j + 1)) := by
        rw [eq, od_eq hS.2.2.1 hl hw (by omega : j + 1 < 6)]
        exact congrArg (z2.f 21) (by omega)
      have ps2 : psum (k.f 3) (6 * w) (j + 1 + 1) = psum (k.f 3) (6 * w) (j + 1) + (k.f 3 (6 * w + (j + 1))).toInt := rfl
      have oj2 := rg (j + 1) (by omega)
      have a2 : (y2 + q).toInt = psum (k.f 3) (6 * w) (j + 1 + 1) := by
        rw [eo, ti_add (by omega) (by omega), h2, ps2]
      exact ih m (x5 + k.f 3 (6 * w + j)) (x6 + 1) (y2 + q) (x6 + 1) (j + 1) (by omega) a6 rfl a5 (by omega) a2 hs hz
theorem r_thereL {z z' : RS} {r x1 : Int32} {l w : Nat} (hl : (z.v 18).toInt = (l : Int)) (hl1 : l ≤ 1) (h1 : x1.toInt = (w : Int)) (hw : w < 5) : ∀ (n : Nat) (x2 x3 : Int32) (j : Nat), x3.toInt = (j : Int) → j ≤ 6 → x2 = sms (z.f 21) (30 * l + 6 * w) j → r_thereAt_4L n z x1 x2 x3 = some (r, z') → ∃ lt, r_lotOf z ((8 * (z.f 44 (10 + w))) + x1) (sms (z.f 21) (30 * l + 6 * w) 6) = some (lt, z) ∧ r_thereAt_55L fu z x1 (z.f 21 (30 * l + 6 * w)) lt 0 = some (r, z') := by
  intro n
  induction n with
  | zero => intro x2 x3 j _ _ _ h; exact none_ne h
  | succ n ih =>
    intro x2 x3 j h3 hj h2 h
    replace h : r_thereAt_4 (r_thereAt_4L n) z x1 x2 x3 = some (r, z') := h
    unfold r_thereAt_4 at h
    by_cases c : 6 ≤ x3
    · have c' := tn_le (a := 6) (by decide) rfl c
      have ej : j = 6 := by omega
      rw [if_pos c] at h
      replace h := guard_inv h
      obtain ⟨_, h⟩ := h
      have a10 : (10 + x1).toInt = ((10 + w : Nat) : Int) := by
        rw [tn_add (by decide : (10 : Int32).toInt = 10) h1 (by omega) (by omega)]
        omega
      rw [clamp_of_int a10, h2, ej] at h
      replace h := bindI_inv h
      obtain ⟨lt, z3, hl3, h⟩ := h
      have e3 : z3 = z := by
        unfold r_lotOf r_mixed at hl3
        rw [bindP_some, bindP_some] at hl3
        replace hl3 := guard_inv hl3
        obtain ⟨_, hl3⟩ := hl3
        cases hl3
        rfl
      subst e3
      replace h := bindI_inv h
      obtain ⟨q, z5, hq, h⟩ := h
      obtain ⟨e5, eq⟩ := r_odds_inv hl hl1 h1 hw (x2 := 0) (v := 0) (by decide) (by omega) hq
      subst e5
      rw [eq] at h
      exact ⟨lt, hl3, h⟩
    · have c' := tn_nle (a := 6) (by decide) rfl c
      rw [if_neg c] at h
      replace h := bindI_inv h
      obtain ⟨q, z2, hq, h⟩ := h
      obtain ⟨ez, eq⟩ := r_odds_inv hl hl1 h1 hw h3 (by omega) hq
      subst ez
      have a3 : (x3 + 1).toInt = ((j + 1 : Nat) : Int) := by
        rw [tn_add h3 (by decide : (1 : Int32).toInt = 1) (by omega) (by omega)]
        omega
      refine ih (x2 + q) (x3 + 1) (j + 1) a3 (by omega) ?_ h
      show x2 + q = sms (z2.f 21) (30 * l + 6 * w) j + z2.f 21 (30 * l + 6 * w + j)
      rw [h2, eq]
      exact congrArg (fun i => sms (z2.f 21) (30 * l + 6 * w) j + z2.f 21 i) (by omega)
/-- the thing that is there, by a seed and by how often the wave has shifted -/
theorem there_same {k k' : KS} {z z' : RS} {x xs sd r1 r2 : Int32} {w : Nat} (hB : Big z) (hS : SO k z) (hI : InvR z) (hK : InvK k) (hx : x.toInt = (w : Int)) (hw : (w : Int) < (k.v 1).toInt) (hsh : xs = z.f 44 (10 + w)) (hsd : sd = z.v 45) (h1 : kX5_thingThere k x xs sd = some (r1, k')) (h2 : r_thereAt z x = some (r2, z')) : r1 = r2 ∧ k' = k ∧ z' = z ∧ ∃ v : Nat, v < 6 ∧ r1 = Int32.ofNat v ∧ 0 < (k.f 3 (6 * w + v)).toInt := by
  have bw : 0 ≤ (k.v 1).toInt ∧ (k.v 1).toInt ≤ 5 := hK.1 1
  have bl : 0 ≤ (z.v 18).toInt ∧ (z.v 18).toInt ≤ 1 := hI.1 18
  obtain ⟨l, hl⟩ : ∃ l : Nat, (z.v 18).toInt = (l : Int) := ⟨(z.v 18).toInt.toNat, by omega⟩
  obtain ⟨rg, p0, sp⟩ := od_big hB hS hl hw
  unfold kX5_thingThere at h1
  replace h1 := guard_inv h1
  obtain ⟨_, h1⟩ := h1
  replace h1 := bindP_inv h1
  obtain ⟨lt1, q1, h1⟩ := h1
  unfold r_thereAt at h2
  obtain ⟨lt2, q2, h2⟩ := r_thereL hl (by omega) hx (by omega) fu 0 0 0 (by decide) (by omega) rfl h2
  have es : sms (z.f 21) (30 * l + 6 * w) 6 = sms (k.f 3) (6 * w) 6 := (sms_cg 6 (fun v hv => od_eq hS.2.2.1 hl hw hv)).symm
  rw [clamp_of_int hx, (hS.2.2.2.2.1 w hw).1, hsh] at q1
  rw [es] at q2
  obtain ⟨e1, _, b1, b2⟩ := lot_same (by rw [sp]; exact p0) hsd q1 q2
  subst e1
  have e0 : z.f 21 (30 * l + 6 * w) = k.f 3 (6 * w) := (od_eq hS.2.2.1 hl hw (by omega : 0 < 6)).symm
  rw [e0] at h2
  exact thereL hB hS hl (by omega) hx hw (by omega) (by omega) b1 fu fu 0 0 _ 0 0 (by omega) (by decide) rfl (by show (0 : Int32).toInt = (0 : Int); decide) b1 (by show _ = (0 : Int) + (k.f 3 (6 * w + 0)).toInt; rw [Int.zero_add]; rfl) h1 h2
