/-! ===== years go by ===== -/
abbrev WYZ : List Nat := [42, 140, 141, 147]
theorem year_first {n : Nat} {z' z0 : RS} (hn : wv z0 = (n : Int)) (hn5 : n ≤ 5) (hB0 : Big z0) : ∀ (m : Nat) (z : RS) (x : Int32) (j : Nat), FrR WYZ z0 z → InvR z → x.toInt = (j : Int) → j ≤ n → r_yearGoes_2L m z x = some z' → ∃ y, r_yearGoes_64L fu y 0 = some z' ∧ FrR WYZ z0 y ∧ InvR y ∧ (∀ i, i < j → y.f 47 i = z.f 47 i) ∧ (∀ i, j ≤ i → i < n → ∃ zi zi' r4 r6, FrR WYZ z0 zi ∧ InvR zi ∧ r_lotOf zi (((8 * (zi.f 44 27)) + 1000000) + Int32.ofNat i) 100 = some (r4, zi) ∧ r_shiftsOf zi (Int32.ofNat i) = some (r6, zi') ∧ (y.f 47 i = 0 ↔ r6 ≤ r4)) := by
  intro m
  induction m with
  | zero => intro z x j _ _ _ _ h; exact none_ne h
  | succ m ih =>
    intro z x j F I ex hj h
    replace h : r_yearGoes_2 (r_yearGoes_2L m) z x = some z' := h
    have hwz : (z.f 20 (z.v 18).toNatClampNeg).toInt = (n : Int) := by
      rw [(F.2 20 (by decide)).1, F.1 18 (by decide)]
      exact hn
    unfold r_yearGoes_2 at h
    replace h := guard_inv h
    obtain ⟨_, h⟩ := h
    by_cases c : z.f 20 (z.v 18).toNatClampNeg ≤ x
    · have c' := ti_le c
      rw [if_pos c] at h
      exact ⟨z, h, F, I, fun _ _ => rfl, fun i h1 h2 => by omega⟩
    · have c' := ti_nle c
      rw [if_neg c] at h
      replace h := bindI_inv h
      obtain ⟨r4, z3, w4, h⟩ := h
      have ez : z3 = z := by
        unfold r_lotOf r_mixed at w4
        rw [bindP_some, bindP_some] at w4
        replace w4 := guard_inv w4
        obtain ⟨_, w4⟩ := w4
        cases w4
        rfl
      subst ez
      replace h := bindI_inv h
      obtain ⟨r6, z5, w6, h⟩ := h
      obtain ⟨u, gu, Iu, Fu, _⟩ := ok_r_shiftsOf z3 x I (hB0.fr F (by decide)) (by omega) (by omega)
      rw [w6] at gu
      cases gu
      have Fu : FrR [42, 140, 141] z3 z5 := Fu
      have a : (x + 1).toInt = ((j + 1 : Nat) : Int) := by
        rw [tn_add ex (by decide : (1 : Int32).toInt = 1) (by omega) (by omega)]
        omega
      have go : ∀ t0 : Int32, (vp_nar .boolean t0 = 0 ↔ r6 ≤ r4) → r_yearGoes_55 (r_yearGoes_2L m) z5 x t0 x = some z' → ∃ y, r_yearGoes_64L fu y 0 = some z' ∧ FrR WYZ z0 y ∧ InvR y ∧ (∀ i, i < j → y.f 47 i = z3.f 47 i) ∧ (∀ i, j ≤ i → i < n → ∃ zi zi' r4 r6, FrR WYZ z0 zi ∧ InvR zi ∧ r_lotOf zi (((8 * (zi.f 44 27)) + 1000000) + Int32.ofNat i) 100 = some (r4, zi) ∧ r_shiftsOf zi (Int32.ofNat i) = some (r6, zi') ∧ (y.f 47 i = 0 ↔ r6 ≤ r4)) := by
        intro t0 ht h
        unfold r_yearGoes_55 at h
        replace h := guard_inv h
        obtain ⟨_, h⟩ := h
        replace h := letS_inv h
        obtain ⟨z2, d2, h⟩ := h
        rw [clamp_of_int ex] at d2
        have f2 : ∀ i, z2.f 47 i = if i = j then vp_nar .boolean t0 else z5.f 47 i := fun i => by
          rw [← d2]
          exact rsf_at
        have F2 : FrR WYZ z0 z2 := by
          rw [← d2]
          exact (F.trans Fu (by decide)).sf (k := 47) (by decide)
        have I2 : InvR z2 := by rw [← d2]; exact Iu.sfF (k := 47) rfl rfl
        obtain ⟨y, y1, y2, y3, y4, y5⟩ := ih z2 (x + 1) (j + 1) F2 I2 a (by omega) h
        refine ⟨y, y1, y2, y3, fun i hi => ?_, fun i h1 h2 => ?_⟩
        · rw [y4 i (by omega), f2, if_neg (by omega), (Fu.2 47 (by decide)).1]
        · by_cases e : i = j
          · subst e
            refine ⟨z3, z5, r4, r6, F, I, ?_, ?_, ?_⟩
            · rw [← eq_ofnat ex]; exact w4
            · rw [← eq_ofnat ex]; exact w6
            · rw [y4 i (by omega), f2, if_pos rfl]
              exact ht
          · exact y5 i (by omega) h2
      by_cases d : r6 ≤ r4
      · rw [if_pos d] at h
        exact go 0 ⟨fun _ => d, fun _ => nar01.1⟩ h
      · rw [if_neg d] at h
        exact go 1 ⟨fun q => absurd q nar01.2, fun q => absurd q d⟩ h
theorem year_row {x2 x3 : Int32} {n : Nat} {s0 s' : JS} {z0 y0 z' : RS} {k2 : JS → Int32 → Int32 → Option JS} (hS0 : SO s0.k z0) (hB0 : Big z0) (hn : (s0.k.v 1).toInt = (n : Int)) (hn5 : n ≤ 5) (h45 : s0.k.v 4 = z0.v 45)
    (hfs : ∀ i, i < n → ∃ zi zi' r4 r6, FrR WYZ z0 zi ∧ InvR zi ∧ r_lotOf zi (((8 * (zi.f 44 27)) + 1000000) + Int32.ofNat i) 100 = some (r4, zi) ∧ r_shiftsOf zi (Int32.ofNat i) = some (r6, zi') ∧ (y0.f 47 i = 0 ↔ r6 ≤ r4)) :
    ∀ (m m2 : Nat) (s : JS) (y : RS) (x : Int32) (j : Nat), x.toInt = (j : Int) → j ≤ n → FrK WSK s0.k s.k → InvK s.k → FrR (144 :: WYZ) z0 y → y.f 47 = y0.f 47 → SR s.d (y.f 44) → FO s.k s.d → y.f 44 27 = z0.f 44 27 → (∀ i, j ≤ i → i < 5 → y.f 44 i = z0.f 44 i ∧ y.f 44 (5 + i) = z0.f 44 (5 + i)) → kX0_passYears_10L k2 m s x2 x3 x = some s' → r_yearGoes_64L m2 y x = some z' → ∃ t, k2 t x2 (x3 + 1) = some s' ∧ FrK WSK s0.k t.k ∧ InvK t.k ∧ FrR (144 :: WYZ) z0 z' ∧ SR t.d (z'.f 44) ∧ FO t.k t.d := by
  intro m
  induction m with
  | zero => intro m2 s y x j _ _ _ _ _ _ _ _ _ _ h; exact none_ne h
  | succ m ih =>
    intro m2 s y x j ex hj K I F h47 hR hF h27 hrow hs hz
    replace hs : kX0_passYears_10 k2 (kX0_passYears_10L k2 m) s x2 x3 x = some s' := hs
    cases m2 with
    | zero => exact none_ne hz
    | succ m2 =>
    replace hz : r_yearGoes_64 (r_yearGoes_64L m2) y x = some z' := hz
    have hwk : (s.k.v 1).toInt = (n : Int) := by rw [K.1 1 (by decide)]; exact hn
    have ey20 : y.f 20 (y.v 18).toNatClampNeg = s.k.v 1 := by
      rw [(F.2 20 (by decide)).1, F.1 18 (by decide), K.1 1 (by decide)]
      exact hS0.1.1.symm
    have hy5 : s.d.v 5 = z0.f 44 27 := by rw [hR.2.2.1, h27]
    unfold kX0_passYears_10 at hs
    unfold r_yearGoes_64 at hz
    replace hz := guard_inv hz
    obtain ⟨_, hz⟩ := hz
    rw [ey20] at hz
    by_cases c : s.k.v 1 ≤ x
    · rw [if_pos c] at hs hz
      replace hs := letS_inv hs
      obtain ⟨s2, c2, hs⟩ := hs
      replace hz := letS_inv hz
      obtain ⟨z3, g3, hz⟩ := hz
      cases hz
      have f3 := r44_at g3
      have d2 : s2.d = s.d.sv 5 ((s.d.v 5) + 1) := by rw [← c2]; rfl
      have k2' : s2.k = s.k := by rw [← c2]; rfl
      refine ⟨s2, hs, by rw [k2']; exact K, by rw [k2']; exact I, by rw [← g3]; exact F.sf (by decide), ?_, ?_⟩
      · rw [d2]
        exact SR.setv5 hR (by rw [hR.2.2.1]) f3
      · unfold FO
        rw [k2', d2]
        exact hF
    · have c' := ti_nle c
      rw [if_neg c] at hs hz
      replace hs := bindP_inv hs
      obtain ⟨s4, u4, hs⟩ := hs
      replace hz := guard_inv hz
      obtain ⟨_, hz⟩ := hz
      rw [clamp_of_int ex, h47] at hz
      obtain ⟨zi, zi', r4, r6, Fi, Ii, hl4, hs6, hbit⟩ := hfs j (by omega)
      rw [← eq_ofnat ex] at hl4 hs6
      unfold kX0_passYearOver at u4
      replace u4 := bindP_inv u4
      obtain ⟨q1, l1, u4⟩ := u4
      replace u4 := bindI_inv u4
      obtain ⟨q3, s2, u3, u4⟩ := u4
      have i44 : zi.f 44 = z0.f 44 := (Fi.2 44 (by decide)).1
      rw [hy5] at l1
      rw [i44] at hl4
      obtain ⟨el, _, _, _⟩ := lot_same (n := 100) (by decide) (by rw [K.1 4 (by decide), h45, Fi.1 45 (by decide)]) l1 hl4
      subst el
      have hw0 := hrow j (by omega) (by omega)
      have Ri : SRw s.d (zi.f 44) j := by
        rw [i44]
        have q := hR.at (w := j) (by omega)
        unfold SRw at q ⊢
        rw [← hw0.1, ← hw0.2]
        exact q
      have Si : SO s.k zi := hS0.fr K Fi (by decide) (by decide)
      obtain ⟨es, kp⟩ := shift_same Si Ii I (by rw [i44]; exact hy5) Ri ex (by omega) u3 hs6
      subst es
      obtain ⟨w, fw, I2, _⟩ := ok_kX0_shiftsOf s x I (by omega) (by omega)
      rw [u3] at fw
      cases fw
      have K2 : FrK WSK s0.k s2.k := K.trans kp.2.1 (fun _ q => q)
      have a : (x + 1).toInt = ((j + 1 : Nat) : Int) := by
        rw [tn_add ex (by decide : (1 : Int32).toInt = 1) (by omega) (by omega)]
        omega
      have F2 : FO s2.k s2.d := by
        unfold FO
        rw [kp.1, kp.2.1.1 1 (by decide), (kp.2.1.2 3 (by decide)).1]
        exact hF
      unfold r_yearGoes_119 at hz
      by_cases d : q3 ≤ q1
      · rw [if_pos d] at u4
        rw [if_pos (hbit.mpr d)] at hz
        cases u4
        exact ih m2 s4 y (x + 1) (j + 1) a (by omega) K2 I2 F h47 (by rw [kp.1]; exact hR) F2 h27 (fun i h1 h2 => hrow i (by omega) h2) hs hz
      · rw [if_neg d] at u4
        rw [if_neg (fun q => d (hbit.mp q))] at hz
        rw [clamp_of_int ex] at u4
        replace u4 := guard_inv u4
        obtain ⟨_, u4⟩ := u4
        replace u4 := guard_inv u4
        obtain ⟨_, u4⟩ := u4
        replace u4 := letS_inv u4
        obtain ⟨s7, c7, u4⟩ := u4
        replace u4 := guard_inv u4
        obtain ⟨_, u4⟩ := u4
        replace u4 := letS_inv u4
        obtain ⟨s10, c10, u4⟩ := u4
        replace u4 := guard_inv u4
        obtain ⟨_, u4⟩ := u4
        replace u4 := letS_inv u4
        obtain ⟨s13, c13, u4⟩ := u4
        cases u4
        replace hz := guard_inv hz
        obtain ⟨_, hz⟩ := hz
        replace hz := letS_inv hz
        obtain ⟨z8, g8, hz⟩ := hz
        replace hz := guard_inv hz
        obtain ⟨_, hz⟩ := hz
        replace hz := letS_inv hz
        obtain ⟨z11, g11, hz⟩ := hz
        replace hz := guard_inv hz
        obtain ⟨_, hz⟩ := hz
        replace hz := guard_inv hz
        obtain ⟨_, hz⟩ := hz
        replace hz := letS_inv hz
        obtain ⟨z15, g15, hz⟩ := hz
        have a5 : (5 + x).toInt = ((5 + j : Nat) : Int) := by
          rw [tn_add (by decide : (5 : Int32).toInt = 5) ex (by omega) (by omega)]
          omega
        have a10 : (10 + x).toInt = ((10 + j : Nat) : Int) := by
          rw [tn_add (by decide : (10 : Int32).toInt = 10) ex (by omega) (by omega)]
          omega
        rw [clamp_of_int a5] at g11
        rw [clamp_of_int a10] at g15
        have f8 := r44_at g8
        have f11 := r44_at g11
        have f15 := r44_at g15
        have d4 : s4.d = ((s2.d.sf 2 j ((s2.d.f 2 j) + 1)).sf 0 j (-1)).sf 1 j 0 := by rw [← c13, ← c10, ← c7]; rfl
        have k4 : s4.k = s2.k := by rw [← c13, ← c10, ← c7]; rfl
        have R8 : SR (s2.d.sf 1 j 0) (z8.f 44) := SR.set1 (by rw [kp.1]; exact hR) (by omega) rfl (by decide) (by decide) f8
        have R11 : SR ((s2.d.sf 1 j 0).sf 0 j (-1)) (z11.f 44) := SR.set0 R8 (by omega) (Or.inl ⟨rfl, rfl⟩) f11
        have R15 : SR (((s2.d.sf 1 j 0).sf 0 j (-1)).sf 2 j ((s2.d.f 2 j) + 1)) (z15.f 44) := by
          refine SR.set2 R11 (by omega) ?_ f15
          have q := (R11.1 j (by omega)).2.2.2
          have q : s2.d.f 2 j = z11.f 44 (10 + j) := q
          rw [q]
        have d4' : s4.d = ((s2.d.sf 1 j 0).sf 0 j (-1)).sf 2 j ((s2.d.f 2 j) + 1) := by
          rw [d4, sd_comm (d := s2.d) (by decide : ¬ 2 = 0), sd_comm (by decide : ¬ 2 = 1), sd_comm (d := s2.d) (by decide : ¬ 0 = 1)]
        refine ih m2 s4 z15 (x + 1) (j + 1) a (by omega) (by rw [k4]; exact K2) (by rw [k4]; exact I2) ?_ ?_ (by rw [d4']; exact R15) ?_ ?_ (fun i h1 h2 => ?_) hs hz
        · rw [← g15, ← g11, ← g8]
          exact ((F.sf (k := 44) (by decide)).sf (k := 44) (by decide)).sf (k := 44) (by decide)
        · rw [← g15, ← g11, ← g8]
          exact h47
        · intro w v hw hv
          rw [k4] at hw ⊢
          rw [d4'] at hv
          have q : (((s2.d.sf 1 j 0).sf 0 j (-1)).sf 2 j ((s2.d.f 2 j) + 1)).f 0 w = if w = j then -1 else s2.d.f 0 w := sdf_at (s := s2.d.sf 1 j 0) (k := 0) (i := j) (j := w) (x := -1)
          rw [q] at hv
          by_cases ew : w = j
          · rw [if_pos ew, show (-1 : Int32).toInt = -1 from by decide] at hv
            omega
          · rw [if_neg ew] at hv
            exact F2 w v hw hv
        · rw [f15 27, if_neg (by omega), f11 27, if_neg (by omega), f8 27, if_neg (by omega)]
          exact h27
        · rw [f15 i, if_neg (by omega), f11 i, if_neg (by omega), f8 i, if_neg (by omega), f15 (5 + i), if_neg (by omega), f11 (5 + i), if_neg (by omega), f8 (5 + i), if_neg (by omega)]
          exact hrow i (by omega) h2
/-- one year -/
theorem year_one {x2 x3 : Int32} {s s' : JS} {z z' : RS} {k2 : JS → Int32 → Int32 → Option JS} (hJ : JR s z) (hF : FO s.k s.d) (h1 : kX0_passYears_10L k2 fu s x2 x3 0 = some s') (h2 : r_yearGoes z = some z') : ∃ t, k2 t x2 (x3 + 1) = some s' ∧ FrK WSK s.k t.k ∧ FrR (144 :: WYZ) z z' ∧ JR t z' ∧ FO t.k t.d := by
  obtain ⟨hS, hR, hB, hI, hK, h45⟩ := id hJ
  have bw : 0 ≤ (s.k.v 1).toInt ∧ (s.k.v 1).toInt ≤ 5 := hK.1 1
  obtain ⟨n, hn⟩ : ∃ n : Nat, (s.k.v 1).toInt = (n : Int) := ⟨(s.k.v 1).toInt.toNat, by omega⟩
  have hwv : wv z = (n : Int) := by
    unfold wv
    rw [← hS.1.1]
    exact hn
  obtain ⟨w, fw, Iw, Fw⟩ := ok_r_yearGoes z hI hB
  rw [h2] at fw
  cases fw
  unfold r_yearGoes at h2
  obtain ⟨y, y1, y2, y3, _, y5⟩ := year_first hwv (by omega) hB fu z 0 0 FrR.rfl hI (by decide) (by omega) h2
  have y44 : y.f 44 = z.f 44 := (y2.2 44 (by decide)).1
  obtain ⟨t, t1, t2, t3, t4, t5, t6⟩ := year_row (s0 := s) (z0 := z) (y0 := y) hS hB hn (by omega) (by rw [hS.1.2.2.1, h45]) (fun i hi => y5 i (by omega) hi) fu fu s y 0 0 (by decide) (by omega) FrK.rfl hK (FrR.rfl.trans y2 (by decide)) rfl (by rw [y44]; exact hR) hF (by rw [y44]) (fun i _ _ => by rw [y44]; exact ⟨rfl, rfl⟩) h1 y1
  refine ⟨t, t1, t2, t4, ⟨hS.fr t2 t4 (by decide) (by decide), t5, hB.fr t4 (by decide), Iw, t3, ?_⟩, t6⟩
  rw [t4.1 45 (by decide), t4.1 18 (by decide), (t4.2 26 (by decide)).1]
  exact h45
theorem yearsL {x : Int32} {s0 s' : JS} {z0 z' : RS} : ∀ (m m2 : Nat) (s : JS) (z : RS) (x3 : Int32), JR s z → FO s.k s.d → FrK WSK s0.k s.k → FrR (144 :: WYZ) z0 z → kX0_passYears_2L m s x x3 = some s' → r_yearsGo_2L m2 z x x3 = some z' → FrK WSK s0.k s'.k ∧ FrR (144 :: WYZ) z0 z' ∧ JR s' z' ∧ FO s'.k s'.d := by
  intro m
  induction m with
  | zero => intro m2 s z x3 _ _ _ _ h; exact none_ne h
  | succ m ih =>
    intro m2 s z x3 hJ hF K F h1 h2
    replace h1 : kX0_passYears_2 (kX0_passYears_2L m) s x x3 = some s' := h1
    cases m2 with
    | zero => exact none_ne h2
    | succ m2 =>
    replace h2 : r_yearsGo_2 (r_yearsGo_2L m2) z x x3 = some z' := h2
    unfold kX0_passYears_2 at h1
    unfold r_yearsGo_2 at h2
    by_cases c : x ≤ x3
    · rw [if_pos c] at h1 h2
      cases h1
      cases h2
      exact ⟨K, F, hJ, hF⟩
    · rw [if_neg c] at h1 h2
      replace h2 := bindP_inv h2
      obtain ⟨z2, w2, h2⟩ := h2
      obtain ⟨t, t1, t2, t3, t4, t5⟩ := year_one hJ hF h1 w2
      exact ih m2 t z2 (x3 + 1) t4 t5 (K.trans t2 (fun _ q => q)) (F.trans t3 (fun _ q => q)) t1 h2
theorem years_same {x : Int32} {s s' : JS} {z z' : RS} (hJ : JR s z) (hF : FO s.k s.d) (h1 : kX0_passYears s x = some s') (h2 : r_yearsGo z x = some z') : FrK WSK s.k s'.k ∧ FrR (144 :: WYZ) z z' ∧ JR s' z' ∧ FO s'.k s'.d := by
  unfold kX0_passYears at h1
  unfold r_yearsGo at h2
  exact yearsL fu fu s z 0 hJ hF FrK.rfl FrR.rfl h1 h2
