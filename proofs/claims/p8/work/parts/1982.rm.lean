/-! ===== buoys, years, what is undone, held, gone on from ===== -/
theorem xor_small2 : ∀ j, j < 6 → ∀ n, n < 64 → 0 ≤ ((Int32.ofNat n) ^^^ ((1 : Int32) <<< ((Int32.ofNat j) &&& 31))).toInt ∧ ((Int32.ofNat n) ^^^ ((1 : Int32) <<< ((Int32.ofNat j) &&& 31))).toInt ≤ 63 := by decide +kernel
theorem xor_small {x v : Int32} (h0 : 0 ≤ x.toInt) (h1 : x.toInt ≤ 63) (v0 : 0 ≤ v.toInt) (v5 : v.toInt ≤ 5) : 0 ≤ (x ^^^ ((1 : Int32) <<< (v &&& 31))).toInt ∧ (x ^^^ ((1 : Int32) <<< (v &&& 31))).toInt ≤ 63 := by
  have ev : v = Int32.ofNat v.toInt.toNat := eq_ofnat (by omega)
  rw [ev]
  exact all_small (P := fun x => 0 ≤ (x ^^^ ((1 : Int32) <<< ((Int32.ofNat v.toInt.toNat) &&& 31))).toInt ∧ (x ^^^ ((1 : Int32) <<< ((Int32.ofNat v.toInt.toNat) &&& 31))).toInt ≤ 63) (N := 64) (by omega) (xor_small2 _ (by omega)) h0 (by omega)
theorem buoy_same {y y' : YS} {z z' : RS} {x1 x2 x3 r1 r2 : Int32} (h : REL y z) (hK : InvK y.x.k) (hI : InvR z) (hB : Big z) (hG : InvG y.x.g) (h1 : kX10_buoy y x1 x2 x3 = some (r1, y')) (h2 : r_buoy z x1 x2 x3 = some (r2, z')) : r1 = r2 ∧ REL y' z' := by
  have bw : 0 ≤ (y.x.k.v 1).toInt ∧ (y.x.k.v 1).toInt ≤ 5 := hK.1 1
  unfold kX10_buoy at h1
  unfold r_buoy at h2
  rw [kw_eq, bindI_some] at h1
  rw [rw_eq hI, bindI_some, ← h.1.1.1] at h2
  replace h1 := letS_inv h1
  obtain ⟨s3, c3, h1⟩ := h1
  have e3 : s3 = y := by rw [← c3]; rfl
  subst e3
  by_cases hw : 0 ≤ x1.toInt ∧ x1.toInt < (s3.x.k.v 1).toInt
  · rw [if_pos hw, if_neg z_one] at h1 h2
    obtain ⟨w, ew⟩ : ∃ w : Nat, x1.toInt = (w : Int) := ⟨x1.toInt.toNat, by omega⟩
    by_cases ht : 0 ≤ x2.toInt ∧ x2.toInt ≤ 5
    · rw [kt_yes ht.1 ht.2, bindP_some, if_neg z_one] at h1
      rw [rt_yes ht.1 ht.2, bindP_some, if_neg z_one] at h2
      replace h1 := guard_inv h1
      obtain ⟨_, h1⟩ := h1
      replace h2 := guard_inv h2
      obtain ⟨_, h2⟩ := h2
      rw [clamp_of_int ew] at h1 h2
      obtain ⟨_, hb, hb2, _⟩ := h.2.1.1.1 w (by omega)
      unfold kX10_has at h1
      rw [hb] at h1
      have go : ∀ t : Int32, (bindP (some t) fun r9 => (if r9 = x3 then (some ((0 : Int32), s3)) else (bindP (kX3_remember (PS.mk s3.x.g s3.x.n s3.r)) fun s11 => (letS (YS.mk (XS.mk s11.g s3.x.t s11.n s3.x.k) s11.r) fun s12 => (if vpb x1 5 then (if vpb x1 5 then (letS (s12.nsf 1 w (((s12.x.n.f 1) w) ^^^ (1 <<< (x2 &&& 31)))) fun s16 => (some ((1 : Int32), s16))) else none) else none))))) = some (r1, y') → r_buoy_34 z x1 x2 x3 t = some (r2, z') → r1 = r2 ∧ REL y' z' := by
        intro t h1 h2
        rw [bindP_some] at h1
        unfold r_buoy_34 at h2
        by_cases c : t = x3
        · rw [if_pos c] at h1 h2
          cases h1
          cases h2
          exact ⟨rfl, h⟩
        · rw [if_neg c] at h1 h2
          replace h1 := bindP_inv h1
          obtain ⟨p', u11, h1⟩ := h1
          replace h1 := letS_inv h1
          obtain ⟨s12, c12, h1⟩ := h1
          replace h1 := guard_inv h1
          obtain ⟨_, h1⟩ := h1
          replace h1 := guard_inv h1
          obtain ⟨_, h1⟩ := h1
          replace h1 := letS_inv h1
          obtain ⟨s16, c16, h1⟩ := h1
          replace h2 := bindP_inv h2
          obtain ⟨z2, w2, h2⟩ := h2
          replace h2 := guard_inv h2
          obtain ⟨_, h2⟩ := h2
          replace h2 := guard_inv h2
          obtain ⟨_, h2⟩ := h2
          replace h2 := letS_inv h2
          obtain ⟨z5, g5, h2⟩ := h2
          replace h2 := bindP_inv h2
          obtain ⟨z7, w7, h2⟩ := h2
          rw [clamp_of_int ew] at g5
          obtain ⟨hJ, F2⟩ := h.jr hK hI hB w2
          have f5 := r44_at g5
          obtain ⟨_, jb, jb2, _⟩ := hJ.2.1.1 w (by omega)
          have jb : s3.x.n.f 1 w = z2.f 44 w := jb
          have xs := xor_small jb2.1 jb2.2 ht.1 ht.2
          have R5 : SR (s3.x.n.sf 1 w ((s3.x.n.f 1 w) ^^^ (1 <<< (x2 &&& 31)))) (z5.f 44) := SR.set1 hJ.2.1 (by omega) (by rw [jb]) xs.1 xs.2 f5
          have O5 : FO s3.x.k (s3.x.n.sf 1 w ((s3.x.n.f 1 w) ^^^ (1 <<< (x2 &&& 31)))) := h.2.1.2
          have G5 : FrR [45, 144] z z5 := by rw [← g5]; exact F2.sf (by decide)
          obtain ⟨R, pn⟩ := h.done (t' := s3.x.t) hK hI hG FrK.rfl G5 (by decide) (by decide) R5 O5 u11 w7
          have a1 : r1 = 1 ∧ y' = s16 := by cases h1; exact ⟨rfl, rfl⟩
          have a2 : r2 = 1 ∧ z' = z7 := by cases h2; exact ⟨rfl, rfl⟩
          refine ⟨by rw [a1.1, a2.1], ?_⟩
          have e16 : s16 = YS.mk (XS.mk p'.g s3.x.t (s3.x.n.sf 1 w ((s3.x.n.f 1 w) ^^^ (1 <<< (x2 &&& 31)))) s3.x.k) p'.r := by
            rw [← c16, ← c12, ← pn]
            rfl
          rw [a1.2, a2.2, e16]
          exact R
      by_cases c : (((z.f 43 w) >>> (x2 &&& 31)) &&& 1) = 1
      · rw [if_pos c] at h1 h2
        exact go 1 h1 h2
      · rw [if_neg c] at h1 h2
        exact go 0 h1 h2
    · rw [kt_no ht, bindP_some, if_pos rfl] at h1
      rw [rt_no ht, bindP_some, if_pos rfl] at h2
      cases h1
      cases h2
      exact ⟨rfl, h⟩
  · rw [if_neg hw, if_pos rfl] at h1 h2
    cases h1
    cases h2
    exact ⟨rfl, h⟩
theorem years2_same {y y' : YS} {z z' : RS} {x1 r1 r2 : Int32} (h : REL y z) (hK : InvK y.x.k) (hI : InvR z) (hB : Big z) (hG : InvG y.x.g) (h1 : kX10_years y x1 = some (r1, y')) (h2 : r_years z x1 = some (r2, z')) : r1 = r2 ∧ REL y' z' := by
  unfold kX10_years at h1
  unfold r_years r_isLong at h2
  have z0 : (0 : Int32).toInt = 0 := by decide
  have z40 : (40 : Int32).toInt = 40 := by decide
  by_cases c : x1 < 0
  · have c' := tn_lt (b := 0) rfl (by decide) c
    rw [if_pos c] at h1
    rw [r_in_no (by omega), bindP_some, if_pos (Or.inl rfl), bindP_some, if_pos rfl] at h2
    cases h1
    cases h2
    exact ⟨rfl, h⟩
  · have c' := tn_nlt (b := 0) rfl (by decide) c
    rw [if_neg c] at h1
    by_cases d : x1 ≤ 40
    · have d' := tn_le (b := 40) rfl (by decide) d
      rw [if_pos d] at h1
      rw [r_in_yes (by omega) (by omega), bindP_some, if_pos (Or.inr rfl), bindP_some, if_neg z_one] at h2
      by_cases e : x1 ≤ 0
      · have e' := tn_le (b := 0) rfl (by decide) e
        have ex : x1 = 0 := Int32.toInt_inj.mp (by omega)
        rw [if_pos e] at h1
        rw [if_pos ex] at h2
        have a1 : r1 = y.x.n.v 5 ∧ y' = y := by cases h1; exact ⟨rfl, rfl⟩
        have a2 : r2 = z.f 43 27 ∧ z' = z := by cases h2; exact ⟨rfl, rfl⟩
        rw [a1.1, a1.2, a2.1, a2.2]
        exact ⟨h.2.1.1.2.2.1, h⟩
      · have e' := tn_nle (b := 0) rfl (by decide) e
        have ex : ¬ x1 = 0 := fun q => by
          rw [q] at e'
          omega
        rw [if_neg e] at h1
        rw [if_neg ex] at h2
        replace h1 := bindP_inv h1
        obtain ⟨p', u4, h1⟩ := h1
        replace h1 := letS_inv h1
        obtain ⟨s5, c5, h1⟩ := h1
        replace h1 := bindP_inv h1
        obtain ⟨s7, u7, h1⟩ := h1
        replace h1 := letS_inv h1
        obtain ⟨s8, c8, h1⟩ := h1
        replace h2 := bindP_inv h2
        obtain ⟨z4, w4, h2⟩ := h2
        replace h2 := bindP_inv h2
        obtain ⟨z5, w5, h2⟩ := h2
        replace h2 := bindP_inv h2
        obtain ⟨z6, w6, h2⟩ := h2
        obtain ⟨hJ, F4⟩ := h.jr hK hI hB w4
        have pn : p'.n = y.x.n := by
          obtain ⟨_, ⟨f1, f2⟩, _⟩ := h.2.2.1
          obtain ⟨F, hF⟩ : ∃ F : Nat, (y.x.g.v 3).toInt = (F : Int) := ⟨(y.x.g.v 3).toInt.toNat, by omega⟩
          have b48 : 0 ≤ (z.v 48).toInt ∧ (z.v 48).toInt ≤ 40 := hI.1 48
          obtain ⟨U, hU⟩ : ∃ U : Nat, (z.v 48).toInt = (U : Int) := ⟨(z.v 48).toInt.toNat, by omega⟩
          exact (remember_eq hF (by omega) (by rw [h.2.2.1.1]; exact hU) (by omega) u4).1
        have u7 : kX0_passYears (JS.mk y.x.k y.x.n) x1 = some s7 := by
          rw [← pn]
          rw [← c5] at u7
          exact u7
        obtain ⟨K7, F5, J5, O5⟩ := years_same hJ h.2.1.2 u7 w5
        have G5 : FrR [42, 45, 140, 141, 144, 147] z z5 := (FrR.rfl.trans F4 (by decide)).trans F5 (by decide)
        obtain ⟨R, _⟩ := h.done (t' := y.x.t) hK hI hG K7 G5 (by decide) (by decide) J5.2.1 O5 u4 w6
        have e8 : s8 = YS.mk (XS.mk p'.g y.x.t s7.d s7.k) p'.r := by
          rw [← c8, ← c5]
          rfl
        have a1 : r1 = s8.x.n.v 5 ∧ y' = s8 := by cases h1; exact ⟨rfl, rfl⟩
        have a2 : r2 = z6.f 43 27 ∧ z' = z6 := by cases h2; exact ⟨rfl, rfl⟩
        rw [a1.1, a1.2, a2.1, a2.2, e8]
        exact ⟨R.2.1.1.2.2.1, R⟩
    · have d' := tn_nle (b := 40) rfl (by decide) d
      rw [if_neg d] at h1
      rw [r_in_no (by omega), bindP_some, if_pos (Or.inl rfl), bindP_some, if_pos rfl] at h2
      cases h1
      cases h2
      exact ⟨rfl, h⟩
/-- the reference's standing out of a row of its own -/
theorem undoL {r : Int32} {z' : RS} {U : Nat} (hU : U ≤ 39) : ∀ (n : Nat) (z : RS) (x : Int32) (j : Nat), (z.v 48).toInt = (U : Int) → x.toInt = (j : Int) → j ≤ 29 → r_undo_21L n z x = some (r, z') → r = 1 ∧ FrR [143] z z' ∧ (∀ i, j ≤ i → i < 29 → z'.f 43 i = z.f 49 (29 * U + i)) ∧ (∀ i, i < j → z'.f 43 i = z.f 43 i) := by
  intro n
  induction n with
  | zero => intro z x j _ _ _ h; exact none_ne h
  | succ n ih =>
    intro z x j hv ex hj h
    replace h : r_undo_21 (r_undo_21L n) z x = some (r, z') := h
    unfold r_undo_21 at h
    by_cases c : 29 ≤ x
    · have c' := tn_le (a := 29) (by decide) rfl c
      rw [if_pos c] at h
      cases h
      exact ⟨rfl, FrR.rfl, fun i h1 h2 => by omega, fun i _ => rfl⟩
    · have c' := tn_nle (a := 29) (by decide) rfl c
      rw [if_neg c] at h
      replace h := guard_inv h
      obtain ⟨_, h⟩ := h
      replace h := guard_inv h
      obtain ⟨_, h⟩ := h
      replace h := letS_inv h
      obtain ⟨z4, d4, h⟩ := h
      have m1 : (29 * (z.v 48)).toInt = (z.v 48).toInt * 29 := ti_cmul (c := 29) (by decide) (by omega) (by omega)
      have m2 : ((29 * (z.v 48)) + x).toInt = ((29 * U + j : Nat) : Int) := by
        rw [ti_add (by omega) (by omega)]
        omega
      rw [clamp_of_int ex, clamp_of_int m2] at d4
      have f4 : ∀ i, z4.f 43 i = if i = j then z.f 49 (29 * U + j) else z.f 43 i := fun i => by
        rw [← d4]
        exact rsf_at
      have a : (x + 1).toInt = ((j + 1 : Nat) : Int) := by
        rw [tn_add ex (by decide : (1 : Int32).toInt = 1) (by omega) (by omega)]
        omega
      have v4 : z4.v 48 = z.v 48 := by rw [← d4]; rfl
      have f49 : z4.f 49 = z.f 49 := by rw [← d4]; rfl
      obtain ⟨q, q0, q1, q2⟩ := ih z4 (x + 1) (j + 1) (by rw [v4]; exact hv) a (by omega) h
      refine ⟨q, FrR.trans (t := z4) (by rw [← d4]; exact FrR.rfl.sf (by decide)) q0 (by decide), fun i h1 h2 => ?_, fun i hi => ?_⟩
      · by_cases e : i = j
        · rw [q2 i (by omega), f4, if_pos e, e]
        · rw [q1 i (by omega) h2, f49]
      · rw [q2 i (by omega), f4, if_neg (by omega)]
theorem undo_same {y y' : YS} {z z' : RS} {r1 r2 : Int32} (h : REL y z) (hK : InvK y.x.k) (hI : InvR z) (h1 : kX10_undo y = some (r1, y')) (h2 : r_undo z = some (r2, z')) : r1 = r2 ∧ REL y' z' := by
  obtain ⟨a1, ⟨a2, a3⟩, ⟨i1, ⟨i2, i3⟩, i4⟩, a5, a6⟩ := id h
  have b48 : 0 ≤ (z.v 48).toInt ∧ (z.v 48).toInt ≤ 40 := hI.1 48
  unfold kX10_undo kX3_takeBack at h1
  unfold r_undo at h2
  by_cases c : z.v 48 = 0
  · have c0 : (PS.mk y.x.g y.x.n y.r).g.v 4 = 0 := i1.trans c
    rw [if_pos c0, bindI_some] at h1
    rw [if_pos c] at h2
    replace h1 := letS_inv h1
    obtain ⟨s3, c3, h1⟩ := h1
    rw [if_pos (Or.inl rfl)] at h1
    cases h1
    cases h2
    rw [← c3]
    exact ⟨rfl, h⟩
  · have c0 : ¬ (PS.mk y.x.g y.x.n y.r).g.v 4 = 0 := fun q => c (i1.symm.trans q)
    have nz := tn_ne (b := 0) rfl (by decide) c
    obtain ⟨U, hU⟩ : ∃ U : Nat, (z.v 48).toInt = ((U + 1 : Nat) : Int) := ⟨(z.v 48).toInt.toNat - 1, by omega⟩
    obtain ⟨F, hF⟩ : ∃ F : Nat, (y.x.g.v 3).toInt = (F : Int) := ⟨(y.x.g.v 3).toInt.toNat, by omega⟩
    have eF := clamp_of_int hF
    rw [if_neg c0] at h1
    rw [if_neg c] at h2
    replace h2 := letS_inv h2
    obtain ⟨z2, d2, h2⟩ := h2
    have v2 : (z2.v 48).toInt = (U : Int) := by
      rw [← d2]
      show ((z.v 48) - 1).toInt = _
      rw [tn_sub hU (by decide : (1 : Int32).toInt = 1) (by omega) (by omega)]
      omega
    obtain ⟨er2, Fz, q1, _⟩ := undoL (by omega) fu z2 0 0 v2 (by decide) (by omega) h2
    replace h1 := bindI_inv h1
    obtain ⟨q, s1, u1, h1⟩ := h1
    replace u1 := letS_inv u1
    obtain ⟨p2, c2, u1⟩ := u1
    replace u1 := guard_inv u1
    obtain ⟨_, u1⟩ := u1
    replace u1 := bindP_inv u1
    obtain ⟨s5, u5, u1⟩ := u1
    replace u1 := letS_inv u1
    obtain ⟨p6, c6, u1⟩ := u1
    replace h1 := letS_inv h1
    obtain ⟨s3, c3, h1⟩ := h1
    have g2 : p2.g = y.x.g.sv 4 ((y.x.g.v 4) - 1) ∧ p2.n = y.x.n ∧ p2.r = y.r := by rw [← c2]; exact ⟨rfl, rfl, rfl⟩
    have w3 : p2.g.v 3 = y.x.g.v 3 := by rw [g2.1]; rfl
    have w4 : p2.g.v 4 = (y.x.g.v 4) - 1 := by rw [g2.1]; rfl
    have w4i : (p2.g.v 4).toInt = (U : Int) := by
      rw [w4, i1, tn_sub hU (by decide : (1 : Int32).toInt = 1) (by omega) (by omega)]
      omega
    have b1 : ((p2.g.v 3) + (p2.g.v 4)).toInt = ((F + U : Nat) : Int) := by
      rw [ti_add (by rw [w3]; omega) (by rw [w3]; omega), w3, w4i]
      omega
    have b2 : (((p2.g.v 3) + (p2.g.v 4)) - ((p2.g.v 3) + (p2.g.v 4)) / 40 * 40).toInt = (((F + U) % 40 : Nat) : Int) := by
      rw [ti_remc (c := 40) (by decide) (by omega) (by omega), b1]
      omega
    rw [clamp_of_int b2] at u5 c6
    obtain ⟨e1, e2⟩ := copyFrom_eq u5
    have e1 : s5.e = p2.r ((F + U) % 40) := e1
    have e2 : SDq s5.d (p2.r ((F + U) % 40)) := e2
    have u1' : q = 1 ∧ s1 = p6 := by cases u1; exact ⟨rfl, rfl⟩
    rw [u1'.1, if_pos (Or.inr rfl)] at h1
    have o1 : r1 = 1 ∧ y' = s3 := by cases h1; exact ⟨rfl, rfl⟩
    have r6 : ∀ i, p6.r i = y.r i := fun i => by
      have q : p6.r i = va_up p2.r ((F + U) % 40) s5.e i := by rw [← c6]; rfl
      rw [q, e1]
      by_cases e : i = (F + U) % 40
      · rw [e, va_up_self, g2.2.2]
      · rw [va_up_ne _ _ e, g2.2.2]
    have hr6 : p6.r = y.r := funext r6
    have g6 : p6.g = p2.g := by rw [← c6]; rfl
    have n6 : p6.n = s5.d := by rw [← c6]; rfl
    have e3 : s3 = YS.mk (XS.mk p2.g y.x.t s5.d y.x.k) y.r := by
      rw [← c3, u1'.2, g6, n6, hr6]
    have Fall : FrR [48, 143] z z' := FrR.trans (t := z2) (by rw [← d2]; exact FrR.rfl.sv (by decide)) Fz (by decide)
    have o := i4 U (by omega)
    rw [eF] at o
    rw [g2.2.2] at e2
    have z249 : z2.f 49 = z.f 49 := by rw [← d2]; rfl
    refine ⟨by rw [o1.1, er2], ?_⟩
    rw [o1.2, e3]
    refine ⟨a1.fr (FrK.rfl (W := [])) Fall (by decide) (by decide), ⟨?_, ?_⟩, ⟨?_, ?_, fun i hi => ?_⟩, fun s hs => ?_, a6.fr (FrK.rfl (W := [])) Fall (by decide) (by decide)⟩
    · exact (o.1.q e2).cgf (fun i hi => by rw [q1 i (by omega) hi, z249])
    · exact o.2.q hK e2
    · show p2.g.v 4 = z'.v 48
      rw [Fz.1 48 (by decide)]
      exact Int32.toInt_inj.mp (w4i.trans v2.symm)
    · show 0 ≤ (p2.g.v 3).toInt ∧ (p2.g.v 3).toInt ≤ 39
      rw [w3]
      exact ⟨i2, i3⟩
    · show SR (y.r (((p2.g.v 3).toNatClampNeg + i) % 40)) (fun j => z'.f 49 (29 * i + j)) ∧ FO y.x.k (y.r (((p2.g.v 3).toNatClampNeg + i) % 40))
      rw [Fz.1 48 (by decide), v2] at hi
      rw [w3, (Fall.2 49 (by decide)).1]
      exact i4 i (by omega)
    · show p2.g.f 4 s = z'.f 56 s ∧ (¬ z'.f 56 s = 0 → SR (y.r (40 + s)) (fun j => z'.f 57 (29 * s + j)) ∧ FO y.x.k (y.r (40 + s)))
      rw [(Fall.2 56 (by decide)).1, (Fall.2 57 (by decide)).1, g2.1]
      exact a5 s hs
