/-! ===== the tapes, byte by byte ===== -/
theorem shr8 (x : Int32) (k : Nat) (hk : k ≤ 24) : BitVec.setWidth 8 (x.toBitVec >>> k) = BitVec.setWidth 8 (x.toBitVec.sshiftRight k) := by
  refine BitVec.eq_of_getLsbD_eq (fun i hi => ?_)
  rw [BitVec.getLsbD_setWidth, BitVec.getLsbD_setWidth, BitVec.getLsbD_ushiftRight, BitVec.getLsbD_sshiftRight]
  have h1 : ¬ 32 ≤ i := by omega
  have h2 : k + i < 32 := by omega
  simp [h1, h2]
theorem byte8 {a b : Int32} {v : BitVec 32} {k : Nat} (h1 : a.toBitVec = v >>> k) (h2 : b.toBitVec = v.sshiftRight k) (hv : BitVec.setWidth 8 (v >>> k) = BitVec.setWidth 8 (v.sshiftRight k)) : Int32.toInt8 a = Int32.toInt8 b := by
  refine Int8.toBitVec_inj.mp ?_
  rw [Int32.toBitVec_toInt8, Int32.toBitVec_toInt8, h1, h2, BitVec.signExtend_eq_setWidth_of_le _ (by omega), BitVec.signExtend_eq_setWidth_of_le _ (by omega)]
  exact hv
theorem byte_eq (x : Int32) {j : Int32} (hj : j = 24 ∨ j = 16 ∨ j = 8 ∨ j = 0) : Int32.toInt8 (ushr x j) = Int32.toInt8 (x >>> (j &&& 31)) := by
  rcases hj with e | e | e | e
  · subst e
    exact byte8 (v := x.toBitVec) (k := 24) rfl rfl (shr8 x 24 (by omega))
  · subst e
    exact byte8 (v := x.toBitVec) (k := 16) rfl rfl (shr8 x 16 (by omega))
  · subst e
    exact byte8 (v := x.toBitVec) (k := 8) rfl rfl (shr8 x 8 (by omega))
  · subst e
    exact byte8 (v := x.toBitVec) (k := 0) rfl rfl (shr8 x 0 (by omega))
def TB (k : KS) (z : RS) : Prop := k.v 0 = z.v 2 ∧ 0 ≤ (k.v 0).toInt ∧ (∀ i : Nat, (i : Int) < (k.v 0).toInt → k.f 1 i = z.f 1 i)
theorem add4L (x : Int32) : ∀ (n m : Nat) (s s' : KS) (z z' : RS) (q : Int32) (j : Nat), q.toInt = 8 * (j : Int) - 8 → j ≤ 4 → TB s z → (s.v 0).toInt + (j : Int) ≤ 2000 → kX7_addFour_3L n s x q = some s' → r_put_3L m z x q = some z' → TB s' z' ∧ FrK [0, 101] s s' ∧ FrR [2, 101] z z' ∧ (s'.v 0).toInt = (s.v 0).toInt + (j : Int) := by
  intro n
  induction n with
  | zero => intro m s s' z z' q j _ _ _ _ h; exact none_ne h
  | succ n ih =>
    intro m s s' z z' q j hq hj hT hl hs hz
    have hs : kX7_addFour_3 (kX7_addFour_3L n) s x q = some s' := hs
    cases m with
    | zero => exact none_ne hz
    | succ m =>
    have hz : r_put_3 (r_put_3L m) z x q = some z' := hz
    obtain ⟨e0, h0, hb⟩ := id hT
    unfold kX7_addFour_3 at hs
    unfold r_put_3 at hz
    by_cases c : q < 0
    · have c' := tn_lt (b := 0) rfl (by decide) c
      rw [if_pos c] at hs hz
      cases hs
      cases hz
      exact ⟨hT, FrK.rfl, FrR.rfl, by omega⟩
    · have c' := tn_nlt (b := 0) rfl (by decide) c
      have n2 : ¬ 2000 ≤ s.v 0 := fun w => by
        have := tn_le (a := 2000) (by decide) rfl w
        omega
      rw [if_neg c, if_neg n2] at hs
      rw [if_neg c] at hz
      obtain ⟨_, hs⟩ := guard_inv hs
      obtain ⟨_, hz⟩ := guard_inv hz
      obtain ⟨s4, d4, hs⟩ := letS_inv hs
      obtain ⟨s6, d6, hs⟩ := letS_inv hs
      obtain ⟨z3, g3, hz⟩ := letS_inv hz
      obtain ⟨z5, g5, hz⟩ := letS_inv hz
      unfold kX7_addFour_42 at hs
      have a : ((s.v 0) + 1).toInt = (s.v 0).toInt + 1 := tn_add rfl (by decide) (by omega) (by omega)
      have v6 : s6.v 0 = (s.v 0) + 1 := by rw [← d6, ← d4]; rfl
      have v5 : z5.v 2 = (z.v 2) + 1 := by rw [← g5, ← g3]; rfl
      have jq : q = 24 ∨ q = 16 ∨ q = 8 ∨ q = 0 := by
        rcases (show q.toInt = 24 ∨ q.toInt = 16 ∨ q.toInt = 8 ∨ q.toInt = 0 by omega) with w | w | w | w
        · exact Or.inl (Int32.toInt_inj.mp (w.trans (by decide)))
        · exact Or.inr (Or.inl (Int32.toInt_inj.mp (w.trans (by decide))))
        · exact Or.inr (Or.inr (Or.inl (Int32.toInt_inj.mp (w.trans (by decide)))))
        · exact Or.inr (Or.inr (Or.inr (Int32.toInt_inj.mp (w.trans (by decide)))))
      have ec := clampI h0
      have K6 : FrK [0, 101] s s6 := by rw [← d6, ← d4]; exact (FrK.rfl.sf (k := 1) (by decide)).sv (k := 0) (by decide)
      have G5 : FrR [2, 101] z z5 := by rw [← g5, ← g3]; exact (FrR.rfl.sf (k := 1) (by decide)).sv (k := 2) (by decide)
      have T6 : TB s6 z5 := by
        refine ⟨by rw [v6, v5, e0], by rw [v6]; omega, fun i hi => ?_⟩
        rw [v6, a] at hi
        have p1 : s6.f 1 i = if i = (s.v 0).toNatClampNeg then vp_nar .byte (Int8.toInt32 (Int32.toInt8 (ushr x q))) else s.f 1 i := by
          rw [← d6, ← d4]
          exact ksf_get
        have p2 : z5.f 1 i = if i = (s.v 0).toNatClampNeg then vp_nar .byte (Int8.toInt32 (Int32.toInt8 (x >>> (q &&& 31)))) else z.f 1 i := by
          rw [← g5, ← g3, e0]
          exact rsf_all
        rw [p1, p2]
        by_cases w : i = (s.v 0).toNatClampNeg
        · rw [if_pos w, if_pos w, byte_eq x jq]
        · rw [if_neg w, if_neg w]
          exact hb i (by omega)
      have b : (q + (-8)).toInt = q.toInt + (-8) := tn_add rfl (by decide) (by omega) (by omega)
      generalize q + (-8) = q' at b hs hz
      obtain ⟨j', rfl⟩ : ∃ j', j = j' + 1 := ⟨j - 1, by omega⟩
      obtain ⟨r1, r2, r3, r4⟩ := ih m s6 s' z5 z' q' j' (by omega) (by omega) T6 (by rw [v6]; omega) hs hz
      exact ⟨r1, K6.trans r2 (by decide), G5.trans r3 (by decide), by rw [r4, v6]; omega⟩
theorem add4 {x : Int32} {s s' : KS} {z z' : RS} (hT : TB s z) (hl : (s.v 0).toInt + 4 ≤ 2000) (hs : kX7_addFour s x = some s') (hz : r_put z x = some z') : TB s' z' ∧ FrK [0, 101] s s' ∧ FrR [2, 101] z z' ∧ (s'.v 0).toInt = (s.v 0).toInt + 4 := by
  unfold kX7_addFour at hs
  unfold r_put at hz
  exact add4L x fu fu s s' z z' 24 4 (by decide) (by omega) hT hl hs hz
/-! ===== what holds between two calls ===== -/
/-- the odds of the waves that are told -/
def OD7 (k : KS) (z : RS) : Prop := ∀ j : Nat, (j : Int) < 6 * (k.v 1).toInt → k.f 3 j = z.f 21 (30 * (z.v 18).toNatClampNeg + j)
def TPk (k : KS) (z : RS) : Prop := TB k z ∧ KWR k z ∧ k.v 17 = z.v 17 ∧ k.v 1 = z.f 20 (z.v 18).toNatClampNeg ∧ k.v 21 = z.v 51 ∧ OD7 k z
theorem tpr_told {k k' : KS} {z z' : RS} {W W' : List Nat} (hF : FrK W k k') (hG : FrR W' z z') (hW : 0 ∉ W ∧ 17 ∉ W ∧ 101 ∉ W ∧ 131 ∉ W ∧ 1 ∉ W ∧ 103 ∉ W) (hW' : 2 ∉ W' ∧ 17 ∉ W' ∧ 101 ∉ W' ∧ 109 ∉ W' ∧ 18 ∉ W' ∧ 120 ∉ W' ∧ 121 ∉ W') (h : TPk k z) (ht : k'.v 21 = z'.v 51) : TPk k' z' := by
  obtain ⟨h1, h2, h3, h4, _, h6⟩ := h
  refine ⟨?_, ?_, ?_, ?_, ht, ?_⟩
  · unfold TB
    rw [hF.1 0 hW.1, (hF.2 1 hW.2.2.1).1, hG.1 2 hW'.1, (hG.2 1 hW'.2.2.1).1]
    exact h1
  · unfold KWR
    rw [(hF.2 31 hW.2.2.2.1).2, (hG.2 9 hW'.2.2.2.1).2]
    exact h2
  · rw [hF.1 17 hW.2.1, hG.1 17 hW'.2.1]
    exact h3
  · rw [hF.1 1 hW.2.2.2.2.1, hG.1 18 hW'.2.2.2.2.1, (hG.2 20 hW'.2.2.2.2.2.1).1]
    exact h4
  · unfold OD7
    rw [hF.1 1 hW.2.2.2.2.1, (hF.2 3 hW.2.2.2.2.2).1, hG.1 18 hW'.2.2.2.2.1, (hG.2 21 hW'.2.2.2.2.2.2).1]
    exact h6
theorem tpr_keep {k k' : KS} {z z' : RS} {W W' : List Nat} (hF : FrK W k k') (hG : FrR W' z z') (hW : (0 ∉ W ∧ 17 ∉ W ∧ 101 ∉ W ∧ 131 ∉ W ∧ 1 ∉ W ∧ 103 ∉ W) ∧ 21 ∉ W) (hW' : (2 ∉ W' ∧ 17 ∉ W' ∧ 101 ∉ W' ∧ 109 ∉ W' ∧ 18 ∉ W' ∧ 120 ∉ W' ∧ 121 ∉ W') ∧ 51 ∉ W') (h : TPk k z) : TPk k' z' :=
  tpr_told hF hG hW.1 hW'.1 h (by rw [hF.1 21 hW.2, hG.1 51 hW'.2]; exact h.2.2.2.2.1)
theorem tpr_tape {k k' : KS} {z z' : RS} (hF : FrK [0, 101] k k') (hG : FrR [2, 101] z z') (hT : TB k' z') (h : TPk k z) : TPk k' z' := by
  obtain ⟨h1, h2, h3, h4, h5, h6⟩ := h
  refine ⟨hT, ?_, ?_, ?_, ?_, ?_⟩
  · unfold KWR
    rw [(hF.2 31 (by decide)).2, (hG.2 9 (by decide)).2]
    exact h2
  · rw [hF.1 17 (by decide), hG.1 17 (by decide)]
    exact h3
  · rw [hF.1 1 (by decide), hG.1 18 (by decide), (hG.2 20 (by decide)).1]
    exact h4
  · rw [hF.1 21 (by decide), hG.1 51 (by decide)]
    exact h5
  · unfold OD7
    rw [hF.1 1 (by decide), (hF.2 3 (by decide)).1, hG.1 18 (by decide), (hG.2 21 (by decide)).1]
    exact h6
/-! is it a wave -/
theorem kw_yes {s : KS} {x : Int32} (h0 : 0 ≤ x.toInt) (h1 : x.toInt < (s.v 1).toInt) : kX5_hasWave s x = some (1, s) := by
  unfold kX5_hasWave
  have n1 : ¬ x < 0 := fun q => by
    have := tn_lt (b := 0) rfl (by decide) q
    omega
  have n2 : ¬ s.v 1 ≤ x := fun q => by
    have := ti_le q
    omega
  rw [if_neg n1, if_neg n2]
theorem kw_no {s : KS} {x : Int32} (h : ¬ (0 ≤ x.toInt ∧ x.toInt < (s.v 1).toInt)) : kX5_hasWave s x = some (0, s) := by
  unfold kX5_hasWave
  by_cases c : x < 0
  · rw [if_pos c]
  · have c' := tn_nlt (b := 0) rfl (by decide) c
    have n2 : s.v 1 ≤ x := Int32.le_iff_toInt_le.mpr (by omega)
    rw [if_neg c, if_pos n2]
theorem rw_yes {z : RS} {x : Int32} (hR : InvR z) (h5 : (z.f 20 (z.v 18).toNatClampNeg).toInt ≤ 5) (h0 : 0 ≤ x.toInt) (h1 : x.toInt < (z.f 20 (z.v 18).toNatClampNeg).toInt) : r_isWave z x = some (1, z) := by
  have b : 0 ≤ (z.v 18).toInt ∧ (z.v 18).toInt ≤ 1 := hR.1 18
  have a : ((z.f 20 (z.v 18).toNatClampNeg) - 1).toInt = (z.f 20 (z.v 18).toNatClampNeg).toInt - 1 := tn_sub rfl (by decide) (by omega) (by omega)
  unfold r_isWave r_in
  have n1 : ¬ x < 0 := fun q => by
    have := tn_lt (b := 0) rfl (by decide) q
    omega
  have n2 : ¬ ((z.f 20 (z.v 18).toNatClampNeg) - 1) < x := fun q => by
    have := ti_lt q
    omega
  rw [if_pos (vpb_ok (by omega) (by omega)), if_neg n1, if_neg n2, bindP_some]
  exact if_pos (Or.inr rfl)
theorem rw_no {z : RS} {x : Int32} (hR : InvR z) (h00 : 0 ≤ (z.f 20 (z.v 18).toNatClampNeg).toInt) (h5 : (z.f 20 (z.v 18).toNatClampNeg).toInt ≤ 5) (h : ¬ (0 ≤ x.toInt ∧ x.toInt < (z.f 20 (z.v 18).toNatClampNeg).toInt)) : r_isWave z x = some (0, z) := by
  have b : 0 ≤ (z.v 18).toInt ∧ (z.v 18).toInt ≤ 1 := hR.1 18
  have a : ((z.f 20 (z.v 18).toNatClampNeg) - 1).toInt = (z.f 20 (z.v 18).toNatClampNeg).toInt - 1 := tn_sub rfl (by decide) (by omega) (by omega)
  unfold r_isWave r_in
  rw [if_pos (vpb_ok (by omega) (by omega))]
  by_cases c : x < 0
  · rw [if_pos c, bindP_some]
    exact if_pos (Or.inl rfl)
  · have c' := tn_nlt (b := 0) rfl (by decide) c
    have n2 : ((z.f 20 (z.v 18).toNatClampNeg) - 1) < x := Int32.lt_iff_toInt_lt.mpr (by omega)
    rw [if_neg c, if_pos n2, bindP_some]
    exact if_pos (Or.inl rfl)
theorem tell_same {y y' : XS} {z z' : RS} {x1 x2 x3 r1 r2 : Int32} (hK : InvK y.k) (hR : InvR z) (h : TPk y.k z) (h1 : kX10_tell y x1 x2 x3 = some (r1, y')) (h2 : r_tell z x1 x2 x3 = some (r2, z')) : r1 = r2 ∧ y'.k.v 21 = z'.v 51 := by
  have bt : 0 ≤ (y.k.v 21).toInt ∧ (y.k.v 21).toInt ≤ 20 := hK.1 21
  have bw : 0 ≤ (y.k.v 1).toInt ∧ (y.k.v 1).toInt ≤ 5 := hK.1 1
  have ew : y.k.v 1 = z.f 20 (z.v 18).toNatClampNeg := h.2.2.2.1
  have et : y.k.v 21 = z.v 51 := h.2.2.2.2.1
  unfold kX10_tell at h1
  unfold r_tell at h2
  by_cases hw : 0 ≤ x1.toInt ∧ x1.toInt < (y.k.v 1).toInt
  · rw [kw_yes hw.1 hw.2, bindI_some] at h1
    obtain ⟨s3, d3, h1⟩ := letS_inv h1
    have k3 : s3.k = y.k := by rw [← d3]; rfl
    rw [if_neg z_one] at h1
    have hz := rw_yes (z := z) (x := x1) hR (by rw [← ew]; exact bw.2) hw.1 (by rw [← ew]; exact hw.2)
    by_cases hx : 1 ≤ x2.toInt ∧ x2.toInt ≤ 63
    · have q1 : ¬ x2 < 1 := fun q => by
        have := tn_lt (b := 1) rfl (by decide) q
        omega
      have q2 : x2 ≤ 63 := Int32.le_iff_toInt_le.mpr (by rw [show (63 : Int32).toInt = 63 from by decide]; exact hx.2)
      have q3 : ¬ 63 < x2 := fun q => by
        have := tn_lt (a := 63) (by decide) rfl q
        omega
      rw [if_neg q1, if_pos q2] at h1
      have h1 : ∃ t, kX10_tell_43 s3 t x1 = some (r1, y') := by
        by_cases c : x3 = 0
        · rw [if_pos c] at h1; exact ⟨_, h1⟩
        · rw [if_neg c] at h1; exact ⟨_, h1⟩
      obtain ⟨t, h1⟩ := h1
      unfold kX10_tell_43 kX8_add at h1
      rw [k3] at h1
      by_cases ct : y.k.v 21 = 20
      · have n : ¬ y.k.v 21 < 20 := by rw [ct]; decide
        rw [if_neg n, bindI_some] at h1
        obtain ⟨s4, d4, h1⟩ := letS_inv h1
        cases h1
        rw [if_pos (et.symm.trans ct)] at h2
        cases h2
        refine ⟨rfl, ?_⟩
        rw [← d4]
        exact et
      · have ct' := tn_ne (b := 20) rfl (by decide) ct
        have n : y.k.v 21 < 20 := Int32.lt_iff_toInt_lt.mpr (by rw [show (20 : Int32).toInt = 20 from by decide]; omega)
        have n5 : ¬ z.v 51 = 20 := by rw [← et]; exact ct
        rw [if_pos n] at h1
        obtain ⟨q, s1, hq, h1⟩ := bindI_inv h1
        obtain ⟨_, hq⟩ := guard_inv hq
        obtain ⟨u3, e3, hq⟩ := letS_inv hq
        obtain ⟨_, hq⟩ := guard_inv hq
        obtain ⟨u6, e6, hq⟩ := letS_inv hq
        obtain ⟨u8, e8, hq⟩ := letS_inv hq
        have v1 : u8.v 21 = (y.k.v 21) + 1 := by rw [← e8, ← e6, ← e3]; rfl
        have eq : q = (u8.v 21) - 1 ∧ s1 = u8 := by cases hq; exact ⟨rfl, rfl⟩
        obtain ⟨s4, d4, h1⟩ := letS_inv h1
        have ey : r1 = q ∧ y' = s4 := by cases h1; exact ⟨rfl, rfl⟩
        rw [if_neg n5, hz, bindI_some, if_neg z_one] at h2
        unfold r_in at h2
        rw [if_neg q1, if_neg q3, bindP_some, if_neg z_one] at h2
        obtain ⟨_, h2⟩ := guard_inv h2
        obtain ⟨w8, f8, h2⟩ := letS_inv h2
        obtain ⟨_, h2⟩ := guard_inv h2
        obtain ⟨w11, f11, h2⟩ := letS_inv h2
        obtain ⟨_, h2⟩ := guard_inv h2
        obtain ⟨w14, f14, h2⟩ := letS_inv h2
        obtain ⟨w16, f16, h2⟩ := letS_inv h2
        have v2 : w16.v 51 = (z.v 51) + 1 := by rw [← f16, ← f14, ← f11, ← f8]; rfl
        have ez : r2 = (w16.v 51) - 1 ∧ z' = w16 := by cases h2; exact ⟨rfl, rfl⟩
        rw [ey.1, ey.2, ez.1, ez.2, eq.1]
        refine ⟨by rw [v1, v2, et], ?_⟩
        rw [← d4]
        show s1.v 21 = _
        rw [eq.2, v1, v2, et]
    · have h1 : y'.k = y.k ∧ r1 = -1 := by
        by_cases q1 : x2 < 1
        · rw [if_pos q1] at h1
          cases h1
          exact ⟨k3, rfl⟩
        · have q1' := tn_nlt (b := 1) rfl (by decide) q1
          have q2 : ¬ x2 ≤ 63 := fun q => by
            have := tn_le (b := 63) rfl (by decide) q
            omega
          rw [if_neg q1, if_neg q2] at h1
          cases h1
          exact ⟨k3, rfl⟩
      have h2 : z' = z ∧ r2 = -1 := by
        by_cases ct : z.v 51 = 20
        · rw [if_pos ct] at h2
          cases h2
          exact ⟨rfl, rfl⟩
        · rw [if_neg ct, hz, bindI_some, if_neg z_one] at h2
          unfold r_in at h2
          by_cases q1 : x2 < 1
          · rw [if_pos q1, bindP_some, if_pos rfl] at h2
            cases h2
            exact ⟨rfl, rfl⟩
          · have q1' := tn_nlt (b := 1) rfl (by decide) q1
            have q3 : 63 < x2 := Int32.lt_iff_toInt_lt.mpr (by rw [show (63 : Int32).toInt = 63 from by decide]; omega)
            rw [if_neg q1, if_pos q3, bindP_some, if_pos rfl] at h2
            cases h2
            exact ⟨rfl, rfl⟩
      rw [h1.1, h1.2, h2.1, h2.2]
      exact ⟨rfl, et⟩
  · rw [kw_no hw, bindI_some] at h1
    obtain ⟨s3, d3, h1⟩ := letS_inv h1
    rw [if_pos rfl] at h1
    cases h1
    have hz := rw_no (z := z) (x := x1) hR (by rw [← ew]; exact bw.1) (by rw [← ew]; exact bw.2) (by rw [← ew]; exact hw)
    have h2 : z' = z ∧ r2 = -1 := by
      by_cases ct : z.v 51 = 20
      · rw [if_pos ct] at h2
        cases h2
        exact ⟨rfl, rfl⟩
      · rw [if_neg ct, hz, bindI_some, if_pos rfl] at h2
        cases h2
        exact ⟨rfl, rfl⟩
    rw [h2.1, h2.2, ← d3]
    exact ⟨rfl, et⟩
theorem forget_same {y y' : XS} {z z' : RS} {r1 r2 : Int32} (hK : InvK y.k) (hR : InvR z) (h : TPk y.k z) (h1 : kX10_forget y = some (r1, y')) (h2 : r_forget z = some (r2, z')) : r1 = r2 ∧ y'.k.v 21 = z'.v 51 := by
  unfold kX10_forget at h1
  unfold r_forget at h2
  obtain ⟨s1, d1, h1⟩ := letS_inv h1
  obtain ⟨z1, g1, h2⟩ := letS_inv h2
  cases h1
  cases h2
  refine ⟨h.2.2.2.2.1, ?_⟩
  rw [← d1, ← g1]
  rfl
theorem feed_same {y y' : XS} {z z' : RS} {x1 x2 x3 x4 x5 r1 r2 : Int32} (hK : InvK y.k) (hR : InvR z) (h : TPk y.k z) (h1 : kX10_feed y x1 x2 x3 x4 x5 = some (r1, y')) (h2 : r_feed z x1 x2 x3 x4 x5 = some (r2, z')) : r1 = r2 ∧ TPk y'.k z' := by
  have b0 : 0 ≤ (y.k.v 0).toInt ∧ (y.k.v 0).toInt ≤ 2000 := hK.1 0
  have e0 : y.k.v 0 = z.v 2 := h.1.1
  have a1 : (2000 - (y.k.v 0)).toInt = 2000 - (y.k.v 0).toInt := tn_sub (by decide) rfl (by omega) (by omega)
  have a2 : ((z.v 2) + 20).toInt = (z.v 2).toInt + 20 := tn_add rfl (by decide) (by rw [← e0]; omega) (by rw [← e0]; omega)
  unfold kX10_feed kX7_hasRoomFor at h1
  unfold r_feed at h2
  by_cases c : (2000 - (y.k.v 0)) < 20
  · have c' := tn_lt (b := 20) a1 (by decide) c
    have n : ¬ ((z.v 2) + 20) ≤ 2000 := fun q => by
      have := tn_le (b := 2000) a2 (by decide) q
      rw [← e0] at this
      omega
    rw [if_pos c, bindI_some] at h1
    obtain ⟨s3, d3, h1⟩ := letS_inv h1
    rw [if_pos rfl] at h1
    rw [if_neg n] at h2
    cases h1
    cases h2
    refine ⟨rfl, ?_⟩
    rw [← d3]
    exact h
  · have c' := tn_nlt (b := 20) a1 (by decide) c
    have n : ((z.v 2) + 20) ≤ 2000 := Int32.le_iff_toInt_le.mpr (by
      rw [a2, show (2000 : Int32).toInt = 2000 from by decide, ← e0]
      omega)
    rw [if_neg c, bindI_some] at h1
    obtain ⟨s3, d3, h1⟩ := letS_inv h1
    rw [if_neg z_one] at h1
    rw [if_pos n] at h2
    have k3 : s3.k = y.k := by rw [← d3]; rfl
    obtain ⟨s6, f6, h1⟩ := bindP_inv h1
    obtain ⟨s7, d7, h1⟩ := letS_inv h1
    obtain ⟨s9, f9, h1⟩ := bindP_inv h1
    obtain ⟨s10, d10, h1⟩ := letS_inv h1
    obtain ⟨s12, f12, h1⟩ := bindP_inv h1
    obtain ⟨s13, d13, h1⟩ := letS_inv h1
    obtain ⟨s15, f15, h1⟩ := bindP_inv h1
    obtain ⟨s16, d16, h1⟩ := letS_inv h1
    obtain ⟨s18, f18, h1⟩ := bindP_inv h1
    obtain ⟨s19, d19, h1⟩ := letS_inv h1
    obtain ⟨w2, g2, h2⟩ := bindP_inv h2
    obtain ⟨w3, g3, h2⟩ := bindP_inv h2
    obtain ⟨w4, g4, h2⟩ := bindP_inv h2
    obtain ⟨w5, g5, h2⟩ := bindP_inv h2
    obtain ⟨w6, g6, h2⟩ := bindP_inv h2
    have k7 : s7.k = s6 := by rw [← d7]; rfl
    have k10 : s10.k = s9 := by rw [← d10]; rfl
    have k13 : s13.k = s12 := by rw [← d13]; rfl
    have k16 : s16.k = s15 := by rw [← d16]; rfl
    have k19 : s19.k = s18 := by rw [← d19]; rfl
    have e1 : r1 = s19.k.v 0 ∧ y' = s19 := by cases h1; exact ⟨rfl, rfl⟩
    have e2 : r2 = w6.v 2 ∧ z' = w6 := by cases h2; exact ⟨rfl, rfl⟩
    rw [k3] at f6
    rw [k7] at f9
    rw [k10] at f12
    rw [k13] at f15
    rw [k16] at f18
    obtain ⟨t1, u1, v1, l1⟩ := add4 h.1 (by omega) f6 g2
    obtain ⟨t2, u2, v2, l2⟩ := add4 t1 (by omega) f9 g3
    obtain ⟨t3, u3, v3, l3⟩ := add4 t2 (by omega) f12 g4
    obtain ⟨t4, u4, v4, l4⟩ := add4 t3 (by omega) f15 g5
    obtain ⟨t5, u5, v5, l5⟩ := add4 t4 (by omega) f18 g6
    have U := (((u1.trans u2 (by decide)).trans u3 (by decide)).trans u4 (by decide)).trans u5 (by decide)
    have V := (((v1.trans v2 (by decide)).trans v3 (by decide)).trans v4 (by decide)).trans v5 (by decide)
    rw [e1.1, e1.2, e2.1, e2.2, k19]
    exact ⟨t5.1, tpr_tape U V t5 h⟩
theorem back_same {y y' : XS} {z z' : RS} {x r1 r2 : Int32} (hK : InvK y.k) (hR : InvR z) (h : TPk y.k z) (h1 : kX10_back y x = some (r1, y')) (h2 : r_back z x = some (r2, z')) : r1 = r2 ∧ TPk y'.k z' := by
  have b0 : 0 ≤ (y.k.v 0).toInt ∧ (y.k.v 0).toInt ≤ 2000 := hK.1 0
  have e0 : y.k.v 0 = z.v 2 := h.1.1
  unfold kX10_back at h1
  unfold r_back at h2
  by_cases c : x < 0
  · rw [if_pos c] at h1 h2
    cases h1
    cases h2
    exact ⟨rfl, h⟩
  · have c' := tn_nlt (b := 0) rfl (by decide) c
    rw [if_neg c] at h1 h2
    rw [← e0] at h2
    by_cases d : x ≤ y.k.v 0
    · have d' := ti_le d
      rw [if_pos d] at h1 h2
      obtain ⟨s3, d3, h1⟩ := letS_inv h1
      obtain ⟨z3, g3, h2⟩ := letS_inv h2
      have e1 : r1 = s3.k.v 0 ∧ y' = s3 := by cases h1; exact ⟨rfl, rfl⟩
      have e2 : r2 = z3.v 2 ∧ z' = z3 := by cases h2; exact ⟨rfl, rfl⟩
      rw [e1.1, e1.2, e2.1, e2.2]
      have a : ((y.k.v 0) - x).toInt = (y.k.v 0).toInt - x.toInt := ti_sub (by omega) (by omega)
      have v3 : s3.k.v 0 = (y.k.v 0) - x := by rw [← d3]; rfl
      have w3 : z3.v 2 = (y.k.v 0) - x := by rw [← g3]; rfl
      have K : FrK [0, 101] y.k s3.k := by rw [← d3]; exact FrK.rfl.sv (k := 0) (by decide)
      have G : FrR [2, 101] z z3 := by rw [← g3]; exact FrR.rfl.sv (k := 2) (by decide)
      refine ⟨by rw [v3, w3], tpr_tape K G ⟨by rw [v3, w3], by rw [v3]; omega, fun i hi => ?_⟩ h⟩
      rw [v3, a] at hi
      have p1 : s3.k.f 1 = y.k.f 1 := by rw [← d3]; rfl
      have p2 : z3.f 1 = z.f 1 := by rw [← g3]; rfl
      rw [p1, p2]
      exact h.1.2.2 i (by omega)
    · rw [if_neg d] at h1 h2
      cases h1
      cases h2
      exact ⟨rfl, h⟩
theorem place_same {y y' : XS} {z z' : RS} {r1 r2 : Int32} (hK : InvK y.k) (hR : InvR z) (h : TPk y.k z) (h1 : kX10_place y = some (r1, y')) (h2 : r_place z = some (r2, z')) : r1 = r2 ∧ TPk y'.k z' := by
  unfold kX10_place at h1
  unfold r_place at h2
  cases h1
  cases h2
  exact ⟨h.2.2.1, h⟩
theorem kt_yes {x : Int32} (h0 : 0 ≤ x.toInt) (h5 : x.toInt ≤ 5) : kX10_isThing x = some 1 := by
  unfold kX10_isThing
  have n1 : ¬ x < 0 := fun q => by
    have := tn_lt (b := 0) rfl (by decide) q
    omega
  have n2 : ¬ 6 ≤ x := fun q => by
    have := tn_le (a := 6) (by decide) rfl q
    omega
  rw [if_neg n1, if_neg n2]
theorem kt_no {x : Int32} (h : ¬ (0 ≤ x.toInt ∧ x.toInt ≤ 5)) : kX10_isThing x = some 0 := by
  unfold kX10_isThing
  by_cases c : x < 0
  · rw [if_pos c]
  · have c' := tn_nlt (b := 0) rfl (by decide) c
    have n2 : 6 ≤ x := Int32.le_iff_toInt_le.mpr (by rw [show (6 : Int32).toInt = 6 from by decide]; omega)
    rw [if_neg c, if_pos n2]
theorem rt_yes {x : Int32} (h0 : 0 ≤ x.toInt) (h5 : x.toInt ≤ 5) : r_isThing x = some 1 := by
  unfold r_isThing r_in
  have n1 : ¬ x < 0 := fun q => by
    have := tn_lt (b := 0) rfl (by decide) q
    omega
  have n2 : ¬ 5 < x := fun q => by
    have := tn_lt (a := 5) (by decide) rfl q
    omega
  rw [if_neg n1, if_neg n2, bindP_some]
  exact if_pos (Or.inr rfl)
theorem rt_no {x : Int32} (h : ¬ (0 ≤ x.toInt ∧ x.toInt ≤ 5)) : r_isThing x = some 0 := by
  unfold r_isThing r_in
  by_cases c : x < 0
  · rw [if_pos c, bindP_some]
    exact if_pos (Or.inl rfl)
  · have c' := tn_nlt (b := 0) rfl (by decide) c
    have n2 : 5 < x := Int32.lt_iff_toInt_lt.mpr (by rw [show (5 : Int32).toInt = 5 from by decide]; omega)
    rw [if_neg c, if_pos n2, bindP_some]
    exact if_pos (Or.inl rfl)
theorem odds_same {y y' : XS} {z z' : RS} {x1 x2 r1 r2 : Int32} (hK : InvK y.k) (hR : InvR z) (h : TPk y.k z) (h1 : kX10_odds y x1 x2 = some (r1, y')) (h2 : r_odds z x1 x2 = some (r2, z')) : r1 = r2 ∧ True := by
  refine ⟨?_, trivial⟩
  have bw : 0 ≤ (y.k.v 1).toInt ∧ (y.k.v 1).toInt ≤ 5 := hK.1 1
  have bl : 0 ≤ (z.v 18).toInt ∧ (z.v 18).toInt ≤ 1 := hR.1 18
  have ew : y.k.v 1 = z.f 20 (z.v 18).toNatClampNeg := h.2.2.2.1
  have el := clampI bl.1
  unfold kX10_odds at h1
  unfold r_odds at h2
  by_cases hw : 0 ≤ x1.toInt ∧ x1.toInt < (y.k.v 1).toInt
  · rw [kw_yes hw.1 hw.2, bindI_some] at h1
    obtain ⟨s3, d3, h1⟩ := letS_inv h1
    have k3 : s3.k = y.k := by rw [← d3]; rfl
    rw [if_neg z_one] at h1
    rw [rw_yes (z := z) (x := x1) hR (by rw [← ew]; exact bw.2) hw.1 (by rw [← ew]; exact hw.2), bindI_some, if_neg z_one] at h2
    by_cases ht : 0 ≤ x2.toInt ∧ x2.toInt ≤ 5
    · rw [kt_yes ht.1 ht.2, bindP_some, if_neg z_one] at h1
      rw [rt_yes ht.1 ht.2, bindP_some, if_neg z_one] at h2
      obtain ⟨q, s8, hq, h1⟩ := bindI_inv h1
      obtain ⟨q', z6, hq', h2⟩ := bindI_inv h2
      unfold kX5_oddsAt at hq
      unfold r_oddsAt at hq'
      obtain ⟨_, hq⟩ := guard_inv hq
      obtain ⟨_, hq'⟩ := guard_inv hq'
      obtain ⟨s10, d10, h1⟩ := letS_inv h1
      have e1 : r1 = q := by cases h1; rfl
      have e2 : r2 = q' := by cases h2; rfl
      have e3 : q = s3.k.f 3 (Int32.toNatClampNeg ((x1 * 6) + x2)) := by cases hq; rfl
      have e4 : q' = z.f 21 (Int32.toNatClampNeg (((30 * (z.v 18)) + (6 * x1)) + x2)) := by cases hq'; rfl
      have m1 : (x1 * 6).toInt = x1.toInt * 6 := ti_mulc (c := 6) (by decide) (by omega) (by omega)
      have i1 : ((x1 * 6) + x2).toInt = ((6 * x1.toInt.toNat + x2.toInt.toNat : Nat) : Int) := by
        rw [ti_add (by omega) (by omega)]
        omega
      have m2 : (30 * (z.v 18)).toInt = (z.v 18).toInt * 30 := ti_cmul (c := 30) (by decide) (by omega) (by omega)
      have m3 : (6 * x1).toInt = x1.toInt * 6 := ti_cmul (c := 6) (by decide) (by omega) (by omega)
      have m4 : ((30 * (z.v 18)) + (6 * x1)).toInt = (30 * (z.v 18)).toInt + (6 * x1).toInt := ti_add (by omega) (by omega)
      have i2 : (((30 * (z.v 18)) + (6 * x1)) + x2).toInt = ((30 * (z.v 18).toNatClampNeg + (6 * x1.toInt.toNat + x2.toInt.toNat) : Nat) : Int) := by
        rw [ti_add (by omega) (by omega)]
        omega
      rw [e1, e2, e3, e4, k3, clamp_of_int i1, clamp_of_int i2]
      exact h.2.2.2.2.2 _ (by omega)
    · rw [kt_no ht, bindP_some, if_pos rfl] at h1
      rw [rt_no ht, bindP_some, if_pos rfl] at h2
      have e1 : r1 = -1 := by cases h1; rfl
      have e2 : r2 = -1 := by cases h2; rfl
      rw [e1, e2]
  · rw [kw_no hw, bindI_some] at h1
    obtain ⟨s3, d3, h1⟩ := letS_inv h1
    rw [if_pos rfl] at h1
    rw [rw_no (z := z) (x := x1) hR (by rw [← ew]; exact bw.1) (by rw [← ew]; exact bw.2) (by rw [← ew]; exact hw), bindI_some, if_pos rfl] at h2
    have e1 : r1 = -1 := by cases h1; rfl
    have e2 : r2 = -1 := by cases h2; rfl
    rw [e1, e2]
