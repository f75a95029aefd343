/-! ===== the reference has read: what stands then ===== -/
theorem plain_far2 {z z' : RS} {x : Int32} (h : r_plain z x = some z') : ∀ j, ¬ j = x.toNatClampNeg → z'.f 23 j = z.f 23 j ∧ z'.f 26 j = z.f 26 j := by
  intro j hj
  unfold r_plain at h
  replace h := guard_inv h
  obtain ⟨_, h⟩ := h
  replace h := letS_inv h
  obtain ⟨z2, e2, h⟩ := h
  replace h := guard_inv h
  obtain ⟨_, h⟩ := h
  replace h := letS_inv h
  obtain ⟨z5, e5, h⟩ := h
  replace h := guard_inv h
  obtain ⟨_, h⟩ := h
  replace h := letS_inv h
  obtain ⟨z8, e8, h⟩ := h
  have F := fr_plainL x fu z8 z8 0 FrR.rfl _ h
  have g5 : ∀ i, z5.f 23 i = if i = x.toNatClampNeg then 0 else z2.f 23 i := fun i => by rw [← e5]; exact rsf_at
  have g8 : ∀ i, z8.f 26 i = if i = x.toNatClampNeg then 0 else z5.f 26 i := fun i => by rw [← e8]; exact rsf_at
  have k8 : z8.f 23 = z5.f 23 := by rw [← e8]; rfl
  have k5 : z5.f 26 = z2.f 26 := by rw [← e5]; rfl
  have k2 : z2.f 23 = z.f 23 ∧ z2.f 26 = z.f 26 := by rw [← e2]; exact ⟨rfl, rfl⟩
  rw [(F.2 23 (by decide)).1, (F.2 26 (by decide)).1, k8, g5 j, if_neg hj, g8 j, if_neg hj, k5, k2.1, k2.2]
  exact ⟨rfl, rfl⟩
abbrev WFT : List Nat := [2, 4, 10, 11, 12, 13, 14, 15, 16, 19, 29, 35, 39, 103, 105, 106, 107, 108, 120, 121, 122, 123, 124, 125, 126, 127, 128, 130, 131, 132, 133, 134, 136, 137, 138]
/-- what is told on the other side stays -/
def FAR (sd : Nat) (z u : RS) : Prop := (∀ j, ¬ j = sd → u.f 23 j = z.f 23 j ∧ u.f 26 j = z.f 26 j) ∧ (∀ j, (j < 6 * sd ∨ 6 * sd + 6 ≤ j) → u.f 24 j = z.f 24 j ∧ u.f 25 j = z.f 25 j)
theorem read_far {z z' : RS} {r : Int32} (hI : InvR z) (hz : r_read z = some (r, z')) : ∃ sd u, (z.v 18).toNatClampNeg + sd = 1 ∧ (u.v 19).toInt = (sd : Int) ∧ r_read_129 u = some (r, z') ∧ FAR sd z u ∧ FrR WFT z u := by
  have b2 : 0 ≤ (z.v 2).toInt ∧ (z.v 2).toInt ≤ 2000 := hI.1 2
  unfold r_read at hz
  replace hz := letS_inv hz
  obtain ⟨z1, g1, hz⟩ := hz
  have v41 : z1.v 4 = z.v 2 := by rw [← g1]; rfl
  have G1 : FrR [4] z z1 := by rw [← g1]; exact FrR.rfl.sv (by decide)
  have I1z : InvR z1 := by rw [← g1]; exact hI.sv (k := 4) (show (0 : Int) ≤ (z.v 2).toInt by exact b2.1) (show (z.v 2).toInt ≤ (2000 : Int) by exact b2.2)
  obtain ⟨u, hz, Iu, Gu, _, _⟩ := copy_inv fu z1 0 (by decide) (by rw [v41]; exact b2.2) I1z hz
  unfold rrest at hz
  replace hz := letS_inv hz
  obtain ⟨z2, g2, hz⟩ := hz
  replace hz := bindP_inv hz
  obtain ⟨z4, g4, hz⟩ := hz
  replace hz := letS_inv hz
  obtain ⟨z5, g5, hz⟩ := hz
  replace hz := letS_inv hz
  obtain ⟨z7, g7, hz⟩ := hz
  replace hz := letS_inv hz
  obtain ⟨z9, g9, hz⟩ := hz
  replace hz := letS_inv hz
  obtain ⟨z11, g11, hz⟩ := hz
  replace hz := letS_inv hz
  obtain ⟨z13, g13, hz⟩ := hz
  replace hz := bindP_inv hz
  obtain ⟨z15, g15, hz⟩ := hz
  replace hz := letS_inv hz
  obtain ⟨z16, g16, hz⟩ := hz
  replace hz := letS_inv hz
  obtain ⟨z18, g18, hz⟩ := hz
  have I2 : InvR z2 := by rw [← g2]; exact Iu.sv (k := 2) (show (0 : Int) ≤ (0 : Int32).toInt by decide) (show (0 : Int32).toInt ≤ (2000 : Int) by decide)
  have G2 : FrR [2, 4, 103] z z2 := by rw [← g2]; exact ((FrR.rfl.trans G1 (by decide)).trans Gu (by decide)).sv (k := 2) (by decide)
  obtain ⟨y4, q4, I4, F4⟩ := ok_cut z2 I2
  rw [g4] at q4
  cases q4
  have F13 : FrR [11, 12, 13, 15, 19] z4 z13 := by
    rw [← g13, ← g11, ← g9, ← g7, ← g5]
    exact ((((FrR.rfl.sv (k := 11) (by decide)).sv (k := 12) (by decide)).sv (k := 13) (by decide)).sv (k := 15) (by decide)).sv (k := 19) (by decide)
  have I11 : InvR z11 := by
    rw [← g11, ← g9, ← g7, ← g5]
    exact (((I4.sv (k := 11) (show (0 : Int) ≤ (0 : Int32).toInt by decide) (show (0 : Int32).toInt ≤ (400 : Int) by decide)).svF (k := 12) rfl rfl).sv (k := 13) (show (0 : Int) ≤ (0 : Int32).toInt by decide) (show (0 : Int32).toInt ≤ (2 : Int) by decide)).sv (k := 15) (show (0 : Int) ≤ (0 : Int32).toInt by decide) (show (0 : Int32).toInt ≤ (5 : Int) by decide)
  have h18 : 0 ≤ (z11.v 18).toInt ∧ (z11.v 18).toInt ≤ 1 := I11.1 18
  have a18 : (1 - (z11.v 18)).toInt = 1 - (z11.v 18).toInt := tn_sub (by decide) rfl (by omega) (by omega)
  have I13 : InvR z13 := by rw [← g13]; exact I11.sv (k := 19) (show (0 : Int) ≤ (1 - (z11.v 18)).toInt by omega) (show (1 - (z11.v 18)).toInt ≤ (1 : Int) by omega)
  have e19 : z13.v 19 = 1 - (z11.v 18) := by rw [← g13]; rfl
  have e18 : z13.v 18 = z11.v 18 := by rw [← g13]; rfl
  obtain ⟨sd, hsd⟩ : ∃ sd : Nat, (z13.v 19).toInt = (sd : Int) := ⟨(z13.v 19).toInt.toNat, by rw [e19]; omega⟩
  have hsd1 : sd ≤ 1 := by rw [e19] at hsd; omega
  have hl : (z13.v 18).toInt + (sd : Int) = 1 := by rw [e18, ← hsd, e19]; omega
  obtain ⟨y15, q15, _, F15, _, _, _⟩ := ok_plain sd z13 (z13.v 19) hsd1 hsd I13
  rw [g15] at q15
  cases q15
  have pl := plain_23 g15
  have pf := plain_far2 g15
  rw [clamp_of_int hsd] at pl
  rw [clamp_of_int hsd] at pf
  have FA : FrR [29, 35] z15 z18 := by
    rw [← g18, ← g16]
    exact (FrR.rfl.sv (k := 29) (by decide)).sv (k := 35) (by decide)
  have FW : FrR WFT z z18 := ((((FrR.rfl.trans G2 (by decide)).trans F4 (by decide)).trans F13 (by decide)).trans F15 (by decide)).trans FA (by decide)
  have h0 : Fa3 sd z18 z18 := ⟨FrR.rfl, by rw [FA.1 19 (by decide), F15.1 19 (by decide)]; exact hsd, by rw [(FA.2 23 (by decide)).1, pl.2.1]; decide, fun _ _ => ⟨rfl, rfl⟩, fun _ _ => ⟨rfl, rfl⟩⟩
  obtain ⟨w, hw, hz⟩ := rr_last hsd1 fu z18 h0 hz
  have zv : (z.v 18).toInt = (z13.v 18).toInt := by rw [F13.1 18 (by decide), F4.1 18 (by decide), G2.1 18 (by decide)]
  have bl : 0 ≤ (z.v 18).toInt ∧ (z.v 18).toInt ≤ 1 := hI.1 18
  have ec := clampI bl.1
  refine ⟨sd, w, by omega, hw.2.1, hz, ⟨fun j hj => ?_, fun j hj => ?_⟩, FW.trans hw.1 (by decide)⟩
  · obtain ⟨u1, u2⟩ := hw.2.2.2.1 j hj
    obtain ⟨p1, p2⟩ := pf j hj
    rw [u1, u2, (FA.2 23 (by decide)).1, (FA.2 26 (by decide)).1, p1, p2, (F13.2 23 (by decide)).1, (F4.2 23 (by decide)).1, (G2.2 23 (by decide)).1, (F13.2 26 (by decide)).1, (F4.2 26 (by decide)).1, (G2.2 26 (by decide)).1]
    exact ⟨rfl, rfl⟩
  · obtain ⟨u1, u2⟩ := hw.2.2.2.2 j hj
    rw [u1, u2, (FA.2 24 (by decide)).1, (FA.2 25 (by decide)).1, (F15.2 24 (by decide)).1, (F15.2 25 (by decide)).1, (F13.2 24 (by decide)).1, (F4.2 24 (by decide)).1, (G2.2 24 (by decide)).1, (F13.2 25 (by decide)).1, (F4.2 25 (by decide)).1, (G2.2 25 (by decide)).1]
    exact ⟨rfl, rfl⟩
/-- the row as it begins -/
def beg (i : Nat) : Int32 := if 5 ≤ i ∧ i < 10 then -2 else 0
theorem beg_six {z' : RS} : ∀ (n : Nat) (z : RS) (x : Int32) (j : Nat), x.toInt = (j : Int) → 1 ≤ j → j ≤ 6 → (∀ i, i < j → z.f 46 i = six6 i) → r_begins_46L n z x = some z' → FrR [45, 146] z z' ∧ (∀ i, i < 6 → z'.f 46 i = six6 i) ∧ z'.v 45 = z.f 26 (z.v 18).toNatClampNeg := by
  intro n
  induction n with
  | zero => intro z x j _ _ _ _ h; exact none_ne h
  | succ n ih =>
    intro z x j ex h1 hj hd h
    replace h : r_begins_46 (r_begins_46L n) z x = some z' := h
    unfold r_begins_46 at h
    by_cases c : 6 ≤ x
    · have c' := tn_le (a := 6) (by decide) rfl c
      have ej : j = 6 := by omega
      subst ej
      rw [if_pos c] at h
      replace h := guard_inv h
      obtain ⟨_, h⟩ := h
      replace h := letS_inv h
      obtain ⟨t, et, h⟩ := h
      cases h
      refine ⟨?_, fun i hi => ?_, ?_⟩
      · rw [← et]; exact FrR.rfl.sv (by decide)
      · rw [← et]; exact hd i hi
      · rw [← et]; rfl
    · have c' := tn_nle (a := 6) (by decide) rfl c
      rw [if_neg c] at h
      replace h := guard_inv h
      obtain ⟨_, h⟩ := h
      replace h := guard_inv h
      obtain ⟨_, h⟩ := h
      replace h := letS_inv h
      obtain ⟨t, et, h⟩ := h
      have em : (x - 1).toInt = ((j - 1 : Nat) : Int) := by
        rw [tn_sub ex (by decide : (1 : Int32).toInt = 1) (by omega) (by omega)]
        omega
      rw [clamp_of_int ex, clamp_of_int em] at et
      have ax : (x + 1).toInt = ((j + 1 : Nat) : Int) := by
        rw [tn_add ex (by decide : (1 : Int32).toInt = 1) (by omega) (by omega)]
        omega
      have g : ∀ i, t.f 46 i = if i = j then 6 * z.f 46 (j - 1) else z.f 46 i := fun i => by rw [← et]; exact rsf_at
      have G : FrR [45, 146] z t := by rw [← et]; exact FrR.rfl.sf (by decide)
      obtain ⟨q1, q2, q3⟩ := ih t (x + 1) (j + 1) ax (by omega) (by omega) (fun i hi => by
        rw [g i]
        by_cases e : i = j
        · rw [if_pos e, hd (j - 1) (by omega), e]
          obtain ⟨m, rfl⟩ : ∃ m, j = m + 1 := ⟨j - 1, by omega⟩
          show 6 * six6 m = six6 m * 6
          exact Int32.mul_comm _ _
        · rw [if_neg e]; exact hd i (by omega)) h
      exact ⟨G.trans q1 (fun _ x => x), q2, by rw [q3, (G.2 26 (by decide)).1, G.1 18 (by decide)]⟩
theorem begins_eq {z' : RS} : ∀ (n : Nat) (z : RS) (x : Int32) (j : Nat), x.toInt = (j : Int) → j ≤ 29 → (∀ i, i < j → z.f 44 i = beg i) → r_begins_2L n z x = some z' → FrR [45, 144, 146] z z' ∧ (∀ i, i < 29 → z'.f 44 i = beg i) ∧ (∀ i, i < 6 → z'.f 46 i = six6 i) ∧ z'.v 45 = z.f 26 (z.v 18).toNatClampNeg := by
  intro n
  induction n with
  | zero => intro z x j _ _ _ h; exact none_ne h
  | succ n ih =>
    intro z x j ex hj hd h
    replace h : r_begins_2 (r_begins_2L n) z x = some z' := h
    unfold r_begins_2 at h
    by_cases c : 29 ≤ x
    · have c' := tn_le (a := 29) (by decide) rfl c
      rw [if_pos c] at h
      replace h := letS_inv h
      obtain ⟨t, et, h⟩ := h
      have g : ∀ i, t.f 46 i = if i = 0 then 1 else z.f 46 i := fun i => by rw [← et]; exact rsf_at
      have G : FrR [45, 144, 146] z t := by rw [← et]; exact FrR.rfl.sf (by decide)
      obtain ⟨q1, q2, q3⟩ := beg_six fu t 1 1 (by decide) (by omega) (by omega) (fun i hi => by
        rw [g i, if_pos (by omega), show i = 0 by omega]
        rfl) h
      refine ⟨G.trans q1 (by decide), fun i hi => ?_, q2, by rw [q3, (G.2 26 (by decide)).1, G.1 18 (by decide)]⟩
      rw [(q1.2 44 (by decide)).1, ← et]
      exact hd i (by omega)
    · have c' := tn_nle (a := 29) (by decide) rfl c
      rw [if_neg c] at h
      have ax : (x + 1).toInt = ((j + 1 : Nat) : Int) := by
        rw [tn_add ex (by decide : (1 : Int32).toInt = 1) (by omega) (by omega)]
        omega
      have go : ∀ q : Int32, q = beg j → r_begins_30 (r_begins_2L n) z x q x = some z' → FrR [45, 144, 146] z z' ∧ (∀ i, i < 29 → z'.f 44 i = beg i) ∧ (∀ i, i < 6 → z'.f 46 i = six6 i) ∧ z'.v 45 = z.f 26 (z.v 18).toNatClampNeg := by
        intro q hq h
        unfold r_begins_30 at h
        replace h := guard_inv h
        obtain ⟨_, h⟩ := h
        replace h := letS_inv h
        obtain ⟨t, et, h⟩ := h
        rw [clamp_of_int ex] at et
        have g : ∀ i, t.f 44 i = if i = j then q else z.f 44 i := fun i => by rw [← et]; exact rsf_at
        have G : FrR [45, 144, 146] z t := by rw [← et]; exact FrR.rfl.sf (by decide)
        obtain ⟨q1, q2, q3, q4⟩ := ih t (x + 1) (j + 1) ax (by omega) (fun i hi => by
          rw [g i]
          by_cases e : i = j
          · rw [if_pos e, hq, e]
          · rw [if_neg e]; exact hd i (by omega)) h
        exact ⟨G.trans q1 (fun _ x => x), q2, q3, by rw [q4, (G.2 26 (by decide)).1, G.1 18 (by decide)]⟩
      by_cases c5 : x < 5
      · have c5' := tn_lt (b := 5) rfl (by decide) c5
        rw [if_pos c5] at h
        exact go 0 (by unfold beg; rw [if_neg (by omega)]) h
      · have c5' := tn_nlt (b := 5) rfl (by decide) c5
        rw [if_neg c5] at h
        by_cases c10 : 10 ≤ x
        · have c10' := tn_le (a := 10) (by decide) rfl c10
          rw [if_pos c10] at h
          exact go 0 (by unfold beg; rw [if_neg (by omega)]) h
        · have c10' := tn_nle (a := 10) (by decide) rfl c10
          rw [if_neg c10] at h
          exact go (-2) (by unfold beg; rw [if_pos (by omega)]) h
/-- the end of a reading: a fault, or all begins anew -/
theorem r129_end {u z' : RS} {r : Int32} (h : r_read_129 u = some (r, z')) : (¬ r = 0 ∧ FrR [17] u z') ∨ (r = 0 ∧ FrR [17, 18, 45, 48, 51, 143, 144, 146, 156] u z' ∧ z'.v 18 = u.v 19 ∧ z'.v 45 = u.f 26 (u.v 19).toNatClampNeg ∧ z'.v 48 = 0 ∧ (∀ i, i < 29 → z'.f 43 i = beg i) ∧ (∀ i, i < 6 → z'.f 46 i = six6 i)) := by
  have fin : ∀ t0 : Int32, r_read_159 u t0 = some (r, z') → (¬ r = 0 ∧ FrR [17] u z') ∨ (r = 0 ∧ FrR [17, 18, 45, 48, 51, 143, 144, 146, 156] u z' ∧ z'.v 18 = u.v 19 ∧ z'.v 45 = u.f 26 (u.v 19).toNatClampNeg ∧ z'.v 48 = 0 ∧ (∀ i, i < 29 → z'.f 43 i = beg i) ∧ (∀ i, i < 6 → z'.f 46 i = six6 i)) := by
    intro t0 h
    unfold r_read_159 at h
    replace h := letS_inv h
    obtain ⟨s1, e1, h⟩ := h
    have G1 : FrR [17] u s1 := by rw [← e1]; exact FrR.rfl.sv (by decide)
    by_cases c : s1.v 13 ≤ 0
    · rw [if_pos c] at h
      by_cases d : s1.v 15 ≤ 0
      · rw [if_pos d] at h
        replace h := letS_inv h
        obtain ⟨s5, e5, h⟩ := h
        replace h := bindP_inv h
        obtain ⟨s7, h7, h⟩ := h
        replace h := bindP_inv h
        obtain ⟨s8, h8, h⟩ := h
        replace h := letS_inv h
        obtain ⟨s9, e9, h⟩ := h
        replace h := letS_inv h
        obtain ⟨s11, e11, h⟩ := h
        unfold r_begins at h7
        unfold r_keepsRow at h8
        obtain ⟨b1, b2, b3, b4⟩ := begins_eq fu s5 0 0 (by decide) (by omega) (fun i hi => by omega) h7
        obtain ⟨k1, k2, _⟩ := keepsL fu s7 0 0 (by decide) (by omega) h8
        obtain ⟨o1, o2, _, _⟩ := held_off fu s11 0 (by decide) (by decide) (r, z') h
        have o1 : r = 0 := o1
        have o2 : FrR [156] s11 z' := o2
        have G5 : FrR [17, 18] u s5 := by rw [← e5]; exact (FrR.rfl.trans G1 (by decide)).sv (by decide)
        have G11 : FrR [48, 51] s8 s11 := by rw [← e11, ← e9]; exact (FrR.rfl.sv (k := 48) (by decide)).sv (k := 51) (by decide)
        have v19 : s1.v 19 = u.v 19 := G1.1 19 (by decide)
        have v18 : s5.v 18 = u.v 19 := by rw [← e5, ← v19]; rfl
        refine Or.inr ⟨o1, ((((FrR.rfl.trans G5 (by decide)).trans b1 (by decide)).trans k1 (by decide)).trans G11 (by decide)).trans o2 (by decide), ?_, ?_, ?_, fun i hi => ?_, fun i hi => ?_⟩
        · rw [o2.1 18 (by decide), G11.1 18 (by decide), k1.1 18 (by decide), b1.1 18 (by decide), v18]
        · rw [o2.1 45 (by decide), G11.1 45 (by decide), k1.1 45 (by decide), b4, v18, (G5.2 26 (by decide)).1]
        · rw [o2.1 48 (by decide), ← e11]
          show s9.v 48 = 0
          rw [← e9]
          rfl
        · rw [(o2.2 43 (by decide)).1, (G11.2 43 (by decide)).1, k2 i (by omega) hi]
          exact b2 i hi
        · rw [(o2.2 46 (by decide)).1, (G11.2 46 (by decide)).1, (k1.2 46 (by decide)).1]
          exact b3 i hi
      · rw [if_neg d] at h
        have e : r = s1.v 15 ∧ z' = s1 := by cases h; exact ⟨rfl, rfl⟩
        refine Or.inl ⟨fun q => d ?_, by rw [e.2]; exact G1⟩
        rw [← e.1, q]
        decide
    · rw [if_neg c] at h
      have e : r = s1.v 13 ∧ z' = s1 := by cases h; exact ⟨rfl, rfl⟩
      refine Or.inl ⟨fun q => c ?_, by rw [e.2]; exact G1⟩
      rw [← e.1, q]
      decide
  unfold r_read_129 at h
  by_cases c : u.v 13 ≤ 0
  · rw [if_pos c] at h
    by_cases d : u.v 15 ≤ 0
    · rw [if_pos d] at h; exact fin _ h
    · rw [if_neg d] at h; exact fin _ h
  · rw [if_neg c] at h; exact fin _ h
