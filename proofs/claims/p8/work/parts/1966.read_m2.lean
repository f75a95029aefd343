/-! the text is copied, then all begins -/
def rrest (s : RS) : Option (Int32 × RS) := (letS (s.sv 2 0) fun s2 => (bindP (r_cut s2) fun s4 => (letS (s4.sv 11 0) fun s5 => (letS (s5.sv 12 0) fun s7 => (letS (s7.sv 13 0) fun s9 => (letS (s9.sv 15 0) fun s11 => (letS (s11.sv 19 (1 - (s11.v 18))) fun s13 => (bindP (r_plain s13 (s13.v 19)) fun s15 => (letS (s15.sv 29 (130 * (s15.v 19))) fun s16 => (letS (s16.sv 35 (420 * (s16.v 19))) fun s18 => r_read_107L fu s18))))))))))
theorem copy_inv {out : Int32 × RS} : ∀ (m : Nat) (z : RS) (x : Int32), 0 ≤ x.toInt → (z.v 4).toInt ≤ 2000 → InvR z → r_read_10L m z x = some out → ∃ u, rrest u = some out ∧ InvR u ∧ FrR [103] z u ∧ (∀ j : Nat, x.toInt ≤ (j : Int) → (j : Int) < (z.v 4).toInt → u.f 3 j = vp_nar .byte (z.f 1 j)) ∧ (∀ j : Nat, (j : Int) < x.toInt → u.f 3 j = z.f 3 j) := by
  intro m
  induction m with
  | zero => intro z x _ _ _ h; exact none_ne h
  | succ m ih =>
    intro z x h0 h4 hI h
    have h : r_read_10 (r_read_10L m) z x = some out := h
    unfold r_read_10 at h
    by_cases c : z.v 4 ≤ x
    · have c' := ti_le c
      rw [if_pos c] at h
      exact ⟨z, h, hI, FrR.rfl, fun j h1 h2 => by omega, fun _ _ => rfl⟩
    · have c' := ti_nle c
      rw [if_neg c] at h
      obtain ⟨_, h⟩ := guard_inv h
      obtain ⟨_, h⟩ := guard_inv h
      obtain ⟨t, et, h⟩ := letS_inv h
      have a : (x + 1).toInt = x.toInt + 1 := tn_add rfl (by decide) (by omega) (by omega)
      have ec := clampI h0
      have v4 : t.v 4 = z.v 4 := by rw [← et]; rfl
      have f1 : t.f 1 = z.f 1 := by rw [← et]; rfl
      obtain ⟨u, q1, qI, q2, q3, q4⟩ := ih t (x + 1) (by omega) (by rw [v4]; exact h4) (by rw [← et]; exact hI.sfF (k := 3) rfl rfl) h
      rw [v4, f1] at q3
      refine ⟨u, q1, qI, ?_, fun j h1 h2 => ?_, fun j h1 => ?_⟩
      · refine FrR.trans (t := t) ?_ q2 (by decide)
        rw [← et]
        exact FrR.rfl.sf (by decide)
      · by_cases e : j = x.toNatClampNeg
        · rw [q4 j (by omega), ← et, e, rsf_get]
        · exact q3 j (by omega) h2
      · rw [q4 j (by omega), ← et]
        exact rsf_ne (by omega)
theorem and255_mod (x : Int32) : (x &&& 255).toInt = x.toInt % 256 := by
  have e : (x &&& 255).toBitVec.toNat = x.toBitVec.toNat % 256 := by
    show (x.toBitVec &&& 255#32).toNat = _
    rw [BitVec.toNat_and]
    have := Nat.and_two_pow_sub_one_eq_mod x.toBitVec.toNat 8
    exact this
  have h : (x &&& 255).toInt = ((x &&& 255).toBitVec.toNat : Int) := by
    show (x &&& 255).toBitVec.toInt = _
    rw [BitVec.toInt_eq_toNat_of_lt (by omega)]
  have c := BitVec.toInt_eq_toNat_cond x.toBitVec
  have ex : x.toInt = x.toBitVec.toInt := rfl
  rw [h, e, ex]
  split at c <;> omega
theorem nar255 (x : Int32) : (vp_nar .byte x) &&& 255 = x &&& 255 := by
  refine Int32.toInt_inj.mp ?_
  rw [and255_mod, and255_mod, vp_nar_byte, Int8.toInt_toInt32, Int32.toInt_toInt8]
  exact Int.bmod_emod
theorem fr_plainL (x : Int32) : ∀ (n : Nat) (z0 z : RS) (x2 : Int32), FrR [127, 128] z0 z → Pt (r_plain_23L n z x x2) (FrR [127, 128] z0) := by
  intro n
  induction n with
  | zero => intro z0 z x2 _; exact pt_none
  | succ n ih =>
    intro z0 z x2 h
    show Pt (r_plain_23 (r_plain_23L n) z x x2) _
    unfold r_plain_23
    refine pt_ite (fun _ => pt_some h) (fun _ => pt_ite (fun _ => ?_) (fun _ => pt_none))
    refine pt_let (P := FrR [127, 128] z0) (h.sf (by decide)) (fun s h => ?_)
    refine pt_ite (fun _ => ?_) (fun _ => pt_none)
    exact pt_let (P := FrR [127, 128] z0) (h.sf (by decide)) (fun s h => ih _ _ _ h)
theorem plain_23 {z z' : RS} {x : Int32} (h : r_plain z x = some z') : z'.f 20 x.toNatClampNeg = 0 ∧ z'.f 23 x.toNatClampNeg = 0 ∧ z'.f 26 x.toNatClampNeg = 0 := by
  unfold r_plain at h
  obtain ⟨_, h⟩ := guard_inv h
  obtain ⟨z2, e2, h⟩ := letS_inv h
  obtain ⟨_, h⟩ := guard_inv h
  obtain ⟨z5, e5, h⟩ := letS_inv h
  obtain ⟨_, h⟩ := guard_inv h
  obtain ⟨z8, e8, h⟩ := letS_inv h
  have F := fr_plainL x fu z8 z8 0 FrR.rfl _ h
  refine ⟨?_, ?_, ?_⟩
  · rw [(F.2 20 (by decide)).1, ← e8, ← e5]
    show z2.f 20 _ = 0
    rw [← e2]
    exact rsf_get
  · rw [(F.2 23 (by decide)).1, ← e8]
    show z5.f 23 _ = 0
    rw [← e5]
    exact rsf_get
  · rw [(F.2 26 (by decide)).1, ← e8]
    exact rsf_get
theorem Far.fr2 {sd : Nat} {s y : RS} {W : List Nat} (h : FrR W s y) (hW : ∀ k ∈ [120, 121, 127, 128, 130, 131, 132, 133, 134, 136, 137], k ∉ W) : Far sd s y := by
  have e (k : Nat) (hk : 100 + k ∈ [120, 121, 127, 128, 130, 131, 132, 133, 134, 136, 137]) : y.f k = s.f k := (h.2 k (hW _ hk)).1
  refine ⟨fun j _ => ⟨by rw [e 36 (by decide)], by rw [e 37 (by decide)]⟩, fun j _ => ⟨by rw [e 30 (by decide)], by rw [e 31 (by decide)], by rw [e 32 (by decide)], by rw [e 33 (by decide)], by rw [e 34 (by decide)]⟩, fun j _ => ⟨by rw [e 27 (by decide)], by rw [e 28 (by decide)]⟩, fun j _ => by rw [e 20 (by decide)], fun j _ => by rw [e 21 (by decide)]⟩
/-- all laws, on both sides, between two calls -/
def LAWF (sd : Nat) (F P S C : Nat → Int32) (z : RS) : Prop := ∀ cl, cl < 4 → LawR 404 ((420 * sd : Nat) : Int) ((420 * sd + 402 : Nat) : Int) (130 * sd) (130 * sd + 103) F P S C cl (4 * sd + cl) z
theorem LAWF.far {l sd : Nat} {F P S C : Nat → Int32} {z z' : RS} (h : LAWF l F P S C z) (hl : l + sd = 1) (R : Far sd z z') : LAWF l F P S C z' := by
  intro cl hcl
  refine (h cl hcl).keep (fun _ _ => rfl) (fun _ _ _ => rfl) rfl rfl (fun i q1 q2 => ?_) (fun i q1 q2 => ?_) ?_ ?_ (Int.le_refl _) (Int.le_refl _) (Nat.le_refl _)
  · have q := R.1 i (by omega)
    unfold es
    rw [q.1, q.2]
  · exact R.2.1 i (by omega)
  · exact (R.2.2.1 _ (by omega)).1
  · exact (R.2.2.1 _ (by omega)).2
theorem LAWF.fr {l : Nat} {F P S C : Nat → Int32} {z z' : RS} {W : List Nat} (h : LAWF l F P S C z) (G : FrR W z z') (hW : (127 ∉ W ∧ 128 ∉ W) ∧ (130 ∉ W ∧ 131 ∉ W ∧ 132 ∉ W ∧ 133 ∉ W ∧ 134 ∉ W) ∧ 136 ∉ W ∧ 137 ∉ W) : LAWF l F P S C z' := by
  intro cl hcl
  exact (h cl hcl).keep (fun _ _ => rfl) (fun _ _ _ => rfl) rfl rfl (fun i _ _ => by rw [es_fr G hW.2.2.1 hW.2.2.2]) (fun i _ _ => SmB.fr G hW.2.1) (by rw [(G.2 27 hW.1.1).1]) (by rw [(G.2 28 hW.1.2).1]) (Int.le_refl _) (Int.le_refl _) (Nat.le_refl _)
theorem one_eq {s s1 s2 s3 : KS} {xc x : Int32} {cl n : Nat} (hx : xc.toInt = (cl : Int)) (hcl : cl < 4) (hn : (s.v 12).toInt = (n : Int)) (hn4 : n ≤ 3) (h1 : kX1_begin s xc = some s1) (h2 : kX1_put s1 x = some s2) (h3 : kX1_endPart s2 = some s3) : (s3.v 12).toInt = (n : Int) + 1 ∧ (∀ i, i < n → s3.f 22 i = s.f 22 i) ∧ s3.f 22 n = x ∧ (∀ i, s3.f 23 i = if i = 13 * cl then s3.v 12 else s.f 23 i) ∧ (∀ i, s3.f 24 i = if i = cl then s.v 12 else s.f 24 i) ∧ s3.f 25 cl = 1 ∧ (∀ i, ¬ i = cl → s3.f 25 i = s.f 25 i) := by
  obtain ⟨b12, b13, b22, b23, b24, b25⟩ := begin_eq hx h1
  have n1 : (s1.v 12).toInt = (n : Int) := by rw [b12]; exact hn
  have ep := put_em (by omega) (by omega) h2
  have fp := (fr_put (s0 := s1) x FrK.rfl _ h2).1
  obtain ⟨e12, e13, e22, e24, e23, e25, e25c⟩ := endPart_eq (cl := cl) (j := 0) (by rw [fp.1 13 (by decide), b13]; exact hx) hcl (by rw [(fp.2 25 (by decide)).1, b25, if_pos rfl]; decide) (by omega) h3
  have ec : (s1.v 12).toNatClampNeg = n := clamp_of_int n1
  have p1 : (s2.v 12).toInt = (s1.v 12).toInt + 1 := ep.2.1
  have p3 : [s2.f 22 (s1.v 12).toNatClampNeg] = [x] := ep.2.2.2
  rw [ec] at p3
  have p4 : s2.f 22 n = x := by injection p3
  refine ⟨by rw [e12]; omega, fun i hi => ?_, by rw [e22]; exact p4, fun i => ?_, fun i => ?_, ?_, fun i hi => ?_⟩
  · rw [e22, ep.2.2.1 i (by omega), b22]
  · rw [e23, Nat.add_zero, e12, (fp.2 23 (by decide)).1, b23]
  · rw [e24, (fp.2 24 (by decide)).1, b24]
  · exact Int32.toInt_inj.mp (e25c.trans (by decide))
  · rw [e25 i hi, (fp.2 25 (by decide)).1, b25, if_neg hi]
theorem sg1 {F : Nat → Int32} {a b x : Int32} {n : Nat} (ha : a.toInt = (n : Int)) (hb : b.toInt = (n : Int) + 1) (hf : F n = x) : Sg F a b [x] := by
  refine ⟨by omega, ?_, ?_⟩
  · show b.toInt = a.toInt + ((1 : Nat) : Int)
    omega
  · show [F a.toNatClampNeg] = [x]
    rw [clamp_of_int ha, hf]
def CLR (s : KS) : Prop := (s.v 12).toInt = 4 ∧ ∀ cl, cl < 4 → s.f 25 cl = 1 ∧ Sg (s.f 22) (s.f 24 cl) (s.f 23 (13 * cl)) [dfl cl] ∧ (s.f 23 (13 * cl)).toInt ≤ 4
theorem clear_eq {s s' : KS} (h : kX1_clear s = some s') : CLR s' := by
  unfold kX1_clear at h
  obtain ⟨a0, d0, h⟩ := letS_inv h
  obtain ⟨a1, h1, h⟩ := bindP_inv h
  obtain ⟨a2, h2, h⟩ := bindP_inv h
  obtain ⟨a3, h3, h⟩ := bindP_inv h
  obtain ⟨a4, h4, h⟩ := bindP_inv h
  obtain ⟨a5, h5, h⟩ := bindP_inv h
  obtain ⟨a6, h6, h⟩ := bindP_inv h
  obtain ⟨a7, h7, h⟩ := bindP_inv h
  obtain ⟨a8, h8, h⟩ := bindP_inv h
  obtain ⟨a9, h9, h⟩ := bindP_inv h
  obtain ⟨a10, h10, h⟩ := bindP_inv h
  obtain ⟨a11, h11, h⟩ := bindP_inv h
  obtain ⟨a12, h12, h⟩ := bindP_inv h
  have eh : s' = a12 := by cases h; rfl
  unfold kX1_putVar at h2
  unfold kX1_putNumber at h5 h8 h11
  rw [bindP_id] at h2 h5 h8 h11
  have n0 : (a0.v 12).toInt = ((0 : Nat) : Int) := by rw [← d0]; show (0 : Int32).toInt = _; decide
  obtain ⟨A1, A2, A3, A4, A5, A6, A7⟩ := one_eq (cl := 0) (n := 0) (by decide) (by omega) n0 (by omega) h1 h2 h3
  obtain ⟨B1, B2, B3, B4, B5, B6, B7⟩ := one_eq (cl := 1) (n := 1) (by decide) (by omega) (by omega) (by omega) h4 h5 h6
  obtain ⟨C1, C2, C3, C4, C5, C6, C7⟩ := one_eq (cl := 2) (n := 2) (by decide) (by omega) (by omega) (by omega) h7 h8 h9
  obtain ⟨D1, D2, D3, D4, D5, D6, D7⟩ := one_eq (cl := 3) (n := 3) (by decide) (by omega) (by omega) (by omega) h10 h11 h12
  rw [eh]
  refine ⟨by omega, fun cl hcl => ?_⟩
  rcases (show cl = 0 ∨ cl = 1 ∨ cl = 2 ∨ cl = 3 by omega) with e | e | e | e <;> subst e
  · have f23 : a12.f 23 (13 * 0) = a3.v 12 := by rw [D4, if_neg (by omega), C4, if_neg (by omega), B4, if_neg (by omega), A4, if_pos rfl]
    have f24 : a12.f 24 0 = a0.v 12 := by rw [D5, if_neg (by omega), C5, if_neg (by omega), B5, if_neg (by omega), A5, if_pos rfl]
    refine ⟨by rw [D7 _ (by omega), C7 _ (by omega), B7 _ (by omega)]; exact A6, ?_, by rw [f23]; omega⟩
    rw [f23, f24]
    exact sg1 (n := 0) n0 (by omega) (by rw [D2 0 (by omega), C2 0 (by omega), B2 0 (by omega), A3]; decide)
  · have f23 : a12.f 23 (13 * 1) = a6.v 12 := by rw [D4, if_neg (by omega), C4, if_neg (by omega), B4, if_pos rfl]
    have f24 : a12.f 24 1 = a3.v 12 := by rw [D5, if_neg (by omega), C5, if_neg (by omega), B5, if_pos rfl]
    refine ⟨by rw [D7 _ (by omega), C7 _ (by omega)]; exact B6, ?_, by rw [f23]; omega⟩
    rw [f23, f24]
    exact sg1 (n := 1) (by omega) (by omega) (by rw [D2 1 (by omega), C2 1 (by omega), B3]; decide)
  · have f23 : a12.f 23 (13 * 2) = a9.v 12 := by rw [D4, if_neg (by omega), C4, if_pos rfl]
    have f24 : a12.f 24 2 = a6.v 12 := by rw [D5, if_neg (by omega), C5, if_pos rfl]
    refine ⟨by rw [D7 _ (by omega)]; exact C6, ?_, by rw [f23]; omega⟩
    rw [f23, f24]
    exact sg1 (n := 2) (by omega) (by omega) (by rw [D2 2 (by omega), C3]; decide)
  · have f23 : a12.f 23 (13 * 3) = a12.v 12 := by rw [D4, if_pos rfl]
    have f24 : a12.f 24 3 = a9.v 12 := by rw [D5, if_pos rfl]
    refine ⟨D6, ?_, by rw [f23]; omega⟩
    rw [f23, f24]
    exact sg1 (n := 3) (by omega) (by omega) (by rw [D3]; decide)
theorem read_tape {s s' : KS} {z z' : RS} {r1 r2 : Int32} (hI : InvK s) (hR : InvR z) (h0 : s.v 0 = z.v 2) (hb : ∀ i : Nat, (i : Int) < (s.v 0).toInt → s.f 1 i = z.f 1 i) (hW : KWR s z) (hs : kX4_readTape s = some (r1, s')) (hz : r_read z = some (r2, z')) : r1 = r2 ∧ s'.v 17 = z'.v 17 ∧ z'.g 9 = z.g 9 ∧ ((r1 = 0 ∧ s'.v 8 = z'.f 20 (z'.v 18).toNatClampNeg ∧ z'.v 51 = 0 ∧ (∀ j : Nat, j < 3 → z'.f 56 j = 0) ∧ s'.v 9 = z'.f 23 (z'.v 18).toNatClampNeg ∧ CT (z'.v 18).toNatClampNeg s' z' ∧ LAWF (z'.v 18).toNatClampNeg (s'.f 22) (s'.f 23) (s'.f 24) (s'.f 25) z') ∨ (¬ r1 = 0 ∧ z'.v 18 = z.v 18 ∧ z'.f 20 (z.v 18).toNatClampNeg = z.f 20 (z.v 18).toNatClampNeg ∧ z'.v 51 = z.v 51 ∧ z'.f 56 = z.f 56 ∧ (∀ j : Nat, j < 30 → z'.f 21 (30 * (z.v 18).toNatClampNeg + j) = z.f 21 (30 * (z.v 18).toNatClampNeg + j)) ∧ (∃ sd, (z.v 18).toNatClampNeg + sd = 1 ∧ Far sd z z'))) := by
  have b0 : 0 ≤ (s.v 0).toInt ∧ (s.v 0).toInt ≤ 2000 := hI.1 0
  -- the class begins
  unfold kX4_readTape at hs
  obtain ⟨s1, h1, hs⟩ := bindP_inv hs
  obtain ⟨s2, e2, hs⟩ := letS_inv hs
  obtain ⟨s4, e4, hs⟩ := letS_inv hs
  obtain ⟨s6, e6, hs⟩ := letS_inv hs
  obtain ⟨s8, e8, hs⟩ := letS_inv hs
  obtain ⟨s10, e10, hs⟩ := letS_inv hs
  obtain ⟨s12, h12, hs⟩ := bindP_inv hs
  obtain ⟨y1, q1, I1, F1⟩ := ok_kX5_clear s hI
  rw [h1] at q1
  cases q1
  have c89 : s1.v 8 = 0 ∧ s1.v 9 = 0 ∧ s1.v 11 = 0 ∧ CLR s1 := by
    unfold kX5_clear at h1
    obtain ⟨a1, d1, h1⟩ := letS_inv h1
    obtain ⟨a3, d3, h1⟩ := letS_inv h1
    obtain ⟨a5, d5, h1⟩ := letS_inv h1
    obtain ⟨a7, d7, h1⟩ := letS_inv h1
    rw [bindP_id] at h1
    have Ia : InvK a7 := by
      rw [← d7, ← d5, ← d3, ← d1]
      exact (((hI.sv (k := 8) (show (0 : Int) ≤ (0 : Int32).toInt by decide) (show (0 : Int32).toInt ≤ (5 : Int) by decide)).sv (k := 9) (show (0 : Int) ≤ (0 : Int32).toInt by decide) (show (0 : Int32).toInt ≤ (6 : Int) by decide)).svF (k := 10) rfl rfl).svF (k := 11) rfl rfl
    obtain ⟨y, q, _, F⟩ := ok_kX1_clear a7 Ia
    rw [h1] at q
    cases q
    refine ⟨?_, ?_, ?_, clear_eq h1⟩
    · rw [F.1 8 (by decide), ← d7, ← d5, ← d3, ← d1]; rfl
    · rw [F.1 9 (by decide), ← d7, ← d5, ← d3]; rfl
    · rw [F.1 11 (by decide), ← d7]; rfl
  have K10 : FrK [8, 9, 10, 11, 12, 13, 15, 16, 17, 18, 19, 122, 123, 124, 125] s s10 := by
    rw [← e10, ← e8, ← e6, ← e4, ← e2]
    exact (((((FrK.rfl.trans F1 (by decide)).sv (k := 15) (by decide)).sv (k := 16) (by decide)).sv (k := 17) (by decide)).sv (k := 18) (by decide)).sv (k := 19) (by decide)
  have I10 : InvK s10 := by
    rw [← e10, ← e8, ← e6, ← e4, ← e2]
    exact ((((I1.sv (k := 15) (show (0 : Int) ≤ (0 : Int32).toInt by decide) (show (0 : Int32).toInt ≤ (400 : Int) by decide)).svF (k := 16) rfl rfl).svF (k := 17) rfl rfl).svF (k := 18) rfl rfl).svF (k := 19) rfl rfl
  obtain ⟨y12, q12, I12, F12⟩ := ok_kX9_split s10 I10
  rw [h12] at q12
  cases q12
  have u8 : s12.v 8 = 0 := by rw [F12.1 8 (by decide), ← e10, ← e8, ← e6, ← e4, ← e2]; exact c89.1
  have u9 : s12.v 9 = 0 := by rw [F12.1 9 (by decide), ← e10, ← e8, ← e6, ← e4, ← e2]; exact c89.2.1
  have u11 : s12.v 11 = 0 := by rw [F12.1 11 (by decide), ← e10, ← e8, ← e6, ← e4, ← e2]; exact c89.2.2.1
  have uL : CLR s12 := by
    unfold CLR
    rw [F12.1 12 (by decide), (F12.2 22 (by decide)).1, (F12.2 23 (by decide)).1, (F12.2 24 (by decide)).1, (F12.2 25 (by decide)).1, ← e10, ← e8, ← e6, ← e4, ← e2]
    exact c89.2.2.2
  have u15 : s12.v 15 = 0 := by rw [F12.1 15 (by decide), ← e10, ← e8, ← e6, ← e4, ← e2]; rfl
  have u16 : s12.v 16 = 0 := by rw [F12.1 16 (by decide), ← e10, ← e8, ← e6, ← e4]; rfl
  have u18 : s12.v 18 = 0 := by rw [F12.1 18 (by decide), ← e10, ← e8]; rfl
  have u19 : s12.v 19 = -1 := by rw [F12.1 19 (by decide), ← e10]; rfl
  -- the reference begins
  unfold r_read at hz
  obtain ⟨z1, g1, hz⟩ := letS_inv hz
  have v41 : z1.v 4 = z.v 2 := by rw [← g1]; rfl
  have G1 : FrR [4] z z1 := by rw [← g1]; exact FrR.rfl.sv (by decide)
  have z0 : (0 : Int32).toInt = 0 := by decide
  have I1z : InvR z1 := by rw [← g1]; exact hR.sv (k := 4) (show (0 : Int) ≤ (z.v 2).toInt by rw [← h0]; exact b0.1) (show (z.v 2).toInt ≤ (2000 : Int) by rw [← h0]; exact b0.2)
  obtain ⟨u, hz, Iu, Gu, cp, _⟩ := copy_inv fu z1 0 (by decide) (by rw [v41, ← h0]; exact b0.2) I1z hz
  unfold rrest at hz
  obtain ⟨z2, g2, hz⟩ := letS_inv hz
  obtain ⟨z4, g4, hz⟩ := bindP_inv hz
  obtain ⟨z5, g5, hz⟩ := letS_inv hz
  obtain ⟨z7, g7, hz⟩ := letS_inv hz
  obtain ⟨z9, g9, hz⟩ := letS_inv hz
  obtain ⟨z11, g11, hz⟩ := letS_inv hz
  obtain ⟨z13, g13, hz⟩ := letS_inv hz
  obtain ⟨z15, g15, hz⟩ := bindP_inv hz
  obtain ⟨z16, g16, hz⟩ := letS_inv hz
  obtain ⟨z18, g18, hz⟩ := letS_inv hz
  have I2 : InvR z2 := by rw [← g2]; exact Iu.sv (k := 2) (show (0 : Int) ≤ (0 : Int32).toInt by decide) (show (0 : Int32).toInt ≤ (2000 : Int) by decide)
  have G2 : FrR [2, 4, 103] z z2 := by rw [← g2]; exact ((FrR.rfl.trans G1 (by decide)).trans Gu (by decide)).sv (k := 2) (by decide)
  obtain ⟨y4, q4, I4, F4⟩ := ok_cut z2 I2
  rw [g4] at q4
  cases q4
  have hTX : TX s10 z2 := by
    have a1 : s10.v 0 = s.v 0 := K10.1 0 (by decide)
    have a2 : s10.f 1 = s.f 1 := (K10.2 1 (by decide)).1
    have a3 : z2.v 4 = z.v 2 := by
      rw [← g2]
      show u.v 4 = _
      rw [Gu.1 4 (by decide)]
      exact v41
    refine ⟨by rw [a1, a3]; exact h0, by rw [a1]; exact b0.1, by rw [a1]; exact b0.2, fun i hi => ?_⟩
    rw [a1] at hi
    have a4 : z2.f 3 i = vp_nar .byte (z1.f 1 i) := by
      rw [← g2]
      exact cp i (by omega) (by rw [v41, ← h0]; exact hi)
    have a5 : z1.f 1 = z.f 1 := (G1.2 1 (by decide)).1
    rw [a2, a4, a5, nar255, hb i hi]
  have hKW : KWR s10 z2 := by
    unfold KWR
    rw [(K10.2 31 (by decide)).2, (G2.2 9 (by decide)).2]
    exact hW
  obtain ⟨N, hN, hTK⟩ := sim_tokens hTX hKW h12 g4
  have F13 : FrR [11, 12, 13, 15, 19] z4 z13 := by
    rw [← g13, ← g11, ← g9, ← g7, ← g5]
    exact ((((FrR.rfl.sv (k := 11) (by decide)).sv (k := 12) (by decide)).sv (k := 13) (by decide)).sv (k := 15) (by decide)).sv (k := 19) (by decide)
  have I11 : InvR z11 := by
    rw [← g11, ← g9, ← g7, ← g5]
    exact (((I4.sv (k := 11) (show (0 : Int) ≤ (0 : Int32).toInt by decide) (show (0 : Int32).toInt ≤ (400 : Int) by decide)).svF (k := 12) rfl rfl).sv (k := 13) (show (0 : Int) ≤ (0 : Int32).toInt by decide) (show (0 : Int32).toInt ≤ (2 : Int) by decide)).sv (k := 15) (show (0 : Int) ≤ (0 : Int32).toInt by decide) (show (0 : Int32).toInt ≤ (5 : Int) by decide)
  have h18 : 0 ≤ (z11.v 18).toInt ∧ (z11.v 18).toInt ≤ 1 := I11.1 18
  have a18 : (1 - (z11.v 18)).toInt = 1 - (z11.v 18).toInt := tn_sub (by decide) rfl (by omega) (by omega)
  have I13 : InvR z13 := by rw [← g13]; exact I11.sv (k := 19) (show (0 : Int) ≤ (1 - (z11.v 18)).toInt by omega) (show (1 - (z11.v 18)).toInt ≤ (1 : Int) by omega)
  have e19 : z13.v 19 = 1 - (z11.v 18) := by rw [← g13]; rfl
  have e18 : z13.v 18 = z11.v 18 := by rw [← g13]; rfl
  have e11 : z13.v 11 = 0 := by rw [← g13, ← g11, ← g9, ← g7, ← g5]; rfl
  have e12 : z13.v 12 = 0 := by rw [← g13, ← g11, ← g9, ← g7]; rfl
  have e13 : z13.v 13 = 0 := by rw [← g13, ← g11, ← g9]; rfl
  have e15 : z13.v 15 = 0 := by rw [← g13, ← g11]; rfl
  obtain ⟨sd, hsd⟩ : ∃ sd : Nat, (z13.v 19).toInt = (sd : Int) := ⟨(z13.v 19).toInt.toNat, by rw [e19]; omega⟩
  have hsd1 : sd ≤ 1 := by rw [e19] at hsd; omega
  have hl13 : (z13.v 18).toInt + (sd : Int) = 1 := by rw [e18, ← hsd, e19]; omega
  obtain ⟨y15, q15, I15, F15, R15, w15, l15⟩ := ok_plain sd z13 (z13.v 19) hsd1 hsd I13
  rw [g15] at q15
  cases q15
  have pl := plain_23 g15
  rw [clamp_of_int hsd] at pl
  have e1519 : z15.v 19 = z13.v 19 := F15.1 19 (by decide)
  have I16 : InvR z16 := by rw [← g16]; exact I15.svF (k := 29) rfl rfl
  have F16 : FrR [29] z15 z16 := by rw [← g16]; exact FrR.rfl.sv (k := 29) (by decide)
  have b1 : (130 * (z15.v 19)).toInt = (z15.v 19).toInt * 130 := ti_cmul (c := 130) (by decide) (by rw [e1519]; omega) (by rw [e1519]; omega)
  have e29 : z16.v 29 = 130 * (z15.v 19) := by rw [← g16]; rfl
  have e1619 : z16.v 19 = z15.v 19 := F16.1 19 (by decide)
  have I18 : InvR z18 := by rw [← g18]; exact I16.svF (k := 35) rfl rfl
  have F18 : FrR [35] z16 z18 := by rw [← g18]; exact FrR.rfl.sv (k := 35) (by decide)
  have b2 : (420 * (z16.v 19)).toInt = (z16.v 19).toInt * 420 := ti_cmul (c := 420) (by decide) (by rw [e1619, e1519]; omega) (by rw [e1619, e1519]; omega)
  have e35 : z18.v 35 = 420 * (z16.v 19) := by rw [← g18]; rfl
  have FA : FrR [29, 35] z15 z18 := (FrR.rfl.trans F16 (by decide)).trans F18 (by decide)
  have g (k : Nat) (hk : k ∉ [29, 35]) (hk2 : k ∉ [120, 123, 126, 127, 128]) : z18.v k = z13.v k := (FA.1 k hk).trans (F15.1 k hk2)
  have w11 : z18.v 11 = 0 := (g 11 (by decide) (by decide)).trans e11
  have w12 : z18.v 12 = 0 := (g 12 (by decide) (by decide)).trans e12
  have w13 : z18.v 13 = 0 := (g 13 (by decide) (by decide)).trans e13
  have w15' : z18.v 15 = 0 := (g 15 (by decide) (by decide)).trans e15
  have w19 : z18.v 19 = z13.v 19 := g 19 (by decide) (by decide)
  have w29 : z18.v 29 = 130 * (z15.v 19) := (F18.1 29 (by decide)).trans e29
  rw [e1519] at b1
  rw [e1619, e1519] at b2
  have L : LWS sd z18 0 0 := ⟨I18, by rw [w19]; exact hsd, hsd1, by rw [e35, e1619, e1519]; omega, by rw [w29, e1519]; omega, by rw [w12]; decide, by rw [w12]; decide, fun _ => by rw [w12]; decide, by rw [w11]; decide, fun _ => by rw [w11]; decide⟩
  have e20 : z18.f 20 = z15.f 20 := (FA.2 20 (by decide)).1
  have e23 : z18.f 23 = z15.f 23 := (FA.2 23 (by decide)).1
  have R : RD z18 sd 0 0 z18 := ⟨L, by omega, FrR.rfl, Far.rfl, fun _ => ⟨by rw [w11]; decide, fun k hk => Or.inl (by rw [(FA.2 27 (by decide)).1, (FA.2 28 (by decide)).1]; exact l15 k hk)⟩, fun _ _ w hw => by rw [e20] at hw; omega⟩
  have FZ : FrR [11, 12, 13, 15, 19, 29, 35, 120, 123, 126, 127, 128] z4 z18 := (((FrR.rfl.trans F13 (by decide)).trans F15 (by decide)).trans FA (by decide))
  have hML : ML N sd s12 z18 := by
    refine ⟨⟨u16, w13, by rw [u15, w11], by rw [u15]; decide, by rw [u15, z0]; omega, hN⟩, hTK.fr (FrK.rfl (W := [])) FZ (by decide) (by decide), ⟨by rw [u18, w15'], Or.inl ⟨w15', u19⟩⟩, w12, by rw [w19]; exact hsd, by rw [u8, e20, pl.1], by rw [u9, e23, pl.2.1], by rw [u8]; decide, by rw [u9]; decide, ?_, ⟨fun j hj => ?_, fun p hp => ?_, ?_, hsd1⟩, ?_⟩
    · intro p hp
      rw [u9, z0] at hp
      omega
    · rw [u8, z0] at hj
      omega
    · rw [u9, z0] at hp
      omega
    · rw [u11, (FA.2 26 (by decide)).1, pl.2.2]
    · have c4 := uL.1
      have q35 : (z18.v 35).toInt = ((420 * sd : Nat) : Int) := by rw [e35, e1619, e1519]; omega
      have q29 : (z18.v 29).toInt = ((130 * sd : Nat) : Int) := by rw [w29, e1519]; omega
      refine ⟨⟨by omega, by rw [u15, z0]; omega, by omega⟩, by omega, by omega, fun cl hcl => Or.inl ?_⟩
      obtain ⟨k1, k2, k3⟩ := uL.2 cl hcl
      refine ⟨?_, k1, k2, by omega⟩
      rw [(FA.2 27 (by decide)).1, (FA.2 28 (by decide)).1]
      exact l15 cl hcl
  obtain ⟨t, w, ht, hw, It, ⟨cc, bb, Rw⟩, hcase⟩ := sim_loop fu fu s12 z18 0 hML I12 ⟨0, 0, R⟩ (by decide) (by rw [u15]; decide) hs hz
  obtain ⟨er, ep, Ke, hr⟩ := sim_end It Rw hcase ht hw
  have FWq : FrR WRD z18 w := Rw.2.2.1
  have eg9 : w.g 9 = z.g 9 := by rw [(FWq.2 9 (by decide)).2, (FZ.2 9 (by decide)).2, (F4.2 9 (by decide)).2, (G2.2 9 (by decide)).2]
  refine ⟨er, ep, ?_, ?_⟩
  · rcases hr with ⟨_, _, _, _, _, Gf, _⟩ | ⟨_, Gf⟩
    · rw [(Gf.2 9 (by decide)).2, eg9]
    · rw [(Gf.2 9 (by decide)).2, eg9]
  have hwsd : (w.v 19).toInt = (sd : Int) := Rw.1.2.1
  rcases hr with ⟨r0, q8, q18, q51, q56, Gf, hM2⟩ | ⟨r0, Gf⟩
  · obtain ⟨_, _, _, _, _, _, m9, _, _, _, mCT, mLW⟩ := hM2
    have ec : (z'.v 18).toNatClampNeg = sd := by rw [q18]; exact clamp_of_int hwsd
    refine Or.inl ⟨r0, ?_, q51, q56, ?_, ?_, ?_⟩
    · rw [Ke.1 8 (by decide), q8, q18, (Gf.2 20 (by decide)).1, clamp_of_int hwsd]
    · rw [Ke.1 9 (by decide), m9, ec, (Gf.2 23 (by decide)).1]
    · rw [ec]
      exact mCT.keep (Ke.1 8 (by decide)) (Ke.1 9 (by decide)) (Ke.1 11 (by decide)) (Ke.2 16 (by decide)).1 (Ke.2 19 (by decide)).1 (Ke.2 20 (by decide)).1 (Gf.2 21 (by decide)).1 (Gf.2 24 (by decide)).1 (Gf.2 25 (by decide)).1 (Gf.2 26 (by decide)).1
    · rw [ec, (Ke.2 22 (by decide)).1, (Ke.2 23 (by decide)).1, (Ke.2 24 (by decide)).1, (Ke.2 25 (by decide)).1]
      have t12 : (t.v 12).toInt ≤ 404 := (It.1 12).2
      have w11q : (w.v 11).toInt ≤ 400 := (Rw.1.1.1 11).2
      have w35 := Rw.1.2.2.2.1
      have w29q := Rw.1.2.2.2.2.1
      have wc := Rw.1.2.2.2.2.2.2.2.2.1
      have wb := Rw.2.1
      have ew : (w.v 29).toInt.toNat = (w.v 29).toNatClampNeg := Int32.toNat_toInt _
      intro cl hcl
      exact (mLW.2.2.2 cl hcl).keep (fun _ _ => rfl) (fun _ _ _ => rfl) rfl rfl (fun i _ _ => by rw [es_fr Gf (by decide) (by decide)]) (fun i _ _ => SmB.fr Gf (by decide)) (by rw [(Gf.2 27 (by decide)).1]) (by rw [(Gf.2 28 (by decide)).1]) (by omega) (by omega) (by omega)
  · have FW : FrR WRD z18 w := Rw.2.2.1
    have far := Rw.2.2.2.1
    have lv : z18.v 18 = z.v 18 := by rw [FZ.1 18 (by decide), F4.1 18 (by decide), G2.1 18 (by decide)]
    have z18v : z18.v 18 = z13.v 18 := g 18 (by decide) (by decide)
    have nl : ¬ (z.v 18).toNatClampNeg = sd := fun q => by
      have hz18 : 0 ≤ (z.v 18).toInt ∧ (z.v 18).toInt ≤ 1 := hR.1 18
      have ec := clampI hz18.1
      rw [← z18v, lv] at hl13
      omega
    refine Or.inr ⟨r0, ?_, ?_, ?_, ?_, fun j hj => ?_, sd, ?_, ?_⟩
    · rw [Gf.1 18 (by decide), FW.1 18 (by decide), lv]
    · rw [(Gf.2 20 (by decide)).1, far.2.2.2.1 _ nl, e20, R15.2.2.2.1 _ nl, (F13.2 20 (by decide)).1, (F4.2 20 (by decide)).1, (G2.2 20 (by decide)).1]
    · rw [Gf.1 51 (by decide), FW.1 51 (by decide), FZ.1 51 (by decide), F4.1 51 (by decide), G2.1 51 (by decide)]
    · rw [(Gf.2 56 (by decide)).1, (FW.2 56 (by decide)).1, (FZ.2 56 (by decide)).1, (F4.2 56 (by decide)).1, (G2.2 56 (by decide)).1]
    · have hz18 : 0 ≤ (z.v 18).toInt ∧ (z.v 18).toInt ≤ 1 := hR.1 18
      have ec := clampI hz18.1
      rw [← z18v, lv] at hl13
      rw [(Gf.2 21 (by decide)).1, far.2.2.2.2 _ (by omega), (FA.2 21 (by decide)).1, (F15.2 21 (by decide)).1, (F13.2 21 (by decide)).1, (F4.2 21 (by decide)).1, (G2.2 21 (by decide)).1]
    · have hz18 : 0 ≤ (z.v 18).toInt ∧ (z.v 18).toInt ≤ 1 := hR.1 18
      have ec := clampI hz18.1
      rw [← z18v, lv] at hl13
      omega
    · exact (((((Far.fr2 G2 (by decide)).trans (Far.fr2 F4 (by decide))).trans (Far.fr2 F13 (by decide))).trans R15).trans (Far.fr2 FA (by decide))).trans (far.trans (Far.fr2 Gf (by decide)))
