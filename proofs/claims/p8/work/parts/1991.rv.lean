/-! ===== a text is read, both sides ===== -/
theorem read_rel {y y' : XS} {rr : Nat → SD} {z z' : RS} {r1 r2 : Int32} (hK : InvK y.k) (hI : InvR z) (hG : InvG y.g) (hT : TPk y.k z) (h : REL (YS.mk y rr) z) (h1 : kX10_read y = some (r1, y')) (h2 : r_read z = some (r2, z')) : REL (YS.mk y' rr) z' := by
  unfold kX10_read at h1
  replace h1 := bindI_inv h1
  obtain ⟨q2, s1, f1, h1⟩ := h1
  replace h1 := letS_inv h1
  obtain ⟨s3, d3, h1⟩ := h1
  replace h1 := letS_inv h1
  obtain ⟨s5, d5, h1⟩ := h1
  obtain ⟨⟨u1, w1⟩, e1, p1⟩ := ok_kX4_readTape y.k hK
  rw [f1] at e1
  cases e1
  have I1 : InvK s1 := p1.1
  have F1 : FrK [8, 9, 10, 11, 12, 13, 15, 16, 17, 18, 19, 20, 116, 117, 118, 119, 120, 122, 123, 124, 125, 129, 132, 133, 134] y.k s1 := p1.2.1
  obtain ⟨er, _, _, hr⟩ := read_tape hK hI hT.1.1 hT.1.2.2 hT.2.1 f1 h2
  obtain ⟨sd, u, e18, u19, h129, FR, FW⟩ := read_far hI h2
  have hend := r129_end h129
  have k5 : s5.k = s1.sv 0 0 := by rw [← d5, ← d3]; rfl
  have n5 : s5.n = y.n := by rw [← d5, ← d3]; rfl
  have g5 : s5.g = y.g := by rw [← d5, ← d3]; rfl
  have I5 : InvK s5.k := by
    rw [k5]
    exact I1.sv (k := 0) (show (0 : Int) ≤ (0 : Int32).toInt by decide) (show (0 : Int32).toInt ≤ (2000 : Int) by decide)
  have hz0 : (0 : Int32).toInt = 0 := by decide
  obtain ⟨hS, ⟨hN, hF⟩, hH, hL, hTe⟩ := h
  by_cases c : q2 = 0
  · rw [if_pos c] at h1
    replace h1 := bindP_inv h1
    obtain ⟨s8, h8, h1⟩ := h1
    obtain ⟨w8, e8, p8⟩ := ok_kX5_copyFrom s5.k I5
    rw [h8] at e8
    cases e8
    replace h1 := letS_inv h1
    obtain ⟨s9, e9, h1⟩ := h1
    replace h1 := bindP_inv h1
    obtain ⟨s11, h11, h1⟩ := h1
    replace h1 := letS_inv h1
    obtain ⟨s12, e12, h1⟩ := h1
    replace h1 := bindP_inv h1
    obtain ⟨s14, h14, h1⟩ := h1
    replace h1 := letS_inv h1
    obtain ⟨s15, e15, h1⟩ := h1
    replace h1 := letS_inv h1
    obtain ⟨s17, e17, h1⟩ := h1
    have kk : s17.k = s8.sv 21 0 := by rw [← e17, ← e15, ← e12, ← e9]; rfl
    have nn : s17.n = s11 := by rw [← e17, ← e15, ← e12]; rfl
    have gg : s17.g = s14 := by rw [← e17, ← e15]; rfl
    have ey : y' = s17 := by cases h1; rfl
    have n9 : s12.g = y.g := by rw [← e12, ← e9]; exact g5
    rw [n9] at h14
    rcases hr with ⟨_, g8, g51, g56, g9, gCT, gLF⟩ | ⟨n0, _⟩
    · rcases hend with ⟨b0, _⟩ | ⟨_, Gz, e18z, _, e48, e43, e46⟩
      · exact absurd (er.symm.trans c) b0
      have C := copy_all h8
      have A : ADD s1 := by
        have f1 := f1
        rw [c] at f1
        exact read_add I1 f1
      have b8 : 0 ≤ (s1.v 8).toInt ∧ (s1.v 8).toInt ≤ 5 := I1.1 8
      have b9 : 0 ≤ (s1.v 9).toInt ∧ (s1.v 9).toInt ≤ 6 := I1.1 9
      have O := over_eq h11
      have G := forgot_eq h14
      obtain ⟨⟨c1, c2, c3, c4⟩, cf3, cf4, cf6, cf9, cf10, cf11⟩ := C
      rw [k5] at c1 c2 c3 c4
      have c1 : s8.v 1 = s1.v 8 := c1
      have c2 : s8.v 2 = s1.v 9 := c2
      have c3 : s8.v 3 = s1.v 10 := c3
      have c4 : s8.v 4 = s1.v 11 := c4
      have q3 : ∀ j, j < 30 → s8.f 3 j = s1.f 16 j := fun j hj => by rw [cf3 j hj, k5]; rfl
      have q4 : ∀ w, w < 5 → s8.f 4 w = s1.f 17 w ∧ s8.f 5 w = s1.f 18 w := fun w hw => by rw [(cf4 w hw).1, (cf4 w hw).2, k5]; exact ⟨rfl, rfl⟩
      have q6 : ∀ p, p < 6 → s8.f 6 p = s1.f 19 p ∧ s8.f 7 p = s1.f 20 p := fun p hp => by rw [(cf6 p hp).1, (cf6 p hp).2, k5]; exact ⟨rfl, rfl⟩
      have q9 : ∀ i, i < 404 → s8.f 9 i = s1.f 22 i := fun i hi => by rw [cf9 i hi, k5]; rfl
      have q10 : ∀ i, i < 52 → s8.f 10 i = s1.f 23 i := fun i hi => by rw [cf10 i hi, k5]; rfl
      have q11 : ∀ i, i < 4 → s8.f 11 i = s1.f 24 i ∧ s8.f 12 i = s1.f 25 i := fun i hi => by rw [(cf11 i hi).1, (cf11 i hi).2, k5]; exact ⟨rfl, rfl⟩
      have I17 : InvK s17.k := by
        rw [kk]
        exact p8.1.sv (k := 21) (show (0 : Int) ≤ (0 : Int32).toInt by decide) (show (0 : Int32).toInt ≤ (20 : Int) by decide)
      rw [ey]
      refine ⟨?_, ⟨?_, ?_⟩, ?_, ?_, ?_⟩
      · show SO s17.k z'
        rw [kk]
        refine ⟨⟨?_, ?_, ?_, ?_⟩, e46, fun j hj => ?_, fun p hp => ?_, fun w hw => ?_, fun cl hcl => ?_⟩
        · exact c1.trans g8
        · exact c2.trans g9
        · exact c4.trans gCT.2.2.1
        · show s8.v 3 = six6 (s8.v 1).toNatClampNeg
          rw [c3, c1]
          exact A.1
        · have hj : (j : Int) < 6 * (s8.v 1).toInt := hj
          rw [c1] at hj
          show s8.f 3 j = _
          rw [q3 j (by omega)]
          exact gCT.1 j hj
        · have hp : (p : Int) < (s8.v 2).toInt := hp
          rw [c2] at hp
          show s8.f 6 p = _ ∧ s8.f 7 p = _
          rw [(q6 p (by omega)).1, (q6 p (by omega)).2]
          exact gCT.2.1 p hp
        · have hw : (w : Int) < (s8.v 1).toInt := hw
          rw [c1] at hw
          show s8.f 4 w = sms (s8.f 3) (6 * w) 6 ∧ s8.f 5 w = lks (s8.f 3) (6 * w) 6
          rw [(q4 w (by omega)).1, (q4 w (by omega)).2, (A.2 w hw).1, (A.2 w hw).2]
          exact ⟨(sms_cg 6 (fun v hv => q3 _ (by omega))).symm, (lks_cg 6 (fun v hv => q3 _ (by omega))).symm⟩
        · exact (gLF cl hcl).keep (fun i hi => q9 i (by omega)) (fun i _ hi => q10 i (by omega)) (q11 cl hcl).1 (q11 cl hcl).2 (fun _ _ _ => rfl) (fun _ _ _ => ⟨rfl, rfl, rfl, rfl, rfl⟩) rfl rfl (Int.le_refl _) (Int.le_refl _) (Nat.le_refl _)
      · show SR s17.n (z'.f 43)
        rw [nn]
        exact O.sr e43
      · show FO s17.k s17.n
        rw [nn]
        exact O.fo I17
      · show HIS (YS.mk s17 rr) z'
        have bg : 0 ≤ (y.g.v 3).toInt ∧ (y.g.v 3).toInt ≤ 39 := hG.1 3
        refine ⟨?_, ?_, fun i hi => ?_⟩
        · show s17.g.v 4 = z'.v 48
          rw [gg, G.1, e48]
        · show 0 ≤ (s17.g.v 3).toInt ∧ (s17.g.v 3).toInt ≤ 39
          rw [gg, G.2.1]
          exact bg
        · rw [e48, hz0] at hi
          omega
      · show SLT (YS.mk s17 rr) z'
        intro s hs
        refine ⟨?_, fun n0 => absurd (g56 s hs) n0⟩
        show s17.g.f 4 s = z'.f 56 s
        rw [gg, G.2.2 s hs, g56 s hs]
      · show TEL s17.k z'
        intro i hi
        rw [kk] at hi
        have hi : (i : Int) < (0 : Int32).toInt := hi
        rw [hz0] at hi
        omega
    · exact absurd c n0
  · rw [if_neg c] at h1
    have ey : y' = s5 := by cases h1; rfl
    rcases hr with ⟨n0, _⟩ | ⟨_, g18, g20, _, g56, g21, sd2, hl2, far⟩
    · exact absurd n0 c
    rcases hend with ⟨_, Gz⟩ | ⟨r0, _⟩
    · have FZ : FrR (17 :: WFT) z z' := (FrR.rfl.trans FW (by decide)).trans Gz (by decide)
      have K5 : FrK [0, 8, 9, 10, 11, 12, 13, 15, 16, 17, 18, 19, 20, 116, 117, 118, 119, 120, 122, 123, 124, 125, 129, 132, 133, 134] y.k s5.k := by
        rw [k5]
        exact (FrK.rfl.trans F1 (by decide)).sv (by decide)
      have bl : 0 ≤ (z.v 18).toInt ∧ (z.v 18).toInt ≤ 1 := hI.1 18
      have bw : 0 ≤ (y.k.v 1).toInt ∧ (y.k.v 1).toInt ≤ 5 := hK.1 1
      have bp : 0 ≤ (y.k.v 2).toInt ∧ (y.k.v 2).toInt ≤ 6 := hK.1 2
      obtain ⟨⟨a1, a2, a3, a4⟩, a5, a6, a7, a8, a9⟩ := hS
      have a1 : y.k.v 1 = z.f 20 (z.v 18).toNatClampNeg := a1
      have a2 : y.k.v 2 = z.f 23 (z.v 18).toNatClampNeg := a2
      have a3 : y.k.v 4 = z.f 26 (z.v 18).toNatClampNeg := a3
      have a4 : y.k.v 3 = six6 (y.k.v 1).toNatClampNeg := a4
      have a9 : LAWF (z.v 18).toNatClampNeg (y.k.f 9) (y.k.f 10) (y.k.f 11) (y.k.f 12) z := a9
      have fo : ∀ d, FO y.k d → FO s5.k d := fun d hd => hd.fr K5 (by decide)
      have z23 := FR.1 (z.v 18).toNatClampNeg (by omega)
      have x23 : z'.f 23 (z.v 18).toNatClampNeg = z.f 23 (z.v 18).toNatClampNeg ∧ z'.f 26 (z.v 18).toNatClampNeg = z.f 26 (z.v 18).toNatClampNeg := by
        rw [(Gz.2 23 (by decide)).1, (Gz.2 26 (by decide)).1]
        exact z23
      rw [ey]
      refine ⟨?_, ⟨?_, ?_⟩, ?_, ?_, ?_⟩
      · show SO s5.k z'
        unfold SO OD7
        rw [K5.1 1 (by decide), K5.1 2 (by decide), K5.1 3 (by decide), K5.1 4 (by decide), (K5.2 3 (by decide)).1, (K5.2 4 (by decide)).1, (K5.2 5 (by decide)).1, (K5.2 6 (by decide)).1, (K5.2 7 (by decide)).1, (K5.2 9 (by decide)).1, (K5.2 10 (by decide)).1, (K5.2 11 (by decide)).1, (K5.2 12 (by decide)).1, g18]
        refine ⟨⟨?_, ?_, ?_, a4⟩, fun j hj => ?_, fun j hj => ?_, fun p hp => ?_, a8, ?_⟩
        · rw [g20]; exact a1
        · rw [x23.1]; exact a2
        · rw [x23.2]; exact a3
        · rw [(FZ.2 46 (by decide)).1]; exact a5 j hj
        · rw [g21 j (by omega)]
          exact a6 j hj
        · have w := FR.2 (6 * (z.v 18).toNatClampNeg + p) (by omega)
          rw [(Gz.2 24 (by decide)).1, (Gz.2 25 (by decide)).1, w.1, w.2]
          exact a7 p hp
        · exact a9.far hl2 far
      · show SR s5.n (z'.f 43)
        rw [n5, (FZ.2 43 (by decide)).1]
        exact hN
      · show FO s5.k s5.n
        rw [n5]
        exact fo _ hF
      · show HIS (YS.mk s5 rr) z'
        have hH2 : HIS (YS.mk y rr) z' := by
          unfold HIS
          rw [FZ.1 48 (by decide), (FZ.2 49 (by decide)).1]
          exact hH
        exact hH2.on g5 fo
      · show SLT (YS.mk s5 rr) z'
        have hL2 : SLT (YS.mk y rr) z' := by
          unfold SLT
          rw [(FZ.2 56 (by decide)).1, (FZ.2 57 (by decide)).1]
          exact hL
        exact hL2.on g5 fo
      · show TEL s5.k z'
        exact TEL.fr hTe K5 FZ (by decide) (by decide)
    · exact absurd (er.trans r0) c
/-- what is told -/
theorem nar_bool : vp_nar .boolean 1 = 1 := by decide
theorem TEL.put {k k' : KS} {z z' : RS} {i : Nat} {xw xt xs xb : Int32} (h : TEL k z) (hi : (k.v 21).toInt = (i : Int)) (hi20 : i < 20) (h21 : (k'.v 21).toInt = ((i + 1 : Nat) : Int)) (e1 : k'.v 1 = k.v 1) (f42 : ∀ j, k'.f 42 j = if j = i then xw else k.f 42 j) (f43 : ∀ j, k'.f 43 j = if j = i then xs else k.f 43 j) (g52 : ∀ j, z'.f 52 j = if j = i then xw else z.f 52 j) (g53 : ∀ j, z'.f 53 j = if j = i then xt else z.f 53 j) (g54 : ∀ j, z'.f 54 j = if j = i then xb else z.f 54 j) (hw : 0 ≤ xw.toInt ∧ xw.toInt < (k.v 1).toInt) (ht : 1 ≤ xt.toInt ∧ xt.toInt ≤ 63) (hb : (xb = 1 ∧ xs = xt) ∨ (xb = 0 ∧ xs = 63 &&& (xt ^^^ (-1)))) : TEL k' z' := by
  intro j hj
  rw [h21] at hj
  rw [f42 j, f43 j, g52 j, g53 j, g54 j, e1]
  by_cases e : j = i
  · rw [if_pos e, if_pos e, if_pos e, if_pos e, if_pos e]
    exact ⟨rfl, hw.1, hw.2, ht, hb⟩
  · rw [if_neg e, if_neg e, if_neg e, if_neg e, if_neg e]
    exact h j (by omega)
theorem tell_tel {y y' : XS} {z z' : RS} {x1 x2 x3 r1 r2 : Int32} (hK : InvK y.k) (hR : InvR z) (h : TPk y.k z) (hTe : TEL y.k z) (hb : x3 = 0 ∨ x3 = 1) (h1 : kX10_tell y x1 x2 x3 = some (r1, y')) (h2 : r_tell z x1 x2 x3 = some (r2, z')) : TEL y'.k z' := by
  have bt : 0 ≤ (y.k.v 21).toInt ∧ (y.k.v 21).toInt ≤ 20 := hK.1 21
  have bw : 0 ≤ (y.k.v 1).toInt ∧ (y.k.v 1).toInt ≤ 5 := hK.1 1
  have ew : y.k.v 1 = z.f 20 (z.v 18).toNatClampNeg := h.2.2.2.1
  have et : y.k.v 21 = z.v 51 := h.2.2.2.2.1
  unfold kX10_tell at h1
  unfold r_tell at h2
  by_cases hw : 0 ≤ x1.toInt ∧ x1.toInt < (y.k.v 1).toInt
  · rw [kw_yes hw.1 hw.2, bindI_some] at h1
    replace h1 := letS_inv h1
    obtain ⟨s3, d3, h1⟩ := h1
    have k3 : s3.k = y.k := by rw [← d3]; rfl
    rw [if_neg z_one] at h1
    have hz := rw_yes (z := z) (x := x1) hR (by rw [← ew]; exact bw.2) hw.1 (by rw [← ew]; exact hw.2)
    by_cases hx : 1 ≤ x2.toInt ∧ x2.toInt ≤ 63
    · have q1 : ¬ x2 < 1 := fun q => by
        have := tn_lt (b := 1) rfl (by decide) q
        omega
      have q2 : x2 ≤ 63 := Int32.le_iff_toInt_le.mpr (by rw [show (63 : Int32).toInt = 63 from by decide]; exact hx.2)
      have q3 : ¬ 63 < x2 := fun q => by
        have := tn_lt (a := 63) (by decide) rfl q
        omega
      rw [if_neg q1, if_pos q2] at h1
      have h1 : ∃ t, ((vp_nar .boolean x3 = 1 ∧ t = x2) ∨ (vp_nar .boolean x3 = 0 ∧ t = 63 &&& (x2 ^^^ (-1)))) ∧ kX10_tell_43 s3 t x1 = some (r1, y') := by
        by_cases c : x3 = 0
        · rw [if_pos c] at h1; exact ⟨_, Or.inr ⟨by rw [c]; exact nar0, rfl⟩, h1⟩
        · rw [if_neg c] at h1
          rcases hb with q | q
          · exact absurd q c
          · exact ⟨_, Or.inl ⟨by rw [q]; exact nar_bool, rfl⟩, h1⟩
      obtain ⟨t, htb, h1⟩ := h1
      unfold kX10_tell_43 kX8_add at h1
      rw [k3] at h1
      by_cases ct : y.k.v 21 = 20
      · have n : ¬ y.k.v 21 < 20 := by rw [ct]; decide
        rw [if_neg n, bindI_some] at h1
        replace h1 := letS_inv h1
        obtain ⟨s4, d4, h1⟩ := h1
        cases h1
        rw [if_pos (et.symm.trans ct)] at h2
        cases h2
        rw [← d4]
        exact hTe
      · have ct' := tn_ne (b := 20) rfl (by decide) ct
        have n : y.k.v 21 < 20 := Int32.lt_iff_toInt_lt.mpr (by rw [show (20 : Int32).toInt = 20 from by decide]; omega)
        have n5 : ¬ z.v 51 = 20 := by rw [← et]; exact ct
        rw [if_pos n] at h1
        replace h1 := bindI_inv h1
        obtain ⟨q, s1, hq, h1⟩ := h1
        replace hq := guard_inv hq
        obtain ⟨_, hq⟩ := hq
        replace hq := letS_inv hq
        obtain ⟨u3, e3, hq⟩ := hq
        replace hq := guard_inv hq
        obtain ⟨_, hq⟩ := hq
        replace hq := letS_inv hq
        obtain ⟨u6, e6, hq⟩ := hq
        replace hq := letS_inv hq
        obtain ⟨u8, e8, hq⟩ := hq
        have v1 : u8.v 21 = (y.k.v 21) + 1 := by rw [← e8, ← e6, ← e3]; rfl
        have eq : q = (u8.v 21) - 1 ∧ s1 = u8 := by cases hq; exact ⟨rfl, rfl⟩
        replace h1 := letS_inv h1
        obtain ⟨s4, d4, h1⟩ := h1
        have ey : r1 = q ∧ y' = s4 := by cases h1; exact ⟨rfl, rfl⟩
        rw [if_neg n5, hz, bindI_some, if_neg z_one] at h2
        unfold r_in at h2
        rw [if_neg q1, if_neg q3, bindP_some, if_neg z_one] at h2
        replace h2 := guard_inv h2
        obtain ⟨_, h2⟩ := h2
        replace h2 := letS_inv h2
        obtain ⟨w8, f8, h2⟩ := h2
        replace h2 := guard_inv h2
        obtain ⟨_, h2⟩ := h2
        replace h2 := letS_inv h2
        obtain ⟨w11, f11, h2⟩ := h2
        replace h2 := guard_inv h2
        obtain ⟨_, h2⟩ := h2
        replace h2 := letS_inv h2
        obtain ⟨w14, f14, h2⟩ := h2
        replace h2 := letS_inv h2
        obtain ⟨w16, f16, h2⟩ := h2
        have v2 : w16.v 51 = (z.v 51) + 1 := by rw [← f16, ← f14, ← f11, ← f8]; rfl
        have ez : r2 = (w16.v 51) - 1 ∧ z' = w16 := by cases h2; exact ⟨rfl, rfl⟩
        obtain ⟨i, hi⟩ : ∃ i : Nat, (y.k.v 21).toInt = (i : Int) := ⟨(y.k.v 21).toInt.toNat, by omega⟩
        have hi5 : (z.v 51).toInt = (i : Int) := by rw [← et]; exact hi
        have c3 : (u3.v 21).toNatClampNeg = i := by rw [← e3]; exact clamp_of_int hi
        have c8 : (w8.v 51).toNatClampNeg = i := by rw [← f8]; exact clamp_of_int hi5
        have c11 : (w11.v 51).toNatClampNeg = i := by rw [← f11]; exact c8
        rw [clamp_of_int hi] at e3
        rw [c3] at e6
        rw [clamp_of_int hi5] at f8
        rw [c8] at f11
        rw [c11] at f14
        have ky : y'.k = u8 := by rw [ey.2, ← d4]; exact eq.2
        rw [ky, ez.2]
        refine TEL.put (xw := x1) (xt := x2) (xs := t) (xb := vp_nar .boolean x3) hTe hi (by omega) ?_ ?_ (fun j => ?_) (fun j => ?_) (fun j => ?_) (fun j => ?_) (fun j => ?_) hw hx htb
        · rw [v1, tn_add hi (by decide : (1 : Int32).toInt = 1) (by omega) (by omega)]
          omega
        · rw [← e8, ← e6, ← e3]; rfl
        · rw [← e8, ← e6]
          show u3.f 42 j = _
          rw [← e3]
          exact ksf_at
        · rw [← e8]
          show u6.f 43 j = _
          rw [← e6, ← e3]
          exact ksf_at
        · rw [← f16, ← f14, ← f11]
          show w8.f 52 j = _
          rw [← f8]
          exact rsf_at
        · rw [← f16, ← f14]
          show w11.f 53 j = _
          rw [← f11, ← f8]
          exact rsf_at
        · rw [← f16]
          show w14.f 54 j = _
          rw [← f14, ← f11, ← f8]
          exact rsf_at
    · have h1 : y'.k = y.k ∧ r1 = -1 := by
        by_cases q1 : x2 < 1
        · rw [if_pos q1] at h1
          cases h1
          exact ⟨k3, rfl⟩
        · have q1' := tn_nlt (b := 1) rfl (by decide) q1
          have q2 : ¬ x2 ≤ 63 := fun q => by
            have := tn_le (b := 63) rfl (by decide) q
            omega
          rw [if_neg q1, if_neg q2] at h1
          cases h1
          exact ⟨k3, rfl⟩
      have h2 : z' = z ∧ r2 = -1 := by
        by_cases ct : z.v 51 = 20
        · rw [if_pos ct] at h2
          cases h2
          exact ⟨rfl, rfl⟩
        · rw [if_neg ct, hz, bindI_some, if_neg z_one] at h2
          unfold r_in at h2
          by_cases q1 : x2 < 1
          · rw [if_pos q1, bindP_some, if_pos rfl] at h2
            cases h2
            exact ⟨rfl, rfl⟩
          · have q1' := tn_nlt (b := 1) rfl (by decide) q1
            have q3 : 63 < x2 := Int32.lt_iff_toInt_lt.mpr (by rw [show (63 : Int32).toInt = 63 from by decide]; omega)
            rw [if_neg q1, if_pos q3, bindP_some, if_pos rfl] at h2
            cases h2
            exact ⟨rfl, rfl⟩
      rw [h1.1, h2.1]
      exact hTe
  · rw [kw_no hw, bindI_some] at h1
    replace h1 := letS_inv h1
    obtain ⟨s3, d3, h1⟩ := h1
    rw [if_pos rfl] at h1
    cases h1
    have hz := rw_no (z := z) (x := x1) hR (by rw [← ew]; exact bw.1) (by rw [← ew]; exact bw.2) (by rw [← ew]; exact hw)
    have h2 : z' = z ∧ r2 = -1 := by
      by_cases ct : z.v 51 = 20
      · rw [if_pos ct] at h2
        cases h2
        exact ⟨rfl, rfl⟩
      · rw [if_neg ct, hz, bindI_some, if_pos rfl] at h2
        cases h2
        exact ⟨rfl, rfl⟩
    rw [h2.1, ← d3]
    exact hTe
/-- all but what is told is as it was -/
theorem REL.keepT {y : YS} {x' : XS} {z z' : RS} {W W' : List Nat} (h : REL y z) (eg : x'.g = y.x.g) (en : x'.n = y.x.n) (K : FrK W y.x.k x'.k) (G : FrR W' z z') (hW : ((1 ∉ W ∧ 2 ∉ W ∧ 3 ∉ W ∧ 4 ∉ W) ∧ (103 ∉ W ∧ 104 ∉ W ∧ 105 ∉ W ∧ 106 ∉ W ∧ 107 ∉ W) ∧ (109 ∉ W ∧ 110 ∉ W ∧ 111 ∉ W ∧ 112 ∉ W))) (hW' : ((18 ∉ W' ∧ 120 ∉ W' ∧ 121 ∉ W' ∧ 123 ∉ W' ∧ 124 ∉ W' ∧ 125 ∉ W' ∧ 126 ∉ W' ∧ 146 ∉ W') ∧ ((127 ∉ W' ∧ 128 ∉ W') ∧ (130 ∉ W' ∧ 131 ∉ W' ∧ 132 ∉ W' ∧ 133 ∉ W' ∧ 134 ∉ W') ∧ 136 ∉ W' ∧ 137 ∉ W')) ∧ (48 ∉ W' ∧ 143 ∉ W' ∧ 149 ∉ W' ∧ 156 ∉ W' ∧ 157 ∉ W')) (hT : TEL x'.k z') : REL (YS.mk x' y.r) z' := by
  obtain ⟨a1, ⟨a2, a3⟩, a4, a5, a6⟩ := h
  obtain ⟨u0, u48, u43, u49, u56, u57⟩ := hW'
  have fo : ∀ d, FO y.x.k d → FO x'.k d := fun d q => q.fr K ⟨hW.1.1, hW.2.1.1⟩
  refine ⟨a1.fr K G hW u0, ⟨?_, ?_⟩, ?_, ?_, hT⟩
  · show SR x'.n _
    rw [en, (G.2 43 u43).1]
    exact a2
  · show FO x'.k x'.n
    rw [en]
    exact fo _ a3
  · unfold HIS
    show x'.g.v 4 = z'.v 48 ∧ (0 ≤ (x'.g.v 3).toInt ∧ (x'.g.v 3).toInt ≤ 39) ∧ (∀ i : Nat, (i : Int) < (z'.v 48).toInt → SR (y.r (((x'.g.v 3).toNatClampNeg + i) % 40)) (fun j => z'.f 49 (29 * i + j)) ∧ FO x'.k (y.r (((x'.g.v 3).toNatClampNeg + i) % 40)))
    rw [eg, G.1 48 u48, (G.2 49 u49).1]
    exact ⟨a4.1, a4.2.1, fun i hi => ⟨(a4.2.2 i hi).1, fo _ (a4.2.2 i hi).2⟩⟩
  · intro s hs
    show x'.g.f 4 s = z'.f 56 s ∧ (¬ z'.f 56 s = 0 → SR (y.r (40 + s)) (fun j => z'.f 57 (29 * s + j)) ∧ FO x'.k (y.r (40 + s)))
    rw [eg, (G.2 56 u56).1, (G.2 57 u57).1]
    exact ⟨(a5 s hs).1, fun q => ⟨((a5 s hs).2 q).1, fo _ ((a5 s hs).2 q).2⟩⟩
theorem TEL.none {k : KS} {z : RS} (h : (k.v 21).toInt = 0) : TEL k z := fun i hi => by
  rw [h] at hi
  omega
