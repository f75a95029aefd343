/-! ===== what is done by hand ===== -/
theorem HIS.on {x x' : XS} {r : Nat → SD} {z : RS} (h : HIS (YS.mk x r) z) (eg : x'.g = x.g) (ek : ∀ d, FO x.k d → FO x'.k d) : HIS (YS.mk x' r) z := by
  obtain ⟨a1, a2, a3⟩ := h
  have a1 : x.g.v 4 = z.v 48 := a1
  have a2 : 0 ≤ (x.g.v 3).toInt ∧ (x.g.v 3).toInt ≤ 39 := a2
  refine ⟨?_, ?_, fun i hi => ?_⟩
  · show x'.g.v 4 = _
    rw [eg]; exact a1
  · show 0 ≤ (x'.g.v 3).toInt ∧ (x'.g.v 3).toInt ≤ 39
    rw [eg]; exact a2
  · show SR (r (((x'.g.v 3).toNatClampNeg + i) % 40)) _ ∧ FO x'.k (r (((x'.g.v 3).toNatClampNeg + i) % 40))
    rw [eg]
    have o : SR (r (((x.g.v 3).toNatClampNeg + i) % 40)) (fun j => z.f 49 (29 * i + j)) ∧ FO x.k (r (((x.g.v 3).toNatClampNeg + i) % 40)) := a3 i hi
    exact ⟨o.1, ek _ o.2⟩
theorem SLT.on {x x' : XS} {r : Nat → SD} {z : RS} (h : SLT (YS.mk x r) z) (eg : x'.g = x.g) (ek : ∀ d, FO x.k d → FO x'.k d) : SLT (YS.mk x' r) z := by
  intro s hs
  show x'.g.f 4 s = z.f 56 s ∧ (¬ z.f 56 s = 0 → SR (r (40 + s)) (fun j => z.f 57 (29 * s + j)) ∧ FO x'.k (r (40 + s)))
  rw [eg]
  have o : x.g.f 4 s = z.f 56 s ∧ (¬ z.f 56 s = 0 → SR (r (40 + s)) (fun j => z.f 57 (29 * s + j)) ∧ FO x.k (r (40 + s))) := h s hs
  exact ⟨o.1, fun q => ⟨(o.2 q).1, ek _ (o.2 q).2⟩⟩
theorem TEL.fr {k k' : KS} {z z' : RS} {W W' : List Nat} (h : TEL k z) (K : FrK W k k') (G : FrR W' z z') (hW : 1 ∉ W ∧ 21 ∉ W ∧ 142 ∉ W ∧ 143 ∉ W) (hW' : 152 ∉ W' ∧ 153 ∉ W' ∧ 154 ∉ W') : TEL k' z' := by
  unfold TEL
  rw [K.1 21 hW.2.1, K.1 1 hW.1, (K.2 42 hW.2.2.1).1, (K.2 43 hW.2.2.2).1, (G.2 52 hW'.1).1, (G.2 53 hW'.2.1).1, (G.2 54 hW'.2.2).1]
  exact h
theorem kh_eq {x : XS} {x1 : Int32} {p : Nat} (hK : InvK x.k) (e1 : x1.toInt = (p : Int)) (hp : (p : Int) < (x.k.v 2).toInt) : kX10_isHere x x1 = some ((if x.n.f 3 p = 0 then 1 else 0), x) := by
  have bp : 0 ≤ (x.k.v 2).toInt ∧ (x.k.v 2).toInt ≤ 6 := hK.1 2
  unfold kX10_isHere
  rw [kp_yes (by omega) (by omega), bindI_some]
  show (if (1 : Int32) = 0 then some ((0 : Int32), x) else if vpb x1 6 = true then (if x.n.f 3 x1.toNatClampNeg = 0 then some ((1 : Int32), x) else some ((0 : Int32), x)) else none) = _
  rw [if_neg z_one, if_pos (vpb_ok (by omega) (by omega)), clamp_of_int e1]
  by_cases c : x.n.f 3 p = 0
  · rw [if_pos c, if_pos c]
  · rw [if_neg c, if_neg c]
theorem kh_no {x : XS} {x1 : Int32} (h : ¬ (0 ≤ x1.toInt ∧ x1.toInt < (x.k.v 2).toInt)) : kX10_isHere x x1 = some (0, x) := by
  unfold kX10_isHere
  rw [kp_no h, bindI_some]
  show (if (0 : Int32) = 0 then some ((0 : Int32), x) else if vpb x1 6 = true then (if x.n.f 3 x1.toNatClampNeg = 0 then some ((1 : Int32), x) else some ((0 : Int32), x)) else none) = _
  rw [if_pos rfl]
theorem rh_eq {z : RS} {x1 : Int32} {p : Nat} (hI : InvR z) (e1 : x1.toInt = (p : Int)) (hp : (p : Int) < (z.f 23 (z.v 18).toNatClampNeg).toInt) : r_isHere z x1 = some ((if z.f 43 (15 + p) = 0 then 1 else 0), z) := by
  have c : 0 ≤ (z.f 23 (z.v 18).toNatClampNeg).toInt ∧ (z.f 23 (z.v 18).toNatClampNeg).toInt ≤ 6 := hI.2 23 _
  have a15 : (15 + x1).toInt = ((15 + p : Nat) : Int) := by
    rw [tn_add (by decide : (15 : Int32).toInt = 15) e1 (by omega) (by omega)]
    omega
  unfold r_isHere
  rw [rp_eq hI, bindI_some, if_pos (show 0 ≤ x1.toInt ∧ x1.toInt < (z.f 23 (z.v 18).toNatClampNeg).toInt from ⟨by omega, by omega⟩), if_neg z_one, if_pos (vpb_ok (by omega) (by omega)), clamp_of_int a15]
  by_cases d : z.f 43 (15 + p) = 0
  · rw [if_pos d, if_pos d]
  · rw [if_neg d, if_neg d]
theorem rh_no {z : RS} {x1 : Int32} (hI : InvR z) (h : ¬ (0 ≤ x1.toInt ∧ x1.toInt < (z.f 23 (z.v 18).toNatClampNeg).toInt)) : r_isHere z x1 = some (0, z) := by
  unfold r_isHere
  rw [rp_eq hI, bindI_some, if_neg h, if_pos rfl]
/-- a new standing, both having remembered the old one -/
theorem REL.done {y : YS} {p' : PS} {z z2 z3 : RS} {k' : KS} {d' t' : SD} {W : List Nat} (h : REL y z) (hK : InvK y.x.k) (hI : InvR z) (hG : InvG y.x.g) (K : FrK WSK y.x.k k') (G2 : FrR W z z2) (hW : (18 ∉ W ∧ 120 ∉ W ∧ 121 ∉ W ∧ 123 ∉ W ∧ 124 ∉ W ∧ 125 ∉ W ∧ 126 ∉ W ∧ 146 ∉ W) ∧ ((127 ∉ W ∧ 128 ∉ W) ∧ (130 ∉ W ∧ 131 ∉ W ∧ 132 ∉ W ∧ 133 ∉ W ∧ 134 ∉ W) ∧ 136 ∉ W ∧ 137 ∉ W)) (hW2 : (48 ∉ W ∧ 143 ∉ W ∧ 149 ∉ W ∧ 156 ∉ W ∧ 157 ∉ W) ∧ 152 ∉ W ∧ 153 ∉ W ∧ 154 ∉ W) (hd : SR d' (z2.f 44)) (hf : FO k' d') (h1 : kX3_remember (PS.mk y.x.g y.x.n y.r) = some p') (h2 : r_records z2 = some z3) : REL (YS.mk (XS.mk p'.g t' d' k') p'.r) z3 ∧ p'.n = y.x.n := by
  obtain ⟨a1, ⟨a2, a3⟩, a4, a5, a6⟩ := h
  obtain ⟨p1, p2, p3, p4⟩ := push_same hK hI hG a4 a5 a2 a3 (G2.1 48 hW2.1.1) (G2.2 49 hW2.1.2.2.1).1 (G2.2 43 hW2.1.2.1).1 (G2.2 56 hW2.1.2.2.2.1).1 (G2.2 57 hW2.1.2.2.2.2).1 h1 h2
  obtain ⟨q1, q2⟩ := p4 (XS.mk p'.g t' d' y.x.k) rfl rfl
  have fo : ∀ d, FO y.x.k d → FO k' d := fun d q => q.fr K (by decide)
  have S3 : SO k' z3 := (a1.fr K G2 (by decide) hW).fr (FrK.rfl (W := [])) p2 (by decide) (by decide)
  refine ⟨⟨S3, ⟨hd.cgf p3, hf⟩, q1.on rfl fo, q2.on rfl fo, ?_⟩, p1⟩
  exact (a6.fr K G2 (by decide) hW2.2).fr (FrK.rfl (W := [])) p2 (by decide) (by decide)
theorem go_same {y y' : YS} {z z' : RS} {x1 x2 r1 r2 : Int32} (h : REL y z) (hK : InvK y.x.k) (hI : InvR z) (hB : Big z) (hG : InvG y.x.g) (h1 : kX10_go y x1 x2 = some (r1, y')) (h2 : r_go z x1 x2 = some (r2, z')) : r1 = r2 ∧ REL y' z' := by
  have bw : 0 ≤ (y.x.k.v 1).toInt ∧ (y.x.k.v 1).toInt ≤ 5 := hK.1 1
  have bp : 0 ≤ (y.x.k.v 2).toInt ∧ (y.x.k.v 2).toInt ≤ 6 := hK.1 2
  have b18 : 0 ≤ (z.v 18).toInt ∧ (z.v 18).toInt ≤ 1 := hI.1 18
  unfold kX10_go at h1
  unfold r_go at h2
  by_cases hp : 0 ≤ x1.toInt ∧ x1.toInt < (y.x.k.v 2).toInt
  · obtain ⟨p, ep⟩ : ∃ p : Nat, x1.toInt = (p : Int) := ⟨x1.toInt.toNat, by omega⟩
    have est := (h.2.1.1.2.1 p (by omega)).1
    rw [kh_eq (x := XS.mk y.x.g y.x.t y.x.n y.x.k) hK ep (by show (p : Int) < (y.x.k.v 2).toInt; omega), bindI_some] at h1
    rw [rh_eq hI ep (by rw [← h.1.1.2.1]; omega), bindI_some, ← est] at h2
    replace h1 := letS_inv h1
    obtain ⟨s3, c3, h1⟩ := h1
    have e3 : s3 = y := by rw [← c3]; rfl
    subst e3
    by_cases c : s3.x.n.f 3 p = 0
    · have c0 : (XS.mk s3.x.g s3.x.t s3.x.n s3.x.k).n.f 3 p = 0 := c
      rw [if_pos c0, if_neg z_one] at h1
      rw [if_pos c, if_neg z_one, if_pos (vpb_ok (by omega) (by omega)), ← h.1.1.1] at h2
      by_cases cw : s3.x.k.v 1 = 0
      · rw [if_pos cw] at h1 h2
        cases h1
        cases h2
        exact ⟨rfl, h⟩
      · rw [if_neg cw] at h1 h2
        rw [kg_eq, bindI_some] at h1
        rw [rg_eq hI hK h.1, bindI_some] at h2
        replace h1 := letS_inv h1
        obtain ⟨s9, c9, h1⟩ := h1
        have e9 : s9 = s3 := by rw [← c9]; rfl
        subst e9
        by_cases hg : 0 ≤ x2.toInt ∧ x2.toInt < (s9.x.k.v 3).toInt
        · rw [if_pos hg, if_neg z_one] at h1 h2
          replace h1 := bindP_inv h1
          obtain ⟨p', u12, h1⟩ := h1
          replace h1 := letS_inv h1
          obtain ⟨s13, c13, h1⟩ := h1
          replace h1 := bindI_inv h1
          obtain ⟨q16, s15, u16, h1⟩ := h1
          replace h1 := letS_inv h1
          obtain ⟨s17, c17, h1⟩ := h1
          replace h2 := bindP_inv h2
          obtain ⟨z9, w9, h2⟩ := h2
          replace h2 := bindI_inv h2
          obtain ⟨q11, z10, w11, h2⟩ := h2
          replace h2 := bindI_inv h2
          obtain ⟨q13, z12, w13, h2⟩ := h2
          replace h2 := bindP_inv h2
          obtain ⟨z14, w14, h2⟩ := h2
          obtain ⟨hJ, F9⟩ := h.jr hK hI hB w9
          obtain ⟨g, eg⟩ : ∃ g : Nat, x2.toInt = (g : Int) := ⟨x2.toInt.toNat, by omega⟩
          have n13 : s13.x.n = s9.x.n ∧ s13.x.k = s9.x.k := by
            rw [← c13]
            refine ⟨?_, rfl⟩
            obtain ⟨_, ⟨f1, f2⟩, _⟩ := h.2.2.1
            obtain ⟨F, hF⟩ : ∃ F : Nat, (s9.x.g.v 3).toInt = (F : Int) := ⟨(s9.x.g.v 3).toInt.toNat, by omega⟩
            have b48 : 0 ≤ (z.v 48).toInt ∧ (z.v 48).toInt ≤ 40 := hI.1 48
            obtain ⟨U, hU⟩ : ∃ U : Nat, (z.v 48).toInt = (U : Int) := ⟨(z.v 48).toInt.toNat, by omega⟩
            exact (remember_eq hF (by omega) (by rw [h.2.2.1.1]; exact hU) (by omega) u12).1
          rw [n13.1, n13.2] at u16
          have sp := six_pow (s9.x.k.v 1).toNatClampNeg (by have : (s9.x.k.v 1).toInt.toNat = (s9.x.k.v 1).toNatClampNeg := Int32.toNat_toInt _; omega)
          have pl := pow_le (s9.x.k.v 1).toNatClampNeg (by have : (s9.x.k.v 1).toInt.toNat = (s9.x.k.v 1).toNatClampNeg := Int32.toNat_toInt _; omega)
          have e3 := h.1.1.2.2.2
          obtain ⟨er, K15, F12, R12, O12⟩ := send_same (s := JS.mk s9.x.k s9.x.n) hJ h.2.1.2 ep (by show (p : Int) < (s9.x.k.v 2).toInt; omega) eg (by rw [e3] at hg; omega) c w11 u16 w13
          have G12 : FrR [42, 45, 140, 141, 144] z z12 := (FrR.rfl.trans F9 (by decide)).trans F12 (by decide)
          obtain ⟨R, pn⟩ := h.done (t' := s13.x.t) hK hI hG K15 G12 (by decide) (by decide) R12 O12 u12 w14
          have a1 : r1 = q16 ∧ y' = s17 := by cases h1; exact ⟨rfl, rfl⟩
          have a2 : r2 = q13 ∧ z' = z14 := by cases h2; exact ⟨rfl, rfl⟩
          refine ⟨by rw [a1.1, a2.1, er], ?_⟩
          rw [a1.2, a2.2, ← c17, ← c13]
          rw [← c13] at R
          exact R
        · rw [if_neg hg, if_pos rfl] at h1 h2
          cases h1
          cases h2
          exact ⟨rfl, h⟩
    · have c0 : ¬ (XS.mk s3.x.g s3.x.t s3.x.n s3.x.k).n.f 3 p = 0 := c
      rw [if_neg c0, if_pos rfl] at h1
      rw [if_neg c, if_pos rfl] at h2
      cases h1
      cases h2
      exact ⟨rfl, h⟩
  · rw [kh_no (x := XS.mk y.x.g y.x.t y.x.n y.x.k) hp, bindI_some] at h1
    rw [rh_no hI (by rw [← h.1.1.2.1]; exact hp), bindI_some, if_pos rfl] at h2
    replace h1 := letS_inv h1
    obtain ⟨s3, c3, h1⟩ := h1
    have e3 : s3 = y := by rw [← c3]; rfl
    rw [if_pos rfl] at h1
    cases h1
    cases h2
    rw [e3]
    exact ⟨rfl, h⟩
theorem fetch_same {y y' : YS} {z z' : RS} {x1 r1 r2 : Int32} (h : REL y z) (hK : InvK y.x.k) (hI : InvR z) (hB : Big z) (hG : InvG y.x.g) (h1 : kX10_fetch y x1 = some (r1, y')) (h2 : r_fetch z x1 = some (r2, z')) : r1 = r2 ∧ REL y' z' := by
  have bp : 0 ≤ (y.x.k.v 2).toInt ∧ (y.x.k.v 2).toInt ≤ 6 := hK.1 2
  unfold kX10_fetch at h1
  unfold r_fetch at h2
  rw [kp_eq, bindI_some] at h1
  rw [rp_eq hI, bindI_some, ← h.1.1.2.1] at h2
  replace h1 := letS_inv h1
  obtain ⟨s3, c3, h1⟩ := h1
  have e3 : s3 = y := by rw [← c3]; rfl
  subst e3
  by_cases hp : 0 ≤ x1.toInt ∧ x1.toInt < (s3.x.k.v 2).toInt
  · rw [if_pos hp, if_neg z_one] at h1 h2
    obtain ⟨p, ep⟩ : ∃ p : Nat, x1.toInt = (p : Int) := ⟨x1.toInt.toNat, by omega⟩
    have a15 : (15 + x1).toInt = ((15 + p : Nat) : Int) := by
      rw [tn_add (by decide : (15 : Int32).toInt = 15) ep (by omega) (by omega)]
      omega
    have est := (h.2.1.1.2.1 p (by omega)).1
    replace h1 := guard_inv h1
    obtain ⟨_, h1⟩ := h1
    replace h2 := guard_inv h2
    obtain ⟨_, h2⟩ := h2
    rw [clamp_of_int ep] at h1
    rw [clamp_of_int a15] at h2
    by_cases c : s3.x.n.f 3 p = 0
    · rw [if_pos c] at h1
      rw [if_pos (est.symm.trans c)] at h2
      cases h1
      cases h2
      exact ⟨rfl, h⟩
    · rw [if_neg c] at h1
      rw [if_neg (fun q => c (est.trans q))] at h2
      replace h1 := bindP_inv h1
      obtain ⟨p', u8, h1⟩ := h1
      replace h1 := letS_inv h1
      obtain ⟨s9, c9, h1⟩ := h1
      replace h1 := guard_inv h1
      obtain ⟨_, h1⟩ := h1
      replace h1 := letS_inv h1
      obtain ⟨s12, c12, h1⟩ := h1
      replace h2 := bindP_inv h2
      obtain ⟨z6, w6, h2⟩ := h2
      replace h2 := guard_inv h2
      obtain ⟨_, h2⟩ := h2
      replace h2 := letS_inv h2
      obtain ⟨z8, g8, h2⟩ := h2
      replace h2 := bindP_inv h2
      obtain ⟨z10, w10, h2⟩ := h2
      obtain ⟨hJ, F6⟩ := h.jr hK hI hB w6
      have f8 := r44_at g8
      have R8 : SR (s3.x.n.sf 3 p 0) (z8.f 44) := SR.set3 hJ.2.1 (by omega) rfl f8
      have O8 : FO s3.x.k (s3.x.n.sf 3 p 0) := h.2.1.2
      have G8 : FrR [45, 144] z z8 := by rw [← g8]; exact F6.sf (by decide)
      obtain ⟨R, pn⟩ := h.done (t' := s3.x.t) hK hI hG FrK.rfl G8 (by decide) (by decide) R8 O8 u8 w10
      have a1 : r1 = 1 ∧ y' = s12 := by cases h1; exact ⟨rfl, rfl⟩
      have a2 : r2 = 1 ∧ z' = z10 := by cases h2; exact ⟨rfl, rfl⟩
      refine ⟨by rw [a1.1, a2.1], ?_⟩
      have e12 : s12 = YS.mk (XS.mk p'.g s3.x.t (s3.x.n.sf 3 p 0) s3.x.k) p'.r := by
        rw [← c12, ← c9, ← pn]
        rfl
      rw [a1.2, a2.2, e12]
      exact R
  · rw [if_neg hp, if_pos rfl] at h1 h2
    cases h1
    cases h2
    exact ⟨rfl, h⟩
