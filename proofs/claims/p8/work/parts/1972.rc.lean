/-! ===== needs, fares, who dares, what shifts ===== -/
/-- the two worlds while something is asked: what the text tells, a standing beside the row -/
def JR (s : JS) (z : RS) : Prop := SO s.k z ∧ SR s.d (z.f 44) ∧ Big z ∧ InvR z ∧ InvK s.k ∧ z.v 45 = z.f 26 (z.v 18).toNatClampNeg
theorem VarEq.put {s : KS} {z : RS} {j : Nat} {a b : Int32} (h : VarEq s z) (e : a = b) : VarEq (s.sf 13 j a) (z.sf 40 j b) := by
  intro i hi
  have e1 : (s.sf 13 j a).f 13 i = if i = j then a else s.f 13 i := ksf_at
  have e2 : (z.sf 40 j b).f 40 i = if i = j then b else z.f 40 i := rsf_at
  rw [e1, e2, e, h i hi]
theorem fill9 {x1 : Int32} {s' : Nat → Int32} : ∀ (n : Nat) (s : Nat → Int32) (x2 : Int32) (j : Nat), x2.toInt = (j : Int) → j ≤ 9 → kJ7_fill_53178_9_5L n s x1 x2 9 = some s' → (∀ i, j ≤ i → i < 9 → s' i = x1) ∧ (∀ i, (i < j ∨ 9 ≤ i) → s' i = s i) := by
  intro n
  induction n with
  | zero => intro s x2 j _ _ h; exact none_ne h
  | succ n ih =>
    intro s x2 j h2 hj h
    replace h : kJ7_fill_53178_9_5 (kJ7_fill_53178_9_5L n) s x1 x2 9 = some s' := h
    unfold kJ7_fill_53178_9_5 at h
    by_cases c : 9 ≤ x2
    · have c' := tn_le (a := 9) (by decide) rfl c
      rw [if_pos c] at h
      cases h
      exact ⟨fun i h1 h2 => by omega, fun i _ => rfl⟩
    · have c' := tn_nle (a := 9) (by decide) rfl c
      rw [if_neg c] at h
      replace h := guard_inv h
      obtain ⟨_, h⟩ := h
      replace h := letS_inv h
      obtain ⟨s3, d3, h⟩ := h
      rw [clamp_of_int h2] at d3
      have a2 : (x2 + 1).toInt = ((j + 1 : Nat) : Int) := by
        rw [tn_add h2 (by decide : (1 : Int32).toInt = 1) (by omega) (by omega)]
        omega
      obtain ⟨q1, q2⟩ := ih s3 (x2 + 1) (j + 1) a2 (by omega) h
      refine ⟨fun i h1 h2 => ?_, fun i hi => ?_⟩
      · by_cases e : i = j
        · rw [q2 i (by omega), ← d3, e]
          exact upd_same
        · exact q1 i (by omega) h2
      · rw [q2 i (by omega), ← d3]
        exact upd_ne (by omega)
theorem ksa_at {s : KS} {k : Nat} {x : Nat → Int32} : (s.sa k x).f k = x := by
  show va_up s.f k x k = x
  exact va_up_self _ _ _
theorem clearVars_eq {s s' : JS} (h : kX0_clearVars s = some s') : s'.d = s.d ∧ FrK [113] s.k s'.k ∧ ∀ i, i < 9 → s'.k.f 13 i = if i = 5 then s.d.v 5 else 0 := by
  unfold kX0_clearVars at h
  replace h := bindP_inv h
  obtain ⟨s1, h1, h⟩ := h
  replace h := letS_inv h
  obtain ⟨s2, d2, h⟩ := h
  replace h := letS_inv h
  obtain ⟨s4, d4, h⟩ := h
  cases h
  unfold kJ7_fill_53178_9 at h1
  obtain ⟨q1, _⟩ := fill9 fu _ 0 0 (by decide) (by omega) h1
  have e2 : s2.d = s.d := by rw [← d2]; rfl
  refine ⟨by rw [← d4]; exact e2, ?_, fun i hi => ?_⟩
  · rw [← d4, ← d2]
    show FrK [113] s.k ((s.k.sa 13 s1).sf 13 5 _)
    exact (FrK.rfl.sa (k := 13) (by decide)).sf (k := 13) (by decide)
  · have e : s'.k.f 13 i = if i = 5 then s2.d.v 5 else s2.k.f 13 i := by
      rw [← d4]
      exact ksf_at
    have e3 : s2.k.f 13 = s1 := by
      rw [← d2]
      exact ksa_at
    rw [e, e2, e3, q1 i (by omega) hi]
/-- what the reference does behind its zeros -/
def looksT (s : RS) (x1 : Int32) : Option RS := (letS (s.sf 40 5 (s.f 44 27)) fun s2 => (if 0 ≤ x1 then (if vpb ((6 * (s2.v 18)) + x1) 12 then (letS (s2.sf 40 2 (s2.f 24 (Int32.toNatClampNeg ((6 * (s2.v 18)) + x1)))) fun s6 => (if vpb ((6 * (s6.v 18)) + x1) 12 then (letS (s6.sf 40 3 (s6.f 25 (Int32.toNatClampNeg ((6 * (s6.v 18)) + x1)))) fun s9 => (letS (s9.sf 40 6 x1) fun s11 => (if vpb (21 + x1) 29 then (letS (s11.sf 40 8 (s11.f 44 (Int32.toNatClampNeg (21 + x1)))) fun s14 => (some s14)) else none))) else none)) else none) else (some s2)))
theorem looksL {x1 : Int32} {z' : RS} : ∀ (n : Nat) (z : RS) (x2 : Int32) (j : Nat), x2.toInt = (j : Int) → j ≤ 9 → r_looks_2L n z x1 x2 = some z' → ∃ y, looksT y x1 = some z' ∧ FrR [140] z y ∧ (∀ i, j ≤ i → i < 9 → y.f 40 i = 0) ∧ (∀ i, i < j → y.f 40 i = z.f 40 i) := by
  intro n
  induction n with
  | zero => intro z x2 j _ _ h; exact none_ne h
  | succ n ih =>
    intro z x2 j h2 hj h
    replace h : r_looks_2 (r_looks_2L n) z x1 x2 = some z' := h
    unfold r_looks_2 at h
    by_cases c : 9 ≤ x2
    · have c' := tn_le (a := 9) (by decide) rfl c
      rw [if_pos c] at h
      exact ⟨z, h, FrR.rfl, fun i h1 h2 => by omega, fun i _ => rfl⟩
    · have c' := tn_nle (a := 9) (by decide) rfl c
      rw [if_neg c] at h
      replace h := guard_inv h
      obtain ⟨_, h⟩ := h
      replace h := letS_inv h
      obtain ⟨z3, d3, h⟩ := h
      rw [clamp_of_int h2] at d3
      have a2 : (x2 + 1).toInt = ((j + 1 : Nat) : Int) := by
        rw [tn_add h2 (by decide : (1 : Int32).toInt = 1) (by omega) (by omega)]
        omega
      obtain ⟨y, q0, qF, q1, q2⟩ := ih z3 (x2 + 1) (j + 1) a2 (by omega) h
      have f3 : ∀ i, z3.f 40 i = if i = j then 0 else z.f 40 i := fun i => by
        rw [← d3]
        exact rsf_at
      refine ⟨y, q0, FrR.trans (t := z3) (by rw [← d3]; exact FrR.rfl.sf (by decide)) qF (by decide), fun i h1 h2 => ?_, fun i hi => ?_⟩
      · by_cases e : i = j
        · rw [q2 i (by omega), f3, if_pos e]
        · exact q1 i (by omega) h2
      · rw [q2 i (by omega), f3, if_neg (by omega)]
/-- with no party: the year alone -/
theorem vars_none {s s1 : JS} {z z1 : RS} (hy : s.d.v 5 = z.f 44 27) (h1 : kX0_clearVars s = some s1) (h2 : r_looks z (-1) = some z1) : VarEq s1.k z1 ∧ s1.d = s.d ∧ FrK [113] s.k s1.k ∧ FrR [140] z z1 := by
  obtain ⟨e1, K1, v1⟩ := clearVars_eq h1
  unfold r_looks at h2
  obtain ⟨y, q0, qF, q1, _⟩ := looksL fu z 0 0 (by decide) (by omega) h2
  unfold looksT at q0
  replace q0 := letS_inv q0
  obtain ⟨y2, d2, q0⟩ := q0
  rw [if_neg (by decide)] at q0
  cases q0
  have f44 : y.f 44 = z.f 44 := (qF.2 44 (by decide)).1
  refine ⟨fun i hi => ?_, e1, K1, qF.trans (t := y) (u := z1) (W' := [140]) (by rw [← d2]; exact FrR.rfl.sf (by decide)) (by decide)⟩
  have e2 : z1.f 40 i = if i = 5 then y.f 44 27 else y.f 40 i := by
    rw [← d2]
    exact rsf_at
  rw [v1 i hi, e2, f44, q1 i (by omega) hi, hy]
/-- with a party -/
theorem vars_party {s s1 s2 : JS} {z z1 : RS} {x : Int32} {p : Nat} (hS : SO s.k z) (hI : InvR z) (hK : InvK s.k) (hy : s.d.v 5 = z.f 44 27) (hg : s.d.f 4 p = z.f 44 (21 + p)) (hx : x.toInt = (p : Int)) (hp : (p : Int) < (s.k.v 2).toInt) (h1 : kX0_clearVars s = some s1) (h2 : kX0_setParty s1 x = some s2) (h3 : r_looks z x = some z1) : VarEq s2.k z1 ∧ s2.d = s.d ∧ FrK [113] s.k s2.k ∧ FrR [140] z z1 := by
  have bp : 0 ≤ (s.k.v 2).toInt ∧ (s.k.v 2).toInt ≤ 6 := hK.1 2
  have bl : 0 ≤ (z.v 18).toInt ∧ (z.v 18).toInt ≤ 1 := hI.1 18
  obtain ⟨l, hl⟩ : ∃ l : Nat, (z.v 18).toInt = (l : Int) := ⟨(z.v 18).toInt.toNat, by omega⟩
  obtain ⟨e1, K1, v1⟩ := clearVars_eq h1
  unfold r_looks at h3
  obtain ⟨y, q0, qF, q1, _⟩ := looksL fu z 0 0 (by decide) (by omega) h3
  unfold looksT at q0
  replace q0 := letS_inv q0
  obtain ⟨y2, d2, q0⟩ := q0
  have x0 : (0 : Int32) ≤ x := Int32.le_iff_toInt_le.mpr (by rw [show (0 : Int32).toInt = 0 from by decide]; omega)
  rw [if_pos x0] at q0
  replace q0 := guard_inv q0
  obtain ⟨_, q0⟩ := q0
  replace q0 := letS_inv q0
  obtain ⟨y6, d6, q0⟩ := q0
  replace q0 := guard_inv q0
  obtain ⟨_, q0⟩ := q0
  replace q0 := letS_inv q0
  obtain ⟨y9, d9, q0⟩ := q0
  replace q0 := letS_inv q0
  obtain ⟨y11, d11, q0⟩ := q0
  replace q0 := guard_inv q0
  obtain ⟨_, q0⟩ := q0
  replace q0 := letS_inv q0
  obtain ⟨y14, d14, q0⟩ := q0
  cases q0
  have f44 : y.f 44 = z.f 44 := (qF.2 44 (by decide)).1
  have y18 : y.v 18 = z.v 18 := qF.1 18 (by decide)
  have m1 : (6 * (z.v 18)).toInt = (z.v 18).toInt * 6 := ti_cmul (c := 6) (by decide) (by omega) (by omega)
  have m2 : ((6 * (z.v 18)) + x).toInt = ((6 * l + p : Nat) : Int) := by
    rw [ti_add (by omega) (by omega)]
    omega
  have ei := clamp_of_int m2
  have a21 : (21 + x).toInt = ((21 + p : Nat) : Int) := by
    rw [tn_add (by decide : (21 : Int32).toInt = 21) hx (by omega) (by omega)]
    omega
  unfold kX0_setParty at h2
  replace h2 := guard_inv h2
  obtain ⟨_, h2⟩ := h2
  replace h2 := letS_inv h2
  obtain ⟨t2, c2, h2⟩ := h2
  replace h2 := guard_inv h2
  obtain ⟨_, h2⟩ := h2
  replace h2 := letS_inv h2
  obtain ⟨t5, c5, h2⟩ := h2
  replace h2 := letS_inv h2
  obtain ⟨t7, c7, h2⟩ := h2
  replace h2 := guard_inv h2
  obtain ⟨_, h2⟩ := h2
  replace h2 := letS_inv h2
  obtain ⟨t10, c10, h2⟩ := h2
  cases h2
  have ec := clamp_of_int hx
  have V2 : VarEq s1.k y2 := by
    intro i hi
    have e2 : y2.f 40 i = if i = 5 then y.f 44 27 else y.f 40 i := by
      rw [← d2]
      exact rsf_at
    rw [v1 i hi, e2, f44, q1 i (by omega) hi, hy]
  have hp2 := hS.2.2.2.1 p hp
  rw [clamp_of_int hl] at hp2
  have k6 : s1.k.f 6 = s.k.f 6 := (K1.2 6 (by decide)).1
  have k7 : s1.k.f 7 = s.k.f 7 := (K1.2 7 (by decide)).1
  have y218 : y2.v 18 = z.v 18 := by rw [← d2]; exact y18
  have y224 : y2.f 24 = z.f 24 := by rw [← d2]; exact (qF.2 24 (by decide)).1
  have y225 : y2.f 25 = z.f 25 := by rw [← d2]; exact (qF.2 25 (by decide)).1
  have y244 : y2.f 44 = z.f 44 := by rw [← d2]; exact f44
  have V6 : VarEq t2.k y6 := by
    rw [← c2, ← d6]
    refine V2.put ?_
    rw [ec, k6, y218, ei, y224]
    exact hp2.1
  have t2k7 : t2.k.f 7 = s.k.f 7 := by rw [← c2]; exact k7
  have y618 : y6.v 18 = z.v 18 := by rw [← d6]; exact y218
  have y625 : y6.f 25 = z.f 25 := by rw [← d6]; exact y225
  have V9 : VarEq t5.k y9 := by
    rw [← c5, ← d9]
    refine V6.put ?_
    rw [ec, t2k7, y618, ei, y625]
    exact hp2.2
  have V11 : VarEq t7.k y11 := by
    rw [← c7, ← d11]
    exact V9.put rfl
  have t7d : t7.d = s.d := by rw [← c7, ← c5, ← c2]; exact e1
  have y1144 : y11.f 44 = z.f 44 := by rw [← d11, ← d9, ← d6]; exact y244
  refine ⟨?_, ?_, ?_, ?_⟩
  · rw [← c10, ← d14]
    refine V11.put ?_
    rw [ec, t7d, clamp_of_int a21, y1144]
    exact hg
  · rw [← c10]
    exact t7d
  · rw [← c10, ← c7, ← c5, ← c2]
    exact (((K1.sf (k := 13) (by decide)).sf (k := 13) (by decide)).sf (k := 13) (by decide)).sf (k := 13) (by decide)
  · rw [← d14, ← d11, ← d9, ← d6, ← d2]
    exact ((((qF.sf (k := 40) (by decide)).sf (k := 40) (by decide)).sf (k := 40) (by decide)).sf (k := 40) (by decide)).sf (k := 40) (by decide)
theorem MB_cg {k k' : KS} {d d' : SD} {w : Nat} (e1 : k'.f 5 = k.f 5) (e2 : d' = d) : MB k' d' w = MB k d w := by
  unfold MB
  rw [e1, e2]
theorem SO.fr {k k' : KS} {z z' : RS} {W W' : List Nat} (h : SO k z) (K : FrK W k k') (G : FrR W' z z') (hW : (1 ∉ W ∧ 2 ∉ W ∧ 3 ∉ W ∧ 4 ∉ W) ∧ (103 ∉ W ∧ 104 ∉ W ∧ 105 ∉ W ∧ 106 ∉ W ∧ 107 ∉ W) ∧ (109 ∉ W ∧ 110 ∉ W ∧ 111 ∉ W ∧ 112 ∉ W)) (hW' : (18 ∉ W' ∧ 120 ∉ W' ∧ 121 ∉ W' ∧ 123 ∉ W' ∧ 124 ∉ W' ∧ 125 ∉ W' ∧ 126 ∉ W' ∧ 146 ∉ W') ∧ ((127 ∉ W' ∧ 128 ∉ W') ∧ (130 ∉ W' ∧ 131 ∉ W' ∧ 132 ∉ W' ∧ 133 ∉ W' ∧ 134 ∉ W') ∧ 136 ∉ W' ∧ 137 ∉ W')) : SO k' z' := by
  obtain ⟨⟨w1, w2, w3, w4⟩, ⟨w5, w6, w7, w8, w9⟩, w10, w11, w12, w13⟩ := hW
  obtain ⟨⟨u1, u2, u3, u4, u5, u6, u7, u8⟩, u9⟩ := hW'
  obtain ⟨a1, a2, a3, a4, a5, a6⟩ := h
  unfold SO OD7
  rw [K.1 1 w1, K.1 2 w2, K.1 3 w3, K.1 4 w4, (K.2 3 w5).1, (K.2 4 w6).1, (K.2 5 w7).1, (K.2 6 w8).1, (K.2 7 w9).1, (K.2 9 w10).1, (K.2 10 w11).1, (K.2 11 w12).1, (K.2 12 w13).1, G.1 18 u1, (G.2 20 u2).1, (G.2 21 u3).1, (G.2 23 u4).1, (G.2 24 u5).1, (G.2 25 u6).1, (G.2 26 u7).1, (G.2 46 u8).1]
  exact ⟨a1, a2, a3, a4, a5, a6.fr G u9⟩
/-- over a wave -/
theorem vars_wave {s s2 : JS} {z z2 : RS} {x : Int32} {w : Nat} (hV : VarEq s.k z) (hS : SO s.k z) (hR : SRw s.d (z.f 44) w) (hI : InvR z) (hK : InvK s.k) (hx : x.toInt = (w : Int)) (hw : (w : Int) < (s.k.v 1).toInt) (h1 : kX0_setWave s x = some s2) (h2 : r_looksOver z x = some z2) : VarEq s2.k z2 ∧ s2.d = s.d ∧ FrK [113] s.k s2.k ∧ FrR [140] z z2 := by
  have bw : 0 ≤ (s.k.v 1).toInt ∧ (s.k.v 1).toInt ≤ 5 := hK.1 1
  unfold kX0_setWave at h1
  unfold r_looksOver at h2
  replace h1 := letS_inv h1
  obtain ⟨s1, c1, h1⟩ := h1
  replace h2 := letS_inv h2
  obtain ⟨z1, d1, h2⟩ := h2
  have V1 : VarEq s1.k z1 := by
    rw [← c1, ← d1]
    exact hV.put rfl
  have K1 : FrK [113] s.k s1.k := by rw [← c1]; exact FrK.rfl.sf (k := 13) (by decide)
  have G1 : FrR [140] z z1 := by rw [← d1]; exact FrR.rfl.sf (k := 40) (by decide)
  have e1 : s1.d = s.d := by rw [← c1]; rfl
  have S1 : SO s1.k z1 := hS.fr K1 G1 (by decide) (by decide)
  have R1 : SRw s1.d (z1.f 44) w := by rw [e1, (G1.2 44 (by decide)).1]; exact hR
  have I1 : InvR z1 := by rw [← d1]; exact hI.sfF (k := 40) rfl rfl
  have Ik1 : InvK s1.k := by rw [← c1]; exact hK.sfF (k := 13) rfl rfl
  have hw1 : (w : Int) < (s1.k.v 1).toInt := by rw [K1.1 1 (by decide)]; exact hw
  rw [k_may hx (by omega), bindI_some, k_bits_eq, bindP_some] at h1
  replace h2 := bindI_inv h2
  obtain ⟨q, z3, hq, h2⟩ := h2
  obtain ⟨ez, eq⟩ := may_same S1 R1 I1 Ik1 hx hw1 hq
  subst ez
  rw [r_bits_eq, bindP_some] at h2
  replace h1 := letS_inv h1
  obtain ⟨s6, c6, h1⟩ := h1
  replace h2 := letS_inv h2
  obtain ⟨z6, d6, h2⟩ := h2
  replace h1 := guard_inv h1
  obtain ⟨_, h1⟩ := h1
  replace h2 := guard_inv h2
  obtain ⟨_, h2⟩ := h2
  have sm := MB_small S1 R1 Ik1 hw1
  have V6 : VarEq s6.k z6 := by
    rw [← c6, ← d6]
    refine V1.put ?_
    rw [eq]
    exact (bits_same sm.1 sm.2).1
  rw [k_bits_eq, bindP_some] at h1
  rw [r_bits_eq, bindP_some] at h2
  replace h1 := letS_inv h1
  obtain ⟨s10, c10, h1⟩ := h1
  replace h2 := letS_inv h2
  obtain ⟨z10, d10, h2⟩ := h2
  cases h1
  cases h2
  have e6 : s6.d = s.d := by rw [← c6]; exact e1
  have f44 : z6.f 44 = z.f 44 := by rw [← d6]; exact (G1.2 44 (by decide)).1
  obtain ⟨_, hb1, hb2⟩ := hR
  refine ⟨?_, by rw [← c10]; exact e6, ?_, ?_⟩
  · rw [← c10, ← d10]
    refine V6.put ?_
    rw [clamp_of_int hx, e6, f44, hb1]
    exact (bits_same hb2.1 hb2.2).1
  · rw [← c10, ← c6]
    exact (K1.sf (k := 13) (by decide)).sf (k := 13) (by decide)
  · rw [← d10, ← d6]
    exact (G1.sf (k := 40) (by decide)).sf (k := 40) (by decide)
theorem held_same {m x r1 r2 : Int32} (hm : 0 ≤ m.toInt) (h1 : kX10_heldTo m x = some r1) (h2 : r_within x 0 m = some r2) : r1 = r2 := by
  unfold kX10_heldTo at h1
  unfold r_within at h2
  have e1 : r1 = mmax 0 (mmin m x) := by cases h1; rfl
  rw [e1]
  have z0 : (0 : Int32).toInt = 0 := by decide
  have q := ti_mmin m x
  have q2 := ti_mmax 0 (mmin m x)
  by_cases c : 0 ≤ x
  · have c' := tn_le z0 rfl c
    rw [if_pos c] at h2
    by_cases d : x ≤ m
    · have d' := ti_le d
      rw [if_pos d] at h2
      cases h2
      exact Int32.toInt_inj.mp (by omega)
    · have d' := ti_nle d
      rw [if_neg d] at h2
      cases h2
      exact Int32.toInt_inj.mp (by omega)
  · have c' := tn_nle z0 rfl c
    rw [if_neg c] at h2
    cases h2
    exact Int32.toInt_inj.mp (by omega)
/-- a law is asked, the variables being set -/
theorem law_ask {k k' : KS} {z z' : RS} {x1 xp r1 r2 : Int32} {cl : Nat} (hS : SO k z) (hI : InvR z) (hV : VarEq k z) (e1 : x1.toInt = (cl : Int)) (hcl : cl < 4) (hp : xp = dfv cl (z.f 40)) (h1 : kX1_valueOf k x1 = some (r1, k')) (h2 : r_lawTells z x1 xp = some (r2, z')) : r1 = r2 ∧ FrK [7, 114] k k' ∧ FrR [42, 141] z z' := by
  have bl : 0 ≤ (z.v 18).toInt ∧ (z.v 18).toInt ≤ 1 := hI.1 18
  obtain ⟨l, hl⟩ : ∃ l : Nat, (z.v 18).toInt = (l : Int) := ⟨(z.v 18).toInt.toNat, by omega⟩
  have hL := hS.2.2.2.2.2 cl hcl
  rw [clamp_of_int hl] at hL
  have hL2 := hL.keep (hib' := 260) (fun _ _ => rfl) (fun _ _ _ => rfl) rfl rfl (fun _ _ _ => rfl) (fun _ _ _ => ⟨rfl, rfl, rfl, rfl, rfl⟩) rfl rfl (Int.le_refl _) (Int.le_refl _) (by omega)
  exact law_same hL2 hl (by omega) e1 hcl hV hp h1 h2
/-- what a query leaves: the standing, and of the rest all but the scratch -/
abbrev WSK : List Nat := [7, 113, 114]
abbrev WSZ : List Nat := [42, 140, 141]
def KeptJ (s s' : JS) (z z' : RS) : Prop := s'.d = s.d ∧ FrK WSK s.k s'.k ∧ FrR WSZ z z'
theorem KeptJ.rfl {s : JS} {z : RS} : KeptJ s s z z := ⟨Eq.refl _, FrK.rfl, FrR.rfl⟩
theorem KeptJ.trans {s t u : JS} {x y z : RS} (h : KeptJ s t x y) (h2 : KeptJ t u y z) : KeptJ s u x z := ⟨h2.1.trans h.1, h.2.1.trans h2.2.1 (fun _ q => q), h.2.2.trans h2.2.2 (fun _ q => q)⟩
theorem KeptJ.jr {s s' : JS} {z z' : RS} (h : KeptJ s s' z z') (hJ : JR s z) (hK : InvK s'.k) (hI : InvR z') : JR s' z' := by
  obtain ⟨e, K, G⟩ := h
  obtain ⟨a1, a2, a3, a4, a5, a6⟩ := hJ
  refine ⟨a1.fr K G (by decide) (by decide), by rw [e, (G.2 44 (by decide)).1]; exact a2, a3.fr G (by decide), hI, hK, ?_⟩
  rw [G.1 45 (by decide), G.1 18 (by decide), (G.2 26 (by decide)).1]
  exact a6
/-- what a party's needs over a wave look at -/
def NRw (s : JS) (z : RS) (p w : Nat) : Prop := SO s.k z ∧ InvR z ∧ InvK s.k ∧ s.d.v 5 = z.f 44 27 ∧ s.d.f 4 p = z.f 44 (21 + p) ∧ SRw s.d (z.f 44) w
theorem JR.nr {s : JS} {z : RS} {p w : Nat} (h : JR s z) (hp : p < 6) (hw : w < 5) : NRw s z p w := ⟨h.1, h.2.2.2.1, h.2.2.2.2.1, h.2.1.2.2.1, (h.2.1.2.1 p hp).2, h.2.1.at hw⟩
theorem need_same {s s' : JS} {z z' : RS} {x1 x2 x3 r1 r2 : Int32} {p w v : Nat} (hN : NRw s z p w) (e1 : x1.toInt = (p : Int)) (hp : (p : Int) < (s.k.v 2).toInt) (e2 : x2.toInt = (w : Int)) (hw : (w : Int) < (s.k.v 1).toInt) (e3 : x3.toInt = (v : Int)) (hv : v < 6) (h1 : kX0_needOf s x1 x2 x3 = some (r1, s')) (h2 : r_needsOf z x1 x2 x3 = some (r2, z')) : r1 = r2 ∧ KeptJ s s' z z' := by
  obtain ⟨hS, hI, hK, hy, hg, hR⟩ := hN
  have bw : 0 ≤ (s.k.v 1).toInt ∧ (s.k.v 1).toInt ≤ 5 := hK.1 1
  have bl : 0 ≤ (z.v 18).toInt ∧ (z.v 18).toInt ≤ 1 := hI.1 18
  obtain ⟨l, hl⟩ : ∃ l : Nat, (z.v 18).toInt = (l : Int) := ⟨(z.v 18).toInt.toNat, by omega⟩
  unfold kX0_needOf at h1
  unfold r_needsOf at h2
  replace h1 := bindP_inv h1
  obtain ⟨s1, p1, h1⟩ := h1
  replace h1 := bindP_inv h1
  obtain ⟨s2, p2, h1⟩ := h1
  replace h1 := bindP_inv h1
  obtain ⟨s3, p3, h1⟩ := h1
  replace h2 := bindP_inv h2
  obtain ⟨z1, q1, h2⟩ := h2
  replace h2 := bindP_inv h2
  obtain ⟨z2, q2, h2⟩ := h2
  obtain ⟨V2, d2, K2, G1⟩ := vars_party hS hI hK hy hg e1 hp p1 p2 q1
  have S2 : SO s2.k z1 := hS.fr K2 G1 (by decide) (by decide)
  have R2 : SRw s2.d (z1.f 44) w := by rw [d2, (G1.2 44 (by decide)).1]; exact hR
  obtain ⟨y1, f1, i1, _⟩ := ok_kX0_clearVars s hK
  rw [p1] at f1
  cases f1
  have x1b : x1.toInt ≤ 5 := by
    have : (s.k.v 2).toInt ≤ 6 := (hK.1 2).2
    omega
  obtain ⟨y2, f2, i2, _⟩ := ok_kX0_setParty s1 x1 i1 (by omega) (by omega)
  rw [p2] at f2
  cases f2
  obtain ⟨w1, g1, j1, _⟩ := ok_r_looks z x1 hI (by omega) (by omega)
  rw [q1] at g1
  cases g1
  have hw2 : (w : Int) < (s2.k.v 1).toInt := by rw [K2.1 1 (by decide)]; exact hw
  obtain ⟨V3, d3, K3, G2⟩ := vars_wave V2 S2 R2 j1 i2 e2 hw2 p3 q2
  have K23 : FrK [113] s.k s3.k := K2.trans K3 (by decide)
  have G12 : FrR [140] z z2 := G1.trans G2 (by decide)
  have S3 : SO s3.k z2 := hS.fr K23 G12 (by decide) (by decide)
  rw [k_odds e2 (by omega) e3 hv, bindI_some] at h1
  replace h1 := letS_inv h1
  obtain ⟨s6, c6, h1⟩ := h1
  replace h1 := letS_inv h1
  obtain ⟨s8, c8, h1⟩ := h1
  replace h1 := bindI_inv h1
  obtain ⟨r11, k10, p11, h1⟩ := h1
  replace h1 := letS_inv h1
  obtain ⟨s12, c12, h1⟩ := h1
  replace h1 := bindP_inv h1
  obtain ⟨r14, p14, h1⟩ := h1
  replace h2 := bindI_inv h2
  obtain ⟨o4, z3, q4, h2⟩ := h2
  have hl2 : (z2.v 18).toInt = (l : Int) := by rw [G12.1 18 (by decide)]; exact hl
  obtain ⟨ez, eo⟩ := r_odds_inv hl2 (by omega) e2 (by omega) e3 hv q4
  subst ez
  replace h2 := letS_inv h2
  obtain ⟨z5, d5, h2⟩ := h2
  replace h2 := bindI_inv h2
  obtain ⟨r8, z7, q8, h2⟩ := h2
  replace h2 := bindP_inv h2
  obtain ⟨r9, q9, h2⟩ := h2
  have eod : s3.k.f 3 (6 * w + v) = o4 := by
    have hw3 : (w : Int) < (s3.k.v 1).toInt := by rw [K23.1 1 (by decide)]; exact hw
    rw [od_eq S3.2.2.1 hl2 hw3 hv, eo]
    exact congrArg (z3.f 21) (by omega)
  have k6 : s6 = s3 := by rw [← c6]; rfl
  have V8 : VarEq s8.k z5 := by
    rw [← c8, ← d5, k6]
    exact V3.put eod
  have K8 : FrK [113] s.k s8.k := by
    rw [← c8, k6]
    exact K23.sf (k := 13) (by decide)
  have G5 : FrR [140] z z5 := by
    rw [← d5]
    exact G12.sf (k := 40) (by decide)
  have S8 : SO s8.k z5 := hS.fr K8 G5 (by decide) (by decide)
  have d8 : s8.d = s.d := by
    rw [← c8, k6]
    exact d3.trans d2
  obtain ⟨w2, g2, j2, _⟩ := ok_r_looksOver z1 x2 j1 (by omega) (by omega)
  rw [q2] at g2
  cases g2
  have I5 : InvR z5 := by rw [← d5]; exact j2.sfF (k := 40) rfl rfl
  obtain ⟨er, K10, G7⟩ := law_ask (cl := 0) S8 I5 V8 (by decide) (by omega) (by unfold dfv; rw [if_pos rfl]) p11 q8
  subst er
  have e14 := held_same (m := 9) (by decide) p14 q9
  have a1 : r1 = r14 ∧ s' = s12 := by cases h1; exact ⟨rfl, rfl⟩
  have a2 : r2 = r9 ∧ z' = z7 := by cases h2; exact ⟨rfl, rfl⟩
  refine ⟨by rw [a1.1, a2.1, e14], ?_, ?_, ?_⟩
  · rw [a1.2, ← c12]
    exact d8
  · rw [a1.2, ← c12]
    exact (FrK.rfl.trans K8 (by decide)).trans K10 (by decide)
  · rw [a2.2]
    exact (FrR.rfl.trans G5 (by decide)).trans G7 (by decide)
