/-! ===== what holds between two calls ===== -/
theorem SR.cg {d d' : SD} {f f' : Nat → Int32} (h : SR d f) (hd : ∀ k i, d'.f k i = d.f k i) (hv : ∀ k, d'.v k = d.v k) (hf : ∀ i, i < 29 → f' i = f i) : SR d' f' := by
  obtain ⟨a, b, c, e⟩ := h
  refine ⟨fun u hu => ?_, fun p hp => ?_, ?_, ?_⟩
  · rw [hd, hd, hd, hf (5 + u) (by omega), hf u (by omega), hf (10 + u) (by omega)]
    exact a u hu
  · rw [hd, hd, hf (15 + p) (by omega), hf (21 + p) (by omega)]
    exact b p hp
  · rw [hv, hf 27 (by omega)]
    exact c
  · rw [hv, hf 28 (by omega)]
    exact e
theorem SR.cgf {d : SD} {f f' : Nat → Int32} (h : SR d f) (hf : ∀ i, i < 29 → f' i = f i) : SR d f' := h.cg (fun _ _ => rfl) (fun _ => rfl) hf
/-- a standing that agrees with another where they are looked at -/
def SDq (d e : SD) : Prop := (∀ i, i < 5 → d.f 0 i = e.f 0 i ∧ d.f 1 i = e.f 1 i ∧ d.f 2 i = e.f 2 i) ∧ (∀ i, i < 6 → d.f 3 i = e.f 3 i ∧ d.f 4 i = e.f 4 i) ∧ d.v 5 = e.v 5 ∧ d.v 6 = e.v 6
theorem SR.q {d e : SD} {f : Nat → Int32} (h : SR e f) (hq : SDq d e) : SR d f := by
  obtain ⟨a, b, c, g⟩ := h
  obtain ⟨q1, q2, q3, q4⟩ := hq
  refine ⟨fun u hu => ?_, fun p hp => ?_, by rw [q3]; exact c, by rw [q4]; exact g⟩
  · rw [(q1 u hu).1, (q1 u hu).2.1, (q1 u hu).2.2]
    exact a u hu
  · rw [(q2 p hp).1, (q2 p hp).2]
    exact b p hp
theorem FO.q {k : KS} {d e : SD} (h : FO k e) (hK : InvK k) (hq : SDq d e) : FO k d := by
  intro w v hw hv
  have bw : 0 ≤ (k.v 1).toInt ∧ (k.v 1).toInt ≤ 5 := hK.1 1
  rw [(hq.1 w (by omega)).1] at hv
  exact h w v hw hv
theorem FO.fr {k k' : KS} {d : SD} {W : List Nat} (h : FO k d) (K : FrK W k k') (hW : 1 ∉ W ∧ 103 ∉ W) : FO k' d := by
  unfold FO
  rw [K.1 1 hW.1, (K.2 3 hW.2).1]
  exact h
theorem cpy_lt {f g : Nat → Int32} {n i : Nat} (h : i < n) : va_cpy f g 0 0 n i = f i := by
  unfold va_cpy
  rw [if_pos ⟨Nat.zero_le _, by omega⟩, Nat.zero_add, Nat.sub_zero]
theorem sda_at {s : SD} {k : Nat} {x : Nat → Int32} : (s.sa k x).f k = x := by
  show va_up s.f k x k = x
  exact va_up_self _ _ _
/-- one standing is copied from another -/
theorem copyFrom_eq {s s' : DS} (h : kX6_copyFrom s = some s') : s'.e = s.e ∧ SDq s'.d s.e := by
  unfold kX6_copyFrom at h
  replace h := letS_inv h
  obtain ⟨s1, d1, h⟩ := h
  replace h := letS_inv h
  obtain ⟨s3, d3, h⟩ := h
  replace h := letS_inv h
  obtain ⟨s5, d5, h⟩ := h
  replace h := letS_inv h
  obtain ⟨s7, d7, h⟩ := h
  replace h := letS_inv h
  obtain ⟨s9, d9, h⟩ := h
  replace h := letS_inv h
  obtain ⟨s11, d11, h⟩ := h
  replace h := letS_inv h
  obtain ⟨s13, d13, h⟩ := h
  cases h
  have e1 : s1.e = s.e := by rw [← d1]; rfl
  have e3 : s3.e = s.e := by rw [← d3]; exact e1
  have e5 : s5.e = s.e := by rw [← d5]; exact e3
  have e7 : s7.e = s.e := by rw [← d7]; exact e5
  have e9 : s9.e = s.e := by rw [← d9]; exact e7
  have e11 : s11.e = s.e := by rw [← d11]; exact e9
  have f0 : s'.d.f 0 = va_cpy (s.e.f 0) (s.d.f 0) 0 0 5 := by
    rw [← d13, ← d11, ← d9, ← d7, ← d5, ← d3]
    show s1.d.f 0 = _
    rw [← d1]
    exact sda_at
  have f1 : s'.d.f 1 = va_cpy (s1.e.f 1) (s1.d.f 1) 0 0 5 := by
    rw [← d13, ← d11, ← d9, ← d7, ← d5]
    show s3.d.f 1 = _
    rw [← d3]
    exact sda_at
  have f2 : s'.d.f 2 = va_cpy (s3.e.f 2) (s3.d.f 2) 0 0 5 := by
    rw [← d13, ← d11, ← d9, ← d7]
    show s5.d.f 2 = _
    rw [← d5]
    exact sda_at
  have f3 : s'.d.f 3 = va_cpy (s5.e.f 3) (s5.d.f 3) 0 0 6 := by
    rw [← d13, ← d11, ← d9]
    show s7.d.f 3 = _
    rw [← d7]
    exact sda_at
  have f4 : s'.d.f 4 = va_cpy (s7.e.f 4) (s7.d.f 4) 0 0 6 := by
    rw [← d13, ← d11]
    show s9.d.f 4 = _
    rw [← d9]
    exact sda_at
  refine ⟨by rw [← d13]; exact e11, fun i hi => ⟨?_, ?_, ?_⟩, fun i hi => ⟨?_, ?_⟩, ?_, ?_⟩
  · rw [f0, cpy_lt hi]
  · rw [f1, cpy_lt hi, e1]
  · rw [f2, cpy_lt hi, e3]
  · rw [f3, cpy_lt hi, e5]
  · rw [f4, cpy_lt hi, e7]
  · rw [← d13]
    show s11.d.v 5 = _
    rw [← d11, ← e9]
    rfl
  · rw [← d13, ← e11]
    rfl
/-- the reference's row is the standing that it keeps -/
theorem copiesL {z' : RS} : ∀ (n : Nat) (z : RS) (x : Int32) (j : Nat), x.toInt = (j : Int) → j ≤ 29 → r_copies_2L n z x = some z' → (∀ i, j ≤ i → i < 29 → z'.f 44 i = z.f 43 i) ∧ (∀ i, i < j → z'.f 44 i = z.f 44 i) ∧ z'.v 45 = z.f 26 (z.v 18).toNatClampNeg := by
  intro n
  induction n with
  | zero => intro z x j _ _ h; exact none_ne h
  | succ n ih =>
    intro z x j ex hj h
    replace h : r_copies_2 (r_copies_2L n) z x = some z' := h
    unfold r_copies_2 at h
    by_cases c : 29 ≤ x
    · have c' := tn_le (a := 29) (by decide) rfl c
      rw [if_pos c] at h
      replace h := guard_inv h
      obtain ⟨_, h⟩ := h
      replace h := letS_inv h
      obtain ⟨z3, d3, h⟩ := h
      cases h
      rw [← d3]
      exact ⟨fun i h1 h2 => by omega, fun i _ => rfl, rfl⟩
    · have c' := tn_nle (a := 29) (by decide) rfl c
      rw [if_neg c] at h
      replace h := guard_inv h
      obtain ⟨_, h⟩ := h
      replace h := guard_inv h
      obtain ⟨_, h⟩ := h
      replace h := letS_inv h
      obtain ⟨z7, d7, h⟩ := h
      rw [clamp_of_int ex] at d7
      have f7 := r44_at d7
      have a : (x + 1).toInt = ((j + 1 : Nat) : Int) := by
        rw [tn_add ex (by decide : (1 : Int32).toInt = 1) (by omega) (by omega)]
        omega
      obtain ⟨q1, q2, q3⟩ := ih z7 (x + 1) (j + 1) a (by omega) h
      have f43 : z7.f 43 = z.f 43 := by rw [← d7]; rfl
      refine ⟨fun i h1 h2 => ?_, fun i hi => ?_, ?_⟩
      · by_cases e : i = j
        · rw [q2 i (by omega), f7, if_pos e, e]
        · rw [q1 i (by omega) h2, f43]
      · rw [q2 i (by omega), f7, if_neg (by omega)]
      · rw [q3, ← d7]
        rfl
def HIS (y : YS) (z : RS) : Prop := y.x.g.v 4 = z.v 48 ∧ (0 ≤ (y.x.g.v 3).toInt ∧ (y.x.g.v 3).toInt ≤ 39) ∧ (∀ i : Nat, (i : Int) < (z.v 48).toInt → SR (y.r (((y.x.g.v 3).toNatClampNeg + i) % 40)) (fun j => z.f 49 (29 * i + j)) ∧ FO y.x.k (y.r (((y.x.g.v 3).toNatClampNeg + i) % 40)))
def SLT (y : YS) (z : RS) : Prop := ∀ s : Nat, s < 3 → y.x.g.f 4 s = z.f 56 s ∧ (¬ z.f 56 s = 0 → SR (y.r (40 + s)) (fun j => z.f 57 (29 * s + j)) ∧ FO y.x.k (y.r (40 + s)))
def TEL (k : KS) (z : RS) : Prop := ∀ i : Nat, (i : Int) < (k.v 21).toInt → k.f 42 i = z.f 52 i ∧ 0 ≤ (k.f 42 i).toInt ∧ (k.f 42 i).toInt < (k.v 1).toInt ∧ (1 ≤ (z.f 53 i).toInt ∧ (z.f 53 i).toInt ≤ 63) ∧ ((z.f 54 i = 1 ∧ k.f 43 i = z.f 53 i) ∨ (z.f 54 i = 0 ∧ k.f 43 i = 63 &&& ((z.f 53 i) ^^^ (-1))))
def REL (y : YS) (z : RS) : Prop := SO y.x.k z ∧ (SR y.x.n (z.f 43) ∧ FO y.x.k y.x.n) ∧ HIS y z ∧ SLT y z ∧ TEL y.x.k z
/-- while something is asked of what goes on -/
theorem REL.jr {y : YS} {z z1 : RS} (h : REL y z) (hK : InvK y.x.k) (hI : InvR z) (hB : Big z) (h1 : r_copies z = some z1) : JR (JS.mk y.x.k y.x.n) z1 ∧ FrR [45, 144] z z1 := by
  obtain ⟨w, fw, Iw, Fw⟩ := ok_r_copies z hI
  rw [h1] at fw
  cases fw
  have Fw : FrR [45, 144] z z1 := Fw
  unfold r_copies at h1
  obtain ⟨q1, _, q3⟩ := copiesL fu z 0 0 (by decide) (by omega) h1
  refine ⟨⟨h.1.fr FrK.rfl Fw (W := []) (by decide) (by decide), h.2.1.1.cgf (fun i hi => q1 i (by omega) hi), hB.fr Fw (by decide), Iw, hK, ?_⟩, Fw⟩
  rw [q3, Fw.1 18 (by decide), (Fw.2 26 (by decide)).1]
/-- what no query touches -/
theorem REL.keep {y : YS} {x' : XS} {z z' : RS} {W W' : List Nat} (h : REL y z) (eg : x'.g = y.x.g) (en : x'.n = y.x.n) (K : FrK W y.x.k x'.k) (G : FrR W' z z') (hW : ((1 ∉ W ∧ 2 ∉ W ∧ 3 ∉ W ∧ 4 ∉ W) ∧ (103 ∉ W ∧ 104 ∉ W ∧ 105 ∉ W ∧ 106 ∉ W ∧ 107 ∉ W) ∧ (109 ∉ W ∧ 110 ∉ W ∧ 111 ∉ W ∧ 112 ∉ W)) ∧ 21 ∉ W ∧ 142 ∉ W ∧ 143 ∉ W) (hW' : ((18 ∉ W' ∧ 120 ∉ W' ∧ 121 ∉ W' ∧ 123 ∉ W' ∧ 124 ∉ W' ∧ 125 ∉ W' ∧ 126 ∉ W' ∧ 146 ∉ W') ∧ ((127 ∉ W' ∧ 128 ∉ W') ∧ (130 ∉ W' ∧ 131 ∉ W' ∧ 132 ∉ W' ∧ 133 ∉ W' ∧ 134 ∉ W') ∧ 136 ∉ W' ∧ 137 ∉ W')) ∧ (48 ∉ W' ∧ 143 ∉ W' ∧ 149 ∉ W' ∧ 152 ∉ W' ∧ 153 ∉ W' ∧ 154 ∉ W' ∧ 156 ∉ W' ∧ 157 ∉ W')) : REL (YS.mk x' y.r) z' := by
  obtain ⟨a1, ⟨a2, a3⟩, a4, a5, a6⟩ := h
  obtain ⟨w0, w21, w42, w43⟩ := hW
  obtain ⟨u0, u48, u43, u49, u52, u53, u54, u56, u57⟩ := hW'
  have fo : ∀ d, FO y.x.k d → FO x'.k d := fun d q => q.fr K ⟨w0.1.1, w0.2.1.1⟩
  refine ⟨a1.fr K G w0 u0, ⟨?_, ?_⟩, ?_, ?_, ?_⟩
  · show SR x'.n _
    rw [en, (G.2 43 u43).1]
    exact a2
  · show FO x'.k x'.n
    rw [en]
    exact fo _ a3
  · unfold HIS
    show x'.g.v 4 = z'.v 48 ∧ (0 ≤ (x'.g.v 3).toInt ∧ (x'.g.v 3).toInt ≤ 39) ∧ (∀ i : Nat, (i : Int) < (z'.v 48).toInt → SR (y.r (((x'.g.v 3).toNatClampNeg + i) % 40)) (fun j => z'.f 49 (29 * i + j)) ∧ FO x'.k (y.r (((x'.g.v 3).toNatClampNeg + i) % 40)))
    rw [eg, G.1 48 u48, (G.2 49 u49).1]
    exact ⟨a4.1, a4.2.1, fun i hi => ⟨(a4.2.2 i hi).1, fo _ (a4.2.2 i hi).2⟩⟩
  · intro s hs
    show x'.g.f 4 s = z'.f 56 s ∧ (¬ z'.f 56 s = 0 → SR (y.r (40 + s)) (fun j => z'.f 57 (29 * s + j)) ∧ FO x'.k (y.r (40 + s)))
    rw [eg, (G.2 56 u56).1, (G.2 57 u57).1]
    exact ⟨(a5 s hs).1, fun q => ⟨((a5 s hs).2 q).1, fo _ ((a5 s hs).2 q).2⟩⟩
  · show TEL x'.k z'
    unfold TEL
    rw [K.1 21 w21, K.1 1 w0.1.1, (K.2 42 w42).1, (K.2 43 w43).1, (G.2 52 u52).1, (G.2 53 u53).1, (G.2 54 u54).1]
    exact a6
