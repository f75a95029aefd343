/-! ===== a law: all its parts ===== -/
theorem nar01 : vp_nar .boolean 0 = 0 ∧ ¬ vp_nar .boolean 1 = 0 := by decide
def ChK (cl : Nat) (s s' : KS) : Prop := (∀ i : Nat, (i : Int) < (s.v 12).toInt → s'.f 22 i = s.f 22 i) ∧ (∀ i, (i < 13 * cl ∨ 13 * cl + 13 ≤ i) → s'.f 23 i = s.f 23 i) ∧ (∀ i, ¬ i = cl → s'.f 24 i = s.f 24 i ∧ s'.f 25 i = s.f 25 i) ∧ (s.v 12).toInt ≤ (s'.v 12).toInt
def ChZ (b : Nat) (z z' : RS) : Prop := (∀ i : Nat, (i : Int) < (z.v 35).toInt → es z' i = es z i) ∧ (∀ i, i < b → SmB z z' i) ∧ (z.v 35).toInt ≤ (z'.v 35).toInt
theorem ChK.trans {cl : Nat} {s t u : KS} (h : ChK cl s t) (h2 : ChK cl t u) : ChK cl s u := by
  obtain ⟨a1, a2, a3, a4⟩ := h
  obtain ⟨b1, b2, b3, b4⟩ := h2
  exact ⟨fun i hi => (b1 i (by omega)).trans (a1 i hi), fun i hi => (b2 i hi).trans (a2 i hi), fun i hi => ⟨(b3 i hi).1.trans (a3 i hi).1, (b3 i hi).2.trans (a3 i hi).2⟩, by omega⟩
theorem ChZ.trans {b : Nat} {s t u : RS} (h : ChZ b s t) (h2 : ChZ b t u) : ChZ b s u := by
  obtain ⟨a1, a2, a3⟩ := h
  obtain ⟨b1, b2, b3⟩ := h2
  exact ⟨fun i hi => (b1 i (by omega)).trans (a1 i hi), fun i hi => (a2 i hi).trans (b2 i hi), by omega⟩
theorem PtR.chk {cl j : Nat} {s s' : KS} {z z3 : RS} (h : PtR cl j s z s' z3) (hj : j ≤ 12) : ChK cl s s' := by
  obtain ⟨l1, l2, l3, l4⟩ := h.low
  obtain ⟨_, _, q24, q23, q25, _⟩ := h
  exact ⟨l1, fun i hi => by rw [q23, if_neg (by omega)], fun i hi => ⟨by rw [q24], q25 i hi⟩, l3⟩
theorem es_fr {W : List Nat} {z z' : RS} (h : FrR W z z') (h1 : 136 ∉ W) (h2 : 137 ∉ W) : es z' = es z := by
  unfold es
  rw [(h.2 36 h1).1, (h.2 37 h2).1]
/-- a law is being read: x ifs are done -/
def LawI (cl b0 x : Nat) (lo : Int) (s0 : KS) (z0 : RS) (s : KS) (z : RS) : Prop := ChK cl s0 s ∧ ChZ b0 z0 z ∧ (z.f 27 = z0.f 27 ∧ z.f 28 = z0.f 28) ∧ PreC s z ∧ ((s.v 13).toInt = (cl : Int) ∧ cl < 4) ∧ (s.f 25 cl).toInt = ((3 * x : Nat) : Int) ∧ pst (s.f 23) (s.f 24) cl (3 * x) = s.v 12 ∧ (z.v 29).toInt = ((b0 + x : Nat) : Int) ∧ lo ≤ (z.v 35).toInt ∧ (∀ i, i < x → LawN (s.v 12).toInt lo (z.v 35).toInt (s.f 22) (s.f 23) (s.f 24) cl z b0 i)
/-- a law is read -/
def LwE (cl b0 sd : Nat) (lo : Int) (x2 : Int32) (s0 : KS) (z0 : RS) (s' : KS) (out : RS) : Prop := ChK cl s0 s' ∧ ChZ b0 z0 out ∧ PreC s' out ∧ lo ≤ (out.v 35).toInt ∧ (∃ m, (out.v 29).toInt = ((b0 + m + 1 : Nat) : Int) ∧ LawT (s'.v 12).toInt lo (out.v 35).toInt (s'.f 22) (s'.f 23) (s'.f 24) (s'.f 25) cl out b0 m) ∧ (∀ i, out.f 27 i = if i = 4 * sd + cl then x2 else z0.f 27 i) ∧ (∀ i, out.f 28 i = if i = 4 * sd + cl then out.v 29 else z0.f 28 i)
def ResL (N cl b0 sd : Nat) (lo : Int) (x2 : Int32) (s0 : KS) (z0 : RS) (s : KS) (z : RS) (s' : KS) (out : RS) : Prop := (PR2 N s' out ∧ FrK WLK s s' ∧ FrR WLZ z out ∧ out.v 12 = 0 ∧ (s.v 15).toInt ≤ (s'.v 15).toInt ∧ LwE cl b0 sd lo x2 s0 z0 s' out) ∨ FR2 s' out
theorem sim_law_end {N cl b0 sd x : Nat} {lo : Int} {s0 s s' : KS} {z0 z out : RS} {x1 x2 : Int32} (hL : LawI cl b0 x lo s0 z0 s z) (hx4 : x ≤ 4) (h19 : (z.v 19).toInt = (sd : Int)) (hsd : sd ≤ 1) (hx1 : x1.toInt = (cl : Int)) (hP : PR2 N s z) (hT : TK2 N s z) (h12 : z.v 12 = 0) (hs : kX4_readLaw_77 s = some s') (hz : r_tellLaw_129 z x1 x2 = some out) : ResL N cl b0 sd lo x2 s0 z0 s z s' out := by
  obtain ⟨i1, i2, i3, i4, i5, i6, i7, i8, i9, i10⟩ := hL
  unfold kX4_readLaw_77 at hs
  rw [bindP_id] at hs
  unfold r_tellLaw_129 at hz
  obtain ⟨g29, hz⟩ := guard_inv hz
  have g29 : ¬ ((z.v 29) < 0 ∨ 260 ≤ (z.v 29).toNatClampNeg) := of_decide_eq_true g29
  have l29 : ¬ 260 ≤ (z.v 29).toNatClampNeg := fun q => g29 (Or.inr q)
  obtain ⟨y, ey, hz⟩ := letS_inv hz
  obtain ⟨y4, ht, hz⟩ := bindP_inv hz
  obtain ⟨y5, hr, hz⟩ := bindP_inv hz
  have eB : (z.v 29).toNatClampNeg = b0 + x := clamp_of_int i8
  have Gy0 : FrR [130] z y := by rw [← ey]; exact FrR.rfl.sf (by decide)
  have Gy : FrR WQ z y := FrR.rfl.trans Gy0 (by decide)
  have y30 : ∀ i, y.f 30 i = if i = b0 + x then 0 else z.f 30 i := fun i => by
    rw [← ey, eB, nar01.1]
    exact rsf_at
  obtain ⟨w, w1, Gw0, he, Gw10, u33, u34, u29⟩ := term_inv ((Gy.1 13 (by decide)).trans hP.2.1) ht
  have Gw : FrR WQ y w := FrR.rfl.trans Gw0 (by decide)
  have Gw1 : FrR WQ w1 y4 := FrR.rfl.trans Gw10 (by decide)
  have Gzw : FrR WQ z w := Gy.trans Gw (by decide)
  have Pw : PR2 N s w := hP.keep rfl rfl (Gzw.1 11 (by decide)) (Gzw.1 13 (by decide))
  have Tw : TK2 N s w := hT.fr FrK.rfl Gzw (W := []) (by decide) (by decide)
  have w35 : w.v 35 = z.v 35 := Gzw.1 35 (by decide)
  have wes : es w = es z := es_fr Gzw (by decide) (by decide)
  have Cw : PreC s w := ⟨i4.1, i4.2.1, by rw [w35]; exact i4.2.2⟩
  rcases sim_part (cl := cl) (j := 3 * x) (c := 59) (r := 4) Cw i5.1 i5.2 i6 (by omega) Pw Tw ((Gzw.1 12 (by decide)).trans h12) (by decide) (by decide) hs he Gw1 hr with ⟨P5, K5, G5, v5, l5, T5, X5, M5⟩ | F
  · have q : y5.v 13 ≤ 0 := by rw [P5.2.1]; decide
    rw [if_pos q] at hz
    obtain ⟨_, hz⟩ := guard_inv hz
    obtain ⟨y8, e8, hz⟩ := letS_inv hz
    obtain ⟨_, hz⟩ := guard_inv hz
    obtain ⟨y11, e11, hz⟩ := letS_inv hz
    cases hz
    have Go : FrR [127, 128] y5 out := by
      rw [← e11, ← e8]
      exact (FrR.rfl.sf (k := 27) (by decide)).sf (k := 28) (by decide)
    have y519 : y5.v 19 = z.v 19 := (G5.1 19 (by decide)).trans (Gzw.1 19 (by decide))
    have b19 : (y5.v 19).toInt = (sd : Int) := by rw [y519]; exact h19
    have m1 : (4 * (y5.v 19)).toInt = (y5.v 19).toInt * 4 := ti_cmul (c := 4) (by decide) (by omega) (by omega)
    have hc4 := i5.2
    have m2 : ((4 * (y5.v 19)) + x1).toInt = ((4 * sd + cl : Nat) : Int) := by
      rw [ti_add (by omega) (by omega)]
      omega
    have ei := clamp_of_int m2
    have B5 : ∀ i, ¬ i = b0 + x → SmB z out i := by
      intro i hi
      have s1 : SmB z y i := ⟨by rw [y30, if_neg hi], by rw [(Gy0.2 31 (by decide)).1], by rw [(Gy0.2 32 (by decide)).1], by rw [(Gy0.2 33 (by decide)).1], by rw [(Gy0.2 34 (by decide)).1]⟩
      have y29 : (y.v 29).toNatClampNeg = b0 + x := by rw [Gy0.1 29 (by decide)]; exact eB
      have s2 : SmB y w i := ⟨by rw [(Gw0.2 30 (by decide)).1], by rw [(Gw0.2 31 (by decide)).1], by rw [(Gw0.2 32 (by decide)).1], by rw [u33, y29, if_neg hi], by rw [(Gw0.2 34 (by decide)).1]⟩
      have s3 : SmB w w1 i := SmB.fr X5 (by decide)
      have w129 : (w1.v 29).toNatClampNeg = b0 + x := by rw [X5.1 29 (by decide), Gw0.1 29 (by decide)]; exact y29
      have s4 : SmB w1 y4 i := ⟨by rw [(Gw10.2 30 (by decide)).1], by rw [(Gw10.2 31 (by decide)).1], by rw [(Gw10.2 32 (by decide)).1], by rw [(Gw10.2 33 (by decide)).1], by rw [u34, w129, if_neg hi]⟩
      exact ((((s1.trans s2).trans s3).trans s4).trans (SmB.fr M5 (by decide))).trans (SmB.fr Go (by decide))
    have o30 : out.f 30 (b0 + x) = 0 := by
      rw [(Go.2 30 (by decide)).1, (M5.2 30 (by decide)).1, (Gw10.2 30 (by decide)).1, (X5.2 30 (by decide)).1, (Gw0.2 30 (by decide)).1, y30, if_pos rfl]
    have y29 : (y.v 29).toNatClampNeg = b0 + x := by rw [Gy0.1 29 (by decide)]; exact eB
    have w129 : w1.v 29 = z.v 29 := by rw [X5.1 29 (by decide), Gw0.1 29 (by decide), Gy0.1 29 (by decide)]
    have o33 : out.f 33 (b0 + x) = w.v 35 := by
      rw [(Go.2 33 (by decide)).1, (M5.2 33 (by decide)).1, (Gw10.2 33 (by decide)).1, (X5.2 33 (by decide)).1, u33, y29, if_pos rfl, Gw0.1 35 (by decide)]
    have y535 : y5.v 35 = w1.v 35 := (M5.1 35 (by decide)).trans (Gw10.1 35 (by decide))
    have o34 : out.f 34 (b0 + x) = y5.v 35 := by
      rw [(Go.2 34 (by decide)).1, (M5.2 34 (by decide)).1, u34, w129, eB, if_pos rfl, y535]
    have o35 : out.v 35 = y5.v 35 := Go.1 35 (by decide)
    have oes : es out = es y5 := es_fr Go (by decide) (by decide)
    have o29 : out.v 29 = (z.v 29) + 1 := by rw [Go.1 29 (by decide), M5.1 29 (by decide), u29, w129]
    obtain ⟨lw1, lw2, lw3, lw4⟩ := T5.low
    rw [w35, wes] at lw2
    rw [w35] at lw4
    obtain ⟨bt, _⟩ := T5.bth i7 (lo := lo) (by rw [w35]; exact i9)
    have hes : ∀ i : Nat, (i : Int) < (z.v 35).toInt → es out i = es z i := fun i hi => by rw [oes]; exact lw2 i hi
    have r29 := ti_rng (z.v 29)
    refine Or.inl ⟨P5.keep rfl rfl (Go.1 11 (by decide)) (Go.1 13 (by decide)), K5, (((FrR.rfl.trans Gzw (by decide)).trans G5 (by decide)).trans Go (by decide)), (Go.1 12 (by decide)).trans v5, l5, ?_⟩
    refine ⟨i1.trans (T5.chk (by omega)), i2.trans ⟨hes, fun i hi => B5 i (by omega), by rw [o35]; exact lw4⟩, ?_, by rw [o35]; omega, ⟨x, ?_, ?_⟩, fun i => ?_, fun i => ?_⟩
    · have := T5.pre Cw
      exact ⟨this.1, this.2.1, by rw [o35]; exact this.2.2⟩
    · rw [o29, ti_add (by rw [show (1 : Int32).toInt = 1 from by decide]; omega) (by rw [show (1 : Int32).toInt = 1 from by decide]; omega), i8, show (1 : Int32).toInt = 1 from by decide]
      omega
    · refine ⟨hx4, by rw [T5.2.2.2.2.2]; omega, fun j hj => ?_, o30, ?_⟩
      · refine (i10 j hj).keep lw1 (fun i q1 q2 => ?_) (by rw [T5.2.2.1]) (fun i q1 q2 => hes i q2) (B5 _ (by omega)) lw3 (by rw [o35]; exact lw4)
        rw [T5.2.2.2.1, if_neg (by omega)]
      · rw [o33, o34, oes, o35]
        exact bt
    · rw [← e11]
      show y8.f 27 i = _
      rw [← e8, ei, ← i3.1]
      have q27 : y5.f 27 = z.f 27 := by rw [(M5.2 27 (by decide)).1, (Gw10.2 27 (by decide)).1, (X5.2 27 (by decide)).1, (Gzw.2 27 (by decide)).1]
      rw [← q27]
      exact rsf_at
    · have y819 : y8.v 19 = y5.v 19 := by rw [← e8]; rfl
      have y829 : y8.v 29 = out.v 29 := by rw [← e11]; rfl
      have q28 : y8.f 28 = z.f 28 := by
        rw [← e8]
        show y5.f 28 = _
        rw [(M5.2 28 (by decide)).1, (Gw10.2 28 (by decide)).1, (X5.2 28 (by decide)).1, (Gzw.2 28 (by decide)).1]
      have q : out.f 28 i = if i = ((4 * (y8.v 19)) + x1).toNatClampNeg then y8.v 29 else y8.f 28 i := by
        rw [← e11]
        exact rsf_at
      rw [q, y819, ei, y829, q28, i3.2]
  · have q : ¬ y5.v 13 ≤ 0 := fun c => by
      have h1 := tn_le (b := 0) rfl (by decide) c
      have h2 := F.1
      omega
    rw [if_neg q] at hz
    cases hz
    exact Or.inr F
theorem sim_lawL {N cl b0 sd : Nat} {lo : Int} {sa s0 : KS} {za z0 : RS} (x1 xb : Int32) (hsd : sd ≤ 1) (hx1 : x1.toInt = (cl : Int)) : ∀ (n m : Nat) (s s' : KS) (z out : RS) (x : Int32) (xn : Nat), x.toInt = (xn : Int) → LawI cl b0 xn lo sa za s z → (z.v 19).toInt = (sd : Int) → PR2 N s z → TK2 N s z → FrK WLK s0 s → FrR WLZ z0 z → z.v 12 = 0 → (s0.v 15).toInt ≤ (s.v 15).toInt → 0 ≤ x.toInt → x.toInt ≤ 4 → kX4_readLaw_19L n s x = some s' → r_tellLaw_12L m z x1 xb x = some out → ResL N cl b0 sd lo xb sa za s0 z0 s' out := by
  intro n
  induction n with
  | zero => intro m s s' z out x xn _ _ _ _ _ _ _ _ _ _ _ hs; exact none_ne hs
  | succ n ih =>
    intro m s s' z out x xn hxn hLI h19 hP hT K0 G0 h12 h15 hx0 hx4 hs hz
    obtain ⟨i1, i2, i3, i4, i5, i6, i7, i8, i9, i10⟩ := id hLI
    have eB : (z.v 29).toNatClampNeg = b0 + xn := clamp_of_int i8
    have hs : kX4_readLaw_19 (kX4_readLaw_19L n) s x = some s' := hs
    cases m with
    | zero => exact none_ne hz
    | succ m =>
    have hz : r_tellLaw_12 (r_tellLaw_12L m) z x1 xb x = some out := hz
    have hk := hP.kp hT
    have i27 := kp2 hk (c0 := 263) (r0 := 27) (by decide)
    unfold kX4_readLaw_19 at hs
    unfold r_tellLaw_12 at hz
    have nx : ¬ 4 < x := fun q => by
      have := tn_lt (a := 4) (by decide) rfl q
      omega
    rw [if_neg nx] at hs
    rw [if_pos hP.2.1] at hz
    by_cases c : KAt s = 263
    · rw [kat_yes hP.1 hP.kv c, bindI_some, if_neg z_one] at hs
      rw [zis_yes hP.2.1 hP.zv (i27.mp c), bindI_some, if_neg z_one] at hz
      by_cases e4 : x = 4
      · rw [if_pos e4, kfail_eq hP.1 hP.kv, bindP_some] at hs
        rw [if_pos e4, zfail_eq hP.2.1 hP.zv, bindP_some] at hz
        have F := hP.fail hT 2 (by decide)
        unfold r_tellLaw_38 at hz
        have q : ¬ (zfl z 2).v 13 ≤ 0 := by show ¬ (2 : Int32) ≤ 0; decide
        rw [if_neg q] at hz
        cases hz
        unfold kX4_readLaw_44 at hs
        obtain ⟨t1, h1, hs⟩ := bindP_inv hs
        obtain ⟨t2, h2, hs⟩ := bindP_inv hs
        obtain ⟨t3, h3, hs⟩ := bindP_inv hs
        obtain ⟨t4, h4, hs⟩ := bindP_inv hs
        have k0 : Sk ((kfl s 2).v 16) ((kfl s 2).v 17) (kfl s 2) := ⟨rfl, rfl⟩
        have k4 := sk_readPart F.ne _ (sk_readPart F.ne _ (sk_readPart F.ne _ (sk_take F.ne _ k0 _ h1) _ h2) _ h3) _ h4
        exact Or.inr (F.sk (sk_readLaw_19L F.ne n _ k4 _ hs))
      · rw [if_neg e4] at hs hz
        have ax : (x + 1).toInt = x.toInt + 1 := tn_add rfl (by decide) (by omega) (by omega)
        have nx4 := tn_ne (b := 4) rfl (by decide) e4
        unfold kX4_readLaw_44 at hs
        obtain ⟨t1, h1, hs⟩ := bindP_inv hs
        obtain ⟨t2, h2, hs⟩ := bindP_inv hs
        obtain ⟨t3, h3, hs⟩ := bindP_inv hs
        obtain ⟨t4, h4, hsF⟩ := bindP_inv hs
        unfold r_tellLaw_38 at hz
        have q : z.v 13 ≤ 0 := by rw [hP.2.1]; decide
        rw [if_pos q] at hz
        obtain ⟨w2, hg, hz⟩ := bindP_inv hz
        obtain ⟨g29, hz⟩ := guard_inv hz
        obtain ⟨w4, e4', hz⟩ := letS_inv hz
        obtain ⟨_, hz⟩ := guard_inv hz
        obtain ⟨w7, e7, hz⟩ := letS_inv hz
        obtain ⟨w9, hx9, hz⟩ := bindP_inv hz
        obtain ⟨w10, hm10, hz⟩ := bindP_inv hz
        obtain ⟨_, hz⟩ := guard_inv hz
        obtain ⟨w12, e12, hzF⟩ := letS_inv hz
        have G27 : FrR WQ w2 w7 := by rw [← e7, ← e4']; exact (FrR.rfl.sf (k := 30) (by decide)).sf (k := 31) (by decide)
        have G1012 : FrR WQ w10 w12 := by rw [← e12]; exact FrR.rfl.sf (k := 32) (by decide)
        have skR : ∀ (a b : Int32), ¬ a = 0 → Sk a b t1 → Sk a b s' := fun a b ha k => sk_readLaw_19L ha n _ (sk_readPart ha _ (sk_readPart ha _ (sk_readPart ha _ k _ h2) _ h3) _ h4) _ hsF
        -- the reference behind a fault, from w12 on
        have szR : ∀ (a b : Int32), 0 < a.toInt → Sz a b w12 → Sz a b out := by
          intro a b ha k
          have hz := hzF
          rw [if_neg (Sz.ne ha k)] at hz
          exact sz_law_110 ha m _ _ _ k _ hz
        by_cases hl : s.v 15 = 400
        · have nl : ¬ s.v 15 < 400 := by rw [hl]; decide
          have e1 := ktake_room hP.1 hP.kv c nl
          rw [h1] at e1
          cases e1
          have e2 := zgo_room hP.2.1 hP.zv (by rw [← hP.2.2.1]; exact hl)
          rw [hg] at e2
          cases e2
          have F := hP.fail hT 2 (by decide)
          have k0 : Sk ((kfl s 2).v 16) ((kfl s 2).v 17) (kfl s 2) := ⟨rfl, rfl⟩
          have q7 : Sz ((zfl z 2).v 13) ((zfl z 2).v 14) w7 := ⟨G27.1 13 (by decide), G27.1 14 (by decide)⟩
          have q10 := sz_must F.1 _ (sz_expression F.1 q7 _ hx9) _ hm10
          have q12 : Sz ((zfl z 2).v 13) ((zfl z 2).v 14) w12 := ⟨(G1012.1 13 (by decide)).trans q10.1, (G1012.1 14 (by decide)).trans q10.2⟩
          exact Or.inr ((F.sk (skR _ _ F.ne k0)).sz (szR _ _ F.1 q12))
        · have q := hP.lt hl
          have e1 := ktake_yes hP.1 hP.kv c q.1
          rw [h1] at e1
          cases e1
          have e2 := zgo_ok q.2.2
          rw [hg] at e2
          cases e2
          have A := hP.adv hT (fun q => by rw [c] at q; exact absurd q (by decide)) (fun q => by rw [c] at q; exact absurd q (by decide)) hl
          have K1 : FrK WLK s (kad s) := FrK.rfl.sv (by decide)
          have G7 : FrR WLZ z w7 := ((FrR.rfl.sv (k := 11) (by decide)).trans G27 (by decide))
          have P7 : PR2 N (kad s) w7 := A.1.keep rfl rfl (G27.1 11 (by decide)) (G27.1 13 (by decide))
          have T7 := hT.fr K1 G7 (by decide) (by decide)
          have v7 : w7.v 12 = 0 := (G27.1 12 (by decide)).trans h12
          have G70 : FrR [130, 131] (zad z) w7 := by rw [← e7, ← e4']; exact (FrR.rfl.sf (k := 30) (by decide)).sf (k := 31) (by decide)
          have w735 : w7.v 35 = z.v 35 := G70.1 35 (by decide)
          have w7es : es w7 = es z := es_fr (z := zad z) G70 (by decide) (by decide)
          have w729 : w7.v 29 = z.v 29 := G70.1 29 (by decide)
          have C7 : PreC (kad s) w7 := by
            refine ⟨i4.1, ?_, by rw [w735]; exact i4.2.2⟩
            have q1 := i4.2.1
            have q2 := A.2
            show (s.v 12).toInt ≤ _
            omega
          rcases sim_part (cl := cl) (j := 3 * xn) (c := 60) (r := 13) C7 i5.1 i5.2 i6 (by omega) P7 T7 v7 (by decide) (by decide) h2 hx9 FrR.rfl hm10 with ⟨P10, K10, G10, v10, l10, T10, X10, M10⟩ | F
          · have P12 : PR2 N t2 w12 := P10.keep rfl rfl (G1012.1 11 (by decide)) (G1012.1 13 (by decide))
            have G12 : FrR WLZ w7 w12 := G10.trans G1012 (by decide)
            have T12 := T7.fr K10 G12 (by decide) (by decide)
            have v12 : w12.v 12 = 0 := (G1012.1 12 (by decide)).trans v10
            rw [if_pos P12.2.1] at hzF
            obtain ⟨w15, hx15, hz⟩ := bindP_inv hzF
            unfold r_tellLaw_110 at hz
            obtain ⟨w16, hm16, hz⟩ := bindP_inv hz
            obtain ⟨w17, ht17, hz⟩ := bindP_inv hz
            obtain ⟨w18, hm18, hz⟩ := bindP_inv hz
            have G12' : FrR [132] w10 w12 := by rw [← e12]; exact FrR.rfl.sf (k := 32) (by decide)
            have w1235 : w12.v 35 = w10.v 35 := G12'.1 35 (by decide)
            have w12es : es w12 = es w10 := es_fr G12' (by decide) (by decide)
            have C12 : PreC t2 w12 := by
              have q := T10.pre C7
              exact ⟨q.1, q.2.1, by rw [w1235]; exact q.2.2⟩
            have j2 : (t2.f 25 cl).toInt = ((3 * xn + 1 : Nat) : Int) := by rw [T10.2.2.2.2.2]; omega
            have s2 : (t2.v 13).toInt = (cl : Int) := by rw [T10.2.1]; exact i5.1
            rcases sim_part (cl := cl) (j := 3 * xn + 1) (c := 264) (r := 28) C12 s2 i5.2 j2 (by omega) P12 T12 v12 (by decide) (by decide) h3 hx15 FrR.rfl hm16 with ⟨P16, K16, G16, v16, l16, T16', X16, M16⟩ | F
            · have T16 := T12.fr K16 G16 (by decide) (by decide)
              obtain ⟨y, y1, Gy0, he, Gy10, u33, u34, u29⟩ := term_inv P16.2.1 ht17
              have Gy : FrR WQ w16 y := FrR.rfl.trans Gy0 (by decide)
              have Gy1 : FrR WQ y1 w17 := FrR.rfl.trans Gy10 (by decide)
              have y35 : y.v 35 = w16.v 35 := Gy0.1 35 (by decide)
              have yes : es y = es w16 := es_fr Gy0 (by decide) (by decide)
              have Cy : PreC t3 y := by
                have q := T16'.pre C12
                exact ⟨q.1, q.2.1, by rw [y35]; exact q.2.2⟩
              have j3 : (t3.f 25 cl).toInt = ((3 * xn + 2 : Nat) : Int) := by rw [T16'.2.2.2.2.2]; omega
              have s3 : (t3.v 13).toInt = (cl : Int) := by rw [T16'.2.1]; exact s2
              have Py : PR2 N t3 y := P16.keep rfl rfl (Gy.1 11 (by decide)) (Gy.1 13 (by decide))
              have Ty := T16.fr FrK.rfl Gy (W := []) (by decide) (by decide)
              rcases sim_part (cl := cl) (j := 3 * xn + 2) (c := 265) (r := 29) Cy s3 i5.2 j3 (by omega) Py Ty ((Gy.1 12 (by decide)).trans v16) (by decide) (by decide) h4 he Gy1 hm18 with ⟨P18, K18, G18, v18, l18, T18, X18, M18⟩ | F
              · have K : FrK WLK s t4 := ((K1.trans K10 (by decide)).trans K16 (by decide)).trans K18 (by decide)
                have G : FrR WLZ z w18 := ((((G7.trans G12 (by decide)).trans G16 (by decide)).trans Gy (by decide)).trans G18 (by decide))
                have := A.2
                have h19' : (w18.v 19).toInt = (sd : Int) := by rw [G.1 19 (by decide)]; exact h19
                have LI4 : LawI cl b0 (xn + 1) lo sa za t4 w18 := by
                  obtain ⟨c1, c2, c3, c4⟩ := T10.low
                  obtain ⟨d1, d2, d3, d4⟩ := T16'.low
                  obtain ⟨k1, k2, k3, k4⟩ := T18.low
                  rw [w735, w7es] at c2
                  rw [w735] at c4
                  rw [w1235, w12es] at d2
                  rw [w1235] at d4
                  rw [y35, yes] at k2
                  rw [y35] at k4
                  have c1 : ∀ i : Nat, (i : Int) < (s.v 12).toInt → t2.f 22 i = s.f 22 i := c1
                  have c3 : (s.v 12).toInt ≤ (t2.v 12).toInt := c3
                  have F7 : FrR WX w7 w10 := X10.trans M10 (by decide)
                  have F16 : FrR WX w12 w16 := X16.trans M16 (by decide)
                  have Fy : FrR [11, 12, 13, 14, 29, 35, 39, 134, 136, 137, 138] y w18 := ((FrR.rfl.trans X18 (by decide)).trans Gy10 (by decide)).trans M18 (by decide)
                  have v429 : w4.v 29 = z.v 29 := by rw [← e4']; rfl
                  have b10 : w10.v 29 = z.v 29 := (F7.1 29 (by decide)).trans w729
                  have b12 : w12.v 29 = z.v 29 := (G12'.1 29 (by decide)).trans b10
                  have b16 : w16.v 29 = z.v 29 := (F16.1 29 (by decide)).trans b12
                  have by1 : y1.v 29 = z.v 29 := by rw [X18.1 29 (by decide), Gy0.1 29 (by decide)]; exact b16
                  have n30 : ∀ i, w18.f 30 i = if i = b0 + xn then vp_nar .boolean 1 else z.f 30 i := fun i => by
                    rw [(Fy.2 30 (by decide)).1, (Gy0.2 30 (by decide)).1, (F16.2 30 (by decide)).1, (G12'.2 30 (by decide)).1, (F7.2 30 (by decide)).1, ← e7]
                    show w4.f 30 i = _
                    rw [← e4', ← eB]
                    exact rsf_at
                  have n31 : ∀ i, w18.f 31 i = if i = b0 + xn then z.v 35 else z.f 31 i := fun i => by
                    have q : w7.f 31 i = if i = (w4.v 29).toNatClampNeg then w4.v 35 else w4.f 31 i := by
                      rw [← e7]
                      exact rsf_at
                    have q35 : w4.v 35 = z.v 35 := by rw [← e4']; rfl
                    have q31 : w4.f 31 = z.f 31 := by rw [← e4']; rfl
                    rw [(Fy.2 31 (by decide)).1, (Gy0.2 31 (by decide)).1, (F16.2 31 (by decide)).1, (G12'.2 31 (by decide)).1, (F7.2 31 (by decide)).1, q, v429, eB, q35, q31]
                  have n32 : ∀ i, w18.f 32 i = if i = b0 + xn then w10.v 35 else z.f 32 i := fun i => by
                    have q : w12.f 32 i = if i = (w10.v 29).toNatClampNeg then w10.v 35 else w10.f 32 i := by
                      rw [← e12]
                      exact rsf_at
                    have q2 : w10.f 32 = z.f 32 := by rw [(F7.2 32 (by decide)).1, (G70.2 32 (by decide)).1]; rfl
                    rw [(Fy.2 32 (by decide)).1, (Gy0.2 32 (by decide)).1, (F16.2 32 (by decide)).1, q, b10, eB, q2]
                  have n33 : ∀ i, w18.f 33 i = if i = b0 + xn then w16.v 35 else z.f 33 i := fun i => by
                    have q2 : w16.f 33 = z.f 33 := by rw [(F16.2 33 (by decide)).1, (G12'.2 33 (by decide)).1, (F7.2 33 (by decide)).1, (G70.2 33 (by decide)).1]; rfl
                    rw [(Fy.2 33 (by decide)).1, u33, b16, eB, q2]
                  have w1835 : w18.v 35 = y1.v 35 := (M18.1 35 (by decide)).trans (Gy10.1 35 (by decide))
                  have n34 : ∀ i, w18.f 34 i = if i = b0 + xn then w18.v 35 else z.f 34 i := fun i => by
                    have q2 : y1.f 34 = z.f 34 := by rw [(X18.2 34 (by decide)).1, (Gy0.2 34 (by decide)).1, (F16.2 34 (by decide)).1, (G12'.2 34 (by decide)).1, (F7.2 34 (by decide)).1, (G70.2 34 (by decide)).1]; rfl
                    rw [(M18.2 34 (by decide)).1, u34, by1, eB, q2, w1835]
                  have o29 : w18.v 29 = (z.v 29) + 1 := by rw [M18.1 29 (by decide), u29, by1]
                  have g29 : ¬ ((z.v 29) < 0 ∨ 260 ≤ (z.v 29).toNatClampNeg) := of_decide_eq_true g29
                  have l29 : ¬ 260 ≤ (z.v 29).toNatClampNeg := fun q => g29 (Or.inr q)
                  obtain ⟨bt1, ps1⟩ := T10.bth i7 (lo := lo) (by rw [w735]; exact i9)
                  obtain ⟨bt2, ps2⟩ := T16'.bth ps1 (lo := lo) (by rw [w1235]; omega)
                  obtain ⟨bt3, ps3⟩ := T18.bth ps2 (lo := lo) (by rw [y35]; omega)
                  rw [w735] at bt1
                  rw [w1235] at bt2
                  rw [y35] at bt3
                  have SB : ∀ i, ¬ i = b0 + xn → SmB z w18 i := fun i hi => ⟨by rw [n30, if_neg hi], by rw [n31, if_neg hi], by rw [n32, if_neg hi], by rw [n33, if_neg hi], by rw [n34, if_neg hi]⟩
                  have hes : ∀ i : Nat, (i : Int) < (z.v 35).toInt → es w18 i = es z i := fun i hi => by rw [k2 i (by omega), d2 i (by omega), c2 i hi]
                  have hF4 : ∀ i : Nat, (i : Int) < (s.v 12).toInt → t4.f 22 i = s.f 22 i := fun i hi => by rw [k1 i (by omega), d1 i (by omega), c1 i hi]
                  have p2 : ∀ i, t2.f 23 i = if i = 13 * cl + 3 * xn then t2.v 12 else s.f 23 i := T10.2.2.2.1
                  have p3 := T16'.2.2.2.1
                  have p4 := T18.2.2.2.1
                  have g2 : t2.f 24 = s.f 24 := T10.2.2.1
                  have g3 := T16'.2.2.1
                  have g4 := T18.2.2.1
                  have z27 : w18.f 27 = z.f 27 := by rw [(Fy.2 27 (by decide)).1, (Gy0.2 27 (by decide)).1, (F16.2 27 (by decide)).1, (G12'.2 27 (by decide)).1, (F7.2 27 (by decide)).1, (G70.2 27 (by decide)).1]; rfl
                  have z28 : w18.f 28 = z.f 28 := by rw [(Fy.2 28 (by decide)).1, (Gy0.2 28 (by decide)).1, (F16.2 28 (by decide)).1, (G12'.2 28 (by decide)).1, (F7.2 28 (by decide)).1, (G70.2 28 (by decide)).1]; rfl
                  have ck : ChK cl s t4 := ((show ChK cl s t2 from T10.chk (by omega)).trans (T16'.chk (by omega))).trans (T18.chk (by omega))
                  refine ⟨i1.trans ck, i2.trans ⟨hes, fun i hi => SB i (by omega), by omega⟩, ⟨z27.trans i3.1, z28.trans i3.2⟩, T18.pre Cy, ⟨by rw [T18.2.1]; exact s3, i5.2⟩, by rw [T18.2.2.2.2.2]; omega, ps3, ?_, by omega, fun i hi => ?_⟩
                  · rw [o29, ti_add (by rw [show (1 : Int32).toInt = 1 from by decide]; omega) (by rw [show (1 : Int32).toInt = 1 from by decide]; omega), i8, show (1 : Int32).toInt = 1 from by decide]
                    omega
                  · by_cases ei : i = xn
                    · subst ei
                      refine ⟨by rw [n30, if_pos rfl]; exact nar01.2, ?_, ?_, ?_⟩
                      · rw [n31, if_pos rfl, n32, if_pos rfl]
                        have q1 : pst (t4.f 23) (t4.f 24) cl (3 * i) = pst (t2.f 23) (t2.f 24) cl (3 * i) := pst_cg (fun k h1 h2 => by rw [p4, if_neg (by omega), p3, if_neg (by omega)]) (by rw [g4, g3])
                        have q2 : t4.f 23 (13 * cl + 3 * i) = t2.f 23 (13 * cl + 3 * i) := by rw [p4, if_neg (by omega), p3, if_neg (by omega)]
                        rw [q1, q2]
                        exact bt1.keep (fun k hk => by rw [k1 k (by omega), d1 k hk]) (fun k _ hk => by rw [k2 k (by omega), d2 k hk]) (by omega) (by omega)
                      · rw [n32, if_pos rfl, n33, if_pos rfl]
                        have q1 : t4.f 23 (13 * cl + 3 * i) = t3.f 23 (13 * cl + 3 * i) := by rw [p4, if_neg (by omega)]
                        have q2 : t4.f 23 (13 * cl + (3 * i + 1)) = t3.f 23 (13 * cl + (3 * i + 1)) := by rw [p4, if_neg (by omega)]
                        rw [q1, q2]
                        rw [pst_succ] at bt2
                        exact bt2.keep k1 (fun k _ hk => k2 k hk) k3 k4
                      · rw [n33, if_pos rfl, n34, if_pos rfl]
                        rw [show 3 * i + 2 = (3 * i + 1) + 1 from rfl, pst_succ] at bt3
                        exact bt3
                    · refine (i10 i (by omega)).keep hF4 (fun k h1 h2 => ?_) (by rw [g4, g3, g2]) (fun k _ hk => hes k hk) (SB _ (by omega)) (by omega) (by omega)
                      rw [p4, if_neg (by omega), p3, if_neg (by omega), p2, if_neg (by omega)]
                exact ih m t4 s' w18 out (x + 1) (xn + 1) (by omega) LI4 h19' P18 (hT.fr K G (by decide) (by decide)) (K0.trans K (by decide)) (G0.trans G (by decide)) v18 (by omega) (by omega) (by omega) hsF hz
              · have k4 : Sk (t4.v 16) (t4.v 17) t4 := ⟨rfl, rfl⟩
                have q18 : Sz (w18.v 13) (w18.v 14) w18 := ⟨rfl, rfl⟩
                exact Or.inr ((F.sk (sk_readLaw_19L F.ne n _ k4 _ hsF)).sz (sz_law_12L F.1 m _ _ _ q18 _ hz))
            · have k3 : Sk (t3.v 16) (t3.v 17) t3 := ⟨rfl, rfl⟩
              have q16 : Sz (w16.v 13) (w16.v 14) w16 := ⟨rfl, rfl⟩
              have q18 := sz_must F.1 _ (sz_term F.1 q16 _ ht17) _ hm18
              exact Or.inr ((F.sk (sk_readLaw_19L F.ne n _ (sk_readPart F.ne _ k3 _ h4) _ hsF)).sz (sz_law_12L F.1 m _ _ _ q18 _ hz))
          · have k2 : Sk (t2.v 16) (t2.v 17) t2 := ⟨rfl, rfl⟩
            have q12 : Sz (w10.v 13) (w10.v 14) w12 := ⟨G1012.1 13 (by decide), G1012.1 14 (by decide)⟩
            exact Or.inr ((F.sk (sk_readLaw_19L F.ne n _ (sk_readPart F.ne _ (sk_readPart F.ne _ k2 _ h3) _ h4) _ hsF)).sz (szR _ _ F.1 q12))
    · rw [kat_no hP.1 hP.kv c, bindI_some, if_pos rfl] at hs
      rw [zis_no hP.2.1 hP.zv (fun q => c (i27.mpr q)), bindI_some, if_pos rfl] at hz
      rcases sim_law_end hLI (by omega) h19 hsd hx1 hP hT h12 hs hz with ⟨P5, K5, G5, v5, l5, E5⟩ | F
      · exact Or.inl ⟨P5, K0.trans K5 (by decide), G0.trans G5 (by decide), v5, by omega, E5⟩
      · exact Or.inr F
theorem begin_eq {s s' : KS} {x : Int32} {cl : Nat} (hx : x.toInt = (cl : Int)) (h : kX1_begin s x = some s') : s'.v 12 = s.v 12 ∧ s'.v 13 = x ∧ s'.f 22 = s.f 22 ∧ s'.f 23 = s.f 23 ∧ (∀ i, s'.f 24 i = if i = cl then s.v 12 else s.f 24 i) ∧ (∀ i, s'.f 25 i = if i = cl then 0 else s.f 25 i) := by
  have ec : x.toNatClampNeg = cl := clamp_of_int hx
  unfold kX1_begin at h
  obtain ⟨s1, d1, h⟩ := letS_inv h
  obtain ⟨_, h⟩ := guard_inv h
  obtain ⟨s4, d4, h⟩ := letS_inv h
  obtain ⟨_, h⟩ := guard_inv h
  obtain ⟨s7, d7, h⟩ := letS_inv h
  cases h
  rw [ec] at d4 d7
  refine ⟨by rw [← d7, ← d4, ← d1]; rfl, by rw [← d7, ← d4, ← d1]; rfl, by rw [← d7, ← d4, ← d1]; rfl, by rw [← d7, ← d4, ← d1]; rfl, fun i => ?_, fun i => ?_⟩
  · have q : s'.f 24 i = s4.f 24 i := by rw [← d7]; rfl
    rw [q, ← d4, ← d1]
    exact ksf_at
  · have q : s4.f 25 = s.f 25 := by rw [← d4, ← d1]; rfl
    rw [← d7, ← q]
    exact ksf_at
theorem sim_law {N cl b0 sd : Nat} {lo : Int} {s s' : KS} {z out : RS} {x : Int32} (hC : PreC s z) (hcl : cl < 4) (hx : x.toInt = (cl : Int)) (h29 : (z.v 29).toInt = (b0 : Int)) (hlo : lo ≤ (z.v 35).toInt) (h19 : (z.v 19).toInt = (sd : Int)) (hsd : sd ≤ 1) (hP : PR2 N s z) (hT : TK2 N s z) (h12 : z.v 12 = 0) (hs : kX4_readLaw s x = some s') (hz : r_tellLaw z x = some out) : ResL N cl b0 sd lo (z.v 29) s z s z s' out := by
  unfold kX4_readLaw at hs
  unfold r_tellLaw at hz
  obtain ⟨s1, h1, hs⟩ := bindP_inv hs
  obtain ⟨s2, h2, hs⟩ := bindP_inv hs
  obtain ⟨z1, hm1, hz⟩ := bindP_inv hz
  obtain ⟨t, w, ht, hw, hcase⟩ := step2 (c := 61) (r := 5) hP hT (by decide) (by decide)
  rw [h1] at ht
  cases ht
  rw [hm1] at hw
  cases hw
  have fb := fr_begin s1 x _ h2
  rcases hcase with ⟨_, e1, e2, P1, l1⟩ | ⟨F, _, _⟩
  · have K2 : FrK WLK s s2 := by
      refine FrK.trans (s := s) (t := s1) ?_ fb (by decide)
      rw [e1]
      exact FrK.rfl.sv (by decide)
    have G1 : FrR WLZ z z1 := by rw [e2]; exact FrR.rfl.sv (by decide)
    have P2 : PR2 N s2 z1 := P1.keep (fb.1 15 (by decide)) (fb.1 16 (by decide)) rfl rfl
    have l2 : (s2.v 15).toInt = (s1.v 15).toInt := by rw [fb.1 15 (by decide)]
    have v1 : z1.v 12 = 0 := by rw [e2]; exact h12
    obtain ⟨q12, q13, q22, q23, q24, q25⟩ := begin_eq hx h2
    have z129 : z1.v 29 = z.v 29 := by rw [e2]; rfl
    have z135 : z1.v 35 = z.v 35 := by rw [e2]; rfl
    have z1es : es z1 = es z := by rw [e2]; rfl
    have s112 : s1.v 12 = s.v 12 := by rw [e1]; rfl
    have LI0 : LawI cl b0 0 lo s z s2 z1 := by
      refine ⟨⟨fun i _ => ?_, fun i _ => ?_, fun i hi => ⟨?_, ?_⟩, ?_⟩, ⟨fun i _ => by rw [z1es], fun i _ => ?_, by rw [z135]; exact Int.le_refl _⟩, ⟨by rw [e2]; rfl, by rw [e2]; rfl⟩, ⟨?_, ?_, by rw [z135]; exact hC.2.2⟩, ⟨by rw [q13]; exact hx, hcl⟩, by rw [q25, if_pos rfl]; rfl, ?_, by rw [z129]; omega, by rw [z135]; exact hlo, fun i hi => absurd hi (Nat.not_lt_zero i)⟩
      · rw [q22, e1]; rfl
      · rw [q23, e1]; rfl
      · rw [q24, if_neg hi, e1]; rfl
      · rw [q25, if_neg hi, e1]; rfl
      · rw [q12, s112]; exact Int.le_refl _
      · rw [e2]; exact ⟨rfl, rfl, rfl, rfl, rfl⟩
      · rw [q12, s112]; exact hC.1
      · have := hC.2.1
        rw [q12, s112, l2, l1]
        omega
      · show pst (s2.f 23) (s2.f 24) cl 0 = _
        unfold pst
        rw [if_pos rfl, q24, if_pos rfl, q12]
    have h19' : (z1.v 19).toInt = (sd : Int) := by rw [e2]; exact h19
    rw [z129] at hz
    exact sim_lawL x _ hsd hx fu fu s2 s' z1 out 0 0 (by decide) LI0 h19' P2 (hT.fr K2 G1 (by decide) (by decide)) K2 G1 v1 (by omega) (by decide) (by decide) hs hz
  · have k1 : Sk (s1.v 16) (s1.v 17) s1 := ⟨rfl, rfl⟩
    have q1 : Sz (z1.v 13) (z1.v 14) z1 := ⟨rfl, rfl⟩
    exact Or.inr ((F.sk (sk_readLaw_19L F.ne fu _ (sk_begin _ k1 _ h2) _ hs)).sz (sz_law_12L F.1 fu _ _ _ q1 _ hz))
