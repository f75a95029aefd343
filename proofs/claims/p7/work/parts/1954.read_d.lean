/-! ===== a law ===== -/
abbrev WLK : List Nat := [12, 13, 15, 16, 17, 122, 123, 124, 125]
abbrev WLZ : List Nat := [11, 12, 13, 14, 29, 35, 39, 127, 128, 130, 131, 132, 133, 134, 136, 137, 138]
abbrev WQ : List Nat := [29, 130, 131, 132, 133, 134]
theorem fr_endPart (s : KS) : Pt (kX1_endPart s) (FrK [123, 125] s) := by
  unfold kX1_endPart
  refine pt_ite (fun _ => ?_) (fun _ => pt_none)
  refine pt_ite (fun _ => pt_some FrK.rfl) (fun _ => pt_ite (fun _ => ?_) (fun _ => pt_none))
  refine pt_let (P := FrK [123, 125] s) (FrK.rfl.sf (by decide)) (fun t h => ?_)
  refine pt_ite (fun _ => ?_) (fun _ => pt_none)
  exact pt_let (P := FrK [123, 125] s) (h.sf (by decide)) (fun t h => pt_some h)
theorem fr_begin (s : KS) (x : Int32) : Pt (kX1_begin s x) (FrK [13, 124, 125] s) := by
  unfold kX1_begin
  refine pt_let (P := FrK [13, 124, 125] s) (FrK.rfl.sv (by decide)) (fun t h => ?_)
  refine pt_ite (fun _ => ?_) (fun _ => pt_none)
  refine pt_let (P := FrK [13, 124, 125] s) (h.sf (by decide)) (fun t h => ?_)
  refine pt_ite (fun _ => ?_) (fun _ => pt_none)
  exact pt_let (P := FrK [13, 124, 125] s) (h.sf (by decide)) (fun t h => pt_some h)
theorem sz_term {a b : Int32} (ha : 0 < a.toInt) {z : RS} (h : Sz a b z) : Pt (r_term z) (Sz a b) := by
  unfold r_term
  refine pt_ite (fun _ => ?_) (fun _ => pt_none)
  refine pt_let (P := Sz a b) h (fun s h => ?_)
  rw [if_neg (Sz.ne ha h)]
  unfold r_term_24
  refine pt_ite (fun _ => ?_) (fun _ => pt_none)
  refine pt_let (P := Sz a b) h (fun s h => ?_)
  exact pt_let (P := Sz a b) h (fun s h => pt_some h)
theorem sz_law_129 {a b : Int32} (ha : 0 < a.toInt) {z : RS} (x1 x2 : Int32) (h : Sz a b z) : Pt (r_tellLaw_129 z x1 x2) (Sz a b) := by
  unfold r_tellLaw_129
  refine pt_ite (fun _ => ?_) (fun _ => pt_none)
  refine pt_let (P := Sz a b) h (fun s h => ?_)
  refine pt_bindP (sz_term ha h) (fun s h => ?_)
  refine pt_bindP (sz_must ha _ h) (fun s h => ?_)
  rw [if_neg (Sz.nle ha h)]
  exact pt_some h
theorem sz_law_12L {a b : Int32} (ha : 0 < a.toInt) {z : RS} (m : Nat) (x1 x2 x3 : Int32) (h : Sz a b z) : Pt (r_tellLaw_12L m z x1 x2 x3) (Sz a b) := by
  cases m with
  | zero => exact pt_none
  | succ m =>
    show Pt (r_tellLaw_12 (r_tellLaw_12L m) z x1 x2 x3) _
    unfold r_tellLaw_12
    rw [if_neg (Sz.ne ha h)]
    exact sz_law_129 ha _ _ h
theorem sz_law_110 {a b : Int32} (ha : 0 < a.toInt) {z : RS} (m : Nat) (x1 x2 x3 : Int32) (h : Sz a b z) : Pt (r_tellLaw_110 (r_tellLaw_12L m) z x1 x2 x3) (Sz a b) := by
  unfold r_tellLaw_110
  refine pt_bindP (sz_must ha _ h) (fun s h => ?_)
  refine pt_bindP (sz_term ha h) (fun s h => ?_)
  refine pt_bindP (sz_must ha _ h) (fun s h => ?_)
  exact sz_law_12L ha m _ _ _ h
theorem FR2.sz {s : KS} {z z' : RS} (F : FR2 s z) (h : Sz (z.v 13) (z.v 14) z') : FR2 s z' := ⟨by rw [h.1]; exact F.1, by rw [h.1]; exact F.2.1, by rw [h.2]; exact F.2.2⟩
def ResL (N : Nat) (s : KS) (z : RS) (s' : KS) (out : RS) : Prop := (PR2 N s' out ∧ FrK WLK s s' ∧ FrR WLZ z out ∧ out.v 12 = 0 ∧ (s.v 15).toInt ≤ (s'.v 15).toInt) ∨ FR2 s' out
theorem sim_part {N : Nat} {s s' : KS} {z z1 z2 z3 : RS} {c r : Int32} (hP : PR2 N s z) (hT : TK2 N s z) (h12 : z.v 12 = 0) (hm : ((c, r) : Int32 × Int32) ∈ kpl) (hc : ¬ c = 302 ∧ ¬ c = 303) (hs : kX4_readPart s c = some s') (he : r_expression z = some z1) (hF : FrR WQ z1 z2) (hr : r_must z2 r = some z3) : ResL N s z s' z3 := by
  unfold kX4_readPart at hs
  obtain ⟨s1, h1, hs⟩ := bindP_inv hs
  obtain ⟨s2, h2, hs⟩ := bindP_inv hs
  obtain ⟨s3, h3, hs⟩ := bindP_inv hs
  cases hs
  have fe := fr_endPart s1 _ h2
  rcases sim_expr hP hT h12 h1 he with ⟨P1, K1, G1, v1, l1⟩ | F
  · have K2 : FrK WLK s s2 := (FrK.rfl.trans K1 (by decide)).trans fe (by decide)
    have G2 : FrR WLZ z z2 := (FrR.rfl.trans G1 (by decide)).trans hF (by decide)
    have P2 : PR2 N s2 z2 := P1.keep (fe.1 15 (by decide)) (fe.1 16 (by decide)) (hF.1 11 (by decide)) (hF.1 13 (by decide))
    have T2 : TK2 N s2 z2 := hT.fr K2 G2 (by decide) (by decide)
    have v2 : z2.v 12 = 0 := (hF.1 12 (by decide)).trans v1
    have l2 : (s2.v 15).toInt = (s1.v 15).toInt := by rw [fe.1 15 (by decide)]
    obtain ⟨t, w, ht, hw, hcase⟩ := step2 P2 T2 hm hc
    rw [h3] at ht
    cases ht
    rw [hr] at hw
    cases hw
    rcases hcase with ⟨_, e1, e2, P3, l3⟩ | ⟨F, _, _⟩
    · refine Or.inl ⟨P3, ?_, ?_, ?_, by omega⟩
      · rw [e1]; exact K2.sv (by decide)
      · rw [e2]; exact G2.sv (by decide)
      · rw [e2]; exact v2
    · exact Or.inr F
  · have k1 : Sk (s1.v 16) (s1.v 17) s1 := ⟨rfl, rfl⟩
    have k3 := sk_take F.ne _ (sk_endPart k1 _ h2) _ h3
    have q2 : Sz (z1.v 13) (z1.v 14) z2 := ⟨hF.1 13 (by decide), hF.1 14 (by decide)⟩
    exact Or.inr ((F.sk k3).sz (sz_must F.1 _ q2 _ hr))
/-- a term of the reference: its expression, what it writes down of it -/
theorem term_inv {z z' : RS} (h13 : z.v 13 = 0) (h : r_term z = some z') : ∃ y y1, FrR WQ z y ∧ r_expression y = some y1 ∧ FrR WQ y1 z' := by
  unfold r_term at h
  obtain ⟨_, h⟩ := guard_inv h
  obtain ⟨y, ey, h⟩ := letS_inv h
  have v13 : y.v 13 = 0 := by rw [← ey]; exact h13
  rw [if_pos v13] at h
  obtain ⟨y1, he, h⟩ := bindP_inv h
  unfold r_term_24 at h
  obtain ⟨_, h⟩ := guard_inv h
  obtain ⟨y2, e2, h⟩ := letS_inv h
  obtain ⟨y4, e4, h⟩ := letS_inv h
  cases h
  refine ⟨y, y1, by rw [← ey]; exact FrR.rfl.sf (by decide), he, ?_⟩
  rw [← e4, ← e2]
  exact (FrR.rfl.sf (k := 34) (by decide)).sv (k := 29) (by decide)
theorem sim_law_end {N : Nat} {s s' : KS} {z out : RS} {x1 x2 : Int32} (hP : PR2 N s z) (hT : TK2 N s z) (h12 : z.v 12 = 0) (hs : kX4_readLaw_77 s = some s') (hz : r_tellLaw_129 z x1 x2 = some out) : ResL N s z s' out := by
  unfold kX4_readLaw_77 at hs
  rw [bindP_id] at hs
  unfold r_tellLaw_129 at hz
  obtain ⟨_, hz⟩ := guard_inv hz
  obtain ⟨y, ey, hz⟩ := letS_inv hz
  obtain ⟨y4, ht, hz⟩ := bindP_inv hz
  obtain ⟨y5, hr, hz⟩ := bindP_inv hz
  have Gy : FrR WQ z y := by rw [← ey]; exact FrR.rfl.sf (by decide)
  obtain ⟨w, w1, Gw, he, Gw1⟩ := term_inv ((Gy.1 13 (by decide)).trans hP.2.1) ht
  have Gzw : FrR WQ z w := Gy.trans Gw (by decide)
  have Pw : PR2 N s w := hP.keep rfl rfl (Gzw.1 11 (by decide)) (Gzw.1 13 (by decide))
  have Tw : TK2 N s w := hT.fr FrK.rfl Gzw (W := []) (by decide) (by decide)
  rcases sim_part (c := 59) (r := 4) Pw Tw ((Gzw.1 12 (by decide)).trans h12) (by decide) (by decide) hs he Gw1 hr with ⟨P5, K5, G5, v5, l5⟩ | F
  · have q : y5.v 13 ≤ 0 := by rw [P5.2.1]; decide
    rw [if_pos q] at hz
    obtain ⟨_, hz⟩ := guard_inv hz
    obtain ⟨y8, e8, hz⟩ := letS_inv hz
    obtain ⟨_, hz⟩ := guard_inv hz
    obtain ⟨y11, e11, hz⟩ := letS_inv hz
    cases hz
    have Go : FrR [127, 128] y5 out := by
      rw [← e11, ← e8]
      exact (FrR.rfl.sf (k := 27) (by decide)).sf (k := 28) (by decide)
    refine Or.inl ⟨P5.keep rfl rfl (Go.1 11 (by decide)) (Go.1 13 (by decide)), K5, (((FrR.rfl.trans Gzw (by decide)).trans G5 (by decide)).trans Go (by decide)), (Go.1 12 (by decide)).trans v5, l5⟩
  · have q : ¬ y5.v 13 ≤ 0 := fun c => by
      have h1 := tn_le (b := 0) rfl (by decide) c
      have h2 := F.1
      omega
    rw [if_neg q] at hz
    cases hz
    exact Or.inr F
theorem sim_lawL {N : Nat} {s0 : KS} {z0 : RS} (x1 xb : Int32) : ∀ (n m : Nat) (s s' : KS) (z out : RS) (x : Int32), PR2 N s z → TK2 N s z → FrK WLK s0 s → FrR WLZ z0 z → z.v 12 = 0 → (s0.v 15).toInt ≤ (s.v 15).toInt → 0 ≤ x.toInt → x.toInt ≤ 4 → kX4_readLaw_19L n s x = some s' → r_tellLaw_12L m z x1 xb x = some out → ResL N s0 z0 s' out := by
  intro n
  induction n with
  | zero => intro m s s' z out x _ _ _ _ _ _ _ _ hs; exact none_ne hs
  | succ n ih =>
    intro m s s' z out x hP hT K0 G0 h12 h15 hx0 hx4 hs hz
    have hs : kX4_readLaw_19 (kX4_readLaw_19L n) s x = some s' := hs
    cases m with
    | zero => exact none_ne hz
    | succ m =>
    have hz : r_tellLaw_12 (r_tellLaw_12L m) z x1 xb x = some out := hz
    have hk := hP.kp hT
    have i27 := kp2 hk (c0 := 263) (r0 := 27) (by decide)
    unfold kX4_readLaw_19 at hs
    unfold r_tellLaw_12 at hz
    have nx : ¬ 4 < x := fun q => by
      have := tn_lt (a := 4) (by decide) rfl q
      omega
    rw [if_neg nx] at hs
    rw [if_pos hP.2.1] at hz
    by_cases c : KAt s = 263
    · rw [kat_yes hP.1 hP.kv c, bindI_some, if_neg z_one] at hs
      rw [zis_yes hP.2.1 hP.zv (i27.mp c), bindI_some, if_neg z_one] at hz
      by_cases e4 : x = 4
      · rw [if_pos e4, kfail_eq hP.1 hP.kv, bindP_some] at hs
        rw [if_pos e4, zfail_eq hP.2.1 hP.zv, bindP_some] at hz
        have F := hP.fail hT 2 (by decide)
        unfold r_tellLaw_38 at hz
        have q : ¬ (zfl z 2).v 13 ≤ 0 := by show ¬ (2 : Int32) ≤ 0; decide
        rw [if_neg q] at hz
        cases hz
        unfold kX4_readLaw_44 at hs
        obtain ⟨t1, h1, hs⟩ := bindP_inv hs
        obtain ⟨t2, h2, hs⟩ := bindP_inv hs
        obtain ⟨t3, h3, hs⟩ := bindP_inv hs
        obtain ⟨t4, h4, hs⟩ := bindP_inv hs
        have k0 : Sk ((kfl s 2).v 16) ((kfl s 2).v 17) (kfl s 2) := ⟨rfl, rfl⟩
        have k4 := sk_readPart F.ne _ (sk_readPart F.ne _ (sk_readPart F.ne _ (sk_take F.ne _ k0 _ h1) _ h2) _ h3) _ h4
        exact Or.inr (F.sk (sk_readLaw_19L F.ne n _ k4 _ hs))
      · rw [if_neg e4] at hs hz
        have ax : (x + 1).toInt = x.toInt + 1 := tn_add rfl (by decide) (by omega) (by omega)
        have nx4 := tn_ne (b := 4) rfl (by decide) e4
        unfold kX4_readLaw_44 at hs
        obtain ⟨t1, h1, hs⟩ := bindP_inv hs
        obtain ⟨t2, h2, hs⟩ := bindP_inv hs
        obtain ⟨t3, h3, hs⟩ := bindP_inv hs
        obtain ⟨t4, h4, hsF⟩ := bindP_inv hs
        unfold r_tellLaw_38 at hz
        have q : z.v 13 ≤ 0 := by rw [hP.2.1]; decide
        rw [if_pos q] at hz
        obtain ⟨w2, hg, hz⟩ := bindP_inv hz
        obtain ⟨_, hz⟩ := guard_inv hz
        obtain ⟨w4, e4', hz⟩ := letS_inv hz
        obtain ⟨_, hz⟩ := guard_inv hz
        obtain ⟨w7, e7, hz⟩ := letS_inv hz
        obtain ⟨w9, hx9, hz⟩ := bindP_inv hz
        obtain ⟨w10, hm10, hz⟩ := bindP_inv hz
        obtain ⟨_, hz⟩ := guard_inv hz
        obtain ⟨w12, e12, hzF⟩ := letS_inv hz
        have G27 : FrR WQ w2 w7 := by rw [← e7, ← e4']; exact (FrR.rfl.sf (k := 30) (by decide)).sf (k := 31) (by decide)
        have G1012 : FrR WQ w10 w12 := by rw [← e12]; exact FrR.rfl.sf (k := 32) (by decide)
        have skR : ∀ (a b : Int32), ¬ a = 0 → Sk a b t1 → Sk a b s' := fun a b ha k => sk_readLaw_19L ha n _ (sk_readPart ha _ (sk_readPart ha _ (sk_readPart ha _ k _ h2) _ h3) _ h4) _ hsF
        -- the reference behind a fault, from w12 on
        have szR : ∀ (a b : Int32), 0 < a.toInt → Sz a b w12 → Sz a b out := by
          intro a b ha k
          have hz := hzF
          rw [if_neg (Sz.ne ha k)] at hz
          exact sz_law_110 ha m _ _ _ k _ hz
        by_cases hl : s.v 15 = 400
        · have nl : ¬ s.v 15 < 400 := by rw [hl]; decide
          have e1 := ktake_room hP.1 hP.kv c nl
          rw [h1] at e1
          cases e1
          have e2 := zgo_room hP.2.1 hP.zv (by rw [← hP.2.2.1]; exact hl)
          rw [hg] at e2
          cases e2
          have F := hP.fail hT 2 (by decide)
          have k0 : Sk ((kfl s 2).v 16) ((kfl s 2).v 17) (kfl s 2) := ⟨rfl, rfl⟩
          have q7 : Sz ((zfl z 2).v 13) ((zfl z 2).v 14) w7 := ⟨G27.1 13 (by decide), G27.1 14 (by decide)⟩
          have q10 := sz_must F.1 _ (sz_expression F.1 q7 _ hx9) _ hm10
          have q12 : Sz ((zfl z 2).v 13) ((zfl z 2).v 14) w12 := ⟨(G1012.1 13 (by decide)).trans q10.1, (G1012.1 14 (by decide)).trans q10.2⟩
          exact Or.inr ((F.sk (skR _ _ F.ne k0)).sz (szR _ _ F.1 q12))
        · have q := hP.lt hl
          have e1 := ktake_yes hP.1 hP.kv c q.1
          rw [h1] at e1
          cases e1
          have e2 := zgo_ok q.2.2
          rw [hg] at e2
          cases e2
          have A := hP.adv hT (fun q => by rw [c] at q; exact absurd q (by decide)) (fun q => by rw [c] at q; exact absurd q (by decide)) hl
          have K1 : FrK WLK s (kad s) := FrK.rfl.sv (by decide)
          have G7 : FrR WLZ z w7 := ((FrR.rfl.sv (k := 11) (by decide)).trans G27 (by decide))
          have P7 : PR2 N (kad s) w7 := A.1.keep rfl rfl (G27.1 11 (by decide)) (G27.1 13 (by decide))
          have T7 := hT.fr K1 G7 (by decide) (by decide)
          have v7 : w7.v 12 = 0 := (G27.1 12 (by decide)).trans h12
          rcases sim_part (c := 60) (r := 13) P7 T7 v7 (by decide) (by decide) h2 hx9 FrR.rfl hm10 with ⟨P10, K10, G10, v10, l10⟩ | F
          · have P12 : PR2 N t2 w12 := P10.keep rfl rfl (G1012.1 11 (by decide)) (G1012.1 13 (by decide))
            have G12 : FrR WLZ w7 w12 := G10.trans G1012 (by decide)
            have T12 := T7.fr K10 G12 (by decide) (by decide)
            have v12 : w12.v 12 = 0 := (G1012.1 12 (by decide)).trans v10
            rw [if_pos P12.2.1] at hzF
            obtain ⟨w15, hx15, hz⟩ := bindP_inv hzF
            unfold r_tellLaw_110 at hz
            obtain ⟨w16, hm16, hz⟩ := bindP_inv hz
            obtain ⟨w17, ht17, hz⟩ := bindP_inv hz
            obtain ⟨w18, hm18, hz⟩ := bindP_inv hz
            rcases sim_part (c := 264) (r := 28) P12 T12 v12 (by decide) (by decide) h3 hx15 FrR.rfl hm16 with ⟨P16, K16, G16, v16, l16⟩ | F
            · have T16 := T12.fr K16 G16 (by decide) (by decide)
              obtain ⟨y, y1, Gy, he, Gy1⟩ := term_inv P16.2.1 ht17
              have Py : PR2 N t3 y := P16.keep rfl rfl (Gy.1 11 (by decide)) (Gy.1 13 (by decide))
              have Ty := T16.fr FrK.rfl Gy (W := []) (by decide) (by decide)
              rcases sim_part (c := 265) (r := 29) Py Ty ((Gy.1 12 (by decide)).trans v16) (by decide) (by decide) h4 he Gy1 hm18 with ⟨P18, K18, G18, v18, l18⟩ | F
              · have K : FrK WLK s t4 := ((K1.trans K10 (by decide)).trans K16 (by decide)).trans K18 (by decide)
                have G : FrR WLZ z w18 := ((((G7.trans G12 (by decide)).trans G16 (by decide)).trans Gy (by decide)).trans G18 (by decide))
                have := A.2
                exact ih m t4 s' w18 out (x + 1) P18 (hT.fr K G (by decide) (by decide)) (K0.trans K (by decide)) (G0.trans G (by decide)) v18 (by omega) (by omega) (by omega) hsF hz
              · have k4 : Sk (t4.v 16) (t4.v 17) t4 := ⟨rfl, rfl⟩
                have q18 : Sz (w18.v 13) (w18.v 14) w18 := ⟨rfl, rfl⟩
                exact Or.inr ((F.sk (sk_readLaw_19L F.ne n _ k4 _ hsF)).sz (sz_law_12L F.1 m _ _ _ q18 _ hz))
            · have k3 : Sk (t3.v 16) (t3.v 17) t3 := ⟨rfl, rfl⟩
              have q16 : Sz (w16.v 13) (w16.v 14) w16 := ⟨rfl, rfl⟩
              have q18 := sz_must F.1 _ (sz_term F.1 q16 _ ht17) _ hm18
              exact Or.inr ((F.sk (sk_readLaw_19L F.ne n _ (sk_readPart F.ne _ k3 _ h4) _ hsF)).sz (sz_law_12L F.1 m _ _ _ q18 _ hz))
          · have k2 : Sk (t2.v 16) (t2.v 17) t2 := ⟨rfl, rfl⟩
            have q12 : Sz (w10.v 13) (w10.v 14) w12 := ⟨G1012.1 13 (by decide), G1012.1 14 (by decide)⟩
            exact Or.inr ((F.sk (sk_readLaw_19L F.ne n _ (sk_readPart F.ne _ (sk_readPart F.ne _ k2 _ h3) _ h4) _ hsF)).sz (szR _ _ F.1 q12))
    · rw [kat_no hP.1 hP.kv c, bindI_some, if_pos rfl] at hs
      rw [zis_no hP.2.1 hP.zv (fun q => c (i27.mpr q)), bindI_some, if_pos rfl] at hz
      rcases sim_law_end hP hT h12 hs hz with ⟨P5, K5, G5, v5, l5⟩ | F
      · exact Or.inl ⟨P5, K0.trans K5 (by decide), G0.trans G5 (by decide), v5, by omega⟩
      · exact Or.inr F
theorem sim_law {N : Nat} {s s' : KS} {z out : RS} {x : Int32} (hP : PR2 N s z) (hT : TK2 N s z) (h12 : z.v 12 = 0) (hs : kX4_readLaw s x = some s') (hz : r_tellLaw z x = some out) : ResL N s z s' out := by
  unfold kX4_readLaw at hs
  unfold r_tellLaw at hz
  obtain ⟨s1, h1, hs⟩ := bindP_inv hs
  obtain ⟨s2, h2, hs⟩ := bindP_inv hs
  obtain ⟨z1, hm1, hz⟩ := bindP_inv hz
  obtain ⟨t, w, ht, hw, hcase⟩ := step2 (c := 61) (r := 5) hP hT (by decide) (by decide)
  rw [h1] at ht
  cases ht
  rw [hm1] at hw
  cases hw
  have fb := fr_begin s1 x _ h2
  rcases hcase with ⟨_, e1, e2, P1, l1⟩ | ⟨F, _, _⟩
  · have K2 : FrK WLK s s2 := by
      refine FrK.trans (s := s) (t := s1) ?_ fb (by decide)
      rw [e1]
      exact FrK.rfl.sv (by decide)
    have G1 : FrR WLZ z z1 := by rw [e2]; exact FrR.rfl.sv (by decide)
    have P2 : PR2 N s2 z1 := P1.keep (fb.1 15 (by decide)) (fb.1 16 (by decide)) rfl rfl
    have l2 : (s2.v 15).toInt = (s1.v 15).toInt := by rw [fb.1 15 (by decide)]
    have v1 : z1.v 12 = 0 := by rw [e2]; exact h12
    exact sim_lawL x _ fu fu s2 s' z1 out 0 P2 (hT.fr K2 G1 (by decide) (by decide)) K2 G1 v1 (by omega) (by decide) (by decide) hs hz
  · have k1 : Sk (s1.v 16) (s1.v 17) s1 := ⟨rfl, rfl⟩
    have q1 : Sz (z1.v 13) (z1.v 14) z1 := ⟨rfl, rfl⟩
    exact Or.inr ((F.sk (sk_readLaw_19L F.ne fu _ (sk_begin _ k1 _ h2) _ hs)).sz (sz_law_12L F.1 fu _ _ _ q1 _ hz))
