/-! ===== one token, all tokens ===== -/
theorem bindI_id {σ : Type} (o : Option (Int32 × σ)) : (bindI o fun r s => some (r, s)) = o := by
  cases o with
  | none => rfl
  | some q => rfl
theorem tok_letters {s s5 : KS} {z out : RS} {p r6 : Int32} {m : Nat} (hT : TX s z) (hW : KWR s z) (hv10 : vpb (z.v 10) 403 = true) (hp : s.v 20 = p) (h0 : 0 ≤ p.toInt) (hl : p.toInt < (s.v 0).toInt) (hu : s.u 0 = 0) (hc : IsLe (cb s p)) (hs : kX9_splitLetters s = some (r6, s5)) (hz : r_cut_85L (r_cut_7L m) fu z p 0 0 = some out) : FrK [20] s s5 ∧ ¬ r6 = 302 ∧ ∃ kd v nm, r_cut_7L m (ztok z kd p v nm) (s5.v 20) = some out ∧ KP r6 kd ∧ ¬ r6 = 301 ∧ (r6 = 300 → NmR (s5.u 0) nm) ∧ p.toInt < (s5.v 20).toInt ∧ (s5.v 20).toInt ≤ (s.v 0).toInt := by
  have h2 := hT.2.2.1
  have z0 : (0 : Int32).toInt = 0 := by decide
  unfold kX9_splitLetters at hs
  rw [hp] at hs
  have hN : (0 : Int32).toInt ≤ 8 → NLn (0 : Int32).toInt (s.u 0) 0 := fun _ => by
    refine ⟨[], rfl, (fun c hc => by cases hc), ?_, by decide⟩
    rw [hu]
    decide
  obtain ⟨t, x, nm, f1, f2, f3, f4, f5, f6, f7, f8⟩ := letters h0 fu fu s 0 0 hT (by decide) (by rw [hp]; omega) (by rw [hp]; omega) hN hs hz
  have x0 := f8 (by rw [hp]; exact hc) (by rw [hp]; exact hl)
  have ax : (t.v 20 - p).toInt = x.toInt := by rw [ti_sub (by omega) (by omega)]; omega
  have ap : (p + x).toInt = p.toInt + x.toInt := ti_add (by omega) (by omega)
  have et : t.v 20 = p + x := Int32.toInt_inj.mp (by rw [ap]; exact f5)
  have g31 : t.g 31 = s.g 31 := (f3.2 31 (by decide)).2
  have tokz : ∀ y nm', r_cut_179 (r_cut_7L m) z p x nm' y = some out → r_cut_7L m (ztok z y p 0 nm') (t.v 20) = some out := by
    intro y nm' h
    unfold r_cut_179 r_cut_291 at h
    rw [ztok_eq hv10, bindP_some] at h
    rw [et]
    exact h
  unfold kX9_splitLetters_71 at f1
  unfold r_cut_135 at f2
  by_cases c8 : x ≤ 8
  · have c8' := tn_le (b := 8) rfl (by decide) c8
    have q1 : (t.v 20 - p) ≤ 8 := Int32.le_iff_toInt_le.mpr (by rw [ax, show (8 : Int32).toInt = 8 from by decide]; exact c8')
    have q2 : ¬ 8 < x := fun q => by
      have := tn_lt (a := 8) (by decide) rfl q
      omega
    rw [if_pos q1] at f1
    rw [if_pos c8, if_neg q2] at f2
    obtain ⟨e5, hk⟩ := word_k fu 0 (by decide) (by decide) f1
    obtain ⟨y, hy, hzk⟩ := word_z fu 1 0 (by decide) (by decide) f2
    subst e5
    have nmr : NmR (s5.u 0) nm := (f7 c8').nm c8'
    have same : ∀ k, k < 19 → (s5.g 31 k = s5.u 0 ↔ z.g 9 k = nm) := fun k hk => by
      have := hW.1 k hk
      rw [← g31] at this
      exact this.iff nmr
    refine ⟨f3, ?_⟩
    rcases hk with ⟨k, _, hk19, hke, hkr⟩ | ⟨hr, hn⟩
    · rcases hzk with ⟨k', _, hk19', hke', hky⟩ | ⟨_, hn⟩
      · have e1 := (same k' hk19').mpr hke'
        have ekk : k = k' := hW.2 k k' hk19 hk19' (by rw [← g31, hke, e1])
        subst ekk
        obtain ⟨w1, w2, w3, w4, w5, w6⟩ := kpl_word k hk19
        have er : r6 = Int32.ofNat (256 + k) := Int32.toInt_inj.mp (by rw [w2]; exact hkr)
        have ey : y = Int32.ofNat (20 + k) := Int32.toInt_inj.mp (by rw [w3]; exact hky)
        refine ⟨by rw [er]; exact w6, y, 0, nm, tokz y nm hy, ⟨_, w1, er, ey⟩, by rw [er]; exact w5, fun q => ?_, by omega, f6⟩
        rw [er] at q
        exact absurd q w4
      · exact absurd ((same k hk19).mp hke) (hn k (by omega) hk19)
    · rcases hzk with ⟨k', _, hk19', hke', hky⟩ | ⟨hy1, _⟩
      · exact absurd ((same k' hk19').mpr hke') (hn k' (by omega) hk19')
      · refine ⟨by rw [hr]; decide, y, 0, nm, tokz y nm hy, ⟨(300, 1), by decide, hr, hy1⟩, by rw [hr]; decide, fun _ => nmr, by omega, f6⟩
  · have c8' := tn_nle (b := 8) rfl (by decide) c8
    have q1 : ¬ (t.v 20 - p) ≤ 8 := fun q => by
      have := tn_le (b := 8) ax (by decide) q
      omega
    have q2 : 8 < x := Int32.lt_iff_toInt_lt.mpr (by rw [show (8 : Int32).toInt = 8 from by decide]; omega)
    rw [if_neg q1] at f1
    rw [if_neg c8, if_pos q2] at f2
    cases f1
    exact ⟨f3, by decide, 3, 0, nm, tokz 3 nm f2, ⟨(303, 3), by decide, rfl, rfl⟩, by decide, fun q => absurd q (by decide), by omega, f6⟩
theorem tok_digits {s s5 : KS} {z out : RS} {p r6 : Int32} {m : Nat} (hT : TX s z) (hv10 : vpb (z.v 10) 403 = true) (hp : s.v 20 = p) (h0 : 0 ≤ p.toInt) (hl : p.toInt < (s.v 0).toInt) (hu : s.u 0 = 0) (hc : IsDi (cb s p)) (hs : kX9_splitDigits s = some (r6, s5)) (hz : r_cut_208L (r_cut_7L m) fu z p 0 0 = some out) : FrK [20] s s5 ∧ ¬ r6 = 302 ∧ ∃ kd v nm, r_cut_7L m (ztok z kd p v nm) (s5.v 20) = some out ∧ KP r6 kd ∧ (r6 = 301 → Int64.toInt32 (s5.u 0) = v ∧ 0 ≤ v.toInt ∧ v.toInt ≤ 9999) ∧ ¬ r6 = 300 ∧ p.toInt < (s5.v 20).toInt ∧ (s5.v 20).toInt ≤ (s.v 0).toInt := by
  have h2 := hT.2.2.1
  have z0 : (0 : Int32).toInt = 0 := by decide
  unfold kX9_splitDigits at hs
  rw [hp] at hs
  have hN : (0 : Int32).toInt ≤ 4 → (s.u 0).toInt = (0 : Int32).toInt ∧ DVb (0 : Int32).toInt (0 : Int32).toInt := fun _ => by
    rw [hu]
    exact ⟨by decide, by decide, by decide, fun _ => by decide, fun _ => by decide, fun _ => by decide, fun _ => by decide⟩
  obtain ⟨t, x, v, f1, f2, f3, f4, f5, f6, f7, f8⟩ := digits h0 fu fu s 0 0 hT (by decide) (by rw [hp]; omega) (by rw [hp]; omega) hN hs hz
  have x0 := f8 (by rw [hp]; exact hc) (by rw [hp]; exact hl)
  have ax : (t.v 20 - p).toInt = x.toInt := by rw [ti_sub (by omega) (by omega)]; omega
  have ap : (p + x).toInt = p.toInt + x.toInt := ti_add (by omega) (by omega)
  have et : t.v 20 = p + x := Int32.toInt_inj.mp (by rw [ap]; exact f5)
  have tokz : ∀ y, r_cut_261 (r_cut_7L m) z p x v y = some out → r_cut_7L m (ztok z y p v 0) (t.v 20) = some out := by
    intro y h
    unfold r_cut_261 r_cut_291 at h
    rw [ztok_eq hv10, bindP_some] at h
    rw [et]
    exact h
  unfold kX9_splitDigits_78 at f1
  by_cases c8 : x ≤ 4
  · have c8' := tn_le (b := 4) rfl (by decide) c8
    have q1 : (t.v 20 - p) ≤ 4 := Int32.le_iff_toInt_le.mpr (by rw [ax, show (4 : Int32).toInt = 4 from by decide]; exact c8')
    rw [if_pos q1] at f1
    rw [if_pos c8] at f2
    cases f1
    obtain ⟨g1, g2⟩ := f7 c8'
    refine ⟨f3, by decide, 2, v, 0, tokz 2 f2, ⟨(301, 2), by decide, rfl, rfl⟩, fun _ => ⟨?_, g2.1, g2.2.1⟩, by decide, by omega, f6⟩
    refine Int32.toInt_inj.mp ?_
    rw [Int64.toInt_toInt32, g1]
    have q1 := g2.1
    have q2 := g2.2.1
    exact ti_bmod (by omega) (by omega)
  · have c8' := tn_nle (b := 4) rfl (by decide) c8
    have q1 : ¬ (t.v 20 - p) ≤ 4 := fun q => by
      have := tn_le (b := 4) ax (by decide) q
      omega
    rw [if_neg q1] at f1
    rw [if_neg c8] at f2
    cases f1
    exact ⟨f3, by decide, 3, v, 0, tokz 3 f2, ⟨(303, 3), by decide, rfl, rfl⟩, fun q => absurd q (by decide), by decide, by omega, f6⟩
theorem tok_one {s s5 : KS} {z out : RS} {p r6 : Int32} {m : Nat} (hT : TX s z) (hW : KWR s z) (hz10 : ¬ 400 < z.v 10) (h10 : 0 ≤ (z.v 10).toInt) (hp : s.v 20 = p) (h0 : 0 ≤ p.toInt) (hl : p.toInt ≤ (s.v 0).toInt) (hnb : p.toInt = (s.v 0).toInt ∨ ¬ IsBl (cb s p)) (hs : kX9_splitOne s = some (r6, s5)) (hz : r_cut_7L m z p = some out) : FrK [20] s s5 ∧ ((r6 = 302 ∧ out = ztok z 0 p 0 0) ∨ (¬ r6 = 302 ∧ ∃ kd v nm m', r_cut_7L m' (ztok z kd p v nm) (s5.v 20) = some out ∧ KP r6 kd ∧ (r6 = 301 → Int64.toInt32 (s5.u 0) = v ∧ 0 ≤ v.toInt ∧ v.toInt ≤ 9999) ∧ (r6 = 300 → NmR (s5.u 0) nm) ∧ p.toInt < (s5.v 20).toInt ∧ (s5.v 20).toInt ≤ (s.v 0).toInt)) := by
  have hv10 := v10_ok h10 hz10
  have h2 := hT.2.2.1
  cases m with
  | zero => exact none_ne hz
  | succ m =>
  have hz : r_cut_7 (r_cut_7L m) z p = some out := hz
  unfold r_cut_7 at hz
  rw [if_neg hz10] at hz
  unfold kX9_splitOne at hs
  obtain ⟨s1, e1, hs⟩ := letS_inv hs
  have T1 : TX s1 z := by rw [← e1]; exact hT
  have W1 : KWR s1 z := by rw [← e1]; exact hW
  have p1 : s1.v 20 = p := by rw [← e1]; exact hp
  have v0 : s1.v 0 = s.v 0 := by rw [← e1]; rfl
  have u1 : s1.u 0 = 0 := by rw [← e1]; rfl
  have K1 : FrK [20] s s1 := by rw [← e1]; exact FrK.rfl.su
  have ecb : cb s1 p = cb s p := by rw [← e1]; rfl
  rw [p1] at hs
  by_cases c : p.toInt = (s.v 0).toInt
  · rw [kb_out h0 (by rw [v0]; omega), bindI_some, if_pos rfl] at hs
    cases hs
    have c4 : ¬ p < z.v 4 := fun q => by
      have := ti_lt q
      rw [← hT.1] at this
      omega
    rw [zb_out hT (by omega), bindI_some, if_neg c4, bindP_id, ztok_eq hv10] at hz
    cases hz
    refine ⟨K1, Or.inl ⟨rfl, ?_⟩⟩
    have e4 : z.v 4 = p := Int32.toInt_inj.mp (by rw [← hT.1]; omega)
    rw [e4]
  · have c' : p.toInt < (s.v 0).toInt := by omega
    have nb : ¬ IsBl (cb s p) := by
      rcases hnb with q | q
      · exact absurd q c
      · exact q
    have bnd := and255 (s.f 1 p.toNatClampNeg)
    have nm1 : ¬ cb s p = -1 := fun q => by
      have : ((s.f 1 p.toNatClampNeg) &&& 255).toInt = -1 := by
        show (cb s p).toInt = -1
        rw [q]
        decide
      omega
    rw [kb_in T1 h0 (by rw [v0]; exact c'), bindI_some, ecb, if_neg nm1] at hs
    have c4 : p < z.v 4 := by
      rw [← hT.1]
      exact Int32.lt_iff_toInt_lt.mpr c'
    rw [zb_in hT h0 c', bindI_some, if_pos c4, if_neg (fun q => nb (Or.inl q)), if_neg (fun q => nb (Or.inr (Or.inl q))), if_neg (fun q => nb (Or.inr (Or.inr (Or.inl q)))), if_neg (fun q => nb (Or.inr (Or.inr (Or.inr q))))] at hz
    by_cases l : IsLe (cb s p)
    · rw [(kle_yes l).1, bindP_some, if_neg z_one, bindI_id] at hs
      rw [(kle_yes l).2, bindP_some, if_neg z_one] at hz
      obtain ⟨F, n2, kd, v, nm, a1, a2, a3, a4, a5, a6⟩ := tok_letters T1 W1 hv10 p1 h0 (by rw [v0]; exact c') u1 (by rw [ecb]; exact l) hs hz
      rw [v0] at a6
      exact ⟨K1.trans F (by decide), Or.inr ⟨n2, kd, v, nm, m, a1, a2, fun q => absurd q a3, a4, a5, a6⟩⟩
    · rw [(kle_no l).1, bindP_some, if_pos rfl] at hs
      rw [(kle_no l).2, bindP_some, if_pos rfl] at hz
      by_cases d : IsDi (cb s p)
      · rw [(kdi_yes d).1, bindP_some, if_neg z_one, bindI_id] at hs
        rw [(kdi_yes d).2, bindP_some, if_neg z_one] at hz
        obtain ⟨F, n2, kd, v, nm, a1, a2, a3, a4, a5, a6⟩ := tok_digits T1 hv10 p1 h0 (by rw [v0]; exact c') u1 (by rw [ecb]; exact d) hs hz
        rw [v0] at a6
        exact ⟨K1.trans F (by decide), Or.inr ⟨n2, kd, v, nm, m, a1, a2, a3, fun q => absurd q a4, a5, a6⟩⟩
      · rw [(kdi_no d).1, bindP_some, if_pos rfl] at hs
        rw [(kdi_no d).2, bindP_some, if_pos rfl] at hz
        obtain ⟨s10, e10, hs⟩ := letS_inv hs
        obtain ⟨r12, hi, hs⟩ := bindP_inv hs
        have ap : (p + 1).toInt = p.toInt + 1 := tn_add rfl (by decide) (by omega) (by omega)
        have v20 : s10.v 20 = p + 1 := by rw [← e10, ← p1]; rfl
        have K10 : FrK [20] s s10 := by rw [← e10]; exact K1.sv (by decide)
        have hz : r_cut_7L m (ztok z (sgk (cb s p)) p 0 0) (p + 1) = some out := by
          obtain ⟨r14, z13, hb, hz2⟩ := bindI_inv hz
          have ez : z13 = z := by
            by_cases q : (p + 1).toInt < (s.v 0).toInt
            · rw [zb_in hT (by omega) q] at hb
              cases hb
              rfl
            · rw [zb_out hT (by omega)] at hb
              cases hb
              rfl
          subst ez
          rw [sign_z hv10, bindI_some] at hz2
          exact hz2
        have fin : p.toInt < (s10.v 20).toInt ∧ (s10.v 20).toInt ≤ (s.v 0).toInt := by rw [v20]; omega
        rcases sign_k bnd.1 bnd.2 hi with ⟨r1, r2⟩ | ⟨r1, j, r2, r3⟩
        · rw [if_pos r1] at hs
          cases hs
          refine ⟨K10, Or.inr ⟨by decide, _, 0, 0, m, by rw [v20]; exact hz, ⟨(303, 3), by decide, rfl, sgk_no r2⟩, fun q => absurd q (by decide), fun q => absurd q (by decide), fin.1, fin.2⟩⟩
        · rw [if_neg r1] at hs
          cases hs
          obtain ⟨w1, w2, w3, w4⟩ := kpl_sign j r2
          rw [r3] at w1 w2 w3 w4
          exact ⟨K10, Or.inr ⟨w4, _, 0, 0, m, by rw [v20]; exact hz, ⟨_, w1, rfl, rfl⟩, fun q => absurd q w3, fun q => absurd q w2, fin.1, fin.2⟩⟩
/-! the reference goes on behind what is no token: what stands before stays -/
theorem pt_tok {z : RS} {Q : RS → Prop} {k7 : RS → Int32 → Option RS} (hk : ∀ (kd pl v : Int32) (nm : Int64) (x : Int32), Pt (k7 (ztok z kd pl v nm) x) Q) (kd pl v : Int32) (nm : Int64) (x : Int32) : Pt (bindP (r_token z kd pl v nm) fun s1 => r_cut_291 k7 s1 x) Q := by
  intro y h
  obtain ⟨t, h1, h2⟩ := bindP_inv h
  have et : t = ztok z kd pl v nm := by
    have e : r_token z kd pl v nm = (if vpb (z.v 10) 403 then (if vpb (z.v 10) 403 then (if vpb (z.v 10) 403 then (if vpb (z.v 10) 403 then some (ztok z kd pl v nm) else none) else none) else none) else none) := rfl
    rw [e] at h1
    obtain ⟨_, h1⟩ := guard_inv h1
    obtain ⟨_, h1⟩ := guard_inv h1
    obtain ⟨_, h1⟩ := guard_inv h1
    obtain ⟨_, h1⟩ := guard_inv h1
    cases h1
    rfl
  subst et
  exact hk _ _ _ _ _ y h2
theorem pt_byte {z : RS} (x : Int32) : Pt (r_byteAt z x) (fun y => y.2 = z) := by
  unfold r_byteAt
  exact pt_ite (fun _ => pt_some rfl) (fun _ => pt_ite (fun _ => pt_some rfl) (fun _ => pt_none))
theorem pt_146 {z : RS} {Q : RS → Prop} {k7 : RS → Int32 → Option RS} (hk : ∀ (kd pl v : Int32) (nm : Int64) (x : Int32), Pt (k7 (ztok z kd pl v nm) x) Q) (p x3 : Int32) (nm : Int64) : ∀ (n : Nat) (x6 x7 : Int32), Pt (r_cut_146L k7 n z p x3 nm x6 x7) Q := by
  intro n
  induction n with
  | zero => intro x6 x7; exact pt_none
  | succ n ih =>
    intro x6 x7
    show Pt (r_cut_146 k7 (r_cut_146L k7 n) z p x3 nm x6 x7) _
    unfold r_cut_146 r_cut_173
    refine pt_ite (fun _ => ?_) (fun _ => pt_ite (fun _ => ?_) (fun _ => pt_none))
    · exact pt_tok hk _ _ _ _ _
    · exact pt_ite (fun _ => ih _ _) (fun _ => ih _ _)
theorem pt_85 {z : RS} {Q : RS → Prop} {k7 : RS → Int32 → Option RS} (hk : ∀ (kd pl v : Int32) (nm : Int64) (x : Int32), Pt (k7 (ztok z kd pl v nm) x) Q) (p : Int32) : ∀ (n : Nat) (x3 : Int32) (nm : Int64), Pt (r_cut_85L k7 n z p x3 nm) Q := by
  intro n
  induction n with
  | zero => intro x3 nm; exact pt_none
  | succ n ih =>
    intro x3 nm
    show Pt (r_cut_85 k7 (r_cut_85L k7 n) z p x3 nm) _
    unfold r_cut_85
    refine pt_bindI (pt_byte (z := z) _) (fun r s h => ?_)
    have h : s = z := h
    subst h
    refine pt_bindP (P := fun _ => True) (fun _ _ => trivial) (fun r3 _ => ?_)
    have ex : ∀ t0, Pt (r_cut_135 k7 s p x3 nm t0) Q := fun t0 => by
      unfold r_cut_135
      exact pt_ite (fun _ => pt_tok hk _ _ _ _ _) (fun _ => pt_146 hk _ _ _ _ _ _)
    refine pt_ite (fun _ => pt_ite (fun _ => ex _) (fun _ => ex _)) (fun _ => ?_)
    unfold r_cut_118
    refine pt_ite (fun _ => ih _ _) (fun _ => ?_)
    refine pt_bindI (pt_byte (z := s) _) (fun r s2 h => ?_)
    have h : s2 = s := h
    subst h
    exact pt_bindP (P := fun _ => True) (fun _ _ => trivial) (fun r9 _ => ih _ _)
theorem pt_208 {z : RS} {Q : RS → Prop} {k7 : RS → Int32 → Option RS} (hk : ∀ (kd pl v : Int32) (nm : Int64) (x : Int32), Pt (k7 (ztok z kd pl v nm) x) Q) (p : Int32) : ∀ (n : Nat) (x3 x4 : Int32), Pt (r_cut_208L k7 n z p x3 x4) Q := by
  intro n
  induction n with
  | zero => intro x3 x4; exact pt_none
  | succ n ih =>
    intro x3 x4
    show Pt (r_cut_208 k7 (r_cut_208L k7 n) z p x3 x4) _
    unfold r_cut_208
    refine pt_bindI (pt_byte (z := z) _) (fun r s h => ?_)
    have h : s = z := h
    subst h
    refine pt_bindP (P := fun _ => True) (fun _ _ => trivial) (fun r3 _ => ?_)
    have ex : ∀ t0, Pt (r_cut_261 k7 s p x3 x4 t0) Q := fun t0 => by
      unfold r_cut_261
      exact pt_tok hk _ _ _ _ _
    refine pt_ite (fun _ => pt_ite (fun _ => ex _) (fun _ => ex _)) (fun _ => ?_)
    unfold r_cut_244
    refine pt_ite (fun _ => ih _ _) (fun _ => ?_)
    refine pt_bindI (pt_byte (z := s) _) (fun r s2 h => ?_)
    have h : s2 = s := h
    subst h
    exact ih _ _
def Bef (z y : RS) : Prop := ∀ j : Nat, (j : Int) < (z.v 10).toInt → y.f 5 j = z.f 5 j ∧ y.f 6 j = z.f 6 j ∧ y.f 7 j = z.f 7 j ∧ y.g 8 j = z.g 8 j
theorem cut_before : ∀ (m : Nat) (z : RS) (x : Int32), Pt (r_cut_7L m z x) (Bef z) := by
  intro m
  induction m with
  | zero => intro z x; exact pt_none
  | succ m ih =>
    intro z x
    show Pt (r_cut_7 (r_cut_7L m) z x) _
    unfold r_cut_7
    refine pt_ite (fun _ => pt_some (fun j _ => ⟨rfl, rfl, rfl, rfl⟩)) (fun c => ?_)
    have c := tn_nlt (a := 400) (by decide) rfl c
    have a : ((z.v 10) + 1).toInt = (z.v 10).toInt + 1 := tn_add rfl (by decide) (by have := (ti_rng (z.v 10)).1; omega) (by omega)
    have st : ∀ (kd pl v : Int32) (nm : Int64), Bef z (ztok z kd pl v nm) := fun kd pl v nm j hj => by
      have ne : ¬ j = (z.v 10).toNatClampNeg := fun q => by
        have e : (z.v 10).toInt.toNat = (z.v 10).toNatClampNeg := Int32.toNat_toInt _
        omega
      refine ⟨?_, ?_, ?_, ?_⟩
      · show upd (z.f 5) (z.v 10).toNatClampNeg kd j = _
        exact upd_ne ne
      · show upd (z.f 6) (z.v 10).toNatClampNeg pl j = _
        exact upd_ne ne
      · show upd (z.f 7) (z.v 10).toNatClampNeg v j = _
        exact upd_ne ne
      · show vp_updL (z.g 8) (z.v 10).toNatClampNeg nm j = _
        unfold vp_updL
        exact if_neg ne
    have hk : ∀ (kd pl v : Int32) (nm : Int64) (x : Int32), Pt (r_cut_7L m (ztok z kd pl v nm) x) (Bef z) := by
      intro kd pl v nm x y h j hj
      have q := ih _ _ y h j (by show (j : Int) < ((z.v 10) + 1).toInt; omega)
      have w := st kd pl v nm j hj
      exact ⟨q.1.trans w.1, q.2.1.trans w.2.1, q.2.2.1.trans w.2.2.1, q.2.2.2.trans w.2.2.2⟩
    refine pt_bindI (pt_byte (z := z) _) (fun r s h => ?_)
    have h : s = z := h
    subst h
    refine pt_ite (fun _ => ?_) (fun _ => ?_)
    · have bl : Pt (r_cut_67 (r_cut_7L m) s x) (Bef s) := by
        unfold r_cut_67 r_cut_291
        exact ih s _
      refine pt_ite (fun _ => bl) (fun _ => pt_ite (fun _ => bl) (fun _ => pt_ite (fun _ => bl) (fun _ => pt_ite (fun _ => bl) (fun _ => ?_))))
      refine pt_bindP (P := fun _ => True) (fun _ _ => trivial) (fun r9 _ => ?_)
      refine pt_ite (fun _ => ?_) (fun _ => pt_85 hk _ _ _ _)
      refine pt_bindP (P := fun _ => True) (fun _ _ => trivial) (fun r11 _ => ?_)
      refine pt_ite (fun _ => ?_) (fun _ => pt_208 hk _ _ _ _)
      refine pt_bindI (pt_byte (z := s) _) (fun r s2 h => ?_)
      have h : s2 = s := h
      subst h
      intro y hy
      obtain ⟨r16, s15, h15, hy⟩ := bindI_inv hy
      have h95 : ∀ k, Pt (r_sign_95 s2 x k) (fun y => ∃ kd pl v nm, y.2 = ztok s2 kd pl v nm) := fun k => by
        unfold r_sign_95
        intro q hq
        obtain ⟨t, h1, h2⟩ := bindP_inv hq
        cases h2
        have e : r_token s2 k x 0 0 = (if vpb (s2.v 10) 403 then (if vpb (s2.v 10) 403 then (if vpb (s2.v 10) 403 then (if vpb (s2.v 10) 403 then some (ztok s2 k x 0 0) else none) else none) else none) else none) := rfl
        rw [e] at h1
        obtain ⟨_, h1⟩ := guard_inv h1
        obtain ⟨_, h1⟩ := guard_inv h1
        obtain ⟨_, h1⟩ := guard_inv h1
        obtain ⟨_, h1⟩ := guard_inv h1
        cases h1
        exact ⟨k, x, 0, 0, rfl⟩
      have hsg : ∀ c d, Pt (r_sign s2 x c d) (fun y => ∃ kd pl v nm, y.2 = ztok s2 kd pl v nm) := fun c d => by
        unfold r_sign r_sign_43 r_sign_55 r_sign_65 r_sign_75 r_sign_85
        repeat' (first | exact h95 _ | refine pt_ite (fun _ => ?_) (fun _ => ?_))
      obtain ⟨kd, pl, v, nm, e15⟩ := hsg _ _ _ h15
      have e15 : s15 = ztok s2 kd pl v nm := e15
      subst e15
      exact hk _ _ _ _ _ y hy
    · intro y hy
      rw [bindP_id] at hy
      have e : r_token s 0 (s.v 4) 0 0 = (if vpb (s.v 10) 403 then (if vpb (s.v 10) 403 then (if vpb (s.v 10) 403 then (if vpb (s.v 10) 403 then some (ztok s 0 (s.v 4) 0 0) else none) else none) else none) else none) := rfl
      rw [e] at hy
      obtain ⟨_, hy⟩ := guard_inv hy
      obtain ⟨_, hy⟩ := guard_inv hy
      obtain ⟨_, hy⟩ := guard_inv hy
      obtain ⟨_, hy⟩ := guard_inv hy
      cases hy
      exact st _ _ _ _
