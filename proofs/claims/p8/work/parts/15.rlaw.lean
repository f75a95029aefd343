/-! ===== a law is read: its branches are well formed ===== -/
/-- where the reading stands: side, codes, branches, what is open -/
def LWS (sd : Nat) (s : RS) (c b : Nat) : Prop := InvR s ∧ (s.v 19).toInt = (sd : Int) ∧ sd ≤ 1 ∧ (s.v 35).toInt = ((420 * sd + c : Nat) : Int) ∧ (s.v 29).toInt = ((130 * sd + b : Nat) : Int) ∧ 0 ≤ (s.v 12).toInt ∧ (s.v 12).toInt ≤ 7 ∧ ((s.v 13).toInt = 0 → (s.v 12).toInt = 0) ∧ (c : Int) ≤ (s.v 11).toInt + 1 ∧ ((s.v 13).toInt = 0 → (c : Int) ≤ (s.v 11).toInt)
theorem LWS.fr {sd : Nat} {s y : RS} {c b : Nat} {W : List Nat} (h : LWS sd s c b) (hI : InvR y) (hF : FrR W s y) (hA : Adv s y) (h1 : 19 ∉ W) (h2 : 35 ∉ W) (h3 : 29 ∉ W) (h4 : 12 ∉ W) : LWS sd y c b := by
  obtain ⟨_, k1, k2, k3, k4, k5, k6, k7, k8, k9⟩ := h
  have hf : 0 ≤ (s.v 13).toInt ∧ (s.v 13).toInt ≤ 2 := by have := ‹InvR s›.1 13; exact this
  have ha := hA.1
  have hb := hA.2
  refine ⟨hI, by rw [hF.1 19 h1]; exact k1, k2, by rw [hF.1 35 h2]; exact k3, by rw [hF.1 29 h3]; exact k4, by rw [hF.1 12 h4]; exact k5, by rw [hF.1 12 h4]; exact k6, fun q => by rw [hF.1 12 h4]; exact k7 (by omega), by omega, fun q => by have := k9 (by omega); omega⟩
theorem LWS.must {sd : Nat} {s : RS} {c b : Nat} (k : Int32) (h : LWS sd s c b) : Ok (r_must s k) (fun y => LWS sd y c b ∧ FrR [11, 13, 14] s y ∧ Adv s y ∧ ((y.v 13).toInt = 0 → (y.v 11).toInt = (s.v 11).toInt + 1)) := by
  refine ok_weak (ok_must s k h.1) (fun y hy => ?_)
  exact ⟨h.fr hy.1 hy.2.1 hy.2.2.1 (by decide) (by decide) (by decide) (by decide), hy.2.1, hy.2.2.1, hy.2.2.2⟩
theorem LWS.goesOn {sd : Nat} {s : RS} {c b : Nat} (h : LWS sd s c b) : Ok (r_goesOn s) (fun y => LWS sd y c b ∧ FrR [11, 13, 14] s y ∧ Adv s y ∧ Step s y) := by
  refine ok_weak (ok_goesOn s h.1) (fun y hy => ?_)
  have hA : Adv s y := by
    rcases hy.2.2 with q | q
    · exact ⟨by omega, by omega⟩
    · exact ⟨by omega, by omega⟩
  exact ⟨h.fr hy.1 hy.2.1 hA (by decide) (by decide) (by decide) (by decide), hy.2.1, hA, hy.2.2⟩
theorem LWS.expr {sd : Nat} {s : RS} {c b : Nat} (h : LWS sd s c b) : Ok (r_expression s) (fun y => ∃ c', c ≤ c' ∧ LWS sd y c' b ∧ FrR WE s y ∧ Out (420 * sd + c) (420 * sd + 402) s y ∧ Adv s y ∧ ((y.v 13).toInt = 0 → (s.v 11).toInt + 1 ≤ (y.v 11).toInt ∧ dep (y.f 36) (y.f 37) (c' - c) (420 * sd + c) 0 = some 1)) := by
  obtain ⟨hI, k1, k2, k3, k4, k5, k6, k7, k8, k9⟩ := h
  have hf : 0 ≤ (s.v 13).toInt ∧ (s.v 13).toInt ≤ 2 := hI.1 13
  refine ok_weak (ok_expression sd c s hI k1 k2 k3 k5 k6 (fun q => by rw [k7 q]; decide) k8 k9) (fun y hy => ?_)
  obtain ⟨hIy, hF, hO, hA, h0, h7, c', e35, hc, hc1, hz⟩ := hy
  refine ⟨c', by omega, ⟨hIy, by rw [hF.1 19 (by decide)]; exact k1, k2, e35, by rw [hF.1 29 (by decide)]; exact k4, h0, h7, fun q => ?_, hc1, fun q => (hz q).1⟩, hF, hO, hA, fun q => ⟨(hz q).2.2.1, ?_⟩⟩
  · rw [(hz q).2.1]
    exact k7 (by have := hA.2; omega)
  · have := (hz q).2.2.2
    rw [show 420 * sd + c' - (420 * sd + c) = c' - c by omega] at this
    exact this
theorem LWS.sf {sd : Nat} {s : RS} {c b k i : Nat} {x : Int32} (h : LWS sd s c b) (h1 : loFR k = -2147483648) (h2 : hiFR k = 2147483647) : LWS sd (s.sf k i x) c b := ⟨h.1.sfF h1 h2, h.2⟩
theorem seg_of {sd c c' : Nat} {cd ci : Nat → Int32} {a b : Int32} (h1 : a.toInt = ((420 * sd + c : Nat) : Int)) (h2 : b.toInt = ((420 * sd + c' : Nat) : Int)) (hc : c ≤ c') (hc4 : c' ≤ 400) (hd : dep cd ci (c' - c) (420 * sd + c) 0 = some 1) : Seg (420 * sd) (420 * sd + c') cd ci a b :=
  ⟨420 * sd + c, c' - c, h1, by omega, by omega, by omega, by omega, 1, hd⟩
theorem Seg.keep {lo hi c c' sd : Nat} {s y : RS} {a b : Int32} (h : Seg lo (420 * sd + c) (s.f 36) (s.f 37) a b) (hO : Out (420 * sd + c) hi s y) (hc : c ≤ c') : Seg lo (420 * sd + c') (y.f 36) (y.f 37) a b := by
  obtain ⟨p, n, h1, h2, h3, h4, h5, d, h6⟩ := h
  refine ⟨p, n, h1, h2, h3, by omega, h5, d, ?_⟩
  rw [← h6]
  exact dep_congr n p 0 (fun j q1 q2 => hO j (Or.inl (by omega)))
theorem Seg.wide {lo hi hi' : Nat} {cd ci : Nat → Int32} {a b : Int32} (h : Seg lo hi cd ci a b) (hh : hi ≤ hi') : Seg lo hi' cd ci a b := by
  obtain ⟨p, n, h1, h2, h3, h4, h5, d, h6⟩ := h
  exact ⟨p, n, h1, h2, h3, by omega, h5, d, h6⟩
abbrev WTM : List Nat := [11, 12, 13, 14, 29, 35, 39, 133, 134, 136, 137, 138]
theorem LWS.term {sd : Nat} {s : RS} {c b : Nat} (h : LWS sd s c b) (hb : b ≤ 128) : Ok (r_term s) (fun y => ∃ c' z1 z2, c ≤ c' ∧ LWS sd y c' (b + 1) ∧ FrR WTM s y ∧ Out (420 * sd + c) (420 * sd + 402) s y ∧ Adv s y ∧ y.f 33 = upd (s.f 33) (130 * sd + b) z1 ∧ y.f 34 = upd (s.f 34) (130 * sd + b) z2 ∧ z1.toInt = ((420 * sd + c : Nat) : Int) ∧ z2.toInt = ((420 * sd + c' : Nat) : Int) ∧ ((y.v 13).toInt = 0 → (s.v 11).toInt + 1 ≤ (y.v 11).toInt ∧ dep (y.f 36) (y.f 37) (c' - c) (420 * sd + c) 0 = some 1)) := by
  have h0 := h
  obtain ⟨hI, k1, k2, k3, k4, k5, k6, k7, k8, k9⟩ := h
  unfold r_term
  have ec : (s.v 29).toNatClampNeg = 130 * sd + b := clamp_of_int k4
  rw [ec]
  refine ok_grd (vpb_ok (by omega) (by omega)) ?_
  refine ok_let (fun s2 hs2 => ?_)
  have L2 : LWS sd s2 c b := by rw [← hs2]; exact h0.sf rfl rfl
  have hF2 : FrR [133] s s2 := by rw [← hs2]; exact FrR.rfl.sf (k := 33) (by decide)
  have e33 : s2.f 33 = upd (s.f 33) (130 * sd + b) (s.v 35) := by rw [← hs2]; rfl
  have A2 : Adv s s2 := ⟨by rw [hF2.1 11 (by decide)]; exact Int.le_refl _, by rw [hF2.1 13 (by decide)]; exact Int.le_refl _⟩
  have fin : ∀ (s5 : RS) (c' : Nat), c ≤ c' → LWS sd s5 c' b → FrR WE s2 s5 → Out (420 * sd + c) (420 * sd + 402) s2 s5 → Adv s2 s5 → ((s5.v 13).toInt = 0 → (s2.v 11).toInt + 1 ≤ (s5.v 11).toInt ∧ dep (s5.f 36) (s5.f 37) (c' - c) (420 * sd + c) 0 = some 1) → Ok (r_term_24 s5) (fun y => ∃ c' z1 z2, c ≤ c' ∧ LWS sd y c' (b + 1) ∧ FrR WTM s y ∧ Out (420 * sd + c) (420 * sd + 402) s y ∧ Adv s y ∧ y.f 33 = upd (s.f 33) (130 * sd + b) z1 ∧ y.f 34 = upd (s.f 34) (130 * sd + b) z2 ∧ z1.toInt = ((420 * sd + c : Nat) : Int) ∧ z2.toInt = ((420 * sd + c' : Nat) : Int) ∧ ((y.v 13).toInt = 0 → (s.v 11).toInt + 1 ≤ (y.v 11).toInt ∧ dep (y.f 36) (y.f 37) (c' - c) (420 * sd + c) 0 = some 1)) := by
    intro s5 c' hcc L5 hF5 hO5 hA5 hz5
    obtain ⟨hI5, j1, j2, j3, j4, j5, j6, j7, j8, j9⟩ := L5
    unfold r_term_24
    have ec5 : (s5.v 29).toNatClampNeg = 130 * sd + b := clamp_of_int j4
    rw [ec5]
    refine ok_grd (vpb_ok (by omega) (by omega)) ?_
    refine ok_let (fun s6 hs6 => ?_)
    refine ok_let (fun s7 hs7 => ?_)
    have e629 : s6.v 29 = s5.v 29 := by rw [← hs6]; rfl
    have a : ((s6.v 29) + 1).toInt = (s6.v 29).toInt + 1 := tn_add rfl (by decide) (by rw [e629]; omega) (by rw [e629]; omega)
    rw [e629] at a
    have hF57 : FrR [29, 134] s5 s7 := by rw [← hs7, ← hs6]; exact (FrR.rfl.sf (k := 34) (by decide)).sv (k := 29) (by decide)
    have hI7 : InvR s7 := by rw [← hs7, ← hs6]; exact (hI5.sfF (k := 34) rfl rfl).svF (k := 29) rfl rfl
    have e7 (k : Nat) (hk : k ∉ [29, 134]) : s7.v k = s5.v k := hF57.1 k hk
    have e7f (k : Nat) (hk : 100 + k ∉ [29, 134]) : s7.f k = s5.f k := (hF57.2 k hk).1
    have e729 : s7.v 29 = (s5.v 29) + 1 := by rw [← hs7, ← e629]; rfl
    have e734 : s7.f 34 = upd (s5.f 34) (130 * sd + b) (s5.v 35) := by rw [← hs7, ← hs6]; rfl
    have L7 : LWS sd s7 c' (b + 1) := ⟨hI7, by rw [e7 19 (by decide)]; exact j1, j2, by rw [e7 35 (by decide)]; exact j3, by rw [e729, a]; omega, by rw [e7 12 (by decide)]; exact j5, by rw [e7 12 (by decide)]; exact j6, by rw [e7 12 (by decide), e7 13 (by decide)]; exact j7, by rw [e7 11 (by decide)]; exact j8, by rw [e7 11 (by decide), e7 13 (by decide)]; exact j9⟩
    have A7 : Adv s s7 := ⟨by rw [e7 11 (by decide)]; exact Int.le_trans A2.1 hA5.1, by rw [e7 13 (by decide)]; exact Int.le_trans A2.2 hA5.2⟩
    refine ok_some ⟨c', s.v 35, s5.v 35, hcc, L7, ((FrR.rfl.trans (W := WTM) hF2 (by decide)).trans hF5 (by decide)).trans hF57 (by decide), ?_, A7, ?_, ?_, k3, j3, ?_⟩
    · exact ((Out.fr hF2 (by decide) (by decide)).trans hO5 (Nat.le_refl _)).trans (Out.fr hF57 (by decide) (by decide)) (Nat.le_refl _)
    · rw [e7f 33 (by decide), (hF5.2 33 (by decide)).1, e33]
    · rw [e734, (hF5.2 34 (by decide)).1, (hF2.2 34 (by decide)).1]
    · rw [e7 13 (by decide), e7 11 (by decide), e7f 36 (by decide), e7f 37 (by decide), ← hF2.1 11 (by decide)]
      exact hz5
  refine ok_ite (fun _ => ?_) (fun c1 => ?_)
  · refine ok_bindP L2.expr (fun s5 hs5 => ?_)
    obtain ⟨c', q1, q2, q3, q4, q5, q6⟩ := hs5
    exact fin s5 c' q1 q2 q3 q4 q5 q6
  · have c1 := tn_ne (b := 0) rfl (by decide) c1
    exact fin s2 c (Nat.le_refl _) L2 FrR.rfl Out.rfl ⟨Int.le_refl _, Int.le_refl _⟩ (fun q => absurd q c1)
abbrev WTL : List Nat := [11, 12, 13, 14, 29, 35, 39, 127, 128, 130, 131, 132, 133, 134, 136, 137, 138]
/-- outside of the new branches all is as it was -/
def OutB (lo hi : Nat) (s y : RS) : Prop := ∀ j, (j < lo ∨ hi ≤ j) → y.f 30 j = s.f 30 j ∧ y.f 31 j = s.f 31 j ∧ y.f 32 j = s.f 32 j ∧ y.f 33 j = s.f 33 j ∧ y.f 34 j = s.f 34 j
theorem OutB.rfl {lo hi : Nat} {s : RS} : OutB lo hi s s := fun _ _ => ⟨Eq.refl _, Eq.refl _, Eq.refl _, Eq.refl _, Eq.refl _⟩
theorem OutB.trans {lo hi lo' : Nat} {s y z : RS} (h : OutB lo hi s y) (h2 : OutB lo' hi y z) (hl : lo ≤ lo') : OutB lo hi s z := fun j hj => by
  have a := h j hj
  have b := h2 j (by omega)
  exact ⟨b.1.trans a.1, b.2.1.trans a.2.1, b.2.2.1.trans a.2.2.1, b.2.2.2.1.trans a.2.2.2.1, b.2.2.2.2.trans a.2.2.2.2⟩
theorem OutB.fr {lo hi : Nat} {W : List Nat} {s y : RS} (h : FrR W s y) (h0 : 130 ∉ W) (h1 : 131 ∉ W) (h2 : 132 ∉ W) (h3 : 133 ∉ W) (h4 : 134 ∉ W) : OutB lo hi s y := fun j _ => ⟨by rw [(h.2 30 h0).1], by rw [(h.2 31 h1).1], by rw [(h.2 32 h2).1], by rw [(h.2 33 h3).1], by rw [(h.2 34 h4).1]⟩
theorem OutB.put {lo hi i : Nat} {s y : RS} (hi1 : lo ≤ i) (hi2 : i < hi) (h : ∀ j, ¬ j = i → y.f 30 j = s.f 30 j ∧ y.f 31 j = s.f 31 j ∧ y.f 32 j = s.f 32 j ∧ y.f 33 j = s.f 33 j ∧ y.f 34 j = s.f 34 j) : OutB lo hi s y := fun j hj => h j (by omega)
/-- the branches of a law, from the first on, as far as they are read -/
def BS (sd : Nat) (s : RS) (b0 b c : Nat) : Prop := ∀ j, 130 * sd + b0 ≤ j → j < 130 * sd + b → BrOK (420 * sd) (420 * sd + c) (s.f 30) (s.f 31) (s.f 32) (s.f 33) (s.f 34) (s.f 36) (s.f 37) j
theorem BS.keep {sd b0 b c c' : Nat} {s y : RS} (h : BS sd s b0 b c) (hO : Out (420 * sd + c) (420 * sd + 402) s y) (hB : OutB (130 * sd + b) (130 * sd + 103) s y) (hc : c ≤ c') : BS sd y b0 b c' := by
  intro j h1 h2
  obtain ⟨e0, e1, e2, e3, e4⟩ := hB j (Or.inl h2)
  have hj := h j h1 h2
  unfold BrOK at hj ⊢
  rw [e0, e1, e2, e3, e4]
  exact ⟨fun q => ⟨(hj.1 q).1.keep hO hc, (hj.1 q).2.keep hO hc⟩, hj.2.keep hO hc⟩
theorem BS.snoc {sd b0 b c : Nat} {s : RS} (h : BS sd s b0 b c) (hj : BrOK (420 * sd) (420 * sd + c) (s.f 30) (s.f 31) (s.f 32) (s.f 33) (s.f 34) (s.f 36) (s.f 37) (130 * sd + b)) : BS sd s b0 (b + 1) c := by
  intro j h1 h2
  by_cases e : j = 130 * sd + b
  · rw [e]; exact hj
  · exact h j h1 (by omega)
theorem upd_same {f : Nat → Int32} {i : Nat} {x : Int32} : upd f i x i = x := by unfold upd; rw [if_pos rfl]
theorem upd_ne {f : Nat → Int32} {i j : Nat} {x : Int32} (h : ¬ j = i) : upd f i x j = f j := by unfold upd; rw [if_neg h]
abbrev WTH : List Nat := [11, 12, 13, 14, 29, 35, 39, 130, 131, 132, 133, 134, 136, 137, 138]
/-- what a law's reading leaves -/
def TL (sd c0 b0 k : Nat) (s0 y : RS) : Prop := ∃ c b, c0 ≤ c ∧ b0 ≤ b ∧ b ≤ 102 ∧ LWS sd y c b ∧ FrR WTL s0 y ∧ Out (420 * sd + c0) (420 * sd + 402) s0 y ∧ OutB (130 * sd + b0) (130 * sd + 103) s0 y ∧ Adv s0 y ∧ (¬ (y.v 13).toInt = 0 → y.f 27 = s0.f 27 ∧ y.f 28 = s0.f 28) ∧ ((y.v 13).toInt = 0 → (4 * b : Int) ≤ (y.v 11).toInt ∧ BS sd y b0 b c ∧ ∃ z1 z2, y.f 27 = upd (s0.f 27) (4 * sd + k) z1 ∧ y.f 28 = upd (s0.f 28) (4 * sd + k) z2 ∧ z1.toInt = ((130 * sd + b0 : Nat) : Int) ∧ z2.toInt = ((130 * sd + b : Nat) : Int))
/-- where a law's reading stands at its head -/
def TLH (sd c0 b0 : Nat) (s0 s : RS) (c b : Nat) : Prop := LWS sd s c b ∧ c0 ≤ c ∧ b0 ≤ b ∧ b ≤ 101 ∧ FrR WTH s0 s ∧ Out (420 * sd + c0) (420 * sd + 402) s0 s ∧ OutB (130 * sd + b0) (130 * sd + 103) s0 s ∧ Adv s0 s ∧ ((s.v 13).toInt = 0 → (4 * b + 2 : Int) ≤ (s.v 11).toInt ∧ BS sd s b0 b c)
theorem Adv.trans {s y z : RS} (h : Adv s y) (h2 : Adv y z) : Adv s z := ⟨Int.le_trans h.1 h2.1, Int.le_trans h.2 h2.2⟩
theorem Adv.rfl {s : RS} : Adv s s := ⟨Int.le_refl _, Int.le_refl _⟩
theorem Adv.fr {s y : RS} {W : List Nat} (h : FrR W s y) (h1 : 11 ∉ W) (h2 : 13 ∉ W) : Adv s y := ⟨by rw [h.1 11 h1]; exact Int.le_refl _, by rw [h.1 13 h2]; exact Int.le_refl _⟩
theorem ok_tellLaw_129 (sd c0 b0 k : Nat) (s0 s : RS) (c b : Nat) (x1 x2 : Int32) (hk : k < 4) (hx1 : x1.toInt = (k : Int)) (hx2 : x2.toInt = ((130 * sd + b0 : Nat) : Int)) (h : TLH sd c0 b0 s0 s c b) : Ok (r_tellLaw_129 s x1 x2) (TL sd c0 b0 k s0) := by
  obtain ⟨L, hc, hb0, hb, hF, hO, hB, hA, hz⟩ := h
  have L0 := L
  obtain ⟨hI, k1, k2, k3, k4, k5, k6, k7, k8, k9⟩ := L0
  unfold r_tellLaw_129
  have ec : (s.v 29).toNatClampNeg = 130 * sd + b := clamp_of_int k4
  rw [ec]
  refine ok_grd (vpb_ok (by omega) (by omega)) ?_
  refine ok_let (fun s2 hs2 => ?_)
  have L2 : LWS sd s2 c b := by rw [← hs2]; exact L.sf rfl rfl
  have hF2 : FrR [130] s s2 := by rw [← hs2]; exact FrR.rfl.sf (k := 30) (by decide)
  have e230 : s2.f 30 = upd (s.f 30) (130 * sd + b) (vp_nar .boolean 0) := by rw [← hs2]; rfl
  refine ok_bindP (L2.term (by omega)) (fun s4 h4 => ?_)
  obtain ⟨c', z1, z2, q1, L4, hF4, hO4, hA4, e33, e34, hz1, hz2, hd⟩ := h4
  refine ok_bindP (L4.must 4) (fun s5 h5 => ?_)
  obtain ⟨L5, hF5, hA5, ht5⟩ := h5
  have e5 (q : Nat) (hq : q ∉ [11, 13, 14]) : s5.v q = s4.v q := hF5.1 q hq
  have e5f (q : Nat) (hq : 100 + q ∉ [11, 13, 14]) : s5.f q = s4.f q := (hF5.2 q hq).1
  have A5 : Adv s0 s5 := ((hA.trans (Adv.fr hF2 (by decide) (by decide))).trans hA4).trans hA5
  have F5 : FrR WTH s0 s5 := ((hF.trans hF2 (by decide)).trans hF4 (by decide)).trans hF5 (by decide)
  have O5 : Out (420 * sd + c0) (420 * sd + 402) s0 s5 := ((hO.trans (Out.fr hF2 (by decide) (by decide)) (Nat.le_refl _)).trans hO4 (by omega)).trans (Out.fr hF5 (by decide) (by decide)) (Nat.le_refl _)
  have B45 : OutB (130 * sd + b) (130 * sd + 103) s s5 := by
    refine OutB.put (i := 130 * sd + b) (Nat.le_refl _) (by omega) (fun j hj => ?_)
    rw [e5f 30 (by decide), e5f 31 (by decide), e5f 32 (by decide), e5f 33 (by decide), e5f 34 (by decide), (hF4.2 30 (by decide)).1, (hF4.2 31 (by decide)).1, (hF4.2 32 (by decide)).1, e33, e34, e230, (hF2.2 31 (by decide)).1, (hF2.2 32 (by decide)).1, (hF2.2 33 (by decide)).1, (hF2.2 34 (by decide)).1, upd_ne hj, upd_ne hj, upd_ne hj]
    exact ⟨rfl, rfl, rfl, rfl, rfl⟩
  have B5 : OutB (130 * sd + b0) (130 * sd + 103) s0 s5 := hB.trans B45 (by omega)
  have hf5 : 0 ≤ (s5.v 13).toInt ∧ (s5.v 13).toInt ≤ 2 := L5.1.1 13
  have hf : 0 ≤ (s.v 13).toInt ∧ (s.v 13).toInt ≤ 2 := hI.1 13
  have hf4 : 0 ≤ (s4.v 13).toInt ∧ (s4.v 13).toInt ≤ 2 := L4.1.1 13
  refine ok_ite (fun c1 => ?_) (fun c1 => ?_)
  · have c1 := tn_le (b := 0) rfl (by decide) c1
    have hz5 : (s5.v 13).toInt = 0 := by omega
    have a45 := hA5.2
    have a24 := hA4.2
    have e213 : s2.v 13 = s.v 13 := hF2.1 13 (by decide)
    have e211 : s2.v 11 = s.v 11 := hF2.1 11 (by decide)
    rw [e213] at a24
    have hzs : (s.v 13).toInt = 0 := by omega
    have hz4 : (s4.v 13).toInt = 0 := by omega
    obtain ⟨ht, hBS⟩ := hz hzs
    obtain ⟨ht4, hdep⟩ := hd hz4
    rw [e211] at ht4
    have ht5' := ht5 hz5
    have hc4 : (c' : Int) ≤ (s4.v 11).toInt := L4.2.2.2.2.2.2.2.2.2 hz4
    have ht4b : (s4.v 11).toInt ≤ 400 := (L4.1.1 11).2
    have hBS5 : BS sd s5 b0 (b + 1) c' := by
      have h1 : BS sd s5 b0 b c' := hBS.keep ((((Out.fr hF2 (by decide) (by decide) : Out (420 * sd + c) (420 * sd + 402) s s2).trans hO4 (Nat.le_refl _))).trans (Out.fr hF5 (by decide) (by decide)) (Nat.le_refl _)) B45 q1
      refine h1.snoc ?_
      unfold BrOK
      rw [e5f 30 (by decide), e5f 33 (by decide), e5f 34 (by decide), e5f 36 (by decide), e5f 37 (by decide), (hF4.2 30 (by decide)).1, e230, e33, e34, upd_same, upd_same, upd_same]
      exact ⟨fun q => absurd (by decide +kernel) q, seg_of hz1 hz2 q1 (by omega) hdep⟩
    have h19 : (s5.v 19).toInt = (sd : Int) := L5.2.1
    have a4 : (4 * (s5.v 19)).toInt = (s5.v 19).toInt * 4 := ti_cmul (c := 4) (by decide) (by omega) (by omega)
    have a5 : ((4 * (s5.v 19)) + x1).toInt = (4 * (s5.v 19)).toInt + x1.toInt := ti_add (by omega) (by omega)
    have ec5 : ((4 * (s5.v 19)) + x1).toNatClampNeg = 4 * sd + k := clamp_of_int (by omega)
    refine ok_grd (vpb_ok (by omega) (by omega)) ?_
    rw [ec5]
    refine ok_let (fun s8 hs8 => ?_)
    have e819 : s8.v 19 = s5.v 19 := by rw [← hs8]; rfl
    rw [e819, ec5]
    refine ok_grd (vpb_ok (by omega) (by omega)) ?_
    refine ok_let (fun s11 hs11 => ?_)
    have F511 : FrR [127, 128] s5 s11 := by rw [← hs11, ← hs8]; exact (FrR.rfl.sf (k := 27) (by decide)).sf (k := 28) (by decide)
    have I11 : InvR s11 := by rw [← hs11, ← hs8]; exact (L5.1.sfF (k := 27) rfl rfl).sfF (k := 28) rfl rfl
    have A511 : Adv s5 s11 := Adv.fr F511 (by decide) (by decide)
    have L11 : LWS sd s11 c' (b + 1) := L5.fr I11 F511 A511 (by decide) (by decide) (by decide) (by decide)
    have B511 : OutB (130 * sd + (b + 1)) (130 * sd + 103) s5 s11 := OutB.fr F511 (by decide) (by decide) (by decide) (by decide) (by decide)
    refine ok_some ⟨c', b + 1, by omega, by omega, by omega, L11, (FrR.rfl.trans (W := WTL) F5 (by decide)).trans F511 (by decide), O5.trans (Out.fr F511 (by decide) (by decide)) (Nat.le_refl _), B5.trans B511 (by omega), A5.trans A511, fun q => absurd (by rw [F511.1 13 (by decide)]; exact hz5) q, fun _ => ⟨by rw [F511.1 11 (by decide)]; omega, hBS5.keep (Out.fr F511 (by decide) (by decide)) B511 (Nat.le_refl _), x2, s5.v 29, ?_, ?_, hx2, by rw [L5.2.2.2.2.1]⟩⟩
    · rw [← hs11, ← hs8, ← (F5.2 27 (by decide)).1]; rfl
    · have e829 : s8.v 29 = s5.v 29 := by rw [← hs8]; rfl
      rw [← hs11, e829, ← hs8, ← (F5.2 28 (by decide)).1]; rfl
  · have c1 := tn_nle (b := 0) rfl (by decide) c1
    exact ok_some ⟨c', b + 1, by omega, by omega, by omega, L5, FrR.rfl.trans (W := WTL) F5 (by decide), O5, B5, A5, fun _ => ⟨(F5.2 27 (by decide)).1, (F5.2 28 (by decide)).1⟩, fun q => by omega⟩
theorem ok_tellLaw_38 (sd c0 b0 k : Nat) (s0 : RS) (k12 : RS → Int32 → Int32 → Int32 → Option RS) (M : Nat) (x1 x2 : Int32) (hk : ∀ (s : RS) (c b : Nat) (x3 : Int32), TLH sd c0 b0 s0 s c b → mu s < M → Ok (k12 s x1 x2 x3) (TL sd c0 b0 k s0)) (s : RS) (c b : Nat) (x3 : Int32) (h : TLH sd c0 b0 s0 s c b) (hM : mu s ≤ M) : Ok (r_tellLaw_38 k12 s x1 x2 x3) (TL sd c0 b0 k s0) := by
  obtain ⟨L, hc, hb0, hb, hF, hO, hB, hA, hz⟩ := h
  have hf : 0 ≤ (s.v 13).toInt ∧ (s.v 13).toInt ≤ 2 := L.1.1 13
  have ht400 : 0 ≤ (s.v 11).toInt ∧ (s.v 11).toInt ≤ 400 := L.1.1 11
  have hsd1 : sd ≤ 1 := L.2.2.1
  unfold r_tellLaw_38
  refine ok_ite (fun c1 => ?_) (fun c1 => ?_)
  · have c1 := tn_le (b := 0) rfl (by decide) c1
    have hzs : (s.v 13).toInt = 0 := by omega
    obtain ⟨ht, hBS⟩ := hz hzs
    refine ok_bindP L.goesOn (fun s2 h2 => ?_)
    obtain ⟨L2, hF2, hA2, hst⟩ := h2
    have ec2 : (s2.v 29).toNatClampNeg = 130 * sd + b := clamp_of_int L2.2.2.2.2.1
    have g29 := L2.2.2.2.2.1
    rw [ec2]
    refine ok_grd (vpb_ok (by omega) (by omega)) ?_
    refine ok_let (fun s4 hs4 => ?_)
    have L4 : LWS sd s4 c b := by rw [← hs4]; exact L2.sf rfl rfl
    have hF4 : FrR [130] s2 s4 := by rw [← hs4]; exact FrR.rfl.sf (k := 30) (by decide)
    have e429 : s4.v 29 = s2.v 29 := by rw [← hs4]; rfl
    rw [e429, ec2]
    refine ok_grd (vpb_ok (by omega) (by omega)) ?_
    refine ok_let (fun s7 hs7 => ?_)
    have L7 : LWS sd s7 c b := by rw [← hs7]; exact L4.sf rfl rfl
    have hF7 : FrR [131] s4 s7 := by rw [← hs7]; exact FrR.rfl.sf (k := 31) (by decide)
    have e731 : s7.f 31 = upd (s4.f 31) (130 * sd + b) (s4.v 35) := by rw [← hs7]; rfl
    refine ok_bindP L7.expr (fun s9 h9 => ?_)
    obtain ⟨c9, q9, L9, hF9, hO9, hA9, hd9⟩ := h9
    refine ok_bindP (L9.must 13) (fun s10 h10 => ?_)
    obtain ⟨L10, hF10, hA10, ht10⟩ := h10
    have ec10 : (s10.v 29).toNatClampNeg = 130 * sd + b := clamp_of_int L10.2.2.2.2.1
    have g29' := L10.2.2.2.2.1
    rw [ec10]
    refine ok_grd (vpb_ok (by omega) (by omega)) ?_
    refine ok_let (fun s12 hs12 => ?_)
    have L12 : LWS sd s12 c9 b := by rw [← hs12]; exact L10.sf rfl rfl
    have hF12 : FrR [132] s10 s12 := by rw [← hs12]; exact FrR.rfl.sf (k := 32) (by decide)
    have e1232 : s12.f 32 = upd (s10.f 32) (130 * sd + b) (s10.v 35) := by rw [← hs12]; rfl
    have rest : ∀ (s15 : RS) (c15 : Nat), c9 ≤ c15 → LWS sd s15 c15 b → FrR WE s12 s15 → Out (420 * sd + c9) (420 * sd + 402) s12 s15 → Adv s12 s15 → ((s15.v 13).toInt = 0 → (s12.v 11).toInt + 1 ≤ (s15.v 11).toInt ∧ dep (s15.f 36) (s15.f 37) (c15 - c9) (420 * sd + c9) 0 = some 1) → ∀ x3, Ok (r_tellLaw_110 k12 s15 x1 x2 x3) (TL sd c0 b0 k s0) := by
      intro s15 c15 q15 L15 hF15 hO15 hA15 hd15 x3
      unfold r_tellLaw_110
      refine ok_bindP (L15.must 28) (fun s16 h16 => ?_)
      obtain ⟨L16, hF16, hA16, ht16⟩ := h16
      refine ok_bindP (L16.term (by omega)) (fun s17 h17 => ?_)
      obtain ⟨c17, z1, z2, q17, L17, hF17, hO17, hA17, e33, e34, hz1, hz2, hd17⟩ := h17
      refine ok_bindP (L17.must 29) (fun s18 h18 => ?_)
      obtain ⟨L18, hF18, hA18, ht18⟩ := h18
      have A24 : Adv s2 s12 := (((Adv.fr hF4 (by decide) (by decide)).trans (Adv.fr hF7 (by decide) (by decide))).trans (hA9.trans hA10)).trans (Adv.fr hF12 (by decide) (by decide))
      have A12 : Adv s12 s18 := ((hA15.trans hA16).trans hA17).trans hA18
      have A18 : Adv s0 s18 := ((hA.trans hA2).trans A24).trans A12
      have F18 : FrR WTH s0 s18 := (((((((((hF.trans hF2 (by decide)).trans hF4 (by decide)).trans hF7 (by decide)).trans hF9 (by decide)).trans hF10 (by decide)).trans hF12 (by decide)).trans hF15 (by decide)).trans hF16 (by decide)).trans hF17 (by decide)).trans hF18 (by decide)
      have O07 : Out (420 * sd + c) (420 * sd + 402) s s7 := ((Out.fr hF2 (by decide) (by decide)).trans (Out.fr hF4 (by decide) (by decide)) (Nat.le_refl _)).trans (Out.fr hF7 (by decide) (by decide)) (Nat.le_refl _)
      have O12 : Out (420 * sd + c) (420 * sd + 402) s s12 := ((O07.trans hO9 (Nat.le_refl _)).trans (Out.fr hF10 (by decide) (by decide)) (Nat.le_refl _)).trans (Out.fr hF12 (by decide) (by decide)) (Nat.le_refl _)
      have O1218 : Out (420 * sd + c9) (420 * sd + 402) s12 s18 := ((hO15.trans (Out.fr hF16 (by decide) (by decide)) (Nat.le_refl _)).trans hO17 (by omega)).trans (Out.fr hF18 (by decide) (by decide)) (Nat.le_refl _)
      have O1518 : Out (420 * sd + c15) (420 * sd + 402) s15 s18 := ((Out.fr hF16 (by decide) (by decide)).trans hO17 (Nat.le_refl _)).trans (Out.fr hF18 (by decide) (by decide)) (Nat.le_refl _)
      have O918 : Out (420 * sd + c9) (420 * sd + 402) s9 s18 := ((Out.fr hF10 (by decide) (by decide)).trans (Out.fr hF12 (by decide) (by decide)) (Nat.le_refl _)).trans O1218 (Nat.le_refl _)
      have O18 : Out (420 * sd + c) (420 * sd + 402) s s18 := O12.trans O1218 (by omega)
      have f30 : s18.f 30 = s4.f 30 := by rw [(hF18.2 30 (by decide)).1, (hF17.2 30 (by decide)).1, (hF16.2 30 (by decide)).1, (hF15.2 30 (by decide)).1, (hF12.2 30 (by decide)).1, (hF10.2 30 (by decide)).1, (hF9.2 30 (by decide)).1, (hF7.2 30 (by decide)).1]
      have f31 : s18.f 31 = s7.f 31 := by rw [(hF18.2 31 (by decide)).1, (hF17.2 31 (by decide)).1, (hF16.2 31 (by decide)).1, (hF15.2 31 (by decide)).1, (hF12.2 31 (by decide)).1, (hF10.2 31 (by decide)).1, (hF9.2 31 (by decide)).1]
      have f32 : s18.f 32 = s12.f 32 := by rw [(hF18.2 32 (by decide)).1, (hF17.2 32 (by decide)).1, (hF16.2 32 (by decide)).1, (hF15.2 32 (by decide)).1]
      have f33 : s18.f 33 = upd (s16.f 33) (130 * sd + b) z1 := by rw [(hF18.2 33 (by decide)).1, e33]
      have f34 : s18.f 34 = upd (s16.f 34) (130 * sd + b) z2 := by rw [(hF18.2 34 (by decide)).1, e34]
      have k30 : s4.f 30 = upd (s.f 30) (130 * sd + b) (vp_nar .boolean 1) := by rw [← hs4, ← (hF2.2 30 (by decide)).1]; rfl
      have k31 : s7.f 31 = upd (s.f 31) (130 * sd + b) (s4.v 35) := by rw [e731, (hF4.2 31 (by decide)).1, (hF2.2 31 (by decide)).1]
      have k32 : s12.f 32 = upd (s.f 32) (130 * sd + b) (s10.v 35) := by rw [e1232, (hF10.2 32 (by decide)).1, (hF9.2 32 (by decide)).1, (hF7.2 32 (by decide)).1, (hF4.2 32 (by decide)).1, (hF2.2 32 (by decide)).1]
      have k33 : s16.f 33 = s.f 33 := by rw [(hF16.2 33 (by decide)).1, (hF15.2 33 (by decide)).1, (hF12.2 33 (by decide)).1, (hF10.2 33 (by decide)).1, (hF9.2 33 (by decide)).1, (hF7.2 33 (by decide)).1, (hF4.2 33 (by decide)).1, (hF2.2 33 (by decide)).1]
      have k34 : s16.f 34 = s.f 34 := by rw [(hF16.2 34 (by decide)).1, (hF15.2 34 (by decide)).1, (hF12.2 34 (by decide)).1, (hF10.2 34 (by decide)).1, (hF9.2 34 (by decide)).1, (hF7.2 34 (by decide)).1, (hF4.2 34 (by decide)).1, (hF2.2 34 (by decide)).1]
      have B18 : OutB (130 * sd + b) (130 * sd + 103) s s18 := by
        refine OutB.put (i := 130 * sd + b) (Nat.le_refl _) (by omega) (fun j hj => ?_)
        rw [f30, f31, f32, f33, f34, k30, k31, k32, k33, k34, upd_ne hj, upd_ne hj, upd_ne hj, upd_ne hj, upd_ne hj]
        exact ⟨rfl, rfl, rfl, rfl, rfl⟩
      have m2 := hA2.2
      have m2t := hA2.1
      have m24 := A24.2
      have m24t := A24.1
      have m12 := A12.2
      have m15 := hA15.2
      have m16 := hA16.2
      have m17 := hA17.2
      have m18 := hA18.2
      have m15t := hA15.1
      have m9 := hA9.2
      have m10 := hA10.2
      have f18n : 0 ≤ (s18.v 13).toInt ∧ (s18.v 13).toInt ≤ 2 := L18.1.1 13
      have f2n : 0 ≤ (s2.v 13).toInt ∧ (s2.v 13).toInt ≤ 2 := L2.1.1 13
      have t18n : 0 ≤ (s18.v 11).toInt ∧ (s18.v 11).toInt ≤ 400 := L18.1.1 11
      have e711 : s7.v 11 = s2.v 11 := (hF7.1 11 (by decide)).trans (hF4.1 11 (by decide))
      have e713 : s7.v 13 = s2.v 13 := (hF7.1 13 (by decide)).trans (hF4.1 13 (by decide))
      have e1211 : s12.v 11 = s10.v 11 := hF12.1 11 (by decide)
      have e1213 : s12.v 13 = s10.v 13 := hF12.1 13 (by decide)
      have hst' : ((s2.v 11).toInt = (s.v 11).toInt + 1 ∧ (s2.v 13).toInt = (s.v 13).toInt) ∨ ((s.v 11).toInt = 400 ∧ (s2.v 11).toInt = (s.v 11).toInt ∧ 1 ≤ (s2.v 13).toInt ∧ (s.v 13).toInt ≤ (s2.v 13).toInt) := hst
      have hmu : mu s18 < mu s := by
        have m12t := A12.1
        unfold mu
        omega
      refine hk s18 c17 (b + 1) x3 ⟨L18, by omega, by omega, by omega, F18, hO.trans O18 (by omega), hB.trans B18 (by omega), A18, fun hz18 => ?_⟩ (by omega)
      rw [e1213] at m24 m12 m15
      rw [e713] at m9
      have z17 : (s17.v 13).toInt = 0 := by omega
      have z16 : (s16.v 13).toInt = 0 := by omega
      have z15 : (s15.v 13).toInt = 0 := by omega
      have z10 : (s10.v 13).toInt = 0 := by omega
      have z9 : (s9.v 13).toInt = 0 := by omega
      obtain ⟨t9, d9⟩ := hd9 z9
      obtain ⟨t15, d15⟩ := hd15 z15
      obtain ⟨t17, d17⟩ := hd17 z17
      have t10 := ht10 z10
      have t16 := ht16 z16
      have t18 := ht18 hz18
      rw [e711] at t9
      rw [e1211] at t15
      have hc17 : (c17 : Int) ≤ (s17.v 11).toInt := L17.2.2.2.2.2.2.2.2.2 z17
      have t17n : (s17.v 11).toInt ≤ 400 := (L17.1.1 11).2
      refine ⟨by omega, (hBS.keep O18 B18 (by omega)).snoc ?_⟩
      unfold BrOK
      rw [f30, f31, f32, f33, f34, k30, k31, k32, k33, k34, upd_same, upd_same, upd_same, upd_same, upd_same]
      have c435 : (s4.v 35).toInt = ((420 * sd + c : Nat) : Int) := L4.2.2.2.1
      have c1035 : (s10.v 35).toInt = ((420 * sd + c9 : Nat) : Int) := L10.2.2.2.1
      have S1 : Seg (420 * sd) (420 * sd + c9) (s9.f 36) (s9.f 37) (s4.v 35) (s10.v 35) := seg_of c435 c1035 q9 (by omega) d9
      have S2 : Seg (420 * sd) (420 * sd + c15) (s15.f 36) (s15.f 37) (s10.v 35) z1 := seg_of c1035 hz1 q15 (by omega) d15
      have S3 : Seg (420 * sd) (420 * sd + c17) (s17.f 36) (s17.f 37) z1 z2 := seg_of hz1 hz2 q17 (by omega) d17
      exact ⟨fun _ => ⟨S1.keep O918 (by omega), S2.keep O1518 (by omega)⟩, S3.keep (Out.fr hF18 (by decide) (by decide) : Out (420 * sd + c17) (420 * sd + 402) s17 s18) (Nat.le_refl _)⟩
    refine ok_ite (fun _ => ?_) (fun cz => ?_)
    · refine ok_bindP L12.expr (fun s15 h15 => ?_)
      obtain ⟨c15, q15, L15, hF15, hO15, hA15, hd15⟩ := h15
      exact rest s15 c15 q15 L15 hF15 hO15 hA15 hd15 _
    · have cz := tn_ne (b := 0) rfl (by decide) cz
      exact rest s12 c9 (Nat.le_refl _) L12 FrR.rfl Out.rfl Adv.rfl (fun q => absurd q cz) _
  · have c1 := tn_nle (b := 0) rfl (by decide) c1
    exact ok_some ⟨c, b, hc, hb0, by omega, L, FrR.rfl.trans (W := WTL) hF (by decide), hO, hB, hA, fun _ => ⟨(hF.2 27 (by decide)).1, (hF.2 28 (by decide)).1⟩, fun q => by omega⟩
theorem ok_tellLaw_12 (sd c0 b0 k : Nat) (s0 : RS) (x1 x2 : Int32) (hk : k < 4) (hx1 : x1.toInt = (k : Int)) (hx2 : x2.toInt = ((130 * sd + b0 : Nat) : Int)) : ∀ (m : Nat) (s : RS) (c b : Nat) (x3 : Int32), mu s < m → TLH sd c0 b0 s0 s c b → Ok (r_tellLaw_12L m s x1 x2 x3) (TL sd c0 b0 k s0) := by
  intro m
  induction m with
  | zero => intro s c b x3 h; omega
  | succ m ih =>
    intro s c b x3 hm h
    show Ok (r_tellLaw_12 (r_tellLaw_12L m) s x1 x2 x3) _
    unfold r_tellLaw_12
    have hI := h.1.1
    refine ok_ite (fun hz => ?_) (fun _ => ok_tellLaw_129 sd c0 b0 k s0 s c b x1 x2 hk hx1 hx2 h)
    refine ok_is hI (fun _ h27 => ?_) (fun _ => ?_)
    · show Ok (if (1 : Int32) = 0 then _ else _) _
      rw [if_neg z_one]
      refine ok_ite (fun _ => ?_) (fun _ => ?_)
      · refine ok_bindP (ok_fail s 2 hI (by decide) (by decide)) (fun y hc => ?_)
        obtain ⟨hIy, hFy, h1, h2⟩ := hc
        obtain ⟨L, hc, hb0, hb, hF, hO, hB, hA, hzz⟩ := h
        have Ay : Adv s y := ⟨by rw [hFy.1 11 (by decide)]; exact Int.le_refl _, h2⟩
        have Ly : LWS sd y c b := L.fr hIy hFy Ay (by decide) (by decide) (by decide) (by decide)
        have hy : TLH sd c0 b0 s0 y c b := ⟨Ly, hc, hb0, hb, hF.trans hFy (by decide), hO.trans (Out.fr hFy (by decide) (by decide)) (Nat.le_refl _), hB.trans (OutB.fr hFy (by decide) (by decide) (by decide) (by decide) (by decide)) (Nat.le_refl _), hA.trans Ay, fun q => by omega⟩
        have hfs : 0 ≤ (s.v 13).toInt ∧ (s.v 13).toInt ≤ 2 := hI.1 13
        have hfy : 0 ≤ (y.v 13).toInt ∧ (y.v 13).toInt ≤ 2 := hIy.1 13
        have hty : (y.v 11) = s.v 11 := hFy.1 11 (by decide)
        exact ok_tellLaw_38 sd c0 b0 k s0 (r_tellLaw_12L m) (mu s) x1 x2 (fun s' c' b' x3' h' hm' => ih s' c' b' x3' (by omega) h') y c b x3 hy (by unfold mu; rw [hty]; omega)
      · exact ok_tellLaw_38 sd c0 b0 k s0 (r_tellLaw_12L m) (mu s) x1 x2 (fun s' c' b' x3' h' hm' => ih s' c' b' x3' (by omega) h') s c b x3 h (Nat.le_refl _)
    · show Ok (if (0 : Int32) = 0 then _ else _) _
      rw [if_pos rfl]
      exact ok_tellLaw_129 sd c0 b0 k s0 s c b x1 x2 hk hx1 hx2 h
theorem ok_tellLaw (sd k : Nat) (s : RS) (c b : Nat) (x1 : Int32) (hk : k < 4) (hx1 : x1.toInt = (k : Int)) (L : LWS sd s c b) (hb : b ≤ 101) (hz : (s.v 13).toInt = 0 → (4 * b + 1 : Int) ≤ (s.v 11).toInt) : Ok (r_tellLaw s x1) (TL sd c b k s) := by
  unfold r_tellLaw
  refine ok_bindP (L.must 5) (fun s1 h1 => ?_)
  obtain ⟨L1, hF1, hA1, ht1⟩ := h1
  have hf : 0 ≤ (s.v 13).toInt ∧ (s.v 13).toInt ≤ 2 := L.1.1 13
  have a := hA1.2
  refine ok_tellLaw_12 sd c b k s x1 _ hk hx1 L1.2.2.2.2.1 fu s1 c b 0 (by have := mu_le s1 L1.1; unfold fu; omega) ⟨L1, Nat.le_refl _, Nat.le_refl _, hb, FrR.rfl.trans hF1 (by decide), Out.fr hF1 (by decide) (by decide), OutB.fr hF1 (by decide) (by decide) (by decide) (by decide) (by decide), hA1, fun q => ⟨?_, fun j q1 q2 => by omega⟩⟩
  have h3 := ht1 q
  have h4 := hz (by omega)
  omega
