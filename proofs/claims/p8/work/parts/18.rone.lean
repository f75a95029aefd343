/-! ===== one sentence, the whole text ===== -/
theorem mu_adv {s y : RS} (h : Adv s y) : mu y ≤ mu s := by
  have h1 := h.1
  have h2 := h.2
  unfold mu
  omega
theorem ok_roomFor (s : RS) (a b : Int32) (hI : InvR s) (hz : (s.v 13).toInt = 0) : Ok (r_roomFor s a b) (fun y => InvR y ∧ FrR [11, 13, 14] s y ∧ Adv s y ∧ mu y < mu s ∧ ((y.v 13).toInt = 0 → ¬ a = b)) := by
  have ht : 0 ≤ (s.v 11).toInt ∧ (s.v 11).toInt ≤ 400 := hI.1 11
  unfold r_roomFor
  refine ok_ite (fun c => ?_) (fun c => ?_)
  · refine ok_bindP (ok_fail s 2 hI (by decide) (by decide)) (fun y hy => ?_)
    obtain ⟨Iy, Fy, f1, f2⟩ := hy
    have fy : 0 ≤ (y.v 13).toInt ∧ (y.v 13).toInt ≤ 2 := Iy.1 13
    have e11 : y.v 11 = s.v 11 := Fy.1 11 (by decide)
    unfold r_roomFor_10
    refine ok_ite (fun c2 => ?_) (fun _ => ?_)
    · have := fz c2
      omega
    · exact ok_some ⟨Iy, FrR.rfl.trans Fy (by decide), ⟨by rw [e11]; exact Int.le_refl _, f2⟩, by unfold mu; rw [e11]; omega, fun q => by omega⟩
  · unfold r_roomFor_10
    refine ok_ite (fun _ => ?_) (fun c2 => absurd (fz' hz) c2)
    refine ok_bindP (ok_goesOn s hI) (fun y hy => ?_)
    obtain ⟨Iy, Fy, st⟩ := hy
    have fy : 0 ≤ (y.v 13).toInt ∧ (y.v 13).toInt ≤ 2 := Iy.1 13
    have ty : 0 ≤ (y.v 11).toInt ∧ (y.v 11).toInt ≤ 400 := Iy.1 11
    unfold Step at st
    exact ok_some ⟨Iy, Fy, ⟨by omega, by omega⟩, by unfold mu; omega, fun _ => c⟩
abbrev WRD : List Nat := [11, 12, 13, 14, 15, 16, 29, 35, 39, 120, 121, 122, 123, 124, 125, 126, 127, 128, 130, 131, 132, 133, 134, 136, 137, 138]
abbrev WFA : List Nat := [12, 19, 29, 35, 120, 121, 127, 128, 130, 131, 132, 133, 134, 136, 137]
def OddsS (sd : Nat) (f20 f21 : Nat → Int32) : Prop := ∀ w : Nat, (w : Int) < (f20 sd).toInt → (∀ v : Nat, v < 6 → 0 ≤ (f21 (30 * sd + 6 * w + v)).toInt ∧ (f21 (30 * sd + 6 * w + v)).toInt ≤ 9) ∧ 0 < psum f21 (30 * sd + 6 * w) 6
def LawS (sd c b : Nat) (s : RS) : Prop := ∀ k : Nat, k < 4 → s.f 27 (4 * sd + k) = s.f 28 (4 * sd + k) ∨ ∃ p q : Nat, (s.f 27 (4 * sd + k)).toInt = ((130 * sd + p : Nat) : Int) ∧ (s.f 28 (4 * sd + k)).toInt = ((130 * sd + q : Nat) : Int) ∧ q ≤ b ∧ BS sd s p q c
/-- the other side of the text stays -/
def Far (sd : Nat) (s0 s : RS) : Prop := Out (420 * sd) (420 * sd + 402) s0 s ∧ OutB (130 * sd) (130 * sd + 103) s0 s ∧ (∀ j, (j < 4 * sd ∨ 4 * sd + 4 ≤ j) → s.f 27 j = s0.f 27 j ∧ s.f 28 j = s0.f 28 j) ∧ (∀ j, ¬ j = sd → s.f 20 j = s0.f 20 j) ∧ (∀ j, (j < 30 * sd ∨ 30 * sd + 30 ≤ j) → s.f 21 j = s0.f 21 j)
theorem Far.rfl {sd : Nat} {s : RS} : Far sd s s := ⟨Out.rfl, OutB.rfl, fun _ _ => ⟨Eq.refl _, Eq.refl _⟩, fun _ _ => Eq.refl _, fun _ _ => Eq.refl _⟩
theorem Far.trans {sd : Nat} {s y z : RS} (h : Far sd s y) (h2 : Far sd y z) : Far sd s z := ⟨h.1.trans h2.1 (Nat.le_refl _), h.2.1.trans h2.2.1 (Nat.le_refl _), fun j hj => ⟨(h2.2.2.1 j hj).1.trans (h.2.2.1 j hj).1, (h2.2.2.1 j hj).2.trans (h.2.2.1 j hj).2⟩, fun j hj => (h2.2.2.2.1 j hj).trans (h.2.2.2.1 j hj), fun j hj => (h2.2.2.2.2 j hj).trans (h.2.2.2.2 j hj)⟩
theorem Far.fr {sd : Nat} {s y : RS} {W : List Nat} (h : FrR W s y) (hW : ∀ k ∈ WFA, k ∉ W) : Far sd s y := by
  have e (k : Nat) (hk : 100 + k ∈ WFA) : y.f k = s.f k := (h.2 k (hW _ hk)).1
  exact ⟨Out.fr h (hW _ (by decide)) (hW _ (by decide)), OutB.fr h (hW _ (by decide)) (hW _ (by decide)) (hW _ (by decide)) (hW _ (by decide)) (hW _ (by decide)), fun j _ => ⟨by rw [e 27 (by decide)], by rw [e 28 (by decide)]⟩, fun j _ => by rw [e 20 (by decide)], fun j _ => by rw [e 21 (by decide)]⟩
theorem LawS.keep {sd c b c' b' : Nat} {s y : RS} (h : LawS sd c b s) (e1 : y.f 27 = s.f 27) (e2 : y.f 28 = s.f 28) (hO : Out (420 * sd + c) (420 * sd + 402) s y) (hB : OutB (130 * sd + b) (130 * sd + 103) s y) (hc : c ≤ c') (hb : b ≤ b') : LawS sd c' b' y := by
  intro k hk
  rw [e1, e2]
  rcases h k hk with e | ⟨p, q, h1, h2, h3, h4⟩
  · exact Or.inl e
  · exact Or.inr ⟨p, q, h1, h2, by omega, h4.keep hO (fun j hj => hB j (by omega)) hc⟩
/-- the reading, between two sentences -/
def RD (s0 : RS) (sd c b : Nat) (s : RS) : Prop := LWS sd s c b ∧ b ≤ 102 ∧ FrR WRD s0 s ∧ Far sd s0 s ∧ ((s.v 13).toInt = 0 → (4 * b : Int) ≤ (s.v 11).toInt ∧ LawS sd c b s) ∧ ((s.v 13).toInt = 0 → (s.v 15).toInt = 0 → OddsS sd (s.f 20) (s.f 21))
theorem RD.fr {s0 s y : RS} {sd c b : Nat} {W : List Nat} (h : RD s0 sd c b s) (hI : InvR y) (hF : FrR W s y) (hA : Adv s y) (hM : WM s y) (hW : ∀ k ∈ W, k ∈ WRD) (hW2 : ∀ k ∈ WFA, k ∉ W) : RD s0 sd c b y := by
  obtain ⟨L, hb, F, R, Z, O⟩ := h
  have e (k : Nat) (hk : 100 + k ∈ WFA) : y.f k = s.f k := (hF.2 k (hW2 _ hk)).1
  have f0 : 0 ≤ (s.v 13).toInt ∧ (s.v 13).toInt ≤ 2 := L.1.1 13
  have a1 := hA.1
  have a2 := hA.2
  refine ⟨L.fr hI hF hA (hW2 19 (by decide)) (hW2 35 (by decide)) (hW2 29 (by decide)) (hW2 12 (by decide)), hb, F.trans hF hW, R.trans (Far.fr hF hW2), fun q => ?_, fun q1 q2 => ?_⟩
  · obtain ⟨z1, z2⟩ := Z (by omega)
    exact ⟨by omega, z2.keep (e 27 (by decide)) (e 28 (by decide)) (Out.fr hF (hW2 _ (by decide)) (hW2 _ (by decide))) (OutB.fr hF (hW2 _ (by decide)) (hW2 _ (by decide)) (hW2 _ (by decide)) (hW2 _ (by decide)) (hW2 _ (by decide))) (Nat.le_refl _) (Nat.le_refl _)⟩
  · rw [e 20 (by decide), e 21 (by decide)]
    exact O (by omega) (Decidable.byContradiction (fun h => hM h q2))
theorem RD.wave {s0 s y : RS} {sd c b w0 : Nat} (h : RD s0 sd c b s) (hz : (s.v 13).toInt = 0) (hw : w0 ≤ 4) (hw0 : (s.f 20 sd).toInt = (w0 : Int)) (T : TV sd w0 s y) : RD s0 sd c b y := by
  obtain ⟨L, hb, F, R, Z, O⟩ := h
  obtain ⟨Iy, Fy, Ay, My, ⟨z, e20, hz1⟩, hO, hn⟩ := T
  have a1 := Ay.1
  have oc : Out (420 * sd + c) (420 * sd + 402) s y := Out.fr Fy (by decide) (by decide)
  have ob : OutB (130 * sd + b) (130 * sd + 103) s y := OutB.fr Fy (by decide) (by decide) (by decide) (by decide) (by decide)
  refine ⟨L.fr Iy Fy Ay (by decide) (by decide) (by decide) (by decide), hb, F.trans Fy (by decide), R.trans ⟨Out.fr Fy (by decide) (by decide), OutB.fr Fy (by decide) (by decide) (by decide) (by decide) (by decide), fun j _ => ⟨by rw [(Fy.2 27 (by decide)).1], by rw [(Fy.2 28 (by decide)).1]⟩, fun j hj => by rw [e20, upd_ne hj], fun j hj => hO j (by omega)⟩, fun _ => ?_, fun q1 q2 => ?_⟩
  · obtain ⟨z1, z2⟩ := Z hz
    exact ⟨by omega, z2.keep (Fy.2 27 (by decide)).1 (Fy.2 28 (by decide)).1 oc ob (Nat.le_refl _) (Nat.le_refl _)⟩
  · intro w hwl
    rw [e20, upd_same, hz1] at hwl
    by_cases ew : w = w0
    · rw [ew]
      exact hn q1 q2
    · have old := O hz (Decidable.byContradiction (fun h => My h q2)) w (by omega)
      refine ⟨fun v hv => by rw [hO _ (Or.inl (by omega))]; exact old.1 v hv, ?_⟩
      rw [psum_congr (f := y.f 21) (g := s.f 21) 6 (fun j hj => hO _ (Or.inl (by omega)))]
      exact old.2
theorem RD.law {s0 s y : RS} {sd c b k : Nat} (h : RD s0 sd c b s) (hk : k < 4) (T : TL sd c b k s y) : ∃ c' b', RD s0 sd c' b' y := by
  obtain ⟨L, hb, F, R, Z, O⟩ := h
  obtain ⟨c', b', hc, hbb, hb2, L', F', Oc, Ob, A', hne, hq⟩ := T
  have f0 : 0 ≤ (s.v 13).toInt ∧ (s.v 13).toInt ≤ 2 := L.1.1 13
  have a2 := A'.2
  refine ⟨c', b', L', hb2, F.trans F' (by decide), R.trans ⟨fun j hj => Oc j (by omega), fun j hj => Ob j (by omega), fun j hj => ?_, fun j _ => by rw [(F'.2 20 (by decide)).1], fun j _ => by rw [(F'.2 21 (by decide)).1]⟩, fun q => ?_, fun q1 q2 => ?_⟩
  · by_cases q : (y.v 13).toInt = 0
    · obtain ⟨_, _, z1, z2, e1, e2, _, _⟩ := hq q
      rw [e1, e2, upd_ne (by omega), upd_ne (by omega)]
      exact ⟨rfl, rfl⟩
    · rw [(hne q).1, (hne q).2]
      exact ⟨rfl, rfl⟩
  · obtain ⟨h4, hBS, z1, z2, e1, e2, n1, n2⟩ := hq q
    refine ⟨h4, fun k' hk' => ?_⟩
    rw [e1, e2]
    by_cases ek : k' = k
    · rw [ek, upd_same, upd_same]
      exact Or.inr ⟨b, b', n1, n2, Nat.le_refl _, hBS⟩
    · rw [upd_ne (by omega), upd_ne (by omega)]
      rcases (Z (by omega)).2 k' hk' with e | ⟨p, q', h1, h2, h3, h4⟩
      · exact Or.inl e
      · exact Or.inr ⟨p, q', h1, h2, by omega, h4.keep Oc (fun j hj => Ob j (by omega)) hc⟩
  · rw [(F'.2 20 (by decide)).1, (F'.2 21 (by decide)).1]
    exact O (by omega) (by rw [← F'.1 15 (by decide)]; exact q2)
theorem ok_tellOne_165 (s0 : RS) (sd c b k : Nat) (s : RS) (x1 : Int32) (h : RD s0 sd c b s) (hz : (s.v 13).toInt = 0) (hk : k < 4) (hx1 : x1.toInt = (k : Int)) : Ok (r_tellOne_165 s x1) (fun y => (∃ c' b', RD s0 sd c' b' y) ∧ mu y < mu s) := by
  have hI : InvR s := h.1.1
  have ht : 0 ≤ (s.v 11).toInt ∧ (s.v 11).toInt ≤ 400 := hI.1 11
  have h4 := (h.2.2.2.2.1 hz).1
  unfold r_tellOne_165
  refine ok_ite (fun _ => ?_) (fun c => ?_)
  · refine ok_bindP (ok_goesOn s hI) (fun y hy => ?_)
    obtain ⟨Iy, Fy, st⟩ := hy
    have fy : 0 ≤ (y.v 13).toInt ∧ (y.v 13).toInt ≤ 2 := Iy.1 13
    have ty : 0 ≤ (y.v 11).toInt ∧ (y.v 11).toInt ≤ 400 := Iy.1 11
    unfold Step at st
    have Ay : Adv s y := ⟨by omega, by omega⟩
    have Ry : RD s0 sd c b y := h.fr Iy Fy Ay (WM.fr Fy (by decide)) (by decide) (by decide)
    have my : mu y < mu s := by unfold mu; omega
    refine ok_bindP (ok_tellLaw sd k y c b x1 hk hx1 Ry.1 (by omega) (fun q => by omega)) (fun z T => ?_)
    have Az : Adv y z := by
      obtain ⟨_, _, _, _, _, _, _, _, _, A, _, _⟩ := T
      exact A
    exact ok_some ⟨Ry.law hk T, Nat.lt_of_le_of_lt (mu_adv Az) my⟩
  · have c := tn_nle (b := 0) rfl (by decide) c
    omega
theorem ok_tellOne_160 (s0 : RS) (sd c b : Nat) (s : RS) (x1 : Int32) (h : RD s0 sd c b s) (hz : (s.v 13).toInt = 0) : Ok (r_tellOne_160 s x1) (fun y => (∃ c' b', RD s0 sd c' b' y) ∧ mu y < mu s) := by
  have hI : InvR s := h.1.1
  have ht : 0 ≤ (s.v 11).toInt ∧ (s.v 11).toInt ≤ 400 := hI.1 11
  unfold r_tellOne_160
  refine ok_bindP (ok_fail s 1 hI (by decide) (by decide)) (fun y hy => ?_)
  obtain ⟨Iy, Fy, f1, f2⟩ := hy
  have fy : 0 ≤ (y.v 13).toInt ∧ (y.v 13).toInt ≤ 2 := Iy.1 13
  have e11 : y.v 11 = s.v 11 := Fy.1 11 (by decide)
  have Ay : Adv s y := ⟨by rw [e11]; exact Int.le_refl _, f2⟩
  unfold r_tellOne_165
  refine ok_ite (fun c => ?_) (fun _ => ?_)
  · have c := tn_le (b := 0) rfl (by decide) c
    omega
  · exact ok_some ⟨⟨c, b, h.fr Iy Fy Ay (WM.fr Fy (by decide)) (by decide) (by decide)⟩, by unfold mu; rw [e11]; omega⟩
theorem ok_tellOne (s0 : RS) (sd c b : Nat) (s : RS) (h : RD s0 sd c b s) (hz : (s.v 13).toInt = 0) : Ok (r_tellOne s) (fun y => (∃ c' b', RD s0 sd c' b' y) ∧ mu y < mu s) := by
  have hI : InvR s := h.1.1
  have hsd : sd ≤ 1 := h.1.2.2.1
  have h19 : (s.v 19).toInt = (sd : Int) := h.1.2.1
  have ec : (s.v 19).toNatClampNeg = sd := clamp_of_int h19
  have ht : 0 ≤ (s.v 11).toInt ∧ (s.v 11).toInt ≤ 400 := hI.1 11
  have hkd : 0 ≤ (s.f 5 (s.v 11).toNatClampNeg).toInt ∧ (s.f 5 (s.v 11).toNatClampNeg).toInt ≤ 38 := hI.2 5 _
  unfold r_tellOne
  refine ok_grd (vpb_ok (by omega) (by omega)) ?_
  generalize s.f 5 (s.v 11).toNatClampNeg = kd at hkd ⊢
  refine ok_ite (fun _ => ?_) (fun _ => ?_)
  · refine ok_grd (vpb_ok (by omega) (by omega)) ?_
    rw [ec]
    have hr : 0 ≤ (s.f 20 sd).toInt ∧ (s.f 20 sd).toInt ≤ 5 := hI.2 20 _
    refine ok_bindP (ok_roomFor s (s.f 20 sd) 5 hI hz) (fun y hy => ?_)
    obtain ⟨Iy, Fy, Ay, my, hne⟩ := hy
    have Ry : RD s0 sd c b y := h.fr Iy Fy Ay (WM.fr Fy (by decide)) (by decide) (by decide)
    refine ok_ite (fun c2 => ?_) (fun _ => ok_some ⟨⟨c, b, Ry⟩, my⟩)
    have c2 := fz c2
    have n5 := tn_ne (b := 5) rfl (by decide) (hne c2)
    have e20 : y.f 20 = s.f 20 := (Fy.2 20 (by decide)).1
    have hw0 : (y.f 20 sd).toInt = (((s.f 20 sd).toInt.toNat : Nat) : Int) := by rw [e20]; omega
    refine ok_bindP (ok_tellWave sd _ y hsd (by omega) Ry.1.2.1 hw0 Iy) (fun z T => ?_)
    exact ok_some ⟨⟨c, b, Ry.wave c2 (by omega) hw0 T⟩, Nat.lt_of_le_of_lt (mu_adv T.2.2.1) my⟩
  refine ok_ite (fun _ => ?_) (fun _ => ?_)
  · refine ok_grd (vpb_ok (by omega) (by omega)) ?_
    rw [ec]
    have hr : 0 ≤ (s.f 23 sd).toInt ∧ (s.f 23 sd).toInt ≤ 6 := hI.2 23 _
    refine ok_bindP (ok_roomFor s (s.f 23 sd) 6 hI hz) (fun y hy => ?_)
    obtain ⟨Iy, Fy, Ay, my, hne⟩ := hy
    have Ry : RD s0 sd c b y := h.fr Iy Fy Ay (WM.fr Fy (by decide)) (by decide) (by decide)
    refine ok_ite (fun c2 => ?_) (fun _ => ok_some ⟨⟨c, b, Ry⟩, my⟩)
    have c2 := fz c2
    have n5 := tn_ne (b := 6) rfl (by decide) (hne c2)
    have e23 : y.f 23 = s.f 23 := (Fy.2 23 (by decide)).1
    have hp0 : (y.f 23 sd).toInt = (((s.f 23 sd).toInt.toNat : Nat) : Int) := by rw [e23]; omega
    refine ok_bindP (ok_tellParty sd _ y hsd (by omega) Ry.1.2.1 hp0 Iy) (fun z T => ?_)
    exact ok_some ⟨⟨c, b, Ry.fr T.1 T.2.1 T.2.2.1 T.2.2.2 (by decide) (by decide)⟩, Nat.lt_of_le_of_lt (mu_adv T.2.2.1) my⟩
  refine ok_ite (fun _ => ?_) (fun _ => ?_)
  · refine ok_bindP (ok_goesOn s hI) (fun y hy => ?_)
    obtain ⟨Iy, Fy, st⟩ := hy
    have fy : 0 ≤ (y.v 13).toInt ∧ (y.v 13).toInt ≤ 2 := Iy.1 13
    have ty : 0 ≤ (y.v 11).toInt ∧ (y.v 11).toInt ≤ 400 := Iy.1 11
    unfold Step at st
    have Ay : Adv s y := ⟨by omega, by omega⟩
    have my : mu y < mu s := by unfold mu; omega
    have Ry : RD s0 sd c b y := h.fr Iy Fy Ay (WM.fr Fy (by decide)) (by decide) (by decide)
    have e19 : y.v 19 = s.v 19 := Fy.1 19 (by decide)
    refine ok_bindI (ok_bounded y 9999 Iy) (fun r z hz => ?_)
    have I1 : InvR z := hz.1
    have F1 : FrR WB y z := hz.2.1
    have A1 : Adv y z := hz.2.2.1
    have M1 : WM y z := hz.2.2.2.1
    have Rz : RD s0 sd c b z := Ry.fr I1 F1 A1 M1 (by decide) (by decide)
    refine ok_grd (vpb_ok (by rw [e19]; omega) (by rw [e19]; omega)) ?_
    refine ok_let (fun u hu => ?_)
    have Iu : InvR u := by rw [← hu]; exact I1.sfF (k := 26) rfl rfl
    have Fu : FrR [126] z u := by rw [← hu]; exact FrR.rfl.sf (k := 26) (by decide)
    have Au : Adv z u := Adv.fr Fu (by decide) (by decide)
    have Ru : RD s0 sd c b u := Rz.fr Iu Fu Au (WM.fr Fu (by decide)) (by decide) (by decide)
    refine ok_bindP (ok_must u 4 Iu) (fun t ht => ?_)
    obtain ⟨It, Ft, At, _⟩ := ht
    exact ok_some ⟨⟨c, b, Ru.fr It Ft At (WM.fr Ft (by decide)) (by decide) (by decide)⟩, Nat.lt_of_le_of_lt (mu_adv ((A1.trans Au).trans At)) my⟩
  refine ok_grd (vpb_ok (by omega) (by omega)) ?_
  have a : (kd - 22).toInt = kd.toInt - 22 := tn_sub rfl (by decide) (by omega) (by omega)
  refine ok_ite (fun _ => ok_tellOne_160 s0 sd c b s _ h hz) (fun c1 => ?_)
  have c1 := tn_nlt (b := 0) rfl (by decide) c1
  refine ok_grd (vpb_ok (by omega) (by omega)) ?_
  refine ok_ite (fun c2 => ?_) (fun _ => ok_tellOne_160 s0 sd c b s _ h hz)
  have c2 := tn_le (b := 25) rfl (by decide) c2
  exact ok_tellOne_165 s0 sd c b ((kd - 22).toInt.toNat) s _ h hz (by omega) (by omega)
