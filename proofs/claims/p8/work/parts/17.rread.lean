/-! ===== waves, parties, the whole text ===== -/
def WM (s y : RS) : Prop := ¬ (s.v 15).toInt = 0 → ¬ (y.v 15).toInt = 0
theorem ok_wrong (s : RS) (x1 x2 : Int32) (hI : InvR s) (h3 : 3 ≤ x1.toInt) (h5 : x1.toInt ≤ 5) (h20 : 0 ≤ x2.toInt) (h24 : x2.toInt ≤ 402) : Ok (r_wrong s x1 x2) (fun y => InvR y ∧ FrR [15, 16] s y ∧ WM s y ∧ ((s.v 13).toInt = 0 → ¬ (y.v 15).toInt = 0)) := by
  have hf : 0 ≤ (s.v 13).toInt ∧ (s.v 13).toInt ≤ 2 := hI.1 13
  have set : ∀ p, Ok (r_wrong_46 s x1 p) (fun y => InvR y ∧ FrR [15, 16] s y ∧ WM s y ∧ ((s.v 13).toInt = 0 → ¬ (y.v 15).toInt = 0)) := by
    intro p
    unfold r_wrong_46
    refine ok_let (fun s1 hs1 => ?_)
    refine ok_let (fun s3 hs3 => ?_)
    have I1 : InvR s1 := by rw [← hs1]; exact hI.sv (k := 15) (show (0 : Int) ≤ x1.toInt by omega) (show x1.toInt ≤ (5 : Int) by omega)
    have e : s3.v 15 = x1 := by rw [← hs3, ← hs1]; rfl
    refine ok_some ⟨by rw [← hs3]; exact I1.svF (k := 16) rfl rfl, by rw [← hs3, ← hs1]; exact (FrR.rfl.sv (k := 15) (by decide)).sv (k := 16) (by decide), fun _ => by rw [e]; omega, fun _ => by rw [e]; omega⟩
  unfold r_wrong
  refine ok_grd (vpb_ok (by omega) (by omega)) ?_
  refine ok_ite (fun c => ?_) (fun c => ?_)
  · have c := tn_lt (a := 0) (by decide) rfl c
    exact ok_some ⟨hI, FrR.rfl, fun q => q, fun q => by omega⟩
  · refine ok_ite (fun _ => set _) (fun c2 => ?_)
    have c2 := tn_ne (b := 0) rfl (by decide) c2
    have keep : Ok (some s) (fun y => InvR y ∧ FrR [15, 16] s y ∧ WM s y ∧ ((s.v 13).toInt = 0 → ¬ (y.v 15).toInt = 0)) := ok_some ⟨hI, FrR.rfl, fun q => q, fun _ => c2⟩
    refine ok_ite (fun _ => keep) (fun _ => ?_)
    refine ok_ite (fun _ => ?_) (fun _ => set _)
    exact ok_ite (fun _ => set _) (fun _ => keep)
theorem WM.fr {s y : RS} {W : List Nat} (h : FrR W s y) (h1 : 15 ∉ W) : WM s y := fun q => by rw [h.1 15 h1]; exact q
theorem WM.trans {s y z : RS} (h : WM s y) (h2 : WM y z) : WM s z := fun q => h2 (h q)
abbrev WB : List Nat := [11, 13, 14, 15, 16]
theorem ok_bounded (s : RS) (x1 : Int32) (hI : InvR s) : Ok (r_bounded s x1) (fun y => InvR y.2 ∧ FrR WB s y.2 ∧ Adv s y.2 ∧ WM s y.2 ∧ 0 ≤ y.1.toInt ∧ y.1.toInt ≤ 9999 ∧ ((y.2.v 13).toInt = 0 → (y.2.v 11).toInt = (s.v 11).toInt + 1 ∧ ((y.2.v 15).toInt = 0 → y.1.toInt ≤ x1.toInt))) := by
  have hf : 0 ≤ (s.v 13).toInt ∧ (s.v 13).toInt ≤ 2 := hI.1 13
  have ht : 0 ≤ (s.v 11).toInt ∧ (s.v 11).toInt ≤ 400 := hI.1 11
  have bad : Ok (r_bounded_15 s) (fun y => InvR y.2 ∧ FrR WB s y.2 ∧ Adv s y.2 ∧ WM s y.2 ∧ 0 ≤ y.1.toInt ∧ y.1.toInt ≤ 9999 ∧ ((y.2.v 13).toInt = 0 → (y.2.v 11).toInt = (s.v 11).toInt + 1 ∧ ((y.2.v 15).toInt = 0 → y.1.toInt ≤ x1.toInt))) := by
    unfold r_bounded_15
    refine ok_bindP (ok_fail s 1 hI (by decide) (by decide)) (fun y hc => ?_)
    refine ok_some ⟨hc.1, FrR.rfl.trans (W := WB) hc.2.1 (by decide), ⟨by show (s.v 11).toInt ≤ (y.v 11).toInt; rw [hc.2.1.1 11 (by decide)]; exact Int.le_refl _, hc.2.2.2⟩, WM.fr hc.2.1 (by decide), by show (0 : Int) ≤ (0 : Int32).toInt; decide, by show (0 : Int32).toInt ≤ 9999; decide, fun q => ?_⟩
    have q : (y.v 13).toInt = 0 := q
    have := hc.2.2.1
    omega
  have fin : ∀ (s7 : RS) (v : Int32), InvR s7 → FrR [15, 16] s s7 → WM s s7 → 0 ≤ v.toInt → v.toInt ≤ 9999 → ((s7.v 13).toInt = 0 → (s7.v 15).toInt = 0 → v.toInt ≤ x1.toInt) → Ok (r_bounded_46 s7 v) (fun y => InvR y.2 ∧ FrR WB s y.2 ∧ Adv s y.2 ∧ WM s y.2 ∧ 0 ≤ y.1.toInt ∧ y.1.toInt ≤ 9999 ∧ ((y.2.v 13).toInt = 0 → (y.2.v 11).toInt = (s.v 11).toInt + 1 ∧ ((y.2.v 15).toInt = 0 → y.1.toInt ≤ x1.toInt))) := by
    intro s7 v I7 F7 M7 v0 v9 hv
    unfold r_bounded_46
    refine ok_bindP (ok_goesOn s7 I7) (fun y hy => ?_)
    obtain ⟨Iy, Fy, hst⟩ := hy
    have e11 : s7.v 11 = s.v 11 := F7.1 11 (by decide)
    have e13 : s7.v 13 = s.v 13 := F7.1 13 (by decide)
    have hfy : 0 ≤ (y.v 13).toInt ∧ (y.v 13).toInt ≤ 2 := Iy.1 13
    have hst' : ((y.v 11).toInt = (s.v 11).toInt + 1 ∧ (y.v 13).toInt = (s.v 13).toInt) ∨ ((s.v 11).toInt = 400 ∧ (y.v 11).toInt = (s.v 11).toInt ∧ 1 ≤ (y.v 13).toInt ∧ (s.v 13).toInt ≤ (y.v 13).toInt) := by
      unfold Step at hst
      rw [e11, e13] at hst
      exact hst
    refine ok_some ⟨Iy, (FrR.rfl.trans (W := WB) F7 (by decide)).trans Fy (by decide), ⟨by show (s.v 11).toInt ≤ (y.v 11).toInt; omega, by show (s.v 13).toInt ≤ (y.v 13).toInt; omega⟩, M7.trans (WM.fr Fy (by decide)), v0, v9, fun q => ?_⟩
    have q : (y.v 13).toInt = 0 := q
    refine ⟨by show (y.v 11).toInt = _; omega, fun q2 => ?_⟩
    have q2 : (y.v 15).toInt = 0 := q2
    rw [Fy.1 15 (by decide)] at q2
    exact hv (by rw [e13]; omega) q2
  unfold r_bounded
  refine ok_ite (fun _ => bad) (fun c => ?_)
  refine ok_is hI (fun hz _ => ?_) (fun _ => ?_)
  · show Ok (if (1 : Int32) = 0 then _ else _) _
    rw [if_neg z_one]
    refine ok_grd (vpb_ok (by omega) (by omega)) ?_
    have hv : 0 ≤ (s.f 7 (Int32.toNatClampNeg (s.v 11))).toInt ∧ (s.f 7 (Int32.toNatClampNeg (s.v 11))).toInt ≤ 9999 := hI.2 7 _
    refine ok_ite (fun c2 => ?_) (fun c2 => ?_)
    · have c2 := ti_le c2
      exact fin s _ hI FrR.rfl (fun q => q) hv.1 hv.2 (fun _ _ => c2)
    · refine ok_bindP (ok_wrong s 5 (s.v 11) hI (by decide) (by decide) (by omega) (by omega)) (fun s7 h7 => ?_)
      exact fin s7 _ h7.1 h7.2.1 h7.2.2.1 hv.1 hv.2 (fun _ q2 => absurd q2 (h7.2.2.2 (fz hz)))
  · show Ok (if (0 : Int32) = 0 then _ else _) _
    rw [if_pos rfl]
    exact bad
theorem psum_congr {f g : Nat → Int32} {b : Nat} : ∀ n, (∀ j, j < n → f (b + j) = g (b + j)) → psum f b n = psum g b n := by
  intro n
  induction n with
  | zero => intro _; rfl
  | succ n ih => intro h; show psum f b n + _ = psum g b n + _; rw [ih (fun j hj => h j (by omega)), h n (by omega)]
theorem psum_rng {f : Nat → Int32} {b : Nat} {M : Int} : ∀ n, (∀ j, j < n → 0 ≤ (f (b + j)).toInt ∧ (f (b + j)).toInt ≤ M) → 0 ≤ psum f b n ∧ psum f b n ≤ M * n := by
  intro n
  induction n with
  | zero => intro _; exact ⟨Int.le_refl _, by show (0 : Int) ≤ _; omega⟩
  | succ n ih =>
    intro h
    have h1 := ih (fun j hj => h j (by omega))
    have h2 := h n (by omega)
    have e : psum f b (n + 1) = psum f b n + (f (b + n)).toInt := rfl
    have e2 : M * ((n + 1 : Nat) : Int) = M * (n : Int) + M := by rw [Int.natCast_add, Int.mul_add]; simp
    rw [e, e2]
    exact ⟨by omega, by omega⟩
abbrev WV : List Nat := [11, 13, 14, 15, 16, 120, 121]
/-- what the reading of a wave leaves -/
def TV (sd w0 : Nat) (s0 y : RS) : Prop := InvR y ∧ FrR WV s0 y ∧ Adv s0 y ∧ WM s0 y ∧ (∃ z, y.f 20 = upd (s0.f 20) sd z ∧ z.toInt = (w0 : Int) + 1) ∧ (∀ j, (j < 30 * sd + 6 * w0 ∨ 30 * sd + 6 * w0 + 6 ≤ j) → y.f 21 j = s0.f 21 j) ∧ ((y.v 13).toInt = 0 → (y.v 15).toInt = 0 → (∀ v : Nat, v < 6 → 0 ≤ (y.f 21 (30 * sd + 6 * w0 + v)).toInt ∧ (y.f 21 (30 * sd + 6 * w0 + v)).toInt ≤ 9) ∧ 0 < psum (y.f 21) (30 * sd + 6 * w0) 6)
theorem ok_tellWave_93 (sd w0 : Nat) (s0 s : RS) (hsd : sd ≤ 1) (hw : w0 ≤ 4) (h19 : (s.v 19).toInt = (sd : Int)) (hw0 : (s0.f 20 sd).toInt = (w0 : Int)) (hI : InvR s) (hF : FrR [11, 13, 14, 15, 16, 121] s0 s) (hA : Adv s0 s) (hM : WM s0 s) (hO : ∀ j, (j < 30 * sd + 6 * w0 ∨ 30 * sd + 6 * w0 + 6 ≤ j) → s.f 21 j = s0.f 21 j) (hz : (s.v 13).toInt = 0 → (s.v 15).toInt = 0 → (∀ v : Nat, v < 6 → 0 ≤ (s.f 21 (30 * sd + 6 * w0 + v)).toInt ∧ (s.f 21 (30 * sd + 6 * w0 + v)).toInt ≤ 9) ∧ 0 < psum (s.f 21) (30 * sd + 6 * w0) 6) : Ok (r_tellWave_93 s) (TV sd w0 s0) := by
  unfold r_tellWave_93
  refine ok_bindP (ok_must s 4 hI) (fun s1 h1 => ?_)
  obtain ⟨I1, F1, A1, _⟩ := h1
  have e19 : s1.v 19 = s.v 19 := F1.1 19 (by decide)
  have ec : (s1.v 19).toNatClampNeg = sd := clamp_of_int (by rw [e19]; exact h19)
  have e20 : s1.f 20 = s0.f 20 := ((F1.2 20 (by decide)).1).trans (hF.2 20 (by decide)).1
  rw [ec]
  refine ok_grd (vpb_ok (by rw [e19]; omega) (by rw [e19]; omega)) ?_
  refine ok_grd (vpb_ok (by rw [e19]; omega) (by rw [e19]; omega)) ?_
  refine ok_let (fun s4 hs4 => ?_)
  have a : ((s1.f 20 sd) + 1).toInt = (s1.f 20 sd).toInt + 1 := tn_add rfl (by decide) (by rw [e20]; omega) (by rw [e20]; omega)
  rw [e20] at a
  have I4 : InvR s4 := by rw [← hs4, e20]; exact I1.sf (k := 20) (show (0 : Int) ≤ ((s0.f 20 sd) + 1).toInt by omega) (show ((s0.f 20 sd) + 1).toInt ≤ (5 : Int) by omega)
  have F14 : FrR [120] s1 s4 := by rw [← hs4]; exact FrR.rfl.sf (k := 20) (by decide)
  have A14 : Adv s1 s4 := Adv.fr F14 (by decide) (by decide)
  have e21 : s4.f 21 = s.f 21 := ((F14.2 21 (by decide)).1).trans (F1.2 21 (by decide)).1
  have f13 := A1.2
  have hf4 : 0 ≤ (s1.v 13).toInt ∧ (s1.v 13).toInt ≤ 2 := I1.1 13
  have hfs : 0 ≤ (s.v 13).toInt ∧ (s.v 13).toInt ≤ 2 := hI.1 13
  refine ok_some ⟨I4, ((FrR.rfl.trans (W := WV) hF (by decide)).trans F1 (by decide)).trans F14 (by decide), (hA.trans A1).trans A14, (hM.trans (WM.fr F1 (by decide))).trans (WM.fr F14 (by decide)), ⟨(s0.f 20 sd) + 1, by rw [← hs4, ← e20]; rfl, by omega⟩, by rw [e21]; exact hO, ?_⟩
  rw [e21, F14.1 13 (by decide), F14.1 15 (by decide), F1.1 15 (by decide)]
  intro q1 q2
  exact hz (by omega) q2
theorem ok_tellWave_31 (sd w0 : Nat) (s0 : RS) (x1 : Int32) (hsd : sd ≤ 1) (hw : w0 ≤ 4) (h019 : (s0.v 19).toInt = (sd : Int)) (hw0 : (s0.f 20 sd).toInt = (w0 : Int)) (hx1 : x1.toInt = ((30 * sd + 6 * w0 : Nat) : Int)) :
    ∀ (m v : Nat) (s : RS) (x2 x3 x4 : Int32), 6 - v < m → v ≤ 6 → x4.toInt = (v : Int) → InvR s → FrR [11, 13, 14, 15, 16, 121] s0 s → Adv s0 s → WM s0 s → (∀ j, (j < 30 * sd + 6 * w0 ∨ 30 * sd + 6 * w0 + 6 ≤ j) → s.f 21 j = s0.f 21 j) → (∀ j, j < v → 0 ≤ (s.f 21 (30 * sd + 6 * w0 + j)).toInt ∧ (s.f 21 (30 * sd + 6 * w0 + j)).toInt ≤ 9999) → ((s.v 13).toInt = 0 → (s.v 15).toInt = 0 → ∀ j, j < v → (s.f 21 (30 * sd + 6 * w0 + j)).toInt ≤ 9) → x2.toInt = psum (s.f 21) (30 * sd + 6 * w0) v → 0 ≤ x3.toInt → x3.toInt ≤ 400 → Ok (r_tellWave_31L m s x1 x2 x3 x4) (TV sd w0 s0) := by
  intro m
  induction m with
  | zero => intro v s x2 x3 x4 h; omega
  | succ m ih =>
    intro v s x2 x3 x4 hm hv h4 hI hF hA hM hO hr hz h2 h30 h34
    have e19 : s.v 19 = s0.v 19 := hF.1 19 (by decide)
    have ht : 0 ≤ (s.v 11).toInt ∧ (s.v 11).toInt ≤ 400 := hI.1 11
    show Ok (r_tellWave_31 (r_tellWave_31L m) s x1 x2 x3 x4) _
    unfold r_tellWave_31
    have hps := psum_rng (f := s.f 21) (b := 30 * sd + 6 * w0) (M := 9999) v hr
    refine ok_ite (fun c => ?_) (fun c => ?_)
    · have c := tn_le (a := 6) (by decide) rfl c
      obtain rfl : v = 6 := by omega
      have end_ : ∀ (y : RS), InvR y → FrR [15, 16] s y → WM s y → ((y.v 13).toInt = 0 → (y.v 15).toInt = 0 → 0 < x2.toInt) → Ok (r_tellWave_93 y) (TV sd w0 s0) := by
        intro y Iy Fy My hpos
        have e21 : y.f 21 = s.f 21 := (Fy.2 21 (by decide)).1
        have Ay : Adv s y := Adv.fr Fy (by decide) (by decide)
        refine ok_tellWave_93 sd w0 s0 y hsd hw (by rw [Fy.1 19 (by decide), e19]; exact h019) hw0 Iy (hF.trans Fy (by decide)) (hA.trans Ay) (hM.trans My) (by rw [e21]; exact hO) (fun q1 q2 => ?_)
        rw [e21]
        have q1' : (s.v 13).toInt = 0 := by rw [← Fy.1 13 (by decide)]; exact q1
        have q2' : (s.v 15).toInt = 0 := Decidable.byContradiction (fun h => My h q2)
        refine ⟨fun v hv6 => ⟨(hr v hv6).1, hz q1' q2' v hv6⟩, ?_⟩
        rw [← h2]
        exact hpos q1 q2
      refine ok_ite (fun c1 => ?_) (fun c1 => ?_)
      · refine ok_ite (fun c2 => ?_) (fun c2 => ?_)
        · refine ok_bindP (ok_wrong s 5 x3 hI (by decide) (by decide) h30 (by omega)) (fun y hy => ?_)
          exact end_ y hy.1 hy.2.1 hy.2.2.1 (fun _ q2 => absurd q2 (hy.2.2.2 (fz c1)))
        · have c2 := tn_ne (b := 0) rfl (by decide) c2
          exact end_ s hI FrR.rfl (fun q => q) (fun _ _ => by omega)
      · have c1 := tn_ne (b := 0) rfl (by decide) c1
        exact end_ s hI FrR.rfl (fun q => q) (fun q _ => absurd q c1)
    · have c := tn_nle (a := 6) (by decide) rfl c
      refine ok_bindI (ok_bounded s 9 hI) (fun r6 s5 h5 => ?_)
      obtain ⟨I5, F5, A5, M5, r0, r9, hb⟩ := h5
      have r0 : 0 ≤ r6.toInt := r0
      have r9 : r6.toInt ≤ 9999 := r9
      have F5 : FrR WB s s5 := F5
      have I5 : InvR s5 := I5
      have A5 : Adv s s5 := A5
      have M5 : WM s s5 := M5
      have hb : (s5.v 13).toInt = 0 → (s5.v 11).toInt = (s.v 11).toInt + 1 ∧ ((s5.v 15).toInt = 0 → r6.toInt ≤ (9 : Int32).toInt) := hb
      have a1 : (x1 + x4).toInt = x1.toInt + x4.toInt := ti_add (by omega) (by omega)
      have ec : (x1 + x4).toNatClampNeg = 30 * sd + 6 * w0 + v := clamp_of_int (by omega)
      refine ok_grd (vpb_ok (by omega) (by omega)) ?_
      rw [ec]
      refine ok_let (fun s8 hs8 => ?_)
      refine ok_grd (vpb_ok (by omega) (by omega)) ?_
      have e21 : s8.f 21 = upd (s.f 21) (30 * sd + 6 * w0 + v) r6 := by rw [← hs8, ← (F5.2 21 (by decide)).1]; rfl
      have I8 : InvR s8 := by rw [← hs8]; exact I5.sfF (k := 21) rfl rfl
      have F58 : FrR [121] s5 s8 := by rw [← hs8]; exact FrR.rfl.sf (k := 21) (by decide)
      have F8 : FrR [11, 13, 14, 15, 16, 121] s0 s8 := (hF.trans F5 (by decide)).trans F58 (by decide)
      have A8 : Adv s5 s8 := Adv.fr F58 (by decide) (by decide)
      have M8 : WM s5 s8 := WM.fr F58 (by decide)
      have p1 : psum (s8.f 21) (30 * sd + 6 * w0) v = psum (s.f 21) (30 * sd + 6 * w0) v := psum_congr v (fun j hj => by rw [e21, upd_ne (by omega)])
      have p2 : psum (s8.f 21) (30 * sd + 6 * w0) (v + 1) = psum (s8.f 21) (30 * sd + 6 * w0) v + (s8.f 21 (30 * sd + 6 * w0 + v)).toInt := rfl
      have p3 : s8.f 21 (30 * sd + 6 * w0 + v) = r6 := by rw [e21, upd_same]
      have b4 : (x4 + 1).toInt = x4.toInt + 1 := tn_add rfl (by decide) (by omega) (by omega)
      rw [p3]
      rw [p3] at p2
      have b2 : (x2 + r6).toInt = x2.toInt + r6.toInt := ti_add (by omega) (by omega)
      have hfs : 0 ≤ (s.v 13).toInt ∧ (s.v 13).toInt ≤ 2 := hI.1 13
      have hf5 : 0 ≤ (s5.v 13).toInt ∧ (s5.v 13).toInt ≤ 2 := I5.1 13
      refine ih (v + 1) s8 _ _ _ (by omega) (by omega) (by omega) I8 F8 ((hA.trans A5).trans A8) ((hM.trans M5).trans M8) (fun j hj => ?_) (fun j hj => ?_) (fun q1 q2 j hj => ?_) (by omega) ht.1 ht.2
      · rw [e21, upd_ne (by omega)]
        exact hO j hj
      · rw [e21]
        by_cases e : j = v
        · rw [e, upd_same]; exact ⟨r0, r9⟩
        · rw [upd_ne (by omega)]; exact hr j (by omega)
      · rw [F58.1 13 (by decide)] at q1
        rw [F58.1 15 (by decide)] at q2
        rw [e21]
        by_cases e : j = v
        · rw [e, upd_same]
          have := (hb q1).2 q2
          rw [show (9 : Int32).toInt = 9 from by decide] at this
          exact this
        · rw [upd_ne (by omega)]
          have h13 := A5.2
          exact hz (by omega) (Decidable.byContradiction (fun h => M5 h q2)) j (by omega)
theorem ok_tellWave (sd w0 : Nat) (s : RS) (hsd : sd ≤ 1) (hw : w0 ≤ 4) (h19 : (s.v 19).toInt = (sd : Int)) (hw0 : (s.f 20 sd).toInt = (w0 : Int)) (hI : InvR s) : Ok (r_tellWave s) (TV sd w0 s) := by
  unfold r_tellWave
  have ec : (s.v 19).toNatClampNeg = sd := clamp_of_int h19
  have ht : 0 ≤ (s.v 11).toInt ∧ (s.v 11).toInt ≤ 400 := hI.1 11
  refine ok_grd (vpb_ok (by omega) (by omega)) ?_
  rw [ec]
  have a1 : (30 * (s.v 19)).toInt = (s.v 19).toInt * 30 := ti_cmul (c := 30) (by decide) (by omega) (by omega)
  have a2 : (6 * (s.f 20 sd)).toInt = (s.f 20 sd).toInt * 6 := ti_cmul (c := 6) (by decide) (by omega) (by omega)
  have a3 : ((30 * (s.v 19)) + (6 * (s.f 20 sd))).toInt = (30 * (s.v 19)).toInt + (6 * (s.f 20 sd)).toInt := ti_add (by omega) (by omega)
  exact ok_tellWave_31 sd w0 s _ hsd hw h19 hw0 (by omega) fu 0 s 0 _ 0 (by unfold fu; omega) (by omega) (by decide) hI FrR.rfl Adv.rfl (fun q => q) (fun _ _ => rfl) (fun j hj => by omega) (fun _ _ j hj => by omega) (by show (0 : Int32).toInt = 0; decide) ht.1 ht.2
abbrev WP : List Nat := [11, 13, 14, 15, 16, 122, 123, 124, 125]
def TPt (s0 y : RS) : Prop := InvR y ∧ FrR WP s0 y ∧ Adv s0 y ∧ WM s0 y
theorem ok_tellParty (sd p0 : Nat) (s : RS) (hsd : sd ≤ 1) (hp : p0 ≤ 5) (h19 : (s.v 19).toInt = (sd : Int)) (hp0 : (s.f 23 sd).toInt = (p0 : Int)) (hI : InvR s) : Ok (r_tellParty s) (TPt s) := by
  have ec : (s.v 19).toNatClampNeg = sd := clamp_of_int h19
  have ht : 0 ≤ (s.v 11).toInt ∧ (s.v 11).toInt ≤ 400 := hI.1 11
  have a1 : (6 * (s.v 19)).toInt = (s.v 19).toInt * 6 := ti_cmul (c := 6) (by decide) (by omega) (by omega)
  have a3 : ((6 * (s.v 19)) + (s.f 23 sd)).toInt = (6 * (s.v 19)).toInt + (s.f 23 sd).toInt := ti_add (by omega) (by omega)
  generalize hk : (6 * (s.v 19)) + (s.f 23 sd) = kk at a3
  generalize htk : s.v 11 = tk at ht
  -- behind the names
  have h78 : ∀ (y : RS), InvR y → FrR WB s y → Adv s y → WM s y → Ok (r_tellParty_78 y kk tk) (TPt s) := by
    intro y Iy Fy Ay My
    have y19 : y.v 19 = s.v 19 := Fy.1 19 (by decide)
    have y23 : y.f 23 = s.f 23 := (Fy.2 23 (by decide)).1
    unfold r_tellParty_78
    refine ok_bindI (ok_bounded y 9 Iy) (fun r2 s1 h1 => ?_)
    have I1 : InvR s1 := h1.1
    have F1 : FrR WB y s1 := h1.2.1
    have A1 : Adv y s1 := h1.2.2.1
    have M1 : WM y s1 := h1.2.2.2.1
    refine ok_grd (vpb_ok (by omega) (by omega)) ?_
    refine ok_let (fun s4 hs4 => ?_)
    have I4 : InvR s4 := by rw [← hs4]; exact I1.sfF (k := 24) rfl rfl
    have F4 : FrR [124] s1 s4 := by rw [← hs4]; exact FrR.rfl.sf (k := 24) (by decide)
    refine ok_bindI (ok_bounded s4 9 I4) (fun r7 s6 h6 => ?_)
    have I6 : InvR s6 := h6.1
    have F6 : FrR WB s4 s6 := h6.2.1
    have A6 : Adv s4 s6 := h6.2.2.1
    have M6 : WM s4 s6 := h6.2.2.2.1
    refine ok_grd (vpb_ok (by omega) (by omega)) ?_
    refine ok_let (fun s9 hs9 => ?_)
    have I9 : InvR s9 := by rw [← hs9]; exact I6.sfF (k := 25) rfl rfl
    have F9 : FrR [125] s6 s9 := by rw [← hs9]; exact FrR.rfl.sf (k := 25) (by decide)
    refine ok_bindP (ok_must s9 4 I9) (fun s11 h11 => ?_)
    obtain ⟨I11, F11, A11, _⟩ := h11
    have FA : FrR WP s s11 := ((((((FrR.rfl.trans (W := WP) Fy (by decide)).trans F1 (by decide)).trans F4 (by decide)).trans F6 (by decide)).trans F9 (by decide)).trans F11 (by decide))
    have AA : Adv s s11 := ((((Ay.trans A1).trans (Adv.fr F4 (by decide) (by decide))).trans A6).trans (Adv.fr F9 (by decide) (by decide))).trans A11
    have MA : WM s s11 := ((((My.trans M1).trans (WM.fr F4 (by decide))).trans M6).trans (WM.fr F9 (by decide))).trans (WM.fr F11 (by decide))
    have e19 : s11.v 19 = s.v 19 := FA.1 19 (by decide)
    have e23 : s11.f 23 = s.f 23 := by rw [(F11.2 23 (by decide)).1, (F9.2 23 (by decide)).1, (F6.2 23 (by decide)).1, (F4.2 23 (by decide)).1, (F1.2 23 (by decide)).1, y23]
    have ec11 : (s11.v 19).toNatClampNeg = sd := by rw [e19]; exact ec
    refine ok_ite (fun _ => ?_) (fun _ => ?_)
    · rw [ec11, e23]
      refine ok_grd (vpb_ok (by rw [e19]; omega) (by rw [e19]; omega)) ?_
      refine ok_grd (vpb_ok (by omega) (by omega)) ?_
      refine ok_grd (vpb_ok (by omega) (by omega)) ?_
      refine ok_let (fun s16 hs16 => ?_)
      have I16 : InvR s16 := by rw [← hs16]; exact I11.sg
      have F16 : FrR WP s s16 := by rw [← hs16]; exact FA.sg (k := 22) (by decide)
      have e1619 : s16.v 19 = s.v 19 := by rw [← hs16]; exact e19
      have e1623 : s16.f 23 = s.f 23 := by rw [← hs16]; exact e23
      have ec16 : (s16.v 19).toNatClampNeg = sd := by rw [e1619]; exact ec
      rw [ec16, e1623]
      refine ok_grd (vpb_ok (by rw [e1619]; omega) (by rw [e1619]; omega)) ?_
      refine ok_grd (vpb_ok (by rw [e1619]; omega) (by rw [e1619]; omega)) ?_
      refine ok_let (fun s20 hs20 => ?_)
      have a : ((s.f 23 sd) + 1).toInt = (s.f 23 sd).toInt + 1 := tn_add rfl (by decide) (by omega) (by omega)
      have A16 : Adv s11 s16 := by rw [← hs16]; exact ⟨Int.le_refl _, Int.le_refl _⟩
      have M16 : WM s11 s16 := by rw [← hs16]; exact fun q => q
      have A20 : Adv s16 s20 := by rw [← hs20]; exact ⟨Int.le_refl _, Int.le_refl _⟩
      have M20 : WM s16 s20 := by rw [← hs20]; exact fun q => q
      exact ok_some ⟨by rw [← hs20]; exact I16.sf (k := 23) (show (0 : Int) ≤ ((s.f 23 sd) + 1).toInt by omega) (show ((s.f 23 sd) + 1).toInt ≤ (6 : Int) by omega), by rw [← hs20]; exact F16.sf (k := 23) (by decide), (AA.trans A16).trans A20, (MA.trans M16).trans M20⟩
    · exact ok_some ⟨I11, FA, AA, MA⟩
  have h30 : ∀ (m : Nat) (y : RS) (x3 : Int32), (6 - x3.toInt).toNat < m → 0 ≤ x3.toInt → x3.toInt ≤ 6 → InvR y → FrR WB s y → Adv s y → WM s y → Ok (r_tellParty_30L m y kk tk x3) (TPt s) := by
    intro m
    induction m with
    | zero => intro y x3 h; omega
    | succ m ih =>
      intro y x3 hm h0 h6 Iy Fy Ay My
      have y19 : y.v 19 = s.v 19 := Fy.1 19 (by decide)
      have y23 : y.f 23 = s.f 23 := (Fy.2 23 (by decide)).1
      show Ok (r_tellParty_30 (r_tellParty_30L m) y kk tk x3) _
      unfold r_tellParty_30
      have ecy : (y.v 19).toNatClampNeg = sd := by rw [y19]; exact ec
      refine ok_grd (vpb_ok (by rw [y19]; omega) (by rw [y19]; omega)) ?_
      rw [ecy, y23]
      refine ok_ite (fun _ => h78 y Iy Fy Ay My) (fun c => ?_)
      have c := ti_nle c
      refine ok_ite (fun _ => ?_) (fun _ => h78 y Iy Fy Ay My)
      refine ok_grd (vpb_ok (by omega) (by omega)) ?_
      refine ok_grd (vpb_ok (by omega) (by omega)) ?_
      have b : (x3 + 1).toInt = x3.toInt + 1 := tn_add rfl (by decide) (by omega) (by omega)
      refine ok_ite (fun _ => ?_) (fun _ => ?_)
      · refine ok_bindP (ok_wrong y 3 tk Iy (by decide) (by decide) (by omega) (by omega)) (fun z hz => ?_)
        unfold r_tellParty_72
        exact ih z _ (by omega) (by omega) (by omega) hz.1 (Fy.trans hz.2.1 (by decide)) (Ay.trans (Adv.fr hz.2.1 (by decide) (by decide))) (My.trans hz.2.2.1)
      · unfold r_tellParty_72
        exact ih y _ (by omega) (by omega) (by omega) Iy Fy Ay My
  unfold r_tellParty
  refine ok_grd (vpb_ok (by omega) (by omega)) ?_
  rw [ec, hk, htk]
  refine ok_bindP (ok_must s 1 hI) (fun s2 h2 => ?_)
  have z0 : (0 : Int32).toInt = 0 := by decide
  exact h30 fu s2 0 (by unfold fu; omega) (by decide) (by decide) h2.1 (FrR.rfl.trans h2.2.1 (by decide)) h2.2.2.1 (WM.fr h2.2.1 (by decide))
