/-! ===== parties ===== -/
theorem ksg_get {s : KS} {k i j : Nat} {x : Int64} : (s.sg k i x).g k j = if j = i then x else s.g k j := by
  show va_up s.g k (vp_updL (s.g k) i x) k j = _
  unfold va_up
  rw [if_pos rfl]
  rfl
theorem rsg_get {s : RS} {k i j : Nat} {x : Int64} : (s.sg k i x).g k j = if j = i then x else s.g k j := by
  show va_up s.g k (vp_updL (s.g k) i x) k j = _
  unfold va_up
  rw [if_pos rfl]
  rfl
theorem told_inv {nm : Int64} {r : Int32} {s s' : KS} : ∀ (n : Nat) (x3 : Int32), 0 ≤ x3.toInt → x3.toInt ≤ 6 → kX4_isTold_2L n s nm x3 = some (r, s') → s' = s ∧ ((r = 1 ∧ ∃ p : Nat, x3.toInt ≤ (p : Int) ∧ (p : Int) < (s.v 9).toInt ∧ s.g 29 p = nm) ∨ (r = 0 ∧ ∀ p : Nat, x3.toInt ≤ (p : Int) → (p : Int) < (s.v 9).toInt → ¬ s.g 29 p = nm)) := by
  intro n
  induction n with
  | zero => intro x3 _ _ h; exact none_ne h
  | succ n ih =>
    intro x3 h0 h6 h
    have h : kX4_isTold_2 (kX4_isTold_2L n) s nm x3 = some (r, s') := h
    unfold kX4_isTold_2 at h
    by_cases c : s.v 9 ≤ x3
    · have c' := ti_le c
      rw [if_pos c] at h
      cases h
      exact ⟨rfl, Or.inr ⟨rfl, fun p h1 h2 => by omega⟩⟩
    · have c' := ti_nle c
      rw [if_neg c] at h
      obtain ⟨g, h⟩ := guard_inv h
      have x6 : x3.toInt < 6 := by
        have q := vpb_in g
        have e : x3.toInt.toNat = x3.toNatClampNeg := Int32.toNat_toInt _
        have q2 : ¬ 6 ≤ x3.toNatClampNeg := fun w => q (Or.inr w)
        omega
      have ec : (x3.toNatClampNeg : Int) = x3.toInt := by
        have e : x3.toInt.toNat = x3.toNatClampNeg := Int32.toNat_toInt _
        omega
      by_cases c2 : lg_cmp ((s.g 29) (Int32.toNatClampNeg x3)) nm = 0
      · rw [if_pos c2] at h
        cases h
        exact ⟨rfl, Or.inl ⟨rfl, _, by omega, by omega, cmp_zero.mp c2⟩⟩
      · rw [if_neg c2] at h
        have a : (x3 + 1).toInt = x3.toInt + 1 := tn_add rfl (by decide) (by omega) (by omega)
        obtain ⟨e1, h⟩ := ih (x3 + 1) (by omega) (by omega) h
        refine ⟨e1, ?_⟩
        rcases h with ⟨e2, p, h1, h2, h3⟩ | ⟨e2, h1⟩
        · exact Or.inl ⟨e2, p, by omega, h2, h3⟩
        · refine Or.inr ⟨e2, fun p q1 q2 => ?_⟩
          by_cases q3 : p = x3.toNatClampNeg
          · subst q3
            exact fun w => c2 (cmp_zero.mpr w)
          · exact h1 p (by omega) q2
theorem party_loop {sd : Nat} (x1 x2 : Int32) (hv2 : vpb x2 403 = true) : ∀ (m : Nat) (z out : RS) (x3 : Int32), z.v 13 = 0 → (z.v 19).toNatClampNeg = sd → 0 ≤ x3.toInt → x3.toInt ≤ 6 → (z.v 15 = 0 ∨ z.v 16 < z.f 6 x2.toNatClampNeg ∨ (z.f 6 x2.toNatClampNeg = z.v 16 ∧ z.v 15 = 3)) → r_tellParty_30L m z x1 x2 x3 = some out →
    ∃ z', r_tellParty_78 z' x1 x2 = some out ∧ FrR [15, 16] z z' ∧ (((∀ p : Nat, x3.toInt ≤ (p : Int) → (p : Int) < (z.f 23 sd).toInt → ¬ z.g 22 p = z.g 8 x2.toNatClampNeg) ∧ z' = z) ∨ ((∃ p : Nat, x3.toInt ≤ (p : Int) ∧ (p : Int) < (z.f 23 sd).toInt ∧ z.g 22 p = z.g 8 x2.toNatClampNeg) ∧ ((z.v 15 = 0 ∧ z'.v 15 = 3 ∧ z'.v 16 = z.f 6 x2.toNatClampNeg) ∨ (¬ z.v 15 = 0 ∧ z'.v 15 = z.v 15 ∧ z'.v 16 = z.v 16)))) := by
  intro m
  induction m with
  | zero => intro z out x3 _ _ _ _ _ h; exact none_ne h
  | succ m ih =>
    intro z out x3 h13 h19 h0 h6 hw h
    have h : r_tellParty_30 (r_tellParty_30L m) z x1 x2 x3 = some out := h
    unfold r_tellParty_30 at h
    obtain ⟨_, h⟩ := guard_inv h
    rw [h19] at h
    by_cases c : z.f 23 sd ≤ x3
    · have c' := ti_le c
      rw [if_pos c] at h
      exact ⟨z, h, FrR.rfl, Or.inl ⟨fun p q1 q2 => by omega, rfl⟩⟩
    · have c' := ti_nle c
      rw [if_neg c, if_pos h13] at h
      obtain ⟨g, h⟩ := guard_inv h
      obtain ⟨_, h⟩ := guard_inv h
      have x6 : x3.toInt < 6 := by
        have q := vpb_in g
        have e : x3.toInt.toNat = x3.toNatClampNeg := Int32.toNat_toInt _
        have q2 : ¬ 6 ≤ x3.toNatClampNeg := fun w => q (Or.inr w)
        omega
      have ec : (x3.toNatClampNeg : Int) = x3.toInt := by
        have e : x3.toInt.toNat = x3.toNatClampNeg := Int32.toNat_toInt _
        omega
      have a : (x3 + 1).toInt = x3.toInt + 1 := tn_add rfl (by decide) (by omega) (by omega)
      unfold r_tellParty_72 at h
      by_cases c2 : lg_cmp (z.g 22 (Int32.toNatClampNeg x3)) (z.g 8 (Int32.toNatClampNeg x2)) = 0
      · have hit := cmp_zero.mp c2
        rw [if_pos c2] at h
        obtain ⟨z1, hw1, h⟩ := bindP_inv h
        have ex : ∃ p : Nat, x3.toInt ≤ (p : Int) ∧ (p : Int) < (z.f 23 sd).toInt ∧ z.g 22 p = z.g 8 x2.toNatClampNeg := ⟨_, by omega, by omega, hit⟩
        by_cases z15 : z.v 15 = 0
        · rw [zwrong_set h13 hv2 z15] at hw1
          cases hw1
          obtain ⟨z', e1, e2, e3⟩ := ih ((z.sv 15 3).sv 16 (z.f 6 x2.toNatClampNeg)) out (x3 + 1) h13 h19 (by omega) (by omega) (Or.inr (Or.inr ⟨rfl, rfl⟩)) h
          have F1 : FrR [15, 16] z ((z.sv 15 3).sv 16 (z.f 6 x2.toNatClampNeg)) := (FrR.rfl.sv (k := 15) (by decide)).sv (k := 16) (by decide)
          refine ⟨z', e1, F1.trans e2 (by decide), Or.inr ⟨ex, Or.inl ⟨z15, ?_⟩⟩⟩
          rcases e3 with ⟨_, e4⟩ | ⟨_, e4 | e4⟩
          · rw [e4]; exact ⟨rfl, rfl⟩
          · exact absurd (show (3 : Int32) = 0 from e4.1) (by decide)
          · exact ⟨e4.2.1, e4.2.2⟩
        · have hj : z.v 16 < z.f 6 x2.toNatClampNeg ∨ (z.f 6 x2.toNatClampNeg = z.v 16 ∧ ¬ (3 : Int32) < z.v 15) := by
            rcases hw with q | q | q
            · exact absurd q z15
            · exact Or.inl q
            · exact Or.inr ⟨q.1, by rw [q.2]; decide⟩
          rw [zwrong_keep h13 hv2 z15 hj] at hw1
          cases hw1
          obtain ⟨z', e1, e2, e3⟩ := ih z out (x3 + 1) h13 h19 (by omega) (by omega) hw h
          refine ⟨z', e1, e2, Or.inr ⟨ex, Or.inr ⟨z15, ?_⟩⟩⟩
          rcases e3 with ⟨_, e4⟩ | ⟨_, e4 | e4⟩
          · rw [e4]; exact ⟨rfl, rfl⟩
          · exact absurd e4.1 z15
          · exact ⟨e4.2.1, e4.2.2⟩
      · rw [if_neg c2] at h
        obtain ⟨z', e1, e2, e3⟩ := ih z out (x3 + 1) h13 h19 (by omega) (by omega) hw h
        refine ⟨z', e1, e2, ?_⟩
        rcases e3 with ⟨q, e4⟩ | ⟨⟨p, q1, q2, q3⟩, e4⟩
        · refine Or.inl ⟨fun p q1 q2 => ?_, e4⟩
          by_cases q3 : p = x3.toNatClampNeg
          · subst q3
            exact fun w => c2 (cmp_zero.mpr w)
          · exact q p (by omega) q2
        · exact Or.inr ⟨⟨p, by omega, q2, q3⟩, e4⟩
theorem room_full {z : RS} {a b : Int32} (h13 : z.v 13 = 0) (hv : vpb (z.v 11) 403 = true) (e : a = b) : r_roomFor z a b = some (zfl z 2) := by
  unfold r_roomFor
  rw [if_pos e, zfail_eq h13 hv, bindP_some]
  unfold r_roomFor_10
  have n2 : ¬ (zfl z 2).v 13 = 0 := by show ¬ (2 : Int32) = 0; decide
  exact if_neg n2
theorem room_ok {z : RS} {a b : Int32} (h13 : z.v 13 = 0) (e : ¬ a = b) : r_roomFor z a b = r_goesOn z := by
  unfold r_roomFor
  rw [if_neg e]
  unfold r_roomFor_10
  rw [if_pos h13]
  exact bindP_id _
abbrev WKP : List Nat := [9, 15, 16, 17, 18, 19, 119, 120, 129]
def NMS (sd : Nat) (s : KS) (z : RS) : Prop := ∀ p : Nat, (p : Int) < (s.v 9).toInt → NmR (s.g 29 p) (z.g 22 p)
/-- the parties' numbers -/
def PTS (sd : Nat) (s : KS) (z : RS) : Prop := ∀ p : Nat, (p : Int) < (s.v 9).toInt → s.f 19 p = z.f 24 (6 * sd + p) ∧ s.f 20 p = z.f 25 (6 * sd + p)
def ResPt (N sd : Nat) (s : KS) (z : RS) (s' : KS) (out : RS) : Prop := (PR2 N s' out ∧ LTb (out.v 11).toInt s' out ∧ FrK WKP s s' ∧ FrR WP z out ∧ s'.v 9 = (s.v 9) + 1 ∧ out.f 23 sd = (z.f 23 sd) + 1 ∧ NMS sd s' out ∧ (s.v 15).toInt + 1 ≤ (s'.v 15).toInt ∧ PTS sd s' out) ∨ FR2 s' out
/-- behind the name: two numbers and the end -/
theorem sim_party_78 {N sd : Nat} {s s' : KS} {z z2 out : RS} {x1 x2 : Int32} {nm : Int64} (hP : PR2 N s z) (hT : TK2 N s z) (hk : KAt s = 300) (hL : LTb ((z.v 11).toInt + 1) s z2) (hG : FrR [11, 15, 16] z z2) (h11 : z2.v 11 = (z.v 11) + 1) (hl : ¬ s.v 15 = 400) (h19 : (z.v 19).toInt = (sd : Int)) (e9 : s.v 9 = z.f 23 sd) (h90 : 0 ≤ (s.v 9).toInt) (h95 : (s.v 9).toInt ≤ 5) (hNM : NMS sd s z) (hPT : PTS sd s z) (hsd : sd ≤ 1) (hx1 : x1.toInt = ((6 * sd : Nat) : Int) + (s.v 9).toInt) (hx2 : x2 = z.v 11) (hnm : nm = s.g 34 (s.v 15).toNatClampNeg) (hs : kX4_readParty_73 s nm = some s') (hz : r_tellParty_78 z2 x1 x2 = some out) : ResPt N sd s z s' out := by
  have A := hP.adv hT (fun q => by rw [hk] at q; exact absurd q (by decide)) (fun q => by rw [hk] at q; exact absurd q (by decide)) hl
  have P2 : PR2 N (kad s) z2 := A.1.keep rfl rfl h11 (hG.1 13 (by decide))
  have K2 : FrK WKP s (kad s) := FrK.rfl.sv (by decide)
  have T2 := hT.fr K2 hG (by decide) (by decide)
  have a11 : (z2.v 11).toInt = (z.v 11).toInt + 1 := by rw [← P2.2.2.1, A.2, hP.2.2.1]
  have L2 : LTb (z2.v 11).toInt (kad s) z2 := hL.keep rfl rfl rfl rfl rfl (by omega)
  have hnr : NmR nm (z.g 8 (z.v 11).toNatClampNeg) := by
    have q := (hT.1 _ hP.le).2.2.2 hk
    rw [hnm, ← hP.2.2.1]
    exact q
  unfold kX4_readParty_73 at hs
  rw [ktake_yes hP.1 hP.kv hk (hP.lt hl).1, bindP_some] at hs
  obtain ⟨_, hs⟩ := guard_inv hs
  obtain ⟨s3, e3, hs⟩ := letS_inv hs
  obtain ⟨r6, s5, h5, hs⟩ := bindI_inv hs
  obtain ⟨_, hs⟩ := guard_inv hs
  obtain ⟨s8, e8, hs⟩ := letS_inv hs
  obtain ⟨r11, s10, h10, hs⟩ := bindI_inv hs
  obtain ⟨_, hs⟩ := guard_inv hs
  obtain ⟨s13, e13, hs⟩ := letS_inv hs
  obtain ⟨s15, h15, hs⟩ := bindP_inv hs
  obtain ⟨s16, e16, hs⟩ := letS_inv hs
  cases hs
  unfold r_tellParty_78 at hz
  obtain ⟨q2, w1, g1, hz⟩ := bindI_inv hz
  obtain ⟨_, hz⟩ := guard_inv hz
  obtain ⟨w4, f4, hz⟩ := letS_inv hz
  obtain ⟨q7, w6, g6, hz⟩ := bindI_inv hz
  obtain ⟨_, hz⟩ := guard_inv hz
  obtain ⟨w9, f9, hz⟩ := letS_inv hz
  obtain ⟨w11, g11, hz⟩ := bindP_inv hz
  have K3 : FrK WKP (kad s) s3 := by rw [← e3]; exact FrK.rfl.sg (k := 29) (by decide)
  have P3 : PR2 N s3 z2 := by rw [← e3]; exact P2.keep rfl rfl rfl rfl
  have L3 : LTb (z2.v 11).toInt s3 z2 := by rw [← e3]; exact L2.keep rfl rfl rfl rfl rfl (Int.le_refl _)
  have T3 := T2.fr K3 (FrR.rfl (W := [])) (by decide) (by decide)
  have v39 : s3.v 9 = s.v 9 := by rw [← e3]; rfl
  have fault : ∀ (F : FR2 s' w11), FR2 s' out := fun F => by
    have n : ¬ w11.v 13 ≤ 0 := fun c => by
      have h1 := tn_le (b := 0) rfl (by decide) c
      have h2 := F.1
      omega
    rw [if_neg n] at hz
    cases hz
    exact F
  rcases int_step P3 T3 L3 h5 g1 with ⟨er1, P5, L5, K5, G5, l5⟩ | F
  · have K8 : FrK WKP s3 s8 := by rw [← e8]; exact (FrK.rfl.trans K5 (by decide)).sf (k := 19) (by decide)
    have G4 : FrR WP z2 w4 := by rw [← f4]; exact (FrR.rfl.trans G5 (by decide)).sf (k := 24) (by decide)
    have P8 : PR2 N s8 w4 := by rw [← e8, ← f4]; exact P5.keep rfl rfl rfl rfl
    have L8 : LTb (w4.v 11).toInt s8 w4 := by rw [← e8, ← f4]; exact L5.keep rfl rfl rfl rfl rfl (Int.le_refl _)
    have T8 := T3.fr K8 G4 (by decide) (by decide)
    have l8 : (s8.v 15).toInt = (s5.v 15).toInt := by rw [← e8]; rfl
    rcases int_step P8 T8 L8 h10 g6 with ⟨er2, P10, L10, K10, G10, l10⟩ | F
    · have K13 : FrK WKP s8 s13 := by rw [← e13]; exact (FrK.rfl.trans K10 (by decide)).sf (k := 20) (by decide)
      have G9 : FrR WP w4 w9 := by rw [← f9]; exact (FrR.rfl.trans G10 (by decide)).sf (k := 25) (by decide)
      have P13 : PR2 N s13 w9 := by rw [← e13, ← f9]; exact P10.keep rfl rfl rfl rfl
      have L13 : LTb (w9.v 11).toInt s13 w9 := by rw [← e13, ← f9]; exact L10.keep rfl rfl rfl rfl rfl (Int.le_refl _)
      have T13 := T8.fr K13 G9 (by decide) (by decide)
      have l13 : (s13.v 15).toInt = (s10.v 15).toInt := by rw [← e13]; rfl
      obtain ⟨t, w, h1, h2, hcase⟩ := step2 (c := 59) (r := 4) P13 T13 (by decide) (by decide)
      rw [h15] at h1
      cases h1
      rw [g11] at h2
      cases h2
      rcases hcase with ⟨_, u1, u2, P15, l15⟩ | ⟨F, _, _⟩
      · have q13 : w11.v 13 ≤ 0 := by rw [P15.2.1]; decide
        rw [if_pos q13] at hz
        obtain ⟨_, hz⟩ := guard_inv hz
        obtain ⟨_, hz⟩ := guard_inv hz
        obtain ⟨_, hz⟩ := guard_inv hz
        obtain ⟨w16, f16, hz⟩ := letS_inv hz
        obtain ⟨_, hz⟩ := guard_inv hz
        obtain ⟨_, hz⟩ := guard_inv hz
        obtain ⟨w20, f20, hz⟩ := letS_inv hz
        cases hz
        have K15 : FrK WKP s13 s15 := by rw [u1]; exact FrK.rfl.sv (k := 15) (by decide)
        have G11 : FrR WP w9 w11 := by rw [u2]; exact FrR.rfl.sv (k := 11) (by decide)
        have KZ : FrK WKP s s15 := (((K2.trans K3 (by decide)).trans K8 (by decide)).trans K13 (by decide)).trans K15 (by decide)
        have GZ : FrR WP z w11 := (((FrR.rfl.trans hG (by decide)).trans G4 (by decide)).trans G9 (by decide)).trans G11 (by decide)
        have K48 : FrK [15, 16, 17, 18, 19, 119, 120] s3 s15 := by
          rw [u1, ← e13]
          refine FrK.sv (k := 15) (FrK.sf (k := 20) (FrK.trans (t := s8) ?_ K10 (by decide)) (by decide)) (by decide)
          rw [← e8]
          exact (FrK.rfl.trans K5 (by decide)).sf (k := 19) (by decide)
        have G48 : FrR [11, 13, 14, 15, 16, 124, 125] z w11 := by
          rw [u2, ← f9]
          refine FrR.sv (k := 11) (FrR.sf (k := 25) (FrR.trans (t := w4) ?_ G10 (by decide)) (by decide)) (by decide)
          rw [← f4]
          exact ((FrR.rfl.trans hG (by decide)).trans G5 (by decide)).sf (k := 24) (by decide)
        have c19 : (w11.v 19).toNatClampNeg = sd := by rw [G48.1 19 (by decide)]; exact clamp_of_int h19
        have ew23 : w11.f 23 = z.f 23 := (G48.2 23 (by decide)).1
        have ew8 : w11.g 8 = z.g 8 := (G48.2 8 (by decide)).2
        have ew22 : w11.g 22 = z.g 22 := (G48.2 22 (by decide)).2
        have es9 : s15.v 9 = s.v 9 := (K48.1 9 (by decide)).trans v39
        have es29 : s15.g 29 = s3.g 29 := (K48.2 29 (by decide)).2
        have a9 : ((s.v 9) + 1).toInt = (s.v 9).toInt + 1 := tn_add rfl (by decide) (by omega) (by omega)
        have ec9 : ((s.v 9).toNatClampNeg : Int) = (s.v 9).toInt := by
          have e : (s.v 9).toInt.toNat = (s.v 9).toNatClampNeg := Int32.toNat_toInt _
          omega
        have v169 : s'.v 9 = (s.v 9) + 1 := by rw [← e16, ← es9]; rfl
        refine Or.inl ⟨?_, ?_, ?_, ?_, v169, ?_, ?_, ?_, ?_⟩
        · rw [← e16, ← f20, ← f16]
          exact P15.keep rfl rfl rfl rfl
        · have q11 : (w11.v 11).toInt = (w9.v 11).toInt + 1 := by rw [← P15.2.2.1, l15, P13.2.2.1]
          rw [← e16, ← f20, ← f16]
          refine L13.keep ?_ ?_ ?_ ?_ ?_ ?_
          · rw [u1]; rfl
          · rw [u1]; rfl
          · rw [u2]; rfl
          · rw [u2]; rfl
          · rw [u2]; rfl
          · show (w9.v 11).toInt ≤ (w11.v 11).toInt
            omega
        · rw [← e16]; exact KZ.sv (k := 9) (by decide)
        · rw [← f20, ← f16]; exact (GZ.sg (k := 22) (by decide)).sf (k := 23) (by decide)
        · have c1619 : (w16.v 19).toNatClampNeg = sd := by rw [← f16]; exact c19
          rw [← f20, c1619, rsf_get, ← f16]
          show (w11.f 23 sd) + 1 = _
          rw [ew23]
        · intro p hp
          rw [v169, a9] at hp
          have eo : out.g 22 p = if p = (s.v 9).toNatClampNeg then z.g 8 (z.v 11).toNatClampNeg else z.g 22 p := by
            rw [← f20, ← f16]
            show (w11.sg 22 _ _).g 22 p = _
            rw [rsg_get, c19, ew23, ew8, ew22, ← e9, hx2]
          have ek : s'.g 29 p = if p = (s.v 9).toNatClampNeg then nm else s.g 29 p := by
            rw [← e16]
            show s15.g 29 p = _
            rw [es29, ← e3, ksg_get]
            rfl
          rw [eo, ek]
          by_cases c : p = (s.v 9).toNatClampNeg
          · rw [if_pos c, if_pos c]; exact hnr
          · rw [if_neg c, if_neg c]; exact hNM p (by omega)
        · have q1 : (s'.v 15).toInt = (s15.v 15).toInt := by rw [← e16]; rfl
          have q2 : (s3.v 15).toInt = ((kad s).v 15).toInt := by rw [← e3]; rfl
          have := A.2
          omega
        · intro p hp
          rw [v169, a9] at hp
          have ez : (x1.toNatClampNeg : Nat) = 6 * sd + (s.v 9).toNatClampNeg := clamp_of_int (by rw [hx1]; omega)
          have ep : ∀ p : Nat, 6 * sd + p = 6 * sd + (s.v 9).toNatClampNeg ↔ p = (s.v 9).toNatClampNeg := fun p => by omega
          have v38 : s3.v 9 = s.v 9 := v39
          have v89 : s8.v 9 = s.v 9 := by rw [← e8]; show s5.v 9 = _; rw [K5.1 9 (by decide)]; exact v39
          have b19 : s'.f 19 p = if p = (s.v 9).toNatClampNeg then r6 else s.f 19 p := by
            rw [← e16]
            show s15.f 19 p = _
            rw [u1]
            show s13.f 19 p = _
            rw [← e13]
            show s10.f 19 p = _
            rw [(K10.2 19 (by decide)).1, ← e8, ksf_get, v38, (K5.2 19 (by decide)).1, ← e3]
            rfl
          have b20 : s'.f 20 p = if p = (s.v 9).toNatClampNeg then r11 else s.f 20 p := by
            rw [← e16]
            show s15.f 20 p = _
            rw [u1]
            show s13.f 20 p = _
            rw [← e13, ksf_get, v89, (K10.2 20 (by decide)).1, ← e8]
            show (if p = (s.v 9).toNatClampNeg then r11 else s5.f 20 p) = _
            rw [(K5.2 20 (by decide)).1, ← e3]
            rfl
          have d24 : out.f 24 (6 * sd + p) = if 6 * sd + p = 6 * sd + (s.v 9).toNatClampNeg then q2 else z.f 24 (6 * sd + p) := by
            rw [← f20, ← f16]
            show w11.f 24 (6 * sd + p) = _
            rw [u2]
            show w9.f 24 (6 * sd + p) = _
            rw [← f9]
            show w6.f 24 (6 * sd + p) = _
            rw [(G10.2 24 (by decide)).1, ← f4, rsf_all, ez, (G5.2 24 (by decide)).1, (hG.2 24 (by decide)).1]
          have d25 : out.f 25 (6 * sd + p) = if 6 * sd + p = 6 * sd + (s.v 9).toNatClampNeg then q7 else z.f 25 (6 * sd + p) := by
            rw [← f20, ← f16]
            show w11.f 25 (6 * sd + p) = _
            rw [u2]
            show w9.f 25 (6 * sd + p) = _
            rw [← f9, rsf_all, ez, (G10.2 25 (by decide)).1, ← f4]
            show (if 6 * sd + p = 6 * sd + (s.v 9).toNatClampNeg then q7 else w1.f 25 (6 * sd + p)) = _
            rw [(G5.2 25 (by decide)).1, (hG.2 25 (by decide)).1]
          rw [b19, b20, d24, d25]
          by_cases c : p = (s.v 9).toNatClampNeg
          · rw [if_pos c, if_pos c, if_pos ((ep p).mpr c), if_pos ((ep p).mpr c)]
            exact ⟨er1, er2⟩
          · rw [if_neg c, if_neg c, if_neg (fun w => c ((ep p).mp w)), if_neg (fun w => c ((ep p).mp w))]
            exact hPT p (by omega)
      · refine Or.inr (fault ?_)
        rw [← e16]
        exact F
    · have k13 : Sk (s10.v 16) (s10.v 17) s13 := by rw [← e13]; exact ⟨rfl, rfl⟩
      have q9 : Sz (w6.v 13) (w6.v 14) w9 := by rw [← f9]; exact ⟨rfl, rfl⟩
      have k15 := sk_take F.ne _ k13 _ h15
      have k16 : Sk (s10.v 16) (s10.v 17) s' := by rw [← e16]; exact k15
      exact Or.inr (fault ((F.sk k16).sz (sz_must F.1 _ q9 _ g11)))
  · have k8 : Sk (s5.v 16) (s5.v 17) s8 := by rw [← e8]; exact ⟨rfl, rfl⟩
    have q4 : Sz (w1.v 13) (w1.v 14) w4 := by rw [← f4]; exact ⟨rfl, rfl⟩
    have k10 : Sk (s5.v 16) (s5.v 17) s10 := sk_takeInt F.ne _ k8 _ h10
    have q6 : Sz (w1.v 13) (w1.v 14) w6 := sz_bounded F.1 _ q4 _ g6
    have k13 : Sk (s5.v 16) (s5.v 17) s13 := by rw [← e13]; exact k10
    have q9 : Sz (w1.v 13) (w1.v 14) w9 := by rw [← f9]; exact q6
    have k15 := sk_take F.ne _ k13 _ h15
    have k16 : Sk (s5.v 16) (s5.v 17) s' := by rw [← e16]; exact k15
    exact Or.inr (fault ((F.sk k16).sz (sz_must F.1 _ q9 _ g11)))
theorem told_inv2 {nm : Int64} {r : Int32} {s s' : KS} (h : kX4_isTold s nm = some (r, s')) : s' = s ∧ ((r = 1 ∧ ∃ p : Nat, (p : Int) < (s.v 9).toInt ∧ s.g 29 p = nm) ∨ (r = 0 ∧ ∀ p : Nat, (p : Int) < (s.v 9).toInt → ¬ s.g 29 p = nm)) := by
  unfold kX4_isTold at h
  have z0 : (0 : Int32).toInt = 0 := by decide
  obtain ⟨e, h⟩ := told_inv fu 0 (by decide) (by decide) h
  refine ⟨e, ?_⟩
  rcases h with ⟨e1, p, _, p2, p3⟩ | ⟨e1, h⟩
  · exact Or.inl ⟨e1, p, p2, p3⟩
  · exact Or.inr ⟨e1, fun p q => h p (by omega) q⟩
