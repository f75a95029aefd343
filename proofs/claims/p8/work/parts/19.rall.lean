/-! ===== the whole text: the side that lives stays as it should be ===== -/
theorem Seg.far {sd l : Nat} {s0 s : RS} {a b : Int32} (hl : l + sd = 1) (hO : Out (420 * sd) (420 * sd + 402) s0 s) (h : Seg (420 * l) (420 * l + 402) (s0.f 36) (s0.f 37) a b) : Seg (420 * l) (420 * l + 402) (s.f 36) (s.f 37) a b := by
  obtain ⟨p, n, h1, h2, h3, h4, h5, d, h6⟩ := h
  refine ⟨p, n, h1, h2, h3, h4, h5, d, ?_⟩
  rw [← h6]
  exact dep_congr n p 0 (fun j q1 q2 => hO j (by omega))
theorem Big.far {sd : Nat} {s0 s : RS} {W : List Nat} (hB : Big s0) (hI0 : InvR s0) (hl : (s0.v 18).toInt + (sd : Int) = 1) (hsd : sd ≤ 1) (F : FrR W s0 s) (h18 : 18 ∉ W) (h46 : 146 ∉ W) (R : Far sd s0 s) : Big s := by
  obtain ⟨hO, hOB, h27, h20, h21⟩ := R
  obtain ⟨B1, B2, B3⟩ := hB
  have ec : (s0.v 18).toNatClampNeg = 1 - sd := clamp_of_int (by omega)
  unfold OddsOK at B2
  unfold LawOK at B3
  unfold Big OddsOK LawOK
  rw [F.1 18 h18, (F.2 46 h46).1]
  rw [ec] at B2 B3 ⊢
  refine ⟨B1, fun w hw => ?_, fun k hk => ?_⟩
  · rw [h20 (1 - sd) (by omega)] at hw
    have h5 : 0 ≤ (s0.f 20 (1 - sd)).toInt ∧ (s0.f 20 (1 - sd)).toInt ≤ 5 := hI0.2 20 _
    have old := B2 w hw
    refine ⟨fun v hv => by rw [h21 _ (by omega)]; exact old.1 v hv, ?_⟩
    rw [psum_congr (f := s.f 21) (g := s0.f 21) 6 (fun j hj => h21 _ (by omega))]
    exact old.2
  · have e := h27 (4 * (1 - sd) + k) (by omega)
    rw [e.1, e.2]
    rcases B3 k hk with q | ⟨q1, q2, q3⟩
    · exact Or.inl q
    · refine Or.inr ⟨q1, q2, fun b hb1 hb2 => ?_⟩
      have old := q3 b hb1 hb2
      obtain ⟨e0, e1, e2, e3, e4⟩ := hOB b (by omega)
      have hl1 : (1 - sd) + sd = 1 := by omega
      unfold BrOK at old ⊢
      rw [e0, e1, e2, e3, e4]
      exact ⟨fun q => ⟨(old.1 q).1.far hl1 hO, (old.1 q).2.far hl1 hO⟩, old.2.far hl1 hO⟩
theorem big_new {s0 s y : RS} {sd c b : Nat} {W : List Nat} (h : RD s0 sd c b s) (hz : (s.v 13).toInt = 0) (hw : (s.v 15).toInt = 0) (F : FrR W s y) (hW : ∀ k ∈ [120, 121, 127, 128, 130, 131, 132, 133, 134, 136, 137], k ∉ W) (h18 : y.v 18 = s.v 19) (hS : Six (y.f 46)) : Big y := by
  obtain ⟨L, hb, _, _, Z, O⟩ := h
  have e (k : Nat) (hk : 100 + k ∈ [120, 121, 127, 128, 130, 131, 132, 133, 134, 136, 137]) : y.f k = s.f k := (F.2 k (hW _ hk)).1
  have ec : (s.v 19).toNatClampNeg = sd := clamp_of_int L.2.1
  have ht : 0 ≤ (s.v 11).toInt ∧ (s.v 11).toInt ≤ 400 := L.1.1 11
  have hc := L.2.2.2.2.2.2.2.2.1
  unfold Big OddsOK LawOK
  rw [h18, ec, e 20 (by decide), e 21 (by decide), e 27 (by decide), e 28 (by decide), e 30 (by decide), e 31 (by decide), e 32 (by decide), e 33 (by decide), e 34 (by decide), e 36 (by decide), e 37 (by decide)]
  refine ⟨hS, O hz hw, fun k hk => ?_⟩
  rcases (Z hz).2 k hk with q | ⟨p, q, h1, h2, h3, h4⟩
  · exact Or.inl q
  · refine Or.inr ⟨by omega, by omega, fun j hj1 hj2 => ?_⟩
    have old := h4 j (by omega) (by omega)
    unfold BrOK at old ⊢
    exact ⟨fun q => ⟨(old.1 q).1.wide (by omega), (old.1 q).2.wide (by omega)⟩, old.2.wide (by omega)⟩
theorem ok_plain (sd : Nat) (s : RS) (x1 : Int32) (hsd : sd ≤ 1) (hx : x1.toInt = (sd : Int)) (hI : InvR s) : Ok (r_plain s x1) (fun y => InvR y ∧ FrR [120, 123, 126, 127, 128] s y ∧ Far sd s y ∧ (y.f 20 sd).toInt = 0 ∧ (∀ k, k < 4 → y.f 27 (4 * sd + k) = y.f 28 (4 * sd + k))) := by
  have ec : x1.toNatClampNeg = sd := clamp_of_int hx
  have loop : ∀ (m n : Nat) (t : RS) (x2 : Int32), 4 - n < m → n ≤ 4 → x2.toInt = (n : Int) → InvR t → FrR [120, 123, 126, 127, 128] s t → (∀ j, ¬ j = sd → t.f 20 j = s.f 20 j) → (t.f 20 sd).toInt = 0 → (∀ j, (j < 4 * sd ∨ 4 * sd + 4 ≤ j) → t.f 27 j = s.f 27 j ∧ t.f 28 j = s.f 28 j) → (∀ k, k < n → t.f 27 (4 * sd + k) = t.f 28 (4 * sd + k)) → Ok (r_plain_23L m t x1 x2) (fun y => InvR y ∧ FrR [120, 123, 126, 127, 128] s y ∧ Far sd s y ∧ (y.f 20 sd).toInt = 0 ∧ (∀ k, k < 4 → y.f 27 (4 * sd + k) = y.f 28 (4 * sd + k))) := by
    intro m
    induction m with
    | zero => intro n t x2 h; omega
    | succ m ih =>
      intro n t x2 hm hn h2 It Ft g1 g2 g3 g4
      show Ok (r_plain_23 (r_plain_23L m) t x1 x2) _
      unfold r_plain_23
      refine ok_ite (fun c => ?_) (fun c => ?_)
      · have c := tn_le (a := 4) (by decide) rfl c
        obtain rfl : n = 4 := by omega
        exact ok_some ⟨It, Ft, ⟨Out.fr Ft (by decide) (by decide), OutB.fr Ft (by decide) (by decide) (by decide) (by decide) (by decide), g3, g1, fun j _ => by rw [(Ft.2 21 (by decide)).1]⟩, g2, g4⟩
      · have c := tn_nle (a := 4) (by decide) rfl c
        have a1 : (4 * x1).toInt = x1.toInt * 4 := ti_cmul (c := 4) (by decide) (by omega) (by omega)
        have a2 : ((4 * x1) + x2).toInt = (4 * x1).toInt + x2.toInt := ti_add (by omega) (by omega)
        have a3 : (x2 + 1).toInt = x2.toInt + 1 := tn_add rfl (by decide) (by omega) (by omega)
        have ei : ((4 * x1) + x2).toNatClampNeg = 4 * sd + n := clamp_of_int (by omega)
        refine ok_grd (vpb_ok (by omega) (by omega)) ?_
        rw [ei]
        refine ok_let (fun s3 hs3 => ?_)
        refine ok_grd (vpb_ok (by omega) (by omega)) ?_
        refine ok_let (fun s6 hs6 => ?_)
        have I3 : InvR s3 := by rw [← hs3]; exact It.sfF (k := 27) rfl rfl
        have F3 : FrR [120, 123, 126, 127, 128] s s3 := by rw [← hs3]; exact Ft.sf (k := 27) (by decide)
        have e20 : s6.f 20 = t.f 20 := by rw [← hs6, ← hs3]; rfl
        have e27 : s6.f 27 = upd (t.f 27) (4 * sd + n) 0 := by rw [← hs6, ← hs3]; rfl
        have e28 : s6.f 28 = upd (t.f 28) (4 * sd + n) 0 := by rw [← hs6, ← hs3]; rfl
        refine ih (n + 1) s6 _ (by omega) (by omega) (by omega) (by rw [← hs6]; exact I3.sfF (k := 28) rfl rfl) (by rw [← hs6]; exact F3.sf (k := 28) (by decide)) (by rw [e20]; exact g1) (by rw [e20]; exact g2) (fun j hj => ?_) (fun k hk => ?_)
        · rw [e27, e28, upd_ne (by omega), upd_ne (by omega)]
          exact g3 j hj
        · rw [e27, e28]
          by_cases q : k = n
          · rw [q, upd_same, upd_same]
          · rw [upd_ne (by omega), upd_ne (by omega)]
            exact g4 k (by omega)
  unfold r_plain
  refine ok_grd (vpb_ok (by omega) (by omega)) ?_
  rw [ec]
  refine ok_let (fun s2 hs2 => ?_)
  have I2 : InvR s2 := by rw [← hs2]; exact hI.sf (k := 20) (show (0 : Int) ≤ (0 : Int32).toInt by decide) (show (0 : Int32).toInt ≤ (5 : Int) by decide)
  have F2 : FrR [120, 123, 126, 127, 128] s s2 := by rw [← hs2]; exact FrR.rfl.sf (k := 20) (by decide)
  refine ok_grd (vpb_ok (by omega) (by omega)) ?_
  refine ok_let (fun s5 hs5 => ?_)
  have I5 : InvR s5 := by rw [← hs5]; exact I2.sf (k := 23) (show (0 : Int) ≤ (0 : Int32).toInt by decide) (show (0 : Int32).toInt ≤ (6 : Int) by decide)
  have F5 : FrR [120, 123, 126, 127, 128] s s5 := by rw [← hs5]; exact F2.sf (k := 23) (by decide)
  refine ok_grd (vpb_ok (by omega) (by omega)) ?_
  refine ok_let (fun s8 hs8 => ?_)
  have e20 : s8.f 20 = upd (s.f 20) sd 0 := by rw [← hs8, ← hs5, ← hs2]; rfl
  have e27 : s8.f 27 = s.f 27 := by rw [← hs8, ← hs5, ← hs2]; rfl
  have e28 : s8.f 28 = s.f 28 := by rw [← hs8, ← hs5, ← hs2]; rfl
  exact loop fu 0 s8 0 (by unfold fu; omega) (by omega) (by decide) (by rw [← hs8]; exact I5.sfF (k := 26) rfl rfl) (by rw [← hs8]; exact F5.sf (k := 26) (by decide)) (fun j hj => by rw [e20, upd_ne hj]) (by rw [e20, upd_same]; decide) (fun j _ => by rw [e27, e28]; exact ⟨rfl, rfl⟩) (fun k hk => by omega)
def px : Nat → Int
  | 0 => 1
  | n + 1 => 6 * px n
theorem px_le (j : Nat) (h : j ≤ 5) : 1 ≤ px j ∧ px j ≤ 7776 := by
  rcases (by omega : j = 0 ∨ j = 1 ∨ j = 2 ∨ j = 3 ∨ j = 4 ∨ j = 5) with e | e | e | e | e | e <;> subst e <;> decide
theorem ok_begins (s : RS) (hI : InvR s) : Ok (r_begins s) (fun y => InvR y ∧ FrR [45, 144, 146] s y ∧ Six (y.f 46)) := by
  have h46 : ∀ (m n : Nat) (t : RS) (x1 : Int32), 6 - n < m → 1 ≤ n → n ≤ 6 → x1.toInt = (n : Int) → InvR t → FrR [45, 144, 146] s t → (∀ j, j < n → (t.f 46 j).toInt = px j) → Ok (r_begins_46L m t x1) (fun y => InvR y ∧ FrR [45, 144, 146] s y ∧ Six (y.f 46)) := by
    intro m
    induction m with
    | zero => intro n t x1 h; omega
    | succ m ih =>
      intro n t x1 hm h1 h6 hx It Ft hp
      show Ok (r_begins_46 (r_begins_46L m) t x1) _
      unfold r_begins_46
      have h18 : 0 ≤ (t.v 18).toInt ∧ (t.v 18).toInt ≤ 1 := It.1 18
      refine ok_ite (fun c => ?_) (fun c => ?_)
      · have c := tn_le (a := 6) (by decide) rfl c
        refine ok_grd (vpb_ok (by omega) (by omega)) ?_
        refine ok_let (fun s3 hs3 => ?_)
        have e : s3.f 46 = t.f 46 := by rw [← hs3]; rfl
        refine ok_some ⟨by rw [← hs3]; exact It.svF (k := 45) rfl rfl, by rw [← hs3]; exact Ft.sv (k := 45) (by decide), fun j hj => ?_⟩
        rw [e, hp j (by omega)]
        exact px_le j (by omega)
      · have c := tn_nle (a := 6) (by decide) rfl c
        obtain ⟨n', rfl⟩ : ∃ n', n = n' + 1 := ⟨n - 1, by omega⟩
        have a1 : (x1 - 1).toInt = x1.toInt - 1 := tn_sub rfl (by decide) (by omega) (by omega)
        have a2 : (x1 + 1).toInt = x1.toInt + 1 := tn_add rfl (by decide) (by omega) (by omega)
        have e1 : (x1 - 1).toNatClampNeg = n' := clamp_of_int (by omega)
        have e2 : x1.toNatClampNeg = n' + 1 := clamp_of_int hx
        refine ok_grd (vpb_ok (by omega) (by omega)) ?_
        refine ok_grd (vpb_ok (by omega) (by omega)) ?_
        rw [e1, e2]
        refine ok_let (fun s7 hs7 => ?_)
        have p1 := hp n' (by omega)
        have p2 := px_le n' (by omega)
        have a3 : (6 * (t.f 46 n')).toInt = (t.f 46 n').toInt * 6 := ti_cmul (c := 6) (by decide) (by omega) (by omega)
        have p3 : px (n' + 1) = 6 * px n' := rfl
        have e46 : s7.f 46 = upd (t.f 46) (n' + 1) (6 * (t.f 46 n')) := by rw [← hs7]; rfl
        refine ih (n' + 1 + 1) s7 _ (by omega) (by omega) (by omega) (by omega) (by rw [← hs7]; exact It.sfF (k := 46) rfl rfl) (by rw [← hs7]; exact Ft.sf (k := 46) (by decide)) (fun j hj => ?_)
        rw [e46]
        by_cases q : j = n' + 1
        · rw [q, upd_same]
          omega
        · rw [upd_ne q]
          exact hp j (by omega)
  have h2 : ∀ (m : Nat) (t : RS) (x1 : Int32), (29 - x1.toInt).toNat < m → 0 ≤ x1.toInt → x1.toInt ≤ 29 → InvR t → FrR [45, 144, 146] s t → Ok (r_begins_2L m t x1) (fun y => InvR y ∧ FrR [45, 144, 146] s y ∧ Six (y.f 46)) := by
    intro m
    induction m with
    | zero => intro t x1 h; omega
    | succ m ih =>
      intro t x1 hm h0 h29 It Ft
      show Ok (r_begins_2 (r_begins_2L m) t x1) _
      unfold r_begins_2
      refine ok_ite (fun c => ?_) (fun c => ?_)
      · refine ok_let (fun u hu => ?_)
        have e46 : u.f 46 = upd (t.f 46) 0 1 := by rw [← hu]; rfl
        refine h46 fu 1 u 1 (by unfold fu; omega) (by omega) (by omega) (by decide) (by rw [← hu]; exact It.sfF (k := 46) rfl rfl) (by rw [← hu]; exact Ft.sf (k := 46) (by decide)) (fun j hj => ?_)
        obtain rfl : j = 0 := by omega
        rw [e46, upd_same]
        decide
      · have c := tn_nle (a := 29) (by decide) rfl c
        have a : (x1 + 1).toInt = x1.toInt + 1 := tn_add rfl (by decide) (by omega) (by omega)
        have st : ∀ z, Ok (r_begins_30 (r_begins_2L m) t x1 z x1) (fun y => InvR y ∧ FrR [45, 144, 146] s y ∧ Six (y.f 46)) := by
          intro z
          unfold r_begins_30
          refine ok_grd (vpb_ok (by omega) (by omega)) ?_
          refine ok_let (fun u hu => ?_)
          exact ih u _ (by omega) (by omega) (by omega) (by rw [← hu]; exact It.sfF (k := 44) rfl rfl) (by rw [← hu]; exact Ft.sf (k := 44) (by decide))
        unfold r_begins_29
        exact ok_ite (fun _ => st _) (fun _ => ok_ite (fun _ => st _) (fun _ => st _))
  unfold r_begins
  have z0 : (0 : Int32).toInt = 0 := by decide
  exact h2 fu s 0 (by unfold fu; omega) (by decide) (by decide) hI FrR.rfl
/-- what reading leaves -/
def RQ (s0 : RS) (y : Int32 × RS) : Prop := InvR y.2 ∧ Big y.2 ∧ y.2.v 2 = s0.v 2
theorem ok_read_214 (s0 : RS) : ∀ (m : Nat) (t : RS) (x1 : Int32), (3 - x1.toInt).toNat < m → 0 ≤ x1.toInt → x1.toInt ≤ 3 → InvR t → Big t → t.v 2 = s0.v 2 → Ok (r_read_214L m t x1) (RQ s0) := by
  intro m
  induction m with
  | zero => intro t x1 h; omega
  | succ m ih =>
    intro t x1 hm h0 h3 It Bt e2
    show Ok (r_read_214 (r_read_214L m) t x1) _
    unfold r_read_214
    refine ok_ite (fun c => ?_) (fun c => ?_)
    · exact ok_some ⟨It, Bt, e2⟩
    · have c := tn_nle (a := 3) (by decide) rfl c
      have a : (x1 + 1).toInt = x1.toInt + 1 := tn_add rfl (by decide) (by omega) (by omega)
      refine ok_grd (vpb_ok (by omega) (by omega)) ?_
      refine ok_let (fun u hu => ?_)
      have Fu : FrR [156] t u := by rw [← hu]; exact FrR.rfl.sf (k := 56) (by decide)
      exact ih u _ (by omega) (by omega) (by omega) (by rw [← hu]; exact It.sfF (k := 56) rfl rfl) (Bt.fr Fu (by decide)) (by rw [Fu.1 2 (by decide)]; exact e2)
theorem ok_read_159 (s0 : RS) (sd c b : Nat) (s : RS) (t0 : Int32) (h : RD s0 sd c b s) (hB : Big s0) (hI0 : InvR s0) (hl : (s0.v 18).toInt + (sd : Int) = 1) : Ok (r_read_159 s t0) (RQ s0) := by
  have hI : InvR s := h.1.1
  have hsd : sd ≤ 1 := h.1.2.2.1
  have h19 : (s.v 19).toInt = (sd : Int) := h.1.2.1
  have f0 : 0 ≤ (s.v 13).toInt ∧ (s.v 13).toInt ≤ 2 := hI.1 13
  have w0 : 0 ≤ (s.v 15).toInt ∧ (s.v 15).toInt ≤ 5 := hI.1 15
  have F0 : FrR WRD s0 s := h.2.2.1
  unfold r_read_159
  refine ok_let (fun s1 hs1 => ?_)
  have I1 : InvR s1 := by rw [← hs1]; exact hI.svF (k := 17) rfl rfl
  have F1 : FrR [17] s s1 := by rw [← hs1]; exact FrR.rfl.sv (k := 17) (by decide)
  have B1 : Big s1 := (hB.far hI0 hl hsd F0 (by decide) (by decide) h.2.2.2.1).fr F1 (by decide)
  have e2 : s1.v 2 = s0.v 2 := (F1.1 2 (by decide)).trans (F0.1 2 (by decide))
  have e13 : s1.v 13 = s.v 13 := F1.1 13 (by decide)
  have e15 : s1.v 15 = s.v 15 := F1.1 15 (by decide)
  have e19 : s1.v 19 = s.v 19 := F1.1 19 (by decide)
  refine ok_ite (fun c1 => ?_) (fun _ => ok_some ⟨I1, B1, e2⟩)
  refine ok_ite (fun c2 => ?_) (fun _ => ok_some ⟨I1, B1, e2⟩)
  have c1 := tn_le (b := 0) rfl (by decide) c1
  have c2 := tn_le (b := 0) rfl (by decide) c2
  rw [e13] at c1
  rw [e15] at c2
  refine ok_let (fun s5 hs5 => ?_)
  have I5 : InvR s5 := by rw [← hs5]; exact I1.sv (k := 18) (show (0 : Int) ≤ (s1.v 19).toInt by rw [e19]; omega) (show (s1.v 19).toInt ≤ (1 : Int) by rw [e19]; omega)
  have F5 : FrR [18] s1 s5 := by rw [← hs5]; exact FrR.rfl.sv (k := 18) (by decide)
  have e18 : s5.v 18 = s.v 19 := by rw [← hs5, ← e19]; rfl
  refine ok_bindP (ok_begins s5 I5) (fun s7 h7 => ?_)
  obtain ⟨I7, F7, S7⟩ := h7
  refine ok_bindP (ok_r_keepsRow s7 I7) (fun s8 h8 => ?_)
  obtain ⟨I8, F8⟩ := h8
  refine ok_let (fun s9 hs9 => ?_)
  have I9 : InvR s9 := by rw [← hs9]; exact I8.sv (k := 48) (show (0 : Int) ≤ (0 : Int32).toInt by decide) (show (0 : Int32).toInt ≤ (40 : Int) by decide)
  have F9 : FrR [48] s8 s9 := by rw [← hs9]; exact FrR.rfl.sv (k := 48) (by decide)
  refine ok_let (fun s11 hs11 => ?_)
  have I11 : InvR s11 := by rw [← hs11]; exact I9.sv (k := 51) (show (0 : Int) ≤ (0 : Int32).toInt by decide) (show (0 : Int32).toInt ≤ (20 : Int) by decide)
  have F11 : FrR [51] s9 s11 := by rw [← hs11]; exact FrR.rfl.sv (k := 51) (by decide)
  have FA : FrR [17, 18, 45, 48, 51, 143, 144, 146] s s11 := (((((FrR.rfl.trans F1 (by decide)).trans F5 (by decide)).trans F7 (by decide)).trans F8 (by decide)).trans F9 (by decide)).trans F11 (by decide)
  have eA : s11.v 18 = s.v 19 := by rw [F11.1 18 (by decide), F9.1 18 (by decide), F8.1 18 (by decide), F7.1 18 (by decide), e18]
  have S11 : Six (s11.f 46) := by rw [(F11.2 46 (by decide)).1, (F9.2 46 (by decide)).1, (F8.2 46 (by decide)).1]; exact S7
  have z0 : (0 : Int32).toInt = 0 := by decide
  exact ok_read_214 s0 fu s11 0 (by unfold fu; omega) (by decide) (by decide) I11 (big_new h (by omega) (by omega) FA (by decide) eA S11) ((FA.1 2 (by decide)).trans (F0.1 2 (by decide)))
theorem ok_read_107 (s0 : RS) (sd : Nat) (hB : Big s0) (hI0 : InvR s0) (hl : (s0.v 18).toInt + (sd : Int) = 1) : ∀ (m c b : Nat) (s : RS), mu s < m → RD s0 sd c b s → Ok (r_read_107L m s) (RQ s0) := by
  intro m
  induction m with
  | zero => intro c b s h; omega
  | succ m ih =>
    intro c b s hm h
    have fin : Ok (r_read_129 s) (RQ s0) := by
      unfold r_read_129
      exact ok_ite (fun _ => ok_ite (fun _ => ok_read_159 s0 sd c b s _ h hB hI0 hl) (fun _ => ok_read_159 s0 sd c b s _ h hB hI0 hl)) (fun _ => ok_read_159 s0 sd c b s _ h hB hI0 hl)
    show Ok (r_read_107 (r_read_107L m) s) _
    unfold r_read_107
    refine ok_ite (fun c1 => ?_) (fun _ => fin)
    refine ok_is h.1.1 (fun _ _ => ?_) (fun _ => ?_)
    · show Ok (if (1 : Int32) = 0 then _ else _) _
      rw [if_neg z_one]
      exact fin
    · show Ok (if (0 : Int32) = 0 then _ else _) _
      rw [if_pos rfl]
      refine ok_bindP (ok_tellOne s0 sd c b s h (fz c1)) (fun y hy => ?_)
      obtain ⟨⟨c', b', R⟩, my⟩ := hy
      exact ih c' b' y (by omega) R
theorem ok_read_10 (s00 : RS) : ∀ (m : Nat) (s : RS) (x1 : Int32), (2000 - x1.toInt).toNat < m → 0 ≤ x1.toInt → x1.toInt ≤ 2000 → InvR s → Big s → Ok (r_read_10L m s x1) (fun y => InvR y.2 ∧ Big y.2 ∧ y.2.v 2 = 0) := by
  intro m
  induction m with
  | zero => intro s x1 h; omega
  | succ m ih =>
    intro s x1 hm h0 h2 hI hB
    have h4 : 0 ≤ (s.v 4).toInt ∧ (s.v 4).toInt ≤ 2000 := hI.1 4
    show Ok (r_read_10 (r_read_10L m) s x1) _
    unfold r_read_10
    refine ok_ite (fun c => ?_) (fun c => ?_)
    · refine ok_let (fun s2 hs2 => ?_)
      have I2 : InvR s2 := by rw [← hs2]; exact hI.sv (k := 2) (show (0 : Int) ≤ (0 : Int32).toInt by decide) (show (0 : Int32).toInt ≤ (2000 : Int) by decide)
      have F2 : FrR [2] s s2 := by rw [← hs2]; exact FrR.rfl.sv (k := 2) (by decide)
      have z2 : s2.v 2 = 0 := by rw [← hs2]; rfl
      refine ok_bindP (ok_cut s2 I2) (fun s4 h4' => ?_)
      obtain ⟨I4, F4⟩ := h4'
      refine ok_let (fun s5 hs5 => ?_)
      have I5 : InvR s5 := by rw [← hs5]; exact I4.sv (k := 11) (show (0 : Int) ≤ (0 : Int32).toInt by decide) (show (0 : Int32).toInt ≤ (400 : Int) by decide)
      have F5 : FrR [11, 12, 13, 15, 19] s4 s5 := by rw [← hs5]; exact FrR.rfl.sv (k := 11) (by decide)
      refine ok_let (fun s7 hs7 => ?_)
      have I7 : InvR s7 := by rw [← hs7]; exact I5.svF (k := 12) rfl rfl
      have F7 : FrR [11, 12, 13, 15, 19] s4 s7 := by rw [← hs7]; exact F5.sv (k := 12) (by decide)
      refine ok_let (fun s9 hs9 => ?_)
      have I9 : InvR s9 := by rw [← hs9]; exact I7.sv (k := 13) (show (0 : Int) ≤ (0 : Int32).toInt by decide) (show (0 : Int32).toInt ≤ (2 : Int) by decide)
      have F9 : FrR [11, 12, 13, 15, 19] s4 s9 := by rw [← hs9]; exact F7.sv (k := 13) (by decide)
      refine ok_let (fun s11 hs11 => ?_)
      have I11 : InvR s11 := by rw [← hs11]; exact I9.sv (k := 15) (show (0 : Int) ≤ (0 : Int32).toInt by decide) (show (0 : Int32).toInt ≤ (5 : Int) by decide)
      have F11 : FrR [11, 12, 13, 15, 19] s4 s11 := by rw [← hs11]; exact F9.sv (k := 15) (by decide)
      have h18 : 0 ≤ (s11.v 18).toInt ∧ (s11.v 18).toInt ≤ 1 := I11.1 18
      have a : (1 - (s11.v 18)).toInt = 1 - (s11.v 18).toInt := tn_sub (by decide) rfl (by omega) (by omega)
      refine ok_let (fun s13 hs13 => ?_)
      have I13 : InvR s13 := by rw [← hs13]; exact I11.sv (k := 19) (show (0 : Int) ≤ (1 - (s11.v 18)).toInt by omega) (show (1 - (s11.v 18)).toInt ≤ (1 : Int) by omega)
      have F13 : FrR [11, 12, 13, 15, 19] s4 s13 := by rw [← hs13]; exact F11.sv (k := 19) (by decide)
      have e19 : s13.v 19 = 1 - (s11.v 18) := by rw [← hs13]; rfl
      have e18 : s13.v 18 = s11.v 18 := by rw [← hs13]; rfl
      have e11 : s13.v 11 = 0 := by rw [← hs13, ← hs11, ← hs9, ← hs7, ← hs5]; rfl
      have e12 : s13.v 12 = 0 := by rw [← hs13, ← hs11, ← hs9, ← hs7]; rfl
      have e13 : s13.v 13 = 0 := by rw [← hs13, ← hs11, ← hs9]; rfl
      have B13 : Big s13 := ((hB.fr F2 (by decide)).fr F4 (by decide)).fr F13 (by decide)
      have z13 : s13.v 2 = 0 := by rw [F13.1 2 (by decide), F4.1 2 (by decide), z2]
      obtain ⟨sd, hsd⟩ : ∃ sd : Nat, (s13.v 19).toInt = (sd : Int) := ⟨(s13.v 19).toInt.toNat, by rw [e19]; omega⟩
      have hsd1 : sd ≤ 1 := by rw [e19] at hsd; omega
      have hl13 : (s13.v 18).toInt + (sd : Int) = 1 := by rw [e18, ← hsd, e19]; omega
      refine ok_bindP (ok_plain sd s13 (s13.v 19) hsd1 hsd I13) (fun s15 h15 => ?_)
      obtain ⟨I15, F15, R15, w15, l15⟩ := h15
      have B15 : Big s15 := B13.far I13 hl13 hsd1 F15 (by decide) (by decide) R15
      have e1519 : s15.v 19 = s13.v 19 := F15.1 19 (by decide)
      refine ok_let (fun s16 hs16 => ?_)
      have I16 : InvR s16 := by rw [← hs16]; exact I15.svF (k := 29) rfl rfl
      have F16 : FrR [29] s15 s16 := by rw [← hs16]; exact FrR.rfl.sv (k := 29) (by decide)
      have b1 : (130 * (s15.v 19)).toInt = (s15.v 19).toInt * 130 := ti_cmul (c := 130) (by decide) (by rw [e1519]; omega) (by rw [e1519]; omega)
      have e29 : s16.v 29 = 130 * (s15.v 19) := by rw [← hs16]; rfl
      have e1619 : s16.v 19 = s15.v 19 := F16.1 19 (by decide)
      refine ok_let (fun s18 hs18 => ?_)
      have I18 : InvR s18 := by rw [← hs18]; exact I16.svF (k := 35) rfl rfl
      have F18 : FrR [35] s16 s18 := by rw [← hs18]; exact FrR.rfl.sv (k := 35) (by decide)
      have b2 : (420 * (s16.v 19)).toInt = (s16.v 19).toInt * 420 := ti_cmul (c := 420) (by decide) (by rw [e1619, e1519]; omega) (by rw [e1619, e1519]; omega)
      have e35 : s18.v 35 = 420 * (s16.v 19) := by rw [← hs18]; rfl
      have FA : FrR [29, 35] s15 s18 := (FrR.rfl.trans F16 (by decide)).trans F18 (by decide)
      have B18 : Big s18 := B15.fr FA (by decide)
      have g (k : Nat) (hk : k ∉ [29, 35]) (hk2 : k ∉ [120, 123, 126, 127, 128]) : s18.v k = s13.v k := (FA.1 k hk).trans (F15.1 k hk2)
      have g11 : s18.v 11 = 0 := (g 11 (by decide) (by decide)).trans e11
      have g12 : s18.v 12 = 0 := (g 12 (by decide) (by decide)).trans e12
      have g13 : s18.v 13 = 0 := (g 13 (by decide) (by decide)).trans e13
      have g19 : s18.v 19 = s13.v 19 := g 19 (by decide) (by decide)
      have g2 : s18.v 2 = 0 := (g 2 (by decide) (by decide)).trans z13
      have g29 : s18.v 29 = 130 * (s15.v 19) := (F18.1 29 (by decide)).trans e29
      have z0 : (0 : Int32).toInt = 0 := by decide
      rw [e1519] at b1
      rw [e1619, e1519] at b2
      have L : LWS sd s18 0 0 := ⟨I18, by rw [g19]; exact hsd, hsd1, by rw [e35, e1619, e1519]; omega, by rw [g29, e1519]; omega, by rw [g12]; decide, by rw [g12]; decide, fun _ => by rw [g12]; decide, by rw [g11]; decide, fun _ => by rw [g11]; decide⟩
      have e20 : s18.f 20 = s15.f 20 := (FA.2 20 (by decide)).1
      have R : RD s18 sd 0 0 s18 := ⟨L, by omega, FrR.rfl, Far.rfl, fun _ => ⟨by rw [g11]; decide, fun k hk => Or.inl (by rw [(FA.2 27 (by decide)).1, (FA.2 28 (by decide)).1]; exact l15 k hk)⟩, fun _ _ w hw => by rw [e20] at hw; omega⟩
      have hl18 : (s18.v 18).toInt + (sd : Int) = 1 := by rw [g 18 (by decide) (by decide)]; exact hl13
      refine ok_weak (ok_read_107 s18 sd B18 I18 hl18 fu 0 0 s18 (by have := mu_le s18 I18; unfold fu; omega) R) (fun y hy => ⟨hy.1, hy.2.1, hy.2.2.trans g2⟩)
    · have c := ti_nle c
      have a : (x1 + 1).toInt = x1.toInt + 1 := tn_add rfl (by decide) (by omega) (by omega)
      refine ok_grd (vpb_ok (by omega) (by omega)) ?_
      refine ok_grd (vpb_ok (by omega) (by omega)) ?_
      refine ok_let (fun u hu => ?_)
      have Fu : FrR [103] s u := by rw [← hu]; exact FrR.rfl.sf (k := 3) (by decide)
      exact ih u _ (by omega) (by omega) (by omega) (by rw [← hu]; exact hI.sfF (k := 3) rfl rfl) (hB.fr Fu (by decide))
theorem ok_r_read (s : RS) (hI : InvR s) (hB : Big s) : Ok (r_read s) (fun y => InvR y.2 ∧ Big y.2 ∧ y.2.v 2 = 0) := by
  unfold r_read
  refine ok_let (fun s1 hs1 => ?_)
  have h2 : 0 ≤ (s.v 2).toInt ∧ (s.v 2).toInt ≤ 2000 := hI.1 2
  have I1 : InvR s1 := by rw [← hs1]; exact hI.sv (k := 4) (show (0 : Int) ≤ (s.v 2).toInt by omega) (show (s.v 2).toInt ≤ (2000 : Int) by omega)
  have F1 : FrR [4] s s1 := by rw [← hs1]; exact FrR.rfl.sv (k := 4) (by decide)
  have z0 : (0 : Int32).toInt = 0 := by decide
  exact ok_read_10 s fu s1 0 (by unfold fu; omega) (by decide) (by decide) I1 (hB.fr F1 (by decide))
