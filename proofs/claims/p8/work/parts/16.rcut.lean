/-! ===== the text is cut into tokens ===== -/
abbrev WC : List Nat := [10, 105, 106, 107, 108]
def bt (s : RS) (x : Int32) : Int32 := if (s.v 4) ≤ x then 0 else (s.f 3 x.toNatClampNeg) &&& 255
theorem byteAt_eq {s : RS} {x : Int32} (hI : InvR s) (h0 : 0 ≤ x.toInt) : r_byteAt s x = some (bt s x, s) := by
  have h4 : 0 ≤ (s.v 4).toInt ∧ (s.v 4).toInt ≤ 2000 := hI.1 4
  unfold r_byteAt bt
  by_cases h : (s.v 4) ≤ x
  · rw [if_pos h, if_pos h]
  · have h' := ti_nle h
    rw [if_neg h, if_neg h, if_pos (vpb_ok (by omega) (by omega))]
theorem bt_in {s : RS} {x : Int32} (h : ¬ (bt s x).toInt = 0) : x.toInt < (s.v 4).toInt := by
  unfold bt at h
  by_cases c : (s.v 4) ≤ x
  · rw [if_pos c] at h; exact absurd (by decide) h
  · exact ti_nle c
theorem letter_eq (c : Int32) : r_isLetter c = some (if 97 ≤ c.toInt ∧ c.toInt ≤ 122 then 1 else 0) := by
  unfold r_isLetter
  by_cases h1 : c < 97
  · have := tn_lt (b := 97) rfl (by decide) h1
    rw [if_pos h1, if_neg (by omega)]
  · have := tn_nlt (b := 97) rfl (by decide) h1
    rw [if_neg h1]
    by_cases h2 : 122 < c
    · have := tn_lt (a := 122) (by decide) rfl h2
      rw [if_pos h2, if_neg (by omega)]
    · have := tn_nlt (a := 122) (by decide) rfl h2
      rw [if_neg h2, if_pos (by omega)]
theorem digit_eq (c : Int32) : r_isDigit c = some (if 48 ≤ c.toInt ∧ c.toInt ≤ 57 then 1 else 0) := by
  unfold r_isDigit
  by_cases h1 : c < 48
  · have := tn_lt (b := 48) rfl (by decide) h1
    rw [if_pos h1, if_neg (by omega)]
  · have := tn_nlt (b := 48) rfl (by decide) h1
    rw [if_neg h1]
    by_cases h2 : 57 < c
    · have := tn_lt (a := 57) (by decide) rfl h2
      rw [if_pos h2, if_neg (by omega)]
    · have := tn_nlt (a := 57) (by decide) rfl h2
      rw [if_neg h2, if_pos (by omega)]
theorem ok_appends (x0 : Int64) (x2 : Int32) : Ok (r_appends x0 x2) (fun _ => True) := by
  unfold r_appends
  exact ok_ite (fun _ => ok_some trivial) (fun _ => ok_some trivial)
theorem ok_token (s : RS) (x1 x2 x3 : Int32) (x4 : Int64) (hI : InvR s) (h : (s.v 10).toInt ≤ 400) (h30 : 0 ≤ x3.toInt) (h39 : x3.toInt ≤ 9999) (hk0 : 0 ≤ x1.toInt) (hk9 : x1.toInt ≤ 38) : Ok (r_token s x1 x2 x3 x4) (fun y => InvR y ∧ FrR WC s y ∧ (y.v 10).toInt = (s.v 10).toInt + 1) := by
  have h10 : 0 ≤ (s.v 10).toInt ∧ (s.v 10).toInt ≤ 402 := hI.1 10
  unfold r_token
  refine ok_grd (vpb_ok (by omega) (by omega)) ?_
  refine ok_let (fun s2 hs2 => ?_)
  have e2 : s2.v 10 = s.v 10 := by rw [← hs2]; rfl
  have I2 : InvR s2 := by rw [← hs2]; exact hI.sf (k := 5) (show (0 : Int) ≤ x1.toInt by omega) (show x1.toInt ≤ (38 : Int) by omega)
  have F2 : FrR WC s s2 := by rw [← hs2]; exact FrR.rfl.sf (k := 5) (by decide)
  refine ok_grd (vpb_ok (by rw [e2]; omega) (by rw [e2]; omega)) ?_
  refine ok_let (fun s5 hs5 => ?_)
  have e5 : s5.v 10 = s.v 10 := by rw [← hs5]; exact e2
  have I5 : InvR s5 := by rw [← hs5]; exact I2.sfF (k := 6) rfl rfl
  have F5 : FrR WC s s5 := by rw [← hs5]; exact F2.sf (k := 6) (by decide)
  refine ok_grd (vpb_ok (by rw [e5]; omega) (by rw [e5]; omega)) ?_
  refine ok_let (fun s8 hs8 => ?_)
  have e8 : s8.v 10 = s.v 10 := by rw [← hs8]; exact e5
  have I8 : InvR s8 := by rw [← hs8]; exact I5.sf (k := 7) (show (0 : Int) ≤ x3.toInt by omega) (show x3.toInt ≤ (9999 : Int) by omega)
  have F8 : FrR WC s s8 := by rw [← hs8]; exact F5.sf (k := 7) (by decide)
  refine ok_grd (vpb_ok (by rw [e8]; omega) (by rw [e8]; omega)) ?_
  refine ok_let (fun s11 hs11 => ?_)
  have e11 : s11.v 10 = s.v 10 := by rw [← hs11]; exact e8
  have I11 : InvR s11 := by rw [← hs11]; exact I8.sg
  have F11 : FrR WC s s11 := by rw [← hs11]; exact F8.sg (k := 8) (by decide)
  refine ok_let (fun s13 hs13 => ?_)
  have a : ((s.v 10) + 1).toInt = (s.v 10).toInt + 1 := tn_add rfl (by decide) (by omega) (by omega)
  have e13 : s13.v 10 = (s.v 10) + 1 := by rw [← hs13, ← e11]; rfl
  refine ok_some ⟨by rw [← hs13, e11]; exact I11.sv (k := 10) (show (0 : Int) ≤ ((s.v 10) + 1).toInt by omega) (show ((s.v 10) + 1).toInt ≤ (402 : Int) by omega), by rw [← hs13]; exact F11.sv (k := 10) (by decide), by rw [e13]; exact a⟩
theorem ok_sign (s : RS) (x1 x2 x3 : Int32) (hI : InvR s) (h : (s.v 10).toInt ≤ 400) : Ok (r_sign s x1 x2 x3) (fun y => (InvR y.2 ∧ FrR WC s y.2 ∧ (y.2.v 10).toInt = (s.v 10).toInt + 1) ∧ y.1 = 1) := by
  have h95 : ∀ (k : Int32), 0 ≤ k.toInt → k.toInt ≤ 38 → Ok (r_sign_95 s x1 k) (fun y => (InvR y.2 ∧ FrR WC s y.2 ∧ (y.2.v 10).toInt = (s.v 10).toInt + 1) ∧ y.1 = 1) := by
    intro k ka kb
    unfold r_sign_95
    refine ok_bindP (ok_token s k x1 0 0 hI h (by decide) (by decide) ka kb) (fun y hy => ?_)
    exact ok_some ⟨hy, rfl⟩
  have h85 : ∀ (k : Int32), 0 ≤ k.toInt → k.toInt ≤ 38 → Ok (r_sign_85 s x1 x2 k) (fun y => (InvR y.2 ∧ FrR WC s y.2 ∧ (y.2.v 10).toInt = (s.v 10).toInt + 1) ∧ y.1 = 1) := fun k ka kb => by
    unfold r_sign_85; exact ok_ite (fun _ => h95 _ (by decide) (by decide)) (fun _ => h95 _ ka kb)
  have h75 : ∀ (k : Int32), 0 ≤ k.toInt → k.toInt ≤ 38 → Ok (r_sign_75 s x1 x2 k) (fun y => (InvR y.2 ∧ FrR WC s y.2 ∧ (y.2.v 10).toInt = (s.v 10).toInt + 1) ∧ y.1 = 1) := fun k ka kb => by
    unfold r_sign_75; exact ok_ite (fun _ => h85 _ (by decide) (by decide)) (fun _ => h85 _ ka kb)
  have h65 : ∀ (k : Int32), 0 ≤ k.toInt → k.toInt ≤ 38 → Ok (r_sign_65 s x1 x2 k) (fun y => (InvR y.2 ∧ FrR WC s y.2 ∧ (y.2.v 10).toInt = (s.v 10).toInt + 1) ∧ y.1 = 1) := fun k ka kb => by
    unfold r_sign_65; exact ok_ite (fun _ => h75 _ (by decide) (by decide)) (fun _ => h75 _ ka kb)
  have h55 : ∀ (k : Int32), 0 ≤ k.toInt → k.toInt ≤ 38 → Ok (r_sign_55 s x1 x2 k) (fun y => (InvR y.2 ∧ FrR WC s y.2 ∧ (y.2.v 10).toInt = (s.v 10).toInt + 1) ∧ y.1 = 1) := fun k ka kb => by
    unfold r_sign_55; exact ok_ite (fun _ => h65 _ (by decide) (by decide)) (fun _ => h65 _ ka kb)
  have h43 : ∀ (k : Int32), 0 ≤ k.toInt → k.toInt ≤ 38 → Ok (r_sign_43 s x1 x2 k) (fun y => (InvR y.2 ∧ FrR WC s y.2 ∧ (y.2.v 10).toInt = (s.v 10).toInt + 1) ∧ y.1 = 1) := fun k ka kb => by
    unfold r_sign_43; exact ok_ite (fun _ => h55 _ (by decide) (by decide)) (fun _ => h55 _ ka kb)
  unfold r_sign
  exact ok_ite (fun _ => h43 _ (by decide) (by decide)) (fun _ => ok_ite (fun _ => h43 _ (by decide) (by decide)) (fun _ => ok_ite (fun _ => h43 _ (by decide) (by decide)) (fun _ => ok_ite (fun _ => h43 _ (by decide) (by decide)) (fun _ => h43 _ (by decide) (by decide)))))
abbrev PC (s0 y : RS) : Prop := InvR y ∧ FrR WC s0 y
section CUT
variable (s0 s : RS) (k7 : RS → Int32 → Option RS) (x1 : Int32) (hI : InvR s) (hF : FrR WC s0 s) (h10 : (s.v 10).toInt ≤ 400) (h1 : 0 ≤ x1.toInt)
  (hk : ∀ (y : RS) (z : Int32), InvR y → FrR WC s0 y → (y.v 10).toInt = (s.v 10).toInt + 1 → x1.toInt ≤ z.toInt → z.toInt ≤ (s.v 4).toInt → Ok (k7 y z) (PC s0))
theorem cut_tok (kd v : Int32) (nm : Int64) (x3 : Int32) (hka : 0 ≤ kd.toInt) (hkb : kd.toInt ≤ 38) (hI : InvR s) (hF : FrR WC s0 s) (h10 : (s.v 10).toInt ≤ 400) (h1 : 0 ≤ x1.toInt)
  (hk : ∀ (y : RS) (z : Int32), InvR y → FrR WC s0 y → (y.v 10).toInt = (s.v 10).toInt + 1 → x1.toInt ≤ z.toInt → z.toInt ≤ (s.v 4).toInt → Ok (k7 y z) (PC s0))
  (hv0 : 0 ≤ v.toInt) (hv9 : v.toInt ≤ 9999) (h3 : 0 ≤ x3.toInt) (h13 : x1.toInt + x3.toInt ≤ (s.v 4).toInt) : Ok (bindP (r_token s kd x1 v nm) fun s1 => r_cut_291 k7 s1 (x1 + x3)) (PC s0) := by
  have h4 : 0 ≤ (s.v 4).toInt ∧ (s.v 4).toInt ≤ 2000 := hI.1 4
  refine ok_bindP (ok_token s kd x1 v nm hI h10 hv0 hv9 hka hkb) (fun y hy => ?_)
  unfold r_cut_291
  have a : (x1 + x3).toInt = x1.toInt + x3.toInt := ti_add (by omega) (by omega)
  exact hk y _ hy.1 (hF.trans hy.2.1 (by decide)) hy.2.2 (by omega) (by omega)
theorem cut_146 (x3 : Int32) (nm : Int64) (hI : InvR s) (hF : FrR WC s0 s) (h10 : (s.v 10).toInt ≤ 400) (h1 : 0 ≤ x1.toInt)
  (hk : ∀ (y : RS) (z : Int32), InvR y → FrR WC s0 y → (y.v 10).toInt = (s.v 10).toInt + 1 → x1.toInt ≤ z.toInt → z.toInt ≤ (s.v 4).toInt → Ok (k7 y z) (PC s0)) (h3 : 0 ≤ x3.toInt) (h13 : x1.toInt + x3.toInt ≤ (s.v 4).toInt) :
    ∀ (m : Nat) (x6 x7 : Int32), (19 - x7.toInt).toNat < m → 0 ≤ x7.toInt → x7.toInt ≤ 19 → 0 ≤ x6.toInt → x6.toInt ≤ 38 → Ok (r_cut_146L k7 m s x1 x3 nm x6 x7) (PC s0) := by
  intro m
  induction m with
  | zero => intro x6 x7 h; omega
  | succ m ih =>
    intro x6 x7 hm h0 h19 h60 h68
    show Ok (r_cut_146 k7 (r_cut_146L k7 m) s x1 x3 nm x6 x7) _
    unfold r_cut_146
    refine ok_ite (fun c => ?_) (fun c => ?_)
    · unfold r_cut_179
      exact cut_tok s0 s k7 x1 _ _ _ x3 h60 h68 hI hF h10 h1 hk (by decide) (by decide) h3 h13
    · have c := tn_nle (a := 19) (by decide) rfl c
      have a : (x7 + 1).toInt = x7.toInt + 1 := tn_add rfl (by decide) (by omega) (by omega)
      refine ok_grd (vpb_ok (by omega) (by omega)) ?_
      have a2 : (20 + x7).toInt = 20 + x7.toInt := tn_add (by decide) rfl (by omega) (by omega)
      have st : ∀ (z : Int32), 0 ≤ z.toInt → z.toInt ≤ 38 → Ok (r_cut_173 k7 (r_cut_146L k7 m) s x1 x3 nm z x7) (PC s0) := fun z za zb => by
        unfold r_cut_173
        exact ih _ _ (by omega) (by omega) (by omega) za zb
      exact ok_ite (fun _ => st _ (by omega) (by omega)) (fun _ => st _ h60 h68)
theorem cut_85 (hI : InvR s) (hF : FrR WC s0 s) (h10 : (s.v 10).toInt ≤ 400) (h1 : 0 ≤ x1.toInt)
  (hk : ∀ (y : RS) (z : Int32), InvR y → FrR WC s0 y → (y.v 10).toInt = (s.v 10).toInt + 1 → x1.toInt ≤ z.toInt → z.toInt ≤ (s.v 4).toInt → Ok (k7 y z) (PC s0)) :
    ∀ (m : Nat) (x3 : Int32) (nm : Int64), (2000 - x3.toInt).toNat < m → 0 ≤ x3.toInt → x1.toInt + x3.toInt ≤ (s.v 4).toInt → Ok (r_cut_85L k7 m s x1 x3 nm) (PC s0) := by
  have h4 : 0 ≤ (s.v 4).toInt ∧ (s.v 4).toInt ≤ 2000 := hI.1 4
  intro m
  induction m with
  | zero => intro x3 nm h; omega
  | succ m ih =>
    intro x3 nm hm h0 h13
    show Ok (r_cut_85 k7 (r_cut_85L k7 m) s x1 x3 nm) _
    unfold r_cut_85
    have a : (x1 + x3).toInt = x1.toInt + x3.toInt := ti_add (by omega) (by omega)
    have b : (x3 + 1).toInt = x3.toInt + 1 := tn_add rfl (by decide) (by omega) (by omega)
    rw [byteAt_eq hI (by omega), bindI_some, letter_eq, bindP_some]
    by_cases hl : 97 ≤ (bt s (x1 + x3)).toInt ∧ (bt s (x1 + x3)).toInt ≤ 122
    · rw [if_pos hl, if_neg z_one]
      have hin := bt_in (s := s) (x := x1 + x3) (by omega)
      have st : ∀ z, Ok (r_cut_118 k7 (r_cut_85L k7 m) s x1 x3 z) (PC s0) := fun z => by
        unfold r_cut_118
        exact ih _ _ (by omega) (by omega) (by omega)
      refine ok_ite (fun _ => st _) (fun _ => ?_)
      rw [byteAt_eq hI (by omega), bindI_some]
      exact ok_bindP (ok_appends _ _) (fun r9 _ => st _)
    · rw [if_neg hl, if_pos rfl]
      have ex : ∀ (z : Int32), 0 ≤ z.toInt → z.toInt ≤ 38 → Ok (r_cut_135 k7 s x1 x3 nm z) (PC s0) := fun z za zb => by
        unfold r_cut_135
        refine ok_ite (fun _ => ?_) (fun _ => ?_)
        · unfold r_cut_179
          exact cut_tok s0 s k7 x1 _ _ _ x3 za zb hI hF h10 h1 hk (by decide) (by decide) h0 h13
        · have z0 : (0 : Int32).toInt = 0 := by decide
          exact cut_146 s0 s k7 x1 x3 nm hI hF h10 h1 hk h0 h13 fu _ _ (by unfold fu; omega) (by decide) (by decide) za zb
      exact ok_ite (fun _ => ex _ (by decide) (by decide)) (fun _ => ex _ (by decide) (by decide))
theorem cut_208 (hI : InvR s) (hF : FrR WC s0 s) (h10 : (s.v 10).toInt ≤ 400) (h1 : 0 ≤ x1.toInt)
  (hk : ∀ (y : RS) (z : Int32), InvR y → FrR WC s0 y → (y.v 10).toInt = (s.v 10).toInt + 1 → x1.toInt ≤ z.toInt → z.toInt ≤ (s.v 4).toInt → Ok (k7 y z) (PC s0)) :
    ∀ (m : Nat) (x3 x4 : Int32), (2000 - x3.toInt).toNat < m → 0 ≤ x3.toInt → x1.toInt + x3.toInt ≤ (s.v 4).toInt → 0 ≤ x4.toInt → x4.toInt ≤ 9999 → (x3.toInt ≤ 3 → x4.toInt ≤ 999) → (x3.toInt ≤ 2 → x4.toInt ≤ 99) → (x3.toInt ≤ 1 → x4.toInt ≤ 9) → (x3.toInt ≤ 0 → x4.toInt ≤ 0) → Ok (r_cut_208L k7 m s x1 x3 x4) (PC s0) := by
  have h4 : 0 ≤ (s.v 4).toInt ∧ (s.v 4).toInt ≤ 2000 := hI.1 4
  intro m
  induction m with
  | zero => intro x3 x4 h; omega
  | succ m ih =>
    intro x3 x4 hm h0 h13 g0 g4 g3 g2 g1 g00
    show Ok (r_cut_208 k7 (r_cut_208L k7 m) s x1 x3 x4) _
    unfold r_cut_208
    have a : (x1 + x3).toInt = x1.toInt + x3.toInt := ti_add (by omega) (by omega)
    have b : (x3 + 1).toInt = x3.toInt + 1 := tn_add rfl (by decide) (by omega) (by omega)
    rw [byteAt_eq hI (by omega), bindI_some, digit_eq, bindP_some]
    by_cases hl : 48 ≤ (bt s (x1 + x3)).toInt ∧ (bt s (x1 + x3)).toInt ≤ 57
    · rw [if_pos hl, if_neg z_one]
      have hin := bt_in (s := s) (x := x1 + x3) (by omega)
      refine ok_ite (fun c => ?_) (fun c => ?_)
      · have c := tn_le (a := 4) (by decide) rfl c
        unfold r_cut_244
        exact ih _ _ (by omega) (by omega) (by omega) g0 g4 (fun _ => by omega) (fun _ => by omega) (fun _ => by omega) (fun _ => by omega)
      · have c := tn_nle (a := 4) (by decide) rfl c
        have g3' := g3 (by omega)
        rw [byteAt_eq hI (by omega), bindI_some]
        unfold r_cut_244
        have q1 : (10 * x4).toInt = x4.toInt * 10 := ti_cmul (c := 10) (by decide) (by omega) (by omega)
        have q2 : ((10 * x4) + bt s (x1 + x3)).toInt = (10 * x4).toInt + (bt s (x1 + x3)).toInt := ti_add (by omega) (by omega)
        have q3 : (((10 * x4) + bt s (x1 + x3)) - 48).toInt = ((10 * x4) + bt s (x1 + x3)).toInt - 48 := tn_sub rfl (by decide) (by omega) (by omega)
        generalize hq : ((10 * x4) + bt s (x1 + x3)) - 48 = q at q3 ⊢
        exact ih _ _ (by omega) (by omega) (by omega) (by omega) (by omega) (fun h => by have := g2 (by omega); omega) (fun h => by have := g1 (by omega); omega) (fun h => by have := g00 (by omega); omega) (fun h => by omega)
    · rw [if_neg hl, if_pos rfl]
      have ex : ∀ (z : Int32), 0 ≤ z.toInt → z.toInt ≤ 38 → Ok (r_cut_261 k7 s x1 x3 x4 z) (PC s0) := fun z za zb => by
        unfold r_cut_261
        exact cut_tok s0 s k7 x1 _ _ _ x3 za zb hI hF h10 h1 hk g0 g4 h0 h13
      exact ok_ite (fun _ => ex _ (by decide) (by decide)) (fun _ => ex _ (by decide) (by decide))
end CUT
theorem cut_7 (s0 : RS) : ∀ (m : Nat) (s : RS) (x1 : Int32), (2001 - x1.toInt + (402 - (s.v 10).toInt)).toNat < m → InvR s → FrR WC s0 s → 0 ≤ x1.toInt → x1.toInt ≤ (s.v 4).toInt → Ok (r_cut_7L m s x1) (PC s0) := by
  intro m
  induction m with
  | zero => intro s x1 h; omega
  | succ m ih =>
    intro s x1 hm hI hF h1 h14
    have h4 : 0 ≤ (s.v 4).toInt ∧ (s.v 4).toInt ≤ 2000 := hI.1 4
    have h10 : 0 ≤ (s.v 10).toInt ∧ (s.v 10).toInt ≤ 402 := hI.1 10
    show Ok (r_cut_7 (r_cut_7L m) s x1) _
    unfold r_cut_7
    refine ok_ite (fun c => ?_) (fun c => ?_)
    · exact ok_some ⟨hI, hF⟩
    · have c := tn_nlt (a := 400) (by decide) rfl c
      have hk : ∀ (y : RS) (z : Int32), InvR y → FrR WC s0 y → (y.v 10).toInt = (s.v 10).toInt + 1 → x1.toInt ≤ z.toInt → z.toInt ≤ (s.v 4).toInt → Ok (r_cut_7L m y z) (PC s0) := by
        intro y z hIy hFy hy hz1 hz2
        have e4 : y.v 4 = s.v 4 := (hFy.1 4 (by decide)).trans (hF.1 4 (by decide)).symm
        exact ih y z (by omega) hIy hFy (by omega) (by rw [e4]; exact hz2)
      rw [byteAt_eq hI h1, bindI_some]
      refine ok_ite (fun c1 => ?_) (fun c1 => ?_)
      · have c1 := ti_lt c1
        have a : (x1 + 1).toInt = x1.toInt + 1 := tn_add rfl (by decide) (by omega) (by omega)
        have bl : Ok (r_cut_67 (r_cut_7L m) s x1) (PC s0) := by
          unfold r_cut_67 r_cut_291
          exact ih s _ (by omega) hI hF (by omega) (by omega)
        refine ok_ite (fun _ => bl) (fun _ => ?_)
        refine ok_ite (fun _ => bl) (fun _ => ?_)
        refine ok_ite (fun _ => bl) (fun _ => ?_)
        refine ok_ite (fun _ => bl) (fun _ => ?_)
        rw [letter_eq, bindP_some]
        by_cases hl : 97 ≤ (bt s x1).toInt ∧ (bt s x1).toInt ≤ 122
        · rw [if_pos hl, if_neg z_one]
          have z0 : (0 : Int32).toInt = 0 := by decide
          exact cut_85 s0 s _ x1 hI hF c h1 hk fu 0 0 (by unfold fu; omega) (by decide) (by omega)
        · rw [if_neg hl, if_pos rfl, digit_eq, bindP_some]
          by_cases hd : 48 ≤ (bt s x1).toInt ∧ (bt s x1).toInt ≤ 57
          · rw [if_pos hd, if_neg z_one]
            have z0 : (0 : Int32).toInt = 0 := by decide
            exact cut_208 s0 s _ x1 hI hF c h1 hk fu 0 0 (by unfold fu; omega) (by decide) (by omega) (by decide) (by decide) (fun _ => by decide) (fun _ => by decide) (fun _ => by decide) (fun _ => by decide)
          · rw [if_neg hd, if_pos rfl, byteAt_eq hI (by omega), bindI_some]
            refine ok_bindI (ok_sign s x1 (bt s x1) (bt s (x1 + 1)) hI c) (fun r y hy => ?_)
            obtain ⟨⟨hIy, hFy, hy10⟩, hr⟩ := hy
            have hr : r = 1 := hr
            subst hr
            unfold r_cut_291
            exact hk y _ hIy (hF.trans hFy (by decide)) hy10 (by omega) (by omega)
      · refine ok_bindP (ok_token s 0 (s.v 4) 0 0 hI c (by decide) (by decide) (by decide) (by decide)) (fun y hy => ?_)
        exact ok_some ⟨hy.1, hF.trans hy.2.1 (by decide)⟩
theorem ok_cut (s : RS) (hI : InvR s) : Ok (r_cut s) (PC s) := by
  unfold r_cut
  refine ok_let (fun s1 hs1 => ?_)
  have I1 : InvR s1 := by rw [← hs1]; exact hI.sv (k := 10) (show (0 : Int) ≤ (0 : Int32).toInt by decide) (show (0 : Int32).toInt ≤ (402 : Int) by decide)
  have F1 : FrR WC s s1 := by rw [← hs1]; exact FrR.rfl.sv (k := 10) (by decide)
  have h4 : 0 ≤ (s1.v 4).toInt ∧ (s1.v 4).toInt ≤ 2000 := I1.1 4
  have h10 : 0 ≤ (s1.v 10).toInt ∧ (s1.v 10).toInt ≤ 402 := I1.1 10
  have z0 : (0 : Int32).toInt = 0 := by decide
  exact cut_7 s fu s1 0 (by unfold fu; omega) I1 F1 (by decide) (by omega)
