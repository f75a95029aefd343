/-! ===== a party is told, a seed is told: the reference's other side ===== -/
theorem fa_party_78 {sd : Nat} {z0 s : RS} {x1 x2 : Int32} {p : Nat} (hp : p ≤ 5) (e1 : x1.toInt = ((6 * sd + p : Nat) : Int)) (h1 : Fa3 sd z0 s) : Pt (r_tellParty_78 s x1 x2) (Fa3 sd z0) := by
  have ec : x1.toNatClampNeg = 6 * sd + p := clamp_of_int e1
  have w24 : ∀ {t : RS} {x : Int32}, Fa3 sd z0 t → Fa3 sd z0 (t.sf 24 (Int32.toNatClampNeg x1) x) := by
    intro t x q
    obtain ⟨a, b, c, d, e⟩ := q
    rw [ec]
    refine ⟨a.sf (by decide), b, c, d, fun j hj => ?_⟩
    have g : (t.sf 24 (6 * sd + p) x).f 24 j = if j = 6 * sd + p then x else t.f 24 j := rsf_at
    rw [g, if_neg (by omega)]
    exact e j hj
  have w25 : ∀ {t : RS} {x : Int32}, Fa3 sd z0 t → Fa3 sd z0 (t.sf 25 (Int32.toNatClampNeg x1) x) := by
    intro t x q
    obtain ⟨a, b, c, d, e⟩ := q
    rw [ec]
    refine ⟨a.sf (by decide), b, c, d, fun j hj => ?_⟩
    have g : (t.sf 25 (6 * sd + p) x).f 25 j = if j = 6 * sd + p then x else t.f 25 j := rsf_at
    rw [g, if_neg (by omega)]
    exact e j hj
  have w23 : ∀ {t : RS}, Fa3 sd z0 t → vpb (t.f 23 (Int32.toNatClampNeg (t.v 19))) 6 = true → Fa3 sd z0 (t.sf 23 (Int32.toNatClampNeg (t.v 19)) ((t.f 23 (Int32.toNatClampNeg (t.v 19))) + 1)) := by
    intro t q hv
    obtain ⟨a, b, c, d, e⟩ := q
    have e19 : (t.v 19).toNatClampNeg = sd := clamp_of_int b
    rw [e19] at hv ⊢
    have l := vpb_lt hv
    have ci := clampI c.1
    have g : ∀ j, (t.sf 23 sd ((t.f 23 sd) + 1)).f 23 j = if j = sd then (t.f 23 sd) + 1 else t.f 23 j := fun j => rsf_at
    have a1 : ((t.f 23 sd) + 1).toInt = (t.f 23 sd).toInt + 1 := by
      rw [tn_add rfl (by decide : (1 : Int32).toInt = 1) (by omega) (by omega)]
    refine ⟨a.sf (by decide), b, ?_, fun j hj => ?_, e⟩
    · rw [g sd, if_pos rfl, a1]
      omega
    · rw [g j, if_neg hj]
      exact d j hj
  unfold r_tellParty_78
  exact pt_bindI (P := fun y => Fa3 sd z0 y.2) (fa_r_bounded _ _ h1) (fun r2 s1 q1 => pt_ite (fun _ => pt_let (P := Fa3 sd z0) (w24 q1) (fun s4 q4 => pt_bindI (P := fun y => Fa3 sd z0 y.2) (fa_r_bounded _ _ q4) (fun r7 s6 q6 => pt_ite (fun _ => pt_let (P := Fa3 sd z0) (w25 q6) (fun s9 q9 => pt_bindP (P := Fa3 sd z0) (fa_r_must _ _ q9) (fun s11 q11 => pt_ite (fun _ => pt_ite (fun _ => pt_ite (fun _ => pt_ite (fun hv => pt_let (P := fun t : RS => Fa3 sd z0 t ∧ vpb (t.f 23 (Int32.toNatClampNeg (t.v 19))) 6 = true) ⟨q11.sg (by decide), hv⟩ (fun s16 q16 => pt_ite (fun _ => pt_ite (fun _ => pt_let (P := Fa3 sd z0) (w23 q16.1 q16.2) (fun s20 q20 => pt_some q20)) (fun _ => pt_none)) (fun _ => pt_none))) (fun _ => pt_none)) (fun _ => pt_none)) (fun _ => pt_none)) (fun _ => pt_some q11)))) (fun _ => pt_none)))) (fun _ => pt_none))
theorem fa_party_30L {sd : Nat} {z0 : RS} {x1 x2 : Int32} {p : Nat} (hp : p ≤ 5) (e1 : x1.toInt = ((6 * sd + p : Nat) : Int)) : ∀ (n : Nat) (s : RS) (x3 : Int32), Fa3 sd z0 s → Pt (r_tellParty_30L n s x1 x2 x3) (Fa3 sd z0) := by
  intro n
  induction n with
  | zero => intro s x3 _; exact pt_none
  | succ n ih =>
    intro s x3 h1
    show Pt (r_tellParty_30 (r_tellParty_30L n) s x1 x2 x3) _
    unfold r_tellParty_30 r_tellParty_72
    exact pt_ite (fun _ => pt_ite (fun _ => fa_party_78 hp e1 h1) (fun _ => pt_ite (fun _ => pt_ite (fun _ => pt_ite (fun _ => pt_ite (fun _ => pt_bindP (P := Fa3 sd z0) (fa_r_wrong _ _ _ h1) (fun s7 q7 => ih s7 _ q7)) (fun _ => ih s _ h1)) (fun _ => pt_none)) (fun _ => pt_none)) (fun _ => fa_party_78 hp e1 h1))) (fun _ => pt_none)
theorem fa_party {sd : Nat} {z0 s : RS} (hsd : sd ≤ 1) (h1 : Fa3 sd z0 s) (h6 : ¬ (s.f 23 sd).toInt = 6) : Pt (r_tellParty s) (Fa3 sd z0) := by
  have b := h1.2.1
  have c := h1.2.2.1
  unfold r_tellParty
  refine pt_ite (fun _ => pt_bindP (P := Fa3 sd z0) (fa_r_must _ _ h1) (fun s2 q2 => ?_)) (fun _ => pt_none)
  rw [clamp_of_int b]
  have m1 : (6 * (s.v 19)).toInt = (s.v 19).toInt * 6 := ti_cmul (c := 6) (by decide) (by omega) (by omega)
  refine fa_party_30L (p := (s.f 23 sd).toInt.toNat) (by omega) ?_ fu s2 0 q2
  rw [ti_add (by omega) (by omega)]
  omega
theorem f23_fail {F : Nat → Int32} {s : RS} (k : Int32) (h : s.f 23 = F) : Pt (r_fail s k) (fun y => y.f 23 = F) := by
  unfold r_fail
  exact pt_ite (fun _ => pt_let (P := fun t : RS => t.f 23 = F) h (fun s2 q => pt_ite (fun _ => pt_let (P := fun t : RS => t.f 23 = F) q (fun s5 q5 => pt_some q5)) (fun _ => pt_none))) (fun _ => pt_some h)
theorem f23_goesOn {F : Nat → Int32} {s : RS} (h : s.f 23 = F) : Pt (r_goesOn s) (fun y => y.f 23 = F) := by
  unfold r_goesOn
  exact pt_ite (fun _ => pt_bindP (P := fun t : RS => t.f 23 = F) (f23_fail 2 h) (fun s4 q => pt_some q)) (fun _ => pt_let (P := fun t : RS => t.f 23 = F) h (fun s2 q => pt_some q))
theorem f23_room {F : Nat → Int32} {s : RS} (x1 x2 : Int32) (h : s.f 23 = F) : Pt (r_roomFor s x1 x2) (fun y => y.f 23 = F) := by
  have g : ∀ t : RS, t.f 23 = F → Pt (r_roomFor_10 t) (fun y => y.f 23 = F) := by
    intro t ht
    unfold r_roomFor_10
    exact pt_ite (fun _ => pt_bindP (P := fun t : RS => t.f 23 = F) (f23_goesOn ht) (fun s2 q => pt_some q)) (fun _ => pt_some ht)
  unfold r_roomFor
  exact pt_ite (fun _ => pt_bindP (P := fun t : RS => t.f 23 = F) (f23_fail 2 h) (fun s2 q => g s2 q)) (fun _ => g s h)
theorem room_full2 {s y : RS} {x : Int32} (h : r_roomFor s x x = some y) : ¬ y.v 13 = 0 := by
  unfold r_roomFor at h
  rw [if_pos rfl] at h
  replace h := bindP_inv h
  obtain ⟨s2, h2, h⟩ := h
  have n2 : ¬ s2.v 13 = 0 := by
    unfold r_fail at h2
    by_cases c : s.v 13 ≤ 0
    · rw [if_pos c] at h2
      replace h2 := letS_inv h2
      obtain ⟨s3, e3, h2⟩ := h2
      replace h2 := guard_inv h2
      obtain ⟨_, h2⟩ := h2
      replace h2 := letS_inv h2
      obtain ⟨s5, e5, h2⟩ := h2
      cases h2
      have e : s2.v 13 = 2 := by rw [← e5, ← e3]; rfl
      rw [e]
      decide
    · rw [if_neg c] at h2
      cases h2
      intro q
      rw [q] at c
      exact c (by decide)
  unfold r_roomFor_10 at h
  rw [if_neg n2] at h
  cases h
  exact n2
theorem fa_r_tellOne {sd : Nat} {z0 s : RS} (hsd : sd ≤ 1) (h1 : Fa3 sd z0 s) : Pt (r_tellOne s) (Fa3 sd z0) := by
  have w26 : ∀ {t : RS} {x c : Int32}, c.toInt = (sd : Int) → Fa3 sd z0 t → Fa3 sd z0 (t.sf 26 (Int32.toNatClampNeg c) x) := by
    intro t x c hc q
    obtain ⟨a, b, e, d, f⟩ := q
    rw [clamp_of_int hc]
    refine ⟨a.sf (by decide), b, e, fun j hj => ?_, f⟩
    have g : (t.sf 26 sd x).f 26 j = if j = sd then x else t.f 26 j := rsf_at
    rw [g, if_neg hj]
    exact d j hj
  have pty : Pt (bindP (r_roomFor s (s.f 23 (Int32.toNatClampNeg (s.v 19))) 6) fun s9 => (if (s9.v 13) = 0 then (bindP (r_tellParty s9) fun s11 => (some s11)) else (some s9))) (Fa3 sd z0) := by
    intro y h
    replace h := bindP_inv h
    obtain ⟨s9, h9, h⟩ := h
    have q9 : Fa3 sd z0 s9 := fa_r_roomFor _ _ _ h1 s9 h9
    have f9 : s9.f 23 = s.f 23 := f23_room _ _ rfl s9 h9
    by_cases c : s9.v 13 = 0
    · rw [if_pos c] at h
      replace h := bindP_inv h
      obtain ⟨s11, h11, h⟩ := h
      have e : y = s11 := by cases h; rfl
      rw [e]
      refine fa_party hsd q9 (fun q => ?_) s11 h11
      rw [f9] at q
      rw [clamp_of_int h1.2.1] at h9
      have e6 : s.f 23 sd = 6 := Int32.toInt_inj.mp (q.trans (by decide))
      rw [e6] at h9
      exact room_full2 h9 c
    · rw [if_neg c] at h
      have e : y = s9 := by cases h; rfl
      rw [e]
      exact q9
  unfold r_tellOne
  exact pt_ite (fun _ => pt_ite (fun _ => pt_ite (fun _ => pt_bindP (P := Fa3 sd z0) (fa_r_roomFor _ _ _ h1) (fun s4 q4 => pt_ite (fun _ => pt_bindP (P := Fa3 sd z0) (fa_r_tellWave _ q4) (fun s6 q6 => pt_some q6)) (fun _ => pt_some q4))) (fun _ => pt_none)) (fun _ => pt_ite (fun _ => pt_ite (fun _ => pty) (fun _ => pt_none)) (fun _ => pt_ite (fun _ => pt_bindP (P := Fa3 sd z0) (fa_r_goesOn _ h1) (fun s13 q13 => pt_bindI (P := fun y => Fa3 sd z0 y.2) (fa_r_bounded _ _ q13) (fun r15 s14 q14 => pt_ite (fun _ => pt_let (P := Fa3 sd z0) (w26 q13.2.1 q14) (fun s17 q17 => pt_bindP (P := Fa3 sd z0) (fa_r_must _ _ q17) (fun s19 q19 => pt_some q19))) (fun _ => pt_none)))) (fun _ => pt_ite (fun _ => pt_ite (fun _ => fa_r_tellOne_160 _ _ h1) (fun _ => pt_ite (fun _ => pt_ite (fun _ => fa_r_tellOne_165 _ _ h1) (fun _ => fa_r_tellOne_160 _ _ h1)) (fun _ => pt_none))) (fun _ => pt_none))))) (fun _ => pt_none)
theorem rr_last {sd : Nat} {z0 z' : RS} {r : Int32} (hsd : sd ≤ 1) : ∀ (n : Nat) (z : RS), Fa3 sd z0 z → r_read_107L n z = some (r, z') → ∃ u, Fa3 sd z0 u ∧ r_read_129 u = some (r, z') := by
  intro n
  induction n with
  | zero => intro z _ h; exact none_ne h
  | succ n ih =>
    intro z hF h
    replace h : r_read_107 (r_read_107L n) z = some (r, z') := h
    unfold r_read_107 at h
    by_cases c : z.v 13 = 0
    · rw [if_pos c] at h
      replace h := bindI_inv h
      obtain ⟨r3, s2, h2, h⟩ := h
      have q2 : Fa3 sd z0 s2 := fa_r_is _ _ hF (r3, s2) h2
      by_cases d : r3 = 0
      · rw [if_pos d] at h
        replace h := bindP_inv h
        obtain ⟨s5, h5, h⟩ := h
        exact ih s5 (fa_r_tellOne hsd q2 s5 h5) h
      · rw [if_neg d] at h; exact ⟨s2, q2, h⟩
    · rw [if_neg c] at h; exact ⟨z, hF, h⟩
