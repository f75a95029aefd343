theorem nops_push {f : Nat → Int32} {n : Nat} {x : Int32} : nops (upd f n x) (n + 1) = nops f n + (if x = 6 then 0 else 1) := by
  show nops (upd f n x) n + (if upd f n x n = 6 then 0 else 1) = _
  rw [nops_congr (f := upd f n x) (g := f) n (fun i hi => by unfold upd; rw [if_neg (by omega)])]
  have : upd f n x n = x := by unfold upd; rw [if_pos rfl]
  rw [this]
/-- an operator is put to what waits -/
theorem ok_234 (sd c0 : Nat) (base : Int) (s0 : RS) (k12 : RS → Int32 → Int32 → Option RS) (M : Nat) (x1 x2 : Int32) (hk : ∀ (s : RS) (n c : Nat), EX sd c0 base 0 s n c → Ctx sd c0 s0 s → mu s < M → Ok (k12 s x1 x2) (PE sd c0 base s0))
    (s : RS) (n c : Nat) (t0 : Int32) (hE : EX sd c0 base 1 s n c) (hX : Ctx sd c0 s0 s) (hz : (s.v 13).toInt = 0) (hM : mu s ≤ M)
    (hop : (¬ t0 = 0 ∧ (s.f 5 (s.v 11).toNatClampNeg = 10 ∨ s.f 5 (s.v 11).toNatClampNeg = 15)) ∨ (t0 = 0 ∧ (s.f 5 (s.v 11).toNatClampNeg = 8 ∨ s.f 5 (s.v 11).toNatClampNeg = 9))) : Ok (r_expression_234 k12 s x1 x2 t0) (PE sd c0 base s0) := by
  unfold r_expression_234
  have hn23 := hE.n23
  refine ok_bindP (ok_comesOut sd c0 t0 s n c hE.co) (fun s1 hy => ?_)
  obtain ⟨hI, h19, hsd, h39, h35, hc0, hc1, hb, h12, h127, h126, hS, hc2, hc3, hd⟩ := hE
  obtain ⟨n', c', q1, q2, hC, q4, q5, hF, hO, q8⟩ := hy
  obtain ⟨hI1, k19, _, k39, _, k35, _, kc1, kcn, kd⟩ := hC
  have ev (k : Nat) (hk : k ∉ [35, 39, 136, 137]) : s1.v k = s.v k := hF.1 k hk
  have ef (k : Nat) (hk : 100 + k ∉ [35, 39, 136, 137]) : s1.f k = s.f k := (hF.2 k hk).1
  have ht : 0 ≤ (s1.v 11).toInt ∧ (s1.v 11).toInt ≤ 400 := hI1.1 11
  have hle := nops_le (s.f 38) n
  have hle' := nops_le (s.f 38) n'
  have hz1 : (s1.v 13).toInt = 0 := by rw [ev 13 (by decide)]; exact hz
  refine ok_grd (vpb_ok (by omega) (by omega)) ?_
  refine ok_grd (vpb_ok (by omega) (by omega)) ?_
  have ec : (s1.v 39).toNatClampNeg = n' := clamp_of_int k39
  rw [ec]
  have eop : s1.f 5 (s1.v 11).toNatClampNeg = s.f 5 (s.v 11).toNatClampNeg := by rw [ef 5 (by decide), ev 11 (by decide)]
  show Ok (letS (s1.sf 38 n' (s1.f 5 (s1.v 11).toNatClampNeg)) _) _
  rw [eop]
  generalize hop0 : s.f 5 (s.v 11).toNatClampNeg = op at hop
  refine ok_let (fun s4 hs4 => ?_)
  refine ok_let (fun s6 hs6 => ?_)
  have hI4 : InvR s4 := by rw [← hs4]; exact hI1.sfF (k := 38) rfl rfl
  have hI6 : InvR s6 := by rw [← hs6]; exact hI4.svF (k := 39) rfl rfl
  have hF16 : FrR [39, 138] s1 s6 := by rw [← hs6, ← hs4]; exact (FrR.rfl.sf (k := 38) (by decide)).sv (k := 39) (by decide)
  have e638 : s6.f 38 = upd (s.f 38) n' op := by rw [← hs6, ← hs4, ← ef 38 (by decide)]; rfl
  have e639 : (s6.v 39).toInt = (n' : Int) + 1 := by
    have a : ((s1.v 39) + 1).toInt = (s1.v 39).toInt + 1 := tn_add rfl (by decide) (by omega) (by omega)
    have e : s6.v 39 = (s1.v 39) + 1 := by rw [← hs6, ← hs4]; rfl
    rw [e]; omega
  refine ok_bindP (ok_goesOn s6 hI6) (fun y hcy => ?_)
  obtain ⟨hIy, hFy, hst⟩ := hcy
  have hfy : 0 ≤ (y.v 13).toInt ∧ (y.v 13).toInt ≤ 2 := hIy.1 13
  have e6 (k : Nat) (hk : k ∉ [39, 138]) : s6.v k = s1.v k := hF16.1 k hk
  have ey (k : Nat) (hk : k ∉ [11, 13, 14]) : y.v k = s6.v k := hFy.1 k hk
  have eyf (k : Nat) (hk : 100 + k ∉ [11, 13, 14]) : y.f k = s6.f k := (hFy.2 k hk).1
  have ey38 : y.f 38 = upd (s.f 38) n' op := (eyf 38 (by decide)).trans e638
  have hst' : ((y.v 11).toInt = (s.v 11).toInt + 1 ∧ (y.v 13).toInt = (s.v 13).toInt) ∨ ((s.v 11).toInt = 400 ∧ (y.v 11).toInt = (s.v 11).toInt ∧ 1 ≤ (y.v 13).toInt ∧ (s.v 13).toInt ≤ (y.v 13).toInt) := by
    unfold Step at hst
    rw [e6 11 (by decide), e6 13 (by decide), ev 11 (by decide), ev 13 (by decide)] at hst
    exact hst
  have hop6 : ¬ op = 6 := by
    rcases hop with ⟨_, h | h⟩ | ⟨_, h | h⟩ <;> (rw [h]; decide)
  have hno : nops (y.f 38) (n' + 1) = nops (s.f 38) n' + 1 := by rw [ey38, nops_push, if_neg hop6]
  have hct := hc3 hz
  have e12 : y.v 12 = s.v 12 := (ey 12 (by decide)).trans ((e6 12 (by decide)).trans (ev 12 (by decide)))
  have e35 : y.v 35 = s1.v 35 := (ey 35 (by decide)).trans (e6 35 (by decide))
  have e36 : y.f 36 = s1.f 36 := (eyf 36 (by decide)).trans (hF16.2 36 (by decide)).1
  have e37 : y.f 37 = s1.f 37 := (eyf 37 (by decide)).trans (hF16.2 37 (by decide)).1
  have hSh : Shape (y.f 38) (n' + 1) := by
    rw [ey38]
    refine (hS.less q1).put (fun h => ?_) (fun h6 h8 h9 => ?_)
    · rcases hop with ⟨h0, h1 | h1⟩ | ⟨h0, _⟩
      · rw [h1] at h; rcases h with h | h <;> exact absurd h (by decide)
      · rw [h1] at h; rcases h with h | h <;> exact absurd h (by decide)
      · rcases q8 with q | q | q
        · exact Or.inl q
        · exact Or.inr q
        · exact absurd h0 q.1
    · rcases q8 with q | q | q
      · exact Or.inl q
      · exact Or.inr (Or.inl q)
      · rcases q.2 with q | q
        · exact Or.inr (Or.inr (Or.inl q))
        · exact Or.inr (Or.inr (Or.inr q))
  have hEy : EX sd c0 base 0 y (n' + 1) c' := by
    refine ⟨hIy, by rw [ey 19 (by decide), e6 19 (by decide)]; exact k19, hsd, by rw [ey 39 (by decide)]; omega, by rw [e35]; exact k35, hc0, kc1, hb, by rw [e12, hno]; omega, by rw [e12]; exact h127, fun q => by rw [e12]; exact h126 hz, hSh, by rw [hno]; omega, fun q => by rw [hno]; omega, fun q => ?_⟩
    rw [e36, e37, hno, kd hz1, ef 38 (by decide)]
  have hXy : Ctx sd c0 s0 y := by
    have h1 : Ctx sd c0 s0 s1 := hX.on hF hO ⟨by rw [ev 11 (by decide)]; exact Int.le_refl _, by rw [ev 13 (by decide)]; exact Int.le_refl _⟩ (by decide)
    have h2 : Ctx sd c0 s0 s6 := h1.on hF16 (Out.fr hF16 (by decide) (by decide)) ⟨by rw [e6 11 (by decide)]; exact Int.le_refl _, by rw [e6 13 (by decide)]; exact Int.le_refl _⟩ (by decide)
    refine h2.on hFy (Out.fr hFy (by decide) (by decide)) ⟨?_, ?_⟩ (by decide)
    · rw [e6 11 (by decide), ev 11 (by decide)]; omega
    · rw [e6 13 (by decide), ev 13 (by decide)]; omega
  have hty : 0 ≤ (y.v 11).toInt ∧ (y.v 11).toInt ≤ 400 := hIy.1 11
  exact hk y (n' + 1) c' hEy hXy (by unfold mu at hM ⊢; omega)
/-- behind a unit and what closes -/
theorem ok_145 (sd c0 : Nat) (base : Int) (s0 : RS) (k12 : RS → Int32 → Int32 → Option RS) (M : Nat) (x1 : Int32) (hx1 : x1.toInt = base) (hk : ∀ (x2 : Int32), ¬ x2 = 0 → ∀ (s : RS) (n c : Nat), EX sd c0 base 0 s n c → Ctx sd c0 s0 s → mu s < M → Ok (k12 s x1 x2) (PE sd c0 base s0))
    (s : RS) (n c : Nat) (hE : EX sd c0 base 1 s n c) (hX : Ctx sd c0 s0 s) (ht0 : (s.v 13).toInt = 0 → (s0.v 11).toInt + 1 ≤ (s.v 11).toInt) (hM : mu s ≤ M) : Ok (r_expression_145 k12 s x1) (PE sd c0 base s0) := by
  have hI := hE.1
  have done : Ok (r_expression_186 k12 s x1 0) (PE sd c0 base s0) := by
    unfold r_expression_186
    rw [if_pos rfl]
    refine ok_ite (fun c1 => ?_) (fun c1 => ?_)
    · have c1 := tn_le (b := base) rfl hx1 c1
      exact ok_204 sd c0 base s0 s n c hE hX (fun q => ⟨c1, ht0 q⟩)
    · refine ok_bindP (ok_fail s 1 hI (by decide) (by decide)) (fun y hc => ?_)
      obtain ⟨hIy, hF, h1, h2⟩ := hc
      have e (k : Nat) (hk : k ∉ [13, 14]) : y.v k = s.v k := hF.1 k hk
      have ef (k : Nat) (hk : 100 + k ∉ [13, 14]) : y.f k = s.f k := (hF.2 k hk).1
      obtain ⟨_, h19, hsd, h39, h35, hc0, hc1, hb, h12, h127, h126, hS, hc2, hc3, hd⟩ := hE
      have hEy : EX sd c0 base 1 y n c := ⟨hIy, by rw [e 19 (by decide)]; exact h19, hsd, by rw [e 39 (by decide)]; exact h39, by rw [e 35 (by decide)]; exact h35, hc0, hc1, hb, by rw [e 12 (by decide), ef 38 (by decide)]; exact h12, by rw [e 12 (by decide)]; exact h127, fun q => by omega, by rw [ef 38 (by decide)]; exact hS, by rw [e 11 (by decide), ef 38 (by decide)]; exact hc2, fun q => by omega, fun q => by omega⟩
      exact ok_204 sd c0 base s0 y n c hEy (hX.on hF (Out.fr hF (by decide) (by decide)) ⟨by rw [e 11 (by decide)]; exact Int.le_refl _, h2⟩ (by decide)) (fun q => by omega)
  have more : s.v 13 = 0 → (s.f 5 (s.v 11).toNatClampNeg = 8 ∨ s.f 5 (s.v 11).toNatClampNeg = 9 ∨ s.f 5 (s.v 11).toNatClampNeg = 10 ∨ s.f 5 (s.v 11).toNatClampNeg = 15) → Ok (r_expression_181 k12 s x1) (PE sd c0 base s0) := by
    intro hz ho
    unfold r_expression_181 r_expression_186
    rw [if_neg z_one]
    have h1 : ¬ (1 : Int32) = 0 := z_one
    refine ok_is hI (fun _ hk10 => ?_) (fun h10 => ?_)
    · show Ok (if (1 : Int32) = 0 then _ else _) _
      rw [if_neg z_one]
      unfold r_expression_229
      exact ok_234 sd c0 base s0 k12 M x1 1 (hk 1 h1) s n c 1 hE hX (fz hz) hM (Or.inl ⟨h1, Or.inl hk10⟩)
    · show Ok (if (0 : Int32) = 0 then _ else _) _
      rw [if_pos rfl]
      refine ok_is hI (fun _ hk15 => ?_) (fun h15 => ?_)
      · show Ok (if (1 : Int32) = 0 then _ else _) _
        rw [if_neg z_one]
        unfold r_expression_229
        exact ok_234 sd c0 base s0 k12 M x1 1 (hk 1 h1) s n c 1 hE hX (fz hz) hM (Or.inl ⟨h1, Or.inr hk15⟩)
      · show Ok (if (0 : Int32) = 0 then _ else _) _
        rw [if_pos rfl]
        refine ok_234 sd c0 base s0 k12 M x1 1 (hk 1 h1) s n c 0 hE hX (fz hz) hM (Or.inr ⟨rfl, ?_⟩)
        rcases ho with h | h | h | h
        · exact Or.inl h
        · exact Or.inr h
        · exact absurd ⟨hz, h⟩ h10
        · exact absurd ⟨hz, h⟩ h15
  unfold r_expression_145
  refine ok_is hI (fun hz h => ?_) (fun h8 => ?_)
  · show Ok (if (1 : Int32) = 0 then _ else _) _
    rw [if_neg z_one]
    exact more hz (Or.inl h)
  · show Ok (if (0 : Int32) = 0 then _ else _) _
    rw [if_pos rfl]
    refine ok_is hI (fun hz h => ?_) (fun h9 => ?_)
    · show Ok (if (1 : Int32) = 0 then _ else _) _
      rw [if_neg z_one]
      exact more hz (Or.inr (Or.inl h))
    · show Ok (if (0 : Int32) = 0 then _ else _) _
      rw [if_pos rfl]
      refine ok_is hI (fun hz h => ?_) (fun h10 => ?_)
      · show Ok (if (1 : Int32) = 0 then _ else _) _
        rw [if_neg z_one]
        exact more hz (Or.inr (Or.inr (Or.inl h)))
      · show Ok (if (0 : Int32) = 0 then _ else _) _
        rw [if_pos rfl]
        refine ok_is hI (fun hz h => ?_) (fun h15 => ?_)
        · show Ok (if (1 : Int32) = 0 then _ else _) _
          rw [if_neg z_one]
          exact more hz (Or.inr (Or.inr (Or.inr h)))
        · show Ok (if (0 : Int32) = 0 then _ else _) _
          rw [if_pos rfl]
          exact done
theorem ok_96 (sd c0 : Nat) (base : Int) (s0 : RS) (k12 : RS → Int32 → Int32 → Option RS) (M : Nat) (x1 : Int32) (hx1 : x1.toInt = base) (hk : ∀ (x2 : Int32), ¬ x2 = 0 → ∀ (s : RS) (n c : Nat), EX sd c0 base 0 s n c → Ctx sd c0 s0 s → mu s < M → Ok (k12 s x1 x2) (PE sd c0 base s0)) :
    ∀ (m : Nat) (s : RS) (n c : Nat), mu s < m → EX sd c0 base 1 s n c → Ctx sd c0 s0 s → ((s.v 13).toInt = 0 → (s0.v 11).toInt + 1 ≤ (s.v 11).toInt) → mu s ≤ M → Ok (r_expression_96L k12 m s x1) (PE sd c0 base s0) := by
  intro m
  induction m with
  | zero => intro s n c h; omega
  | succ m ih =>
    intro s n c hm hE hX ht0 hM
    show Ok (r_expression_96 k12 (r_expression_96L k12 m) s x1) _
    unfold r_expression_96
    have hI := hE.1
    refine ok_is hI (fun hz h7 => ?_) (fun h => ?_)
    · show Ok (if (1 : Int32) = 0 then _ else _) _
      rw [if_neg z_one]
      refine ok_ite (fun _ => ok_145 sd c0 base s0 k12 M x1 hx1 hk s n c hE hX ht0 hM) (fun c1 => ?_)
      have c1 := tn_nle (b := base) rfl hx1 c1
      have hz := fz hz
      have hn23 := hE.n23
      refine ok_bindP (ok_comesOut sd c0 0 s n c hE.co) (fun s5 hy => ?_)
      obtain ⟨_, h19, hsd, h39, h35, hc0, hc1, hb, h12, h127, h126, hS, hc2, hc3, hd⟩ := hE
      obtain ⟨n', c', q1, q2, hC, q4, q5, hF, hO, q8⟩ := hy
      obtain ⟨hI5, k19, _, k39, _, k35, _, kc1, kcn, kd⟩ := hC
      have ev (k : Nat) (hk : k ∉ [35, 39, 136, 137]) : s5.v k = s.v k := hF.1 k hk
      have e538 : s5.f 38 = s.f 38 := (hF.2 38 (by decide)).1
      have hle := nops_le (s.f 38) n
      have hle' := nops_le (s.f 38) n'
      have hct := hc3 hz
      have hz5 : (s5.v 13).toInt = 0 := by rw [ev 13 (by decide)]; exact hz
      obtain ⟨n1, rfl, h6⟩ : ∃ n1, n' = n1 + 1 ∧ s.f 38 n1 = 6 := by
        rcases q8 with q | q | q
        · subst q
          have : nops (s.f 38) 0 = 0 := rfl
          omega
        · cases n' with
          | zero =>
            have : nops (s.f 38) 0 = 0 := rfl
            omega
          | succ n1 => exact ⟨n1, rfl, q⟩
        · exact absurd rfl q.1
      have hno : nops (s.f 38) (n1 + 1) = nops (s.f 38) n1 := by
        show nops (s.f 38) n1 + (if s.f 38 n1 = 6 then 0 else 1) = _
        rw [if_pos h6]; rfl
      have hle1 := nops_le (s.f 38) n1
      refine ok_let (fun s6 hs6 => ?_)
      refine ok_let (fun s8 hs8 => ?_)
      have hI6 : InvR s6 := by rw [← hs6]; exact hI5.svF (k := 39) rfl rfl
      have hI8 : InvR s8 := by rw [← hs8]; exact hI6.svF (k := 12) rfl rfl
      have hF58 : FrR [12, 39] s5 s8 := by rw [← hs8, ← hs6]; exact (FrR.rfl.sv (k := 39) (by decide)).sv (k := 12) (by decide)
      have e839 : (s8.v 39).toInt = (n1 : Int) := by
        have a : ((s5.v 39) - 1).toInt = (s5.v 39).toInt - 1 := tn_sub rfl (by decide) (by omega) (by omega)
        have e : s8.v 39 = (s5.v 39) - 1 := by rw [← hs8, ← hs6]; rfl
        rw [e]; omega
      have e812 : (s8.v 12).toInt = (s.v 12).toInt - 1 := by
        have e512 : s5.v 12 = s.v 12 := ev 12 (by decide)
        have a : ((s5.v 12) - 1).toInt = (s5.v 12).toInt - 1 := tn_sub rfl (by decide) (by rw [e512]; omega) (by rw [e512]; omega)
        have e : s8.v 12 = (s5.v 12) - 1 := by rw [← hs8, ← hs6]; rfl
        rw [e, a, e512]
      refine ok_bindP (ok_goesOn s8 hI8) (fun y hcy => ?_)
      obtain ⟨hIy, hFy, hst⟩ := hcy
      have hfy : 0 ≤ (y.v 13).toInt ∧ (y.v 13).toInt ≤ 2 := hIy.1 13
      have e8 (k : Nat) (hk : k ∉ [12, 39]) : s8.v k = s5.v k := hF58.1 k hk
      have e8f (k : Nat) (hk : 100 + k ∉ [12, 39]) : s8.f k = s5.f k := (hF58.2 k hk).1
      have ey (k : Nat) (hk : k ∉ [11, 13, 14]) : y.v k = s8.v k := hFy.1 k hk
      have eyf (k : Nat) (hk : 100 + k ∉ [11, 13, 14]) : y.f k = s8.f k := (hFy.2 k hk).1
      have ey38 : y.f 38 = s.f 38 := (eyf 38 (by decide)).trans ((e8f 38 (by decide)).trans e538)
      have hst' : ((y.v 11).toInt = (s.v 11).toInt + 1 ∧ (y.v 13).toInt = (s.v 13).toInt) ∨ ((s.v 11).toInt = 400 ∧ (y.v 11).toInt = (s.v 11).toInt ∧ 1 ≤ (y.v 13).toInt ∧ (s.v 13).toInt ≤ (y.v 13).toInt) := by
        unfold Step at hst
        rw [e8 11 (by decide), e8 13 (by decide), ev 11 (by decide), ev 13 (by decide)] at hst
        exact hst
      have ey12 : (y.v 12).toInt = (s.v 12).toInt - 1 := by rw [ey 12 (by decide)]; exact e812
      have ho6 := h126 hz
      have ht0z := ht0 hz
      have hEy : EX sd c0 base 1 y n1 c' := by
        refine ⟨hIy, by rw [ey 19 (by decide), e8 19 (by decide)]; exact k19, hsd, by rw [ey 39 (by decide)]; exact e839, by rw [ey 35 (by decide), e8 35 (by decide)]; exact k35, hc0, kc1, hb, by rw [ey12, ey38]; omega, by omega, fun q => by omega, by rw [ey38]; exact hS.less (by omega), by rw [ey38]; omega, fun q => by rw [ey38]; omega, fun q => ?_⟩
        rw [eyf 36 (by decide), eyf 37 (by decide), e8f 36 (by decide), e8f 37 (by decide), ey38, kd hz5, e538, hno]
      have hXy : Ctx sd c0 s0 y := by
        have h1 : Ctx sd c0 s0 s5 := hX.on hF hO ⟨by rw [ev 11 (by decide)]; exact Int.le_refl _, by rw [ev 13 (by decide)]; exact Int.le_refl _⟩ (by decide)
        have h2 : Ctx sd c0 s0 s8 := h1.on hF58 (Out.fr hF58 (by decide) (by decide)) ⟨by rw [e8 11 (by decide)]; exact Int.le_refl _, by rw [e8 13 (by decide)]; exact Int.le_refl _⟩ (by decide)
        refine h2.on hFy (Out.fr hFy (by decide) (by decide)) ⟨?_, ?_⟩ (by decide)
        · rw [e8 11 (by decide), ev 11 (by decide)]; omega
        · rw [e8 13 (by decide), ev 13 (by decide)]; omega
      have hty : 0 ≤ (y.v 11).toInt ∧ (y.v 11).toInt ≤ 400 := hIy.1 11
      have hmu : mu y < mu s := by unfold mu; omega
      exact ih y n1 c' (by omega) hEy hXy (fun q => by omega) (by omega)
    · show Ok (if (0 : Int32) = 0 then _ else _) _
      rw [if_pos rfl]
      exact ok_145 sd c0 base s0 k12 M x1 hx1 hk s n c hE hX ht0 hM
theorem ok_23 (sd c0 : Nat) (base : Int) (s0 : RS) (k12 : RS → Int32 → Int32 → Option RS) (M : Nat) (x1 : Int32) (hx1 : x1.toInt = base) (hk : ∀ (x2 : Int32), ¬ x2 = 0 → ∀ (s : RS) (n c : Nat), EX sd c0 base 0 s n c → Ctx sd c0 s0 s → mu s < M → Ok (k12 s x1 x2) (PE sd c0 base s0)) :
    ∀ (m : Nat) (s : RS) (n c : Nat), mu s < m → EX sd c0 base 0 s n c → Ctx sd c0 s0 s → mu s ≤ M → Ok (r_expression_23L k12 m s x1) (PE sd c0 base s0) := by
  intro m
  induction m with
  | zero => intro s n c h; omega
  | succ m ih =>
    intro s n c hm hE hX hM
    show Ok (r_expression_23 k12 (r_expression_23L k12 m) s x1) _
    unfold r_expression_23
    have hI := hE.1
    have hn23 := hE.n23
    refine ok_is hI (fun hz h6 => ?_) (fun h => ?_)
    · show Ok (if (1 : Int32) = 0 then _ else _) _
      rw [if_neg z_one]
      have hz := fz hz
      have ht : 0 ≤ (s.v 11).toInt ∧ (s.v 11).toInt ≤ 400 := hI.1 11
      have step : ∀ (s1 : RS), InvR s1 → FrR [13, 14] s s1 → (s.v 13).toInt ≤ (s1.v 13).toInt → ((s1.v 13).toInt = 0 → (s.v 12).toInt ≤ 5) → Ok (r_expression_46 k12 (r_expression_23L k12 m) s1 x1) (PE sd c0 base s0) := by
        intro s1 hI1 hF1 hf1 ho
        obtain ⟨_, h19, hsd, h39, h35, hc0, hc1, hb, h12, h127, h126, hS, hc2, hc3, hd⟩ := hE
        have hle := nops_le (s.f 38) n
        have hct := hc3 hz
        have ho6 := h126 hz
        have e1 (k : Nat) (hk : k ∉ [13, 14]) : s1.v k = s.v k := hF1.1 k hk
        have e1f (k : Nat) (hk : 100 + k ∉ [13, 14]) : s1.f k = s.f k := (hF1.2 k hk).1
        have hf1y : 0 ≤ (s1.v 13).toInt ∧ (s1.v 13).toInt ≤ 2 := hI1.1 13
        unfold r_expression_46
        refine ok_let (fun s2 hs2 => ?_)
        have hI2 : InvR s2 := by rw [← hs2]; exact hI1.svF (k := 12) rfl rfl
        have hF12 : FrR [12] s1 s2 := by rw [← hs2]; exact FrR.rfl.sv (k := 12) (by decide)
        have e212 : (s2.v 12).toInt = (s.v 12).toInt + 1 := by
          have e112 : s1.v 12 = s.v 12 := e1 12 (by decide)
          have a : ((s1.v 12) + 1).toInt = (s1.v 12).toInt + 1 := tn_add rfl (by decide) (by rw [e112]; omega) (by rw [e112]; omega)
          have e : s2.v 12 = (s1.v 12) + 1 := by rw [← hs2]; rfl
          rw [e, a, e112]
        have e2 (k : Nat) (hk : k ∉ [12]) : s2.v k = s1.v k := hF12.1 k hk
        have e2f (k : Nat) (hk : 100 + k ∉ [12]) : s2.f k = s1.f k := (hF12.2 k hk).1
        refine ok_bindP (ok_goesOn s2 hI2) (fun s3 hc3' => ?_)
        obtain ⟨hI3, hF3, hst⟩ := hc3'
        have e3 (k : Nat) (hk : k ∉ [11, 13, 14]) : s3.v k = s2.v k := hF3.1 k hk
        have e3f (k : Nat) (hk : 100 + k ∉ [11, 13, 14]) : s3.f k = s2.f k := (hF3.2 k hk).1
        have hf3 : 0 ≤ (s3.v 13).toInt ∧ (s3.v 13).toInt ≤ 2 := hI3.1 13
        have hst' : ((s3.v 11).toInt = (s.v 11).toInt + 1 ∧ (s3.v 13).toInt = (s1.v 13).toInt) ∨ ((s.v 11).toInt = 400 ∧ (s3.v 11).toInt = (s.v 11).toInt ∧ 1 ≤ (s3.v 13).toInt ∧ (s1.v 13).toInt ≤ (s3.v 13).toInt) := by
          unfold Step at hst
          rw [e2 11 (by decide), e2 13 (by decide), e1 11 (by decide)] at hst
          exact hst
        have e339 : s3.v 39 = s.v 39 := (e3 39 (by decide)).trans ((e2 39 (by decide)).trans (e1 39 (by decide)))
        have e338 : s3.f 38 = s.f 38 := (e3f 38 (by decide)).trans ((e2f 38 (by decide)).trans (e1f 38 (by decide)))
        refine ok_grd (vpb_ok (by rw [e339]; omega) (by rw [e339]; omega)) ?_
        have ec : (s3.v 39).toNatClampNeg = n := clamp_of_int (by rw [e339]; exact h39)
        rw [ec]
        refine ok_let (fun s5 hs5 => ?_)
        refine ok_let (fun s7 hs7 => ?_)
        have hI5 : InvR s5 := by rw [← hs5]; exact hI3.sfF (k := 38) rfl rfl
        have hI7 : InvR s7 := by rw [← hs7]; exact hI5.svF (k := 39) rfl rfl
        have hF37 : FrR [39, 138] s3 s7 := by rw [← hs7, ← hs5]; exact (FrR.rfl.sf (k := 38) (by decide)).sv (k := 39) (by decide)
        have e738 : s7.f 38 = upd (s.f 38) n 6 := by rw [← hs7, ← hs5, ← e338]; rfl
        have e739 : (s7.v 39).toInt = (n : Int) + 1 := by
          have a : ((s3.v 39) + 1).toInt = (s3.v 39).toInt + 1 := tn_add rfl (by decide) (by rw [e339]; omega) (by rw [e339]; omega)
          have e : s7.v 39 = (s3.v 39) + 1 := by rw [← hs7, ← hs5]; rfl
          rw [e, a, e339]; omega
        have e7 (k : Nat) (hk : k ∉ [39, 138]) : s7.v k = s3.v k := hF37.1 k hk
        have e7f (k : Nat) (hk : 100 + k ∉ [39, 138]) : s7.f k = s3.f k := (hF37.2 k hk).1
        have hno : nops (s7.f 38) (n + 1) = nops (s.f 38) n := by rw [e738, nops_push, if_pos rfl]; rfl
        have e712 : (s7.v 12).toInt = (s.v 12).toInt + 1 := by rw [e7 12 (by decide), e3 12 (by decide)]; exact e212
        have e711 : s7.v 11 = s3.v 11 := e7 11 (by decide)
        have e713 : s7.v 13 = s3.v 13 := e7 13 (by decide)
        have hEy : EX sd c0 base 0 s7 (n + 1) c := by
          refine ⟨hI7, by rw [e7 19 (by decide), e3 19 (by decide), e2 19 (by decide), e1 19 (by decide)]; exact h19, hsd, by omega, by rw [e7 35 (by decide), e3 35 (by decide), e2 35 (by decide), e1 35 (by decide)]; exact h35, hc0, hc1, hb, by rw [e712, hno]; omega, by omega, fun q => by rw [e713] at q; omega, ?_, by rw [hno, e711]; omega, fun q => by rw [e713] at q; rw [hno, e711]; omega, fun q => ?_⟩
          · rw [e738]
            exact hS.put (fun h => by rcases h with h | h <;> exact absurd h (by decide)) (fun h => absurd rfl h)
          · rw [e7f 36 (by decide), e7f 37 (by decide), e3f 36 (by decide), e3f 37 (by decide), e2f 36 (by decide), e2f 37 (by decide), e1f 36 (by decide), e1f 37 (by decide), hno]
            exact hd hz
        have hXy : Ctx sd c0 s0 s7 := by
          have h1 : Ctx sd c0 s0 s1 := hX.on hF1 (Out.fr hF1 (by decide) (by decide)) ⟨by rw [e1 11 (by decide)]; exact Int.le_refl _, hf1⟩ (by decide)
          have h2 : Ctx sd c0 s0 s2 := h1.on hF12 (Out.fr hF12 (by decide) (by decide)) ⟨by rw [e2 11 (by decide)]; exact Int.le_refl _, by rw [e2 13 (by decide)]; exact Int.le_refl _⟩ (by decide)
          have h3 : Ctx sd c0 s0 s3 := by
            refine h2.on hF3 (Out.fr hF3 (by decide) (by decide)) ⟨?_, ?_⟩ (by decide)
            · rw [e2 11 (by decide), e1 11 (by decide)]; omega
            · rw [e2 13 (by decide)]; omega
          exact h3.on hF37 (Out.fr hF37 (by decide) (by decide)) ⟨by rw [e711]; exact Int.le_refl _, by rw [e713]; exact Int.le_refl _⟩ (by decide)
        have hmu : mu s7 < mu s := by
          unfold mu
          rw [e711, e713]
          omega
        exact ih s7 (n + 1) c (by omega) hEy hXy (by omega)
      refine ok_ite (fun c6 => ?_) (fun c6 => ?_)
      · refine ok_bindP (ok_fail s 2 hI (by decide) (by decide)) (fun y hc => ?_)
        exact step y hc.1 hc.2.1 hc.2.2.2 (fun q => by have := hc.2.2.1; omega)
      · have c6 := tn_ne (b := 6) rfl (by decide) c6
        have ho6 := hE.2.2.2.2.2.2.2.2.2.2.1 hz
        exact step s hI FrR.rfl (Int.le_refl _) (fun _ => by omega)
    · show Ok (if (0 : Int32) = 0 then _ else _) _
      rw [if_pos rfl]
      refine ok_bindP (ok_unit sd c0 base s n c hE) (fun s4 hc => ?_)
      obtain ⟨c', q1, hE4, hF4, hO4, hA4, ht4, hmu4, hmu5⟩ := hc
      have hX4 : Ctx sd c0 s0 s4 := hX.on hF4 hO4 hA4 (by decide)
      refine ok_ite (fun c1 => ?_) (fun c1 => ?_)
      · have c1 := tn_le (b := 0) rfl (by decide) c1
        have hadv := hX.2.2.1
        have hf4 : 0 ≤ (s4.v 13).toInt ∧ (s4.v 13).toInt ≤ 2 := hE4.1.1 13
        have h5 := ht4 (by omega)
        exact ok_96 sd c0 base s0 k12 M x1 hx1 hk fu s4 n c' (by have := mu_le s4 hE4.1; unfold fu; omega) hE4 hX4 (fun _ => by omega) (by omega)
      · have c1 := tn_nle (b := 0) rfl (by decide) c1
        obtain ⟨hI4, h19, hsd, h39, h35, hc0, hc1, hb, h12, h127, h126, hS, hc2, hc3, hd⟩ := hE4
        exact ok_some ⟨hI4, hX4.1, hX4.2.1, hX4.2.2, by omega, h127, c', h35, hc1, by omega, fun q => by omega⟩
theorem ok_12 (sd c0 : Nat) (base : Int) (s0 : RS) (x1 : Int32) (hx1 : x1.toInt = base) : ∀ (m : Nat) (x2 : Int32), ¬ x2 = 0 → ∀ (s : RS) (n c : Nat), mu s < m → EX sd c0 base 0 s n c → Ctx sd c0 s0 s → Ok (r_expression_12L m s x1 x2) (PE sd c0 base s0) := by
  intro m
  induction m with
  | zero => intro x2 _ s n c h; omega
  | succ m ih =>
    intro x2 hx2 s n c hm hE hX
    show Ok (r_expression_12 (r_expression_12L m) s x1 x2) _
    unfold r_expression_12
    rw [if_neg hx2]
    refine ok_ite (fun _ => ?_) (fun c1 => ?_)
    · exact ok_23 sd c0 base s0 (r_expression_12L m) (mu s) x1 hx1 (fun y2 hy2 s' n' c' hE' hX' hm' => ih y2 hy2 s' n' c' (by omega) hE' hX') fu s n c (by have := mu_le s hE.1; unfold fu; omega) hE hX (Nat.le_refl _)
    · have c1 := tn_ne (b := 0) rfl (by decide) c1
      obtain ⟨hI4, h19, hsd, h39, h35, hc0, hc1, hb, h12, h127, h126, hS, hc2, hc3, hd⟩ := hE
      exact ok_some ⟨hI4, hX.1, hX.2.1, hX.2.2, by omega, h127, c, h35, hc1, by omega, fun q => absurd q c1⟩
theorem ok_expression (sd c : Nat) (s : RS) (hI : InvR s) (h19 : (s.v 19).toInt = (sd : Int)) (hsd : sd ≤ 1) (h35 : (s.v 35).toInt = ((420 * sd + c : Nat) : Int)) (h120 : 0 ≤ (s.v 12).toInt) (h127 : (s.v 12).toInt ≤ 7) (h126 : (s.v 13).toInt = 0 → (s.v 12).toInt ≤ 6) (hc2 : (c : Int) ≤ (s.v 11).toInt + 1) (hc3 : (s.v 13).toInt = 0 → (c : Int) ≤ (s.v 11).toInt) : Ok (r_expression s) (PE sd (420 * sd + c) (s.v 12).toInt s) := by
  unfold r_expression
  refine ok_let (fun s1 hs1 => ?_)
  have hI1 : InvR s1 := by rw [← hs1]; exact hI.svF (k := 39) rfl rfl
  have hF1 : FrR [39] s s1 := by rw [← hs1]; exact FrR.rfl.sv (k := 39) (by decide)
  have e1 (k : Nat) (hk : k ∉ [39]) : s1.v k = s.v k := hF1.1 k hk
  have e39 : s1.v 39 = 0 := by rw [← hs1]; rfl
  have z0 : nops (s1.f 38) 0 = 0 := rfl
  refine ok_12 sd (420 * sd + c) (s.v 12).toInt s _ (by rw [e1 12 (by decide)]) fu 1 z_one s1 0 c (by have := mu_le s1 hI1; unfold fu; omega) ?_ ?_
  · refine ⟨hI1, by rw [e1 19 (by decide)]; exact h19, hsd, by rw [e39]; decide, by rw [e1 35 (by decide)]; exact h35, by omega, by omega, h120, by rw [e1 12 (by decide), z0]; omega, by rw [e1 12 (by decide)]; exact h127, fun q => by rw [e1 12 (by decide)]; rw [e1 13 (by decide)] at q; exact h126 q, fun i hi => by omega, by rw [e1 11 (by decide), z0]; omega, fun q => by rw [e1 13 (by decide)] at q; rw [e1 11 (by decide), z0]; have := hc3 q; omega, fun q => ?_⟩
    rw [z0, show 420 * sd + c - (420 * sd + c) = 0 by omega]
    rfl
  · exact ⟨FrR.rfl.trans hF1 (by decide), Out.fr hF1 (by decide) (by decide), ⟨by rw [e1 11 (by decide)]; exact Int.le_refl _, by rw [e1 13 (by decide)]; exact Int.le_refl _⟩⟩
