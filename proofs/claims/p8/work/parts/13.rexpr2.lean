/-! ===== an expression is read: its codes are well formed ===== -/
abbrev WE : List Nat := [11, 12, 13, 14, 35, 39, 136, 137, 138]
def EX (sd c0 : Nat) (base : Int) (e : Nat) (s : RS) (n c : Nat) : Prop :=
  InvR s ∧ (s.v 19).toInt = (sd : Int) ∧ sd ≤ 1 ∧ (s.v 39).toInt = (n : Int) ∧ (s.v 35).toInt = ((420 * sd + c : Nat) : Int) ∧ 420 * sd ≤ c0 ∧ c0 ≤ 420 * sd + c ∧
  0 ≤ base ∧ (s.v 12).toInt = base + ((n - nops (s.f 38) n : Nat) : Int) ∧ (s.v 12).toInt ≤ 7 ∧ ((s.v 13).toInt = 0 → (s.v 12).toInt ≤ 6) ∧ Shape (s.f 38) n ∧
  ((c + nops (s.f 38) n : Nat) : Int) ≤ (s.v 11).toInt + 1 ∧ ((s.v 13).toInt = 0 → ((c + nops (s.f 38) n : Nat) : Int) ≤ (s.v 11).toInt) ∧
  ((s.v 13).toInt = 0 → dep (s.f 36) (s.f 37) (420 * sd + c - c0) c0 0 = some (nops (s.f 38) n + e))
theorem EX.n23 {sd c0 : Nat} {base : Int} {e : Nat} {s : RS} {n c : Nat} (h : EX sd c0 base e s n c) : n ≤ 23 := by
  obtain ⟨hI, h19, hsd, h39, h35, hc0, hc1, hb, h12, h127, h126, hS, hc2, hc3, hd⟩ := h
  have h1 := (Shape.few n hS).2.2
  have h2 := nops_le (s.f 38) n
  omega
theorem EX.co {sd c0 : Nat} {base : Int} {s : RS} {n c : Nat} (h : EX sd c0 base 1 s n c) : CO sd c0 s n c := by
  have hn := h.n23
  obtain ⟨hI, h19, hsd, h39, h35, hc0, hc1, hb, h12, h127, h126, hS, hc2, hc3, hd⟩ := h
  have ht : 0 ≤ (s.v 11).toInt ∧ (s.v 11).toInt ≤ 400 := hI.1 11
  exact ⟨hI, h19, hsd, h39, by omega, h35, hc0, hc1, by omega, hd⟩
def mu (s : RS) : Nat := (401 - (s.v 11).toInt + 402 * (2 - (s.v 13).toInt)).toNat
theorem mu_le (s : RS) (hI : InvR s) : mu s ≤ 1205 := by
  have ht : 0 ≤ (s.v 11).toInt ∧ (s.v 11).toInt ≤ 400 := hI.1 11
  have hf : 0 ≤ (s.v 13).toInt ∧ (s.v 13).toInt ≤ 2 := hI.1 13
  unfold mu; omega
/-- what an expression leaves -/
def PE (sd c0 : Nat) (base : Int) (s0 y : RS) : Prop := InvR y ∧ FrR WE s0 y ∧ Out c0 (420 * sd + 402) s0 y ∧ Adv s0 y ∧ 0 ≤ (y.v 12).toInt ∧ (y.v 12).toInt ≤ 7 ∧ ∃ c : Nat, (y.v 35).toInt = ((420 * sd + c : Nat) : Int) ∧ c0 ≤ 420 * sd + c ∧ (c : Int) ≤ (y.v 11).toInt + 1 ∧ ((y.v 13).toInt = 0 → (c : Int) ≤ (y.v 11).toInt ∧ (y.v 12).toInt = base ∧ (s0.v 11).toInt + 1 ≤ (y.v 11).toInt ∧ dep (y.f 36) (y.f 37) (420 * sd + c - c0) c0 0 = some 1)
def Ctx (sd c0 : Nat) (s0 s : RS) : Prop := FrR WE s0 s ∧ Out c0 (420 * sd + 402) s0 s ∧ Adv s0 s
theorem Ctx.on {sd c0 : Nat} {s0 s y : RS} {W : List Nat} (h : Ctx sd c0 s0 s) (hF : FrR W s y) (hO : Out c0 (420 * sd + 402) s y) (hA : Adv s y) (hW : ∀ k ∈ W, k ∈ WE) : Ctx sd c0 s0 y :=
  ⟨h.1.trans hF hW, h.2.1.trans hO (Nat.le_refl _), ⟨Int.le_trans h.2.2.1 hA.1, Int.le_trans h.2.2.2 hA.2⟩⟩
theorem ok_unit (sd c0 : Nat) (base : Int) (s : RS) (n c : Nat) (hE : EX sd c0 base 0 s n c) : Ok (r_unit s) (fun y => ∃ c', c ≤ c' ∧ EX sd c0 base 1 y n c' ∧ FrR [11, 13, 14, 35, 136, 137] s y ∧ Out c0 (420 * sd + 402) s y ∧ Adv s y ∧ ((y.v 13).toInt = 0 → (y.v 11).toInt = (s.v 11).toInt + 1) ∧ mu y ≤ mu s ∧ ((s.v 13).toInt = 0 → mu y < mu s)) := by
  obtain ⟨hI, h19, hsd, h39, h35, hc0, hc1, hb, h12, h127, h126, hS, hc2, hc3, hd⟩ := hE
  have ht : 0 ≤ (s.v 11).toInt ∧ (s.v 11).toInt ≤ 400 := hI.1 11
  have hf : 0 ≤ (s.v 13).toInt ∧ (s.v 13).toInt ≤ 2 := hI.1 13
  have bad : ∀ (y : RS), InvR y → FrR [13, 14] s y → 1 ≤ (y.v 13).toInt → (s.v 13).toInt ≤ (y.v 13).toInt → ∃ c', c ≤ c' ∧ EX sd c0 base 1 y n c' ∧ FrR [11, 13, 14, 35, 136, 137] s y ∧ Out c0 (420 * sd + 402) s y ∧ Adv s y ∧ ((y.v 13).toInt = 0 → (y.v 11).toInt = (s.v 11).toInt + 1) ∧ mu y ≤ mu s ∧ ((s.v 13).toInt = 0 → mu y < mu s) := by
    intro y hIy hF h1 h2
    have e (k : Nat) (hk : k ∉ [13, 14]) : y.v k = s.v k := hF.1 k hk
    have ef (k : Nat) (hk : 100 + k ∉ [13, 14]) : y.f k = s.f k := (hF.2 k hk).1
    have hfy : 0 ≤ (y.v 13).toInt ∧ (y.v 13).toInt ≤ 2 := hIy.1 13
    refine ⟨c, Nat.le_refl _, ⟨hIy, by rw [e 19 (by decide)]; exact h19, hsd, by rw [e 39 (by decide)]; exact h39, by rw [e 35 (by decide)]; exact h35, hc0, hc1, hb, by rw [e 12 (by decide), ef 38 (by decide)]; exact h12, by rw [e 12 (by decide)]; exact h127, fun q => by omega, by rw [ef 38 (by decide)]; exact hS, by rw [e 11 (by decide), ef 38 (by decide)]; exact hc2, fun q => by omega, fun q => by omega⟩, FrR.rfl.trans hF (by decide), Out.fr hF (by decide) (by decide), ⟨by rw [e 11 (by decide)]; exact Int.le_refl _, h2⟩, fun q => by omega, ?_, ?_⟩
    · unfold mu; rw [e 11 (by decide)]; omega
    · intro q; unfold mu; rw [e 11 (by decide)]; omega
  have good : ∀ (k z : Int32), (s.v 13).toInt = 0 → (k.toInt = 0 ∨ (k.toInt = 1 ∧ 0 ≤ z.toInt ∧ z.toInt ≤ 8)) → Ok (bindP (r_emit s k z) fun s13 => bindP (r_goesOn s13) fun s14 => some s14) (fun y => ∃ c', c ≤ c' ∧ EX sd c0 base 1 y n c' ∧ FrR [11, 13, 14, 35, 136, 137] s y ∧ Out c0 (420 * sd + 402) s y ∧ Adv s y ∧ ((y.v 13).toInt = 0 → (y.v 11).toInt = (s.v 11).toInt + 1) ∧ mu y ≤ mu s ∧ ((s.v 13).toInt = 0 → mu y < mu s)) := by
    intro k z hz hk
    have hct := hc3 hz
    refine ok_bindP (ok_emit s k z (420 * sd + c) hI h35 (by omega)) (fun s1 hc => ?_)
    obtain ⟨hI1, hF1, h351, hf36, hf37⟩ := hc
    have e1 (k : Nat) (hk : k ∉ [35, 136, 137]) : s1.v k = s.v k := hF1.1 k hk
    refine ok_bindP (ok_goesOn s1 hI1) (fun y hcy => ?_)
    obtain ⟨hIy, hFy, hst⟩ := hcy
    have hfy : 0 ≤ (y.v 13).toInt ∧ (y.v 13).toInt ≤ 2 := hIy.1 13
    have ey (k : Nat) (hk : k ∉ [11, 13, 14]) : y.v k = s1.v k := hFy.1 k hk
    have eyf (k : Nat) (hk : 100 + k ∉ [11, 13, 14]) : y.f k = s1.f k := (hFy.2 k hk).1
    have ef38 : y.f 38 = s.f 38 := (eyf 38 (by decide)).trans (hF1.2 38 (by decide)).1
    have hst' : ((y.v 11).toInt = (s.v 11).toInt + 1 ∧ (y.v 13).toInt = (s.v 13).toInt) ∨ ((s.v 11).toInt = 400 ∧ (y.v 11).toInt = (s.v 11).toInt ∧ 1 ≤ (y.v 13).toInt ∧ (s.v 13).toInt ≤ (y.v 13).toInt) := by
      unfold Step at hst
      rw [e1 11 (by decide), e1 13 (by decide)] at hst
      exact hst
    have e12 : y.v 12 = s.v 12 := (ey 12 (by decide)).trans (e1 12 (by decide))
    have e35 : (y.v 35).toInt = ((420 * sd + (c + 1) : Nat) : Int) := by rw [ey 35 (by decide), h351]; omega
    refine ok_some ⟨c + 1, by omega, ⟨hIy, by rw [ey 19 (by decide), e1 19 (by decide)]; exact h19, hsd, by rw [ey 39 (by decide), e1 39 (by decide)]; exact h39, e35, hc0, by omega, hb, by rw [e12, ef38]; exact h12, by rw [e12]; exact h127, fun q => by rw [e12]; exact h126 hz, by rw [ef38]; exact hS, by rw [ef38]; omega, fun q => by rw [ef38]; omega, fun q => ?_⟩, (FrR.rfl.trans (W := [11, 13, 14, 35, 136, 137]) hF1 (by decide)).trans hFy (by decide), ?_, ⟨by omega, by omega⟩, fun q => by omega, ?_, ?_⟩
    · rw [eyf 36 (by decide), eyf 37 (by decide), hf36, hf37, ef38]
      have hp : c0 + (420 * sd + c - c0) = 420 * sd + c := by omega
      have := dep_push (x := k) (y := z) (hd hz) hk
      rw [hp] at this
      rw [show 420 * sd + (c + 1) - c0 = 420 * sd + c - c0 + 1 by omega, this]
    · intro j hj
      rw [eyf 36 (by decide), eyf 37 (by decide), hf36, hf37]
      unfold upd
      rw [if_neg (by omega), if_neg (by omega)]
      exact ⟨rfl, rfl⟩
    · unfold mu; omega
    · intro _; unfold mu; omega
  have fl : Ok (r_unit_88 s) (fun y => ∃ c', c ≤ c' ∧ EX sd c0 base 1 y n c' ∧ FrR [11, 13, 14, 35, 136, 137] s y ∧ Out c0 (420 * sd + 402) s y ∧ Adv s y ∧ ((y.v 13).toInt = 0 → (y.v 11).toInt = (s.v 11).toInt + 1) ∧ mu y ≤ mu s ∧ ((s.v 13).toInt = 0 → mu y < mu s)) := by
    unfold r_unit_88
    refine ok_bindP (ok_fail s 1 hI (by decide) (by decide)) (fun y hc => ?_)
    exact ok_some (bad y hc.1 hc.2.1 hc.2.2.1 hc.2.2.2)
  unfold r_unit
  refine ok_is hI (fun h0 hk => ?_) (fun h => ?_)
  · show Ok (if (1 : Int32) = 0 then _ else _) _
    rw [if_neg z_one]
    refine ok_grd (vpb_ok (by omega) (by omega)) ?_
    exact good 0 _ (fz h0) (Or.inl (by decide))
  · show Ok (if (0 : Int32) = 0 then _ else _) _
    rw [if_pos rfl]
    refine ok_ite (fun h0 => ?_) (fun _ => fl)
    refine ok_grd (vpb_ok (by omega) (by omega)) ?_
    refine ok_ite (fun _ => fl) (fun c1 => ?_)
    have c1 := tn_nlt (b := 30) rfl (by decide) c1
    refine ok_grd (vpb_ok (by omega) (by omega)) ?_
    refine ok_ite (fun _ => fl) (fun c2 => ?_)
    have c2 := tn_nlt (a := 38) (by decide) rfl c2
    refine ok_grd (vpb_ok (by omega) (by omega)) ?_
    have a : ((s.f 5 (Int32.toNatClampNeg (s.v 11))) - 30).toInt = (s.f 5 (Int32.toNatClampNeg (s.v 11))).toInt - 30 := tn_sub rfl (by decide) (by omega) (by omega)
    exact good 1 _ (fz h0) (Or.inr ⟨by decide, by omega, by omega⟩)
theorem ok_204 (sd c0 : Nat) (base : Int) (s0 s : RS) (n c : Nat) (hE : EX sd c0 base 1 s n c) (hX : Ctx sd c0 s0 s) (h1 : (s.v 13).toInt = 0 → (s.v 12).toInt ≤ base ∧ (s0.v 11).toInt + 1 ≤ (s.v 11).toInt) : Ok (r_expression_204 s) (PE sd c0 base s0) := by
  unfold r_expression_204
  have hn23 := hE.n23
  refine ok_bindP (ok_comesOut sd c0 0 s n c hE.co) (fun y hy => ?_)
  obtain ⟨hI, h19, hsd, h39, h35, hc0, hc1, hb, h12, h127, h126, hS, hc2, hc3, hd⟩ := hE
  obtain ⟨n', c', q1, q2, hC, q4, q5, hF, hO, q8⟩ := hy
  obtain ⟨hIy, k19, _, k39, _, k35, _, kc1, kcn, kd⟩ := hC
  have ev (k : Nat) (hk : k ∉ [35, 39, 136, 137]) : y.v k = s.v k := hF.1 k hk
  have e38 : y.f 38 = s.f 38 := (hF.2 38 (by decide)).1
  have hle := nops_le (s.f 38) n
  have hle' := nops_le (s.f 38) n'
  have hX2 : Ctx sd c0 s0 y := hX.on hF hO ⟨by rw [ev 11 (by decide)]; exact Int.le_refl _, by rw [ev 13 (by decide)]; exact Int.le_refl _⟩ (by decide)
  refine ok_some ⟨hIy, hX2.1, hX2.2.1, hX2.2.2, by rw [ev 12 (by decide)]; omega, by rw [ev 12 (by decide)]; omega, c', k35, kc1, by rw [ev 11 (by decide)]; omega, ?_⟩
  rw [ev 13 (by decide), ev 11 (by decide), ev 12 (by decide)]
  intro hz
  have h1z := h1 hz
  have hcz := hc3 hz
  have hn0 : n' = 0 := by
    rcases q8 with q | q | q
    · exact q
    · cases n' with
      | zero => rfl
      | succ m =>
        have : nops (s.f 38) (m + 1) = nops (s.f 38) m := by
          show nops (s.f 38) m + (if s.f 38 m = 6 then 0 else 1) = _
          rw [if_pos (show s.f 38 m = 6 from q)]; rfl
        have := nops_le (s.f 38) m
        omega
    · exact absurd rfl q.1
  subst hn0
  refine ⟨by omega, by omega, by omega, ?_⟩
  have := kd (by rw [ev 13 (by decide)]; exact hz)
  rw [this]
  rfl
