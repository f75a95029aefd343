section
noncomputable def loVR (k : Nat) : Int := if k = 2 then 0 else if k = 4 then 0 else if k = 10 then 0 else if k = 11 then 0 else if k = 13 then 0 else if k = 15 then 0 else if k = 18 then 0 else if k = 19 then 0 else if k = 48 then 0 else if k = 51 then 0 else -2147483648
noncomputable def hiVR (k : Nat) : Int := if k = 2 then 2000 else if k = 4 then 2000 else if k = 10 then 402 else if k = 11 then 400 else if k = 13 then 2 else if k = 15 then 5 else if k = 18 then 1 else if k = 19 then 1 else if k = 48 then 40 else if k = 51 then 20 else 2147483647
noncomputable def loFR (k : Nat) : Int := if k = 5 then 0 else if k = 7 then 0 else if k = 20 then 0 else if k = 23 then 0 else if k = 52 then 0 else -2147483648
noncomputable def hiFR (k : Nat) : Int := if k = 5 then 38 else if k = 7 then 9999 else if k = 20 then 5 else if k = 23 then 6 else if k = 52 then 4 else 2147483647
/-- what holds of the reference's numbers at all times -/
noncomputable def InvR (s : RS) : Prop := (∀ k, loVR k ≤ (s.v k).toInt ∧ (s.v k).toInt ≤ hiVR k) ∧ (∀ k j, loFR k ≤ (s.f k j).toInt ∧ (s.f k j).toInt ≤ hiFR k)
theorem InvR.sv {s : RS} {k : Nat} {x : Int32} (h : InvR s) (h1 : loVR k ≤ x.toInt) (h2 : x.toInt ≤ hiVR k) : InvR (s.sv k x) := by
  refine ⟨fun j => ?_, h.2⟩
  show loVR j ≤ (va_up s.v k x j).toInt ∧ (va_up s.v k x j).toInt ≤ hiVR j
  by_cases e : j = k
  · subst e; rw [va_up_self]; exact ⟨h1, h2⟩
  · rw [va_up_ne _ _ e]; exact h.1 j
theorem InvR.svF {s : RS} {k : Nat} {x : Int32} (h : InvR s) (h1 : loVR k = -2147483648) (h2 : hiVR k = 2147483647) : InvR (s.sv k x) := h.sv (by rw [h1]; exact (ti_rng x).1) (by rw [h2]; exact (ti_rng x).2)
theorem InvR.sf {s : RS} {k i : Nat} {x : Int32} (h : InvR s) (h1 : loFR k ≤ x.toInt) (h2 : x.toInt ≤ hiFR k) : InvR (s.sf k i x) := by
  refine ⟨h.1, fun a j => ?_⟩
  show loFR a ≤ (va_up s.f k (upd (s.f k) i x) a j).toInt ∧ (va_up s.f k (upd (s.f k) i x) a j).toInt ≤ hiFR a
  by_cases e : a = k
  · subst e; rw [va_up_self]; unfold upd
    by_cases e2 : j = i
    · rw [if_pos e2]; exact ⟨h1, h2⟩
    · rw [if_neg e2]; exact h.2 a j
  · rw [va_up_ne _ _ e]; exact h.2 a j
theorem InvR.sfF {s : RS} {k i : Nat} {x : Int32} (h : InvR s) (h1 : loFR k = -2147483648) (h2 : hiFR k = 2147483647) : InvR (s.sf k i x) := h.sf (by rw [h1]; exact (ti_rng x).1) (by rw [h2]; exact (ti_rng x).2)
theorem InvR.sg {s : RS} {k i : Nat} {x : Int64} (h : InvR s) : InvR (s.sg k i x) := h
/-- what a program leaves as it was: all numbers but those of W, all rows k but those with 100 + k in W -/
noncomputable def FrR (W : List Nat) (s t : RS) : Prop := (∀ k, k ∉ W → t.v k = s.v k) ∧ (∀ k, 100 + k ∉ W → t.f k = s.f k ∧ t.g k = s.g k)
theorem FrR.rfl {W : List Nat} {s : RS} : FrR W s s := ⟨fun _ _ => Eq.refl _, fun _ _ => ⟨Eq.refl _, Eq.refl _⟩⟩
theorem FrR.sv {W : List Nat} {s t : RS} {k : Nat} {x : Int32} (h : FrR W s t) (hk : k ∈ W) : FrR W s (t.sv k x) := by
  refine ⟨fun j hj => ?_, h.2⟩
  show va_up t.v k x j = s.v j
  have hn : j ≠ k := fun e => hj (by rw [e]; exact hk)
  rw [va_up_ne _ _ hn]; exact h.1 j hj
theorem FrR.sf {W : List Nat} {s t : RS} {k i : Nat} {x : Int32} (h : FrR W s t) (hk : 100 + k ∈ W) : FrR W s (t.sf k i x) := by
  refine ⟨h.1, fun j hj => ⟨?_, (h.2 j hj).2⟩⟩
  show va_up t.f k (upd (t.f k) i x) j = s.f j
  have hn : j ≠ k := fun e => hj (by rw [e]; exact hk)
  rw [va_up_ne _ _ hn]; exact (h.2 j hj).1
theorem FrR.sg {W : List Nat} {s t : RS} {k i : Nat} {x : Int64} (h : FrR W s t) (hk : 100 + k ∈ W) : FrR W s (t.sg k i x) := by
  refine ⟨h.1, fun j hj => ⟨(h.2 j hj).1, ?_⟩⟩
  show va_up t.g k (vp_updL (t.g k) i x) j = s.g j
  have hn : j ≠ k := fun e => hj (by rw [e]; exact hk)
  rw [va_up_ne _ _ hn]; exact (h.2 j hj).2
theorem FrR.trans {W W' : List Nat} {s t u : RS} (h : FrR W s t) (h2 : FrR W' t u) (hW : ∀ k ∈ W', k ∈ W) : FrR W s u :=
  ⟨fun k hk => (h2.1 k (fun q => hk (hW k q))).trans (h.1 k hk), fun k hk => ⟨(h2.2 k (fun q => hk (hW _ q))).1.trans (h.2 k hk).1, (h2.2 k (fun q => hk (hW _ q))).2.trans (h.2 k hk).2⟩⟩
/-! ===== the reference: what holds of its numbers, of its odds, of its laws ===== -/
noncomputable def psum (f : Nat → Int32) (b : Nat) : Nat → Int
  | 0 => 0
  | n + 1 => psum f b n + (f (b + n)).toInt
noncomputable def Six (f : Nat → Int32) : Prop := ∀ j : Nat, j < 6 → 1 ≤ (f j).toInt ∧ (f j).toInt ≤ 7776
noncomputable def OddsOK (live : Int32) (f20 f21 : Nat → Int32) : Prop := ∀ w : Nat, (w : Int) < (f20 live.toNatClampNeg).toInt → (∀ v : Nat, v < 6 → 0 ≤ (f21 (30 * live.toNatClampNeg + 6 * w + v)).toInt ∧ (f21 (30 * live.toNatClampNeg + 6 * w + v)).toInt ≤ 9) ∧ 0 < psum f21 (30 * live.toNatClampNeg + 6 * w) 6
/-- n codes from c on, over d values that wait: how many wait behind them; none if they aren't well formed -/
noncomputable def dep (cd ci : Nat → Int32) : Nat → Nat → Nat → Option Nat
  | 0, _, d => some d
  | n + 1, c, d => if (cd c).toInt = 0 ∨ ((cd c).toInt = 1 ∧ 0 ≤ (ci c).toInt ∧ (ci c).toInt ≤ 8) then dep cd ci n (c + 1) (d + 1) else if 2 ≤ (cd c).toInt ∧ (cd c).toInt ≤ 5 ∧ 2 ≤ d then dep cd ci n (c + 1) (d - 1) else none
/-- a stretch of codes that can be gone through -/
noncomputable def Seg (lo hi : Nat) (cd ci : Nat → Int32) (a b : Int32) : Prop := ∃ p n : Nat, a.toInt = (p : Int) ∧ b.toInt = (p : Int) + (n : Int) ∧ lo ≤ p ∧ p + n ≤ hi ∧ n ≤ 400 ∧ ∃ d, dep cd ci n p 0 = some d
noncomputable def BrOK (lo hi : Nat) (f30 f31 f32 f33 f34 f36 f37 : Nat → Int32) (b : Nat) : Prop := (¬ f30 b = 0 → Seg lo hi f36 f37 (f31 b) (f32 b) ∧ Seg lo hi f36 f37 (f32 b) (f33 b)) ∧ Seg lo hi f36 f37 (f33 b) (f34 b)
noncomputable def LawOK (live : Int32) (f27 f28 f30 f31 f32 f33 f34 f36 f37 : Nat → Int32) : Prop := ∀ k : Nat, k < 4 → f27 (4 * live.toNatClampNeg + k) = f28 (4 * live.toNatClampNeg + k) ∨ (((130 * live.toNatClampNeg : Nat) : Int) ≤ (f27 (4 * live.toNatClampNeg + k)).toInt ∧ (f28 (4 * live.toNatClampNeg + k)).toInt ≤ ((130 * live.toNatClampNeg + 103 : Nat) : Int) ∧ ∀ b : Nat, (f27 (4 * live.toNatClampNeg + k)).toInt ≤ (b : Int) → (b : Int) < (f28 (4 * live.toNatClampNeg + k)).toInt → BrOK (420 * live.toNatClampNeg) (420 * live.toNatClampNeg + 402) f30 f31 f32 f33 f34 f36 f37 b)
noncomputable def Big (s : RS) : Prop := Six (s.f 46) ∧ OddsOK (s.v 18) (s.f 20) (s.f 21) ∧ LawOK (s.v 18) (s.f 27) (s.f 28) (s.f 30) (s.f 31) (s.f 32) (s.f 33) (s.f 34) (s.f 36) (s.f 37)
noncomputable def wv (s : RS) : Int := (s.f 20 (s.v 18).toNatClampNeg).toInt
theorem wv_fr {W : List Nat} {s0 s : RS} (h : FrR W s0 s) (h1 : 18 ∉ W) (h2 : 120 ∉ W) : wv s = wv s0 := by
  unfold wv
  rw [h.1 18 h1, (h.2 20 h2).1]
theorem Big.fr {W : List Nat} {s0 s : RS} (hB : Big s0) (h : FrR W s0 s) (hW : ∀ k ∈ [18, 120, 121, 127, 128, 130, 131, 132, 133, 134, 136, 137, 146], k ∉ W) : Big s := by
  have e (k : Nat) (hk : 100 + k ∈ [18, 120, 121, 127, 128, 130, 131, 132, 133, 134, 136, 137, 146]) : s.f k = s0.f k := (h.2 k (hW _ hk)).1
  unfold Big
  rw [h.1 18 (hW 18 (by decide)), e 20 (by decide), e 21 (by decide), e 27 (by decide), e 28 (by decide), e 30 (by decide), e 31 (by decide), e 32 (by decide), e 33 (by decide), e 34 (by decide), e 36 (by decide), e 37 (by decide), e 46 (by decide)]
  exact hB
theorem clamp_of_int {i : Int32} {n : Nat} (h : i.toInt = (n : Int)) : i.toNatClampNeg = n := by
  have e : i.toInt.toNat = i.toNatClampNeg := Int32.toNat_toInt i
  omega
theorem Big.six {W : List Nat} {s0 s : RS} {i : Int32} (hB : Big s0) (h : FrR W s0 s) (hW : 146 ∉ W) (h0 : 0 ≤ i.toInt) (h1 : i.toInt < 6) : 1 ≤ (s.f 46 (Int32.toNatClampNeg i)).toInt ∧ (s.f 46 (Int32.toNatClampNeg i)).toInt ≤ 7776 := by
  rw [(h.2 46 hW).1]
  exact hB.1 _ (clamp_lt (n := 6) (by omega) (by omega))
theorem FrR.eq {s t : RS} (h : FrR [] s t) : t = s := by
  obtain ⟨v, f, g⟩ := s
  obtain ⟨v', f', g'⟩ := t
  have h1 : v' = v := funext (fun k => h.1 k (by simp))
  have h2 : f' = f := funext (fun k => (h.2 k (by simp)).1)
  have h3 : g' = g := funext (fun k => (h.2 k (by simp)).2)
  rw [h1, h2, h3]
theorem ti_ushr1 (x : Int32) : 0 ≤ (ushr x 1).toInt := by
  have e : (Int32.toUInt32 1 &&& Int32.toUInt32 31) = 1 := by decide
  have h : (x.toUInt32 >>> (1 : UInt32)).toNat < 2147483648 := by
    rw [UInt32.toNat_shiftRight]
    have h1 : x.toUInt32.toNat < 4294967296 := x.toUInt32.toNat_lt
    rw [show (1 : UInt32).toNat % 32 = 1 from by decide, Nat.shiftRight_eq_div_pow]
    omega
  show 0 ≤ ((x.toUInt32 >>> (Int32.toUInt32 1 &&& Int32.toUInt32 31)).toInt32).toInt
  rw [e]
  generalize x.toUInt32 >>> (1 : UInt32) = u at h
  have e2 : u.toInt32.toInt = (u.toNat : Int) := by
    show u.toBitVec.toInt = _
    rw [BitVec.toInt_eq_toNat_of_lt (by show 2 * u.toNat < _; omega)]
    rfl
  omega
end
section
theorem put_L (s0 : RS) (x1 : Int32) (T : Int) (hT0 : 0 ≤ T) (hT : T ≤ 1996) : ∀ (n j : Nat) (s : RS) (x2 : Int32), 4 - j < n → j ≤ 4 → x2.toInt = 24 - 8 * (j : Int) → InvR s → FrR [2, 101] s0 s → (s.v 2).toInt = T + (j : Int) → Ok (r_put_3L n s x1 x2) (fun y => InvR y ∧ FrR [2, 101] s0 y ∧ (y.v 2).toInt = T + 4) := by
  intro n
  induction n with
  | zero => intro j s x2 h; omega
  | succ n ih =>
    intro j s x2 hn hj h2 hI hF ht
    show Ok (r_put_3 (r_put_3L n) s x1 x2) _
    unfold r_put_3
    rw [show x2 + (-8) = x2 - 8 from (Int32.sub_eq_add_neg x2 8).symm]
    refine ok_ite (fun c => ?_) (fun c => ?_)
    · have c := tn_lt (b := 0) rfl (by decide) c
      exact ok_some ⟨hI, hF, by omega⟩
    · have c := tn_nlt (b := 0) rfl (by decide) c
      refine ok_grd (vpb_ok (by omega) (by omega)) ?_
      refine ok_let (fun s3 hs3 => ?_)
      have hI3 : InvR s3 := by rw [← hs3]; exact hI.sfF (k := 1) rfl rfl
      have hF3 : FrR [2, 101] s0 s3 := by rw [← hs3]; exact hF.sf (k := 1) (by decide)
      have e3 : s3.v 2 = s.v 2 := by rw [← hs3]; rfl
      refine ok_let (fun s5 hs5 => ?_)
      have a : ((s3.v 2) + 1).toInt = (s3.v 2).toInt + 1 := tn_add rfl (by decide) (by rw [e3]; omega) (by rw [e3]; omega)
      rw [e3] at a
      have hI5 : InvR s5 := by rw [← hs5, e3]; exact hI3.sv (k := 2) (show (0 : Int) ≤ ((s.v 2) + 1).toInt by omega) (show ((s.v 2) + 1).toInt ≤ (2000 : Int) by omega)
      have hF5 : FrR [2, 101] s0 s5 := by rw [← hs5]; exact hF3.sv (k := 2) (by decide)
      have e5 : s5.v 2 = (s.v 2) + 1 := by rw [← hs5, ← e3]; rfl
      have b : (x2 - 8).toInt = x2.toInt - 8 := tn_sub rfl (by decide) (by omega) (by omega)
      exact ih (j + 1) s5 _ (by omega) (by omega) (by omega) hI5 hF5 (by rw [e5]; omega)
theorem ok_put (s : RS) (x1 : Int32) (hI : InvR s) (h : (s.v 2).toInt ≤ 1996) : Ok (r_put s x1) (fun y => InvR y ∧ FrR [2, 101] s y ∧ (y.v 2).toInt = (s.v 2).toInt + 4) := by
  unfold r_put
  have h2 : 0 ≤ (s.v 2).toInt ∧ (s.v 2).toInt ≤ 2000 := hI.1 2
  exact put_L s x1 (s.v 2).toInt h2.1 h fu 0 s 24 (by unfold fu; omega) (by omega) (by decide) hI FrR.rfl (by omega)
noncomputable abbrev Q_r_feed (s0 : RS) (y : Int32 × RS) : Prop := InvR y.2 ∧ FrR [2, 101] s0 y.2 ∧ -1 ≤ y.1.toInt ∧ y.1.toInt ≤ 2000
/-- what feed answers, and how long the tape is then -/
theorem feed_says (s : RS) (x1 x2 x3 x4 x5 : Int32) (hI : InvR s) : Ok (r_feed s x1 x2 x3 x4 x5) (fun y => InvR y.2 ∧ FrR [2, 101] s y.2 ∧ (((s.v 2).toInt ≤ 1980 ∧ (y.2.v 2).toInt = (s.v 2).toInt + 20 ∧ y.1.toInt = (s.v 2).toInt + 20) ∨ (1980 < (s.v 2).toInt ∧ (y.2.v 2).toInt = (s.v 2).toInt ∧ y.1.toInt = -1))) := by
  unfold r_feed
  have h2 : 0 ≤ (s.v 2).toInt ∧ (s.v 2).toInt ≤ 2000 := hI.1 2
  have a : ((s.v 2) + 20).toInt = (s.v 2).toInt + 20 := tn_add rfl (by decide) (by omega) (by omega)
  refine ok_ite (fun c => ?_) (fun c => ?_)
  · have c := tn_le (b := 2000) rfl (by decide) c
    refine ok_bindP (ok_put s x1 hI (by omega)) (fun s2 h2 => ?_)
    refine ok_bindP (ok_put s2 x2 h2.1 (by omega)) (fun s3 h3 => ?_)
    refine ok_bindP (ok_put s3 x3 h3.1 (by omega)) (fun s4 h4 => ?_)
    refine ok_bindP (ok_put s4 x4 h4.1 (by omega)) (fun s5 h5 => ?_)
    refine ok_bindP (ok_put s5 x5 h5.1 (by omega)) (fun s6 h6 => ?_)
    have e : (s6.v 2).toInt = (s.v 2).toInt + 20 := by omega
    exact ok_some ⟨h6.1, (((h2.2.1.trans h3.2.1 (by decide)).trans h4.2.1 (by decide)).trans h5.2.1 (by decide)).trans h6.2.1 (by decide), Or.inl ⟨by omega, e, e⟩⟩
  · have c := tn_nle (b := 2000) rfl (by decide) c
    exact ok_some ⟨hI, FrR.rfl, Or.inr ⟨by omega, rfl, by show ((-1) : Int32).toInt = -1; decide⟩⟩
theorem ok_r_feed (s : RS) (x1 x2 x3 x4 x5 : Int32) (hI : InvR s) : Ok (r_feed s x1 x2 x3 x4 x5) (Q_r_feed s) := by
  have h2 : 0 ≤ (s.v 2).toInt ∧ (s.v 2).toInt ≤ 2000 := hI.1 2
  refine ok_weak (feed_says s x1 x2 x3 x4 x5 hI) (fun y hy => ⟨hy.1, hy.2.1, ?_, ?_⟩)
  · rcases hy.2.2 with h | h <;> omega
  · rcases hy.2.2 with h | h <;> omega
noncomputable abbrev Q_r_back (s0 : RS) (y : Int32 × RS) : Prop := InvR y.2 ∧ FrR [2] s0 y.2 ∧ -1 ≤ y.1.toInt ∧ y.1.toInt ≤ 2000
set_option maxHeartbeats 1000000 in
theorem ok_r_backB (s0 : RS)  (s : RS) (x1 : Int32) (hI_s : InvR s) (hF_s : FrR [2] s0 s)  : Ok (r_back  s x1) (Q_r_back s0) := by
  unfold r_back
  refine ok_ite (fun c_1 => ?_) (fun c_1 => ?_)
  · have c_1 := tn_lt (a := (x1).toInt) (b := 0) rfl (by decide) c_1
    exact ok_some ⟨hI_s, hF_s, by show -1 ≤ ((-1) : Int32).toInt; decide, by show ((-1) : Int32).toInt ≤ 2000; decide⟩
  · have c_1 := tn_nlt (a := (x1).toInt) (b := 0) rfl (by decide) c_1
    have a_2 : 0 ≤ (s.v 2).toInt ∧ (s.v 2).toInt ≤ 2000 := hI_s.1 2
    refine ok_ite (fun c_3 => ?_) (fun c_3 => ?_)
    · have c_3 := tn_le (a := (x1).toInt) (b := ((s.v 2)).toInt) rfl rfl c_3
      refine ok_let (fun s3 hs3 => ?_)
      have a_4 : (((s.v 2) - x1)).toInt = ((s.v 2)).toInt - (x1).toInt := tn_sub rfl rfl (by omega) (by omega)
      have hI_s3 : InvR s3 := by rw [← hs3]; exact hI_s.sv (k := 2) (show (0 : Int) ≤ (((s.v 2) - x1)).toInt by omega) (show (((s.v 2) - x1)).toInt ≤ (2000 : Int) by omega)
      have hF_s3 : FrR [2] s0 s3 := by rw [← hs3]; exact hF_s.sv (k := 2) (by decide)
      have a_5 : (s3.v 2).toInt = (((s.v 2) - x1)).toInt := (congrArg Int32.toInt (show s3.v 2 = ((s.v 2) - x1) by rw [← hs3]; rfl)).trans rfl
      exact ok_some ⟨hI_s3, hF_s3, by show -1 ≤ ((s3.v 2)).toInt; omega, by show ((s3.v 2)).toInt ≤ 2000; omega⟩
    · have c_3 := tn_nle (a := (x1).toInt) (b := ((s.v 2)).toInt) rfl rfl c_3
      exact ok_some ⟨hI_s, hF_s, by show -1 ≤ ((-1) : Int32).toInt; decide, by show ((-1) : Int32).toInt ≤ 2000; decide⟩
theorem ok_r_back (s : RS) (x1 : Int32) (hI_s : InvR s) : Ok (r_back s x1) (Q_r_back s) := ok_r_backB s s x1 hI_s FrR.rfl
noncomputable abbrev Q_r_keepsRow (s0 : RS) (y : RS) : Prop := InvR y ∧ FrR [143] s0 y
set_option maxHeartbeats 1000000 in
theorem ok_r_keepsRow_2 (s0 : RS) (k2 : RS → Int32 → Option (RS)) (M2 : Nat) (hk2 : ∀ (s : RS) (x1 : Int32), InvR s → FrR [143] s0 s → 0 ≤ x1.toInt → x1.toInt ≤ 29 → (29 - x1.toInt).toNat < M2 → Ok (k2 s x1) (Q_r_keepsRow s0)) (s : RS) (x1 : Int32) (hI_s : InvR s) (hF_s : FrR [143] s0 s) (h_x1l : 0 ≤ x1.toInt) (h_x1u : x1.toInt ≤ 29) (hM2 : (29 - x1.toInt).toNat ≤ M2) : Ok (r_keepsRow_2 k2 s x1) (Q_r_keepsRow s0) := by
  unfold r_keepsRow_2
  refine ok_ite (fun c_1 => ?_) (fun c_1 => ?_)
  · have c_1 := tn_le (a := 29) (b := (x1).toInt) (by decide) rfl c_1
    exact ok_some ⟨hI_s, hF_s⟩
  · have c_1 := tn_nle (a := 29) (b := (x1).toInt) (by decide) rfl c_1
    refine ok_grd (vpb_ok (by omega) (by omega)) ?_
    refine ok_grd (vpb_ok (by omega) (by omega)) ?_
    refine ok_let (fun s4 hs4 => ?_)
    have hI_s4 : InvR s4 := by rw [← hs4]; exact hI_s.sfF (k := 43) rfl rfl
    have hF_s4 : FrR [143] s0 s4 := by rw [← hs4]; exact hF_s.sf (k := 43) (by decide)
    have a_2 : ((x1 + 1)).toInt = (x1).toInt + 1 := tn_add rfl (by decide) (by omega) (by omega)
    exact hk2 _ _ hI_s4 hF_s4 (by omega) (by omega) (by omega)
theorem okL_r_keepsRow_2 (s0 : RS)  : ∀ (n : Nat) (s : RS) (x1 : Int32), (29 - x1.toInt).toNat < n → InvR s → FrR [143] s0 s → 0 ≤ x1.toInt → x1.toInt ≤ 29 → Ok (r_keepsRow_2L  n s x1) (Q_r_keepsRow s0) := by
  intro n
  induction n with
  | zero => intro s x1 hn; omega
  | succ n ih =>
    intro s x1 hn hI_s hF_s h_x1l h_x1u 
    exact ok_r_keepsRow_2 s0 (r_keepsRow_2L  n) ((29 - x1.toInt).toNat) (fun zs zx1 g0 g1 g2 g3  hm => ih zs zx1 (by omega) g0 g1 g2 g3 ) s x1 hI_s hF_s h_x1l h_x1u (Nat.le_refl _)
set_option maxHeartbeats 1000000 in
theorem ok_r_keepsRowB (s0 : RS)  (s : RS) (hI_s : InvR s) (hF_s : FrR [143] s0 s)  : Ok (r_keepsRow  s) (Q_r_keepsRow s0) := by
  unfold r_keepsRow
  have l_0 : (0 : Int32).toInt = 0 := by decide
  exact okL_r_keepsRow_2 s0  fu _ _ (by unfold fu; omega) hI_s hF_s (by decide) (by decide) 
theorem ok_r_keepsRow (s : RS) (hI_s : InvR s) : Ok (r_keepsRow s) (Q_r_keepsRow s) := ok_r_keepsRowB s s hI_s FrR.rfl
noncomputable abbrev Q_r_place (s0 : RS) (y : Int32 × RS) : Prop := InvR y.2 ∧ FrR [] s0 y.2 ∧ -2147483648 ≤ y.1.toInt ∧ y.1.toInt ≤ 2147483647
set_option maxHeartbeats 1000000 in
theorem ok_r_placeB (s0 : RS)  (s : RS) (hI_s : InvR s) (hF_s : FrR [] s0 s)  : Ok (r_place  s) (Q_r_place s0) := by
  unfold r_place
  exact ok_some ⟨hI_s, hF_s, (ti_rng _).1, (ti_rng _).2⟩
theorem ok_r_place (s : RS) (hI_s : InvR s) : Ok (r_place s) (Q_r_place s) := ok_r_placeB s s hI_s FrR.rfl
theorem dep_cons {cd ci : Nat → Int32} {n c d : Nat} (h : ∃ q, dep cd ci (n + 1) c d = some q) : (((cd c).toInt = 0 ∨ ((cd c).toInt = 1 ∧ 0 ≤ (ci c).toInt ∧ (ci c).toInt ≤ 8)) ∧ ∃ q, dep cd ci n (c + 1) (d + 1) = some q) ∨ ((2 ≤ (cd c).toInt ∧ (cd c).toInt ≤ 5 ∧ 2 ≤ d) ∧ ∃ q, dep cd ci n (c + 1) (d - 1) = some q) := by
  obtain ⟨q, h⟩ := h
  unfold dep at h
  by_cases h1 : (cd c).toInt = 0 ∨ ((cd c).toInt = 1 ∧ 0 ≤ (ci c).toInt ∧ (ci c).toInt ≤ 8)
  · rw [if_pos h1] at h; exact Or.inl ⟨h1, q, h⟩
  · rw [if_neg h1] at h
    by_cases h2 : 2 ≤ (cd c).toInt ∧ (cd c).toInt ≤ 5 ∧ 2 ≤ d
    · rw [if_pos h2] at h; exact Or.inr ⟨h2, q, h⟩
    · rw [if_neg h2] at h; cases h
noncomputable abbrev Q_r_termOf (s0 : RS) (y : Int32 × RS) : Prop := InvR y.2 ∧ FrR [42, 141] s0 y.2
theorem ok_termOf_L (s0 : RS) : ∀ (m n c d : Nat) (s : RS) (x2 x3 x4 : Int32), n < m → InvR s → FrR [42, 141] s0 s → (∃ q, dep (s0.f 36) (s0.f 37) n c d = some q) → c + n ≤ 840 → d + n ≤ 400 → x4.toInt = (c : Int) → x2.toInt = (c : Int) + (n : Int) → x3.toInt = (d : Int) → Ok (r_termOf_5L m s x2 x3 x4) (Q_r_termOf s0) := by
  intro m
  induction m with
  | zero => intro n c d s x2 x3 x4 h; omega
  | succ m ih =>
    intro n c d s x2 x3 x4 hm hI hF hd hc hn h4 h2 h3
    show Ok (r_termOf_5 (r_termOf_5L m) s x2 x3 x4) _
    unfold r_termOf_5
    rw [show x3 + (-1) = x3 - 1 from (Int32.sub_eq_add_neg x3 1).symm]
    have e36 : s.f 36 = s0.f 36 := (hF.2 36 (by decide)).1
    have e37 : s.f 37 = s0.f 37 := (hF.2 37 (by decide)).1
    have ec : x4.toNatClampNeg = c := clamp_of_int h4
    have l0 : (0 : Int32).toInt = 0 := by decide
    have l1 : (1 : Int32).toInt = 1 := by decide
    have l2 : (2 : Int32).toInt = 2 := by decide
    have l5 : (5 : Int32).toInt = 5 := by decide
    have a1 : (x4 + 1).toInt = x4.toInt + (1 : Int32).toInt := ti_add (by omega) (by omega)
    have push : ∀ (z : Int32) (s1 : RS), InvR s1 → FrR [42, 141] s0 s1 → (∃ q, dep (s0.f 36) (s0.f 37) (n - 1) (c + 1) (d + 1) = some q) → 1 ≤ n → Ok (r_termOf_58 (r_termOf_5L m) s1 x2 x3 x4 z x3) (Q_r_termOf s0) := by
      intro z s1 hI1 hF1 hd1 hn1
      unfold r_termOf_58
      refine ok_grd (vpb_ok (by omega) (by omega)) ?_
      refine ok_let (fun s2 hs2 => ?_)
      have hI2 : InvR s2 := by rw [← hs2]; exact hI1.sfF (k := 41) rfl rfl
      have hF2 : FrR [42, 141] s0 s2 := by rw [← hs2]; exact hF1.sf (k := 41) (by decide)
      unfold r_termOf_159
      have a2 : (x3 + 1).toInt = x3.toInt + (1 : Int32).toInt := ti_add (by omega) (by omega)
      exact ih (n - 1) (c + 1) (d + 1) s2 _ _ _ (by omega) hI2 hF2 hd1 (by omega) (by omega) (by omega) (by omega) (by omega)
    refine ok_ite (fun cc => ?_) (fun cc => ?_)
    · exact ok_some ⟨hI, hF⟩
    · have cc := ti_nle cc
      refine ok_grd (vpb_ok (by omega) (by omega)) ?_
      obtain ⟨n', rfl⟩ : ∃ n', n = n' + 1 := ⟨n - 1, by omega⟩
      rw [ec, e36, e37]
      rcases dep_cons hd with ⟨hk, hd1⟩ | ⟨⟨hk1, hk2, hk3⟩, hd1⟩
      · refine ok_ite (fun c1 => ?_) (fun c1 => ?_)
        · have c1 := ti_le c1
          rcases hk with hk | hk
          · omega
          · omega
        · refine ok_ite (fun c2 => ?_) (fun c2 => ?_)
          · refine ok_grd (vpb_ok (by omega) (by omega)) ?_
            exact push _ s hI hF hd1 (by omega)
          · have c2 := ti_ne c2
            refine ok_grd (vpb_ok (by omega) (by omega)) ?_
            refine ok_grd (vpb_ok (by omega) (by omega)) ?_
            exact push _ s hI hF hd1 (by omega)
      · refine ok_ite (fun c1 => ?_) (fun c1 => ?_)
        · have a2 : (x3 - 1).toInt = x3.toInt - (1 : Int32).toInt := ti_sub (by omega) (by omega)
          have a3 : ((x3 - 1) - 1).toInt = (x3 - 1).toInt - (1 : Int32).toInt := ti_sub (by omega) (by omega)
          have fin : ∀ (z : Int32) (s1 : RS), InvR s1 → FrR [42, 141] s0 s1 → Ok (r_termOf_158 (r_termOf_5L m) s1 x2 (x3 - 1) x4 z ((x3 - 1) - 1)) (Q_r_termOf s0) := by
            intro z s1 hI1 hF1
            unfold r_termOf_158
            refine ok_grd (vpb_ok (by omega) (by omega)) ?_
            refine ok_let (fun s2 hs2 => ?_)
            have hI2 : InvR s2 := by rw [← hs2]; exact hI1.sfF (k := 41) rfl rfl
            have hF2 : FrR [42, 141] s0 s2 := by rw [← hs2]; exact hF1.sf (k := 41) (by decide)
            unfold r_termOf_159
            exact ih n' (c + 1) (d - 1) s2 _ _ _ (by omega) hI2 hF2 hd1 (by omega) (by omega) (by omega) (by omega) (by omega)
          refine ok_grd (vpb_ok (by omega) (by omega)) ?_
          refine ok_grd (vpb_ok (by omega) (by omega)) ?_
          have op : ∀ (k a b : Int32), (2 ≤ k.toInt ∧ k.toInt ≤ 5) → (k.toInt = 5 → ¬ b = 0) → Ok (r_termOf_104 (r_termOf_5L m) s x2 (x3 - 1) x4 k a b) (Q_r_termOf s0) := by
            intro k a b hk hb
            unfold r_termOf_104
            refine ok_ite (fun _ => fin _ s hI hF) (fun q1 => ?_)
            refine ok_ite (fun _ => fin _ s hI hF) (fun q2 => ?_)
            refine ok_ite (fun _ => fin _ s hI hF) (fun q3 => ?_)
            have q1 := ti_ne q1
            have q2 := ti_ne q2
            have q3 := ti_ne q3
            have l3 : (3 : Int32).toInt = 3 := by decide
            have l4 : (4 : Int32).toInt = 4 := by decide
            exact ok_grd (hb (by omega)) (fin _ s hI hF)
          refine ok_ite (fun c2 => ?_) (fun c2 => ?_)
          · refine ok_ite (fun c3 => ?_) (fun c3 => ?_)
            · refine ok_let (fun s8 hs8 => ?_)
              exact ok_some ⟨by rw [← hs8]; exact hI.svF (k := 42) rfl rfl, by rw [← hs8]; exact hF.sv (k := 42) (by decide)⟩
            · exact op _ _ _ ⟨hk1, hk2⟩ (fun _ => c3)
          · have c2 := ti_ne c2
            exact op _ _ _ ⟨hk1, hk2⟩ (fun h => by omega)
        · have c1 := ti_nle c1
          omega
theorem ok_r_termOf {lo hi : Nat} (s : RS) (x1 x2 : Int32) (hI : InvR s) (hhi : hi ≤ 840) (hS : Seg lo hi (s.f 36) (s.f 37) x1 x2) : Ok (r_termOf s x1 x2) (Q_r_termOf s) := by
  obtain ⟨p, n, h1, h2, _, h3, h4, hd⟩ := hS
  unfold r_termOf
  have l0 : (0 : Int32).toInt = 0 := by decide
  exact ok_termOf_L s fu n p 0 s _ _ _ (by unfold fu; omega) hI FrR.rfl hd (by omega) (by omega) h1 h2 (by omega)
noncomputable abbrev Q_r_in (x0 : Int32) (x1 : Int32) (x2 : Int32) (y : Int32) : Prop := 0 ≤ y.toInt ∧ y.toInt ≤ 1 ∧ (¬ y.toInt = 0 → (x1).toInt ≤ (x0).toInt ∧ (x0).toInt ≤ (x2).toInt)
set_option maxHeartbeats 1000000 in
theorem ok_r_inB  (x0 : Int32) (x1 : Int32) (x2 : Int32) (h_x1l : 0 ≤ x1.toInt) (h_x1u : x1.toInt ≤ 1) (h_x2l : -1 ≤ x2.toInt) (h_x2u : x2.toInt ≤ 7775)  : Ok (r_in  x0 x1 x2) (Q_r_in x0 x1 x2) := by
  unfold r_in
  refine ok_ite (fun c_1 => ?_) (fun c_1 => ?_)
  · have c_1 := tn_lt (a := (x0).toInt) (b := (x1).toInt) rfl rfl c_1
    exact ok_some ⟨by show 0 ≤ (0 : Int32).toInt; decide, by show (0 : Int32).toInt ≤ 1; decide, by show (¬ (0 : Int32).toInt = 0 → (x1).toInt ≤ (x0).toInt ∧ (x0).toInt ≤ (x2).toInt); have l := (by decide : (0 : Int32).toInt = 0); omega⟩
  · have c_1 := tn_nlt (a := (x0).toInt) (b := (x1).toInt) rfl rfl c_1
    refine ok_ite (fun c_2 => ?_) (fun c_2 => ?_)
    · have c_2 := tn_lt (a := (x2).toInt) (b := (x0).toInt) rfl rfl c_2
      exact ok_some ⟨by show 0 ≤ (0 : Int32).toInt; decide, by show (0 : Int32).toInt ≤ 1; decide, by show (¬ (0 : Int32).toInt = 0 → (x1).toInt ≤ (x0).toInt ∧ (x0).toInt ≤ (x2).toInt); have l := (by decide : (0 : Int32).toInt = 0); omega⟩
    · have c_2 := tn_nlt (a := (x2).toInt) (b := (x0).toInt) rfl rfl c_2
      exact ok_some ⟨by show 0 ≤ (1 : Int32).toInt; decide, by show (1 : Int32).toInt ≤ 1; decide, by show (¬ (1 : Int32).toInt = 0 → (x1).toInt ≤ (x0).toInt ∧ (x0).toInt ≤ (x2).toInt); have l := (by decide : (1 : Int32).toInt = 1); omega⟩
theorem ok_r_in (x0 : Int32) (x1 : Int32) (x2 : Int32) (h_x1l : 0 ≤ x1.toInt) (h_x1u : x1.toInt ≤ 1) (h_x2l : -1 ≤ x2.toInt) (h_x2u : x2.toInt ≤ 7775) : Ok (r_in x0 x1 x2) (Q_r_in x0 x1 x2) := ok_r_inB x0 x1 x2 h_x1l h_x1u h_x2l h_x2u
noncomputable abbrev Q_r_within (y : Int32) : Prop := 0 ≤ y.toInt ∧ y.toInt ≤ 100
set_option maxHeartbeats 1000000 in
theorem ok_r_withinB  (x0 : Int32) (x1 : Int32) (x2 : Int32) (h_x1l : 0 ≤ x1.toInt) (h_x1u : x1.toInt ≤ 0) (h_x2l : 9 ≤ x2.toInt) (h_x2u : x2.toInt ≤ 100)  : Ok (r_within  x0 x1 x2) Q_r_within := by
  unfold r_within
  refine ok_ite (fun c_1 => ?_) (fun c_1 => ?_)
  · have c_1 := tn_le (a := (x1).toInt) (b := (x0).toInt) rfl rfl c_1
    refine ok_ite (fun c_2 => ?_) (fun c_2 => ?_)
    · have c_2 := tn_le (a := (x0).toInt) (b := (x2).toInt) rfl rfl c_2
      exact ok_some ⟨by show 0 ≤ (x0).toInt; omega, by show (x0).toInt ≤ 100; omega⟩
    · have c_2 := tn_nle (a := (x0).toInt) (b := (x2).toInt) rfl rfl c_2
      exact ok_some ⟨by show 0 ≤ (x2).toInt; omega, by show (x2).toInt ≤ 100; omega⟩
  · have c_1 := tn_nle (a := (x1).toInt) (b := (x0).toInt) rfl rfl c_1
    exact ok_some ⟨by show 0 ≤ (x1).toInt; omega, by show (x1).toInt ≤ 100; omega⟩
theorem ok_r_within (x0 : Int32) (x1 : Int32) (x2 : Int32) (h_x1l : 0 ≤ x1.toInt) (h_x1u : x1.toInt ≤ 0) (h_x2l : 9 ≤ x2.toInt) (h_x2u : x2.toInt ≤ 100) : Ok (r_within x0 x1 x2) Q_r_within := ok_r_withinB x0 x1 x2 h_x1l h_x1u h_x2l h_x2u
noncomputable abbrev Q_r_bits (y : Int32) : Prop := 0 ≤ y.toInt ∧ y.toInt ≤ 6
set_option maxHeartbeats 1000000 in
theorem ok_r_bits_4 (k4 : Int32 → Int32 → Int32 → Option (Int32)) (M4 : Nat) (hk4 : ∀ (x0 : Int32) (x1 : Int32) (x2 : Int32), 0 ≤ x1.toInt → x1.toInt ≤ 6 → 0 ≤ x2.toInt → x2.toInt ≤ 6 → (x1.toInt ≤ x2.toInt) → (6 - x2.toInt).toNat < M4 → Ok (k4 x0 x1 x2) Q_r_bits) (x0 : Int32) (x1 : Int32) (x2 : Int32) (h_x1l : 0 ≤ x1.toInt) (h_x1u : x1.toInt ≤ 6) (h_x2l : 0 ≤ x2.toInt) (h_x2u : x2.toInt ≤ 6) (hx0 : (x1.toInt ≤ x2.toInt)) (hM4 : (6 - x2.toInt).toNat ≤ M4) : Ok (r_bits_4 k4 x0 x1 x2) Q_r_bits := by
  unfold r_bits_4
  refine ok_ite (fun c_1 => ?_) (fun c_1 => ?_)
  · have c_1 := tn_le (a := 6) (b := (x2).toInt) (by decide) rfl c_1
    exact ok_some ⟨by show 0 ≤ (x1).toInt; omega, by show (x1).toInt ≤ 6; omega⟩
  · have c_1 := tn_nle (a := 6) (b := (x2).toInt) (by decide) rfl c_1
    have a_2 := ti_and1 ((x0 >>> (x2 &&& 31)))
    have a_3 : ((x1 + ((x0 >>> (x2 &&& 31)) &&& 1))).toInt = (x1).toInt + (((x0 >>> (x2 &&& 31)) &&& 1)).toInt := tn_add rfl rfl (by omega) (by omega)
    have a_4 : ((x2 + 1)).toInt = (x2).toInt + 1 := tn_add rfl (by decide) (by omega) (by omega)
    exact hk4 _ _ _ (by first | (clear hx0; omega) | omega) (by first | (clear hx0; omega) | omega) (by first | (clear hx0; omega) | omega) (by first | (clear hx0; omega) | omega) (by omega) (by first | (clear hx0; omega) | omega)
theorem okL_r_bits_4  : ∀ (n : Nat) (x0 : Int32) (x1 : Int32) (x2 : Int32), (6 - x2.toInt).toNat < n → 0 ≤ x1.toInt → x1.toInt ≤ 6 → 0 ≤ x2.toInt → x2.toInt ≤ 6 → (x1.toInt ≤ x2.toInt) → Ok (r_bits_4L  n x0 x1 x2) Q_r_bits := by
  intro n
  induction n with
  | zero => intro x0 x1 x2 hn; omega
  | succ n ih =>
    intro x0 x1 x2 hn h_x1l h_x1u h_x2l h_x2u hx0 
    exact ok_r_bits_4 (r_bits_4L  n) ((6 - x2.toInt).toNat) (fun zx0 zx1 zx2 g0 g1 g2 g3 g4  hm => ih zx0 zx1 zx2 (by omega) g0 g1 g2 g3 g4 ) x0 x1 x2 h_x1l h_x1u h_x2l h_x2u hx0 (Nat.le_refl _)
set_option maxHeartbeats 1000000 in
theorem ok_r_bitsB  (x0 : Int32)   : Ok (r_bits  x0) Q_r_bits := by
  unfold r_bits
  have l_0 : (0 : Int32).toInt = 0 := by decide
  exact okL_r_bits_4  fu _ _ _ (by unfold fu; omega) (by decide) (by decide) (by decide) (by decide) (by omega) 
theorem ok_r_bits (x0 : Int32)  : Ok (r_bits x0) Q_r_bits := ok_r_bitsB x0 
noncomputable abbrev Q_r_isWave (s0 : RS) (x1 : Int32) (y : Int32 × RS) : Prop := InvR y.2 ∧ FrR [] s0 y.2 ∧ 0 ≤ y.1.toInt ∧ y.1.toInt ≤ 1 ∧ (¬ y.1.toInt = 0 → 0 ≤ (x1).toInt ∧ (x1).toInt < wv s0 ∧ wv s0 ≤ 5)
set_option maxHeartbeats 1000000 in
theorem ok_r_isWaveB (s0 : RS)  (s : RS) (x1 : Int32) (hI_s : InvR s) (hF_s : FrR [] s0 s)  : Ok (r_isWave  s x1) (Q_r_isWave s0 x1) := by
  unfold r_isWave
  have a_1 : 0 ≤ (s.v 18).toInt ∧ (s.v 18).toInt ≤ 1 := hI_s.1 18
  refine ok_grd (vpb_ok (by omega) (by omega)) ?_
  have a_2 : ((s.f 20 (Int32.toNatClampNeg (s.v 18)))).toInt = wv s0 := wv_fr hF_s (by decide) (by decide)
  have a_3 : 0 ≤ ((s.f 20 (Int32.toNatClampNeg (s.v 18)))).toInt ∧ ((s.f 20 (Int32.toNatClampNeg (s.v 18)))).toInt ≤ 5 := hI_s.2 20 _
  have a_4 : (((s.f 20 (Int32.toNatClampNeg (s.v 18))) - 1)).toInt = ((s.f 20 (Int32.toNatClampNeg (s.v 18)))).toInt - 1 := tn_sub rfl (by decide) (by omega) (by omega)
  refine ok_bindP (ok_r_in _ _ _ (by decide) (by decide) (by omega) (by omega)) (fun r2 hc_5 => ?_)
  have l_0 : (0 : Int32).toInt = 0 := by decide
  have hl_r2 : 0 ≤ r2.toInt := hc_5.1
  have hu_r2 : r2.toInt ≤ 1 := hc_5.2.1
  have hx0_r2 : (¬ r2.toInt = 0 → (0 : Int32).toInt ≤ (x1).toInt ∧ (x1).toInt ≤ (((s.f 20 (Int32.toNatClampNeg (s.v 18))) - 1)).toInt) := hc_5.2.2
  refine ok_grd (ti_z01 (by omega) (by omega)) ?_
  exact ok_some ⟨hI_s, hF_s, by show 0 ≤ (r2).toInt; omega, by show (r2).toInt ≤ 1; omega, by show (¬ (r2).toInt = 0 → 0 ≤ (x1).toInt ∧ (x1).toInt < wv s0 ∧ wv s0 ≤ 5); omega⟩
theorem ok_r_isWave (s : RS) (x1 : Int32) (hI_s : InvR s) : Ok (r_isWave s x1) (Q_r_isWave s x1) := ok_r_isWaveB s s x1 hI_s FrR.rfl
noncomputable abbrev Q_r_isParty (s0 : RS) (x1 : Int32) (y : Int32 × RS) : Prop := InvR y.2 ∧ FrR [] s0 y.2 ∧ 0 ≤ y.1.toInt ∧ y.1.toInt ≤ 1 ∧ (¬ y.1.toInt = 0 → 0 ≤ (x1).toInt ∧ (x1).toInt ≤ 5)
set_option maxHeartbeats 1000000 in
theorem ok_r_isPartyB (s0 : RS)  (s : RS) (x1 : Int32) (hI_s : InvR s) (hF_s : FrR [] s0 s)  : Ok (r_isParty  s x1) (Q_r_isParty s0 x1) := by
  unfold r_isParty
  have a_1 : 0 ≤ (s.v 18).toInt ∧ (s.v 18).toInt ≤ 1 := hI_s.1 18
  refine ok_grd (vpb_ok (by omega) (by omega)) ?_
  have a_2 : 0 ≤ ((s.f 23 (Int32.toNatClampNeg (s.v 18)))).toInt ∧ ((s.f 23 (Int32.toNatClampNeg (s.v 18)))).toInt ≤ 6 := hI_s.2 23 _
  have a_3 : (((s.f 23 (Int32.toNatClampNeg (s.v 18))) - 1)).toInt = ((s.f 23 (Int32.toNatClampNeg (s.v 18)))).toInt - 1 := tn_sub rfl (by decide) (by omega) (by omega)
  refine ok_bindP (ok_r_in _ _ _ (by decide) (by decide) (by omega) (by omega)) (fun r2 hc_4 => ?_)
  have l_0 : (0 : Int32).toInt = 0 := by decide
  have hl_r2 : 0 ≤ r2.toInt := hc_4.1
  have hu_r2 : r2.toInt ≤ 1 := hc_4.2.1
  have hx0_r2 : (¬ r2.toInt = 0 → (0 : Int32).toInt ≤ (x1).toInt ∧ (x1).toInt ≤ (((s.f 23 (Int32.toNatClampNeg (s.v 18))) - 1)).toInt) := hc_4.2.2
  refine ok_grd (ti_z01 (by omega) (by omega)) ?_
  exact ok_some ⟨hI_s, hF_s, by show 0 ≤ (r2).toInt; omega, by show (r2).toInt ≤ 1; omega, by show (¬ (r2).toInt = 0 → 0 ≤ (x1).toInt ∧ (x1).toInt ≤ 5); omega⟩
theorem ok_r_isParty (s : RS) (x1 : Int32) (hI_s : InvR s) : Ok (r_isParty s x1) (Q_r_isParty s x1) := ok_r_isPartyB s s x1 hI_s FrR.rfl
noncomputable abbrev Q_r_guesses (s0 : RS) (y : Int32 × RS) : Prop := InvR y.2 ∧ FrR [] s0 y.2 ∧ 1 ≤ y.1.toInt ∧ y.1.toInt ≤ 7776
set_option maxHeartbeats 1000000 in
theorem ok_r_guessesB (s0 : RS) (hB : Big s0)  (s : RS) (hI_s : InvR s) (hF_s : FrR [] s0 s)  : Ok (r_guesses  s) (Q_r_guesses s0) := by
  unfold r_guesses
  have a_1 : 0 ≤ (s.v 18).toInt ∧ (s.v 18).toInt ≤ 1 := hI_s.1 18
  refine ok_grd (vpb_ok (by omega) (by omega)) ?_
  have a_2 : ((s.f 20 (Int32.toNatClampNeg (s.v 18)))).toInt = wv s0 := wv_fr hF_s (by decide) (by decide)
  have a_3 : 0 ≤ ((s.f 20 (Int32.toNatClampNeg (s.v 18)))).toInt ∧ ((s.f 20 (Int32.toNatClampNeg (s.v 18)))).toInt ≤ 5 := hI_s.2 20 _
  refine ok_grd (vpb_ok (by omega) (by omega)) ?_
  have a_4 : 1 ≤ ((s.f 46 (Int32.toNatClampNeg (s.f 20 (Int32.toNatClampNeg (s.v 18)))))).toInt ∧ ((s.f 46 (Int32.toNatClampNeg (s.f 20 (Int32.toNatClampNeg (s.v 18)))))).toInt ≤ 7776 := hB.six hF_s (by decide) (by omega) (by omega)
  exact ok_some ⟨hI_s, hF_s, by show 1 ≤ ((s.f 46 (Int32.toNatClampNeg (s.f 20 (Int32.toNatClampNeg (s.v 18)))))).toInt; omega, by show ((s.f 46 (Int32.toNatClampNeg (s.f 20 (Int32.toNatClampNeg (s.v 18)))))).toInt ≤ 7776; omega⟩
theorem ok_r_guesses (s : RS) (hI_s : InvR s) (hB : Big s) : Ok (r_guesses s) (Q_r_guesses s) := ok_r_guessesB s hB s hI_s FrR.rfl
noncomputable abbrev Q_r_isGuess (s0 : RS) (x1 : Int32) (y : Int32 × RS) : Prop := InvR y.2 ∧ FrR [] s0 y.2 ∧ 0 ≤ y.1.toInt ∧ y.1.toInt ≤ 1 ∧ (¬ y.1.toInt = 0 → 0 ≤ (x1).toInt ∧ (x1).toInt ≤ 7775)
set_option maxHeartbeats 1000000 in
theorem ok_r_isGuessB (s0 : RS) (hB : Big s0)  (s : RS) (x1 : Int32) (hI_s : InvR s) (hF_s : FrR [] s0 s)  : Ok (r_isGuess  s x1) (Q_r_isGuess s0 x1) := by
  unfold r_isGuess
  refine ok_bindI (ok_r_guesses _  hI_s (hB.fr hF_s (by decide))) (fun r2 s1 hc_1 => ?_)
  have hI_s1 : InvR s1 := hc_1.1
  have hFc_s1 : FrR [] s s1 := hc_1.2.1
  have hF_s1 : FrR [] s0 s1 := hF_s.trans hFc_s1 (by decide)
  have hl_r2 : 1 ≤ r2.toInt := hc_1.2.2.1
  have hu_r2 : r2.toInt ≤ 7776 := hc_1.2.2.2
  have a_2 : ((r2 - 1)).toInt = (r2).toInt - 1 := tn_sub rfl (by decide) (by omega) (by omega)
  refine ok_bindP (ok_r_in _ _ _ (by decide) (by decide) (by omega) (by omega)) (fun r3 hc_3 => ?_)
  have l_0 : (0 : Int32).toInt = 0 := by decide
  have hl_r3 : 0 ≤ r3.toInt := hc_3.1
  have hu_r3 : r3.toInt ≤ 1 := hc_3.2.1
  have hx0_r3 : (¬ r3.toInt = 0 → (0 : Int32).toInt ≤ (x1).toInt ∧ (x1).toInt ≤ ((r2 - 1)).toInt) := hc_3.2.2
  refine ok_grd (ti_z01 (by omega) (by omega)) ?_
  exact ok_some ⟨hI_s1, hF_s1, by show 0 ≤ (r3).toInt; omega, by show (r3).toInt ≤ 1; omega, by show (¬ (r3).toInt = 0 → 0 ≤ (x1).toInt ∧ (x1).toInt ≤ 7775); omega⟩
theorem ok_r_isGuess (s : RS) (x1 : Int32) (hI_s : InvR s) (hB : Big s) : Ok (r_isGuess s x1) (Q_r_isGuess s x1) := ok_r_isGuessB s hB s x1 hI_s FrR.rfl
noncomputable abbrev Q_r_isThing (x0 : Int32) (y : Int32) : Prop := 0 ≤ y.toInt ∧ y.toInt ≤ 1 ∧ (¬ y.toInt = 0 → 0 ≤ (x0).toInt ∧ (x0).toInt ≤ 5)
set_option maxHeartbeats 1000000 in
theorem ok_r_isThingB  (x0 : Int32)   : Ok (r_isThing  x0) (Q_r_isThing x0) := by
  unfold r_isThing
  refine ok_bindP (ok_r_in _ _ _ (by decide) (by decide) (by decide) (by decide)) (fun r1 hc_1 => ?_)
  have l_0 : (0 : Int32).toInt = 0 := by decide
  have l_5 : (5 : Int32).toInt = 5 := by decide
  have hl_r1 : 0 ≤ r1.toInt := hc_1.1
  have hu_r1 : r1.toInt ≤ 1 := hc_1.2.1
  have hx0_r1 : (¬ r1.toInt = 0 → (0 : Int32).toInt ≤ (x0).toInt ∧ (x0).toInt ≤ (5 : Int32).toInt) := hc_1.2.2
  refine ok_grd (ti_z01 (by omega) (by omega)) ?_
  exact ok_some ⟨by show 0 ≤ (r1).toInt; omega, by show (r1).toInt ≤ 1; omega, by show (¬ (r1).toInt = 0 → 0 ≤ (x0).toInt ∧ (x0).toInt ≤ 5); omega⟩
theorem ok_r_isThing (x0 : Int32)  : Ok (r_isThing x0) (Q_r_isThing x0) := ok_r_isThingB x0 
noncomputable abbrev Q_r_thingAt (s0 : RS) (y : Int32 × RS) : Prop := InvR y.2 ∧ FrR [] s0 y.2 ∧ 0 ≤ y.1.toInt ∧ y.1.toInt ≤ 5
set_option maxHeartbeats 1000000 in
theorem ok_r_thingAtB (s0 : RS) (hB : Big s0)  (s : RS) (x1 : Int32) (x2 : Int32) (hI_s : InvR s) (hF_s : FrR [] s0 s) (h_x1l : 0 ≤ x1.toInt) (h_x1u : x1.toInt ≤ 194400) (h_x2l : 0 ≤ x2.toInt) (h_x2u : x2.toInt ≤ 4)  : Ok (r_thingAt  s x1 x2) (Q_r_thingAt s0) := by
  unfold r_thingAt
  refine ok_grd (vpb_ok (by omega) (by omega)) ?_
  have a_1 : 1 ≤ ((s.f 46 (Int32.toNatClampNeg x2))).toInt ∧ ((s.f 46 (Int32.toNatClampNeg x2))).toInt ≤ 7776 := hB.six hF_s (by decide) (by omega) (by omega)
  refine ok_grd (fun h => by have := tn_eq rfl (b := 0) (by decide) h; omega) ?_
  have a_2 : 0 ≤ ((x1 / (s.f 46 (Int32.toNatClampNeg x2)))).toInt ∧ ((x1 / (s.f 46 (Int32.toNatClampNeg x2)))).toInt ≤ (x1).toInt := ti_divb (by omega) (by omega)
  have a_3 : (((x1 / (s.f 46 (Int32.toNatClampNeg x2))) - (x1 / (s.f 46 (Int32.toNatClampNeg x2))) / 6 * 6)).toInt = ((x1 / (s.f 46 (Int32.toNatClampNeg x2)))).toInt % 6 := ti_remc (c := 6) (by decide) (by omega) (by decide)
  exact ok_some ⟨hI_s, hF_s, by show 0 ≤ (((x1 / (s.f 46 (Int32.toNatClampNeg x2))) - (x1 / (s.f 46 (Int32.toNatClampNeg x2))) / 6 * 6)).toInt; omega, by show (((x1 / (s.f 46 (Int32.toNatClampNeg x2))) - (x1 / (s.f 46 (Int32.toNatClampNeg x2))) / 6 * 6)).toInt ≤ 5; omega⟩
theorem ok_r_thingAt (s : RS) (x1 : Int32) (x2 : Int32) (hI_s : InvR s) (hB : Big s) (h_x1l : 0 ≤ x1.toInt) (h_x1u : x1.toInt ≤ 194400) (h_x2l : 0 ≤ x2.toInt) (h_x2u : x2.toInt ≤ 4) : Ok (r_thingAt s x1 x2) (Q_r_thingAt s) := ok_r_thingAtB s hB s x1 x2 hI_s FrR.rfl h_x1l h_x1u h_x2l h_x2u
noncomputable abbrev Q_r_copies (s0 : RS) (y : RS) : Prop := InvR y ∧ FrR [45, 144] s0 y
set_option maxHeartbeats 1000000 in
theorem ok_r_copies_2 (s0 : RS) (k2 : RS → Int32 → Option (RS)) (M2 : Nat) (hk2 : ∀ (s : RS) (x1 : Int32), InvR s → FrR [45, 144] s0 s → 0 ≤ x1.toInt → x1.toInt ≤ 29 → (29 - x1.toInt).toNat < M2 → Ok (k2 s x1) (Q_r_copies s0)) (s : RS) (x1 : Int32) (hI_s : InvR s) (hF_s : FrR [45, 144] s0 s) (h_x1l : 0 ≤ x1.toInt) (h_x1u : x1.toInt ≤ 29) (hM2 : (29 - x1.toInt).toNat ≤ M2) : Ok (r_copies_2 k2 s x1) (Q_r_copies s0) := by
  unfold r_copies_2
  refine ok_ite (fun c_1 => ?_) (fun c_1 => ?_)
  · have c_1 := tn_le (a := 29) (b := (x1).toInt) (by decide) rfl c_1
    have a_2 : 0 ≤ (s.v 18).toInt ∧ (s.v 18).toInt ≤ 1 := hI_s.1 18
    refine ok_grd (vpb_ok (by omega) (by omega)) ?_
    refine ok_let (fun s3 hs3 => ?_)
    have hI_s3 : InvR s3 := by rw [← hs3]; exact hI_s.svF (k := 45) rfl rfl
    have hF_s3 : FrR [45, 144] s0 s3 := by rw [← hs3]; exact hF_s.sv (k := 45) (by decide)
    exact ok_some ⟨hI_s3, hF_s3⟩
  · have c_1 := tn_nle (a := 29) (b := (x1).toInt) (by decide) rfl c_1
    refine ok_grd (vpb_ok (by omega) (by omega)) ?_
    refine ok_grd (vpb_ok (by omega) (by omega)) ?_
    refine ok_let (fun s7 hs7 => ?_)
    have hI_s7 : InvR s7 := by rw [← hs7]; exact hI_s.sfF (k := 44) rfl rfl
    have hF_s7 : FrR [45, 144] s0 s7 := by rw [← hs7]; exact hF_s.sf (k := 44) (by decide)
    have a_3 : ((x1 + 1)).toInt = (x1).toInt + 1 := tn_add rfl (by decide) (by omega) (by omega)
    exact hk2 _ _ hI_s7 hF_s7 (by omega) (by omega) (by omega)
theorem okL_r_copies_2 (s0 : RS)  : ∀ (n : Nat) (s : RS) (x1 : Int32), (29 - x1.toInt).toNat < n → InvR s → FrR [45, 144] s0 s → 0 ≤ x1.toInt → x1.toInt ≤ 29 → Ok (r_copies_2L  n s x1) (Q_r_copies s0) := by
  intro n
  induction n with
  | zero => intro s x1 hn; omega
  | succ n ih =>
    intro s x1 hn hI_s hF_s h_x1l h_x1u 
    exact ok_r_copies_2 s0 (r_copies_2L  n) ((29 - x1.toInt).toNat) (fun zs zx1 g0 g1 g2 g3  hm => ih zs zx1 (by omega) g0 g1 g2 g3 ) s x1 hI_s hF_s h_x1l h_x1u (Nat.le_refl _)
set_option maxHeartbeats 1000000 in
theorem ok_r_copiesB (s0 : RS)  (s : RS) (hI_s : InvR s) (hF_s : FrR [45, 144] s0 s)  : Ok (r_copies  s) (Q_r_copies s0) := by
  unfold r_copies
  have l_0 : (0 : Int32).toInt = 0 := by decide
  exact okL_r_copies_2 s0  fu _ _ (by unfold fu; omega) hI_s hF_s (by decide) (by decide) 
theorem ok_r_copies (s : RS) (hI_s : InvR s) : Ok (r_copies s) (Q_r_copies s) := ok_r_copiesB s s hI_s FrR.rfl
noncomputable abbrev Q_r_mixed (y : Int32) : Prop := -2147483648 ≤ y.toInt ∧ y.toInt ≤ 2147483647
set_option maxHeartbeats 1000000 in
theorem ok_r_mixedB  (x0 : Int32) (x1 : Int32)   : Ok (r_mixed  x0 x1) Q_r_mixed := by
  unfold r_mixed
  exact ok_some ⟨(ti_rng _).1, (ti_rng _).2⟩
theorem ok_r_mixed (x0 : Int32) (x1 : Int32)  : Ok (r_mixed x0 x1) Q_r_mixed := ok_r_mixedB x0 x1 
noncomputable abbrev Q_r_lotOf (s0 : RS) (y : Int32 × RS) : Prop := InvR y.2 ∧ FrR [] s0 y.2 ∧ -2147483648 ≤ y.1.toInt ∧ y.1.toInt ≤ 2147483647
set_option maxHeartbeats 1000000 in
theorem ok_r_lotOfB (s0 : RS)  (s : RS) (x1 : Int32) (x2 : Int32) (hI_s : InvR s) (hF_s : FrR [] s0 s) (h_x2l : 1 ≤ x2.toInt) (h_x2u : x2.toInt ≤ 100)  : Ok (r_lotOf  s x1 x2) (Q_r_lotOf s0) := by
  unfold r_lotOf
  refine ok_bindP (ok_r_mixed _ _ ) (fun r1 hc_1 => ?_)
  refine ok_bindP (ok_r_mixed _ _ ) (fun r2 hc_2 => ?_)
  refine ok_grd (fun h => by have := tn_eq rfl (b := 0) (by decide) h; omega) ?_
  exact ok_some ⟨hI_s, hF_s, (ti_rng _).1, (ti_rng _).2⟩
theorem ok_r_lotOf (s : RS) (x1 : Int32) (x2 : Int32) (hI_s : InvR s) (h_x2l : 1 ≤ x2.toInt) (h_x2u : x2.toInt ≤ 100) : Ok (r_lotOf s x1 x2) (Q_r_lotOf s) := ok_r_lotOfB s s x1 x2 hI_s FrR.rfl h_x2l h_x2u
theorem lotOf_rng (s : RS) (x1 x2 : Int32) (hI : InvR s) (h : 0 < x2.toInt) : Ok (r_lotOf s x1 x2) (fun y => InvR y.2 ∧ FrR [] s y.2 ∧ 0 ≤ y.1.toInt ∧ y.1.toInt < x2.toInt) := by
  unfold r_lotOf
  refine ok_bindP (ok_r_mixed _ _) (fun r1 _ => ?_)
  refine ok_bindP (ok_r_mixed _ _) (fun r2 _ => ?_)
  have l0 : (0 : Int32).toInt = 0 := by decide
  refine ok_grd (fun e => by have := ti_eq e; omega) ?_
  have hb := ti_remb (x := ushr r2 1) (y := x2) (ti_ushr1 r2) h
  exact ok_some ⟨hI, FrR.rfl, hb.1, hb.2⟩
noncomputable abbrev Q_r_oddsAt (s0 : RS) (y : Int32 × RS) : Prop := InvR y.2 ∧ FrR [] s0 y.2 ∧ -2147483648 ≤ y.1.toInt ∧ y.1.toInt ≤ 2147483647
set_option maxHeartbeats 1000000 in
theorem ok_r_oddsAtB (s0 : RS)  (s : RS) (x1 : Int32) (x2 : Int32) (hI_s : InvR s) (hF_s : FrR [] s0 s) (h_x1l : 0 ≤ x1.toInt) (h_x1u : x1.toInt ≤ 4) (h_x2l : 0 ≤ x2.toInt) (h_x2u : x2.toInt ≤ 5)  : Ok (r_oddsAt  s x1 x2) (Q_r_oddsAt s0) := by
  unfold r_oddsAt
  have a_1 : 0 ≤ (s.v 18).toInt ∧ (s.v 18).toInt ≤ 1 := hI_s.1 18
  have a_2 : ((30 * (s.v 18))).toInt = ((s.v 18)).toInt * 30 := ti_cmul (c := 30) (by decide) (by omega) (by omega)
  have a_3 : ((6 * x1)).toInt = (x1).toInt * 6 := ti_cmul (c := 6) (by decide) (by omega) (by omega)
  have a_4 : (((30 * (s.v 18)) + (6 * x1))).toInt = ((30 * (s.v 18))).toInt + ((6 * x1)).toInt := tn_add rfl rfl (by omega) (by omega)
  have a_5 : ((((30 * (s.v 18)) + (6 * x1)) + x2)).toInt = (((30 * (s.v 18)) + (6 * x1))).toInt + (x2).toInt := tn_add rfl rfl (by omega) (by omega)
  refine ok_grd (vpb_ok (by omega) (by omega)) ?_
  exact ok_some ⟨hI_s, hF_s, (ti_rng _).1, (ti_rng _).2⟩
theorem ok_r_oddsAt (s : RS) (x1 : Int32) (x2 : Int32) (hI_s : InvR s) (h_x1l : 0 ≤ x1.toInt) (h_x1u : x1.toInt ≤ 4) (h_x2l : 0 ≤ x2.toInt) (h_x2u : x2.toInt ≤ 5) : Ok (r_oddsAt s x1 x2) (Q_r_oddsAt s) := ok_r_oddsAtB s s x1 x2 hI_s FrR.rfl h_x1l h_x1u h_x2l h_x2u
noncomputable abbrev Q_r_thereAt (s0 : RS) (y : Int32 × RS) : Prop := InvR y.2 ∧ FrR [] s0 y.2 ∧ 0 ≤ y.1.toInt ∧ y.1.toInt ≤ 5
theorem oddsAt_eq {s : RS} {x1 x2 : Int32} {w v : Nat} (hI : InvR s) (h1 : x1.toInt = (w : Int)) (h2 : x2.toInt = (v : Int)) (hw : w < 5) (hv : v < 6) : r_oddsAt s x1 x2 = some (s.f 21 (30 * (s.v 18).toNatClampNeg + 6 * w + v), s) := by
  have hl : 0 ≤ (s.v 18).toInt ∧ (s.v 18).toInt ≤ 1 := hI.1 18
  have el : (s.v 18).toInt.toNat = (s.v 18).toNatClampNeg := Int32.toNat_toInt _
  have l30 : (30 : Int32).toInt = 30 := by decide
  have l6 : (6 : Int32).toInt = 6 := by decide
  have a1 : ((30 * (s.v 18))).toInt = (s.v 18).toInt * 30 := ti_cmul (c := 30) l30 (by omega) (by omega)
  have a2 : ((6 * x1)).toInt = x1.toInt * 6 := ti_cmul (c := 6) l6 (by omega) (by omega)
  have a3 : ((30 * (s.v 18)) + (6 * x1)).toInt = (30 * (s.v 18)).toInt + (6 * x1).toInt := ti_add (by omega) (by omega)
  have a4 : (((30 * (s.v 18)) + (6 * x1)) + x2).toInt = ((30 * (s.v 18)) + (6 * x1)).toInt + x2.toInt := ti_add (by omega) (by omega)
  unfold r_oddsAt
  rw [if_pos (vpb_ok (by omega) (by omega)), clamp_of_int (n := 30 * (s.v 18).toNatClampNeg + 6 * w + v) (by omega)]
theorem ok_thereAt_55 {s : RS} {x1 x3 : Int32} {w : Nat} (hI : InvR s) (h1 : x1.toInt = (w : Int)) (hw : w < 5) (hO : ∀ v : Nat, v < 6 → 0 ≤ (s.f 21 (30 * (s.v 18).toNatClampNeg + 6 * w + v)).toInt ∧ (s.f 21 (30 * (s.v 18).toNatClampNeg + 6 * w + v)).toInt ≤ 9) (hx : x3.toInt < psum (s.f 21) (30 * (s.v 18).toNatClampNeg + 6 * w) 6) :
    ∀ (n v : Nat) (x2 x4 : Int32), 5 - v < n → v ≤ 5 → x4.toInt = (v : Int) → 0 ≤ x2.toInt → x2.toInt ≤ 9 * (v + 1) → x2.toInt = psum (s.f 21) (30 * (s.v 18).toNatClampNeg + 6 * w) (v + 1) → Ok (r_thereAt_55L n s x1 x2 x3 x4) (Q_r_thereAt s) := by
  intro n
  induction n with
  | zero => intro v x2 x4 h; omega
  | succ n ih =>
    intro v x2 x4 hn hv h4 h20 h29 h2
    show Ok (r_thereAt_55 (r_thereAt_55L n) s x1 x2 x3 x4) _
    unfold r_thereAt_55
    refine ok_ite (fun c => ?_) (fun c => ?_)
    · exact ok_some ⟨hI, FrR.rfl, by show 0 ≤ x4.toInt; omega, by show x4.toInt ≤ 5; omega⟩
    · have c := ti_nlt c
      have hv5 : v < 5 := by
        rcases Nat.lt_or_ge v 5 with h | h
        · exact h
        · obtain rfl : v = 5 := by omega
          have e6 : psum (s.f 21) (30 * (s.v 18).toNatClampNeg + 6 * w) (5 + 1) = psum (s.f 21) (30 * (s.v 18).toNatClampNeg + 6 * w) 6 := rfl
          omega
      have l1 : (1 : Int32).toInt = 1 := by decide
      have a1 : (x4 + 1).toInt = x4.toInt + (1 : Int32).toInt := ti_add (by omega) (by omega)
      rw [oddsAt_eq (v := v + 1) hI h1 (by omega) hw (by omega)]
      have ho := hO (v + 1) (by omega)
      show Ok (r_thereAt_55L n s x1 (x2 + _) x3 (x4 + 1)) _
      have a2 := ti_add (x := x2) (y := s.f 21 (30 * (s.v 18).toNatClampNeg + 6 * w + (v + 1))) (by omega) (by omega)
      have ps : psum (s.f 21) (30 * (s.v 18).toNatClampNeg + 6 * w) (v + 1 + 1) = psum (s.f 21) (30 * (s.v 18).toNatClampNeg + 6 * w) (v + 1) + (s.f 21 (30 * (s.v 18).toNatClampNeg + 6 * w + (v + 1))).toInt := rfl
      exact ih (v + 1) _ _ (by omega) (by omega) (by omega) (by omega) (by omega) (by omega)
theorem ok_thereAt_4 {s : RS} {x1 : Int32} {w : Nat} (hI : InvR s) (h1 : x1.toInt = (w : Int)) (hw : w < 5) (hO : ∀ v : Nat, v < 6 → 0 ≤ (s.f 21 (30 * (s.v 18).toNatClampNeg + 6 * w + v)).toInt ∧ (s.f 21 (30 * (s.v 18).toNatClampNeg + 6 * w + v)).toInt ≤ 9) (hp : 0 < psum (s.f 21) (30 * (s.v 18).toNatClampNeg + 6 * w) 6) :
    ∀ (n v : Nat) (x2 x3 : Int32), 6 - v < n → v ≤ 6 → x3.toInt = (v : Int) → 0 ≤ x2.toInt → x2.toInt ≤ 9 * v → x2.toInt = psum (s.f 21) (30 * (s.v 18).toNatClampNeg + 6 * w) v → Ok (r_thereAt_4L n s x1 x2 x3) (Q_r_thereAt s) := by
  intro n
  induction n with
  | zero => intro v x2 x3 h; omega
  | succ n ih =>
    intro v x2 x3 hn hv h3 h20 h29 h2
    show Ok (r_thereAt_4 (r_thereAt_4L n) s x1 x2 x3) _
    unfold r_thereAt_4
    have l6 : (6 : Int32).toInt = 6 := by decide
    have l1 : (1 : Int32).toInt = 1 := by decide
    have l0 : (0 : Int32).toInt = 0 := by decide
    have l10 : (10 : Int32).toInt = 10 := by decide
    refine ok_ite (fun c => ?_) (fun c => ?_)
    · have c := ti_le c
      obtain rfl : v = 6 := by omega
      have a1 : (10 + x1).toInt = (10 : Int32).toInt + x1.toInt := ti_add (by omega) (by omega)
      refine ok_grd (vpb_ok (by omega) (by omega)) ?_
      obtain ⟨⟨lot, s3⟩, e1, hI3, hF3, hl0, hl1⟩ := lotOf_rng s ((8 * (s.f 44 (Int32.toNatClampNeg (10 + x1)))) + x1) x2 hI (by omega)
      rw [e1]
      obtain rfl : s = s3 := (FrR.eq hF3).symm
      show Ok (bindI (r_oddsAt s x1 0) _) _
      rw [oddsAt_eq (v := 0) hI h1 (by omega) hw (by omega)]
      have ho := hO 0 (by omega)
      have ps : psum (s.f 21) (30 * (s.v 18).toNatClampNeg + 6 * w) (0 + 1) = 0 + (s.f 21 (30 * (s.v 18).toNatClampNeg + 6 * w + 0)).toInt := rfl
      exact ok_thereAt_55 hI h1 hw hO (by show lot.toInt < _; have : lot.toInt < x2.toInt := hl1; omega) fu 0 _ _ (by unfold fu; omega) (by omega) (by omega) (by omega) (by omega) (by omega)
    · have c := ti_nle c
      have a1 : (x3 + 1).toInt = x3.toInt + (1 : Int32).toInt := ti_add (by omega) (by omega)
      rw [oddsAt_eq (v := v) hI h1 (by omega) hw (by omega)]
      have ho := hO v (by omega)
      show Ok (r_thereAt_4L n s x1 (x2 + _) (x3 + 1)) _
      have a2 := ti_add (x := x2) (y := s.f 21 (30 * (s.v 18).toNatClampNeg + 6 * w + v)) (by omega) (by omega)
      have ps : psum (s.f 21) (30 * (s.v 18).toNatClampNeg + 6 * w) (v + 1) = psum (s.f 21) (30 * (s.v 18).toNatClampNeg + 6 * w) v + (s.f 21 (30 * (s.v 18).toNatClampNeg + 6 * w + v)).toInt := rfl
      exact ih (v + 1) _ _ (by omega) (by omega) (by omega) (by omega) (by omega) (by omega)
theorem ok_r_thereAt (s : RS) (x1 : Int32) (hI : InvR s) (hB : Big s) (h0 : 0 ≤ x1.toInt) (h4 : x1.toInt ≤ 4) (hw : x1.toInt < wv s) : Ok (r_thereAt s x1) (Q_r_thereAt s) := by
  have hO := hB.2.1 x1.toInt.toNat (by unfold wv at hw; omega)
  unfold r_thereAt
  have l0 : (0 : Int32).toInt = 0 := by decide
  exact ok_thereAt_4 (w := x1.toInt.toNat) hI (by omega) (by omega) hO.1 hO.2 fu 0 0 0 (by unfold fu; omega) (by omega) (by omega) (by omega) (by omega) (by rw [l0]; rfl)
noncomputable abbrev Q_r_thereNumber (s0 : RS) (y : Int32 × RS) : Prop := InvR y.2 ∧ FrR [] s0 y.2 ∧ 0 ≤ y.1.toInt ∧ y.1.toInt ≤ 194400
set_option maxHeartbeats 1000000 in
theorem ok_r_thereNumber_4 (s0 : RS) (hB : Big s0) (k4 : RS → Int32 → Int32 → Option (Int32 × RS)) (M4 : Nat) (hk4 : ∀ (s : RS) (x1 : Int32) (x2 : Int32), InvR s → FrR [] s0 s → 0 ≤ x1.toInt → x1.toInt ≤ 194400 → 0 ≤ x2.toInt → x2.toInt ≤ 5 → (x1.toInt ≤ 38880 * x2.toInt) → (5 - x2.toInt).toNat < M4 → Ok (k4 s x1 x2) (Q_r_thereNumber s0)) (s : RS) (x1 : Int32) (x2 : Int32) (hI_s : InvR s) (hF_s : FrR [] s0 s) (h_x1l : 0 ≤ x1.toInt) (h_x1u : x1.toInt ≤ 194400) (h_x2l : 0 ≤ x2.toInt) (h_x2u : x2.toInt ≤ 5) (hx0 : (x1.toInt ≤ 38880 * x2.toInt)) (hM4 : (5 - x2.toInt).toNat ≤ M4) : Ok (r_thereNumber_4 k4 s x1 x2) (Q_r_thereNumber s0) := by
  unfold r_thereNumber_4
  have a_1 : 0 ≤ (s.v 18).toInt ∧ (s.v 18).toInt ≤ 1 := hI_s.1 18
  refine ok_grd (vpb_ok (by omega) (by omega)) ?_
  have a_2 : ((s.f 20 (Int32.toNatClampNeg (s.v 18)))).toInt = wv s0 := wv_fr hF_s (by decide) (by decide)
  have a_3 : 0 ≤ ((s.f 20 (Int32.toNatClampNeg (s.v 18)))).toInt ∧ ((s.f 20 (Int32.toNatClampNeg (s.v 18)))).toInt ≤ 5 := hI_s.2 20 _
  refine ok_ite (fun c_4 => ?_) (fun c_4 => ?_)
  · have c_4 := tn_le (a := ((s.f 20 (Int32.toNatClampNeg (s.v 18)))).toInt) (b := (x2).toInt) rfl rfl c_4
    exact ok_some ⟨hI_s, hF_s, by show 0 ≤ (x1).toInt; omega, by show (x1).toInt ≤ 194400; omega⟩
  · have c_4 := tn_nle (a := ((s.f 20 (Int32.toNatClampNeg (s.v 18)))).toInt) (b := (x2).toInt) rfl rfl c_4
    refine ok_grd (vpb_ok (by omega) (by omega)) ?_
    have a_6 : wv s = wv s0 := wv_fr hF_s (by decide) (by decide)
    refine ok_bindI (ok_r_thereAt _ _ hI_s (hB.fr hF_s (by decide)) (by omega) (by omega) (by omega)) (fun r5 s4 hc_5 => ?_)
    have hI_s4 : InvR s4 := hc_5.1
    have hFc_s4 : FrR [] s s4 := hc_5.2.1
    have hF_s4 : FrR [] s0 s4 := hF_s.trans hFc_s4 (by decide)
    have hl_r5 : 0 ≤ r5.toInt := hc_5.2.2.1
    have hu_r5 : r5.toInt ≤ 5 := hc_5.2.2.2
    have a_7 : 1 ≤ ((s.f 46 (Int32.toNatClampNeg x2))).toInt ∧ ((s.f 46 (Int32.toNatClampNeg x2))).toInt ≤ 7776 := hB.six hF_s (by decide) (by omega) (by omega)
    have a_8 : 0 ≤ (((s.f 46 (Int32.toNatClampNeg x2)) * r5)).toInt ∧ (((s.f 46 (Int32.toNatClampNeg x2)) * r5)).toInt ≤ 38880 := ti_mulr (a := 7776) (b := 5) (by omega) (by omega) (by omega) (by omega) (by decide)
    have a_9 : ((x1 + ((s.f 46 (Int32.toNatClampNeg x2)) * r5))).toInt = (x1).toInt + (((s.f 46 (Int32.toNatClampNeg x2)) * r5)).toInt := tn_add rfl rfl (by omega) (by omega)
    have a_10 : ((x2 + 1)).toInt = (x2).toInt + 1 := tn_add rfl (by decide) (by omega) (by omega)
    exact hk4 _ _ _ hI_s4 hF_s4 (by first | (clear hx0; omega) | omega) (by first | (clear hx0; omega) | omega) (by first | (clear hx0; omega) | omega) (by first | (clear hx0; omega) | omega) (by omega) (by first | (clear hx0; omega) | omega)
theorem okL_r_thereNumber_4 (s0 : RS) (hB : Big s0)  : ∀ (n : Nat) (s : RS) (x1 : Int32) (x2 : Int32), (5 - x2.toInt).toNat < n → InvR s → FrR [] s0 s → 0 ≤ x1.toInt → x1.toInt ≤ 194400 → 0 ≤ x2.toInt → x2.toInt ≤ 5 → (x1.toInt ≤ 38880 * x2.toInt) → Ok (r_thereNumber_4L  n s x1 x2) (Q_r_thereNumber s0) := by
  intro n
  induction n with
  | zero => intro s x1 x2 hn; omega
  | succ n ih =>
    intro s x1 x2 hn hI_s hF_s h_x1l h_x1u h_x2l h_x2u hx0 
    exact ok_r_thereNumber_4 s0 hB (r_thereNumber_4L  n) ((5 - x2.toInt).toNat) (fun zs zx1 zx2 g0 g1 g2 g3 g4 g5 g6  hm => ih zs zx1 zx2 (by omega) g0 g1 g2 g3 g4 g5 g6 ) s x1 x2 hI_s hF_s h_x1l h_x1u h_x2l h_x2u hx0 (Nat.le_refl _)
set_option maxHeartbeats 1000000 in
theorem ok_r_thereNumberB (s0 : RS) (hB : Big s0)  (s : RS) (hI_s : InvR s) (hF_s : FrR [] s0 s)  : Ok (r_thereNumber  s) (Q_r_thereNumber s0) := by
  unfold r_thereNumber
  have l_0 : (0 : Int32).toInt = 0 := by decide
  exact okL_r_thereNumber_4 s0 hB  fu _ _ _ (by unfold fu; omega) hI_s hF_s (by decide) (by decide) (by decide) (by decide) (by omega) 
theorem ok_r_thereNumber (s : RS) (hI_s : InvR s) (hB : Big s) : Ok (r_thereNumber s) (Q_r_thereNumber s) := ok_r_thereNumberB s hB s hI_s FrR.rfl
noncomputable abbrev Q_r_mayAt (s0 : RS) (y : Int32 × RS) : Prop := InvR y.2 ∧ FrR [] s0 y.2 ∧ -2147483648 ≤ y.1.toInt ∧ y.1.toInt ≤ 2147483647
set_option maxHeartbeats 1000000 in
theorem ok_r_mayAt_60 (s0 : RS) (k26 : RS → Int32 → Int32 → Int32 → Option (Int32 × RS)) (M26 : Nat) (hk26 : ∀ (s : RS) (x1 : Int32) (x2 : Int32) (x3 : Int32), InvR s → FrR [] s0 s → 0 ≤ x1.toInt → x1.toInt ≤ 4 → 0 ≤ x3.toInt → x3.toInt ≤ 6 → (6 - x3.toInt).toNat < M26 → Ok (k26 s x1 x2 x3) (Q_r_mayAt s0)) (s : RS) (x1 : Int32) (x2 : Int32) (x3 : Int32) (hI_s : InvR s) (hF_s : FrR [] s0 s) (h_x1l : 0 ≤ x1.toInt) (h_x1u : x1.toInt ≤ 4) (h_x3l : 0 ≤ x3.toInt) (h_x3u : x3.toInt ≤ 5) (hM26 : (6 - x3.toInt).toNat ≤ M26) : Ok (r_mayAt_60 k26 s x1 x2 x3) (Q_r_mayAt s0) := by
  unfold r_mayAt_60
  have a_1 : ((x3 + 1)).toInt = (x3).toInt + 1 := tn_add rfl (by decide) (by omega) (by omega)
  exact hk26 _ _ _ _ hI_s hF_s (by omega) (by omega) (by omega) (by omega) (by omega)
set_option maxHeartbeats 1000000 in
theorem ok_r_mayAt_26 (s0 : RS) (k26 : RS → Int32 → Int32 → Int32 → Option (Int32 × RS)) (M26 : Nat) (hk26 : ∀ (s : RS) (x1 : Int32) (x2 : Int32) (x3 : Int32), InvR s → FrR [] s0 s → 0 ≤ x1.toInt → x1.toInt ≤ 4 → 0 ≤ x3.toInt → x3.toInt ≤ 6 → (6 - x3.toInt).toNat < M26 → Ok (k26 s x1 x2 x3) (Q_r_mayAt s0)) (s : RS) (x1 : Int32) (x2 : Int32) (x3 : Int32) (hI_s : InvR s) (hF_s : FrR [] s0 s) (h_x1l : 0 ≤ x1.toInt) (h_x1u : x1.toInt ≤ 4) (h_x3l : 0 ≤ x3.toInt) (h_x3u : x3.toInt ≤ 6) (hM26 : (6 - x3.toInt).toNat ≤ M26) : Ok (r_mayAt_26 k26 s x1 x2 x3) (Q_r_mayAt s0) := by
  unfold r_mayAt_26
  refine ok_ite (fun c_1 => ?_) (fun c_1 => ?_)
  · have c_1 := tn_le (a := 6) (b := (x3).toInt) (by decide) rfl c_1
    exact ok_some ⟨hI_s, hF_s, (ti_rng _).1, (ti_rng _).2⟩
  · have c_1 := tn_nle (a := 6) (b := (x3).toInt) (by decide) rfl c_1
    refine ok_bindI (ok_r_oddsAt _ _ _ hI_s (by omega) (by omega) (by omega) (by omega)) (fun r3 s2 hc_2 => ?_)
    have hI_s2 : InvR s2 := hc_2.1
    have hFc_s2 : FrR [] s s2 := hc_2.2.1
    have hF_s2 : FrR [] s0 s2 := hF_s.trans hFc_s2 (by decide)
    refine ok_ite (fun c_3 => ?_) (fun c_3 => ?_)
    · have c_3 := tn_le (a := (r3).toInt) (b := 0) rfl (by decide) c_3
      exact ok_r_mayAt_60 s0 k26 M26 hk26 _ _ _ _ hI_s2 hF_s2 (by omega) (by omega) (by omega) (by omega) (by omega)
    · have c_3 := tn_nle (a := (r3).toInt) (b := 0) rfl (by decide) c_3
      refine ok_grd (vpb_ok (by omega) (by omega)) ?_
      have a_4 := ti_and1 (((s2.f 44 (Int32.toNatClampNeg x1)) >>> (x3 &&& 31)))
      refine ok_ite (fun c_5 => ?_) (fun c_5 => ?_)
      · have c_5 := tn_eq (a := ((((s2.f 44 (Int32.toNatClampNeg x1)) >>> (x3 &&& 31)) &&& 1)).toInt) (b := 0) rfl (by decide) c_5
        exact ok_r_mayAt_60 s0 k26 M26 hk26 _ _ _ _ hI_s2 hF_s2 (by omega) (by omega) (by omega) (by omega) (by omega)
      · have c_5 := tn_ne (a := ((((s2.f 44 (Int32.toNatClampNeg x1)) >>> (x3 &&& 31)) &&& 1)).toInt) (b := 0) rfl (by decide) c_5
        exact ok_r_mayAt_60 s0 k26 M26 hk26 _ _ _ _ hI_s2 hF_s2 (by omega) (by omega) (by omega) (by omega) (by omega)
theorem okL_r_mayAt_26 (s0 : RS)  : ∀ (n : Nat) (s : RS) (x1 : Int32) (x2 : Int32) (x3 : Int32), (6 - x3.toInt).toNat < n → InvR s → FrR [] s0 s → 0 ≤ x1.toInt → x1.toInt ≤ 4 → 0 ≤ x3.toInt → x3.toInt ≤ 6 → Ok (r_mayAt_26L  n s x1 x2 x3) (Q_r_mayAt s0) := by
  intro n
  induction n with
  | zero => intro s x1 x2 x3 hn; omega
  | succ n ih =>
    intro s x1 x2 x3 hn hI_s hF_s h_x1l h_x1u h_x3l h_x3u 
    exact ok_r_mayAt_26 s0 (r_mayAt_26L  n) ((6 - x3.toInt).toNat) (fun zs zx1 zx2 zx3 g0 g1 g2 g3 g4 g5  hm => ih zs zx1 zx2 zx3 (by omega) g0 g1 g2 g3 g4 g5 ) s x1 x2 x3 hI_s hF_s h_x1l h_x1u h_x3l h_x3u (Nat.le_refl _)
set_option maxHeartbeats 1000000 in
theorem ok_r_mayAtB (s0 : RS)  (s : RS) (x1 : Int32) (hI_s : InvR s) (hF_s : FrR [] s0 s) (h_x1l : 0 ≤ x1.toInt) (h_x1u : x1.toInt ≤ 4)  : Ok (r_mayAt  s x1) (Q_r_mayAt s0) := by
  unfold r_mayAt
  have a_1 : ((5 + x1)).toInt = 5 + (x1).toInt := tn_add (by decide) rfl (by omega) (by omega)
  refine ok_grd (vpb_ok (by omega) (by omega)) ?_
  refine ok_ite (fun c_2 => ?_) (fun c_2 => ?_)
  · have c_2 := tn_lt (a := ((s.f 44 (Int32.toNatClampNeg (5 + x1)))).toInt) (b := 0) rfl (by decide) c_2
    have l_0 : (0 : Int32).toInt = 0 := by decide
    exact okL_r_mayAt_26 s0  fu _ _ _ _ (by unfold fu; omega) hI_s hF_s (by omega) (by omega) (by decide) (by decide) 
  · have c_2 := tn_nlt (a := ((s.f 44 (Int32.toNatClampNeg (5 + x1)))).toInt) (b := 0) rfl (by decide) c_2
    refine ok_grd (vpb_ok (by omega) (by omega)) ?_
    exact ok_some ⟨hI_s, hF_s, (ti_rng _).1, (ti_rng _).2⟩
theorem ok_r_mayAt (s : RS) (x1 : Int32) (hI_s : InvR s) (h_x1l : 0 ≤ x1.toInt) (h_x1u : x1.toInt ≤ 4) : Ok (r_mayAt s x1) (Q_r_mayAt s) := ok_r_mayAtB s s x1 hI_s FrR.rfl h_x1l h_x1u
noncomputable abbrev Q_r_lawTells (s0 : RS) (y : Int32 × RS) : Prop := InvR y.2 ∧ FrR [42, 141] s0 y.2 ∧ -2147483648 ≤ y.1.toInt ∧ y.1.toInt ≤ 2147483647
theorem ok_lawTells_119 (s0 s : RS) (x4 : Int32) (b : Nat) (hI : InvR s) (hF : FrR [42, 141] s0 s) (h4 : x4.toInt = (b : Int)) (hb : b < 260) {lo hi : Nat} (hhi : hi ≤ 840) (hS : Seg lo hi (s0.f 36) (s0.f 37) (s0.f 33 b) (s0.f 34 b)) : Ok (r_lawTells_119 s x4) (Q_r_lawTells s0) := by
  unfold r_lawTells_119
  refine ok_grd (vpb_ok (by omega) (by omega)) ?_
  refine ok_grd (vpb_ok (by omega) (by omega)) ?_
  rw [clamp_of_int h4]
  have e (k : Nat) (hk : 100 + k ∉ [42, 141]) : s.f k = s0.f k := (hF.2 k hk).1
  refine ok_bindI (ok_r_termOf s _ _ hI hhi (by rw [e 36 (by decide), e 37 (by decide), e 33 (by decide), e 34 (by decide)]; exact hS)) (fun r4 s3 hc => ?_)
  have hF3 : FrR [42, 141] s0 s3 := hF.trans hc.2 (by decide)
  exact ok_ite (fun _ => ok_some ⟨hc.1, hF3, (ti_rng _).1, (ti_rng _).2⟩) (fun _ => ok_some ⟨hc.1, hF3, (ti_rng _).1, (ti_rng _).2⟩)
theorem ok_lawTells_39 {lo hi : Nat} (hhi : hi ≤ 840) (s0 : RS) (x3 : Int32) (a : Nat) (h3 : x3.toInt = (a : Int)) (ha : a < 8) (hl : (s0.f 28 a).toInt ≤ 260) (hbr : ∀ b : Nat, (s0.f 27 a).toInt ≤ (b : Int) → (b : Int) < (s0.f 28 a).toInt → BrOK lo hi (s0.f 30) (s0.f 31) (s0.f 32) (s0.f 33) (s0.f 34) (s0.f 36) (s0.f 37) b) :
    ∀ (n b : Nat) (s : RS) (x4 : Int32), 260 - b < n → InvR s → FrR [42, 141] s0 s → x4.toInt = (b : Int) → (s0.f 27 a).toInt ≤ (b : Int) → Ok (r_lawTells_39L n s x3 x4) (Q_r_lawTells s0) := by
  intro n
  induction n with
  | zero => intro b s x4 h; omega
  | succ n ih =>
    intro b s x4 hn hI hF h4 hb
    show Ok (r_lawTells_39 (r_lawTells_39L n) s x3 x4) _
    unfold r_lawTells_39
    have e (k : Nat) (hk : 100 + k ∉ [42, 141]) : s.f k = s0.f k := (hF.2 k hk).1
    have l1 : (1 : Int32).toInt = 1 := by decide
    refine ok_grd (vpb_ok (by omega) (by omega)) ?_
    rw [clamp_of_int h3, e 28 (by decide)]
    refine ok_ite (fun c => ?_) (fun c => ?_)
    · exact ok_some ⟨hI, hF, (ti_rng _).1, (ti_rng _).2⟩
    · have c := ti_nle c
      have hB := hbr b hb (by omega)
      refine ok_grd (vpb_ok (by omega) (by omega)) ?_
      rw [clamp_of_int h4, e 30 (by decide)]
      refine ok_ite (fun c2 => ?_) (fun c2 => ?_)
      · exact ok_lawTells_119 s0 s x4 b hI hF h4 (by omega) hhi hB.2
      · refine ok_grd (vpb_ok (by omega) (by omega)) ?_
        refine ok_grd (vpb_ok (by omega) (by omega)) ?_
        have hS := hB.1 c2
        refine ok_bindI (ok_r_termOf s _ _ hI hhi (by rw [e 36 (by decide), e 37 (by decide), e 31 (by decide), e 32 (by decide)]; exact hS.1)) (fun r8 s7 hc => ?_)
        have hF7 : FrR [42, 141] s0 s7 := hF.trans hc.2 (by decide)
        have e7 (k : Nat) (hk : 100 + k ∉ [42, 141]) : s7.f k = s0.f k := (hF7.2 k hk).1
        refine ok_grd (vpb_ok (by omega) (by omega)) ?_
        refine ok_grd (vpb_ok (by omega) (by omega)) ?_
        refine ok_bindI (ok_r_termOf s7 _ _ hc.1 hhi (by rw [e7 36 (by decide), e7 37 (by decide), e7 32 (by decide), e7 33 (by decide)]; exact hS.2)) (fun r12 s11 hc2 => ?_)
        have hF11 : FrR [42, 141] s0 s11 := hF7.trans hc2.2 (by decide)
        refine ok_ite (fun _ => ?_) (fun _ => ?_)
        · refine ok_ite (fun _ => ?_) (fun _ => ?_)
          · exact ok_lawTells_119 s0 s11 x4 b hc2.1 hF11 h4 (by omega) hhi hB.2
          · have a1 : (x4 + 1).toInt = x4.toInt + (1 : Int32).toInt := ti_add (by omega) (by omega)
            exact ih (b + 1) s11 _ (by omega) hc2.1 hF11 (by omega) (by omega)
        · exact ok_some ⟨hc2.1, hF11, (ti_rng _).1, (ti_rng _).2⟩
theorem ok_r_lawTells (s : RS) (x1 x2 : Int32) (hI : InvR s) (hB : Big s) (h0 : 0 ≤ x1.toInt) (h3 : x1.toInt ≤ 3) : Ok (r_lawTells s x1 x2) (Q_r_lawTells s) := by
  unfold r_lawTells
  have hl : 0 ≤ (s.v 18).toInt ∧ (s.v 18).toInt ≤ 1 := hI.1 18
  have el : (s.v 18).toInt.toNat = (s.v 18).toNatClampNeg := Int32.toNat_toInt _
  have l4 : (4 : Int32).toInt = 4 := by decide
  have a1 : (4 * (s.v 18)).toInt = (s.v 18).toInt * 4 := ti_cmul (c := 4) l4 (by omega) (by omega)
  have a2 : ((4 * (s.v 18)) + x1).toInt = (4 * (s.v 18)).toInt + x1.toInt := ti_add (by omega) (by omega)
  have hk := hB.2.2 x1.toInt.toNat (by omega)
  have ec : ((4 * (s.v 18)) + x1).toNatClampNeg = 4 * (s.v 18).toNatClampNeg + x1.toInt.toNat := clamp_of_int (by omega)
  refine ok_grd (vpb_ok (by omega) (by omega)) ?_
  refine ok_grd (vpb_ok (by omega) (by omega)) ?_
  rw [ec]
  refine ok_ite (fun c => ?_) (fun c => ?_)
  · exact ok_some ⟨hI, FrR.rfl, (ti_rng _).1, (ti_rng _).2⟩
  · refine ok_let (fun s4 hs4 => ?_)
    have hI4 : InvR s4 := by rw [← hs4]; exact hI.svF (k := 42) rfl rfl
    have hF4 : FrR [42, 141] s s4 := by rw [← hs4]; exact FrR.rfl.sv (k := 42) (by decide)
    refine ok_grd (vpb_ok (by omega) (by omega)) ?_
    rcases hk with hk | ⟨hk0, hk1, hk2⟩
    · exact absurd hk c
    · have e27 : s4.f 27 = s.f 27 := (hF4.2 27 (by decide)).1
      rw [e27]
      exact ok_lawTells_39 (hi := 420 * (s.v 18).toNatClampNeg + 402) (by omega) s _ (4 * (s.v 18).toNatClampNeg + x1.toInt.toNat) (by omega) (by omega) (by omega) hk2 fu (s.f 27 (4 * (s.v 18).toNatClampNeg + x1.toInt.toNat)).toInt.toNat s4 _ (by unfold fu; omega) hI4 hF4 (by omega) (by omega)
noncomputable abbrev Q_r_looks (s0 : RS) (y : RS) : Prop := InvR y ∧ FrR [140] s0 y
set_option maxHeartbeats 1000000 in
theorem ok_r_looks_2 (s0 : RS) (k2 : RS → Int32 → Int32 → Option (RS)) (M2 : Nat) (hk2 : ∀ (s : RS) (x1 : Int32) (x2 : Int32), InvR s → FrR [140] s0 s → -1 ≤ x1.toInt → x1.toInt ≤ 5 → 0 ≤ x2.toInt → x2.toInt ≤ 9 → (9 - x2.toInt).toNat < M2 → Ok (k2 s x1 x2) (Q_r_looks s0)) (s : RS) (x1 : Int32) (x2 : Int32) (hI_s : InvR s) (hF_s : FrR [140] s0 s) (h_x1l : -1 ≤ x1.toInt) (h_x1u : x1.toInt ≤ 5) (h_x2l : 0 ≤ x2.toInt) (h_x2u : x2.toInt ≤ 9) (hM2 : (9 - x2.toInt).toNat ≤ M2) : Ok (r_looks_2 k2 s x1 x2) (Q_r_looks s0) := by
  unfold r_looks_2
  refine ok_ite (fun c_1 => ?_) (fun c_1 => ?_)
  · have c_1 := tn_le (a := 9) (b := (x2).toInt) (by decide) rfl c_1
    refine ok_let (fun s2 hs2 => ?_)
    have hI_s2 : InvR s2 := by rw [← hs2]; exact hI_s.sfF (k := 40) rfl rfl
    have hF_s2 : FrR [140] s0 s2 := by rw [← hs2]; exact hF_s.sf (k := 40) (by decide)
    refine ok_ite (fun c_2 => ?_) (fun c_2 => ?_)
    · have c_2 := tn_le (a := 0) (b := (x1).toInt) (by decide) rfl c_2
      have a_3 : 0 ≤ (s.v 18).toInt ∧ (s.v 18).toInt ≤ 1 := hI_s.1 18
      have a_4 : (s2.v 18).toInt = (s.v 18).toInt := congrArg Int32.toInt (show s2.v 18 = s.v 18 by rw [← hs2]; rfl)
      have a_5 : ((6 * (s2.v 18))).toInt = ((s2.v 18)).toInt * 6 := ti_cmul (c := 6) (by decide) (by omega) (by omega)
      have a_6 : (((6 * (s2.v 18)) + x1)).toInt = ((6 * (s2.v 18))).toInt + (x1).toInt := tn_add rfl rfl (by omega) (by omega)
      refine ok_grd (vpb_ok (by omega) (by omega)) ?_
      refine ok_let (fun s6 hs6 => ?_)
      have hI_s6 : InvR s6 := by rw [← hs6]; exact hI_s2.sfF (k := 40) rfl rfl
      have hF_s6 : FrR [140] s0 s6 := by rw [← hs6]; exact hF_s2.sf (k := 40) (by decide)
      have a_7 : (s6.v 18).toInt = (s2.v 18).toInt := congrArg Int32.toInt (show s6.v 18 = s2.v 18 by rw [← hs6]; rfl)
      have a_8 : ((6 * (s6.v 18))).toInt = ((s6.v 18)).toInt * 6 := ti_cmul (c := 6) (by decide) (by omega) (by omega)
      have a_9 : (((6 * (s6.v 18)) + x1)).toInt = ((6 * (s6.v 18))).toInt + (x1).toInt := tn_add rfl rfl (by omega) (by omega)
      refine ok_grd (vpb_ok (by omega) (by omega)) ?_
      refine ok_let (fun s9 hs9 => ?_)
      have hI_s9 : InvR s9 := by rw [← hs9]; exact hI_s6.sfF (k := 40) rfl rfl
      have hF_s9 : FrR [140] s0 s9 := by rw [← hs9]; exact hF_s6.sf (k := 40) (by decide)
      refine ok_let (fun s11 hs11 => ?_)
      have hI_s11 : InvR s11 := by rw [← hs11]; exact hI_s9.sfF (k := 40) rfl rfl
      have hF_s11 : FrR [140] s0 s11 := by rw [← hs11]; exact hF_s9.sf (k := 40) (by decide)
      have a_10 : ((21 + x1)).toInt = 21 + (x1).toInt := tn_add (by decide) rfl (by omega) (by omega)
      refine ok_grd (vpb_ok (by omega) (by omega)) ?_
      refine ok_let (fun s14 hs14 => ?_)
      have hI_s14 : InvR s14 := by rw [← hs14]; exact hI_s11.sfF (k := 40) rfl rfl
      have hF_s14 : FrR [140] s0 s14 := by rw [← hs14]; exact hF_s11.sf (k := 40) (by decide)
      exact ok_some ⟨hI_s14, hF_s14⟩
    · have c_2 := tn_nle (a := 0) (b := (x1).toInt) (by decide) rfl c_2
      exact ok_some ⟨hI_s2, hF_s2⟩
  · have c_1 := tn_nle (a := 9) (b := (x2).toInt) (by decide) rfl c_1
    refine ok_grd (vpb_ok (by omega) (by omega)) ?_
    refine ok_let (fun s17 hs17 => ?_)
    have hI_s17 : InvR s17 := by rw [← hs17]; exact hI_s.sfF (k := 40) rfl rfl
    have hF_s17 : FrR [140] s0 s17 := by rw [← hs17]; exact hF_s.sf (k := 40) (by decide)
    have a_11 : ((x2 + 1)).toInt = (x2).toInt + 1 := tn_add rfl (by decide) (by omega) (by omega)
    exact hk2 _ _ _ hI_s17 hF_s17 (by omega) (by omega) (by omega) (by omega) (by omega)
theorem okL_r_looks_2 (s0 : RS)  : ∀ (n : Nat) (s : RS) (x1 : Int32) (x2 : Int32), (9 - x2.toInt).toNat < n → InvR s → FrR [140] s0 s → -1 ≤ x1.toInt → x1.toInt ≤ 5 → 0 ≤ x2.toInt → x2.toInt ≤ 9 → Ok (r_looks_2L  n s x1 x2) (Q_r_looks s0) := by
  intro n
  induction n with
  | zero => intro s x1 x2 hn; omega
  | succ n ih =>
    intro s x1 x2 hn hI_s hF_s h_x1l h_x1u h_x2l h_x2u 
    exact ok_r_looks_2 s0 (r_looks_2L  n) ((9 - x2.toInt).toNat) (fun zs zx1 zx2 g0 g1 g2 g3 g4 g5  hm => ih zs zx1 zx2 (by omega) g0 g1 g2 g3 g4 g5 ) s x1 x2 hI_s hF_s h_x1l h_x1u h_x2l h_x2u (Nat.le_refl _)
set_option maxHeartbeats 1000000 in
theorem ok_r_looksB (s0 : RS)  (s : RS) (x1 : Int32) (hI_s : InvR s) (hF_s : FrR [140] s0 s) (h_x1l : -1 ≤ x1.toInt) (h_x1u : x1.toInt ≤ 5)  : Ok (r_looks  s x1) (Q_r_looks s0) := by
  unfold r_looks
  have l_0 : (0 : Int32).toInt = 0 := by decide
  exact okL_r_looks_2 s0  fu _ _ _ (by unfold fu; omega) hI_s hF_s (by omega) (by omega) (by decide) (by decide) 
theorem ok_r_looks (s : RS) (x1 : Int32) (hI_s : InvR s) (h_x1l : -1 ≤ x1.toInt) (h_x1u : x1.toInt ≤ 5) : Ok (r_looks s x1) (Q_r_looks s) := ok_r_looksB s s x1 hI_s FrR.rfl h_x1l h_x1u
noncomputable abbrev Q_r_looksOver (s0 : RS) (y : RS) : Prop := InvR y ∧ FrR [140] s0 y
set_option maxHeartbeats 1000000 in
theorem ok_r_looksOverB (s0 : RS)  (s : RS) (x1 : Int32) (hI_s : InvR s) (hF_s : FrR [140] s0 s) (h_x1l : 0 ≤ x1.toInt) (h_x1u : x1.toInt ≤ 4)  : Ok (r_looksOver  s x1) (Q_r_looksOver s0) := by
  unfold r_looksOver
  refine ok_let (fun s1 hs1 => ?_)
  have hI_s1 : InvR s1 := by rw [← hs1]; exact hI_s.sfF (k := 40) rfl rfl
  have hF_s1 : FrR [140] s0 s1 := by rw [← hs1]; exact hF_s.sf (k := 40) (by decide)
  refine ok_bindI (ok_r_mayAt _ _ hI_s1 (by omega) (by omega)) (fun r4 s3 hc_1 => ?_)
  have hI_s3 : InvR s3 := hc_1.1
  have hFc_s3 : FrR [] s1 s3 := hc_1.2.1
  have hF_s3 : FrR [140] s0 s3 := hF_s1.trans hFc_s3 (by decide)
  refine ok_bindP (ok_r_bits _ ) (fun r5 hc_2 => ?_)
  have hl_r5 : 0 ≤ r5.toInt := hc_2.1
  have hu_r5 : r5.toInt ≤ 6 := hc_2.2
  refine ok_let (fun s6 hs6 => ?_)
  have hI_s6 : InvR s6 := by rw [← hs6]; exact hI_s3.sfF (k := 40) rfl rfl
  have hF_s6 : FrR [140] s0 s6 := by rw [← hs6]; exact hF_s3.sf (k := 40) (by decide)
  refine ok_grd (vpb_ok (by omega) (by omega)) ?_
  refine ok_bindP (ok_r_bits _ ) (fun r9 hc_3 => ?_)
  have hl_r9 : 0 ≤ r9.toInt := hc_3.1
  have hu_r9 : r9.toInt ≤ 6 := hc_3.2
  refine ok_let (fun s10 hs10 => ?_)
  have hI_s10 : InvR s10 := by rw [← hs10]; exact hI_s6.sfF (k := 40) rfl rfl
  have hF_s10 : FrR [140] s0 s10 := by rw [← hs10]; exact hF_s6.sf (k := 40) (by decide)
  exact ok_some ⟨hI_s10, hF_s10⟩
theorem ok_r_looksOver (s : RS) (x1 : Int32) (hI_s : InvR s) (h_x1l : 0 ≤ x1.toInt) (h_x1u : x1.toInt ≤ 4) : Ok (r_looksOver s x1) (Q_r_looksOver s) := ok_r_looksOverB s s x1 hI_s FrR.rfl h_x1l h_x1u
noncomputable abbrev Q_r_needsOf (s0 : RS) (y : Int32 × RS) : Prop := InvR y.2 ∧ FrR [42, 140, 141] s0 y.2 ∧ 0 ≤ y.1.toInt ∧ y.1.toInt ≤ 100
set_option maxHeartbeats 1000000 in
theorem ok_r_needsOfB (s0 : RS) (hB : Big s0)  (s : RS) (x1 : Int32) (x2 : Int32) (x3 : Int32) (hI_s : InvR s) (hF_s : FrR [42, 140, 141] s0 s) (h_x1l : 0 ≤ x1.toInt) (h_x1u : x1.toInt ≤ 5) (h_x2l : 0 ≤ x2.toInt) (h_x2u : x2.toInt ≤ 4) (h_x3l : 0 ≤ x3.toInt) (h_x3u : x3.toInt ≤ 5)  : Ok (r_needsOf  s x1 x2 x3) (Q_r_needsOf s0) := by
  unfold r_needsOf
  refine ok_bindP (ok_r_looks _ _ hI_s (by omega) (by omega)) (fun s1 hc_1 => ?_)
  have hI_s1 : InvR s1 := hc_1.1
  have hFc_s1 : FrR [140] s s1 := hc_1.2
  have hF_s1 : FrR [42, 140, 141] s0 s1 := hF_s.trans hFc_s1 (by decide)
  refine ok_bindP (ok_r_looksOver _ _ hI_s1 (by omega) (by omega)) (fun s2 hc_2 => ?_)
  have hI_s2 : InvR s2 := hc_2.1
  have hFc_s2 : FrR [140] s1 s2 := hc_2.2
  have hF_s2 : FrR [42, 140, 141] s0 s2 := hF_s1.trans hFc_s2 (by decide)
  refine ok_bindI (ok_r_oddsAt _ _ _ hI_s2 (by omega) (by omega) (by omega) (by omega)) (fun r4 s3 hc_3 => ?_)
  have hI_s3 : InvR s3 := hc_3.1
  have hFc_s3 : FrR [] s2 s3 := hc_3.2.1
  have hF_s3 : FrR [42, 140, 141] s0 s3 := hF_s2.trans hFc_s3 (by decide)
  refine ok_let (fun s5 hs5 => ?_)
  have hI_s5 : InvR s5 := by rw [← hs5]; exact hI_s3.sfF (k := 40) rfl rfl
  have hF_s5 : FrR [42, 140, 141] s0 s5 := by rw [← hs5]; exact hF_s3.sf (k := 40) (by decide)
  refine ok_bindI (ok_r_lawTells _ _ _ hI_s5 (hB.fr hF_s5 (by decide)) (by decide) (by decide)) (fun r8 s7 hc_4 => ?_)
  have hI_s7 : InvR s7 := hc_4.1
  have hFc_s7 : FrR [42, 141] s5 s7 := hc_4.2.1
  have hF_s7 : FrR [42, 140, 141] s0 s7 := hF_s5.trans hFc_s7 (by decide)
  refine ok_bindP (ok_r_within _ _ _ (by decide) (by decide) (by decide) (by decide)) (fun r9 hc_5 => ?_)
  have hl_r9 : 0 ≤ r9.toInt := hc_5.1
  have hu_r9 : r9.toInt ≤ 100 := hc_5.2
  exact ok_some ⟨hI_s7, hF_s7, by show 0 ≤ (r9).toInt; omega, by show (r9).toInt ≤ 100; omega⟩
theorem ok_r_needsOf (s : RS) (x1 : Int32) (x2 : Int32) (x3 : Int32) (hI_s : InvR s) (hB : Big s) (h_x1l : 0 ≤ x1.toInt) (h_x1u : x1.toInt ≤ 5) (h_x2l : 0 ≤ x2.toInt) (h_x2u : x2.toInt ≤ 4) (h_x3l : 0 ≤ x3.toInt) (h_x3u : x3.toInt ≤ 5) : Ok (r_needsOf s x1 x2 x3) (Q_r_needsOf s) := ok_r_needsOfB s hB s x1 x2 x3 hI_s FrR.rfl h_x1l h_x1u h_x2l h_x2u h_x3l h_x3u
noncomputable abbrev Q_r_faresOf (s0 : RS) (y : Int32 × RS) : Prop := InvR y.2 ∧ FrR [42, 140, 141] s0 y.2 ∧ 0 ≤ y.1.toInt ∧ y.1.toInt ≤ 100
set_option maxHeartbeats 1000000 in
theorem ok_r_faresOfB (s0 : RS) (hB : Big s0)  (s : RS) (x1 : Int32) (hI_s : InvR s) (hF_s : FrR [42, 140, 141] s0 s) (h_x1l : 0 ≤ x1.toInt) (h_x1u : x1.toInt ≤ 5)  : Ok (r_faresOf  s x1) (Q_r_faresOf s0) := by
  unfold r_faresOf
  refine ok_bindP (ok_r_looks _ _ hI_s (by omega) (by omega)) (fun s1 hc_1 => ?_)
  have hI_s1 : InvR s1 := hc_1.1
  have hFc_s1 : FrR [140] s s1 := hc_1.2
  have hF_s1 : FrR [42, 140, 141] s0 s1 := hF_s.trans hFc_s1 (by decide)
  refine ok_bindI (ok_r_lawTells _ _ _ hI_s1 (hB.fr hF_s1 (by decide)) (by decide) (by decide)) (fun r3 s2 hc_2 => ?_)
  have hI_s2 : InvR s2 := hc_2.1
  have hFc_s2 : FrR [42, 141] s1 s2 := hc_2.2.1
  have hF_s2 : FrR [42, 140, 141] s0 s2 := hF_s1.trans hFc_s2 (by decide)
  refine ok_bindP (ok_r_within _ _ _ (by decide) (by decide) (by decide) (by decide)) (fun r4 hc_3 => ?_)
  have hl_r4 : 0 ≤ r4.toInt := hc_3.1
  have hu_r4 : r4.toInt ≤ 100 := hc_3.2
  exact ok_some ⟨hI_s2, hF_s2, by show 0 ≤ (r4).toInt; omega, by show (r4).toInt ≤ 100; omega⟩
theorem ok_r_faresOf (s : RS) (x1 : Int32) (hI_s : InvR s) (hB : Big s) (h_x1l : 0 ≤ x1.toInt) (h_x1u : x1.toInt ≤ 5) : Ok (r_faresOf s x1) (Q_r_faresOf s) := ok_r_faresOfB s hB s x1 hI_s FrR.rfl h_x1l h_x1u
noncomputable abbrev Q_r_doesDare (s0 : RS) (y : Int32 × RS) : Prop := InvR y.2 ∧ FrR [42, 140, 141] s0 y.2 ∧ 0 ≤ y.1.toInt ∧ y.1.toInt ≤ 1
set_option maxHeartbeats 1000000 in
theorem ok_r_doesDareB (s0 : RS) (hB : Big s0)  (s : RS) (x1 : Int32) (hI_s : InvR s) (hF_s : FrR [42, 140, 141] s0 s) (h_x1l : 0 ≤ x1.toInt) (h_x1u : x1.toInt ≤ 5)  : Ok (r_doesDare  s x1) (Q_r_doesDare s0) := by
  unfold r_doesDare
  refine ok_bindP (ok_r_looks _ _ hI_s (by omega) (by omega)) (fun s1 hc_1 => ?_)
  have hI_s1 : InvR s1 := hc_1.1
  have hFc_s1 : FrR [140] s s1 := hc_1.2
  have hF_s1 : FrR [42, 140, 141] s0 s1 := hF_s.trans hFc_s1 (by decide)
  refine ok_bindI (ok_r_lawTells _ _ _ hI_s1 (hB.fr hF_s1 (by decide)) (by decide) (by decide)) (fun r3 s2 hc_2 => ?_)
  have hI_s2 : InvR s2 := hc_2.1
  have hFc_s2 : FrR [42, 141] s1 s2 := hc_2.2.1
  have hF_s2 : FrR [42, 140, 141] s0 s2 := hF_s1.trans hFc_s2 (by decide)
  refine ok_ite (fun c_3 => ?_) (fun c_3 => ?_)
  · have c_3 := tn_le (a := (r3).toInt) (b := 0) rfl (by decide) c_3
    exact ok_some ⟨hI_s2, hF_s2, by show 0 ≤ (0 : Int32).toInt; decide, by show (0 : Int32).toInt ≤ 1; decide⟩
  · have c_3 := tn_nle (a := (r3).toInt) (b := 0) rfl (by decide) c_3
    exact ok_some ⟨hI_s2, hF_s2, by show 0 ≤ (1 : Int32).toInt; decide, by show (1 : Int32).toInt ≤ 1; decide⟩
theorem ok_r_doesDare (s : RS) (x1 : Int32) (hI_s : InvR s) (hB : Big s) (h_x1l : 0 ≤ x1.toInt) (h_x1u : x1.toInt ≤ 5) : Ok (r_doesDare s x1) (Q_r_doesDare s) := ok_r_doesDareB s hB s x1 hI_s FrR.rfl h_x1l h_x1u
noncomputable abbrev Q_r_shiftsOf (s0 : RS) (y : Int32 × RS) : Prop := InvR y.2 ∧ FrR [42, 140, 141] s0 y.2 ∧ 0 ≤ y.1.toInt ∧ y.1.toInt ≤ 100
set_option maxHeartbeats 1000000 in
theorem ok_r_shiftsOfB (s0 : RS) (hB : Big s0)  (s : RS) (x1 : Int32) (hI_s : InvR s) (hF_s : FrR [42, 140, 141] s0 s) (h_x1l : 0 ≤ x1.toInt) (h_x1u : x1.toInt ≤ 4)  : Ok (r_shiftsOf  s x1) (Q_r_shiftsOf s0) := by
  unfold r_shiftsOf
  refine ok_bindP (ok_r_looks _ _ hI_s (by decide) (by decide)) (fun s1 hc_1 => ?_)
  have hI_s1 : InvR s1 := hc_1.1
  have hFc_s1 : FrR [140] s s1 := hc_1.2
  have hF_s1 : FrR [42, 140, 141] s0 s1 := hF_s.trans hFc_s1 (by decide)
  refine ok_bindP (ok_r_looksOver _ _ hI_s1 (by omega) (by omega)) (fun s2 hc_2 => ?_)
  have hI_s2 : InvR s2 := hc_2.1
  have hFc_s2 : FrR [140] s1 s2 := hc_2.2
  have hF_s2 : FrR [42, 140, 141] s0 s2 := hF_s1.trans hFc_s2 (by decide)
  refine ok_bindI (ok_r_lawTells _ _ _ hI_s2 (hB.fr hF_s2 (by decide)) (by decide) (by decide)) (fun r4 s3 hc_3 => ?_)
  have hI_s3 : InvR s3 := hc_3.1
  have hFc_s3 : FrR [42, 141] s2 s3 := hc_3.2.1
  have hF_s3 : FrR [42, 140, 141] s0 s3 := hF_s2.trans hFc_s3 (by decide)
  refine ok_bindP (ok_r_within _ _ _ (by decide) (by decide) (by decide) (by decide)) (fun r5 hc_4 => ?_)
  have hl_r5 : 0 ≤ r5.toInt := hc_4.1
  have hu_r5 : r5.toInt ≤ 100 := hc_4.2
  exact ok_some ⟨hI_s3, hF_s3, by show 0 ≤ (r5).toInt; omega, by show (r5).toInt ≤ 100; omega⟩
theorem ok_r_shiftsOf (s : RS) (x1 : Int32) (hI_s : InvR s) (hB : Big s) (h_x1l : 0 ≤ x1.toInt) (h_x1u : x1.toInt ≤ 4) : Ok (r_shiftsOf s x1) (Q_r_shiftsOf s) := ok_r_shiftsOfB s hB s x1 hI_s FrR.rfl h_x1l h_x1u
noncomputable abbrev Q_r_doesBear (s0 : RS) (y : Int32 × RS) : Prop := InvR y.2 ∧ FrR [42, 140, 141] s0 y.2 ∧ 0 ≤ y.1.toInt ∧ y.1.toInt ≤ 1
set_option maxHeartbeats 1000000 in
theorem ok_r_doesBearB (s0 : RS) (hB : Big s0)  (s : RS) (x1 : Int32) (x2 : Int32) (x3 : Int32) (hI_s : InvR s) (hF_s : FrR [42, 140, 141] s0 s) (h_x1l : 0 ≤ x1.toInt) (h_x1u : x1.toInt ≤ 5) (h_x2l : 0 ≤ x2.toInt) (h_x2u : x2.toInt ≤ 4) (h_x3l : 0 ≤ x3.toInt) (h_x3u : x3.toInt ≤ 5)  : Ok (r_doesBear  s x1 x2 x3) (Q_r_doesBear s0) := by
  unfold r_doesBear
  refine ok_bindI (ok_r_oddsAt _ _ _ hI_s (by omega) (by omega) (by omega) (by omega)) (fun r2 s1 hc_1 => ?_)
  have hI_s1 : InvR s1 := hc_1.1
  have hFc_s1 : FrR [] s s1 := hc_1.2.1
  have hF_s1 : FrR [42, 140, 141] s0 s1 := hF_s.trans hFc_s1 (by decide)
  refine ok_bindI (ok_r_needsOf _ _ _ _ hI_s1 (hB.fr hF_s1 (by decide)) (by omega) (by omega) (by omega) (by omega) (by omega) (by omega)) (fun r4 s3 hc_2 => ?_)
  have hI_s3 : InvR s3 := hc_2.1
  have hFc_s3 : FrR [42, 140, 141] s1 s3 := hc_2.2.1
  have hF_s3 : FrR [42, 140, 141] s0 s3 := hF_s1.trans hFc_s3 (by decide)
  have hl_r4 : 0 ≤ r4.toInt := hc_2.2.2.1
  have hu_r4 : r4.toInt ≤ 100 := hc_2.2.2.2
  refine ok_ite (fun c_3 => ?_) (fun c_3 => ?_)
  · have c_3 := tn_lt (a := (r2).toInt) (b := (r4).toInt) rfl rfl c_3
    exact ok_some ⟨hI_s3, hF_s3, by show 0 ≤ (0 : Int32).toInt; decide, by show (0 : Int32).toInt ≤ 1; decide⟩
  · have c_3 := tn_nlt (a := (r2).toInt) (b := (r4).toInt) rfl rfl c_3
    exact ok_some ⟨hI_s3, hF_s3, by show 0 ≤ (1 : Int32).toInt; decide, by show (1 : Int32).toInt ≤ 1; decide⟩
theorem ok_r_doesBear (s : RS) (x1 : Int32) (x2 : Int32) (x3 : Int32) (hI_s : InvR s) (hB : Big s) (h_x1l : 0 ≤ x1.toInt) (h_x1u : x1.toInt ≤ 5) (h_x2l : 0 ≤ x2.toInt) (h_x2u : x2.toInt ≤ 4) (h_x3l : 0 ≤ x3.toInt) (h_x3u : x3.toInt ≤ 5) : Ok (r_doesBear s x1 x2 x3) (Q_r_doesBear s) := ok_r_doesBearB s hB s x1 x2 x3 hI_s FrR.rfl h_x1l h_x1u h_x2l h_x2u h_x3l h_x3u
noncomputable abbrev Q_r_bearsBy (s0 : RS) (y : Int32 × RS) : Prop := InvR y.2 ∧ FrR [42, 140, 141] s0 y.2 ∧ 0 ≤ y.1.toInt ∧ y.1.toInt ≤ 5
set_option maxHeartbeats 1000000 in
theorem ok_r_bearsBy_2 (s0 : RS) (hB : Big s0) (k2 : RS → Int32 → Int32 → Int32 → Option (Int32 × RS)) (M2 : Nat) (hk2 : ∀ (s : RS) (x1 : Int32) (x2 : Int32) (x3 : Int32), InvR s → FrR [42, 140, 141] s0 s → 0 ≤ x1.toInt → x1.toInt ≤ 5 → 0 ≤ x2.toInt → x2.toInt ≤ 194400 → 0 ≤ x3.toInt → x3.toInt ≤ 5 → (5 - x3.toInt).toNat < M2 → Ok (k2 s x1 x2 x3) (Q_r_bearsBy s0)) (s : RS) (x1 : Int32) (x2 : Int32) (x3 : Int32) (hI_s : InvR s) (hF_s : FrR [42, 140, 141] s0 s) (h_x1l : 0 ≤ x1.toInt) (h_x1u : x1.toInt ≤ 5) (h_x2l : 0 ≤ x2.toInt) (h_x2u : x2.toInt ≤ 194400) (h_x3l : 0 ≤ x3.toInt) (h_x3u : x3.toInt ≤ 5) (hM2 : (5 - x3.toInt).toNat ≤ M2) : Ok (r_bearsBy_2 k2 s x1 x2 x3) (Q_r_bearsBy s0) := by
  unfold r_bearsBy_2
  have a_1 : 0 ≤ (s.v 18).toInt ∧ (s.v 18).toInt ≤ 1 := hI_s.1 18
  refine ok_grd (vpb_ok (by omega) (by omega)) ?_
  have a_2 : ((s.f 20 (Int32.toNatClampNeg (s.v 18)))).toInt = wv s0 := wv_fr hF_s (by decide) (by decide)
  have a_3 : 0 ≤ ((s.f 20 (Int32.toNatClampNeg (s.v 18)))).toInt ∧ ((s.f 20 (Int32.toNatClampNeg (s.v 18)))).toInt ≤ 5 := hI_s.2 20 _
  refine ok_ite (fun c_4 => ?_) (fun c_4 => ?_)
  · have c_4 := tn_le (a := ((s.f 20 (Int32.toNatClampNeg (s.v 18)))).toInt) (b := (x3).toInt) rfl rfl c_4
    exact ok_some ⟨hI_s, hF_s, by show 0 ≤ (x3).toInt; omega, by show (x3).toInt ≤ 5; omega⟩
  · have c_4 := tn_nle (a := ((s.f 20 (Int32.toNatClampNeg (s.v 18)))).toInt) (b := (x3).toInt) rfl rfl c_4
    refine ok_bindI (ok_r_thingAt _ _ _ hI_s (hB.fr hF_s (by decide)) (by omega) (by omega) (by omega) (by omega)) (fun r4 s3 hc_5 => ?_)
    have hI_s3 : InvR s3 := hc_5.1
    have hFc_s3 : FrR [] s s3 := hc_5.2.1
    have hF_s3 : FrR [42, 140, 141] s0 s3 := hF_s.trans hFc_s3 (by decide)
    have hl_r4 : 0 ≤ r4.toInt := hc_5.2.2.1
    have hu_r4 : r4.toInt ≤ 5 := hc_5.2.2.2
    refine ok_bindI (ok_r_doesBear _ _ _ _ hI_s3 (hB.fr hF_s3 (by decide)) (by omega) (by omega) (by omega) (by omega) (by omega) (by omega)) (fun r6 s5 hc_6 => ?_)
    have hI_s5 : InvR s5 := hc_6.1
    have hFc_s5 : FrR [42, 140, 141] s3 s5 := hc_6.2.1
    have hF_s5 : FrR [42, 140, 141] s0 s5 := hF_s3.trans hFc_s5 (by decide)
    have hl_r6 : 0 ≤ r6.toInt := hc_6.2.2.1
    have hu_r6 : r6.toInt ≤ 1 := hc_6.2.2.2
    refine ok_ite (fun c_7 => ?_) (fun c_7 => ?_)
    · have c_7 := tn_eq (a := (r6).toInt) (b := 0) rfl (by decide) c_7
      exact ok_some ⟨hI_s5, hF_s5, by show 0 ≤ (x3).toInt; omega, by show (x3).toInt ≤ 5; omega⟩
    · have c_7 := tn_ne (a := (r6).toInt) (b := 0) rfl (by decide) c_7
      have a_8 : ((x3 + 1)).toInt = (x3).toInt + 1 := tn_add rfl (by decide) (by omega) (by omega)
      exact hk2 _ _ _ _ hI_s5 hF_s5 (by omega) (by omega) (by omega) (by omega) (by omega) (by omega) (by omega)
theorem okL_r_bearsBy_2 (s0 : RS) (hB : Big s0)  : ∀ (n : Nat) (s : RS) (x1 : Int32) (x2 : Int32) (x3 : Int32), (5 - x3.toInt).toNat < n → InvR s → FrR [42, 140, 141] s0 s → 0 ≤ x1.toInt → x1.toInt ≤ 5 → 0 ≤ x2.toInt → x2.toInt ≤ 194400 → 0 ≤ x3.toInt → x3.toInt ≤ 5 → Ok (r_bearsBy_2L  n s x1 x2 x3) (Q_r_bearsBy s0) := by
  intro n
  induction n with
  | zero => intro s x1 x2 x3 hn; omega
  | succ n ih =>
    intro s x1 x2 x3 hn hI_s hF_s h_x1l h_x1u h_x2l h_x2u h_x3l h_x3u 
    exact ok_r_bearsBy_2 s0 hB (r_bearsBy_2L  n) ((5 - x3.toInt).toNat) (fun zs zx1 zx2 zx3 g0 g1 g2 g3 g4 g5 g6 g7  hm => ih zs zx1 zx2 zx3 (by omega) g0 g1 g2 g3 g4 g5 g6 g7 ) s x1 x2 x3 hI_s hF_s h_x1l h_x1u h_x2l h_x2u h_x3l h_x3u (Nat.le_refl _)
set_option maxHeartbeats 1000000 in
theorem ok_r_bearsByB (s0 : RS) (hB : Big s0)  (s : RS) (x1 : Int32) (x2 : Int32) (hI_s : InvR s) (hF_s : FrR [42, 140, 141] s0 s) (h_x1l : 0 ≤ x1.toInt) (h_x1u : x1.toInt ≤ 5) (h_x2l : 0 ≤ x2.toInt) (h_x2u : x2.toInt ≤ 194400)  : Ok (r_bearsBy  s x1 x2) (Q_r_bearsBy s0) := by
  unfold r_bearsBy
  have l_0 : (0 : Int32).toInt = 0 := by decide
  exact okL_r_bearsBy_2 s0 hB  fu _ _ _ _ (by unfold fu; omega) hI_s hF_s (by omega) (by omega) (by omega) (by omega) (by decide) (by decide) 
theorem ok_r_bearsBy (s : RS) (x1 : Int32) (x2 : Int32) (hI_s : InvR s) (hB : Big s) (h_x1l : 0 ≤ x1.toInt) (h_x1u : x1.toInt ≤ 5) (h_x2l : 0 ≤ x2.toInt) (h_x2u : x2.toInt ≤ 194400) : Ok (r_bearsBy s x1 x2) (Q_r_bearsBy s) := ok_r_bearsByB s hB s x1 x2 hI_s FrR.rfl h_x1l h_x1u h_x2l h_x2u
end
section
noncomputable abbrev Q_r_goesBy (s0 : RS) (y : Int32 × RS) : Prop := InvR y.2 ∧ FrR [42, 140, 141, 144] s0 y.2 ∧ 0 ≤ y.1.toInt ∧ y.1.toInt ≤ 5
set_option maxHeartbeats 1000000 in
theorem ok_r_goesBy_39 (s0 : RS) (hB : Big s0) (k39 : RS → Int32 → Int32 → Int32 → Int32 → Int32 → Option (Int32 × RS)) (M39 : Nat) (hk39 : ∀ (s : RS) (x1 : Int32) (x2 : Int32) (x3 : Int32) (x4 : Int32) (x5 : Int32), InvR s → FrR [42, 140, 141, 144] s0 s → 0 ≤ x1.toInt → x1.toInt ≤ 5 → 0 ≤ x2.toInt → x2.toInt ≤ 194400 → 0 ≤ x3.toInt → x3.toInt ≤ 194400 → 0 ≤ x4.toInt → x4.toInt ≤ 5 → 0 ≤ x5.toInt → x5.toInt ≤ 5 → (5 - x5.toInt).toNat < M39 → Ok (k39 s x1 x2 x3 x4 x5) (Q_r_goesBy s0)) (s : RS) (x1 : Int32) (x2 : Int32) (x3 : Int32) (x4 : Int32) (x5 : Int32) (hI_s : InvR s) (hF_s : FrR [42, 140, 141, 144] s0 s) (h_x1l : 0 ≤ x1.toInt) (h_x1u : x1.toInt ≤ 5) (h_x2l : 0 ≤ x2.toInt) (h_x2u : x2.toInt ≤ 194400) (h_x3l : 0 ≤ x3.toInt) (h_x3u : x3.toInt ≤ 194400) (h_x4l : 0 ≤ x4.toInt) (h_x4u : x4.toInt ≤ 5) (h_x5l : 0 ≤ x5.toInt) (h_x5u : x5.toInt ≤ 5) (hM39 : (5 - x5.toInt).toNat ≤ M39) : Ok (r_goesBy_39 k39 s x1 x2 x3 x4 x5) (Q_r_goesBy s0) := by
  unfold r_goesBy_39
  have a_1 : 0 ≤ (s.v 18).toInt ∧ (s.v 18).toInt ≤ 1 := hI_s.1 18
  refine ok_grd (vpb_ok (by omega) (by omega)) ?_
  have a_2 : ((s.f 20 (Int32.toNatClampNeg (s.v 18)))).toInt = wv s0 := wv_fr hF_s (by decide) (by decide)
  have a_3 : 0 ≤ ((s.f 20 (Int32.toNatClampNeg (s.v 18)))).toInt ∧ ((s.f 20 (Int32.toNatClampNeg (s.v 18)))).toInt ≤ 5 := hI_s.2 20 _
  refine ok_ite (fun c_4 => ?_) (fun c_4 => ?_)
  · have c_4 := tn_le (a := ((s.f 20 (Int32.toNatClampNeg (s.v 18)))).toInt) (b := (x5).toInt) rfl rfl c_4
    have a_5 : ((15 + x1)).toInt = 15 + (x1).toInt := tn_add (by decide) rfl (by omega) (by omega)
    refine ok_grd (vpb_ok (by omega) (by omega)) ?_
    refine ok_let (fun s4 hs4 => ?_)
    have hI_s4 : InvR s4 := by rw [← hs4]; exact hI_s.sfF (k := 44) rfl rfl
    have hF_s4 : FrR [42, 140, 141, 144] s0 s4 := by rw [← hs4]; exact hF_s.sf (k := 44) (by decide)
    have a_6 : (s4.v 18).toInt = (s.v 18).toInt := congrArg Int32.toInt (show s4.v 18 = s.v 18 by rw [← hs4]; rfl)
    refine ok_grd (vpb_ok (by omega) (by omega)) ?_
    have a_7 : ((s4.f 20 (Int32.toNatClampNeg (s4.v 18)))).toInt = wv s0 := wv_fr hF_s4 (by decide) (by decide)
    have a_8 : 0 ≤ ((s4.f 20 (Int32.toNatClampNeg (s4.v 18)))).toInt ∧ ((s4.f 20 (Int32.toNatClampNeg (s4.v 18)))).toInt ≤ 5 := hI_s4.2 20 _
    exact ok_some ⟨hI_s4, hF_s4, by show 0 ≤ ((s4.f 20 (Int32.toNatClampNeg (s4.v 18)))).toInt; omega, by show ((s4.f 20 (Int32.toNatClampNeg (s4.v 18)))).toInt ≤ 5; omega⟩
  · have c_4 := tn_nle (a := ((s.f 20 (Int32.toNatClampNeg (s.v 18)))).toInt) (b := (x5).toInt) rfl rfl c_4
    refine ok_bindI (ok_r_thingAt _ _ _ hI_s (hB.fr hF_s (by decide)) (by omega) (by omega) (by omega) (by omega)) (fun r8 s7 hc_9 => ?_)
    have hI_s7 : InvR s7 := hc_9.1
    have hFc_s7 : FrR [] s s7 := hc_9.2.1
    have hF_s7 : FrR [42, 140, 141, 144] s0 s7 := hF_s.trans hFc_s7 (by decide)
    have hl_r8 : 0 ≤ r8.toInt := hc_9.2.2.1
    have hu_r8 : r8.toInt ≤ 5 := hc_9.2.2.2
    refine ok_ite (fun c_10 => ?_) (fun c_10 => ?_)
    · have c_10 := tn_eq (a := (x5).toInt) (b := (x4).toInt) rfl rfl c_10
      have a_11 : ((15 + x1)).toInt = 15 + (x1).toInt := tn_add (by decide) rfl (by omega) (by omega)
      refine ok_grd (vpb_ok (by omega) (by omega)) ?_
      refine ok_let (fun s21 hs21 => ?_)
      have hI_s21 : InvR s21 := by rw [← hs21]; exact hI_s7.sfF (k := 44) rfl rfl
      have hF_s21 : FrR [42, 140, 141, 144] s0 s21 := by rw [← hs21]; exact hF_s7.sf (k := 44) (by decide)
      exact ok_some ⟨hI_s21, hF_s21, by show 0 ≤ (x5).toInt; omega, by show (x5).toInt ≤ 5; omega⟩
    · have c_10 := tn_ne (a := (x5).toInt) (b := (x4).toInt) rfl rfl c_10
      refine ok_bindI (ok_r_thingAt _ _ _ hI_s7 (hB.fr hF_s7 (by decide)) (by omega) (by omega) (by omega) (by omega)) (fun r11 s10 hc_12 => ?_)
      have hI_s10 : InvR s10 := hc_12.1
      have hFc_s10 : FrR [] s7 s10 := hc_12.2.1
      have hF_s10 : FrR [42, 140, 141, 144] s0 s10 := hF_s7.trans hFc_s10 (by decide)
      have hl_r11 : 0 ≤ r11.toInt := hc_12.2.2.1
      have hu_r11 : r11.toInt ≤ 5 := hc_12.2.2.2
      refine ok_ite (fun c_13 => ?_) (fun c_13 => ?_)
      · have c_13 := tn_eq (a := (r8).toInt) (b := (r11).toInt) rfl rfl c_13
        have a_14 : ((5 + x5)).toInt = 5 + (x5).toInt := tn_add (by decide) rfl (by omega) (by omega)
        refine ok_grd (vpb_ok (by omega) (by omega)) ?_
        refine ok_let (fun s14 hs14 => ?_)
        have hI_s14 : InvR s14 := by rw [← hs14]; exact hI_s10.sfF (k := 44) rfl rfl
        have hF_s14 : FrR [42, 140, 141, 144] s0 s14 := by rw [← hs14]; exact hF_s10.sf (k := 44) (by decide)
        have a_15 : ((x5 + 1)).toInt = (x5).toInt + 1 := tn_add rfl (by decide) (by omega) (by omega)
        exact hk39 _ _ _ _ _ _ hI_s14 hF_s14 (by omega) (by omega) (by omega) (by omega) (by omega) (by omega) (by omega) (by omega) (by omega) (by omega) (by omega)
      · have c_13 := tn_ne (a := (r8).toInt) (b := (r11).toInt) rfl rfl c_13
        refine ok_grd (vpb_ok (by omega) (by omega)) ?_
        refine ok_grd (vpb_ok (by omega) (by omega)) ?_
        refine ok_let (fun s18 hs18 => ?_)
        have hI_s18 : InvR s18 := by rw [← hs18]; exact hI_s10.sfF (k := 44) rfl rfl
        have hF_s18 : FrR [42, 140, 141, 144] s0 s18 := by rw [← hs18]; exact hF_s10.sf (k := 44) (by decide)
        exact ok_some ⟨hI_s18, hF_s18, by show 0 ≤ (x5).toInt; omega, by show (x5).toInt ≤ 5; omega⟩
theorem okL_r_goesBy_39 (s0 : RS) (hB : Big s0)  : ∀ (n : Nat) (s : RS) (x1 : Int32) (x2 : Int32) (x3 : Int32) (x4 : Int32) (x5 : Int32), (5 - x5.toInt).toNat < n → InvR s → FrR [42, 140, 141, 144] s0 s → 0 ≤ x1.toInt → x1.toInt ≤ 5 → 0 ≤ x2.toInt → x2.toInt ≤ 194400 → 0 ≤ x3.toInt → x3.toInt ≤ 194400 → 0 ≤ x4.toInt → x4.toInt ≤ 5 → 0 ≤ x5.toInt → x5.toInt ≤ 5 → Ok (r_goesBy_39L  n s x1 x2 x3 x4 x5) (Q_r_goesBy s0) := by
  intro n
  induction n with
  | zero => intro s x1 x2 x3 x4 x5 hn; omega
  | succ n ih =>
    intro s x1 x2 x3 x4 x5 hn hI_s hF_s h_x1l h_x1u h_x2l h_x2u h_x3l h_x3u h_x4l h_x4u h_x5l h_x5u 
    exact ok_r_goesBy_39 s0 hB (r_goesBy_39L  n) ((5 - x5.toInt).toNat) (fun zs zx1 zx2 zx3 zx4 zx5 g0 g1 g2 g3 g4 g5 g6 g7 g8 g9 g10 g11  hm => ih zs zx1 zx2 zx3 zx4 zx5 (by omega) g0 g1 g2 g3 g4 g5 g6 g7 g8 g9 g10 g11 ) s x1 x2 x3 x4 x5 hI_s hF_s h_x1l h_x1u h_x2l h_x2u h_x3l h_x3u h_x4l h_x4u h_x5l h_x5u (Nat.le_refl _)
set_option maxHeartbeats 1000000 in
theorem ok_r_goesByB (s0 : RS) (hB : Big s0)  (s : RS) (x1 : Int32) (x2 : Int32) (x3 : Int32) (hI_s : InvR s) (hF_s : FrR [42, 140, 141, 144] s0 s) (h_x1l : 0 ≤ x1.toInt) (h_x1u : x1.toInt ≤ 5) (h_x2l : 0 ≤ x2.toInt) (h_x2u : x2.toInt ≤ 194400) (h_x3l : 0 ≤ x3.toInt) (h_x3u : x3.toInt ≤ 194400)  : Ok (r_goesBy  s x1 x2 x3) (Q_r_goesBy s0) := by
  unfold r_goesBy
  refine ok_bindI (ok_r_bearsBy _ _ _ hI_s (hB.fr hF_s (by decide)) (by omega) (by omega) (by omega) (by omega)) (fun r2 s1 hc_1 => ?_)
  have hI_s1 : InvR s1 := hc_1.1
  have hFc_s1 : FrR [42, 140, 141] s s1 := hc_1.2.1
  have hF_s1 : FrR [42, 140, 141, 144] s0 s1 := hF_s.trans hFc_s1 (by decide)
  have hl_r2 : 0 ≤ r2.toInt := hc_1.2.2.1
  have hu_r2 : r2.toInt ≤ 5 := hc_1.2.2.2
  refine ok_bindI (ok_r_faresOf _ _ hI_s1 (hB.fr hF_s1 (by decide)) (by omega) (by omega)) (fun r4 s3 hc_2 => ?_)
  have hI_s3 : InvR s3 := hc_2.1
  have hFc_s3 : FrR [42, 140, 141] s1 s3 := hc_2.2.1
  have hF_s3 : FrR [42, 140, 141, 144] s0 s3 := hF_s1.trans hFc_s3 (by decide)
  have hl_r4 : 0 ≤ r4.toInt := hc_2.2.2.1
  have hu_r4 : r4.toInt ≤ 100 := hc_2.2.2.2
  refine ok_let (fun s5 hs5 => ?_)
  have hI_s5 : InvR s5 := by rw [← hs5]; exact hI_s3.sfF (k := 44) rfl rfl
  have hF_s5 : FrR [42, 140, 141, 144] s0 s5 := by rw [← hs5]; exact hF_s3.sf (k := 44) (by decide)
  have a_3 : ((21 + x1)).toInt = 21 + (x1).toInt := tn_add (by decide) rfl (by omega) (by omega)
  refine ok_grd (vpb_ok (by omega) (by omega)) ?_
  refine ok_grd (vpb_ok (by omega) (by omega)) ?_
  refine ok_let (fun s9 hs9 => ?_)
  have hI_s9 : InvR s9 := by rw [← hs9]; exact hI_s5.sfF (k := 44) rfl rfl
  have hF_s9 : FrR [42, 140, 141, 144] s0 s9 := by rw [← hs9]; exact hF_s5.sf (k := 44) (by decide)
  have l_0 : (0 : Int32).toInt = 0 := by decide
  exact okL_r_goesBy_39 s0 hB  fu _ _ _ _ _ _ (by unfold fu; omega) hI_s9 hF_s9 (by omega) (by omega) (by omega) (by omega) (by omega) (by omega) (by omega) (by omega) (by decide) (by decide) 
theorem ok_r_goesBy (s : RS) (x1 : Int32) (x2 : Int32) (x3 : Int32) (hI_s : InvR s) (hB : Big s) (h_x1l : 0 ≤ x1.toInt) (h_x1u : x1.toInt ≤ 5) (h_x2l : 0 ≤ x2.toInt) (h_x2u : x2.toInt ≤ 194400) (h_x3l : 0 ≤ x3.toInt) (h_x3u : x3.toInt ≤ 194400) : Ok (r_goesBy s x1 x2 x3) (Q_r_goesBy s) := ok_r_goesByB s hB s x1 x2 x3 hI_s FrR.rfl h_x1l h_x1u h_x2l h_x2u h_x3l h_x3u
noncomputable abbrev Q_r_yearGoes (s0 : RS) (y : RS) : Prop := InvR y ∧ FrR [42, 140, 141, 144, 147] s0 y
set_option maxHeartbeats 1000000 in
theorem ok_r_yearGoes_119 (s0 : RS) (hB : Big s0) (k64 : RS → Int32 → Option (RS)) (M64 : Nat) (hk64 : ∀ (s : RS) (x1 : Int32), InvR s → FrR [42, 140, 141, 144, 147] s0 s → 0 ≤ x1.toInt → x1.toInt ≤ 5 → (5 - x1.toInt).toNat < M64 → Ok (k64 s x1) (Q_r_yearGoes s0)) (s : RS) (x1 : Int32) (hI_s : InvR s) (hF_s : FrR [42, 140, 141, 144, 147] s0 s) (h_x1l : 0 ≤ x1.toInt) (h_x1u : x1.toInt ≤ 4) (hM64 : (5 - x1.toInt).toNat ≤ M64) : Ok (r_yearGoes_119 k64 s x1) (Q_r_yearGoes s0) := by
  unfold r_yearGoes_119
  have a_1 : ((x1 + 1)).toInt = (x1).toInt + 1 := tn_add rfl (by decide) (by omega) (by omega)
  exact hk64 _ _ hI_s hF_s (by omega) (by omega) (by omega)
set_option maxHeartbeats 1000000 in
theorem ok_r_yearGoes_64 (s0 : RS) (hB : Big s0) (k64 : RS → Int32 → Option (RS)) (M64 : Nat) (hk64 : ∀ (s : RS) (x1 : Int32), InvR s → FrR [42, 140, 141, 144, 147] s0 s → 0 ≤ x1.toInt → x1.toInt ≤ 5 → (5 - x1.toInt).toNat < M64 → Ok (k64 s x1) (Q_r_yearGoes s0)) (s : RS) (x1 : Int32) (hI_s : InvR s) (hF_s : FrR [42, 140, 141, 144, 147] s0 s) (h_x1l : 0 ≤ x1.toInt) (h_x1u : x1.toInt ≤ 5) (hM64 : (5 - x1.toInt).toNat ≤ M64) : Ok (r_yearGoes_64 k64 s x1) (Q_r_yearGoes s0) := by
  unfold r_yearGoes_64
  have a_1 : 0 ≤ (s.v 18).toInt ∧ (s.v 18).toInt ≤ 1 := hI_s.1 18
  refine ok_grd (vpb_ok (by omega) (by omega)) ?_
  have a_2 : ((s.f 20 (Int32.toNatClampNeg (s.v 18)))).toInt = wv s0 := wv_fr hF_s (by decide) (by decide)
  have a_3 : 0 ≤ ((s.f 20 (Int32.toNatClampNeg (s.v 18)))).toInt ∧ ((s.f 20 (Int32.toNatClampNeg (s.v 18)))).toInt ≤ 5 := hI_s.2 20 _
  refine ok_ite (fun c_4 => ?_) (fun c_4 => ?_)
  · have c_4 := tn_le (a := ((s.f 20 (Int32.toNatClampNeg (s.v 18)))).toInt) (b := (x1).toInt) rfl rfl c_4
    refine ok_let (fun s3 hs3 => ?_)
    have hI_s3 : InvR s3 := by rw [← hs3]; exact hI_s.sfF (k := 44) rfl rfl
    have hF_s3 : FrR [42, 140, 141, 144, 147] s0 s3 := by rw [← hs3]; exact hF_s.sf (k := 44) (by decide)
    exact ok_some ⟨hI_s3, hF_s3⟩
  · have c_4 := tn_nle (a := ((s.f 20 (Int32.toNatClampNeg (s.v 18)))).toInt) (b := (x1).toInt) rfl rfl c_4
    refine ok_grd (vpb_ok (by omega) (by omega)) ?_
    refine ok_ite (fun c_5 => ?_) (fun c_5 => ?_)
    · have c_5 := tn_eq (a := ((s.f 47 (Int32.toNatClampNeg x1))).toInt) (b := 0) rfl (by decide) c_5
      exact ok_r_yearGoes_119 s0 hB k64 M64 hk64 _ _ hI_s hF_s (by omega) (by omega) (by omega)
    · have c_5 := tn_ne (a := ((s.f 47 (Int32.toNatClampNeg x1))).toInt) (b := 0) rfl (by decide) c_5
      refine ok_grd (vpb_ok (by omega) (by omega)) ?_
      refine ok_let (fun s8 hs8 => ?_)
      have hI_s8 : InvR s8 := by rw [← hs8]; exact hI_s.sfF (k := 44) rfl rfl
      have hF_s8 : FrR [42, 140, 141, 144, 147] s0 s8 := by rw [← hs8]; exact hF_s.sf (k := 44) (by decide)
      have a_6 : ((5 + x1)).toInt = 5 + (x1).toInt := tn_add (by decide) rfl (by omega) (by omega)
      refine ok_grd (vpb_ok (by omega) (by omega)) ?_
      refine ok_let (fun s11 hs11 => ?_)
      have hI_s11 : InvR s11 := by rw [← hs11]; exact hI_s8.sfF (k := 44) rfl rfl
      have hF_s11 : FrR [42, 140, 141, 144, 147] s0 s11 := by rw [← hs11]; exact hF_s8.sf (k := 44) (by decide)
      have a_7 : ((10 + x1)).toInt = 10 + (x1).toInt := tn_add (by decide) rfl (by omega) (by omega)
      refine ok_grd (vpb_ok (by omega) (by omega)) ?_
      refine ok_grd (vpb_ok (by omega) (by omega)) ?_
      refine ok_let (fun s15 hs15 => ?_)
      have hI_s15 : InvR s15 := by rw [← hs15]; exact hI_s11.sfF (k := 44) rfl rfl
      have hF_s15 : FrR [42, 140, 141, 144, 147] s0 s15 := by rw [← hs15]; exact hF_s11.sf (k := 44) (by decide)
      exact ok_r_yearGoes_119 s0 hB k64 M64 hk64 _ _ hI_s15 hF_s15 (by omega) (by omega) (by omega)
theorem okL_r_yearGoes_64 (s0 : RS) (hB : Big s0)  : ∀ (n : Nat) (s : RS) (x1 : Int32), (5 - x1.toInt).toNat < n → InvR s → FrR [42, 140, 141, 144, 147] s0 s → 0 ≤ x1.toInt → x1.toInt ≤ 5 → Ok (r_yearGoes_64L  n s x1) (Q_r_yearGoes s0) := by
  intro n
  induction n with
  | zero => intro s x1 hn; omega
  | succ n ih =>
    intro s x1 hn hI_s hF_s h_x1l h_x1u 
    exact ok_r_yearGoes_64 s0 hB (r_yearGoes_64L  n) ((5 - x1.toInt).toNat) (fun zs zx1 g0 g1 g2 g3  hm => ih zs zx1 (by omega) g0 g1 g2 g3 ) s x1 hI_s hF_s h_x1l h_x1u (Nat.le_refl _)
set_option maxHeartbeats 1000000 in
theorem ok_r_yearGoes_55 (s0 : RS) (hB : Big s0) (k2 : RS → Int32 → Option (RS)) (M2 : Nat) (hk2 : ∀ (s : RS) (x1 : Int32), InvR s → FrR [42, 140, 141, 144, 147] s0 s → 0 ≤ x1.toInt → x1.toInt ≤ 5 → (5 - x1.toInt).toNat < M2 → Ok (k2 s x1) (Q_r_yearGoes s0)) (s : RS) (x1 : Int32) (t0 : Int32) (t1 : Int32) (hI_s : InvR s) (hF_s : FrR [42, 140, 141, 144, 147] s0 s) (h_x1l : 0 ≤ x1.toInt) (h_x1u : x1.toInt ≤ 4) (h_t0l : 0 ≤ t0.toInt) (h_t0u : t0.toInt ≤ 1) (h_t1l : 0 ≤ t1.toInt) (h_t1u : t1.toInt ≤ 4) (hM2 : (5 - x1.toInt).toNat ≤ M2) : Ok (r_yearGoes_55 k2 s x1 t0 t1) (Q_r_yearGoes s0) := by
  unfold r_yearGoes_55
  refine ok_grd (vpb_ok (by omega) (by omega)) ?_
  refine ok_let (fun s2 hs2 => ?_)
  have hI_s2 : InvR s2 := by rw [← hs2]; exact hI_s.sfF (k := 47) rfl rfl
  have hF_s2 : FrR [42, 140, 141, 144, 147] s0 s2 := by rw [← hs2]; exact hF_s.sf (k := 47) (by decide)
  have a_1 : ((x1 + 1)).toInt = (x1).toInt + 1 := tn_add rfl (by decide) (by omega) (by omega)
  exact hk2 _ _ hI_s2 hF_s2 (by omega) (by omega) (by omega)
set_option maxHeartbeats 1000000 in
theorem ok_r_yearGoes_2 (s0 : RS) (hB : Big s0) (k2 : RS → Int32 → Option (RS)) (M2 : Nat) (hk2 : ∀ (s : RS) (x1 : Int32), InvR s → FrR [42, 140, 141, 144, 147] s0 s → 0 ≤ x1.toInt → x1.toInt ≤ 5 → (5 - x1.toInt).toNat < M2 → Ok (k2 s x1) (Q_r_yearGoes s0)) (s : RS) (x1 : Int32) (hI_s : InvR s) (hF_s : FrR [42, 140, 141, 144, 147] s0 s) (h_x1l : 0 ≤ x1.toInt) (h_x1u : x1.toInt ≤ 5) (hM2 : (5 - x1.toInt).toNat ≤ M2) : Ok (r_yearGoes_2 k2 s x1) (Q_r_yearGoes s0) := by
  unfold r_yearGoes_2
  have a_1 : 0 ≤ (s.v 18).toInt ∧ (s.v 18).toInt ≤ 1 := hI_s.1 18
  refine ok_grd (vpb_ok (by omega) (by omega)) ?_
  have a_2 : ((s.f 20 (Int32.toNatClampNeg (s.v 18)))).toInt = wv s0 := wv_fr hF_s (by decide) (by decide)
  have a_3 : 0 ≤ ((s.f 20 (Int32.toNatClampNeg (s.v 18)))).toInt ∧ ((s.f 20 (Int32.toNatClampNeg (s.v 18)))).toInt ≤ 5 := hI_s.2 20 _
  refine ok_ite (fun c_4 => ?_) (fun c_4 => ?_)
  · have c_4 := tn_le (a := ((s.f 20 (Int32.toNatClampNeg (s.v 18)))).toInt) (b := (x1).toInt) rfl rfl c_4
    have l_0 : (0 : Int32).toInt = 0 := by decide
    exact okL_r_yearGoes_64 s0 hB  fu _ _ (by unfold fu; omega) hI_s hF_s (by decide) (by decide) 
  · have c_4 := tn_nle (a := ((s.f 20 (Int32.toNatClampNeg (s.v 18)))).toInt) (b := (x1).toInt) rfl rfl c_4
    refine ok_bindI (ok_r_lotOf _ _ _ hI_s (by decide) (by decide)) (fun r4 s3 hc_5 => ?_)
    have hI_s3 : InvR s3 := hc_5.1
    have hFc_s3 : FrR [] s s3 := hc_5.2.1
    have hF_s3 : FrR [42, 140, 141, 144, 147] s0 s3 := hF_s.trans hFc_s3 (by decide)
    refine ok_bindI (ok_r_shiftsOf _ _ hI_s3 (hB.fr hF_s3 (by decide)) (by omega) (by omega)) (fun r6 s5 hc_6 => ?_)
    have hI_s5 : InvR s5 := hc_6.1
    have hFc_s5 : FrR [42, 140, 141] s3 s5 := hc_6.2.1
    have hF_s5 : FrR [42, 140, 141, 144, 147] s0 s5 := hF_s3.trans hFc_s5 (by decide)
    have hl_r6 : 0 ≤ r6.toInt := hc_6.2.2.1
    have hu_r6 : r6.toInt ≤ 100 := hc_6.2.2.2
    refine ok_ite (fun c_7 => ?_) (fun c_7 => ?_)
    · have c_7 := tn_le (a := (r6).toInt) (b := (r4).toInt) rfl rfl c_7
      have l_0 : (0 : Int32).toInt = 0 := by decide
      exact ok_r_yearGoes_55 s0 hB k2 M2 hk2 _ _ _ _ hI_s5 hF_s5 (by omega) (by omega) (by decide) (by decide) (by omega) (by omega) (by omega)
    · have c_7 := tn_nle (a := (r6).toInt) (b := (r4).toInt) rfl rfl c_7
      have l_1 : (1 : Int32).toInt = 1 := by decide
      exact ok_r_yearGoes_55 s0 hB k2 M2 hk2 _ _ _ _ hI_s5 hF_s5 (by omega) (by omega) (by decide) (by decide) (by omega) (by omega) (by omega)
theorem okL_r_yearGoes_2 (s0 : RS) (hB : Big s0)  : ∀ (n : Nat) (s : RS) (x1 : Int32), (5 - x1.toInt).toNat < n → InvR s → FrR [42, 140, 141, 144, 147] s0 s → 0 ≤ x1.toInt → x1.toInt ≤ 5 → Ok (r_yearGoes_2L  n s x1) (Q_r_yearGoes s0) := by
  intro n
  induction n with
  | zero => intro s x1 hn; omega
  | succ n ih =>
    intro s x1 hn hI_s hF_s h_x1l h_x1u 
    exact ok_r_yearGoes_2 s0 hB (r_yearGoes_2L  n) ((5 - x1.toInt).toNat) (fun zs zx1 g0 g1 g2 g3  hm => ih zs zx1 (by omega) g0 g1 g2 g3 ) s x1 hI_s hF_s h_x1l h_x1u (Nat.le_refl _)
set_option maxHeartbeats 1000000 in
theorem ok_r_yearGoesB (s0 : RS) (hB : Big s0)  (s : RS) (hI_s : InvR s) (hF_s : FrR [42, 140, 141, 144, 147] s0 s)  : Ok (r_yearGoes  s) (Q_r_yearGoes s0) := by
  unfold r_yearGoes
  have l_0 : (0 : Int32).toInt = 0 := by decide
  exact okL_r_yearGoes_2 s0 hB  fu _ _ (by unfold fu; omega) hI_s hF_s (by decide) (by decide) 
theorem ok_r_yearGoes (s : RS) (hI_s : InvR s) (hB : Big s) : Ok (r_yearGoes s) (Q_r_yearGoes s) := ok_r_yearGoesB s hB s hI_s FrR.rfl
noncomputable abbrev Q_r_yearsGo (s0 : RS) (y : RS) : Prop := InvR y ∧ FrR [42, 140, 141, 144, 147] s0 y
set_option maxHeartbeats 1000000 in
theorem ok_r_yearsGo_2 (s0 : RS) (hB : Big s0) (k2 : RS → Int32 → Int32 → Option (RS)) (M2 : Nat) (hk2 : ∀ (s : RS) (x1 : Int32) (x2 : Int32), InvR s → FrR [42, 140, 141, 144, 147] s0 s → 0 ≤ x1.toInt → x1.toInt ≤ 40 → 0 ≤ x2.toInt → x2.toInt ≤ 40 → (40 - x2.toInt).toNat < M2 → Ok (k2 s x1 x2) (Q_r_yearsGo s0)) (s : RS) (x1 : Int32) (x2 : Int32) (hI_s : InvR s) (hF_s : FrR [42, 140, 141, 144, 147] s0 s) (h_x1l : 0 ≤ x1.toInt) (h_x1u : x1.toInt ≤ 40) (h_x2l : 0 ≤ x2.toInt) (h_x2u : x2.toInt ≤ 40) (hM2 : (40 - x2.toInt).toNat ≤ M2) : Ok (r_yearsGo_2 k2 s x1 x2) (Q_r_yearsGo s0) := by
  unfold r_yearsGo_2
  refine ok_ite (fun c_1 => ?_) (fun c_1 => ?_)
  · have c_1 := tn_le (a := (x1).toInt) (b := (x2).toInt) rfl rfl c_1
    exact ok_some ⟨hI_s, hF_s⟩
  · have c_1 := tn_nle (a := (x1).toInt) (b := (x2).toInt) rfl rfl c_1
    refine ok_bindP (ok_r_yearGoes _  hI_s (hB.fr hF_s (by decide))) (fun s2 hc_2 => ?_)
    have hI_s2 : InvR s2 := hc_2.1
    have hFc_s2 : FrR [42, 140, 141, 144, 147] s s2 := hc_2.2
    have hF_s2 : FrR [42, 140, 141, 144, 147] s0 s2 := hF_s.trans hFc_s2 (by decide)
    have a_3 : ((x2 + 1)).toInt = (x2).toInt + 1 := tn_add rfl (by decide) (by omega) (by omega)
    exact hk2 _ _ _ hI_s2 hF_s2 (by omega) (by omega) (by omega) (by omega) (by omega)
theorem okL_r_yearsGo_2 (s0 : RS) (hB : Big s0)  : ∀ (n : Nat) (s : RS) (x1 : Int32) (x2 : Int32), (40 - x2.toInt).toNat < n → InvR s → FrR [42, 140, 141, 144, 147] s0 s → 0 ≤ x1.toInt → x1.toInt ≤ 40 → 0 ≤ x2.toInt → x2.toInt ≤ 40 → Ok (r_yearsGo_2L  n s x1 x2) (Q_r_yearsGo s0) := by
  intro n
  induction n with
  | zero => intro s x1 x2 hn; omega
  | succ n ih =>
    intro s x1 x2 hn hI_s hF_s h_x1l h_x1u h_x2l h_x2u 
    exact ok_r_yearsGo_2 s0 hB (r_yearsGo_2L  n) ((40 - x2.toInt).toNat) (fun zs zx1 zx2 g0 g1 g2 g3 g4 g5  hm => ih zs zx1 zx2 (by omega) g0 g1 g2 g3 g4 g5 ) s x1 x2 hI_s hF_s h_x1l h_x1u h_x2l h_x2u (Nat.le_refl _)
set_option maxHeartbeats 1000000 in
theorem ok_r_yearsGoB (s0 : RS) (hB : Big s0)  (s : RS) (x1 : Int32) (hI_s : InvR s) (hF_s : FrR [42, 140, 141, 144, 147] s0 s) (h_x1l : 0 ≤ x1.toInt) (h_x1u : x1.toInt ≤ 40)  : Ok (r_yearsGo  s x1) (Q_r_yearsGo s0) := by
  unfold r_yearsGo
  have l_0 : (0 : Int32).toInt = 0 := by decide
  exact okL_r_yearsGo_2 s0 hB  fu _ _ _ (by unfold fu; omega) hI_s hF_s (by omega) (by omega) (by decide) (by decide) 
theorem ok_r_yearsGo (s : RS) (x1 : Int32) (hI_s : InvR s) (hB : Big s) (h_x1l : 0 ≤ x1.toInt) (h_x1u : x1.toInt ≤ 40) : Ok (r_yearsGo s x1) (Q_r_yearsGo s) := ok_r_yearsGoB s hB s x1 hI_s FrR.rfl h_x1l h_x1u
noncomputable abbrev Q_r_wave (s0 : RS) (y : Int32 × RS) : Prop := InvR y.2 ∧ FrR [42, 45, 140, 141, 144] s0 y.2 ∧ -2147483648 ≤ y.1.toInt ∧ y.1.toInt ≤ 2147483647
set_option maxHeartbeats 1000000 in
theorem ok_r_waveB (s0 : RS) (hB : Big s0)  (s : RS) (x1 : Int32) (x2 : Int32) (hI_s : InvR s) (hF_s : FrR [42, 45, 140, 141, 144] s0 s)  : Ok (r_wave  s x1 x2) (Q_r_wave s0) := by
  unfold r_wave
  refine ok_bindI (ok_r_isWave _ _ hI_s) (fun r2 s1 hc_1 => ?_)
  have hI_s1 : InvR s1 := hc_1.1
  have hFc_s1 : FrR [] s s1 := hc_1.2.1
  have hF_s1 : FrR [42, 45, 140, 141, 144] s0 s1 := hF_s.trans hFc_s1 (by decide)
  have a_2 : wv s = wv s0 := wv_fr hF_s (by decide) (by decide)
  have hl_r2 : 0 ≤ r2.toInt := hc_1.2.2.1
  have hu_r2 : r2.toInt ≤ 1 := hc_1.2.2.2.1
  have hx0_r2 : (¬ r2.toInt = 0 → 0 ≤ (x1).toInt ∧ (x1).toInt < wv s ∧ wv s ≤ 5) := hc_1.2.2.2.2
  refine ok_ite (fun c_3 => ?_) (fun c_3 => ?_)
  · have c_3 := tn_eq (a := (r2).toInt) (b := 0) rfl (by decide) c_3
    exact ok_some ⟨hI_s1, hF_s1, (ti_rng _).1, (ti_rng _).2⟩
  · have c_3 := tn_ne (a := (r2).toInt) (b := 0) rfl (by decide) c_3
    refine ok_bindP (ok_r_copies _  hI_s1) (fun s4 hc_4 => ?_)
    have hI_s4 : InvR s4 := hc_4.1
    have hFc_s4 : FrR [45, 144] s1 s4 := hc_4.2
    have hF_s4 : FrR [42, 45, 140, 141, 144] s0 s4 := hF_s1.trans hFc_s4 (by decide)
    refine ok_ite (fun c_5 => ?_) (fun c_5 => ?_)
    · have c_5 := tn_eq (a := (x2).toInt) (b := 0) rfl (by decide) c_5
      refine ok_bindI (ok_r_mayAt _ _ hI_s4 (by omega) (by omega)) (fun r7 s6 hc_6 => ?_)
      have hI_s6 : InvR s6 := hc_6.1
      have hFc_s6 : FrR [] s4 s6 := hc_6.2.1
      have hF_s6 : FrR [42, 45, 140, 141, 144] s0 s6 := hF_s4.trans hFc_s6 (by decide)
      exact ok_some ⟨hI_s6, hF_s6, (ti_rng _).1, (ti_rng _).2⟩
    · have c_5 := tn_ne (a := (x2).toInt) (b := 0) rfl (by decide) c_5
      refine ok_ite (fun c_7 => ?_) (fun c_7 => ?_)
      · have c_7 := tn_eq (a := (x2).toInt) (b := 1) rfl (by decide) c_7
        have a_8 : ((5 + x1)).toInt = 5 + (x1).toInt := tn_add (by decide) rfl (by omega) (by omega)
        refine ok_grd (vpb_ok (by omega) (by omega)) ?_
        exact ok_some ⟨hI_s4, hF_s4, (ti_rng _).1, (ti_rng _).2⟩
      · have c_7 := tn_ne (a := (x2).toInt) (b := 1) rfl (by decide) c_7
        refine ok_ite (fun c_9 => ?_) (fun c_9 => ?_)
        · have c_9 := tn_eq (a := (x2).toInt) (b := 2) rfl (by decide) c_9
          refine ok_grd (vpb_ok (by omega) (by omega)) ?_
          exact ok_some ⟨hI_s4, hF_s4, (ti_rng _).1, (ti_rng _).2⟩
        · have c_9 := tn_ne (a := (x2).toInt) (b := 2) rfl (by decide) c_9
          refine ok_ite (fun c_10 => ?_) (fun c_10 => ?_)
          · have c_10 := tn_eq (a := (x2).toInt) (b := 3) rfl (by decide) c_10
            have a_11 : ((10 + x1)).toInt = 10 + (x1).toInt := tn_add (by decide) rfl (by omega) (by omega)
            refine ok_grd (vpb_ok (by omega) (by omega)) ?_
            exact ok_some ⟨hI_s4, hF_s4, (ti_rng _).1, (ti_rng _).2⟩
          · have c_10 := tn_ne (a := (x2).toInt) (b := 3) rfl (by decide) c_10
            refine ok_ite (fun c_12 => ?_) (fun c_12 => ?_)
            · have c_12 := tn_eq (a := (x2).toInt) (b := 4) rfl (by decide) c_12
              have a_14 : wv s4 = wv s0 := wv_fr hF_s4 (by decide) (by decide)
              refine ok_bindI (ok_r_thereAt _ _ hI_s4 (hB.fr hF_s4 (by decide)) (by omega) (by omega) (by omega)) (fun r16 s15 hc_13 => ?_)
              have hI_s15 : InvR s15 := hc_13.1
              have hFc_s15 : FrR [] s4 s15 := hc_13.2.1
              have hF_s15 : FrR [42, 45, 140, 141, 144] s0 s15 := hF_s4.trans hFc_s15 (by decide)
              have hl_r16 : 0 ≤ r16.toInt := hc_13.2.2.1
              have hu_r16 : r16.toInt ≤ 5 := hc_13.2.2.2
              exact ok_some ⟨hI_s15, hF_s15, (ti_rng _).1, (ti_rng _).2⟩
            · have c_12 := tn_ne (a := (x2).toInt) (b := 4) rfl (by decide) c_12
              refine ok_ite (fun c_15 => ?_) (fun c_15 => ?_)
              · have c_15 := tn_eq (a := (x2).toInt) (b := 5) rfl (by decide) c_15
                refine ok_bindI (ok_r_shiftsOf _ _ hI_s4 (hB.fr hF_s4 (by decide)) (by omega) (by omega)) (fun r19 s18 hc_16 => ?_)
                have hI_s18 : InvR s18 := hc_16.1
                have hFc_s18 : FrR [42, 140, 141] s4 s18 := hc_16.2.1
                have hF_s18 : FrR [42, 45, 140, 141, 144] s0 s18 := hF_s4.trans hFc_s18 (by decide)
                have hl_r19 : 0 ≤ r19.toInt := hc_16.2.2.1
                have hu_r19 : r19.toInt ≤ 100 := hc_16.2.2.2
                exact ok_some ⟨hI_s18, hF_s18, (ti_rng _).1, (ti_rng _).2⟩
              · have c_15 := tn_ne (a := (x2).toInt) (b := 5) rfl (by decide) c_15
                exact ok_some ⟨hI_s4, hF_s4, (ti_rng _).1, (ti_rng _).2⟩
theorem ok_r_wave (s : RS) (x1 : Int32) (x2 : Int32) (hI_s : InvR s) (hB : Big s) : Ok (r_wave s x1 x2) (Q_r_wave s) := ok_r_waveB s hB s x1 x2 hI_s FrR.rfl
noncomputable abbrev Q_r_odds (s0 : RS) (y : Int32 × RS) : Prop := InvR y.2 ∧ FrR [] s0 y.2 ∧ -2147483648 ≤ y.1.toInt ∧ y.1.toInt ≤ 2147483647
set_option maxHeartbeats 1000000 in
theorem ok_r_oddsB (s0 : RS)  (s : RS) (x1 : Int32) (x2 : Int32) (hI_s : InvR s) (hF_s : FrR [] s0 s)  : Ok (r_odds  s x1 x2) (Q_r_odds s0) := by
  unfold r_odds
  refine ok_bindI (ok_r_isWave _ _ hI_s) (fun r2 s1 hc_1 => ?_)
  have hI_s1 : InvR s1 := hc_1.1
  have hFc_s1 : FrR [] s s1 := hc_1.2.1
  have hF_s1 : FrR [] s0 s1 := hF_s.trans hFc_s1 (by decide)
  have a_2 : wv s = wv s0 := wv_fr hF_s (by decide) (by decide)
  have hl_r2 : 0 ≤ r2.toInt := hc_1.2.2.1
  have hu_r2 : r2.toInt ≤ 1 := hc_1.2.2.2.1
  have hx0_r2 : (¬ r2.toInt = 0 → 0 ≤ (x1).toInt ∧ (x1).toInt < wv s ∧ wv s ≤ 5) := hc_1.2.2.2.2
  refine ok_ite (fun c_3 => ?_) (fun c_3 => ?_)
  · have c_3 := tn_eq (a := (r2).toInt) (b := 0) rfl (by decide) c_3
    exact ok_some ⟨hI_s1, hF_s1, (ti_rng _).1, (ti_rng _).2⟩
  · have c_3 := tn_ne (a := (r2).toInt) (b := 0) rfl (by decide) c_3
    refine ok_bindP (ok_r_isThing _ ) (fun r4 hc_4 => ?_)
    have hl_r4 : 0 ≤ r4.toInt := hc_4.1
    have hu_r4 : r4.toInt ≤ 1 := hc_4.2.1
    have hx0_r4 : (¬ r4.toInt = 0 → 0 ≤ (x2).toInt ∧ (x2).toInt ≤ 5) := hc_4.2.2
    refine ok_ite (fun c_5 => ?_) (fun c_5 => ?_)
    · have c_5 := tn_eq (a := (r4).toInt) (b := 0) rfl (by decide) c_5
      exact ok_some ⟨hI_s1, hF_s1, (ti_rng _).1, (ti_rng _).2⟩
    · have c_5 := tn_ne (a := (r4).toInt) (b := 0) rfl (by decide) c_5
      refine ok_bindI (ok_r_oddsAt _ _ _ hI_s1 (by omega) (by omega) (by omega) (by omega)) (fun r7 s6 hc_6 => ?_)
      have hI_s6 : InvR s6 := hc_6.1
      have hFc_s6 : FrR [] s1 s6 := hc_6.2.1
      have hF_s6 : FrR [] s0 s6 := hF_s1.trans hFc_s6 (by decide)
      exact ok_some ⟨hI_s6, hF_s6, (ti_rng _).1, (ti_rng _).2⟩
theorem ok_r_odds (s : RS) (x1 : Int32) (x2 : Int32) (hI_s : InvR s) : Ok (r_odds s x1 x2) (Q_r_odds s) := ok_r_oddsB s s x1 x2 hI_s FrR.rfl
noncomputable abbrev Q_r_party (s0 : RS) (y : Int32 × RS) : Prop := InvR y.2 ∧ FrR [42, 45, 140, 141, 144] s0 y.2 ∧ -2147483648 ≤ y.1.toInt ∧ y.1.toInt ≤ 2147483647
set_option maxHeartbeats 1000000 in
theorem ok_r_partyB (s0 : RS) (hB : Big s0)  (s : RS) (x1 : Int32) (x2 : Int32) (hI_s : InvR s) (hF_s : FrR [42, 45, 140, 141, 144] s0 s)  : Ok (r_party  s x1 x2) (Q_r_party s0) := by
  unfold r_party
  refine ok_bindI (ok_r_isParty _ _ hI_s) (fun r2 s1 hc_1 => ?_)
  have hI_s1 : InvR s1 := hc_1.1
  have hFc_s1 : FrR [] s s1 := hc_1.2.1
  have hF_s1 : FrR [42, 45, 140, 141, 144] s0 s1 := hF_s.trans hFc_s1 (by decide)
  have hl_r2 : 0 ≤ r2.toInt := hc_1.2.2.1
  have hu_r2 : r2.toInt ≤ 1 := hc_1.2.2.2.1
  have hx0_r2 : (¬ r2.toInt = 0 → 0 ≤ (x1).toInt ∧ (x1).toInt ≤ 5) := hc_1.2.2.2.2
  refine ok_ite (fun c_2 => ?_) (fun c_2 => ?_)
  · have c_2 := tn_eq (a := (r2).toInt) (b := 0) rfl (by decide) c_2
    exact ok_some ⟨hI_s1, hF_s1, (ti_rng _).1, (ti_rng _).2⟩
  · have c_2 := tn_ne (a := (r2).toInt) (b := 0) rfl (by decide) c_2
    refine ok_bindP (ok_r_copies _  hI_s1) (fun s4 hc_3 => ?_)
    have hI_s4 : InvR s4 := hc_3.1
    have hFc_s4 : FrR [45, 144] s1 s4 := hc_3.2
    have hF_s4 : FrR [42, 45, 140, 141, 144] s0 s4 := hF_s1.trans hFc_s4 (by decide)
    refine ok_ite (fun c_4 => ?_) (fun c_4 => ?_)
    · have c_4 := tn_eq (a := (x2).toInt) (b := 0) rfl (by decide) c_4
      have a_5 : 0 ≤ (s.v 18).toInt ∧ (s.v 18).toInt ≤ 1 := hI_s.1 18
      have a_6 : (s1.v 18).toInt = (s.v 18).toInt := congrArg Int32.toInt (hFc_s1.1 18 (by decide))
      have a_7 : (s4.v 18).toInt = (s1.v 18).toInt := congrArg Int32.toInt (hFc_s4.1 18 (by decide))
      have a_8 : ((6 * (s4.v 18))).toInt = ((s4.v 18)).toInt * 6 := ti_cmul (c := 6) (by decide) (by omega) (by omega)
      have a_9 : (((6 * (s4.v 18)) + x1)).toInt = ((6 * (s4.v 18))).toInt + (x1).toInt := tn_add rfl rfl (by omega) (by omega)
      refine ok_grd (vpb_ok (by omega) (by omega)) ?_
      exact ok_some ⟨hI_s4, hF_s4, (ti_rng _).1, (ti_rng _).2⟩
    · have c_4 := tn_ne (a := (x2).toInt) (b := 0) rfl (by decide) c_4
      refine ok_ite (fun c_10 => ?_) (fun c_10 => ?_)
      · have c_10 := tn_eq (a := (x2).toInt) (b := 1) rfl (by decide) c_10
        have a_11 : 0 ≤ (s.v 18).toInt ∧ (s.v 18).toInt ≤ 1 := hI_s.1 18
        have a_12 : (s1.v 18).toInt = (s.v 18).toInt := congrArg Int32.toInt (hFc_s1.1 18 (by decide))
        have a_13 : (s4.v 18).toInt = (s1.v 18).toInt := congrArg Int32.toInt (hFc_s4.1 18 (by decide))
        have a_14 : ((6 * (s4.v 18))).toInt = ((s4.v 18)).toInt * 6 := ti_cmul (c := 6) (by decide) (by omega) (by omega)
        have a_15 : (((6 * (s4.v 18)) + x1)).toInt = ((6 * (s4.v 18))).toInt + (x1).toInt := tn_add rfl rfl (by omega) (by omega)
        refine ok_grd (vpb_ok (by omega) (by omega)) ?_
        exact ok_some ⟨hI_s4, hF_s4, (ti_rng _).1, (ti_rng _).2⟩
      · have c_10 := tn_ne (a := (x2).toInt) (b := 1) rfl (by decide) c_10
        refine ok_ite (fun c_16 => ?_) (fun c_16 => ?_)
        · have c_16 := tn_eq (a := (x2).toInt) (b := 2) rfl (by decide) c_16
          have a_17 : ((15 + x1)).toInt = 15 + (x1).toInt := tn_add (by decide) rfl (by omega) (by omega)
          refine ok_grd (vpb_ok (by omega) (by omega)) ?_
          exact ok_some ⟨hI_s4, hF_s4, (ti_rng _).1, (ti_rng _).2⟩
        · have c_16 := tn_ne (a := (x2).toInt) (b := 2) rfl (by decide) c_16
          refine ok_ite (fun c_18 => ?_) (fun c_18 => ?_)
          · have c_18 := tn_eq (a := (x2).toInt) (b := 3) rfl (by decide) c_18
            have a_19 : ((21 + x1)).toInt = 21 + (x1).toInt := tn_add (by decide) rfl (by omega) (by omega)
            refine ok_grd (vpb_ok (by omega) (by omega)) ?_
            exact ok_some ⟨hI_s4, hF_s4, (ti_rng _).1, (ti_rng _).2⟩
          · have c_18 := tn_ne (a := (x2).toInt) (b := 3) rfl (by decide) c_18
            refine ok_ite (fun c_20 => ?_) (fun c_20 => ?_)
            · have c_20 := tn_eq (a := (x2).toInt) (b := 4) rfl (by decide) c_20
              refine ok_bindI (ok_r_faresOf _ _ hI_s4 (hB.fr hF_s4 (by decide)) (by omega) (by omega)) (fun r15 s14 hc_21 => ?_)
              have hI_s14 : InvR s14 := hc_21.1
              have hFc_s14 : FrR [42, 140, 141] s4 s14 := hc_21.2.1
              have hF_s14 : FrR [42, 45, 140, 141, 144] s0 s14 := hF_s4.trans hFc_s14 (by decide)
              have hl_r15 : 0 ≤ r15.toInt := hc_21.2.2.1
              have hu_r15 : r15.toInt ≤ 100 := hc_21.2.2.2
              exact ok_some ⟨hI_s14, hF_s14, (ti_rng _).1, (ti_rng _).2⟩
            · have c_20 := tn_ne (a := (x2).toInt) (b := 4) rfl (by decide) c_20
              refine ok_ite (fun c_22 => ?_) (fun c_22 => ?_)
              · have c_22 := tn_eq (a := (x2).toInt) (b := 5) rfl (by decide) c_22
                refine ok_bindI (ok_r_doesDare _ _ hI_s4 (hB.fr hF_s4 (by decide)) (by omega) (by omega)) (fun r18 s17 hc_23 => ?_)
                have hI_s17 : InvR s17 := hc_23.1
                have hFc_s17 : FrR [42, 140, 141] s4 s17 := hc_23.2.1
                have hF_s17 : FrR [42, 45, 140, 141, 144] s0 s17 := hF_s4.trans hFc_s17 (by decide)
                have hl_r18 : 0 ≤ r18.toInt := hc_23.2.2.1
                have hu_r18 : r18.toInt ≤ 1 := hc_23.2.2.2
                refine ok_ite (fun c_24 => ?_) (fun c_24 => ?_)
                · have c_24 := tn_eq (a := (r18).toInt) (b := 0) rfl (by decide) c_24
                  exact ok_some ⟨hI_s17, hF_s17, (ti_rng _).1, (ti_rng _).2⟩
                · have c_24 := tn_ne (a := (r18).toInt) (b := 0) rfl (by decide) c_24
                  exact ok_some ⟨hI_s17, hF_s17, (ti_rng _).1, (ti_rng _).2⟩
              · have c_22 := tn_ne (a := (x2).toInt) (b := 5) rfl (by decide) c_22
                exact ok_some ⟨hI_s4, hF_s4, (ti_rng _).1, (ti_rng _).2⟩
theorem ok_r_party (s : RS) (x1 : Int32) (x2 : Int32) (hI_s : InvR s) (hB : Big s) : Ok (r_party s x1 x2) (Q_r_party s) := ok_r_partyB s hB s x1 x2 hI_s FrR.rfl
noncomputable abbrev Q_r_needs (s0 : RS) (y : Int32 × RS) : Prop := InvR y.2 ∧ FrR [42, 45, 140, 141, 144] s0 y.2 ∧ -1 ≤ y.1.toInt ∧ y.1.toInt ≤ 100
set_option maxHeartbeats 1000000 in
theorem ok_r_needsB (s0 : RS) (hB : Big s0)  (s : RS) (x1 : Int32) (x2 : Int32) (x3 : Int32) (hI_s : InvR s) (hF_s : FrR [42, 45, 140, 141, 144] s0 s)  : Ok (r_needs  s x1 x2 x3) (Q_r_needs s0) := by
  unfold r_needs
  refine ok_bindI (ok_r_isParty _ _ hI_s) (fun r2 s1 hc_1 => ?_)
  have hI_s1 : InvR s1 := hc_1.1
  have hFc_s1 : FrR [] s s1 := hc_1.2.1
  have hF_s1 : FrR [42, 45, 140, 141, 144] s0 s1 := hF_s.trans hFc_s1 (by decide)
  have hl_r2 : 0 ≤ r2.toInt := hc_1.2.2.1
  have hu_r2 : r2.toInt ≤ 1 := hc_1.2.2.2.1
  have hx0_r2 : (¬ r2.toInt = 0 → 0 ≤ (x1).toInt ∧ (x1).toInt ≤ 5) := hc_1.2.2.2.2
  refine ok_ite (fun c_2 => ?_) (fun c_2 => ?_)
  · have c_2 := tn_eq (a := (r2).toInt) (b := 0) rfl (by decide) c_2
    exact ok_some ⟨hI_s1, hF_s1, by show -1 ≤ ((-1) : Int32).toInt; decide, by show ((-1) : Int32).toInt ≤ 100; decide⟩
  · have c_2 := tn_ne (a := (r2).toInt) (b := 0) rfl (by decide) c_2
    refine ok_bindI (ok_r_isWave _ _ hI_s1) (fun r5 s4 hc_3 => ?_)
    have hI_s4 : InvR s4 := hc_3.1
    have hFc_s4 : FrR [] s1 s4 := hc_3.2.1
    have hF_s4 : FrR [42, 45, 140, 141, 144] s0 s4 := hF_s1.trans hFc_s4 (by decide)
    have a_4 : wv s1 = wv s0 := wv_fr hF_s1 (by decide) (by decide)
    have hl_r5 : 0 ≤ r5.toInt := hc_3.2.2.1
    have hu_r5 : r5.toInt ≤ 1 := hc_3.2.2.2.1
    have hx0_r5 : (¬ r5.toInt = 0 → 0 ≤ (x2).toInt ∧ (x2).toInt < wv s1 ∧ wv s1 ≤ 5) := hc_3.2.2.2.2
    refine ok_ite (fun c_5 => ?_) (fun c_5 => ?_)
    · have c_5 := tn_eq (a := (r5).toInt) (b := 0) rfl (by decide) c_5
      exact ok_some ⟨hI_s4, hF_s4, by show -1 ≤ ((-1) : Int32).toInt; decide, by show ((-1) : Int32).toInt ≤ 100; decide⟩
    · have c_5 := tn_ne (a := (r5).toInt) (b := 0) rfl (by decide) c_5
      refine ok_bindP (ok_r_isThing _ ) (fun r7 hc_6 => ?_)
      have hl_r7 : 0 ≤ r7.toInt := hc_6.1
      have hu_r7 : r7.toInt ≤ 1 := hc_6.2.1
      have hx0_r7 : (¬ r7.toInt = 0 → 0 ≤ (x3).toInt ∧ (x3).toInt ≤ 5) := hc_6.2.2
      refine ok_ite (fun c_7 => ?_) (fun c_7 => ?_)
      · have c_7 := tn_eq (a := (r7).toInt) (b := 0) rfl (by decide) c_7
        exact ok_some ⟨hI_s4, hF_s4, by show -1 ≤ ((-1) : Int32).toInt; decide, by show ((-1) : Int32).toInt ≤ 100; decide⟩
      · have c_7 := tn_ne (a := (r7).toInt) (b := 0) rfl (by decide) c_7
        refine ok_bindP (ok_r_copies _  hI_s4) (fun s9 hc_8 => ?_)
        have hI_s9 : InvR s9 := hc_8.1
        have hFc_s9 : FrR [45, 144] s4 s9 := hc_8.2
        have hF_s9 : FrR [42, 45, 140, 141, 144] s0 s9 := hF_s4.trans hFc_s9 (by decide)
        refine ok_bindI (ok_r_needsOf _ _ _ _ hI_s9 (hB.fr hF_s9 (by decide)) (by omega) (by omega) (by omega) (by omega) (by omega) (by omega)) (fun r11 s10 hc_9 => ?_)
        have hI_s10 : InvR s10 := hc_9.1
        have hFc_s10 : FrR [42, 140, 141] s9 s10 := hc_9.2.1
        have hF_s10 : FrR [42, 45, 140, 141, 144] s0 s10 := hF_s9.trans hFc_s10 (by decide)
        have hl_r11 : 0 ≤ r11.toInt := hc_9.2.2.1
        have hu_r11 : r11.toInt ≤ 100 := hc_9.2.2.2
        exact ok_some ⟨hI_s10, hF_s10, by show -1 ≤ (r11).toInt; omega, by show (r11).toInt ≤ 100; omega⟩
theorem ok_r_needs (s : RS) (x1 : Int32) (x2 : Int32) (x3 : Int32) (hI_s : InvR s) (hB : Big s) : Ok (r_needs s x1 x2 x3) (Q_r_needs s) := ok_r_needsB s hB s x1 x2 x3 hI_s FrR.rfl
noncomputable abbrev Q_r_records (s0 : RS) (y : RS) : Prop := InvR y ∧ FrR [48, 143, 149] s0 y
set_option maxHeartbeats 1000000 in
theorem ok_r_records_51 (s0 : RS) (k51 : RS → Int32 → Option (RS)) (M51 : Nat) (hk51 : ∀ (s : RS) (x1 : Int32), InvR s → FrR [48, 143, 149] s0 s → 0 ≤ x1.toInt → x1.toInt ≤ 29 → (s.v 48).toInt ≤ 39 → (29 - x1.toInt).toNat < M51 → Ok (k51 s x1) (Q_r_records s0)) (s : RS) (x1 : Int32) (hI_s : InvR s) (hF_s : FrR [48, 143, 149] s0 s) (h_x1l : 0 ≤ x1.toInt) (h_x1u : x1.toInt ≤ 29) (h_v48u : (s.v 48).toInt ≤ 39) (hM51 : (29 - x1.toInt).toNat ≤ M51) : Ok (r_records_51 k51 s x1) (Q_r_records s0) := by
  unfold r_records_51
  refine ok_ite (fun c_1 => ?_) (fun c_1 => ?_)
  · have c_1 := tn_le (a := 29) (b := (x1).toInt) (by decide) rfl c_1
    refine ok_let (fun s2 hs2 => ?_)
    have a_2 : 0 ≤ (s.v 48).toInt ∧ (s.v 48).toInt ≤ 40 := hI_s.1 48
    have a_3 : (((s.v 48) + 1)).toInt = ((s.v 48)).toInt + 1 := tn_add rfl (by decide) (by omega) (by omega)
    have hI_s2 : InvR s2 := by rw [← hs2]; exact hI_s.sv (k := 48) (show (0 : Int) ≤ (((s.v 48) + 1)).toInt by omega) (show (((s.v 48) + 1)).toInt ≤ (40 : Int) by omega)
    have hF_s2 : FrR [48, 143, 149] s0 s2 := by rw [← hs2]; exact hF_s.sv (k := 48) (by decide)
    refine ok_bindP (ok_r_keepsRow _  hI_s2) (fun s4 hc_4 => ?_)
    have hI_s4 : InvR s4 := hc_4.1
    have hFc_s4 : FrR [143] s2 s4 := hc_4.2
    have hF_s4 : FrR [48, 143, 149] s0 s4 := hF_s2.trans hFc_s4 (by decide)
    exact ok_some ⟨hI_s4, hF_s4⟩
  · have c_1 := tn_nle (a := 29) (b := (x1).toInt) (by decide) rfl c_1
    refine ok_grd (vpb_ok (by omega) (by omega)) ?_
    have a_5 : 0 ≤ (s.v 48).toInt ∧ (s.v 48).toInt ≤ 40 := hI_s.1 48
    have a_6 : ((29 * (s.v 48))).toInt = ((s.v 48)).toInt * 29 := ti_cmul (c := 29) (by decide) (by omega) (by omega)
    have a_7 : (((29 * (s.v 48)) + x1)).toInt = ((29 * (s.v 48))).toInt + (x1).toInt := tn_add rfl rfl (by omega) (by omega)
    refine ok_grd (vpb_ok (by omega) (by omega)) ?_
    refine ok_let (fun s7 hs7 => ?_)
    have hI_s7 : InvR s7 := by rw [← hs7]; exact hI_s.sfF (k := 49) rfl rfl
    have hF_s7 : FrR [48, 143, 149] s0 s7 := by rw [← hs7]; exact hF_s.sf (k := 49) (by decide)
    have a_8 : ((x1 + 1)).toInt = (x1).toInt + 1 := tn_add rfl (by decide) (by omega) (by omega)
    have a_9 : (s7.v 48).toInt = (s.v 48).toInt := congrArg Int32.toInt (show s7.v 48 = s.v 48 by rw [← hs7]; rfl)
    exact hk51 _ _ hI_s7 hF_s7 (by omega) (by omega) (by omega) (by omega)
theorem okL_r_records_51 (s0 : RS)  : ∀ (n : Nat) (s : RS) (x1 : Int32), (29 - x1.toInt).toNat < n → InvR s → FrR [48, 143, 149] s0 s → 0 ≤ x1.toInt → x1.toInt ≤ 29 → (s.v 48).toInt ≤ 39 → Ok (r_records_51L  n s x1) (Q_r_records s0) := by
  intro n
  induction n with
  | zero => intro s x1 hn; omega
  | succ n ih =>
    intro s x1 hn hI_s hF_s h_x1l h_x1u h_v48u 
    exact ok_r_records_51 s0 (r_records_51L  n) ((29 - x1.toInt).toNat) (fun zs zx1 g0 g1 g2 g3 g4  hm => ih zs zx1 (by omega) g0 g1 g2 g3 g4 ) s x1 hI_s hF_s h_x1l h_x1u h_v48u (Nat.le_refl _)
set_option maxHeartbeats 1000000 in
theorem ok_r_records_49 (s0 : RS)  (s : RS) (hI_s : InvR s) (hF_s : FrR [48, 143, 149] s0 s) (h_v48u : (s.v 48).toInt ≤ 39)  : Ok (r_records_49  s) (Q_r_records s0) := by
  unfold r_records_49
  have a_1 : 0 ≤ (s.v 48).toInt ∧ (s.v 48).toInt ≤ 40 := hI_s.1 48
  have l_0 : (0 : Int32).toInt = 0 := by decide
  exact okL_r_records_51 s0  fu _ _ (by unfold fu; omega) hI_s hF_s (by decide) (by decide) (by omega) 
set_option maxHeartbeats 1000000 in
theorem ok_r_records_11 (s0 : RS) (k11 : RS → Int32 → Option (RS)) (M11 : Nat) (hk11 : ∀ (s : RS) (x1 : Int32), InvR s → FrR [48, 143, 149] s0 s → 0 ≤ x1.toInt → x1.toInt ≤ 1131 → 40 ≤ (s.v 48).toInt → (1131 - x1.toInt).toNat < M11 → Ok (k11 s x1) (Q_r_records s0)) (s : RS) (x1 : Int32) (hI_s : InvR s) (hF_s : FrR [48, 143, 149] s0 s) (h_x1l : 0 ≤ x1.toInt) (h_x1u : x1.toInt ≤ 1131) (h_v48l : 40 ≤ (s.v 48).toInt) (hM11 : (1131 - x1.toInt).toNat ≤ M11) : Ok (r_records_11 k11 s x1) (Q_r_records s0) := by
  unfold r_records_11
  refine ok_ite (fun c_1 => ?_) (fun c_1 => ?_)
  · have c_1 := tn_le (a := 1131) (b := (x1).toInt) (by decide) rfl c_1
    refine ok_let (fun s2 hs2 => ?_)
    have a_2 : 0 ≤ (s.v 48).toInt ∧ (s.v 48).toInt ≤ 40 := hI_s.1 48
    have a_3 : (((s.v 48) - 1)).toInt = ((s.v 48)).toInt - 1 := tn_sub rfl (by decide) (by omega) (by omega)
    have hI_s2 : InvR s2 := by rw [← hs2]; exact hI_s.sv (k := 48) (show (0 : Int) ≤ (((s.v 48) - 1)).toInt by omega) (show (((s.v 48) - 1)).toInt ≤ (40 : Int) by omega)
    have hF_s2 : FrR [48, 143, 149] s0 s2 := by rw [← hs2]; exact hF_s.sv (k := 48) (by decide)
    have a_4 : (s2.v 48).toInt = (((s.v 48) - 1)).toInt := (congrArg Int32.toInt (show s2.v 48 = ((s.v 48) - 1) by rw [← hs2]; rfl)).trans rfl
    exact ok_r_records_49 s0  _ hI_s2 hF_s2 (by omega) 
  · have c_1 := tn_nle (a := 1131) (b := (x1).toInt) (by decide) rfl c_1
    have a_5 : ((x1 + 29)).toInt = (x1).toInt + 29 := tn_add rfl (by decide) (by omega) (by omega)
    refine ok_grd (vpb_ok (by omega) (by omega)) ?_
    refine ok_grd (vpb_ok (by omega) (by omega)) ?_
    refine ok_let (fun s6 hs6 => ?_)
    have hI_s6 : InvR s6 := by rw [← hs6]; exact hI_s.sfF (k := 49) rfl rfl
    have hF_s6 : FrR [48, 143, 149] s0 s6 := by rw [← hs6]; exact hF_s.sf (k := 49) (by decide)
    have a_6 : ((x1 + 1)).toInt = (x1).toInt + 1 := tn_add rfl (by decide) (by omega) (by omega)
    have a_7 : 0 ≤ (s.v 48).toInt ∧ (s.v 48).toInt ≤ 40 := hI_s.1 48
    have a_8 : (s6.v 48).toInt = (s.v 48).toInt := congrArg Int32.toInt (show s6.v 48 = s.v 48 by rw [← hs6]; rfl)
    exact hk11 _ _ hI_s6 hF_s6 (by omega) (by omega) (by omega) (by omega)
theorem okL_r_records_11 (s0 : RS)  : ∀ (n : Nat) (s : RS) (x1 : Int32), (1131 - x1.toInt).toNat < n → InvR s → FrR [48, 143, 149] s0 s → 0 ≤ x1.toInt → x1.toInt ≤ 1131 → 40 ≤ (s.v 48).toInt → Ok (r_records_11L  n s x1) (Q_r_records s0) := by
  intro n
  induction n with
  | zero => intro s x1 hn; omega
  | succ n ih =>
    intro s x1 hn hI_s hF_s h_x1l h_x1u h_v48l 
    exact ok_r_records_11 s0 (r_records_11L  n) ((1131 - x1.toInt).toNat) (fun zs zx1 g0 g1 g2 g3 g4  hm => ih zs zx1 (by omega) g0 g1 g2 g3 g4 ) s x1 hI_s hF_s h_x1l h_x1u h_v48l (Nat.le_refl _)
set_option maxHeartbeats 1000000 in
theorem ok_r_recordsB (s0 : RS)  (s : RS) (hI_s : InvR s) (hF_s : FrR [48, 143, 149] s0 s)  : Ok (r_records  s) (Q_r_records s0) := by
  unfold r_records
  have a_1 : 0 ≤ (s.v 48).toInt ∧ (s.v 48).toInt ≤ 40 := hI_s.1 48
  refine ok_ite (fun c_2 => ?_) (fun c_2 => ?_)
  · have c_2 := tn_eq (a := ((s.v 48)).toInt) (b := 40) rfl (by decide) c_2
    have l_0 : (0 : Int32).toInt = 0 := by decide
    exact okL_r_records_11 s0  fu _ _ (by unfold fu; omega) hI_s hF_s (by decide) (by decide) (by omega) 
  · have c_2 := tn_ne (a := ((s.v 48)).toInt) (b := 40) rfl (by decide) c_2
    exact ok_r_records_49 s0  _ hI_s hF_s (by omega) 
theorem ok_r_records (s : RS) (hI_s : InvR s) : Ok (r_records s) (Q_r_records s) := ok_r_recordsB s s hI_s FrR.rfl
noncomputable abbrev Q_r_isHere (s0 : RS) (x1 : Int32) (y : Int32 × RS) : Prop := InvR y.2 ∧ FrR [] s0 y.2 ∧ 0 ≤ y.1.toInt ∧ y.1.toInt ≤ 1 ∧ (¬ y.1.toInt = 0 → 0 ≤ (x1).toInt ∧ (x1).toInt ≤ 5)
set_option maxHeartbeats 1000000 in
theorem ok_r_isHereB (s0 : RS)  (s : RS) (x1 : Int32) (hI_s : InvR s) (hF_s : FrR [] s0 s)  : Ok (r_isHere  s x1) (Q_r_isHere s0 x1) := by
  unfold r_isHere
  refine ok_bindI (ok_r_isParty _ _ hI_s) (fun r2 s1 hc_1 => ?_)
  have hI_s1 : InvR s1 := hc_1.1
  have hFc_s1 : FrR [] s s1 := hc_1.2.1
  have hF_s1 : FrR [] s0 s1 := hF_s.trans hFc_s1 (by decide)
  have hl_r2 : 0 ≤ r2.toInt := hc_1.2.2.1
  have hu_r2 : r2.toInt ≤ 1 := hc_1.2.2.2.1
  have hx0_r2 : (¬ r2.toInt = 0 → 0 ≤ (x1).toInt ∧ (x1).toInt ≤ 5) := hc_1.2.2.2.2
  refine ok_ite (fun c_2 => ?_) (fun c_2 => ?_)
  · have c_2 := tn_eq (a := (r2).toInt) (b := 0) rfl (by decide) c_2
    exact ok_some ⟨hI_s1, hF_s1, by show 0 ≤ (0 : Int32).toInt; decide, by show (0 : Int32).toInt ≤ 1; decide, by show (¬ (0 : Int32).toInt = 0 → 0 ≤ (x1).toInt ∧ (x1).toInt ≤ 5); have l := (by decide : (0 : Int32).toInt = 0); omega⟩
  · have c_2 := tn_ne (a := (r2).toInt) (b := 0) rfl (by decide) c_2
    have a_3 : ((15 + x1)).toInt = 15 + (x1).toInt := tn_add (by decide) rfl (by omega) (by omega)
    refine ok_grd (vpb_ok (by omega) (by omega)) ?_
    refine ok_ite (fun c_4 => ?_) (fun c_4 => ?_)
    · have c_4 := tn_eq (a := ((s1.f 43 (Int32.toNatClampNeg (15 + x1)))).toInt) (b := 0) rfl (by decide) c_4
      exact ok_some ⟨hI_s1, hF_s1, by show 0 ≤ (1 : Int32).toInt; decide, by show (1 : Int32).toInt ≤ 1; decide, by show (¬ (1 : Int32).toInt = 0 → 0 ≤ (x1).toInt ∧ (x1).toInt ≤ 5); have l := (by decide : (1 : Int32).toInt = 1); omega⟩
    · have c_4 := tn_ne (a := ((s1.f 43 (Int32.toNatClampNeg (15 + x1)))).toInt) (b := 0) rfl (by decide) c_4
      exact ok_some ⟨hI_s1, hF_s1, by show 0 ≤ (0 : Int32).toInt; decide, by show (0 : Int32).toInt ≤ 1; decide, by show (¬ (0 : Int32).toInt = 0 → 0 ≤ (x1).toInt ∧ (x1).toInt ≤ 5); have l := (by decide : (0 : Int32).toInt = 0); omega⟩
theorem ok_r_isHere (s : RS) (x1 : Int32) (hI_s : InvR s) : Ok (r_isHere s x1) (Q_r_isHere s x1) := ok_r_isHereB s s x1 hI_s FrR.rfl
noncomputable abbrev Q_r_go (s0 : RS) (y : Int32 × RS) : Prop := InvR y.2 ∧ FrR [42, 45, 48, 140, 141, 143, 144, 149] s0 y.2 ∧ -1 ≤ y.1.toInt ∧ y.1.toInt ≤ 5
set_option maxHeartbeats 1000000 in
theorem ok_r_goB (s0 : RS) (hB : Big s0)  (s : RS) (x1 : Int32) (x2 : Int32) (hI_s : InvR s) (hF_s : FrR [42, 45, 48, 140, 141, 143, 144, 149] s0 s)  : Ok (r_go  s x1 x2) (Q_r_go s0) := by
  unfold r_go
  refine ok_bindI (ok_r_isHere _ _ hI_s) (fun r2 s1 hc_1 => ?_)
  have hI_s1 : InvR s1 := hc_1.1
  have hFc_s1 : FrR [] s s1 := hc_1.2.1
  have hF_s1 : FrR [42, 45, 48, 140, 141, 143, 144, 149] s0 s1 := hF_s.trans hFc_s1 (by decide)
  have hl_r2 : 0 ≤ r2.toInt := hc_1.2.2.1
  have hu_r2 : r2.toInt ≤ 1 := hc_1.2.2.2.1
  have hx0_r2 : (¬ r2.toInt = 0 → 0 ≤ (x1).toInt ∧ (x1).toInt ≤ 5) := hc_1.2.2.2.2
  refine ok_ite (fun c_2 => ?_) (fun c_2 => ?_)
  · have c_2 := tn_eq (a := (r2).toInt) (b := 0) rfl (by decide) c_2
    exact ok_some ⟨hI_s1, hF_s1, by show -1 ≤ ((-1) : Int32).toInt; decide, by show ((-1) : Int32).toInt ≤ 5; decide⟩
  · have c_2 := tn_ne (a := (r2).toInt) (b := 0) rfl (by decide) c_2
    have a_3 : 0 ≤ (s.v 18).toInt ∧ (s.v 18).toInt ≤ 1 := hI_s.1 18
    have a_4 : (s1.v 18).toInt = (s.v 18).toInt := congrArg Int32.toInt (hFc_s1.1 18 (by decide))
    refine ok_grd (vpb_ok (by omega) (by omega)) ?_
    have a_5 : ((s1.f 20 (Int32.toNatClampNeg (s1.v 18)))).toInt = wv s0 := wv_fr hF_s1 (by decide) (by decide)
    have a_6 : 0 ≤ ((s1.f 20 (Int32.toNatClampNeg (s1.v 18)))).toInt ∧ ((s1.f 20 (Int32.toNatClampNeg (s1.v 18)))).toInt ≤ 5 := hI_s1.2 20 _
    refine ok_ite (fun c_7 => ?_) (fun c_7 => ?_)
    · have c_7 := tn_eq (a := ((s1.f 20 (Int32.toNatClampNeg (s1.v 18)))).toInt) (b := 0) rfl (by decide) c_7
      exact ok_some ⟨hI_s1, hF_s1, by show -1 ≤ ((-1) : Int32).toInt; decide, by show ((-1) : Int32).toInt ≤ 5; decide⟩
    · have c_7 := tn_ne (a := ((s1.f 20 (Int32.toNatClampNeg (s1.v 18)))).toInt) (b := 0) rfl (by decide) c_7
      refine ok_bindI (ok_r_isGuess _ _ hI_s1 (hB.fr hF_s1 (by decide))) (fun r7 s6 hc_8 => ?_)
      have hI_s6 : InvR s6 := hc_8.1
      have hFc_s6 : FrR [] s1 s6 := hc_8.2.1
      have hF_s6 : FrR [42, 45, 48, 140, 141, 143, 144, 149] s0 s6 := hF_s1.trans hFc_s6 (by decide)
      have hl_r7 : 0 ≤ r7.toInt := hc_8.2.2.1
      have hu_r7 : r7.toInt ≤ 1 := hc_8.2.2.2.1
      have hx0_r7 : (¬ r7.toInt = 0 → 0 ≤ (x2).toInt ∧ (x2).toInt ≤ 7775) := hc_8.2.2.2.2
      refine ok_ite (fun c_9 => ?_) (fun c_9 => ?_)
      · have c_9 := tn_eq (a := (r7).toInt) (b := 0) rfl (by decide) c_9
        exact ok_some ⟨hI_s6, hF_s6, by show -1 ≤ ((-1) : Int32).toInt; decide, by show ((-1) : Int32).toInt ≤ 5; decide⟩
      · have c_9 := tn_ne (a := (r7).toInt) (b := 0) rfl (by decide) c_9
        refine ok_bindP (ok_r_copies _  hI_s6) (fun s9 hc_10 => ?_)
        have hI_s9 : InvR s9 := hc_10.1
        have hFc_s9 : FrR [45, 144] s6 s9 := hc_10.2
        have hF_s9 : FrR [42, 45, 48, 140, 141, 143, 144, 149] s0 s9 := hF_s6.trans hFc_s9 (by decide)
        refine ok_bindI (ok_r_thereNumber _  hI_s9 (hB.fr hF_s9 (by decide))) (fun r11 s10 hc_11 => ?_)
        have hI_s10 : InvR s10 := hc_11.1
        have hFc_s10 : FrR [] s9 s10 := hc_11.2.1
        have hF_s10 : FrR [42, 45, 48, 140, 141, 143, 144, 149] s0 s10 := hF_s9.trans hFc_s10 (by decide)
        have hl_r11 : 0 ≤ r11.toInt := hc_11.2.2.1
        have hu_r11 : r11.toInt ≤ 194400 := hc_11.2.2.2
        refine ok_bindI (ok_r_goesBy _ _ _ _ hI_s10 (hB.fr hF_s10 (by decide)) (by omega) (by omega) (by omega) (by omega) (by omega) (by omega)) (fun r13 s12 hc_12 => ?_)
        have hI_s12 : InvR s12 := hc_12.1
        have hFc_s12 : FrR [42, 140, 141, 144] s10 s12 := hc_12.2.1
        have hF_s12 : FrR [42, 45, 48, 140, 141, 143, 144, 149] s0 s12 := hF_s10.trans hFc_s12 (by decide)
        have hl_r13 : 0 ≤ r13.toInt := hc_12.2.2.1
        have hu_r13 : r13.toInt ≤ 5 := hc_12.2.2.2
        refine ok_bindP (ok_r_records _  hI_s12) (fun s14 hc_13 => ?_)
        have hI_s14 : InvR s14 := hc_13.1
        have hFc_s14 : FrR [48, 143, 149] s12 s14 := hc_13.2
        have hF_s14 : FrR [42, 45, 48, 140, 141, 143, 144, 149] s0 s14 := hF_s12.trans hFc_s14 (by decide)
        exact ok_some ⟨hI_s14, hF_s14, by show -1 ≤ (r13).toInt; omega, by show (r13).toInt ≤ 5; omega⟩
theorem ok_r_go (s : RS) (x1 : Int32) (x2 : Int32) (hI_s : InvR s) (hB : Big s) : Ok (r_go s x1 x2) (Q_r_go s) := ok_r_goB s hB s x1 x2 hI_s FrR.rfl
noncomputable abbrev Q_r_buoy (s0 : RS) (y : Int32 × RS) : Prop := InvR y.2 ∧ FrR [45, 48, 143, 144, 149] s0 y.2 ∧ 0 ≤ y.1.toInt ∧ y.1.toInt ≤ 1
set_option maxHeartbeats 1000000 in
theorem ok_r_buoy_34 (s0 : RS)  (s : RS) (x1 : Int32) (x2 : Int32) (x3 : Int32) (t0 : Int32) (hI_s : InvR s) (hF_s : FrR [45, 48, 143, 144, 149] s0 s) (h_x1l : 0 ≤ x1.toInt) (h_x1u : x1.toInt ≤ 4) (h_x2l : 0 ≤ x2.toInt) (h_x2u : x2.toInt ≤ 5) (h_t0l : 0 ≤ t0.toInt) (h_t0u : t0.toInt ≤ 1)  : Ok (r_buoy_34  s x1 x2 x3 t0) (Q_r_buoy s0) := by
  unfold r_buoy_34
  refine ok_ite (fun c_1 => ?_) (fun c_1 => ?_)
  · have c_1 := tn_eq (a := (t0).toInt) (b := (x3).toInt) rfl rfl c_1
    exact ok_some ⟨hI_s, hF_s, by show 0 ≤ (0 : Int32).toInt; decide, by show (0 : Int32).toInt ≤ 1; decide⟩
  · have c_1 := tn_ne (a := (t0).toInt) (b := (x3).toInt) rfl rfl c_1
    refine ok_bindP (ok_r_copies _  hI_s) (fun s2 hc_2 => ?_)
    have hI_s2 : InvR s2 := hc_2.1
    have hFc_s2 : FrR [45, 144] s s2 := hc_2.2
    have hF_s2 : FrR [45, 48, 143, 144, 149] s0 s2 := hF_s.trans hFc_s2 (by decide)
    refine ok_grd (vpb_ok (by omega) (by omega)) ?_
    refine ok_grd (vpb_ok (by omega) (by omega)) ?_
    refine ok_let (fun s5 hs5 => ?_)
    have hI_s5 : InvR s5 := by rw [← hs5]; exact hI_s2.sfF (k := 44) rfl rfl
    have hF_s5 : FrR [45, 48, 143, 144, 149] s0 s5 := by rw [← hs5]; exact hF_s2.sf (k := 44) (by decide)
    refine ok_bindP (ok_r_records _  hI_s5) (fun s7 hc_3 => ?_)
    have hI_s7 : InvR s7 := hc_3.1
    have hFc_s7 : FrR [48, 143, 149] s5 s7 := hc_3.2
    have hF_s7 : FrR [45, 48, 143, 144, 149] s0 s7 := hF_s5.trans hFc_s7 (by decide)
    exact ok_some ⟨hI_s7, hF_s7, by show 0 ≤ (1 : Int32).toInt; decide, by show (1 : Int32).toInt ≤ 1; decide⟩
set_option maxHeartbeats 1000000 in
theorem ok_r_buoyB (s0 : RS)  (s : RS) (x1 : Int32) (x2 : Int32) (x3 : Int32) (hI_s : InvR s) (hF_s : FrR [45, 48, 143, 144, 149] s0 s)  : Ok (r_buoy  s x1 x2 x3) (Q_r_buoy s0) := by
  unfold r_buoy
  refine ok_bindI (ok_r_isWave _ _ hI_s) (fun r2 s1 hc_1 => ?_)
  have hI_s1 : InvR s1 := hc_1.1
  have hFc_s1 : FrR [] s s1 := hc_1.2.1
  have hF_s1 : FrR [45, 48, 143, 144, 149] s0 s1 := hF_s.trans hFc_s1 (by decide)
  have a_2 : wv s = wv s0 := wv_fr hF_s (by decide) (by decide)
  have hl_r2 : 0 ≤ r2.toInt := hc_1.2.2.1
  have hu_r2 : r2.toInt ≤ 1 := hc_1.2.2.2.1
  have hx0_r2 : (¬ r2.toInt = 0 → 0 ≤ (x1).toInt ∧ (x1).toInt < wv s ∧ wv s ≤ 5) := hc_1.2.2.2.2
  refine ok_ite (fun c_3 => ?_) (fun c_3 => ?_)
  · have c_3 := tn_eq (a := (r2).toInt) (b := 0) rfl (by decide) c_3
    exact ok_some ⟨hI_s1, hF_s1, by show 0 ≤ (0 : Int32).toInt; decide, by show (0 : Int32).toInt ≤ 1; decide⟩
  · have c_3 := tn_ne (a := (r2).toInt) (b := 0) rfl (by decide) c_3
    refine ok_bindP (ok_r_isThing _ ) (fun r4 hc_4 => ?_)
    have hl_r4 : 0 ≤ r4.toInt := hc_4.1
    have hu_r4 : r4.toInt ≤ 1 := hc_4.2.1
    have hx0_r4 : (¬ r4.toInt = 0 → 0 ≤ (x2).toInt ∧ (x2).toInt ≤ 5) := hc_4.2.2
    refine ok_ite (fun c_5 => ?_) (fun c_5 => ?_)
    · have c_5 := tn_eq (a := (r4).toInt) (b := 0) rfl (by decide) c_5
      exact ok_some ⟨hI_s1, hF_s1, by show 0 ≤ (0 : Int32).toInt; decide, by show (0 : Int32).toInt ≤ 1; decide⟩
    · have c_5 := tn_ne (a := (r4).toInt) (b := 0) rfl (by decide) c_5
      refine ok_grd (vpb_ok (by omega) (by omega)) ?_
      have a_6 := ti_and1 (((s1.f 43 (Int32.toNatClampNeg x1)) >>> (x2 &&& 31)))
      refine ok_ite (fun c_7 => ?_) (fun c_7 => ?_)
      · have c_7 := tn_eq (a := ((((s1.f 43 (Int32.toNatClampNeg x1)) >>> (x2 &&& 31)) &&& 1)).toInt) (b := 1) rfl (by decide) c_7
        have l_1 : (1 : Int32).toInt = 1 := by decide
        exact ok_r_buoy_34 s0  _ _ _ _ _ hI_s1 hF_s1 (by omega) (by omega) (by omega) (by omega) (by decide) (by decide) 
      · have c_7 := tn_ne (a := ((((s1.f 43 (Int32.toNatClampNeg x1)) >>> (x2 &&& 31)) &&& 1)).toInt) (b := 1) rfl (by decide) c_7
        have l_0 : (0 : Int32).toInt = 0 := by decide
        exact ok_r_buoy_34 s0  _ _ _ _ _ hI_s1 hF_s1 (by omega) (by omega) (by omega) (by omega) (by decide) (by decide) 
theorem ok_r_buoy (s : RS) (x1 : Int32) (x2 : Int32) (x3 : Int32) (hI_s : InvR s) : Ok (r_buoy s x1 x2 x3) (Q_r_buoy s) := ok_r_buoyB s s x1 x2 x3 hI_s FrR.rfl
noncomputable abbrev Q_r_fetch (s0 : RS) (y : Int32 × RS) : Prop := InvR y.2 ∧ FrR [45, 48, 143, 144, 149] s0 y.2 ∧ 0 ≤ y.1.toInt ∧ y.1.toInt ≤ 1
set_option maxHeartbeats 1000000 in
theorem ok_r_fetchB (s0 : RS)  (s : RS) (x1 : Int32) (hI_s : InvR s) (hF_s : FrR [45, 48, 143, 144, 149] s0 s)  : Ok (r_fetch  s x1) (Q_r_fetch s0) := by
  unfold r_fetch
  refine ok_bindI (ok_r_isParty _ _ hI_s) (fun r2 s1 hc_1 => ?_)
  have hI_s1 : InvR s1 := hc_1.1
  have hFc_s1 : FrR [] s s1 := hc_1.2.1
  have hF_s1 : FrR [45, 48, 143, 144, 149] s0 s1 := hF_s.trans hFc_s1 (by decide)
  have hl_r2 : 0 ≤ r2.toInt := hc_1.2.2.1
  have hu_r2 : r2.toInt ≤ 1 := hc_1.2.2.2.1
  have hx0_r2 : (¬ r2.toInt = 0 → 0 ≤ (x1).toInt ∧ (x1).toInt ≤ 5) := hc_1.2.2.2.2
  refine ok_ite (fun c_2 => ?_) (fun c_2 => ?_)
  · have c_2 := tn_eq (a := (r2).toInt) (b := 0) rfl (by decide) c_2
    exact ok_some ⟨hI_s1, hF_s1, by show 0 ≤ (0 : Int32).toInt; decide, by show (0 : Int32).toInt ≤ 1; decide⟩
  · have c_2 := tn_ne (a := (r2).toInt) (b := 0) rfl (by decide) c_2
    have a_3 : ((15 + x1)).toInt = 15 + (x1).toInt := tn_add (by decide) rfl (by omega) (by omega)
    refine ok_grd (vpb_ok (by omega) (by omega)) ?_
    refine ok_ite (fun c_4 => ?_) (fun c_4 => ?_)
    · have c_4 := tn_eq (a := ((s1.f 43 (Int32.toNatClampNeg (15 + x1)))).toInt) (b := 0) rfl (by decide) c_4
      exact ok_some ⟨hI_s1, hF_s1, by show 0 ≤ (0 : Int32).toInt; decide, by show (0 : Int32).toInt ≤ 1; decide⟩
    · have c_4 := tn_ne (a := ((s1.f 43 (Int32.toNatClampNeg (15 + x1)))).toInt) (b := 0) rfl (by decide) c_4
      refine ok_bindP (ok_r_copies _  hI_s1) (fun s6 hc_5 => ?_)
      have hI_s6 : InvR s6 := hc_5.1
      have hFc_s6 : FrR [45, 144] s1 s6 := hc_5.2
      have hF_s6 : FrR [45, 48, 143, 144, 149] s0 s6 := hF_s1.trans hFc_s6 (by decide)
      refine ok_grd (vpb_ok (by omega) (by omega)) ?_
      refine ok_let (fun s8 hs8 => ?_)
      have hI_s8 : InvR s8 := by rw [← hs8]; exact hI_s6.sfF (k := 44) rfl rfl
      have hF_s8 : FrR [45, 48, 143, 144, 149] s0 s8 := by rw [← hs8]; exact hF_s6.sf (k := 44) (by decide)
      refine ok_bindP (ok_r_records _  hI_s8) (fun s10 hc_6 => ?_)
      have hI_s10 : InvR s10 := hc_6.1
      have hFc_s10 : FrR [48, 143, 149] s8 s10 := hc_6.2
      have hF_s10 : FrR [45, 48, 143, 144, 149] s0 s10 := hF_s8.trans hFc_s10 (by decide)
      exact ok_some ⟨hI_s10, hF_s10, by show 0 ≤ (1 : Int32).toInt; decide, by show (1 : Int32).toInt ≤ 1; decide⟩
theorem ok_r_fetch (s : RS) (x1 : Int32) (hI_s : InvR s) : Ok (r_fetch s x1) (Q_r_fetch s) := ok_r_fetchB s s x1 hI_s FrR.rfl
noncomputable abbrev Q_r_isLong (x0 : Int32) (y : Int32) : Prop := 0 ≤ y.toInt ∧ y.toInt ≤ 1 ∧ (¬ y.toInt = 0 → 0 ≤ (x0).toInt ∧ (x0).toInt ≤ 40)
set_option maxHeartbeats 1000000 in
theorem ok_r_isLongB  (x0 : Int32)   : Ok (r_isLong  x0) (Q_r_isLong x0) := by
  unfold r_isLong
  refine ok_bindP (ok_r_in _ _ _ (by decide) (by decide) (by decide) (by decide)) (fun r1 hc_1 => ?_)
  have l_0 : (0 : Int32).toInt = 0 := by decide
  have l_40 : (40 : Int32).toInt = 40 := by decide
  have hl_r1 : 0 ≤ r1.toInt := hc_1.1
  have hu_r1 : r1.toInt ≤ 1 := hc_1.2.1
  have hx0_r1 : (¬ r1.toInt = 0 → (0 : Int32).toInt ≤ (x0).toInt ∧ (x0).toInt ≤ (40 : Int32).toInt) := hc_1.2.2
  refine ok_grd (ti_z01 (by omega) (by omega)) ?_
  exact ok_some ⟨by show 0 ≤ (r1).toInt; omega, by show (r1).toInt ≤ 1; omega, by show (¬ (r1).toInt = 0 → 0 ≤ (x0).toInt ∧ (x0).toInt ≤ 40); omega⟩
theorem ok_r_isLong (x0 : Int32)  : Ok (r_isLong x0) (Q_r_isLong x0) := ok_r_isLongB x0 
noncomputable abbrev Q_r_years (s0 : RS) (y : Int32 × RS) : Prop := InvR y.2 ∧ FrR [42, 45, 48, 140, 141, 143, 144, 147, 149] s0 y.2 ∧ -2147483648 ≤ y.1.toInt ∧ y.1.toInt ≤ 2147483647
set_option maxHeartbeats 1000000 in
theorem ok_r_yearsB (s0 : RS) (hB : Big s0)  (s : RS) (x1 : Int32) (hI_s : InvR s) (hF_s : FrR [42, 45, 48, 140, 141, 143, 144, 147, 149] s0 s)  : Ok (r_years  s x1) (Q_r_years s0) := by
  unfold r_years
  refine ok_bindP (ok_r_isLong _ ) (fun r1 hc_1 => ?_)
  have hl_r1 : 0 ≤ r1.toInt := hc_1.1
  have hu_r1 : r1.toInt ≤ 1 := hc_1.2.1
  have hx0_r1 : (¬ r1.toInt = 0 → 0 ≤ (x1).toInt ∧ (x1).toInt ≤ 40) := hc_1.2.2
  refine ok_ite (fun c_2 => ?_) (fun c_2 => ?_)
  · have c_2 := tn_eq (a := (r1).toInt) (b := 0) rfl (by decide) c_2
    exact ok_some ⟨hI_s, hF_s, (ti_rng _).1, (ti_rng _).2⟩
  · have c_2 := tn_ne (a := (r1).toInt) (b := 0) rfl (by decide) c_2
    refine ok_ite (fun c_3 => ?_) (fun c_3 => ?_)
    · have c_3 := tn_eq (a := (x1).toInt) (b := 0) rfl (by decide) c_3
      exact ok_some ⟨hI_s, hF_s, (ti_rng _).1, (ti_rng _).2⟩
    · have c_3 := tn_ne (a := (x1).toInt) (b := 0) rfl (by decide) c_3
      refine ok_bindP (ok_r_copies _  hI_s) (fun s4 hc_4 => ?_)
      have hI_s4 : InvR s4 := hc_4.1
      have hFc_s4 : FrR [45, 144] s s4 := hc_4.2
      have hF_s4 : FrR [42, 45, 48, 140, 141, 143, 144, 147, 149] s0 s4 := hF_s.trans hFc_s4 (by decide)
      refine ok_bindP (ok_r_yearsGo _ _ hI_s4 (hB.fr hF_s4 (by decide)) (by omega) (by omega)) (fun s5 hc_5 => ?_)
      have hI_s5 : InvR s5 := hc_5.1
      have hFc_s5 : FrR [42, 140, 141, 144, 147] s4 s5 := hc_5.2
      have hF_s5 : FrR [42, 45, 48, 140, 141, 143, 144, 147, 149] s0 s5 := hF_s4.trans hFc_s5 (by decide)
      refine ok_bindP (ok_r_records _  hI_s5) (fun s6 hc_6 => ?_)
      have hI_s6 : InvR s6 := hc_6.1
      have hFc_s6 : FrR [48, 143, 149] s5 s6 := hc_6.2
      have hF_s6 : FrR [42, 45, 48, 140, 141, 143, 144, 147, 149] s0 s6 := hF_s5.trans hFc_s6 (by decide)
      exact ok_some ⟨hI_s6, hF_s6, (ti_rng _).1, (ti_rng _).2⟩
theorem ok_r_years (s : RS) (x1 : Int32) (hI_s : InvR s) (hB : Big s) : Ok (r_years s x1) (Q_r_years s) := ok_r_yearsB s hB s x1 hI_s FrR.rfl
noncomputable abbrev Q_r_undo (s0 : RS) (y : Int32 × RS) : Prop := InvR y.2 ∧ FrR [48, 143] s0 y.2 ∧ 0 ≤ y.1.toInt ∧ y.1.toInt ≤ 1
set_option maxHeartbeats 1000000 in
theorem ok_r_undo_21 (s0 : RS) (k21 : RS → Int32 → Option (Int32 × RS)) (M21 : Nat) (hk21 : ∀ (s : RS) (x1 : Int32), InvR s → FrR [48, 143] s0 s → 0 ≤ x1.toInt → x1.toInt ≤ 29 → (s.v 48).toInt ≤ 39 → (29 - x1.toInt).toNat < M21 → Ok (k21 s x1) (Q_r_undo s0)) (s : RS) (x1 : Int32) (hI_s : InvR s) (hF_s : FrR [48, 143] s0 s) (h_x1l : 0 ≤ x1.toInt) (h_x1u : x1.toInt ≤ 29) (h_v48u : (s.v 48).toInt ≤ 39) (hM21 : (29 - x1.toInt).toNat ≤ M21) : Ok (r_undo_21 k21 s x1) (Q_r_undo s0) := by
  unfold r_undo_21
  refine ok_ite (fun c_1 => ?_) (fun c_1 => ?_)
  · have c_1 := tn_le (a := 29) (b := (x1).toInt) (by decide) rfl c_1
    exact ok_some ⟨hI_s, hF_s, by show 0 ≤ (1 : Int32).toInt; decide, by show (1 : Int32).toInt ≤ 1; decide⟩
  · have c_1 := tn_nle (a := 29) (b := (x1).toInt) (by decide) rfl c_1
    have a_2 : 0 ≤ (s.v 48).toInt ∧ (s.v 48).toInt ≤ 40 := hI_s.1 48
    have a_3 : ((29 * (s.v 48))).toInt = ((s.v 48)).toInt * 29 := ti_cmul (c := 29) (by decide) (by omega) (by omega)
    have a_4 : (((29 * (s.v 48)) + x1)).toInt = ((29 * (s.v 48))).toInt + (x1).toInt := tn_add rfl rfl (by omega) (by omega)
    refine ok_grd (vpb_ok (by omega) (by omega)) ?_
    refine ok_grd (vpb_ok (by omega) (by omega)) ?_
    refine ok_let (fun s4 hs4 => ?_)
    have hI_s4 : InvR s4 := by rw [← hs4]; exact hI_s.sfF (k := 43) rfl rfl
    have hF_s4 : FrR [48, 143] s0 s4 := by rw [← hs4]; exact hF_s.sf (k := 43) (by decide)
    have a_5 : ((x1 + 1)).toInt = (x1).toInt + 1 := tn_add rfl (by decide) (by omega) (by omega)
    have a_6 : (s4.v 48).toInt = (s.v 48).toInt := congrArg Int32.toInt (show s4.v 48 = s.v 48 by rw [← hs4]; rfl)
    exact hk21 _ _ hI_s4 hF_s4 (by omega) (by omega) (by omega) (by omega)
theorem okL_r_undo_21 (s0 : RS)  : ∀ (n : Nat) (s : RS) (x1 : Int32), (29 - x1.toInt).toNat < n → InvR s → FrR [48, 143] s0 s → 0 ≤ x1.toInt → x1.toInt ≤ 29 → (s.v 48).toInt ≤ 39 → Ok (r_undo_21L  n s x1) (Q_r_undo s0) := by
  intro n
  induction n with
  | zero => intro s x1 hn; omega
  | succ n ih =>
    intro s x1 hn hI_s hF_s h_x1l h_x1u h_v48u 
    exact ok_r_undo_21 s0 (r_undo_21L  n) ((29 - x1.toInt).toNat) (fun zs zx1 g0 g1 g2 g3 g4  hm => ih zs zx1 (by omega) g0 g1 g2 g3 g4 ) s x1 hI_s hF_s h_x1l h_x1u h_v48u (Nat.le_refl _)
set_option maxHeartbeats 1000000 in
theorem ok_r_undoB (s0 : RS)  (s : RS) (hI_s : InvR s) (hF_s : FrR [48, 143] s0 s)  : Ok (r_undo  s) (Q_r_undo s0) := by
  unfold r_undo
  have a_1 : 0 ≤ (s.v 48).toInt ∧ (s.v 48).toInt ≤ 40 := hI_s.1 48
  refine ok_ite (fun c_2 => ?_) (fun c_2 => ?_)
  · have c_2 := tn_eq (a := ((s.v 48)).toInt) (b := 0) rfl (by decide) c_2
    exact ok_some ⟨hI_s, hF_s, by show 0 ≤ (0 : Int32).toInt; decide, by show (0 : Int32).toInt ≤ 1; decide⟩
  · have c_2 := tn_ne (a := ((s.v 48)).toInt) (b := 0) rfl (by decide) c_2
    refine ok_let (fun s2 hs2 => ?_)
    have a_3 : (((s.v 48) - 1)).toInt = ((s.v 48)).toInt - 1 := tn_sub rfl (by decide) (by omega) (by omega)
    have hI_s2 : InvR s2 := by rw [← hs2]; exact hI_s.sv (k := 48) (show (0 : Int) ≤ (((s.v 48) - 1)).toInt by omega) (show (((s.v 48) - 1)).toInt ≤ (40 : Int) by omega)
    have hF_s2 : FrR [48, 143] s0 s2 := by rw [← hs2]; exact hF_s.sv (k := 48) (by decide)
    have a_4 : (s2.v 48).toInt = (((s.v 48) - 1)).toInt := (congrArg Int32.toInt (show s2.v 48 = ((s.v 48) - 1) by rw [← hs2]; rfl)).trans rfl
    have l_0 : (0 : Int32).toInt = 0 := by decide
    exact okL_r_undo_21 s0  fu _ _ (by unfold fu; omega) hI_s2 hF_s2 (by decide) (by decide) (by omega) 
theorem ok_r_undo (s : RS) (hI_s : InvR s) : Ok (r_undo s) (Q_r_undo s) := ok_r_undoB s s hI_s FrR.rfl
noncomputable abbrev Q_r_casesNow (s0 : RS) (y : Int32 × RS) : Prop := InvR y.2 ∧ FrR [] s0 y.2 ∧ -2147483648 ≤ y.1.toInt ∧ y.1.toInt ≤ 2147483647
set_option maxHeartbeats 1000000 in
theorem ok_r_casesNow_4 (s0 : RS) (k4 : RS → Int32 → Int32 → Option (Int32 × RS)) (M4 : Nat) (hk4 : ∀ (s : RS) (x1 : Int32) (x2 : Int32), InvR s → FrR [] s0 s → 0 ≤ x2.toInt → x2.toInt ≤ 5 → (5 - x2.toInt).toNat < M4 → Ok (k4 s x1 x2) (Q_r_casesNow s0)) (s : RS) (x1 : Int32) (x2 : Int32) (hI_s : InvR s) (hF_s : FrR [] s0 s) (h_x2l : 0 ≤ x2.toInt) (h_x2u : x2.toInt ≤ 5) (hM4 : (5 - x2.toInt).toNat ≤ M4) : Ok (r_casesNow_4 k4 s x1 x2) (Q_r_casesNow s0) := by
  unfold r_casesNow_4
  have a_1 : 0 ≤ (s.v 18).toInt ∧ (s.v 18).toInt ≤ 1 := hI_s.1 18
  refine ok_grd (vpb_ok (by omega) (by omega)) ?_
  have a_2 : ((s.f 20 (Int32.toNatClampNeg (s.v 18)))).toInt = wv s0 := wv_fr hF_s (by decide) (by decide)
  have a_3 : 0 ≤ ((s.f 20 (Int32.toNatClampNeg (s.v 18)))).toInt ∧ ((s.f 20 (Int32.toNatClampNeg (s.v 18)))).toInt ≤ 5 := hI_s.2 20 _
  refine ok_ite (fun c_4 => ?_) (fun c_4 => ?_)
  · have c_4 := tn_le (a := ((s.f 20 (Int32.toNatClampNeg (s.v 18)))).toInt) (b := (x2).toInt) rfl rfl c_4
    exact ok_some ⟨hI_s, hF_s, (ti_rng _).1, (ti_rng _).2⟩
  · have c_4 := tn_nle (a := ((s.f 20 (Int32.toNatClampNeg (s.v 18)))).toInt) (b := (x2).toInt) rfl rfl c_4
    refine ok_bindI (ok_r_mayAt _ _ hI_s (by omega) (by omega)) (fun r4 s3 hc_5 => ?_)
    have hI_s3 : InvR s3 := hc_5.1
    have hFc_s3 : FrR [] s s3 := hc_5.2.1
    have hF_s3 : FrR [] s0 s3 := hF_s.trans hFc_s3 (by decide)
    refine ok_bindP (ok_r_bits _ ) (fun r5 hc_6 => ?_)
    have hl_r5 : 0 ≤ r5.toInt := hc_6.1
    have hu_r5 : r5.toInt ≤ 6 := hc_6.2
    have a_7 : ((x2 + 1)).toInt = (x2).toInt + 1 := tn_add rfl (by decide) (by omega) (by omega)
    exact hk4 _ _ _ hI_s3 hF_s3 (by omega) (by omega) (by omega)
theorem okL_r_casesNow_4 (s0 : RS)  : ∀ (n : Nat) (s : RS) (x1 : Int32) (x2 : Int32), (5 - x2.toInt).toNat < n → InvR s → FrR [] s0 s → 0 ≤ x2.toInt → x2.toInt ≤ 5 → Ok (r_casesNow_4L  n s x1 x2) (Q_r_casesNow s0) := by
  intro n
  induction n with
  | zero => intro s x1 x2 hn; omega
  | succ n ih =>
    intro s x1 x2 hn hI_s hF_s h_x2l h_x2u 
    exact ok_r_casesNow_4 s0 (r_casesNow_4L  n) ((5 - x2.toInt).toNat) (fun zs zx1 zx2 g0 g1 g2 g3  hm => ih zs zx1 zx2 (by omega) g0 g1 g2 g3 ) s x1 x2 hI_s hF_s h_x2l h_x2u (Nat.le_refl _)
set_option maxHeartbeats 1000000 in
theorem ok_r_casesNowB (s0 : RS)  (s : RS) (hI_s : InvR s) (hF_s : FrR [] s0 s)  : Ok (r_casesNow  s) (Q_r_casesNow s0) := by
  unfold r_casesNow
  have l_1 : (1 : Int32).toInt = 1 := by decide
  have l_0 : (0 : Int32).toInt = 0 := by decide
  exact okL_r_casesNow_4 s0  fu _ _ _ (by unfold fu; omega) hI_s hF_s (by decide) (by decide) 
theorem ok_r_casesNow (s : RS) (hI_s : InvR s) : Ok (r_casesNow s) (Q_r_casesNow s) := ok_r_casesNowB s s hI_s FrR.rfl
noncomputable abbrev Q_r_cases (s0 : RS) (y : Int32 × RS) : Prop := InvR y.2 ∧ FrR [45, 144] s0 y.2 ∧ -2147483648 ≤ y.1.toInt ∧ y.1.toInt ≤ 2147483647
set_option maxHeartbeats 1000000 in
theorem ok_r_casesB (s0 : RS)  (s : RS) (hI_s : InvR s) (hF_s : FrR [45, 144] s0 s)  : Ok (r_cases  s) (Q_r_cases s0) := by
  unfold r_cases
  refine ok_bindP (ok_r_copies _  hI_s) (fun s1 hc_1 => ?_)
  have hI_s1 : InvR s1 := hc_1.1
  have hFc_s1 : FrR [45, 144] s s1 := hc_1.2
  have hF_s1 : FrR [45, 144] s0 s1 := hF_s.trans hFc_s1 (by decide)
  refine ok_bindI (ok_r_casesNow _  hI_s1) (fun r3 s2 hc_2 => ?_)
  have hI_s2 : InvR s2 := hc_2.1
  have hFc_s2 : FrR [] s1 s2 := hc_2.2.1
  have hF_s2 : FrR [45, 144] s0 s2 := hF_s1.trans hFc_s2 (by decide)
  exact ok_some ⟨hI_s2, hF_s2, (ti_rng _).1, (ti_rng _).2⟩
theorem ok_r_cases (s : RS) (hI_s : InvR s) : Ok (r_cases s) (Q_r_cases s) := ok_r_casesB s s hI_s FrR.rfl
noncomputable abbrev Q_r_mayBe (s0 : RS) (y : Int32 × RS) : Prop := InvR y.2 ∧ FrR [] s0 y.2 ∧ 0 ≤ y.1.toInt ∧ y.1.toInt ≤ 1
set_option maxHeartbeats 1000000 in
theorem ok_r_mayBeB (s0 : RS)  (s : RS) (x1 : Int32) (x2 : Int32) (hI_s : InvR s) (hF_s : FrR [] s0 s) (h_x1l : 0 ≤ x1.toInt) (h_x1u : x1.toInt ≤ 4) (h_x2l : 0 ≤ x2.toInt) (h_x2u : x2.toInt ≤ 5)  : Ok (r_mayBe  s x1 x2) (Q_r_mayBe s0) := by
  unfold r_mayBe
  refine ok_bindI (ok_r_mayAt _ _ hI_s (by omega) (by omega)) (fun r2 s1 hc_1 => ?_)
  have hI_s1 : InvR s1 := hc_1.1
  have hFc_s1 : FrR [] s s1 := hc_1.2.1
  have hF_s1 : FrR [] s0 s1 := hF_s.trans hFc_s1 (by decide)
  have a_2 := ti_and1 ((r2 >>> (x2 &&& 31)))
  refine ok_ite (fun c_3 => ?_) (fun c_3 => ?_)
  · have c_3 := tn_eq (a := (((r2 >>> (x2 &&& 31)) &&& 1)).toInt) (b := 1) rfl (by decide) c_3
    exact ok_some ⟨hI_s1, hF_s1, by show 0 ≤ (1 : Int32).toInt; decide, by show (1 : Int32).toInt ≤ 1; decide⟩
  · have c_3 := tn_ne (a := (((r2 >>> (x2 &&& 31)) &&& 1)).toInt) (b := 1) rfl (by decide) c_3
    exact ok_some ⟨hI_s1, hF_s1, by show 0 ≤ (0 : Int32).toInt; decide, by show (0 : Int32).toInt ≤ 1; decide⟩
theorem ok_r_mayBe (s : RS) (x1 : Int32) (x2 : Int32) (hI_s : InvR s) (h_x1l : 0 ≤ x1.toInt) (h_x1u : x1.toInt ≤ 4) (h_x2l : 0 ≤ x2.toInt) (h_x2u : x2.toInt ≤ 5) : Ok (r_mayBe s x1 x2) (Q_r_mayBe s) := ok_r_mayBeB s s x1 x2 hI_s FrR.rfl h_x1l h_x1u h_x2l h_x2u
noncomputable abbrev Q_r_chanceOf (s0 : RS) (y : Int32 × RS) : Prop := InvR y.2 ∧ FrR [] s0 y.2 ∧ -2147483648 ≤ y.1.toInt ∧ y.1.toInt ≤ 2147483647
set_option maxHeartbeats 1000000 in
theorem ok_r_chanceOf_47 (s0 : RS) (hB : Big s0) (k4 : RS → Int32 → Int32 → Int32 → Option (Int32 × RS)) (M4 : Nat) (hk4 : ∀ (s : RS) (x1 : Int32) (x2 : Int32) (x3 : Int32), InvR s → FrR [] s0 s → 0 ≤ x1.toInt → x1.toInt ≤ 194400 → 0 ≤ x3.toInt → x3.toInt ≤ 5 → (5 - x3.toInt).toNat < M4 → Ok (k4 s x1 x2 x3) (Q_r_chanceOf s0)) (s : RS) (x1 : Int32) (x3 : Int32) (t0 : Int32) (t1 : Int32) (hI_s : InvR s) (hF_s : FrR [] s0 s) (h_x1l : 0 ≤ x1.toInt) (h_x1u : x1.toInt ≤ 194400) (h_x3l : 0 ≤ x3.toInt) (h_x3u : x3.toInt ≤ 4) (hM4 : (5 - x3.toInt).toNat ≤ M4) : Ok (r_chanceOf_47 k4 s x1 x3 t0 t1) (Q_r_chanceOf s0) := by
  unfold r_chanceOf_47
  have a_1 : ((x3 + 1)).toInt = (x3).toInt + 1 := tn_add rfl (by decide) (by omega) (by omega)
  exact hk4 _ _ _ _ hI_s hF_s (by omega) (by omega) (by omega) (by omega) (by omega)
set_option maxHeartbeats 1000000 in
theorem ok_r_chanceOf_4 (s0 : RS) (hB : Big s0) (k4 : RS → Int32 → Int32 → Int32 → Option (Int32 × RS)) (M4 : Nat) (hk4 : ∀ (s : RS) (x1 : Int32) (x2 : Int32) (x3 : Int32), InvR s → FrR [] s0 s → 0 ≤ x1.toInt → x1.toInt ≤ 194400 → 0 ≤ x3.toInt → x3.toInt ≤ 5 → (5 - x3.toInt).toNat < M4 → Ok (k4 s x1 x2 x3) (Q_r_chanceOf s0)) (s : RS) (x1 : Int32) (x2 : Int32) (x3 : Int32) (hI_s : InvR s) (hF_s : FrR [] s0 s) (h_x1l : 0 ≤ x1.toInt) (h_x1u : x1.toInt ≤ 194400) (h_x3l : 0 ≤ x3.toInt) (h_x3u : x3.toInt ≤ 5) (hM4 : (5 - x3.toInt).toNat ≤ M4) : Ok (r_chanceOf_4 k4 s x1 x2 x3) (Q_r_chanceOf s0) := by
  unfold r_chanceOf_4
  have a_1 : 0 ≤ (s.v 18).toInt ∧ (s.v 18).toInt ≤ 1 := hI_s.1 18
  refine ok_grd (vpb_ok (by omega) (by omega)) ?_
  have a_2 : ((s.f 20 (Int32.toNatClampNeg (s.v 18)))).toInt = wv s0 := wv_fr hF_s (by decide) (by decide)
  have a_3 : 0 ≤ ((s.f 20 (Int32.toNatClampNeg (s.v 18)))).toInt ∧ ((s.f 20 (Int32.toNatClampNeg (s.v 18)))).toInt ≤ 5 := hI_s.2 20 _
  refine ok_ite (fun c_4 => ?_) (fun c_4 => ?_)
  · have c_4 := tn_le (a := ((s.f 20 (Int32.toNatClampNeg (s.v 18)))).toInt) (b := (x3).toInt) rfl rfl c_4
    exact ok_some ⟨hI_s, hF_s, (ti_rng _).1, (ti_rng _).2⟩
  · have c_4 := tn_nle (a := ((s.f 20 (Int32.toNatClampNeg (s.v 18)))).toInt) (b := (x3).toInt) rfl rfl c_4
    refine ok_bindI (ok_r_thingAt _ _ _ hI_s (hB.fr hF_s (by decide)) (by omega) (by omega) (by omega) (by omega)) (fun r4 s3 hc_5 => ?_)
    have hI_s3 : InvR s3 := hc_5.1
    have hFc_s3 : FrR [] s s3 := hc_5.2.1
    have hF_s3 : FrR [] s0 s3 := hF_s.trans hFc_s3 (by decide)
    have hl_r4 : 0 ≤ r4.toInt := hc_5.2.2.1
    have hu_r4 : r4.toInt ≤ 5 := hc_5.2.2.2
    refine ok_bindI (ok_r_mayBe _ _ _ hI_s3 (by omega) (by omega) (by omega) (by omega)) (fun r6 s5 hc_6 => ?_)
    have hI_s5 : InvR s5 := hc_6.1
    have hFc_s5 : FrR [] s3 s5 := hc_6.2.1
    have hF_s5 : FrR [] s0 s5 := hF_s3.trans hFc_s5 (by decide)
    have hl_r6 : 0 ≤ r6.toInt := hc_6.2.2.1
    have hu_r6 : r6.toInt ≤ 1 := hc_6.2.2.2
    refine ok_ite (fun c_7 => ?_) (fun c_7 => ?_)
    · have c_7 := tn_eq (a := (r6).toInt) (b := 0) rfl (by decide) c_7
      have l_0 : (0 : Int32).toInt = 0 := by decide
      exact ok_r_chanceOf_47 s0 hB k4 M4 hk4 _ _ _ _ _ hI_s5 hF_s5 (by omega) (by omega) (by omega) (by omega) (by omega)
    · have c_7 := tn_ne (a := (r6).toInt) (b := 0) rfl (by decide) c_7
      refine ok_bindI (ok_r_oddsAt _ _ _ hI_s5 (by omega) (by omega) (by omega) (by omega)) (fun r9 s8 hc_8 => ?_)
      have hI_s8 : InvR s8 := hc_8.1
      have hFc_s8 : FrR [] s5 s8 := hc_8.2.1
      have hF_s8 : FrR [] s0 s8 := hF_s5.trans hFc_s8 (by decide)
      exact ok_r_chanceOf_47 s0 hB k4 M4 hk4 _ _ _ _ _ hI_s8 hF_s8 (by omega) (by omega) (by omega) (by omega) (by omega)
theorem okL_r_chanceOf_4 (s0 : RS) (hB : Big s0)  : ∀ (n : Nat) (s : RS) (x1 : Int32) (x2 : Int32) (x3 : Int32), (5 - x3.toInt).toNat < n → InvR s → FrR [] s0 s → 0 ≤ x1.toInt → x1.toInt ≤ 194400 → 0 ≤ x3.toInt → x3.toInt ≤ 5 → Ok (r_chanceOf_4L  n s x1 x2 x3) (Q_r_chanceOf s0) := by
  intro n
  induction n with
  | zero => intro s x1 x2 x3 hn; omega
  | succ n ih =>
    intro s x1 x2 x3 hn hI_s hF_s h_x1l h_x1u h_x3l h_x3u 
    exact ok_r_chanceOf_4 s0 hB (r_chanceOf_4L  n) ((5 - x3.toInt).toNat) (fun zs zx1 zx2 zx3 g0 g1 g2 g3 g4 g5  hm => ih zs zx1 zx2 zx3 (by omega) g0 g1 g2 g3 g4 g5 ) s x1 x2 x3 hI_s hF_s h_x1l h_x1u h_x3l h_x3u (Nat.le_refl _)
set_option maxHeartbeats 1000000 in
theorem ok_r_chanceOfB (s0 : RS) (hB : Big s0)  (s : RS) (x1 : Int32) (hI_s : InvR s) (hF_s : FrR [] s0 s) (h_x1l : 0 ≤ x1.toInt) (h_x1u : x1.toInt ≤ 194400)  : Ok (r_chanceOf  s x1) (Q_r_chanceOf s0) := by
  unfold r_chanceOf
  have l_1 : (1 : Int32).toInt = 1 := by decide
  have l_0 : (0 : Int32).toInt = 0 := by decide
  exact okL_r_chanceOf_4 s0 hB  fu _ _ _ _ (by unfold fu; omega) hI_s hF_s (by omega) (by omega) (by decide) (by decide) 
theorem ok_r_chanceOf (s : RS) (x1 : Int32) (hI_s : InvR s) (hB : Big s) (h_x1l : 0 ≤ x1.toInt) (h_x1u : x1.toInt ≤ 194400) : Ok (r_chanceOf s x1) (Q_r_chanceOf s) := ok_r_chanceOfB s hB s x1 hI_s FrR.rfl h_x1l h_x1u
end
section
noncomputable abbrev Q_r_isCase (s0 : RS) (y : Int32 × RS) : Prop := InvR y.2 ∧ FrR [] s0 y.2 ∧ 0 ≤ y.1.toInt ∧ y.1.toInt ≤ 1
set_option maxHeartbeats 1000000 in
theorem ok_r_isCase_2 (s0 : RS) (hB : Big s0) (k2 : RS → Int32 → Int32 → Option (Int32 × RS)) (M2 : Nat) (hk2 : ∀ (s : RS) (x1 : Int32) (x2 : Int32), InvR s → FrR [] s0 s → 0 ≤ x1.toInt → x1.toInt ≤ 7775 → 0 ≤ x2.toInt → x2.toInt ≤ 5 → (5 - x2.toInt).toNat < M2 → Ok (k2 s x1 x2) (Q_r_isCase s0)) (s : RS) (x1 : Int32) (x2 : Int32) (hI_s : InvR s) (hF_s : FrR [] s0 s) (h_x1l : 0 ≤ x1.toInt) (h_x1u : x1.toInt ≤ 7775) (h_x2l : 0 ≤ x2.toInt) (h_x2u : x2.toInt ≤ 5) (hM2 : (5 - x2.toInt).toNat ≤ M2) : Ok (r_isCase_2 k2 s x1 x2) (Q_r_isCase s0) := by
  unfold r_isCase_2
  have a_1 : 0 ≤ (s.v 18).toInt ∧ (s.v 18).toInt ≤ 1 := hI_s.1 18
  refine ok_grd (vpb_ok (by omega) (by omega)) ?_
  have a_2 : ((s.f 20 (Int32.toNatClampNeg (s.v 18)))).toInt = wv s0 := wv_fr hF_s (by decide) (by decide)
  have a_3 : 0 ≤ ((s.f 20 (Int32.toNatClampNeg (s.v 18)))).toInt ∧ ((s.f 20 (Int32.toNatClampNeg (s.v 18)))).toInt ≤ 5 := hI_s.2 20 _
  refine ok_ite (fun c_4 => ?_) (fun c_4 => ?_)
  · have c_4 := tn_le (a := ((s.f 20 (Int32.toNatClampNeg (s.v 18)))).toInt) (b := (x2).toInt) rfl rfl c_4
    exact ok_some ⟨hI_s, hF_s, by show 0 ≤ (1 : Int32).toInt; decide, by show (1 : Int32).toInt ≤ 1; decide⟩
  · have c_4 := tn_nle (a := ((s.f 20 (Int32.toNatClampNeg (s.v 18)))).toInt) (b := (x2).toInt) rfl rfl c_4
    refine ok_bindI (ok_r_thingAt _ _ _ hI_s (hB.fr hF_s (by decide)) (by omega) (by omega) (by omega) (by omega)) (fun r4 s3 hc_5 => ?_)
    have hI_s3 : InvR s3 := hc_5.1
    have hFc_s3 : FrR [] s s3 := hc_5.2.1
    have hF_s3 : FrR [] s0 s3 := hF_s.trans hFc_s3 (by decide)
    have hl_r4 : 0 ≤ r4.toInt := hc_5.2.2.1
    have hu_r4 : r4.toInt ≤ 5 := hc_5.2.2.2
    refine ok_bindI (ok_r_mayBe _ _ _ hI_s3 (by omega) (by omega) (by omega) (by omega)) (fun r6 s5 hc_6 => ?_)
    have hI_s5 : InvR s5 := hc_6.1
    have hFc_s5 : FrR [] s3 s5 := hc_6.2.1
    have hF_s5 : FrR [] s0 s5 := hF_s3.trans hFc_s5 (by decide)
    have hl_r6 : 0 ≤ r6.toInt := hc_6.2.2.1
    have hu_r6 : r6.toInt ≤ 1 := hc_6.2.2.2
    refine ok_ite (fun c_7 => ?_) (fun c_7 => ?_)
    · have c_7 := tn_eq (a := (r6).toInt) (b := 0) rfl (by decide) c_7
      exact ok_some ⟨hI_s5, hF_s5, by show 0 ≤ (0 : Int32).toInt; decide, by show (0 : Int32).toInt ≤ 1; decide⟩
    · have c_7 := tn_ne (a := (r6).toInt) (b := 0) rfl (by decide) c_7
      have a_8 : ((x2 + 1)).toInt = (x2).toInt + 1 := tn_add rfl (by decide) (by omega) (by omega)
      exact hk2 _ _ _ hI_s5 hF_s5 (by omega) (by omega) (by omega) (by omega) (by omega)
theorem okL_r_isCase_2 (s0 : RS) (hB : Big s0)  : ∀ (n : Nat) (s : RS) (x1 : Int32) (x2 : Int32), (5 - x2.toInt).toNat < n → InvR s → FrR [] s0 s → 0 ≤ x1.toInt → x1.toInt ≤ 7775 → 0 ≤ x2.toInt → x2.toInt ≤ 5 → Ok (r_isCase_2L  n s x1 x2) (Q_r_isCase s0) := by
  intro n
  induction n with
  | zero => intro s x1 x2 hn; omega
  | succ n ih =>
    intro s x1 x2 hn hI_s hF_s h_x1l h_x1u h_x2l h_x2u 
    exact ok_r_isCase_2 s0 hB (r_isCase_2L  n) ((5 - x2.toInt).toNat) (fun zs zx1 zx2 g0 g1 g2 g3 g4 g5  hm => ih zs zx1 zx2 (by omega) g0 g1 g2 g3 g4 g5 ) s x1 x2 hI_s hF_s h_x1l h_x1u h_x2l h_x2u (Nat.le_refl _)
set_option maxHeartbeats 1000000 in
theorem ok_r_isCaseB (s0 : RS) (hB : Big s0)  (s : RS) (x1 : Int32) (hI_s : InvR s) (hF_s : FrR [] s0 s) (h_x1l : 0 ≤ x1.toInt) (h_x1u : x1.toInt ≤ 7775)  : Ok (r_isCase  s x1) (Q_r_isCase s0) := by
  unfold r_isCase
  have l_0 : (0 : Int32).toInt = 0 := by decide
  exact okL_r_isCase_2 s0 hB  fu _ _ _ (by unfold fu; omega) hI_s hF_s (by omega) (by omega) (by decide) (by decide) 
theorem ok_r_isCase (s : RS) (x1 : Int32) (hI_s : InvR s) (hB : Big s) (h_x1l : 0 ≤ x1.toInt) (h_x1u : x1.toInt ≤ 7775) : Ok (r_isCase s x1) (Q_r_isCase s) := ok_r_isCaseB s hB s x1 hI_s FrR.rfl h_x1l h_x1u
noncomputable abbrev Q_r_chance (s0 : RS) (y : Int32 × RS) : Prop := InvR y.2 ∧ FrR [45, 144] s0 y.2 ∧ -2147483648 ≤ y.1.toInt ∧ y.1.toInt ≤ 2147483647
set_option maxHeartbeats 1000000 in
theorem ok_r_chanceB (s0 : RS) (hB : Big s0)  (s : RS) (x1 : Int32) (hI_s : InvR s) (hF_s : FrR [45, 144] s0 s)  : Ok (r_chance  s x1) (Q_r_chance s0) := by
  unfold r_chance
  refine ok_bindI (ok_r_isGuess _ _ hI_s (hB.fr hF_s (by decide))) (fun r2 s1 hc_1 => ?_)
  have hI_s1 : InvR s1 := hc_1.1
  have hFc_s1 : FrR [] s s1 := hc_1.2.1
  have hF_s1 : FrR [45, 144] s0 s1 := hF_s.trans hFc_s1 (by decide)
  have hl_r2 : 0 ≤ r2.toInt := hc_1.2.2.1
  have hu_r2 : r2.toInt ≤ 1 := hc_1.2.2.2.1
  have hx0_r2 : (¬ r2.toInt = 0 → 0 ≤ (x1).toInt ∧ (x1).toInt ≤ 7775) := hc_1.2.2.2.2
  refine ok_ite (fun c_2 => ?_) (fun c_2 => ?_)
  · have c_2 := tn_eq (a := (r2).toInt) (b := 0) rfl (by decide) c_2
    exact ok_some ⟨hI_s1, hF_s1, (ti_rng _).1, (ti_rng _).2⟩
  · have c_2 := tn_ne (a := (r2).toInt) (b := 0) rfl (by decide) c_2
    refine ok_bindP (ok_r_copies _  hI_s1) (fun s4 hc_3 => ?_)
    have hI_s4 : InvR s4 := hc_3.1
    have hFc_s4 : FrR [45, 144] s1 s4 := hc_3.2
    have hF_s4 : FrR [45, 144] s0 s4 := hF_s1.trans hFc_s4 (by decide)
    refine ok_bindI (ok_r_chanceOf _ _ hI_s4 (hB.fr hF_s4 (by decide)) (by omega) (by omega)) (fun r6 s5 hc_4 => ?_)
    have hI_s5 : InvR s5 := hc_4.1
    have hFc_s5 : FrR [] s4 s5 := hc_4.2.1
    have hF_s5 : FrR [45, 144] s0 s5 := hF_s4.trans hFc_s5 (by decide)
    exact ok_some ⟨hI_s5, hF_s5, (ti_rng _).1, (ti_rng _).2⟩
theorem ok_r_chance (s : RS) (x1 : Int32) (hI_s : InvR s) (hB : Big s) : Ok (r_chance s x1) (Q_r_chance s) := ok_r_chanceB s hB s x1 hI_s FrR.rfl
noncomputable abbrev Q_r_sumAt (s0 : RS) (y : Int32 × RS) : Prop := InvR y.2 ∧ FrR [] s0 y.2 ∧ -2147483648 ≤ y.1.toInt ∧ y.1.toInt ≤ 2147483647
set_option maxHeartbeats 1000000 in
theorem ok_r_sumAt_28 (s0 : RS) (k4 : RS → Int32 → Int32 → Int32 → Option (Int32 × RS)) (M4 : Nat) (hk4 : ∀ (s : RS) (x1 : Int32) (x2 : Int32) (x3 : Int32), InvR s → FrR [] s0 s → 0 ≤ x1.toInt → x1.toInt ≤ 4 → 0 ≤ x3.toInt → x3.toInt ≤ 6 → (6 - x3.toInt).toNat < M4 → Ok (k4 s x1 x2 x3) (Q_r_sumAt s0)) (s : RS) (x1 : Int32) (x2 : Int32) (x3 : Int32) (hI_s : InvR s) (hF_s : FrR [] s0 s) (h_x1l : 0 ≤ x1.toInt) (h_x1u : x1.toInt ≤ 4) (h_x3l : 0 ≤ x3.toInt) (h_x3u : x3.toInt ≤ 5) (hM4 : (6 - x3.toInt).toNat ≤ M4) : Ok (r_sumAt_28 k4 s x1 x2 x3) (Q_r_sumAt s0) := by
  unfold r_sumAt_28
  have a_1 : ((x3 + 1)).toInt = (x3).toInt + 1 := tn_add rfl (by decide) (by omega) (by omega)
  exact hk4 _ _ _ _ hI_s hF_s (by omega) (by omega) (by omega) (by omega) (by omega)
set_option maxHeartbeats 1000000 in
theorem ok_r_sumAt_4 (s0 : RS) (k4 : RS → Int32 → Int32 → Int32 → Option (Int32 × RS)) (M4 : Nat) (hk4 : ∀ (s : RS) (x1 : Int32) (x2 : Int32) (x3 : Int32), InvR s → FrR [] s0 s → 0 ≤ x1.toInt → x1.toInt ≤ 4 → 0 ≤ x3.toInt → x3.toInt ≤ 6 → (6 - x3.toInt).toNat < M4 → Ok (k4 s x1 x2 x3) (Q_r_sumAt s0)) (s : RS) (x1 : Int32) (x2 : Int32) (x3 : Int32) (hI_s : InvR s) (hF_s : FrR [] s0 s) (h_x1l : 0 ≤ x1.toInt) (h_x1u : x1.toInt ≤ 4) (h_x3l : 0 ≤ x3.toInt) (h_x3u : x3.toInt ≤ 6) (hM4 : (6 - x3.toInt).toNat ≤ M4) : Ok (r_sumAt_4 k4 s x1 x2 x3) (Q_r_sumAt s0) := by
  unfold r_sumAt_4
  refine ok_ite (fun c_1 => ?_) (fun c_1 => ?_)
  · have c_1 := tn_le (a := 6) (b := (x3).toInt) (by decide) rfl c_1
    exact ok_some ⟨hI_s, hF_s, (ti_rng _).1, (ti_rng _).2⟩
  · have c_1 := tn_nle (a := 6) (b := (x3).toInt) (by decide) rfl c_1
    refine ok_bindI (ok_r_mayBe _ _ _ hI_s (by omega) (by omega) (by omega) (by omega)) (fun r3 s2 hc_2 => ?_)
    have hI_s2 : InvR s2 := hc_2.1
    have hFc_s2 : FrR [] s s2 := hc_2.2.1
    have hF_s2 : FrR [] s0 s2 := hF_s.trans hFc_s2 (by decide)
    have hl_r3 : 0 ≤ r3.toInt := hc_2.2.2.1
    have hu_r3 : r3.toInt ≤ 1 := hc_2.2.2.2
    refine ok_ite (fun c_3 => ?_) (fun c_3 => ?_)
    · have c_3 := tn_eq (a := (r3).toInt) (b := 0) rfl (by decide) c_3
      exact ok_r_sumAt_28 s0 k4 M4 hk4 _ _ _ _ hI_s2 hF_s2 (by omega) (by omega) (by omega) (by omega) (by omega)
    · have c_3 := tn_ne (a := (r3).toInt) (b := 0) rfl (by decide) c_3
      refine ok_bindI (ok_r_oddsAt _ _ _ hI_s2 (by omega) (by omega) (by omega) (by omega)) (fun r6 s5 hc_4 => ?_)
      have hI_s5 : InvR s5 := hc_4.1
      have hFc_s5 : FrR [] s2 s5 := hc_4.2.1
      have hF_s5 : FrR [] s0 s5 := hF_s2.trans hFc_s5 (by decide)
      exact ok_r_sumAt_28 s0 k4 M4 hk4 _ _ _ _ hI_s5 hF_s5 (by omega) (by omega) (by omega) (by omega) (by omega)
theorem okL_r_sumAt_4 (s0 : RS)  : ∀ (n : Nat) (s : RS) (x1 : Int32) (x2 : Int32) (x3 : Int32), (6 - x3.toInt).toNat < n → InvR s → FrR [] s0 s → 0 ≤ x1.toInt → x1.toInt ≤ 4 → 0 ≤ x3.toInt → x3.toInt ≤ 6 → Ok (r_sumAt_4L  n s x1 x2 x3) (Q_r_sumAt s0) := by
  intro n
  induction n with
  | zero => intro s x1 x2 x3 hn; omega
  | succ n ih =>
    intro s x1 x2 x3 hn hI_s hF_s h_x1l h_x1u h_x3l h_x3u 
    exact ok_r_sumAt_4 s0 (r_sumAt_4L  n) ((6 - x3.toInt).toNat) (fun zs zx1 zx2 zx3 g0 g1 g2 g3 g4 g5  hm => ih zs zx1 zx2 zx3 (by omega) g0 g1 g2 g3 g4 g5 ) s x1 x2 x3 hI_s hF_s h_x1l h_x1u h_x3l h_x3u (Nat.le_refl _)
set_option maxHeartbeats 1000000 in
theorem ok_r_sumAtB (s0 : RS)  (s : RS) (x1 : Int32) (hI_s : InvR s) (hF_s : FrR [] s0 s) (h_x1l : 0 ≤ x1.toInt) (h_x1u : x1.toInt ≤ 4)  : Ok (r_sumAt  s x1) (Q_r_sumAt s0) := by
  unfold r_sumAt
  have l_0 : (0 : Int32).toInt = 0 := by decide
  exact okL_r_sumAt_4 s0  fu _ _ _ _ (by unfold fu; omega) hI_s hF_s (by omega) (by omega) (by decide) (by decide) 
theorem ok_r_sumAt (s : RS) (x1 : Int32) (hI_s : InvR s) (h_x1l : 0 ≤ x1.toInt) (h_x1u : x1.toInt ≤ 4) : Ok (r_sumAt s x1) (Q_r_sumAt s) := ok_r_sumAtB s s x1 hI_s FrR.rfl h_x1l h_x1u
noncomputable abbrev Q_r_all (s0 : RS) (y : Int32 × RS) : Prop := InvR y.2 ∧ FrR [45, 144] s0 y.2 ∧ -2147483648 ≤ y.1.toInt ∧ y.1.toInt ≤ 2147483647
set_option maxHeartbeats 1000000 in
theorem ok_r_all_8 (s0 : RS) (k8 : RS → Int32 → Int32 → Option (Int32 × RS)) (M8 : Nat) (hk8 : ∀ (s : RS) (x1 : Int32) (x2 : Int32), InvR s → FrR [45, 144] s0 s → 0 ≤ x2.toInt → x2.toInt ≤ 5 → (5 - x2.toInt).toNat < M8 → Ok (k8 s x1 x2) (Q_r_all s0)) (s : RS) (x1 : Int32) (x2 : Int32) (hI_s : InvR s) (hF_s : FrR [45, 144] s0 s) (h_x2l : 0 ≤ x2.toInt) (h_x2u : x2.toInt ≤ 5) (hM8 : (5 - x2.toInt).toNat ≤ M8) : Ok (r_all_8 k8 s x1 x2) (Q_r_all s0) := by
  unfold r_all_8
  have a_1 : 0 ≤ (s.v 18).toInt ∧ (s.v 18).toInt ≤ 1 := hI_s.1 18
  refine ok_grd (vpb_ok (by omega) (by omega)) ?_
  have a_2 : ((s.f 20 (Int32.toNatClampNeg (s.v 18)))).toInt = wv s0 := wv_fr hF_s (by decide) (by decide)
  have a_3 : 0 ≤ ((s.f 20 (Int32.toNatClampNeg (s.v 18)))).toInt ∧ ((s.f 20 (Int32.toNatClampNeg (s.v 18)))).toInt ≤ 5 := hI_s.2 20 _
  refine ok_ite (fun c_4 => ?_) (fun c_4 => ?_)
  · have c_4 := tn_le (a := ((s.f 20 (Int32.toNatClampNeg (s.v 18)))).toInt) (b := (x2).toInt) rfl rfl c_4
    exact ok_some ⟨hI_s, hF_s, (ti_rng _).1, (ti_rng _).2⟩
  · have c_4 := tn_nle (a := ((s.f 20 (Int32.toNatClampNeg (s.v 18)))).toInt) (b := (x2).toInt) rfl rfl c_4
    refine ok_bindI (ok_r_sumAt _ _ hI_s (by omega) (by omega)) (fun r4 s3 hc_5 => ?_)
    have hI_s3 : InvR s3 := hc_5.1
    have hFc_s3 : FrR [] s s3 := hc_5.2.1
    have hF_s3 : FrR [45, 144] s0 s3 := hF_s.trans hFc_s3 (by decide)
    have a_6 : ((x2 + 1)).toInt = (x2).toInt + 1 := tn_add rfl (by decide) (by omega) (by omega)
    exact hk8 _ _ _ hI_s3 hF_s3 (by omega) (by omega) (by omega)
theorem okL_r_all_8 (s0 : RS)  : ∀ (n : Nat) (s : RS) (x1 : Int32) (x2 : Int32), (5 - x2.toInt).toNat < n → InvR s → FrR [45, 144] s0 s → 0 ≤ x2.toInt → x2.toInt ≤ 5 → Ok (r_all_8L  n s x1 x2) (Q_r_all s0) := by
  intro n
  induction n with
  | zero => intro s x1 x2 hn; omega
  | succ n ih =>
    intro s x1 x2 hn hI_s hF_s h_x2l h_x2u 
    exact ok_r_all_8 s0 (r_all_8L  n) ((5 - x2.toInt).toNat) (fun zs zx1 zx2 g0 g1 g2 g3  hm => ih zs zx1 zx2 (by omega) g0 g1 g2 g3 ) s x1 x2 hI_s hF_s h_x2l h_x2u (Nat.le_refl _)
set_option maxHeartbeats 1000000 in
theorem ok_r_allB (s0 : RS)  (s : RS) (hI_s : InvR s) (hF_s : FrR [45, 144] s0 s)  : Ok (r_all  s) (Q_r_all s0) := by
  unfold r_all
  refine ok_bindP (ok_r_copies _  hI_s) (fun s1 hc_1 => ?_)
  have hI_s1 : InvR s1 := hc_1.1
  have hFc_s1 : FrR [45, 144] s s1 := hc_1.2
  have hF_s1 : FrR [45, 144] s0 s1 := hF_s.trans hFc_s1 (by decide)
  have l_1 : (1 : Int32).toInt = 1 := by decide
  have l_0 : (0 : Int32).toInt = 0 := by decide
  exact okL_r_all_8 s0  fu _ _ _ (by unfold fu; omega) hI_s1 hF_s1 (by decide) (by decide) 
theorem ok_r_all (s : RS) (hI_s : InvR s) : Ok (r_all s) (Q_r_all s) := ok_r_allB s s hI_s FrR.rfl
noncomputable abbrev Q_r_bestFor (s0 : RS) (y : Int32 × RS) : Prop := InvR y.2 ∧ FrR [42, 140, 141] s0 y.2 ∧ -2 ≤ y.1.toInt ∧ y.1.toInt ≤ 194400
set_option maxHeartbeats 1000000 in
theorem ok_r_bestFor_83 (s0 : RS) (hB : Big s0) (k4 : RS → Int32 → Int32 → Int32 → Option (Int32 × RS)) (M4 : Nat) (hk4 : ∀ (s : RS) (x1 : Int32) (x2 : Int32) (x3 : Int32), InvR s → FrR [42, 140, 141] s0 s → -1 ≤ x1.toInt → x1.toInt ≤ 5 → 0 ≤ x2.toInt → x2.toInt ≤ 194400 → 0 ≤ x3.toInt → x3.toInt ≤ 5 → (x2.toInt ≤ 38880 * x3.toInt) → (5 - x3.toInt).toNat < M4 → Ok (k4 s x1 x2 x3) (Q_r_bestFor s0)) (k24 : RS → Int32 → Int32 → Int32 → Int32 → Int32 → Option (Int32 × RS)) (M24 : Nat) (hk24 : ∀ (s : RS) (x1 : Int32) (x2 : Int32) (x3 : Int32) (x4 : Int32) (x5 : Int32), InvR s → FrR [42, 140, 141] s0 s → -1 ≤ x1.toInt → x1.toInt ≤ 5 → 0 ≤ x2.toInt → x2.toInt ≤ 194400 → 0 ≤ x3.toInt → x3.toInt ≤ 4 → -2 ≤ x4.toInt → x4.toInt ≤ 5 → 0 ≤ x5.toInt → x5.toInt ≤ 6 → (x2.toInt ≤ 38880 * x3.toInt) → (5 - x3.toInt).toNat ≤ M4 → (6 - x5.toInt).toNat < M24 → Ok (k24 s x1 x2 x3 x4 x5) (Q_r_bestFor s0)) (s : RS) (x1 : Int32) (x2 : Int32) (x3 : Int32) (x4 : Int32) (x5 : Int32) (hI_s : InvR s) (hF_s : FrR [42, 140, 141] s0 s) (h_x1l : -1 ≤ x1.toInt) (h_x1u : x1.toInt ≤ 5) (h_x2l : 0 ≤ x2.toInt) (h_x2u : x2.toInt ≤ 194400) (h_x3l : 0 ≤ x3.toInt) (h_x3u : x3.toInt ≤ 4) (h_x4l : -2 ≤ x4.toInt) (h_x4u : x4.toInt ≤ 5) (h_x5l : 0 ≤ x5.toInt) (h_x5u : x5.toInt ≤ 5) (hx0 : (x2.toInt ≤ 38880 * x3.toInt)) (hM4 : (5 - x3.toInt).toNat ≤ M4) (hM24 : (6 - x5.toInt).toNat ≤ M24) : Ok (r_bestFor_83 k4 k24 s x1 x2 x3 x4 x5) (Q_r_bestFor s0) := by
  unfold r_bestFor_83
  have a_1 : ((x5 + 1)).toInt = (x5).toInt + 1 := tn_add rfl (by decide) (by omega) (by omega)
  exact hk24 _ _ _ _ _ _ hI_s hF_s (by first | (clear hx0; omega) | omega) (by first | (clear hx0; omega) | omega) (by first | (clear hx0; omega) | omega) (by first | (clear hx0; omega) | omega) (by first | (clear hx0; omega) | omega) (by first | (clear hx0; omega) | omega) (by first | (clear hx0; omega) | omega) (by first | (clear hx0; omega) | omega) (by first | (clear hx0; omega) | omega) (by first | (clear hx0; omega) | omega) (by omega) (by first | (clear hx0; omega) | omega) (by first | (clear hx0; omega) | omega)
set_option maxHeartbeats 1000000 in
theorem ok_r_bestFor_79 (s0 : RS) (hB : Big s0) (k4 : RS → Int32 → Int32 → Int32 → Option (Int32 × RS)) (M4 : Nat) (hk4 : ∀ (s : RS) (x1 : Int32) (x2 : Int32) (x3 : Int32), InvR s → FrR [42, 140, 141] s0 s → -1 ≤ x1.toInt → x1.toInt ≤ 5 → 0 ≤ x2.toInt → x2.toInt ≤ 194400 → 0 ≤ x3.toInt → x3.toInt ≤ 5 → (x2.toInt ≤ 38880 * x3.toInt) → (5 - x3.toInt).toNat < M4 → Ok (k4 s x1 x2 x3) (Q_r_bestFor s0)) (k24 : RS → Int32 → Int32 → Int32 → Int32 → Int32 → Option (Int32 × RS)) (M24 : Nat) (hk24 : ∀ (s : RS) (x1 : Int32) (x2 : Int32) (x3 : Int32) (x4 : Int32) (x5 : Int32), InvR s → FrR [42, 140, 141] s0 s → -1 ≤ x1.toInt → x1.toInt ≤ 5 → 0 ≤ x2.toInt → x2.toInt ≤ 194400 → 0 ≤ x3.toInt → x3.toInt ≤ 4 → -2 ≤ x4.toInt → x4.toInt ≤ 5 → 0 ≤ x5.toInt → x5.toInt ≤ 6 → (x2.toInt ≤ 38880 * x3.toInt) → (5 - x3.toInt).toNat ≤ M4 → (6 - x5.toInt).toNat < M24 → Ok (k24 s x1 x2 x3 x4 x5) (Q_r_bestFor s0)) (s : RS) (x1 : Int32) (x2 : Int32) (x3 : Int32) (x5 : Int32) (hI_s : InvR s) (hF_s : FrR [42, 140, 141] s0 s) (h_x1l : -1 ≤ x1.toInt) (h_x1u : x1.toInt ≤ 5) (h_x2l : 0 ≤ x2.toInt) (h_x2u : x2.toInt ≤ 194400) (h_x3l : 0 ≤ x3.toInt) (h_x3u : x3.toInt ≤ 4) (h_x5l : 0 ≤ x5.toInt) (h_x5u : x5.toInt ≤ 5) (hx0 : (x2.toInt ≤ 38880 * x3.toInt)) (hM4 : (5 - x3.toInt).toNat ≤ M4) (hM24 : (6 - x5.toInt).toNat ≤ M24) : Ok (r_bestFor_79 k4 k24 s x1 x2 x3 x5) (Q_r_bestFor s0) := by
  unfold r_bestFor_79
  exact ok_r_bestFor_83 s0 hB k4 M4 hk4 k24 M24 hk24 _ _ _ _ _ _ hI_s hF_s (by first | (clear hx0; omega) | omega) (by first | (clear hx0; omega) | omega) (by first | (clear hx0; omega) | omega) (by first | (clear hx0; omega) | omega) (by first | (clear hx0; omega) | omega) (by first | (clear hx0; omega) | omega) (by first | (clear hx0; omega) | omega) (by first | (clear hx0; omega) | omega) (by first | (clear hx0; omega) | omega) (by first | (clear hx0; omega) | omega) (by omega) (by first | (clear hx0; omega) | omega) (by first | (clear hx0; omega) | omega)
set_option maxHeartbeats 1000000 in
theorem ok_r_bestFor_57 (s0 : RS) (hB : Big s0) (k4 : RS → Int32 → Int32 → Int32 → Option (Int32 × RS)) (M4 : Nat) (hk4 : ∀ (s : RS) (x1 : Int32) (x2 : Int32) (x3 : Int32), InvR s → FrR [42, 140, 141] s0 s → -1 ≤ x1.toInt → x1.toInt ≤ 5 → 0 ≤ x2.toInt → x2.toInt ≤ 194400 → 0 ≤ x3.toInt → x3.toInt ≤ 5 → (x2.toInt ≤ 38880 * x3.toInt) → (5 - x3.toInt).toNat < M4 → Ok (k4 s x1 x2 x3) (Q_r_bestFor s0)) (k24 : RS → Int32 → Int32 → Int32 → Int32 → Int32 → Option (Int32 × RS)) (M24 : Nat) (hk24 : ∀ (s : RS) (x1 : Int32) (x2 : Int32) (x3 : Int32) (x4 : Int32) (x5 : Int32), InvR s → FrR [42, 140, 141] s0 s → -1 ≤ x1.toInt → x1.toInt ≤ 5 → 0 ≤ x2.toInt → x2.toInt ≤ 194400 → 0 ≤ x3.toInt → x3.toInt ≤ 4 → -2 ≤ x4.toInt → x4.toInt ≤ 5 → 0 ≤ x5.toInt → x5.toInt ≤ 6 → (x2.toInt ≤ 38880 * x3.toInt) → (5 - x3.toInt).toNat ≤ M4 → (6 - x5.toInt).toNat < M24 → Ok (k24 s x1 x2 x3 x4 x5) (Q_r_bestFor s0)) (s : RS) (x1 : Int32) (x2 : Int32) (x3 : Int32) (x4 : Int32) (x5 : Int32) (hI_s : InvR s) (hF_s : FrR [42, 140, 141] s0 s) (h_x1l : -1 ≤ x1.toInt) (h_x1u : x1.toInt ≤ 5) (h_x2l : 0 ≤ x2.toInt) (h_x2u : x2.toInt ≤ 194400) (h_x3l : 0 ≤ x3.toInt) (h_x3u : x3.toInt ≤ 4) (h_x4l : -2 ≤ x4.toInt) (h_x4u : x4.toInt ≤ 5) (h_x5l : 0 ≤ x5.toInt) (h_x5u : x5.toInt ≤ 5) (hx0 : (x2.toInt ≤ 38880 * x3.toInt)) (hM4 : (5 - x3.toInt).toNat ≤ M4) (hM24 : (6 - x5.toInt).toNat ≤ M24) : Ok (r_bestFor_57 k4 k24 s x1 x2 x3 x4 x5) (Q_r_bestFor s0) := by
  unfold r_bestFor_57
  refine ok_ite (fun c_1 => ?_) (fun c_1 => ?_)
  · have c_1 := tn_lt (a := (x4).toInt) (b := 0) rfl (by decide) c_1
    exact ok_r_bestFor_79 s0 hB k4 M4 hk4 k24 M24 hk24 _ _ _ _ _ hI_s hF_s (by first | (clear hx0; omega) | omega) (by first | (clear hx0; omega) | omega) (by first | (clear hx0; omega) | omega) (by first | (clear hx0; omega) | omega) (by first | (clear hx0; omega) | omega) (by first | (clear hx0; omega) | omega) (by first | (clear hx0; omega) | omega) (by first | (clear hx0; omega) | omega) (by omega) (by first | (clear hx0; omega) | omega) (by first | (clear hx0; omega) | omega)
  · have c_1 := tn_nlt (a := (x4).toInt) (b := 0) rfl (by decide) c_1
    refine ok_bindI (ok_r_oddsAt _ _ _ hI_s (by omega) (by omega) (by omega) (by omega)) (fun r3 s2 hc_2 => ?_)
    have hI_s2 : InvR s2 := hc_2.1
    have hFc_s2 : FrR [] s s2 := hc_2.2.1
    have hF_s2 : FrR [42, 140, 141] s0 s2 := hF_s.trans hFc_s2 (by decide)
    refine ok_bindI (ok_r_oddsAt _ _ _ hI_s2 (by omega) (by omega) (by omega) (by omega)) (fun r5 s4 hc_3 => ?_)
    have hI_s4 : InvR s4 := hc_3.1
    have hFc_s4 : FrR [] s2 s4 := hc_3.2.1
    have hF_s4 : FrR [42, 140, 141] s0 s4 := hF_s2.trans hFc_s4 (by decide)
    refine ok_ite (fun c_4 => ?_) (fun c_4 => ?_)
    · have c_4 := tn_le (a := (r3).toInt) (b := (r5).toInt) rfl rfl c_4
      exact ok_r_bestFor_83 s0 hB k4 M4 hk4 k24 M24 hk24 _ _ _ _ _ _ hI_s4 hF_s4 (by first | (clear hx0; omega) | omega) (by first | (clear hx0; omega) | omega) (by first | (clear hx0; omega) | omega) (by first | (clear hx0; omega) | omega) (by first | (clear hx0; omega) | omega) (by first | (clear hx0; omega) | omega) (by first | (clear hx0; omega) | omega) (by first | (clear hx0; omega) | omega) (by first | (clear hx0; omega) | omega) (by first | (clear hx0; omega) | omega) (by omega) (by first | (clear hx0; omega) | omega) (by first | (clear hx0; omega) | omega)
    · have c_4 := tn_nle (a := (r3).toInt) (b := (r5).toInt) rfl rfl c_4
      exact ok_r_bestFor_79 s0 hB k4 M4 hk4 k24 M24 hk24 _ _ _ _ _ hI_s4 hF_s4 (by first | (clear hx0; omega) | omega) (by first | (clear hx0; omega) | omega) (by first | (clear hx0; omega) | omega) (by first | (clear hx0; omega) | omega) (by first | (clear hx0; omega) | omega) (by first | (clear hx0; omega) | omega) (by first | (clear hx0; omega) | omega) (by first | (clear hx0; omega) | omega) (by omega) (by first | (clear hx0; omega) | omega) (by first | (clear hx0; omega) | omega)
set_option maxHeartbeats 1000000 in
theorem ok_r_bestFor_24 (s0 : RS) (hB : Big s0) (k4 : RS → Int32 → Int32 → Int32 → Option (Int32 × RS)) (M4 : Nat) (hk4 : ∀ (s : RS) (x1 : Int32) (x2 : Int32) (x3 : Int32), InvR s → FrR [42, 140, 141] s0 s → -1 ≤ x1.toInt → x1.toInt ≤ 5 → 0 ≤ x2.toInt → x2.toInt ≤ 194400 → 0 ≤ x3.toInt → x3.toInt ≤ 5 → (x2.toInt ≤ 38880 * x3.toInt) → (5 - x3.toInt).toNat < M4 → Ok (k4 s x1 x2 x3) (Q_r_bestFor s0)) (k24 : RS → Int32 → Int32 → Int32 → Int32 → Int32 → Option (Int32 × RS)) (M24 : Nat) (hk24 : ∀ (s : RS) (x1 : Int32) (x2 : Int32) (x3 : Int32) (x4 : Int32) (x5 : Int32), InvR s → FrR [42, 140, 141] s0 s → -1 ≤ x1.toInt → x1.toInt ≤ 5 → 0 ≤ x2.toInt → x2.toInt ≤ 194400 → 0 ≤ x3.toInt → x3.toInt ≤ 4 → -2 ≤ x4.toInt → x4.toInt ≤ 5 → 0 ≤ x5.toInt → x5.toInt ≤ 6 → (x2.toInt ≤ 38880 * x3.toInt) → (5 - x3.toInt).toNat ≤ M4 → (6 - x5.toInt).toNat < M24 → Ok (k24 s x1 x2 x3 x4 x5) (Q_r_bestFor s0)) (s : RS) (x1 : Int32) (x2 : Int32) (x3 : Int32) (x4 : Int32) (x5 : Int32) (hI_s : InvR s) (hF_s : FrR [42, 140, 141] s0 s) (h_x1l : -1 ≤ x1.toInt) (h_x1u : x1.toInt ≤ 5) (h_x2l : 0 ≤ x2.toInt) (h_x2u : x2.toInt ≤ 194400) (h_x3l : 0 ≤ x3.toInt) (h_x3u : x3.toInt ≤ 4) (h_x4l : -2 ≤ x4.toInt) (h_x4u : x4.toInt ≤ 5) (h_x5l : 0 ≤ x5.toInt) (h_x5u : x5.toInt ≤ 6) (hx0 : (x2.toInt ≤ 38880 * x3.toInt)) (hM4 : (5 - x3.toInt).toNat ≤ M4) (hM24 : (6 - x5.toInt).toNat ≤ M24) : Ok (r_bestFor_24 k4 k24 s x1 x2 x3 x4 x5) (Q_r_bestFor s0) := by
  unfold r_bestFor_24
  refine ok_ite (fun c_1 => ?_) (fun c_1 => ?_)
  · have c_1 := tn_le (a := 6) (b := (x5).toInt) (by decide) rfl c_1
    refine ok_ite (fun c_2 => ?_) (fun c_2 => ?_)
    · have c_2 := tn_le (a := 0) (b := (x4).toInt) (by decide) rfl c_2
      refine ok_grd (vpb_ok (by omega) (by omega)) ?_
      have a_3 : 1 ≤ ((s.f 46 (Int32.toNatClampNeg x3))).toInt ∧ ((s.f 46 (Int32.toNatClampNeg x3))).toInt ≤ 7776 := hB.six hF_s (by decide) (by omega) (by omega)
      have a_4 : 0 ≤ (((s.f 46 (Int32.toNatClampNeg x3)) * x4)).toInt ∧ (((s.f 46 (Int32.toNatClampNeg x3)) * x4)).toInt ≤ 38880 := ti_mulr (a := 7776) (b := 5) (by omega) (by omega) (by omega) (by omega) (by decide)
      have a_5 : ((x2 + ((s.f 46 (Int32.toNatClampNeg x3)) * x4))).toInt = (x2).toInt + (((s.f 46 (Int32.toNatClampNeg x3)) * x4)).toInt := tn_add rfl rfl (by omega) (by omega)
      have a_6 : ((x3 + 1)).toInt = (x3).toInt + 1 := tn_add rfl (by decide) (by omega) (by omega)
      exact hk4 _ _ _ _ hI_s hF_s (by first | (clear hx0; omega) | omega) (by first | (clear hx0; omega) | omega) (by first | (clear hx0; omega) | omega) (by first | (clear hx0; omega) | omega) (by first | (clear hx0; omega) | omega) (by first | (clear hx0; omega) | omega) (by omega) (by first | (clear hx0; omega) | omega)
    · have c_2 := tn_nle (a := 0) (b := (x4).toInt) (by decide) rfl c_2
      exact ok_some ⟨hI_s, hF_s, by show -2 ≤ ((-2) : Int32).toInt; decide, by show ((-2) : Int32).toInt ≤ 194400; decide⟩
  · have c_1 := tn_nle (a := 6) (b := (x5).toInt) (by decide) rfl c_1
    refine ok_bindI (ok_r_mayBe _ _ _ hI_s (by omega) (by omega) (by omega) (by omega)) (fun r5 s4 hc_7 => ?_)
    have hI_s4 : InvR s4 := hc_7.1
    have hFc_s4 : FrR [] s s4 := hc_7.2.1
    have hF_s4 : FrR [42, 140, 141] s0 s4 := hF_s.trans hFc_s4 (by decide)
    have hl_r5 : 0 ≤ r5.toInt := hc_7.2.2.1
    have hu_r5 : r5.toInt ≤ 1 := hc_7.2.2.2
    refine ok_ite (fun c_8 => ?_) (fun c_8 => ?_)
    · have c_8 := tn_eq (a := (r5).toInt) (b := 0) rfl (by decide) c_8
      exact ok_r_bestFor_83 s0 hB k4 M4 hk4 k24 M24 hk24 _ _ _ _ _ _ hI_s4 hF_s4 (by first | (clear hx0; omega) | omega) (by first | (clear hx0; omega) | omega) (by first | (clear hx0; omega) | omega) (by first | (clear hx0; omega) | omega) (by first | (clear hx0; omega) | omega) (by first | (clear hx0; omega) | omega) (by first | (clear hx0; omega) | omega) (by first | (clear hx0; omega) | omega) (by first | (clear hx0; omega) | omega) (by first | (clear hx0; omega) | omega) (by omega) (by first | (clear hx0; omega) | omega) (by first | (clear hx0; omega) | omega)
    · have c_8 := tn_ne (a := (r5).toInt) (b := 0) rfl (by decide) c_8
      refine ok_ite (fun c_9 => ?_) (fun c_9 => ?_)
      · have c_9 := tn_eq (a := (x1).toInt) (b := (-1)) rfl (by decide) c_9
        exact ok_r_bestFor_57 s0 hB k4 M4 hk4 k24 M24 hk24 _ _ _ _ _ _ hI_s4 hF_s4 (by first | (clear hx0; omega) | omega) (by first | (clear hx0; omega) | omega) (by first | (clear hx0; omega) | omega) (by first | (clear hx0; omega) | omega) (by first | (clear hx0; omega) | omega) (by first | (clear hx0; omega) | omega) (by first | (clear hx0; omega) | omega) (by first | (clear hx0; omega) | omega) (by first | (clear hx0; omega) | omega) (by first | (clear hx0; omega) | omega) (by omega) (by first | (clear hx0; omega) | omega) (by first | (clear hx0; omega) | omega)
      · have c_9 := tn_ne (a := (x1).toInt) (b := (-1)) rfl (by decide) c_9
        refine ok_bindI (ok_r_doesBear _ _ _ _ hI_s4 (hB.fr hF_s4 (by decide)) (by omega) (by omega) (by omega) (by omega) (by omega) (by omega)) (fun r9 s8 hc_10 => ?_)
        have hI_s8 : InvR s8 := hc_10.1
        have hFc_s8 : FrR [42, 140, 141] s4 s8 := hc_10.2.1
        have hF_s8 : FrR [42, 140, 141] s0 s8 := hF_s4.trans hFc_s8 (by decide)
        have hl_r9 : 0 ≤ r9.toInt := hc_10.2.2.1
        have hu_r9 : r9.toInt ≤ 1 := hc_10.2.2.2
        refine ok_ite (fun c_11 => ?_) (fun c_11 => ?_)
        · have c_11 := tn_eq (a := (r9).toInt) (b := 0) rfl (by decide) c_11
          exact ok_r_bestFor_83 s0 hB k4 M4 hk4 k24 M24 hk24 _ _ _ _ _ _ hI_s8 hF_s8 (by first | (clear hx0; omega) | omega) (by first | (clear hx0; omega) | omega) (by first | (clear hx0; omega) | omega) (by first | (clear hx0; omega) | omega) (by first | (clear hx0; omega) | omega) (by first | (clear hx0; omega) | omega) (by first | (clear hx0; omega) | omega) (by first | (clear hx0; omega) | omega) (by first | (clear hx0; omega) | omega) (by first | (clear hx0; omega) | omega) (by omega) (by first | (clear hx0; omega) | omega) (by first | (clear hx0; omega) | omega)
        · have c_11 := tn_ne (a := (r9).toInt) (b := 0) rfl (by decide) c_11
          exact ok_r_bestFor_57 s0 hB k4 M4 hk4 k24 M24 hk24 _ _ _ _ _ _ hI_s8 hF_s8 (by first | (clear hx0; omega) | omega) (by first | (clear hx0; omega) | omega) (by first | (clear hx0; omega) | omega) (by first | (clear hx0; omega) | omega) (by first | (clear hx0; omega) | omega) (by first | (clear hx0; omega) | omega) (by first | (clear hx0; omega) | omega) (by first | (clear hx0; omega) | omega) (by first | (clear hx0; omega) | omega) (by first | (clear hx0; omega) | omega) (by omega) (by first | (clear hx0; omega) | omega) (by first | (clear hx0; omega) | omega)
theorem okL_r_bestFor_24 (s0 : RS) (hB : Big s0) (k4 : RS → Int32 → Int32 → Int32 → Option (Int32 × RS)) (M4 : Nat) (hk4 : ∀ (s : RS) (x1 : Int32) (x2 : Int32) (x3 : Int32), InvR s → FrR [42, 140, 141] s0 s → -1 ≤ x1.toInt → x1.toInt ≤ 5 → 0 ≤ x2.toInt → x2.toInt ≤ 194400 → 0 ≤ x3.toInt → x3.toInt ≤ 5 → (x2.toInt ≤ 38880 * x3.toInt) → (5 - x3.toInt).toNat < M4 → Ok (k4 s x1 x2 x3) (Q_r_bestFor s0)) : ∀ (n : Nat) (s : RS) (x1 : Int32) (x2 : Int32) (x3 : Int32) (x4 : Int32) (x5 : Int32), (6 - x5.toInt).toNat < n → InvR s → FrR [42, 140, 141] s0 s → -1 ≤ x1.toInt → x1.toInt ≤ 5 → 0 ≤ x2.toInt → x2.toInt ≤ 194400 → 0 ≤ x3.toInt → x3.toInt ≤ 4 → -2 ≤ x4.toInt → x4.toInt ≤ 5 → 0 ≤ x5.toInt → x5.toInt ≤ 6 → (x2.toInt ≤ 38880 * x3.toInt) → (5 - x3.toInt).toNat ≤ M4 → Ok (r_bestFor_24L k4 n s x1 x2 x3 x4 x5) (Q_r_bestFor s0) := by
  intro n
  induction n with
  | zero => intro s x1 x2 x3 x4 x5 hn; omega
  | succ n ih =>
    intro s x1 x2 x3 x4 x5 hn hI_s hF_s h_x1l h_x1u h_x2l h_x2u h_x3l h_x3u h_x4l h_x4u h_x5l h_x5u hx0 hM4
    exact ok_r_bestFor_24 s0 hB k4 M4 hk4 (r_bestFor_24L k4 n) ((6 - x5.toInt).toNat) (fun zs zx1 zx2 zx3 zx4 zx5 g0 g1 g2 g3 g4 g5 g6 g7 g8 g9 g10 g11 g12 o4 hm => ih zs zx1 zx2 zx3 zx4 zx5 (by omega) g0 g1 g2 g3 g4 g5 g6 g7 g8 g9 g10 g11 g12 o4) s x1 x2 x3 x4 x5 hI_s hF_s h_x1l h_x1u h_x2l h_x2u h_x3l h_x3u h_x4l h_x4u h_x5l h_x5u hx0 hM4 (Nat.le_refl _)
set_option maxHeartbeats 1000000 in
theorem ok_r_bestFor_4 (s0 : RS) (hB : Big s0) (k4 : RS → Int32 → Int32 → Int32 → Option (Int32 × RS)) (M4 : Nat) (hk4 : ∀ (s : RS) (x1 : Int32) (x2 : Int32) (x3 : Int32), InvR s → FrR [42, 140, 141] s0 s → -1 ≤ x1.toInt → x1.toInt ≤ 5 → 0 ≤ x2.toInt → x2.toInt ≤ 194400 → 0 ≤ x3.toInt → x3.toInt ≤ 5 → (x2.toInt ≤ 38880 * x3.toInt) → (5 - x3.toInt).toNat < M4 → Ok (k4 s x1 x2 x3) (Q_r_bestFor s0)) (s : RS) (x1 : Int32) (x2 : Int32) (x3 : Int32) (hI_s : InvR s) (hF_s : FrR [42, 140, 141] s0 s) (h_x1l : -1 ≤ x1.toInt) (h_x1u : x1.toInt ≤ 5) (h_x2l : 0 ≤ x2.toInt) (h_x2u : x2.toInt ≤ 194400) (h_x3l : 0 ≤ x3.toInt) (h_x3u : x3.toInt ≤ 5) (hx0 : (x2.toInt ≤ 38880 * x3.toInt)) (hM4 : (5 - x3.toInt).toNat ≤ M4) : Ok (r_bestFor_4 k4 s x1 x2 x3) (Q_r_bestFor s0) := by
  unfold r_bestFor_4
  have a_1 : 0 ≤ (s.v 18).toInt ∧ (s.v 18).toInt ≤ 1 := hI_s.1 18
  refine ok_grd (vpb_ok (by omega) (by omega)) ?_
  have a_2 : ((s.f 20 (Int32.toNatClampNeg (s.v 18)))).toInt = wv s0 := wv_fr hF_s (by decide) (by decide)
  have a_3 : 0 ≤ ((s.f 20 (Int32.toNatClampNeg (s.v 18)))).toInt ∧ ((s.f 20 (Int32.toNatClampNeg (s.v 18)))).toInt ≤ 5 := hI_s.2 20 _
  refine ok_ite (fun c_4 => ?_) (fun c_4 => ?_)
  · have c_4 := tn_le (a := ((s.f 20 (Int32.toNatClampNeg (s.v 18)))).toInt) (b := (x3).toInt) rfl rfl c_4
    exact ok_some ⟨hI_s, hF_s, by show -2 ≤ (x2).toInt; omega, by show (x2).toInt ≤ 194400; omega⟩
  · have c_4 := tn_nle (a := ((s.f 20 (Int32.toNatClampNeg (s.v 18)))).toInt) (b := (x3).toInt) rfl rfl c_4
    have l_m2 : ((-2) : Int32).toInt = -2 := by decide
    have l_0 : (0 : Int32).toInt = 0 := by decide
    exact okL_r_bestFor_24 s0 hB k4 M4 hk4 fu _ _ _ _ _ _ (by unfold fu; omega) hI_s hF_s (by first | (clear hx0; omega) | omega) (by first | (clear hx0; omega) | omega) (by first | (clear hx0; omega) | omega) (by first | (clear hx0; omega) | omega) (by first | (clear hx0; omega) | omega) (by first | (clear hx0; omega) | omega) (by decide) (by decide) (by decide) (by decide) (by omega) (by first | (clear hx0; omega) | omega)
theorem okL_r_bestFor_4 (s0 : RS) (hB : Big s0)  : ∀ (n : Nat) (s : RS) (x1 : Int32) (x2 : Int32) (x3 : Int32), (5 - x3.toInt).toNat < n → InvR s → FrR [42, 140, 141] s0 s → -1 ≤ x1.toInt → x1.toInt ≤ 5 → 0 ≤ x2.toInt → x2.toInt ≤ 194400 → 0 ≤ x3.toInt → x3.toInt ≤ 5 → (x2.toInt ≤ 38880 * x3.toInt) → Ok (r_bestFor_4L  n s x1 x2 x3) (Q_r_bestFor s0) := by
  intro n
  induction n with
  | zero => intro s x1 x2 x3 hn; omega
  | succ n ih =>
    intro s x1 x2 x3 hn hI_s hF_s h_x1l h_x1u h_x2l h_x2u h_x3l h_x3u hx0 
    exact ok_r_bestFor_4 s0 hB (r_bestFor_4L  n) ((5 - x3.toInt).toNat) (fun zs zx1 zx2 zx3 g0 g1 g2 g3 g4 g5 g6 g7 g8  hm => ih zs zx1 zx2 zx3 (by omega) g0 g1 g2 g3 g4 g5 g6 g7 g8 ) s x1 x2 x3 hI_s hF_s h_x1l h_x1u h_x2l h_x2u h_x3l h_x3u hx0 (Nat.le_refl _)
set_option maxHeartbeats 1000000 in
theorem ok_r_bestForB (s0 : RS) (hB : Big s0)  (s : RS) (x1 : Int32) (hI_s : InvR s) (hF_s : FrR [42, 140, 141] s0 s) (h_x1l : -1 ≤ x1.toInt) (h_x1u : x1.toInt ≤ 5)  : Ok (r_bestFor  s x1) (Q_r_bestFor s0) := by
  unfold r_bestFor
  have l_0 : (0 : Int32).toInt = 0 := by decide
  exact okL_r_bestFor_4 s0 hB  fu _ _ _ _ (by unfold fu; omega) hI_s hF_s (by omega) (by omega) (by decide) (by decide) (by decide) (by decide) (by omega) 
theorem ok_r_bestFor (s : RS) (x1 : Int32) (hI_s : InvR s) (hB : Big s) (h_x1l : -1 ≤ x1.toInt) (h_x1u : x1.toInt ≤ 5) : Ok (r_bestFor s x1) (Q_r_bestFor s) := ok_r_bestForB s hB s x1 hI_s FrR.rfl h_x1l h_x1u
noncomputable abbrev Q_r_likeliest (s0 : RS) (y : Int32 × RS) : Prop := InvR y.2 ∧ FrR [42, 45, 140, 141, 144] s0 y.2 ∧ -2 ≤ y.1.toInt ∧ y.1.toInt ≤ 194400
set_option maxHeartbeats 1000000 in
theorem ok_r_likeliestB (s0 : RS) (hB : Big s0)  (s : RS) (hI_s : InvR s) (hF_s : FrR [42, 45, 140, 141, 144] s0 s)  : Ok (r_likeliest  s) (Q_r_likeliest s0) := by
  unfold r_likeliest
  refine ok_bindP (ok_r_copies _  hI_s) (fun s1 hc_1 => ?_)
  have hI_s1 : InvR s1 := hc_1.1
  have hFc_s1 : FrR [45, 144] s s1 := hc_1.2
  have hF_s1 : FrR [42, 45, 140, 141, 144] s0 s1 := hF_s.trans hFc_s1 (by decide)
  refine ok_bindI (ok_r_bestFor _ _ hI_s1 (hB.fr hF_s1 (by decide)) (by decide) (by decide)) (fun r3 s2 hc_2 => ?_)
  have hI_s2 : InvR s2 := hc_2.1
  have hFc_s2 : FrR [42, 140, 141] s1 s2 := hc_2.2.1
  have hF_s2 : FrR [42, 45, 140, 141, 144] s0 s2 := hF_s1.trans hFc_s2 (by decide)
  have hl_r3 : -2 ≤ r3.toInt := hc_2.2.2.1
  have hu_r3 : r3.toInt ≤ 194400 := hc_2.2.2.2
  exact ok_some ⟨hI_s2, hF_s2, by show -2 ≤ (r3).toInt; omega, by show (r3).toInt ≤ 194400; omega⟩
theorem ok_r_likeliest (s : RS) (hI_s : InvR s) (hB : Big s) : Ok (r_likeliest s) (Q_r_likeliest s) := ok_r_likeliestB s hB s hI_s FrR.rfl
noncomputable abbrev Q_r_bears (s0 : RS) (y : Int32 × RS) : Prop := InvR y.2 ∧ FrR [42, 45, 140, 141, 144] s0 y.2 ∧ -1 ≤ y.1.toInt ∧ y.1.toInt ≤ 5
set_option maxHeartbeats 1000000 in
theorem ok_r_bearsB (s0 : RS) (hB : Big s0)  (s : RS) (x1 : Int32) (x2 : Int32) (hI_s : InvR s) (hF_s : FrR [42, 45, 140, 141, 144] s0 s)  : Ok (r_bears  s x1 x2) (Q_r_bears s0) := by
  unfold r_bears
  refine ok_bindI (ok_r_isParty _ _ hI_s) (fun r2 s1 hc_1 => ?_)
  have hI_s1 : InvR s1 := hc_1.1
  have hFc_s1 : FrR [] s s1 := hc_1.2.1
  have hF_s1 : FrR [42, 45, 140, 141, 144] s0 s1 := hF_s.trans hFc_s1 (by decide)
  have hl_r2 : 0 ≤ r2.toInt := hc_1.2.2.1
  have hu_r2 : r2.toInt ≤ 1 := hc_1.2.2.2.1
  have hx0_r2 : (¬ r2.toInt = 0 → 0 ≤ (x1).toInt ∧ (x1).toInt ≤ 5) := hc_1.2.2.2.2
  refine ok_ite (fun c_2 => ?_) (fun c_2 => ?_)
  · have c_2 := tn_eq (a := (r2).toInt) (b := 0) rfl (by decide) c_2
    exact ok_some ⟨hI_s1, hF_s1, by show -1 ≤ ((-1) : Int32).toInt; decide, by show ((-1) : Int32).toInt ≤ 5; decide⟩
  · have c_2 := tn_ne (a := (r2).toInt) (b := 0) rfl (by decide) c_2
    refine ok_bindI (ok_r_isGuess _ _ hI_s1 (hB.fr hF_s1 (by decide))) (fun r5 s4 hc_3 => ?_)
    have hI_s4 : InvR s4 := hc_3.1
    have hFc_s4 : FrR [] s1 s4 := hc_3.2.1
    have hF_s4 : FrR [42, 45, 140, 141, 144] s0 s4 := hF_s1.trans hFc_s4 (by decide)
    have hl_r5 : 0 ≤ r5.toInt := hc_3.2.2.1
    have hu_r5 : r5.toInt ≤ 1 := hc_3.2.2.2.1
    have hx0_r5 : (¬ r5.toInt = 0 → 0 ≤ (x2).toInt ∧ (x2).toInt ≤ 7775) := hc_3.2.2.2.2
    refine ok_ite (fun c_4 => ?_) (fun c_4 => ?_)
    · have c_4 := tn_eq (a := (r5).toInt) (b := 0) rfl (by decide) c_4
      exact ok_some ⟨hI_s4, hF_s4, by show -1 ≤ ((-1) : Int32).toInt; decide, by show ((-1) : Int32).toInt ≤ 5; decide⟩
    · have c_4 := tn_ne (a := (r5).toInt) (b := 0) rfl (by decide) c_4
      refine ok_bindP (ok_r_copies _  hI_s4) (fun s7 hc_5 => ?_)
      have hI_s7 : InvR s7 := hc_5.1
      have hFc_s7 : FrR [45, 144] s4 s7 := hc_5.2
      have hF_s7 : FrR [42, 45, 140, 141, 144] s0 s7 := hF_s4.trans hFc_s7 (by decide)
      refine ok_bindI (ok_r_bearsBy _ _ _ hI_s7 (hB.fr hF_s7 (by decide)) (by omega) (by omega) (by omega) (by omega)) (fun r9 s8 hc_6 => ?_)
      have hI_s8 : InvR s8 := hc_6.1
      have hFc_s8 : FrR [42, 140, 141] s7 s8 := hc_6.2.1
      have hF_s8 : FrR [42, 45, 140, 141, 144] s0 s8 := hF_s7.trans hFc_s8 (by decide)
      have hl_r9 : 0 ≤ r9.toInt := hc_6.2.2.1
      have hu_r9 : r9.toInt ≤ 5 := hc_6.2.2.2
      exact ok_some ⟨hI_s8, hF_s8, by show -1 ≤ (r9).toInt; omega, by show (r9).toInt ≤ 5; omega⟩
theorem ok_r_bears (s : RS) (x1 : Int32) (x2 : Int32) (hI_s : InvR s) (hB : Big s) : Ok (r_bears s x1 x2) (Q_r_bears s) := ok_r_bearsB s hB s x1 x2 hI_s FrR.rfl
noncomputable abbrev Q_r_safest (s0 : RS) (y : Int32 × RS) : Prop := InvR y.2 ∧ FrR [42, 45, 140, 141, 144] s0 y.2 ∧ -2 ≤ y.1.toInt ∧ y.1.toInt ≤ 194400
set_option maxHeartbeats 1000000 in
theorem ok_r_safestB (s0 : RS) (hB : Big s0)  (s : RS) (x1 : Int32) (hI_s : InvR s) (hF_s : FrR [42, 45, 140, 141, 144] s0 s)  : Ok (r_safest  s x1) (Q_r_safest s0) := by
  unfold r_safest
  refine ok_bindI (ok_r_isParty _ _ hI_s) (fun r2 s1 hc_1 => ?_)
  have hI_s1 : InvR s1 := hc_1.1
  have hFc_s1 : FrR [] s s1 := hc_1.2.1
  have hF_s1 : FrR [42, 45, 140, 141, 144] s0 s1 := hF_s.trans hFc_s1 (by decide)
  have hl_r2 : 0 ≤ r2.toInt := hc_1.2.2.1
  have hu_r2 : r2.toInt ≤ 1 := hc_1.2.2.2.1
  have hx0_r2 : (¬ r2.toInt = 0 → 0 ≤ (x1).toInt ∧ (x1).toInt ≤ 5) := hc_1.2.2.2.2
  refine ok_ite (fun c_2 => ?_) (fun c_2 => ?_)
  · have c_2 := tn_eq (a := (r2).toInt) (b := 0) rfl (by decide) c_2
    exact ok_some ⟨hI_s1, hF_s1, by show -2 ≤ ((-1) : Int32).toInt; decide, by show ((-1) : Int32).toInt ≤ 194400; decide⟩
  · have c_2 := tn_ne (a := (r2).toInt) (b := 0) rfl (by decide) c_2
    refine ok_bindP (ok_r_copies _  hI_s1) (fun s4 hc_3 => ?_)
    have hI_s4 : InvR s4 := hc_3.1
    have hFc_s4 : FrR [45, 144] s1 s4 := hc_3.2
    have hF_s4 : FrR [42, 45, 140, 141, 144] s0 s4 := hF_s1.trans hFc_s4 (by decide)
    refine ok_bindI (ok_r_bestFor _ _ hI_s4 (hB.fr hF_s4 (by decide)) (by omega) (by omega)) (fun r6 s5 hc_4 => ?_)
    have hI_s5 : InvR s5 := hc_4.1
    have hFc_s5 : FrR [42, 140, 141] s4 s5 := hc_4.2.1
    have hF_s5 : FrR [42, 45, 140, 141, 144] s0 s5 := hF_s4.trans hFc_s5 (by decide)
    have hl_r6 : -2 ≤ r6.toInt := hc_4.2.2.1
    have hu_r6 : r6.toInt ≤ 194400 := hc_4.2.2.2
    exact ok_some ⟨hI_s5, hF_s5, by show -2 ≤ (r6).toInt; omega, by show (r6).toInt ≤ 194400; omega⟩
theorem ok_r_safest (s : RS) (x1 : Int32) (hI_s : InvR s) (hB : Big s) : Ok (r_safest s x1) (Q_r_safest s) := ok_r_safestB s hB s x1 hI_s FrR.rfl
noncomputable abbrev Q_r_enough (s0 : RS) (y : Int32 × RS) : Prop := InvR y.2 ∧ FrR [45, 144] s0 y.2 ∧ -2147483648 ≤ y.1.toInt ∧ y.1.toInt ≤ 2147483647
set_option maxHeartbeats 1000000 in
theorem ok_r_enough_18 (s0 : RS) (k18 : RS → Int32 → Int32 → Option (Int32 × RS)) (M18 : Nat) (hk18 : ∀ (s : RS) (x1 : Int32) (x2 : Int32), InvR s → FrR [45, 144] s0 s → 0 ≤ x2.toInt → x2.toInt ≤ 5 → (5 - x2.toInt).toNat < M18 → Ok (k18 s x1 x2) (Q_r_enough s0)) (s : RS) (x1 : Int32) (x2 : Int32) (hI_s : InvR s) (hF_s : FrR [45, 144] s0 s) (h_x2l : 0 ≤ x2.toInt) (h_x2u : x2.toInt ≤ 5) (hM18 : (5 - x2.toInt).toNat ≤ M18) : Ok (r_enough_18 k18 s x1 x2) (Q_r_enough s0) := by
  unfold r_enough_18
  have a_1 : 0 ≤ (s.v 18).toInt ∧ (s.v 18).toInt ≤ 1 := hI_s.1 18
  refine ok_grd (vpb_ok (by omega) (by omega)) ?_
  have a_2 : ((s.f 20 (Int32.toNatClampNeg (s.v 18)))).toInt = wv s0 := wv_fr hF_s (by decide) (by decide)
  have a_3 : 0 ≤ ((s.f 20 (Int32.toNatClampNeg (s.v 18)))).toInt ∧ ((s.f 20 (Int32.toNatClampNeg (s.v 18)))).toInt ≤ 5 := hI_s.2 20 _
  refine ok_ite (fun c_4 => ?_) (fun c_4 => ?_)
  · have c_4 := tn_le (a := ((s.f 20 (Int32.toNatClampNeg (s.v 18)))).toInt) (b := (x2).toInt) rfl rfl c_4
    exact ok_some ⟨hI_s, hF_s, (ti_rng _).1, (ti_rng _).2⟩
  · have c_4 := tn_nle (a := ((s.f 20 (Int32.toNatClampNeg (s.v 18)))).toInt) (b := (x2).toInt) rfl rfl c_4
    refine ok_bindI (ok_r_mayAt _ _ hI_s (by omega) (by omega)) (fun r4 s3 hc_5 => ?_)
    have hI_s3 : InvR s3 := hc_5.1
    have hFc_s3 : FrR [] s s3 := hc_5.2.1
    have hF_s3 : FrR [45, 144] s0 s3 := hF_s.trans hFc_s3 (by decide)
    refine ok_bindP (ok_r_bits _ ) (fun r5 hc_6 => ?_)
    have hl_r5 : 0 ≤ r5.toInt := hc_6.1
    have hu_r5 : r5.toInt ≤ 6 := hc_6.2
    have a_7 : ((r5 - 1)).toInt = (r5).toInt - 1 := tn_sub rfl (by decide) (by omega) (by omega)
    have a_8 : ((x2 + 1)).toInt = (x2).toInt + 1 := tn_add rfl (by decide) (by omega) (by omega)
    exact hk18 _ _ _ hI_s3 hF_s3 (by omega) (by omega) (by omega)
theorem okL_r_enough_18 (s0 : RS)  : ∀ (n : Nat) (s : RS) (x1 : Int32) (x2 : Int32), (5 - x2.toInt).toNat < n → InvR s → FrR [45, 144] s0 s → 0 ≤ x2.toInt → x2.toInt ≤ 5 → Ok (r_enough_18L  n s x1 x2) (Q_r_enough s0) := by
  intro n
  induction n with
  | zero => intro s x1 x2 hn; omega
  | succ n ih =>
    intro s x1 x2 hn hI_s hF_s h_x2l h_x2u 
    exact ok_r_enough_18 s0 (r_enough_18L  n) ((5 - x2.toInt).toNat) (fun zs zx1 zx2 g0 g1 g2 g3  hm => ih zs zx1 zx2 (by omega) g0 g1 g2 g3 ) s x1 x2 hI_s hF_s h_x2l h_x2u (Nat.le_refl _)
set_option maxHeartbeats 1000000 in
theorem ok_r_enoughB (s0 : RS)  (s : RS) (hI_s : InvR s) (hF_s : FrR [45, 144] s0 s)  : Ok (r_enough  s) (Q_r_enough s0) := by
  unfold r_enough
  refine ok_bindP (ok_r_copies _  hI_s) (fun s1 hc_1 => ?_)
  have hI_s1 : InvR s1 := hc_1.1
  have hFc_s1 : FrR [45, 144] s s1 := hc_1.2
  have hF_s1 : FrR [45, 144] s0 s1 := hF_s.trans hFc_s1 (by decide)
  refine ok_bindI (ok_r_casesNow _  hI_s1) (fun r3 s2 hc_2 => ?_)
  have hI_s2 : InvR s2 := hc_2.1
  have hFc_s2 : FrR [] s1 s2 := hc_2.2.1
  have hF_s2 : FrR [45, 144] s0 s2 := hF_s1.trans hFc_s2 (by decide)
  refine ok_ite (fun c_3 => ?_) (fun c_3 => ?_)
  · have c_3 := tn_eq (a := (r3).toInt) (b := 0) rfl (by decide) c_3
    exact ok_some ⟨hI_s2, hF_s2, (ti_rng _).1, (ti_rng _).2⟩
  · have c_3 := tn_ne (a := (r3).toInt) (b := 0) rfl (by decide) c_3
    have l_1 : (1 : Int32).toInt = 1 := by decide
    have l_0 : (0 : Int32).toInt = 0 := by decide
    exact okL_r_enough_18 s0  fu _ _ _ (by unfold fu; omega) hI_s2 hF_s2 (by decide) (by decide) 
theorem ok_r_enough (s : RS) (hI_s : InvR s) : Ok (r_enough s) (Q_r_enough s) := ok_r_enoughB s s hI_s FrR.rfl
theorem bindI_some {σ α : Type} {r : Int32} {s : σ} {k : Int32 → σ → Option α} : bindI (some (r, s)) k = k r s := rfl
theorem bindP_some {τ α : Type} {r : τ} {k : τ → Option α} : bindP (some r) k = k r := rfl
/-- over each wave something may be -/
noncomputable def NZ (s : RS) : Prop := ∀ (w r b : Int32) (s' : RS), 0 ≤ w.toInt → w.toInt < wv s → r_mayAt s w = some (r, s') → r_bits r = some b → ¬ b = 0
theorem nz_L (s : RS) (hI : InvR s) : ∀ (n : Nat) (x1 x2 c : Int32) (s' : RS), 0 ≤ x2.toInt → x2.toInt ≤ 5 → r_casesNow_4L n s x1 x2 = some (c, s') → ¬ c = 0 → ¬ x1 = 0 ∧ ∀ (w r b : Int32) (s2 : RS), x2.toInt ≤ w.toInt → w.toInt < wv s → r_mayAt s w = some (r, s2) → r_bits r = some b → ¬ b = 0 := by
  intro n
  have hwv : 0 ≤ (s.f 20 (s.v 18).toNatClampNeg).toInt ∧ (s.f 20 (s.v 18).toNatClampNeg).toInt ≤ 5 := hI.2 20 _
  induction n with
  | zero => intro x1 x2 c s' _ _ h; cases h
  | succ n ih =>
    intro x1 x2 c s' h0 h5 h hc
    replace h : r_casesNow_4 (r_casesNow_4L n) s x1 x2 = some (c, s') := h
    unfold r_casesNow_4 at h
    obtain ⟨_, h⟩ := guard_inv h
    by_cases hx : (s.f 20 (Int32.toNatClampNeg (s.v 18))) ≤ x2
    · have h := if_p h hx
      cases h
      refine ⟨hc, fun w r b s2 hw hw2 => ?_⟩
      have := ti_le hx
      unfold wv at hw2
      omega
    · have h := if_n h hx
      have hx := ti_nle hx
      obtain ⟨r4, s3, e1, h⟩ := bindI_inv h
      obtain ⟨r5, e2, h⟩ := bindP_inv h
      obtain ⟨⟨r', s''⟩, e3, hm⟩ := ok_r_mayAt s x2 hI (by omega) (by omega)
      rw [e3] at e1
      cases e1
      obtain rfl : s = s3 := (FrR.eq hm.2.1).symm
      have l1 : (1 : Int32).toInt = 1 := by decide
      have a1 : (x2 + 1).toInt = x2.toInt + (1 : Int32).toInt := ti_add (by omega) (by omega)
      obtain ⟨g1, g2⟩ := ih (x1 * r5) (x2 + 1) c s' (by omega) (by omega) h hc
      refine ⟨fun q => g1 (by rw [q, Int32.zero_mul]), fun w r b s2 hw hw2 k1 k2 => ?_⟩
      by_cases hww : w.toInt = x2.toInt
      · obtain rfl : w = x2 := Int32.toInt_inj.mp hww
        rw [e3] at k1
        cases k1
        rw [e2] at k2
        cases k2
        exact fun q => g1 (by rw [q, Int32.mul_zero])
      · exact g2 w r b s2 (by omega) hw2 k1 k2
theorem nz_cases {s s' : RS} {c : Int32} (hI : InvR s) (h : r_casesNow s = some (c, s')) (hc : ¬ c = 0) : NZ s := by
  have l0 : (0 : Int32).toInt = 0 := by decide
  intro w r b s2 hw hw2 k1 k2
  exact (nz_L s hI fu 1 0 c s' (by omega) (by omega) h hc).2 w r b s2 (by omega) hw2 k1 k2
noncomputable abbrev Q_r_leftOf (s0 : RS) (y : Int32 × RS) : Prop := InvR y.2 ∧ FrR [] s0 y.2 ∧ -2147483648 ≤ y.1.toInt ∧ y.1.toInt ≤ 2147483647
theorem ok_leftOf_L (s : RS) (hI : InvR s) (hB : Big s) (hZ : NZ s) (x1 : Int32) (h10 : 0 ≤ x1.toInt) (h17 : x1.toInt ≤ 7775) : ∀ (n : Nat) (x2 x3 x4 : Int32), (5 - x4.toInt).toNat < n → 0 ≤ x4.toInt → x4.toInt ≤ 5 → Ok (r_leftOf_10L n s x1 x2 x3 x4) (Q_r_leftOf s) := by
  intro n
  have hwv : 0 ≤ (s.f 20 (s.v 18).toNatClampNeg).toInt ∧ (s.f 20 (s.v 18).toNatClampNeg).toInt ≤ 5 := hI.2 20 _
  have hl : 0 ≤ (s.v 18).toInt ∧ (s.v 18).toInt ≤ 1 := hI.1 18
  induction n with
  | zero => intro x2 x3 x4 h; omega
  | succ n ih =>
    intro x2 x3 x4 hn h0 h5
    show Ok (r_leftOf_10 (r_leftOf_10L n) s x1 x2 x3 x4) _
    unfold r_leftOf_10
    have l1 : (1 : Int32).toInt = 1 := by decide
    refine ok_grd (vpb_ok (by omega) (by omega)) ?_
    refine ok_ite (fun c => ?_) (fun c => ?_)
    · exact ok_ite (fun _ => ok_some ⟨hI, FrR.rfl, (ti_rng _).1, (ti_rng _).2⟩) (fun _ => ok_some ⟨hI, FrR.rfl, (ti_rng _).1, (ti_rng _).2⟩)
    · have c := ti_nle c
      obtain ⟨⟨r5, s4⟩, e1, hm⟩ := ok_r_mayAt s x4 hI (by omega) (by omega)
      rw [e1, bindI_some]
      obtain rfl : s = s4 := (FrR.eq hm.2.1).symm
      obtain ⟨r6, e2, hb⟩ := ok_r_bits r5
      rw [e2, bindP_some]
      have hz : ¬ r6 = 0 := hZ x4 r5 r6 s h0 (by unfold wv; omega) e1 e2
      refine ok_grd hz ?_
      refine ok_bindI (ok_r_thingAt s x1 x4 hI hB (by omega) (by omega) (by omega) (by omega)) (fun r9 s8 hc => ?_)
      obtain rfl : s = s8 := (FrR.eq hc.2.1).symm
      refine ok_bindP (ok_r_bits _) (fun r10 _ => ?_)
      have a1 : (x4 + 1).toInt = x4.toInt + (1 : Int32).toInt := ti_add (by omega) (by omega)
      have st : ∀ (y2 y3 : Int32), Ok (r_leftOf_72 (r_leftOf_10L n) s x1 y2 y3 x4 r5 r10) (Q_r_leftOf s) := by
        intro y2 y3
        unfold r_leftOf_72
        rw [e2, bindP_some]
        exact ok_ite (fun _ => ok_some ⟨hI, FrR.rfl, (ti_rng _).1, (ti_rng _).2⟩) (fun _ => ih _ _ _ (by omega) (by omega) (by omega))
      exact ok_ite (fun _ => st _ _) (fun _ => st _ _)
theorem ok_leftOf (s : RS) (x1 : Int32) (hI : InvR s) (hB : Big s) (hZ : NZ s) (h10 : 0 ≤ x1.toInt) (h17 : x1.toInt ≤ 7775) : Ok (r_leftOf s x1) (Q_r_leftOf s) := by
  unfold r_leftOf
  refine ok_bindI (ok_r_casesNow s hI) (fun r2 s1 hc => ?_)
  obtain rfl : s = s1 := (FrR.eq hc.2.1).symm
  have l0 : (0 : Int32).toInt = 0 := by decide
  exact ok_leftOf_L s hI hB hZ x1 h10 h17 fu _ _ _ (by unfold fu; omega) (by omega) (by omega)
noncomputable abbrev Q_r_left (s0 : RS) (y : Int32 × RS) : Prop := InvR y.2 ∧ FrR [45, 144] s0 y.2 ∧ -2147483648 ≤ y.1.toInt ∧ y.1.toInt ≤ 2147483647
theorem ok_r_left (s : RS) (x1 : Int32) (hI : InvR s) (hB : Big s) : Ok (r_left s x1) (Q_r_left s) := by
  unfold r_left
  have l0 : (0 : Int32).toInt = 0 := by decide
  refine ok_bindI (ok_r_isGuess s x1 hI hB) (fun r2 s1 hc => ?_)
  obtain rfl : s = s1 := (FrR.eq hc.2.1).symm
  have hx : ¬ r2.toInt = 0 → 0 ≤ x1.toInt ∧ x1.toInt ≤ 7775 := hc.2.2.2.2
  refine ok_ite (fun _ => ok_some ⟨hI, FrR.rfl, (ti_rng _).1, (ti_rng _).2⟩) (fun c => ?_)
  have c := ti_ne c
  refine ok_bindP (ok_r_copies s hI) (fun s4 hc4 => ?_)
  have hB4 : Big s4 := hB.fr hc4.2 (by decide)
  obtain ⟨⟨r6, s5⟩, e1, hc5⟩ := ok_r_casesNow s4 hc4.1
  rw [e1, bindI_some]
  obtain rfl : s4 = s5 := (FrR.eq hc5.2.1).symm
  refine ok_ite (fun _ => ok_some ⟨hc4.1, hc4.2, (ti_rng _).1, (ti_rng _).2⟩) (fun c6 => ?_)
  refine ok_bindI (ok_leftOf s4 x1 hc4.1 hB4 (nz_cases hc4.1 e1 c6) (by omega) (by omega)) (fun r9 s8 hc8 => ?_)
  obtain rfl : s4 = s8 := (FrR.eq hc8.2.1).symm
  exact ok_some ⟨hc4.1, hc4.2, (ti_rng _).1, (ti_rng _).2⟩
noncomputable abbrev Q_r_wisest (s0 : RS) (y : Int32 × RS) : Prop := InvR y.2 ∧ FrR [45, 144] s0 y.2 ∧ -2147483648 ≤ y.1.toInt ∧ y.1.toInt ≤ 2147483647
theorem ok_wisest_L (s0 s : RS) (hI : InvR s) (hB : Big s) (hZ : NZ s) (hF : FrR [45, 144] s0 s) (x1 : Int32) : ∀ (n : Nat) (x2 x3 x4 : Int32), (7776 - x4.toInt).toNat < n → 0 ≤ x4.toInt → x4.toInt ≤ 7776 → Ok (r_wisest_36L n s x1 x2 x3 x4) (Q_r_wisest s0) := by
  intro n
  induction n with
  | zero => intro x2 x3 x4 h; omega
  | succ n ih =>
    intro x2 x3 x4 hn h0 h7
    show Ok (r_wisest_36 (r_wisest_36L n) s x1 x2 x3 x4) _
    unfold r_wisest_36
    have l1 : (1 : Int32).toInt = 1 := by decide
    refine ok_bindI (ok_r_guesses s hI hB) (fun r2 s1 hc => ?_)
    obtain rfl : s = s1 := (FrR.eq hc.2.1).symm
    have hu : r2.toInt ≤ 7776 := hc.2.2.2
    refine ok_ite (fun _ => ?_) (fun c => ?_)
    · exact ok_ite (fun _ => ok_some ⟨hI, hF, (ti_rng _).1, (ti_rng _).2⟩) (fun _ => ok_some ⟨hI, hF, (ti_rng _).1, (ti_rng _).2⟩)
    · have c := ti_nle c
      refine ok_bindI (ok_leftOf s x4 hI hB hZ (by omega) (by omega)) (fun r6 s5 hc5 => ?_)
      obtain rfl : s = s5 := (FrR.eq hc5.2.1).symm
      have a1 : (x4 + 1).toInt = x4.toInt + (1 : Int32).toInt := ti_add (by omega) (by omega)
      have st : ∀ (y2 y3 : Int32), Ok (r_wisest_68 (r_wisest_36L n) s x1 y2 y3 x4) (Q_r_wisest s0) := by
        intro y2 y3
        unfold r_wisest_68
        exact ih _ _ _ (by omega) (by omega) (by omega)
      exact ok_ite (fun _ => st _ _) (fun _ => st _ _)
theorem ok_r_wisest (s : RS) (x1 : Int32) (hI : InvR s) (hB : Big s) : Ok (r_wisest s x1) (Q_r_wisest s) := by
  unfold r_wisest
  have l0 : (0 : Int32).toInt = 0 := by decide
  have l1 : (1 : Int32).toInt = 1 := by decide
  refine ok_bindP (ok_r_in x1 0 1 (by omega) (by omega) (by omega) (by omega)) (fun r1 _ => ?_)
  refine ok_ite (fun _ => ok_some ⟨hI, FrR.rfl, (ti_rng _).1, (ti_rng _).2⟩) (fun c => ?_)
  refine ok_bindP (ok_r_copies s hI) (fun s3 hc3 => ?_)
  have hB3 : Big s3 := hB.fr hc3.2 (by decide)
  obtain ⟨⟨r5, s4⟩, e1, hc4⟩ := ok_r_casesNow s3 hc3.1
  rw [e1, bindI_some]
  obtain rfl : s3 = s4 := (FrR.eq hc4.2.1).symm
  refine ok_ite (fun _ => ok_some ⟨hc3.1, hc3.2, (ti_rng _).1, (ti_rng _).2⟩) (fun c5 => ?_)
  have hZ := nz_cases hc3.1 e1 c5
  refine ok_bindI (ok_leftOf s3 0 hc3.1 hB3 hZ (by omega) (by omega)) (fun r8 s7 hc8 => ?_)
  obtain rfl : s3 = s7 := (FrR.eq hc8.2.1).symm
  exact ok_wisest_L s s3 hc3.1 hB3 hZ hc3.2 x1 fu _ _ _ (by unfold fu; omega) (by omega) (by omega)
noncomputable abbrev Q_r_fillsChances (s0 : RS) (y : RS) : Prop := InvR y ∧ FrR [45, 144, 150] s0 y
set_option maxHeartbeats 1000000 in
theorem ok_r_fillsChances_6 (s0 : RS) (hB : Big s0) (k6 : RS → Int32 → Option (RS)) (M6 : Nat) (hk6 : ∀ (s : RS) (x1 : Int32), InvR s → FrR [45, 144, 150] s0 s → 0 ≤ x1.toInt → x1.toInt ≤ 7776 → (7776 - x1.toInt).toNat < M6 → Ok (k6 s x1) (Q_r_fillsChances s0)) (s : RS) (x1 : Int32) (hI_s : InvR s) (hF_s : FrR [45, 144, 150] s0 s) (h_x1l : 0 ≤ x1.toInt) (h_x1u : x1.toInt ≤ 7776) (hM6 : (7776 - x1.toInt).toNat ≤ M6) : Ok (r_fillsChances_6 k6 s x1) (Q_r_fillsChances s0) := by
  unfold r_fillsChances_6
  refine ok_bindI (ok_r_guesses _  hI_s (hB.fr hF_s (by decide))) (fun r2 s1 hc_1 => ?_)
  have hI_s1 : InvR s1 := hc_1.1
  have hFc_s1 : FrR [] s s1 := hc_1.2.1
  have hF_s1 : FrR [45, 144, 150] s0 s1 := hF_s.trans hFc_s1 (by decide)
  have hl_r2 : 1 ≤ r2.toInt := hc_1.2.2.1
  have hu_r2 : r2.toInt ≤ 7776 := hc_1.2.2.2
  refine ok_ite (fun c_2 => ?_) (fun c_2 => ?_)
  · have c_2 := tn_le (a := (r2).toInt) (b := (x1).toInt) rfl rfl c_2
    exact ok_some ⟨hI_s1, hF_s1⟩
  · have c_2 := tn_nle (a := (r2).toInt) (b := (x1).toInt) rfl rfl c_2
    refine ok_bindI (ok_r_chanceOf _ _ hI_s1 (hB.fr hF_s1 (by decide)) (by omega) (by omega)) (fun r5 s4 hc_3 => ?_)
    have hI_s4 : InvR s4 := hc_3.1
    have hFc_s4 : FrR [] s1 s4 := hc_3.2.1
    have hF_s4 : FrR [45, 144, 150] s0 s4 := hF_s1.trans hFc_s4 (by decide)
    refine ok_grd (vpb_ok (by omega) (by omega)) ?_
    refine ok_let (fun s7 hs7 => ?_)
    have hI_s7 : InvR s7 := by rw [← hs7]; exact hI_s4.sfF (k := 50) rfl rfl
    have hF_s7 : FrR [45, 144, 150] s0 s7 := by rw [← hs7]; exact hF_s4.sf (k := 50) (by decide)
    have a_4 : ((x1 + 1)).toInt = (x1).toInt + 1 := tn_add rfl (by decide) (by omega) (by omega)
    exact hk6 _ _ hI_s7 hF_s7 (by omega) (by omega) (by omega)
theorem okL_r_fillsChances_6 (s0 : RS) (hB : Big s0)  : ∀ (n : Nat) (s : RS) (x1 : Int32), (7776 - x1.toInt).toNat < n → InvR s → FrR [45, 144, 150] s0 s → 0 ≤ x1.toInt → x1.toInt ≤ 7776 → Ok (r_fillsChances_6L  n s x1) (Q_r_fillsChances s0) := by
  intro n
  induction n with
  | zero => intro s x1 hn; omega
  | succ n ih =>
    intro s x1 hn hI_s hF_s h_x1l h_x1u 
    exact ok_r_fillsChances_6 s0 hB (r_fillsChances_6L  n) ((7776 - x1.toInt).toNat) (fun zs zx1 g0 g1 g2 g3  hm => ih zs zx1 (by omega) g0 g1 g2 g3 ) s x1 hI_s hF_s h_x1l h_x1u (Nat.le_refl _)
set_option maxHeartbeats 1000000 in
theorem ok_r_fillsChancesB (s0 : RS) (hB : Big s0)  (s : RS) (hI_s : InvR s) (hF_s : FrR [45, 144, 150] s0 s)  : Ok (r_fillsChances  s) (Q_r_fillsChances s0) := by
  unfold r_fillsChances
  refine ok_bindP (ok_r_copies _  hI_s) (fun s1 hc_1 => ?_)
  have hI_s1 : InvR s1 := hc_1.1
  have hFc_s1 : FrR [45, 144] s s1 := hc_1.2
  have hF_s1 : FrR [45, 144, 150] s0 s1 := hF_s.trans hFc_s1 (by decide)
  have l_0 : (0 : Int32).toInt = 0 := by decide
  exact okL_r_fillsChances_6 s0 hB  fu _ _ (by unfold fu; omega) hI_s1 hF_s1 (by decide) (by decide) 
theorem ok_r_fillsChances (s : RS) (hI_s : InvR s) (hB : Big s) : Ok (r_fillsChances s) (Q_r_fillsChances s) := ok_r_fillsChancesB s hB s hI_s FrR.rfl
noncomputable abbrev Q_r_isAhead (s0 : RS) (y : Int32 × RS) : Prop := InvR y.2 ∧ FrR [] s0 y.2 ∧ 0 ≤ y.1.toInt ∧ y.1.toInt ≤ 1
set_option maxHeartbeats 1000000 in
theorem ok_r_isAheadB (s0 : RS)  (s : RS) (x1 : Int32) (x2 : Int32) (hI_s : InvR s) (hF_s : FrR [] s0 s) (h_x1l : 0 ≤ x1.toInt) (h_x1u : x1.toInt ≤ 7775) (h_x2l : 0 ≤ x2.toInt) (h_x2u : x2.toInt ≤ 7775)  : Ok (r_isAhead  s x1 x2) (Q_r_isAhead s0) := by
  unfold r_isAhead
  refine ok_grd (vpb_ok (by omega) (by omega)) ?_
  refine ok_grd (vpb_ok (by omega) (by omega)) ?_
  refine ok_ite (fun c_1 => ?_) (fun c_1 => ?_)
  · have c_1 := tn_lt (a := ((s.f 50 (Int32.toNatClampNeg x2))).toInt) (b := ((s.f 50 (Int32.toNatClampNeg x1))).toInt) rfl rfl c_1
    exact ok_some ⟨hI_s, hF_s, by show 0 ≤ (1 : Int32).toInt; decide, by show (1 : Int32).toInt ≤ 1; decide⟩
  · have c_1 := tn_nlt (a := ((s.f 50 (Int32.toNatClampNeg x2))).toInt) (b := ((s.f 50 (Int32.toNatClampNeg x1))).toInt) rfl rfl c_1
    refine ok_grd (vpb_ok (by omega) (by omega)) ?_
    refine ok_grd (vpb_ok (by omega) (by omega)) ?_
    refine ok_ite (fun c_2 => ?_) (fun c_2 => ?_)
    · have c_2 := tn_eq (a := ((s.f 50 (Int32.toNatClampNeg x1))).toInt) (b := ((s.f 50 (Int32.toNatClampNeg x2))).toInt) rfl rfl c_2
      refine ok_ite (fun c_3 => ?_) (fun c_3 => ?_)
      · have c_3 := tn_le (a := (x2).toInt) (b := (x1).toInt) rfl rfl c_3
        exact ok_some ⟨hI_s, hF_s, by show 0 ≤ (0 : Int32).toInt; decide, by show (0 : Int32).toInt ≤ 1; decide⟩
      · have c_3 := tn_nle (a := (x2).toInt) (b := (x1).toInt) rfl rfl c_3
        exact ok_some ⟨hI_s, hF_s, by show 0 ≤ (1 : Int32).toInt; decide, by show (1 : Int32).toInt ≤ 1; decide⟩
    · have c_2 := tn_ne (a := ((s.f 50 (Int32.toNatClampNeg x1))).toInt) (b := ((s.f 50 (Int32.toNatClampNeg x2))).toInt) rfl rfl c_2
      exact ok_some ⟨hI_s, hF_s, by show 0 ≤ (0 : Int32).toInt; decide, by show (0 : Int32).toInt ≤ 1; decide⟩
theorem ok_r_isAhead (s : RS) (x1 : Int32) (x2 : Int32) (hI_s : InvR s) (h_x1l : 0 ≤ x1.toInt) (h_x1u : x1.toInt ≤ 7775) (h_x2l : 0 ≤ x2.toInt) (h_x2u : x2.toInt ≤ 7775) : Ok (r_isAhead s x1 x2) (Q_r_isAhead s) := ok_r_isAheadB s s x1 x2 hI_s FrR.rfl h_x1l h_x1u h_x2l h_x2u
noncomputable abbrev Q_r_rank (s0 : RS) (y : Int32 × RS) : Prop := InvR y.2 ∧ FrR [45, 144, 150] s0 y.2 ∧ -2147483648 ≤ y.1.toInt ∧ y.1.toInt ≤ 2147483647
set_option maxHeartbeats 1000000 in
theorem ok_r_rank_49 (s0 : RS) (hB : Big s0) (k29 : RS → Int32 → Int32 → Int32 → Option (Int32 × RS)) (M29 : Nat) (hk29 : ∀ (s : RS) (x1 : Int32) (x2 : Int32) (x3 : Int32), InvR s → FrR [45, 144, 150] s0 s → 0 ≤ x1.toInt → x1.toInt ≤ 7775 → 0 ≤ x3.toInt → x3.toInt ≤ 7776 → (7776 - x3.toInt).toNat < M29 → Ok (k29 s x1 x2 x3) (Q_r_rank s0)) (s : RS) (x1 : Int32) (x2 : Int32) (x3 : Int32) (hI_s : InvR s) (hF_s : FrR [45, 144, 150] s0 s) (h_x1l : 0 ≤ x1.toInt) (h_x1u : x1.toInt ≤ 7775) (h_x3l : 0 ≤ x3.toInt) (h_x3u : x3.toInt ≤ 7775) (hM29 : (7776 - x3.toInt).toNat ≤ M29) : Ok (r_rank_49 k29 s x1 x2 x3) (Q_r_rank s0) := by
  unfold r_rank_49
  have a_1 : ((x3 + 1)).toInt = (x3).toInt + 1 := tn_add rfl (by decide) (by omega) (by omega)
  exact hk29 _ _ _ _ hI_s hF_s (by omega) (by omega) (by omega) (by omega) (by omega)
set_option maxHeartbeats 1000000 in
theorem ok_r_rank_29 (s0 : RS) (hB : Big s0) (k29 : RS → Int32 → Int32 → Int32 → Option (Int32 × RS)) (M29 : Nat) (hk29 : ∀ (s : RS) (x1 : Int32) (x2 : Int32) (x3 : Int32), InvR s → FrR [45, 144, 150] s0 s → 0 ≤ x1.toInt → x1.toInt ≤ 7775 → 0 ≤ x3.toInt → x3.toInt ≤ 7776 → (7776 - x3.toInt).toNat < M29 → Ok (k29 s x1 x2 x3) (Q_r_rank s0)) (s : RS) (x1 : Int32) (x2 : Int32) (x3 : Int32) (hI_s : InvR s) (hF_s : FrR [45, 144, 150] s0 s) (h_x1l : 0 ≤ x1.toInt) (h_x1u : x1.toInt ≤ 7775) (h_x3l : 0 ≤ x3.toInt) (h_x3u : x3.toInt ≤ 7776) (hM29 : (7776 - x3.toInt).toNat ≤ M29) : Ok (r_rank_29 k29 s x1 x2 x3) (Q_r_rank s0) := by
  unfold r_rank_29
  refine ok_bindI (ok_r_guesses _  hI_s (hB.fr hF_s (by decide))) (fun r2 s1 hc_1 => ?_)
  have hI_s1 : InvR s1 := hc_1.1
  have hFc_s1 : FrR [] s s1 := hc_1.2.1
  have hF_s1 : FrR [45, 144, 150] s0 s1 := hF_s.trans hFc_s1 (by decide)
  have hl_r2 : 1 ≤ r2.toInt := hc_1.2.2.1
  have hu_r2 : r2.toInt ≤ 7776 := hc_1.2.2.2
  refine ok_ite (fun c_2 => ?_) (fun c_2 => ?_)
  · have c_2 := tn_le (a := (r2).toInt) (b := (x3).toInt) rfl rfl c_2
    exact ok_some ⟨hI_s1, hF_s1, (ti_rng _).1, (ti_rng _).2⟩
  · have c_2 := tn_nle (a := (r2).toInt) (b := (x3).toInt) rfl rfl c_2
    refine ok_bindI (ok_r_isAhead _ _ _ hI_s1 (by omega) (by omega) (by omega) (by omega)) (fun r5 s4 hc_3 => ?_)
    have hI_s4 : InvR s4 := hc_3.1
    have hFc_s4 : FrR [] s1 s4 := hc_3.2.1
    have hF_s4 : FrR [45, 144, 150] s0 s4 := hF_s1.trans hFc_s4 (by decide)
    have hl_r5 : 0 ≤ r5.toInt := hc_3.2.2.1
    have hu_r5 : r5.toInt ≤ 1 := hc_3.2.2.2
    refine ok_ite (fun c_4 => ?_) (fun c_4 => ?_)
    · have c_4 := tn_eq (a := (r5).toInt) (b := 0) rfl (by decide) c_4
      exact ok_r_rank_49 s0 hB k29 M29 hk29 _ _ _ _ hI_s4 hF_s4 (by omega) (by omega) (by omega) (by omega) (by omega)
    · have c_4 := tn_ne (a := (r5).toInt) (b := 0) rfl (by decide) c_4
      exact ok_r_rank_49 s0 hB k29 M29 hk29 _ _ _ _ hI_s4 hF_s4 (by omega) (by omega) (by omega) (by omega) (by omega)
theorem okL_r_rank_29 (s0 : RS) (hB : Big s0)  : ∀ (n : Nat) (s : RS) (x1 : Int32) (x2 : Int32) (x3 : Int32), (7776 - x3.toInt).toNat < n → InvR s → FrR [45, 144, 150] s0 s → 0 ≤ x1.toInt → x1.toInt ≤ 7775 → 0 ≤ x3.toInt → x3.toInt ≤ 7776 → Ok (r_rank_29L  n s x1 x2 x3) (Q_r_rank s0) := by
  intro n
  induction n with
  | zero => intro s x1 x2 x3 hn; omega
  | succ n ih =>
    intro s x1 x2 x3 hn hI_s hF_s h_x1l h_x1u h_x3l h_x3u 
    exact ok_r_rank_29 s0 hB (r_rank_29L  n) ((7776 - x3.toInt).toNat) (fun zs zx1 zx2 zx3 g0 g1 g2 g3 g4 g5  hm => ih zs zx1 zx2 zx3 (by omega) g0 g1 g2 g3 g4 g5 ) s x1 x2 x3 hI_s hF_s h_x1l h_x1u h_x3l h_x3u (Nat.le_refl _)
set_option maxHeartbeats 1000000 in
theorem ok_r_rankB (s0 : RS) (hB : Big s0)  (s : RS) (x1 : Int32) (hI_s : InvR s) (hF_s : FrR [45, 144, 150] s0 s)  : Ok (r_rank  s x1) (Q_r_rank s0) := by
  unfold r_rank
  refine ok_bindI (ok_r_isGuess _ _ hI_s (hB.fr hF_s (by decide))) (fun r2 s1 hc_1 => ?_)
  have hI_s1 : InvR s1 := hc_1.1
  have hFc_s1 : FrR [] s s1 := hc_1.2.1
  have hF_s1 : FrR [45, 144, 150] s0 s1 := hF_s.trans hFc_s1 (by decide)
  have hl_r2 : 0 ≤ r2.toInt := hc_1.2.2.1
  have hu_r2 : r2.toInt ≤ 1 := hc_1.2.2.2.1
  have hx0_r2 : (¬ r2.toInt = 0 → 0 ≤ (x1).toInt ∧ (x1).toInt ≤ 7775) := hc_1.2.2.2.2
  refine ok_ite (fun c_2 => ?_) (fun c_2 => ?_)
  · have c_2 := tn_eq (a := (r2).toInt) (b := 0) rfl (by decide) c_2
    exact ok_some ⟨hI_s1, hF_s1, (ti_rng _).1, (ti_rng _).2⟩
  · have c_2 := tn_ne (a := (r2).toInt) (b := 0) rfl (by decide) c_2
    refine ok_bindP (ok_r_fillsChances _  hI_s1 (hB.fr hF_s1 (by decide))) (fun s4 hc_3 => ?_)
    have hI_s4 : InvR s4 := hc_3.1
    have hFc_s4 : FrR [45, 144, 150] s1 s4 := hc_3.2
    have hF_s4 : FrR [45, 144, 150] s0 s4 := hF_s1.trans hFc_s4 (by decide)
    refine ok_bindI (ok_r_isCase _ _ hI_s4 (hB.fr hF_s4 (by decide)) (by omega) (by omega)) (fun r6 s5 hc_4 => ?_)
    have hI_s5 : InvR s5 := hc_4.1
    have hFc_s5 : FrR [] s4 s5 := hc_4.2.1
    have hF_s5 : FrR [45, 144, 150] s0 s5 := hF_s4.trans hFc_s5 (by decide)
    have hl_r6 : 0 ≤ r6.toInt := hc_4.2.2.1
    have hu_r6 : r6.toInt ≤ 1 := hc_4.2.2.2
    refine ok_ite (fun c_5 => ?_) (fun c_5 => ?_)
    · have c_5 := tn_eq (a := (r6).toInt) (b := 0) rfl (by decide) c_5
      exact ok_some ⟨hI_s5, hF_s5, (ti_rng _).1, (ti_rng _).2⟩
    · have c_5 := tn_ne (a := (r6).toInt) (b := 0) rfl (by decide) c_5
      have l_0 : (0 : Int32).toInt = 0 := by decide
      exact okL_r_rank_29 s0 hB  fu _ _ _ _ (by unfold fu; omega) hI_s5 hF_s5 (by omega) (by omega) (by decide) (by decide) 
theorem ok_r_rank (s : RS) (x1 : Int32) (hI_s : InvR s) (hB : Big s) : Ok (r_rank s x1) (Q_r_rank s) := ok_r_rankB s hB s x1 hI_s FrR.rfl
noncomputable abbrev Q_r_ranked (s0 : RS) (y : Int32 × RS) : Prop := InvR y.2 ∧ FrR [45, 144, 150] s0 y.2 ∧ -1 ≤ y.1.toInt ∧ y.1.toInt ≤ 7775
set_option maxHeartbeats 1000000 in
theorem ok_r_ranked_84 (s0 : RS) (hB : Big s0) (k20 : RS → Int32 → Int32 → Int32 → Option (Int32 × RS)) (M20 : Nat) (hk20 : ∀ (s : RS) (x1 : Int32) (x2 : Int32) (x3 : Int32), InvR s → FrR [45, 144, 150] s0 s → 0 ≤ x1.toInt → x1.toInt ≤ 19 → -1 ≤ x2.toInt → x2.toInt ≤ 7775 → 0 ≤ x3.toInt → x3.toInt ≤ 20 → (20 - x3.toInt).toNat < M20 → Ok (k20 s x1 x2 x3) (Q_r_ranked s0)) (k31 : RS → Int32 → Int32 → Int32 → Int32 → Int32 → Option (Int32 × RS)) (M31 : Nat) (hk31 : ∀ (s : RS) (x1 : Int32) (x2 : Int32) (x3 : Int32) (x4 : Int32) (x5 : Int32), InvR s → FrR [45, 144, 150] s0 s → 0 ≤ x1.toInt → x1.toInt ≤ 19 → -1 ≤ x2.toInt → x2.toInt ≤ 7775 → 0 ≤ x3.toInt → x3.toInt ≤ 19 → -1 ≤ x4.toInt → x4.toInt ≤ 7775 → 0 ≤ x5.toInt → x5.toInt ≤ 7776 → (20 - x3.toInt).toNat ≤ M20 → (7776 - x5.toInt).toNat < M31 → Ok (k31 s x1 x2 x3 x4 x5) (Q_r_ranked s0)) (s : RS) (x1 : Int32) (x2 : Int32) (x3 : Int32) (x4 : Int32) (x5 : Int32) (hI_s : InvR s) (hF_s : FrR [45, 144, 150] s0 s) (h_x1l : 0 ≤ x1.toInt) (h_x1u : x1.toInt ≤ 19) (h_x2l : -1 ≤ x2.toInt) (h_x2u : x2.toInt ≤ 7775) (h_x3l : 0 ≤ x3.toInt) (h_x3u : x3.toInt ≤ 19) (h_x4l : -1 ≤ x4.toInt) (h_x4u : x4.toInt ≤ 7775) (h_x5l : 0 ≤ x5.toInt) (h_x5u : x5.toInt ≤ 7775) (hM20 : (20 - x3.toInt).toNat ≤ M20) (hM31 : (7776 - x5.toInt).toNat ≤ M31) : Ok (r_ranked_84 k20 k31 s x1 x2 x3 x4 x5) (Q_r_ranked s0) := by
  unfold r_ranked_84
  have a_1 : ((x5 + 1)).toInt = (x5).toInt + 1 := tn_add rfl (by decide) (by omega) (by omega)
  exact hk31 _ _ _ _ _ _ hI_s hF_s (by omega) (by omega) (by omega) (by omega) (by omega) (by omega) (by omega) (by omega) (by omega) (by omega) (by omega) (by omega)
set_option maxHeartbeats 1000000 in
theorem ok_r_ranked_80 (s0 : RS) (hB : Big s0) (k20 : RS → Int32 → Int32 → Int32 → Option (Int32 × RS)) (M20 : Nat) (hk20 : ∀ (s : RS) (x1 : Int32) (x2 : Int32) (x3 : Int32), InvR s → FrR [45, 144, 150] s0 s → 0 ≤ x1.toInt → x1.toInt ≤ 19 → -1 ≤ x2.toInt → x2.toInt ≤ 7775 → 0 ≤ x3.toInt → x3.toInt ≤ 20 → (20 - x3.toInt).toNat < M20 → Ok (k20 s x1 x2 x3) (Q_r_ranked s0)) (k31 : RS → Int32 → Int32 → Int32 → Int32 → Int32 → Option (Int32 × RS)) (M31 : Nat) (hk31 : ∀ (s : RS) (x1 : Int32) (x2 : Int32) (x3 : Int32) (x4 : Int32) (x5 : Int32), InvR s → FrR [45, 144, 150] s0 s → 0 ≤ x1.toInt → x1.toInt ≤ 19 → -1 ≤ x2.toInt → x2.toInt ≤ 7775 → 0 ≤ x3.toInt → x3.toInt ≤ 19 → -1 ≤ x4.toInt → x4.toInt ≤ 7775 → 0 ≤ x5.toInt → x5.toInt ≤ 7776 → (20 - x3.toInt).toNat ≤ M20 → (7776 - x5.toInt).toNat < M31 → Ok (k31 s x1 x2 x3 x4 x5) (Q_r_ranked s0)) (s : RS) (x1 : Int32) (x2 : Int32) (x3 : Int32) (x5 : Int32) (hI_s : InvR s) (hF_s : FrR [45, 144, 150] s0 s) (h_x1l : 0 ≤ x1.toInt) (h_x1u : x1.toInt ≤ 19) (h_x2l : -1 ≤ x2.toInt) (h_x2u : x2.toInt ≤ 7775) (h_x3l : 0 ≤ x3.toInt) (h_x3u : x3.toInt ≤ 19) (h_x5l : 0 ≤ x5.toInt) (h_x5u : x5.toInt ≤ 7775) (hM20 : (20 - x3.toInt).toNat ≤ M20) (hM31 : (7776 - x5.toInt).toNat ≤ M31) : Ok (r_ranked_80 k20 k31 s x1 x2 x3 x5) (Q_r_ranked s0) := by
  unfold r_ranked_80
  exact ok_r_ranked_84 s0 hB k20 M20 hk20 k31 M31 hk31 _ _ _ _ _ _ hI_s hF_s (by omega) (by omega) (by omega) (by omega) (by omega) (by omega) (by omega) (by omega) (by omega) (by omega) (by omega) (by omega)
set_option maxHeartbeats 1000000 in
theorem ok_r_ranked_64 (s0 : RS) (hB : Big s0) (k20 : RS → Int32 → Int32 → Int32 → Option (Int32 × RS)) (M20 : Nat) (hk20 : ∀ (s : RS) (x1 : Int32) (x2 : Int32) (x3 : Int32), InvR s → FrR [45, 144, 150] s0 s → 0 ≤ x1.toInt → x1.toInt ≤ 19 → -1 ≤ x2.toInt → x2.toInt ≤ 7775 → 0 ≤ x3.toInt → x3.toInt ≤ 20 → (20 - x3.toInt).toNat < M20 → Ok (k20 s x1 x2 x3) (Q_r_ranked s0)) (k31 : RS → Int32 → Int32 → Int32 → Int32 → Int32 → Option (Int32 × RS)) (M31 : Nat) (hk31 : ∀ (s : RS) (x1 : Int32) (x2 : Int32) (x3 : Int32) (x4 : Int32) (x5 : Int32), InvR s → FrR [45, 144, 150] s0 s → 0 ≤ x1.toInt → x1.toInt ≤ 19 → -1 ≤ x2.toInt → x2.toInt ≤ 7775 → 0 ≤ x3.toInt → x3.toInt ≤ 19 → -1 ≤ x4.toInt → x4.toInt ≤ 7775 → 0 ≤ x5.toInt → x5.toInt ≤ 7776 → (20 - x3.toInt).toNat ≤ M20 → (7776 - x5.toInt).toNat < M31 → Ok (k31 s x1 x2 x3 x4 x5) (Q_r_ranked s0)) (s : RS) (x1 : Int32) (x2 : Int32) (x3 : Int32) (x4 : Int32) (x5 : Int32) (hI_s : InvR s) (hF_s : FrR [45, 144, 150] s0 s) (h_x1l : 0 ≤ x1.toInt) (h_x1u : x1.toInt ≤ 19) (h_x2l : -1 ≤ x2.toInt) (h_x2u : x2.toInt ≤ 7775) (h_x3l : 0 ≤ x3.toInt) (h_x3u : x3.toInt ≤ 19) (h_x4l : -1 ≤ x4.toInt) (h_x4u : x4.toInt ≤ 7775) (h_x5l : 0 ≤ x5.toInt) (h_x5u : x5.toInt ≤ 7775) (hM20 : (20 - x3.toInt).toNat ≤ M20) (hM31 : (7776 - x5.toInt).toNat ≤ M31) : Ok (r_ranked_64 k20 k31 s x1 x2 x3 x4 x5) (Q_r_ranked s0) := by
  unfold r_ranked_64
  refine ok_ite (fun c_1 => ?_) (fun c_1 => ?_)
  · have c_1 := tn_lt (a := (x4).toInt) (b := 0) rfl (by decide) c_1
    exact ok_r_ranked_80 s0 hB k20 M20 hk20 k31 M31 hk31 _ _ _ _ _ hI_s hF_s (by omega) (by omega) (by omega) (by omega) (by omega) (by omega) (by omega) (by omega) (by omega) (by omega)
  · have c_1 := tn_nlt (a := (x4).toInt) (b := 0) rfl (by decide) c_1
    refine ok_bindI (ok_r_isAhead _ _ _ hI_s (by omega) (by omega) (by omega) (by omega)) (fun r3 s2 hc_2 => ?_)
    have hI_s2 : InvR s2 := hc_2.1
    have hFc_s2 : FrR [] s s2 := hc_2.2.1
    have hF_s2 : FrR [45, 144, 150] s0 s2 := hF_s.trans hFc_s2 (by decide)
    have hl_r3 : 0 ≤ r3.toInt := hc_2.2.2.1
    have hu_r3 : r3.toInt ≤ 1 := hc_2.2.2.2
    refine ok_ite (fun c_3 => ?_) (fun c_3 => ?_)
    · have c_3 := tn_eq (a := (r3).toInt) (b := 0) rfl (by decide) c_3
      exact ok_r_ranked_84 s0 hB k20 M20 hk20 k31 M31 hk31 _ _ _ _ _ _ hI_s2 hF_s2 (by omega) (by omega) (by omega) (by omega) (by omega) (by omega) (by omega) (by omega) (by omega) (by omega) (by omega) (by omega)
    · have c_3 := tn_ne (a := (r3).toInt) (b := 0) rfl (by decide) c_3
      exact ok_r_ranked_80 s0 hB k20 M20 hk20 k31 M31 hk31 _ _ _ _ _ hI_s2 hF_s2 (by omega) (by omega) (by omega) (by omega) (by omega) (by omega) (by omega) (by omega) (by omega) (by omega)
set_option maxHeartbeats 1000000 in
theorem ok_r_ranked_31 (s0 : RS) (hB : Big s0) (k20 : RS → Int32 → Int32 → Int32 → Option (Int32 × RS)) (M20 : Nat) (hk20 : ∀ (s : RS) (x1 : Int32) (x2 : Int32) (x3 : Int32), InvR s → FrR [45, 144, 150] s0 s → 0 ≤ x1.toInt → x1.toInt ≤ 19 → -1 ≤ x2.toInt → x2.toInt ≤ 7775 → 0 ≤ x3.toInt → x3.toInt ≤ 20 → (20 - x3.toInt).toNat < M20 → Ok (k20 s x1 x2 x3) (Q_r_ranked s0)) (k31 : RS → Int32 → Int32 → Int32 → Int32 → Int32 → Option (Int32 × RS)) (M31 : Nat) (hk31 : ∀ (s : RS) (x1 : Int32) (x2 : Int32) (x3 : Int32) (x4 : Int32) (x5 : Int32), InvR s → FrR [45, 144, 150] s0 s → 0 ≤ x1.toInt → x1.toInt ≤ 19 → -1 ≤ x2.toInt → x2.toInt ≤ 7775 → 0 ≤ x3.toInt → x3.toInt ≤ 19 → -1 ≤ x4.toInt → x4.toInt ≤ 7775 → 0 ≤ x5.toInt → x5.toInt ≤ 7776 → (20 - x3.toInt).toNat ≤ M20 → (7776 - x5.toInt).toNat < M31 → Ok (k31 s x1 x2 x3 x4 x5) (Q_r_ranked s0)) (s : RS) (x1 : Int32) (x2 : Int32) (x3 : Int32) (x4 : Int32) (x5 : Int32) (hI_s : InvR s) (hF_s : FrR [45, 144, 150] s0 s) (h_x1l : 0 ≤ x1.toInt) (h_x1u : x1.toInt ≤ 19) (h_x2l : -1 ≤ x2.toInt) (h_x2u : x2.toInt ≤ 7775) (h_x3l : 0 ≤ x3.toInt) (h_x3u : x3.toInt ≤ 19) (h_x4l : -1 ≤ x4.toInt) (h_x4u : x4.toInt ≤ 7775) (h_x5l : 0 ≤ x5.toInt) (h_x5u : x5.toInt ≤ 7776) (hM20 : (20 - x3.toInt).toNat ≤ M20) (hM31 : (7776 - x5.toInt).toNat ≤ M31) : Ok (r_ranked_31 k20 k31 s x1 x2 x3 x4 x5) (Q_r_ranked s0) := by
  unfold r_ranked_31
  refine ok_bindI (ok_r_guesses _  hI_s (hB.fr hF_s (by decide))) (fun r2 s1 hc_1 => ?_)
  have hI_s1 : InvR s1 := hc_1.1
  have hFc_s1 : FrR [] s s1 := hc_1.2.1
  have hF_s1 : FrR [45, 144, 150] s0 s1 := hF_s.trans hFc_s1 (by decide)
  have hl_r2 : 1 ≤ r2.toInt := hc_1.2.2.1
  have hu_r2 : r2.toInt ≤ 7776 := hc_1.2.2.2
  refine ok_ite (fun c_2 => ?_) (fun c_2 => ?_)
  · have c_2 := tn_le (a := (r2).toInt) (b := (x5).toInt) rfl rfl c_2
    refine ok_ite (fun c_3 => ?_) (fun c_3 => ?_)
    · have c_3 := tn_le (a := 0) (b := (x4).toInt) (by decide) rfl c_3
      have a_4 : ((x3 + 1)).toInt = (x3).toInt + 1 := tn_add rfl (by decide) (by omega) (by omega)
      exact hk20 _ _ _ _ hI_s1 hF_s1 (by omega) (by omega) (by omega) (by omega) (by omega) (by omega) (by omega)
    · have c_3 := tn_nle (a := 0) (b := (x4).toInt) (by decide) rfl c_3
      exact ok_some ⟨hI_s1, hF_s1, by show -1 ≤ ((-1) : Int32).toInt; decide, by show ((-1) : Int32).toInt ≤ 7775; decide⟩
  · have c_2 := tn_nle (a := (r2).toInt) (b := (x5).toInt) rfl rfl c_2
    refine ok_grd (vpb_ok (by omega) (by omega)) ?_
    refine ok_ite (fun c_5 => ?_) (fun c_5 => ?_)
    · have c_5 := tn_le (a := ((s1.f 50 (Int32.toNatClampNeg x5))).toInt) (b := 0) rfl (by decide) c_5
      exact ok_r_ranked_84 s0 hB k20 M20 hk20 k31 M31 hk31 _ _ _ _ _ _ hI_s1 hF_s1 (by omega) (by omega) (by omega) (by omega) (by omega) (by omega) (by omega) (by omega) (by omega) (by omega) (by omega) (by omega)
    · have c_5 := tn_nle (a := ((s1.f 50 (Int32.toNatClampNeg x5))).toInt) (b := 0) rfl (by decide) c_5
      refine ok_ite (fun c_6 => ?_) (fun c_6 => ?_)
      · have c_6 := tn_lt (a := (x2).toInt) (b := 0) rfl (by decide) c_6
        exact ok_r_ranked_64 s0 hB k20 M20 hk20 k31 M31 hk31 _ _ _ _ _ _ hI_s1 hF_s1 (by omega) (by omega) (by omega) (by omega) (by omega) (by omega) (by omega) (by omega) (by omega) (by omega) (by omega) (by omega)
      · have c_6 := tn_nlt (a := (x2).toInt) (b := 0) rfl (by decide) c_6
        refine ok_bindI (ok_r_isAhead _ _ _ hI_s1 (by omega) (by omega) (by omega) (by omega)) (fun r9 s8 hc_7 => ?_)
        have hI_s8 : InvR s8 := hc_7.1
        have hFc_s8 : FrR [] s1 s8 := hc_7.2.1
        have hF_s8 : FrR [45, 144, 150] s0 s8 := hF_s1.trans hFc_s8 (by decide)
        have hl_r9 : 0 ≤ r9.toInt := hc_7.2.2.1
        have hu_r9 : r9.toInt ≤ 1 := hc_7.2.2.2
        refine ok_ite (fun c_8 => ?_) (fun c_8 => ?_)
        · have c_8 := tn_eq (a := (r9).toInt) (b := 0) rfl (by decide) c_8
          exact ok_r_ranked_84 s0 hB k20 M20 hk20 k31 M31 hk31 _ _ _ _ _ _ hI_s8 hF_s8 (by omega) (by omega) (by omega) (by omega) (by omega) (by omega) (by omega) (by omega) (by omega) (by omega) (by omega) (by omega)
        · have c_8 := tn_ne (a := (r9).toInt) (b := 0) rfl (by decide) c_8
          exact ok_r_ranked_64 s0 hB k20 M20 hk20 k31 M31 hk31 _ _ _ _ _ _ hI_s8 hF_s8 (by omega) (by omega) (by omega) (by omega) (by omega) (by omega) (by omega) (by omega) (by omega) (by omega) (by omega) (by omega)
theorem okL_r_ranked_31 (s0 : RS) (hB : Big s0) (k20 : RS → Int32 → Int32 → Int32 → Option (Int32 × RS)) (M20 : Nat) (hk20 : ∀ (s : RS) (x1 : Int32) (x2 : Int32) (x3 : Int32), InvR s → FrR [45, 144, 150] s0 s → 0 ≤ x1.toInt → x1.toInt ≤ 19 → -1 ≤ x2.toInt → x2.toInt ≤ 7775 → 0 ≤ x3.toInt → x3.toInt ≤ 20 → (20 - x3.toInt).toNat < M20 → Ok (k20 s x1 x2 x3) (Q_r_ranked s0)) : ∀ (n : Nat) (s : RS) (x1 : Int32) (x2 : Int32) (x3 : Int32) (x4 : Int32) (x5 : Int32), (7776 - x5.toInt).toNat < n → InvR s → FrR [45, 144, 150] s0 s → 0 ≤ x1.toInt → x1.toInt ≤ 19 → -1 ≤ x2.toInt → x2.toInt ≤ 7775 → 0 ≤ x3.toInt → x3.toInt ≤ 19 → -1 ≤ x4.toInt → x4.toInt ≤ 7775 → 0 ≤ x5.toInt → x5.toInt ≤ 7776 → (20 - x3.toInt).toNat ≤ M20 → Ok (r_ranked_31L k20 n s x1 x2 x3 x4 x5) (Q_r_ranked s0) := by
  intro n
  induction n with
  | zero => intro s x1 x2 x3 x4 x5 hn; omega
  | succ n ih =>
    intro s x1 x2 x3 x4 x5 hn hI_s hF_s h_x1l h_x1u h_x2l h_x2u h_x3l h_x3u h_x4l h_x4u h_x5l h_x5u hM20
    exact ok_r_ranked_31 s0 hB k20 M20 hk20 (r_ranked_31L k20 n) ((7776 - x5.toInt).toNat) (fun zs zx1 zx2 zx3 zx4 zx5 g0 g1 g2 g3 g4 g5 g6 g7 g8 g9 g10 g11 o20 hm => ih zs zx1 zx2 zx3 zx4 zx5 (by omega) g0 g1 g2 g3 g4 g5 g6 g7 g8 g9 g10 g11 o20) s x1 x2 x3 x4 x5 hI_s hF_s h_x1l h_x1u h_x2l h_x2u h_x3l h_x3u h_x4l h_x4u h_x5l h_x5u hM20 (Nat.le_refl _)
set_option maxHeartbeats 1000000 in
theorem ok_r_ranked_20 (s0 : RS) (hB : Big s0) (k20 : RS → Int32 → Int32 → Int32 → Option (Int32 × RS)) (M20 : Nat) (hk20 : ∀ (s : RS) (x1 : Int32) (x2 : Int32) (x3 : Int32), InvR s → FrR [45, 144, 150] s0 s → 0 ≤ x1.toInt → x1.toInt ≤ 19 → -1 ≤ x2.toInt → x2.toInt ≤ 7775 → 0 ≤ x3.toInt → x3.toInt ≤ 20 → (20 - x3.toInt).toNat < M20 → Ok (k20 s x1 x2 x3) (Q_r_ranked s0)) (s : RS) (x1 : Int32) (x2 : Int32) (x3 : Int32) (hI_s : InvR s) (hF_s : FrR [45, 144, 150] s0 s) (h_x1l : 0 ≤ x1.toInt) (h_x1u : x1.toInt ≤ 19) (h_x2l : -1 ≤ x2.toInt) (h_x2u : x2.toInt ≤ 7775) (h_x3l : 0 ≤ x3.toInt) (h_x3u : x3.toInt ≤ 20) (hM20 : (20 - x3.toInt).toNat ≤ M20) : Ok (r_ranked_20 k20 s x1 x2 x3) (Q_r_ranked s0) := by
  unfold r_ranked_20
  refine ok_ite (fun c_1 => ?_) (fun c_1 => ?_)
  · have c_1 := tn_lt (a := (x1).toInt) (b := (x3).toInt) rfl rfl c_1
    exact ok_some ⟨hI_s, hF_s, by show -1 ≤ (x2).toInt; omega, by show (x2).toInt ≤ 7775; omega⟩
  · have c_1 := tn_nlt (a := (x1).toInt) (b := (x3).toInt) rfl rfl c_1
    have l_m1 : ((-1) : Int32).toInt = -1 := by decide
    have l_0 : (0 : Int32).toInt = 0 := by decide
    exact okL_r_ranked_31 s0 hB k20 M20 hk20 fu _ _ _ _ _ _ (by unfold fu; omega) hI_s hF_s (by omega) (by omega) (by omega) (by omega) (by omega) (by omega) (by decide) (by decide) (by decide) (by decide) (by omega)
theorem okL_r_ranked_20 (s0 : RS) (hB : Big s0)  : ∀ (n : Nat) (s : RS) (x1 : Int32) (x2 : Int32) (x3 : Int32), (20 - x3.toInt).toNat < n → InvR s → FrR [45, 144, 150] s0 s → 0 ≤ x1.toInt → x1.toInt ≤ 19 → -1 ≤ x2.toInt → x2.toInt ≤ 7775 → 0 ≤ x3.toInt → x3.toInt ≤ 20 → Ok (r_ranked_20L  n s x1 x2 x3) (Q_r_ranked s0) := by
  intro n
  induction n with
  | zero => intro s x1 x2 x3 hn; omega
  | succ n ih =>
    intro s x1 x2 x3 hn hI_s hF_s h_x1l h_x1u h_x2l h_x2u h_x3l h_x3u 
    exact ok_r_ranked_20 s0 hB (r_ranked_20L  n) ((20 - x3.toInt).toNat) (fun zs zx1 zx2 zx3 g0 g1 g2 g3 g4 g5 g6 g7  hm => ih zs zx1 zx2 zx3 (by omega) g0 g1 g2 g3 g4 g5 g6 g7 ) s x1 x2 x3 hI_s hF_s h_x1l h_x1u h_x2l h_x2u h_x3l h_x3u (Nat.le_refl _)
set_option maxHeartbeats 1000000 in
theorem ok_r_rankedB (s0 : RS) (hB : Big s0)  (s : RS) (x1 : Int32) (hI_s : InvR s) (hF_s : FrR [45, 144, 150] s0 s)  : Ok (r_ranked  s x1) (Q_r_ranked s0) := by
  unfold r_ranked
  refine ok_bindP (ok_r_in _ _ _ (by decide) (by decide) (by decide) (by decide)) (fun r1 hc_1 => ?_)
  have l_0 : (0 : Int32).toInt = 0 := by decide
  have l_19 : (19 : Int32).toInt = 19 := by decide
  have hl_r1 : 0 ≤ r1.toInt := hc_1.1
  have hu_r1 : r1.toInt ≤ 1 := hc_1.2.1
  have hx0_r1 : (¬ r1.toInt = 0 → (0 : Int32).toInt ≤ (x1).toInt ∧ (x1).toInt ≤ (19 : Int32).toInt) := hc_1.2.2
  refine ok_ite (fun c_2 => ?_) (fun c_2 => ?_)
  · have c_2 := tn_eq (a := (r1).toInt) (b := 0) rfl (by decide) c_2
    exact ok_some ⟨hI_s, hF_s, by show -1 ≤ ((-1) : Int32).toInt; decide, by show ((-1) : Int32).toInt ≤ 7775; decide⟩
  · have c_2 := tn_ne (a := (r1).toInt) (b := 0) rfl (by decide) c_2
    refine ok_bindP (ok_r_fillsChances _  hI_s (hB.fr hF_s (by decide))) (fun s3 hc_3 => ?_)
    have hI_s3 : InvR s3 := hc_3.1
    have hFc_s3 : FrR [45, 144, 150] s s3 := hc_3.2
    have hF_s3 : FrR [45, 144, 150] s0 s3 := hF_s.trans hFc_s3 (by decide)
    have l_m1 : ((-1) : Int32).toInt = -1 := by decide
    exact okL_r_ranked_20 s0 hB  fu _ _ _ _ (by unfold fu; omega) hI_s3 hF_s3 (by omega) (by omega) (by decide) (by decide) (by decide) (by decide) 
theorem ok_r_ranked (s : RS) (x1 : Int32) (hI_s : InvR s) (hB : Big s) : Ok (r_ranked s x1) (Q_r_ranked s) := ok_r_rankedB s hB s x1 hI_s FrR.rfl
end
section
noncomputable abbrev Q_r_share (s0 : RS) (y : Int32 × RS) : Prop := InvR y.2 ∧ FrR [45, 144] s0 y.2 ∧ -2147483648 ≤ y.1.toInt ∧ y.1.toInt ≤ 2147483647
set_option maxHeartbeats 1000000 in
theorem ok_r_share_73 (s0 : RS) (k44 : RS → Int32 → Int32 → Int32 → Option (Int32 × RS)) (M44 : Nat) (hk44 : ∀ (s : RS) (x1 : Int32) (x3 : Int32) (x4 : Int32), InvR s → FrR [45, 144] s0 s → 0 ≤ x1.toInt → x1.toInt ≤ 4 → 0 ≤ x4.toInt → x4.toInt ≤ 5 → (5 - x4.toInt).toNat < M44 → Ok (k44 s x1 x3 x4) (Q_r_share s0)) (s : RS) (x1 : Int32) (x3 : Int32) (x4 : Int32) (hI_s : InvR s) (hF_s : FrR [45, 144] s0 s) (h_x1l : 0 ≤ x1.toInt) (h_x1u : x1.toInt ≤ 4) (h_x4l : 0 ≤ x4.toInt) (h_x4u : x4.toInt ≤ 4) (hM44 : (5 - x4.toInt).toNat ≤ M44) : Ok (r_share_73 k44 s x1 x3 x4) (Q_r_share s0) := by
  unfold r_share_73
  have a_1 : ((x4 + 1)).toInt = (x4).toInt + 1 := tn_add rfl (by decide) (by omega) (by omega)
  exact hk44 _ _ _ _ hI_s hF_s (by omega) (by omega) (by omega) (by omega) (by omega)
set_option maxHeartbeats 1000000 in
theorem ok_r_share_44 (s0 : RS) (k44 : RS → Int32 → Int32 → Int32 → Option (Int32 × RS)) (M44 : Nat) (hk44 : ∀ (s : RS) (x1 : Int32) (x3 : Int32) (x4 : Int32), InvR s → FrR [45, 144] s0 s → 0 ≤ x1.toInt → x1.toInt ≤ 4 → 0 ≤ x4.toInt → x4.toInt ≤ 5 → (5 - x4.toInt).toNat < M44 → Ok (k44 s x1 x3 x4) (Q_r_share s0)) (s : RS) (x1 : Int32) (x3 : Int32) (x4 : Int32) (hI_s : InvR s) (hF_s : FrR [45, 144] s0 s) (h_x1l : 0 ≤ x1.toInt) (h_x1u : x1.toInt ≤ 4) (h_x4l : 0 ≤ x4.toInt) (h_x4u : x4.toInt ≤ 5) (hM44 : (5 - x4.toInt).toNat ≤ M44) : Ok (r_share_44 k44 s x1 x3 x4) (Q_r_share s0) := by
  unfold r_share_44
  have a_1 : 0 ≤ (s.v 18).toInt ∧ (s.v 18).toInt ≤ 1 := hI_s.1 18
  refine ok_grd (vpb_ok (by omega) (by omega)) ?_
  have a_2 : ((s.f 20 (Int32.toNatClampNeg (s.v 18)))).toInt = wv s0 := wv_fr hF_s (by decide) (by decide)
  have a_3 : 0 ≤ ((s.f 20 (Int32.toNatClampNeg (s.v 18)))).toInt ∧ ((s.f 20 (Int32.toNatClampNeg (s.v 18)))).toInt ≤ 5 := hI_s.2 20 _
  refine ok_ite (fun c_4 => ?_) (fun c_4 => ?_)
  · have c_4 := tn_le (a := ((s.f 20 (Int32.toNatClampNeg (s.v 18)))).toInt) (b := (x4).toInt) rfl rfl c_4
    exact ok_some ⟨hI_s, hF_s, (ti_rng _).1, (ti_rng _).2⟩
  · have c_4 := tn_nle (a := ((s.f 20 (Int32.toNatClampNeg (s.v 18)))).toInt) (b := (x4).toInt) rfl rfl c_4
    refine ok_ite (fun c_5 => ?_) (fun c_5 => ?_)
    · have c_5 := tn_eq (a := (x4).toInt) (b := (x1).toInt) rfl rfl c_5
      exact ok_r_share_73 s0 k44 M44 hk44 _ _ _ _ hI_s hF_s (by omega) (by omega) (by omega) (by omega) (by omega)
    · have c_5 := tn_ne (a := (x4).toInt) (b := (x1).toInt) rfl rfl c_5
      refine ok_bindI (ok_r_sumAt _ _ hI_s (by omega) (by omega)) (fun r5 s4 hc_6 => ?_)
      have hI_s4 : InvR s4 := hc_6.1
      have hFc_s4 : FrR [] s s4 := hc_6.2.1
      have hF_s4 : FrR [45, 144] s0 s4 := hF_s.trans hFc_s4 (by decide)
      exact ok_r_share_73 s0 k44 M44 hk44 _ _ _ _ hI_s4 hF_s4 (by omega) (by omega) (by omega) (by omega) (by omega)
theorem okL_r_share_44 (s0 : RS)  : ∀ (n : Nat) (s : RS) (x1 : Int32) (x3 : Int32) (x4 : Int32), (5 - x4.toInt).toNat < n → InvR s → FrR [45, 144] s0 s → 0 ≤ x1.toInt → x1.toInt ≤ 4 → 0 ≤ x4.toInt → x4.toInt ≤ 5 → Ok (r_share_44L  n s x1 x3 x4) (Q_r_share s0) := by
  intro n
  induction n with
  | zero => intro s x1 x3 x4 hn; omega
  | succ n ih =>
    intro s x1 x3 x4 hn hI_s hF_s h_x1l h_x1u h_x4l h_x4u 
    exact ok_r_share_44 s0 (r_share_44L  n) ((5 - x4.toInt).toNat) (fun zs zx1 zx3 zx4 g0 g1 g2 g3 g4 g5  hm => ih zs zx1 zx3 zx4 (by omega) g0 g1 g2 g3 g4 g5 ) s x1 x3 x4 hI_s hF_s h_x1l h_x1u h_x4l h_x4u (Nat.le_refl _)
set_option maxHeartbeats 1000000 in
theorem ok_r_share_40 (s0 : RS)  (s : RS) (x1 : Int32) (t0 : Int32) (hI_s : InvR s) (hF_s : FrR [45, 144] s0 s) (h_x1l : 0 ≤ x1.toInt) (h_x1u : x1.toInt ≤ 4)  : Ok (r_share_40  s x1 t0) (Q_r_share s0) := by
  unfold r_share_40
  have l_0 : (0 : Int32).toInt = 0 := by decide
  exact okL_r_share_44 s0  fu _ _ _ _ (by unfold fu; omega) hI_s hF_s (by omega) (by omega) (by decide) (by decide) 
set_option maxHeartbeats 1000000 in
theorem ok_r_shareB (s0 : RS)  (s : RS) (x1 : Int32) (x2 : Int32) (hI_s : InvR s) (hF_s : FrR [45, 144] s0 s)  : Ok (r_share  s x1 x2) (Q_r_share s0) := by
  unfold r_share
  refine ok_bindI (ok_r_isWave _ _ hI_s) (fun r2 s1 hc_1 => ?_)
  have hI_s1 : InvR s1 := hc_1.1
  have hFc_s1 : FrR [] s s1 := hc_1.2.1
  have hF_s1 : FrR [45, 144] s0 s1 := hF_s.trans hFc_s1 (by decide)
  have a_2 : wv s = wv s0 := wv_fr hF_s (by decide) (by decide)
  have hl_r2 : 0 ≤ r2.toInt := hc_1.2.2.1
  have hu_r2 : r2.toInt ≤ 1 := hc_1.2.2.2.1
  have hx0_r2 : (¬ r2.toInt = 0 → 0 ≤ (x1).toInt ∧ (x1).toInt < wv s ∧ wv s ≤ 5) := hc_1.2.2.2.2
  refine ok_ite (fun c_3 => ?_) (fun c_3 => ?_)
  · have c_3 := tn_eq (a := (r2).toInt) (b := 0) rfl (by decide) c_3
    exact ok_some ⟨hI_s1, hF_s1, (ti_rng _).1, (ti_rng _).2⟩
  · have c_3 := tn_ne (a := (r2).toInt) (b := 0) rfl (by decide) c_3
    refine ok_bindP (ok_r_isThing _ ) (fun r4 hc_4 => ?_)
    have hl_r4 : 0 ≤ r4.toInt := hc_4.1
    have hu_r4 : r4.toInt ≤ 1 := hc_4.2.1
    have hx0_r4 : (¬ r4.toInt = 0 → 0 ≤ (x2).toInt ∧ (x2).toInt ≤ 5) := hc_4.2.2
    refine ok_ite (fun c_5 => ?_) (fun c_5 => ?_)
    · have c_5 := tn_eq (a := (r4).toInt) (b := 0) rfl (by decide) c_5
      exact ok_some ⟨hI_s1, hF_s1, (ti_rng _).1, (ti_rng _).2⟩
    · have c_5 := tn_ne (a := (r4).toInt) (b := 0) rfl (by decide) c_5
      refine ok_bindP (ok_r_copies _  hI_s1) (fun s6 hc_6 => ?_)
      have hI_s6 : InvR s6 := hc_6.1
      have hFc_s6 : FrR [45, 144] s1 s6 := hc_6.2
      have hF_s6 : FrR [45, 144] s0 s6 := hF_s1.trans hFc_s6 (by decide)
      refine ok_bindI (ok_r_mayBe _ _ _ hI_s6 (by omega) (by omega) (by omega) (by omega)) (fun r8 s7 hc_7 => ?_)
      have hI_s7 : InvR s7 := hc_7.1
      have hFc_s7 : FrR [] s6 s7 := hc_7.2.1
      have hF_s7 : FrR [45, 144] s0 s7 := hF_s6.trans hFc_s7 (by decide)
      have hl_r8 : 0 ≤ r8.toInt := hc_7.2.2.1
      have hu_r8 : r8.toInt ≤ 1 := hc_7.2.2.2
      refine ok_ite (fun c_8 => ?_) (fun c_8 => ?_)
      · have c_8 := tn_eq (a := (r8).toInt) (b := 0) rfl (by decide) c_8
        have l_0 : (0 : Int32).toInt = 0 := by decide
        exact ok_r_share_40 s0  _ _ _ hI_s7 hF_s7 (by omega) (by omega) 
      · have c_8 := tn_ne (a := (r8).toInt) (b := 0) rfl (by decide) c_8
        refine ok_bindI (ok_r_oddsAt _ _ _ hI_s7 (by omega) (by omega) (by omega) (by omega)) (fun r11 s10 hc_9 => ?_)
        have hI_s10 : InvR s10 := hc_9.1
        have hFc_s10 : FrR [] s7 s10 := hc_9.2.1
        have hF_s10 : FrR [45, 144] s0 s10 := hF_s7.trans hFc_s10 (by decide)
        exact ok_r_share_40 s0  _ _ _ hI_s10 hF_s10 (by omega) (by omega) 
theorem ok_r_share (s : RS) (x1 : Int32) (x2 : Int32) (hI_s : InvR s) : Ok (r_share s x1 x2) (Q_r_share s) := ok_r_shareB s s x1 x2 hI_s FrR.rfl
noncomputable abbrev Q_r_comesOver (s0 : RS) (y : Int32 × RS) : Prop := InvR y.2 ∧ FrR [42, 45, 140, 141, 144] s0 y.2 ∧ 0 ≤ y.1.toInt ∧ y.1.toInt ≤ 1
set_option maxHeartbeats 1000000 in
theorem ok_r_comesOver_7 (s0 : RS) (hB : Big s0) (k7 : RS → Int32 → Int32 → Int32 → Int32 → Option (Int32 × RS)) (M7 : Nat) (hk7 : ∀ (s : RS) (x1 : Int32) (x2 : Int32) (x3 : Int32) (x4 : Int32), InvR s → FrR [42, 45, 140, 141, 144] s0 s → 0 ≤ x1.toInt → x1.toInt ≤ 5 → 0 ≤ x2.toInt → x2.toInt ≤ 7775 → 1 ≤ x3.toInt → x3.toInt ≤ 8 → 0 ≤ x4.toInt → x4.toInt ≤ 8 → (8 - x4.toInt).toNat < M7 → Ok (k7 s x1 x2 x3 x4) (Q_r_comesOver s0)) (s : RS) (x1 : Int32) (x2 : Int32) (x3 : Int32) (x4 : Int32) (hI_s : InvR s) (hF_s : FrR [42, 45, 140, 141, 144] s0 s) (h_x1l : 0 ≤ x1.toInt) (h_x1u : x1.toInt ≤ 5) (h_x2l : 0 ≤ x2.toInt) (h_x2u : x2.toInt ≤ 7775) (h_x3l : 1 ≤ x3.toInt) (h_x3u : x3.toInt ≤ 8) (h_x4l : 0 ≤ x4.toInt) (h_x4u : x4.toInt ≤ 8) (hM7 : (8 - x4.toInt).toNat ≤ M7) : Ok (r_comesOver_7 k7 s x1 x2 x3 x4) (Q_r_comesOver s0) := by
  unfold r_comesOver_7
  refine ok_ite (fun c_1 => ?_) (fun c_1 => ?_)
  · have c_1 := tn_le (a := (x3).toInt) (b := (x4).toInt) rfl rfl c_1
    exact ok_some ⟨hI_s, hF_s, by show 0 ≤ (0 : Int32).toInt; decide, by show (0 : Int32).toInt ≤ 1; decide⟩
  · have c_1 := tn_nle (a := (x3).toInt) (b := (x4).toInt) rfl rfl c_1
    refine ok_bindI (ok_r_bestFor _ _ hI_s (hB.fr hF_s (by decide)) (by omega) (by omega)) (fun r3 s2 hc_2 => ?_)
    have hI_s2 : InvR s2 := hc_2.1
    have hFc_s2 : FrR [42, 140, 141] s s2 := hc_2.2.1
    have hF_s2 : FrR [42, 45, 140, 141, 144] s0 s2 := hF_s.trans hFc_s2 (by decide)
    have hl_r3 : -2 ≤ r3.toInt := hc_2.2.2.1
    have hu_r3 : r3.toInt ≤ 194400 := hc_2.2.2.2
    refine ok_ite (fun c_3 => ?_) (fun c_3 => ?_)
    · have c_3 := tn_le (a := 0) (b := (r3).toInt) (by decide) rfl c_3
      refine ok_bindI (ok_r_goesBy _ _ _ _ hI_s2 (hB.fr hF_s2 (by decide)) (by omega) (by omega) (by omega) (by omega) (by omega) (by omega)) (fun r6 s5 hc_4 => ?_)
      have hI_s5 : InvR s5 := hc_4.1
      have hFc_s5 : FrR [42, 140, 141, 144] s2 s5 := hc_4.2.1
      have hF_s5 : FrR [42, 45, 140, 141, 144] s0 s5 := hF_s2.trans hFc_s5 (by decide)
      have hl_r6 : 0 ≤ r6.toInt := hc_4.2.2.1
      have hu_r6 : r6.toInt ≤ 5 := hc_4.2.2.2
      have a_5 : ((15 + x1)).toInt = 15 + (x1).toInt := tn_add (by decide) rfl (by omega) (by omega)
      refine ok_grd (vpb_ok (by omega) (by omega)) ?_
      refine ok_ite (fun c_6 => ?_) (fun c_6 => ?_)
      · have c_6 := tn_eq (a := ((s5.f 44 (Int32.toNatClampNeg (15 + x1)))).toInt) (b := 2) rfl (by decide) c_6
        exact ok_some ⟨hI_s5, hF_s5, by show 0 ≤ (1 : Int32).toInt; decide, by show (1 : Int32).toInt ≤ 1; decide⟩
      · have c_6 := tn_ne (a := ((s5.f 44 (Int32.toNatClampNeg (15 + x1)))).toInt) (b := 2) rfl (by decide) c_6
        have a_7 : ((x4 + 1)).toInt = (x4).toInt + 1 := tn_add rfl (by decide) (by omega) (by omega)
        exact hk7 _ _ _ _ _ hI_s5 hF_s5 (by omega) (by omega) (by omega) (by omega) (by omega) (by omega) (by omega) (by omega) (by omega)
    · have c_3 := tn_nle (a := 0) (b := (r3).toInt) (by decide) rfl c_3
      exact ok_some ⟨hI_s2, hF_s2, by show 0 ≤ (0 : Int32).toInt; decide, by show (0 : Int32).toInt ≤ 1; decide⟩
theorem okL_r_comesOver_7 (s0 : RS) (hB : Big s0)  : ∀ (n : Nat) (s : RS) (x1 : Int32) (x2 : Int32) (x3 : Int32) (x4 : Int32), (8 - x4.toInt).toNat < n → InvR s → FrR [42, 45, 140, 141, 144] s0 s → 0 ≤ x1.toInt → x1.toInt ≤ 5 → 0 ≤ x2.toInt → x2.toInt ≤ 7775 → 1 ≤ x3.toInt → x3.toInt ≤ 8 → 0 ≤ x4.toInt → x4.toInt ≤ 8 → Ok (r_comesOver_7L  n s x1 x2 x3 x4) (Q_r_comesOver s0) := by
  intro n
  induction n with
  | zero => intro s x1 x2 x3 x4 hn; omega
  | succ n ih =>
    intro s x1 x2 x3 x4 hn hI_s hF_s h_x1l h_x1u h_x2l h_x2u h_x3l h_x3u h_x4l h_x4u 
    exact ok_r_comesOver_7 s0 hB (r_comesOver_7L  n) ((8 - x4.toInt).toNat) (fun zs zx1 zx2 zx3 zx4 g0 g1 g2 g3 g4 g5 g6 g7 g8 g9  hm => ih zs zx1 zx2 zx3 zx4 (by omega) g0 g1 g2 g3 g4 g5 g6 g7 g8 g9 ) s x1 x2 x3 x4 hI_s hF_s h_x1l h_x1u h_x2l h_x2u h_x3l h_x3u h_x4l h_x4u (Nat.le_refl _)
set_option maxHeartbeats 1000000 in
theorem ok_r_comesOverB (s0 : RS) (hB : Big s0)  (s : RS) (x1 : Int32) (x2 : Int32) (x3 : Int32) (hI_s : InvR s) (hF_s : FrR [42, 45, 140, 141, 144] s0 s) (h_x1l : 0 ≤ x1.toInt) (h_x1u : x1.toInt ≤ 5) (h_x2l : 0 ≤ x2.toInt) (h_x2u : x2.toInt ≤ 7775) (h_x3l : 1 ≤ x3.toInt) (h_x3u : x3.toInt ≤ 8)  : Ok (r_comesOver  s x1 x2 x3) (Q_r_comesOver s0) := by
  unfold r_comesOver
  refine ok_bindP (ok_r_copies _  hI_s) (fun s1 hc_1 => ?_)
  have hI_s1 : InvR s1 := hc_1.1
  have hFc_s1 : FrR [45, 144] s s1 := hc_1.2
  have hF_s1 : FrR [42, 45, 140, 141, 144] s0 s1 := hF_s.trans hFc_s1 (by decide)
  have l_0 : (0 : Int32).toInt = 0 := by decide
  exact okL_r_comesOver_7 s0 hB  fu _ _ _ _ _ (by unfold fu; omega) hI_s1 hF_s1 (by omega) (by omega) (by omega) (by omega) (by omega) (by omega) (by decide) (by decide) 
theorem ok_r_comesOver (s : RS) (x1 : Int32) (x2 : Int32) (x3 : Int32) (hI_s : InvR s) (hB : Big s) (h_x1l : 0 ≤ x1.toInt) (h_x1u : x1.toInt ≤ 5) (h_x2l : 0 ≤ x2.toInt) (h_x2u : x2.toInt ≤ 7775) (h_x3l : 1 ≤ x3.toInt) (h_x3u : x3.toInt ≤ 8) : Ok (r_comesOver s x1 x2 x3) (Q_r_comesOver s) := ok_r_comesOverB s hB s x1 x2 x3 hI_s FrR.rfl h_x1l h_x1u h_x2l h_x2u h_x3l h_x3u
noncomputable abbrev Q_r_sure (s0 : RS) (y : Int32 × RS) : Prop := InvR y.2 ∧ FrR [42, 45, 140, 141, 144, 150] s0 y.2 ∧ -2147483648 ≤ y.1.toInt ∧ y.1.toInt ≤ 2147483647
set_option maxHeartbeats 1000000 in
theorem ok_r_sure_81 (s0 : RS) (hB : Big s0) (k41 : RS → Int32 → Int32 → Int32 → Int32 → Option (Int32 × RS)) (M41 : Nat) (hk41 : ∀ (s : RS) (x1 : Int32) (x2 : Int32) (x3 : Int32) (x4 : Int32), InvR s → FrR [42, 45, 140, 141, 144, 150] s0 s → 0 ≤ x1.toInt → x1.toInt ≤ 5 → 1 ≤ x2.toInt → x2.toInt ≤ 8 → 0 ≤ x4.toInt → x4.toInt ≤ 7776 → (7776 - x4.toInt).toNat < M41 → Ok (k41 s x1 x2 x3 x4) (Q_r_sure s0)) (s : RS) (x1 : Int32) (x2 : Int32) (x3 : Int32) (x4 : Int32) (hI_s : InvR s) (hF_s : FrR [42, 45, 140, 141, 144, 150] s0 s) (h_x1l : 0 ≤ x1.toInt) (h_x1u : x1.toInt ≤ 5) (h_x2l : 1 ≤ x2.toInt) (h_x2u : x2.toInt ≤ 8) (h_x4l : 0 ≤ x4.toInt) (h_x4u : x4.toInt ≤ 7775) (hM41 : (7776 - x4.toInt).toNat ≤ M41) : Ok (r_sure_81 k41 s x1 x2 x3 x4) (Q_r_sure s0) := by
  unfold r_sure_81
  have a_1 : ((x4 + 1)).toInt = (x4).toInt + 1 := tn_add rfl (by decide) (by omega) (by omega)
  exact hk41 _ _ _ _ _ hI_s hF_s (by omega) (by omega) (by omega) (by omega) (by omega) (by omega) (by omega)
set_option maxHeartbeats 1000000 in
theorem ok_r_sure_41 (s0 : RS) (hB : Big s0) (k41 : RS → Int32 → Int32 → Int32 → Int32 → Option (Int32 × RS)) (M41 : Nat) (hk41 : ∀ (s : RS) (x1 : Int32) (x2 : Int32) (x3 : Int32) (x4 : Int32), InvR s → FrR [42, 45, 140, 141, 144, 150] s0 s → 0 ≤ x1.toInt → x1.toInt ≤ 5 → 1 ≤ x2.toInt → x2.toInt ≤ 8 → 0 ≤ x4.toInt → x4.toInt ≤ 7776 → (7776 - x4.toInt).toNat < M41 → Ok (k41 s x1 x2 x3 x4) (Q_r_sure s0)) (s : RS) (x1 : Int32) (x2 : Int32) (x3 : Int32) (x4 : Int32) (hI_s : InvR s) (hF_s : FrR [42, 45, 140, 141, 144, 150] s0 s) (h_x1l : 0 ≤ x1.toInt) (h_x1u : x1.toInt ≤ 5) (h_x2l : 1 ≤ x2.toInt) (h_x2u : x2.toInt ≤ 8) (h_x4l : 0 ≤ x4.toInt) (h_x4u : x4.toInt ≤ 7776) (hM41 : (7776 - x4.toInt).toNat ≤ M41) : Ok (r_sure_41 k41 s x1 x2 x3 x4) (Q_r_sure s0) := by
  unfold r_sure_41
  refine ok_bindI (ok_r_guesses _  hI_s (hB.fr hF_s (by decide))) (fun r2 s1 hc_1 => ?_)
  have hI_s1 : InvR s1 := hc_1.1
  have hFc_s1 : FrR [] s s1 := hc_1.2.1
  have hF_s1 : FrR [42, 45, 140, 141, 144, 150] s0 s1 := hF_s.trans hFc_s1 (by decide)
  have hl_r2 : 1 ≤ r2.toInt := hc_1.2.2.1
  have hu_r2 : r2.toInt ≤ 7776 := hc_1.2.2.2
  refine ok_ite (fun c_2 => ?_) (fun c_2 => ?_)
  · have c_2 := tn_le (a := (r2).toInt) (b := (x4).toInt) rfl rfl c_2
    exact ok_some ⟨hI_s1, hF_s1, (ti_rng _).1, (ti_rng _).2⟩
  · have c_2 := tn_nle (a := (r2).toInt) (b := (x4).toInt) rfl rfl c_2
    refine ok_grd (vpb_ok (by omega) (by omega)) ?_
    refine ok_ite (fun c_3 => ?_) (fun c_3 => ?_)
    · have c_3 := tn_le (a := ((s1.f 50 (Int32.toNatClampNeg x4))).toInt) (b := 0) rfl (by decide) c_3
      exact ok_r_sure_81 s0 hB k41 M41 hk41 _ _ _ _ _ hI_s1 hF_s1 (by omega) (by omega) (by omega) (by omega) (by omega) (by omega) (by omega)
    · have c_3 := tn_nle (a := ((s1.f 50 (Int32.toNatClampNeg x4))).toInt) (b := 0) rfl (by decide) c_3
      refine ok_bindI (ok_r_comesOver _ _ _ _ hI_s1 (hB.fr hF_s1 (by decide)) (by omega) (by omega) (by omega) (by omega) (by omega) (by omega)) (fun r7 s6 hc_4 => ?_)
      have hI_s6 : InvR s6 := hc_4.1
      have hFc_s6 : FrR [42, 45, 140, 141, 144] s1 s6 := hc_4.2.1
      have hF_s6 : FrR [42, 45, 140, 141, 144, 150] s0 s6 := hF_s1.trans hFc_s6 (by decide)
      have hl_r7 : 0 ≤ r7.toInt := hc_4.2.2.1
      have hu_r7 : r7.toInt ≤ 1 := hc_4.2.2.2
      refine ok_ite (fun c_5 => ?_) (fun c_5 => ?_)
      · have c_5 := tn_eq (a := (r7).toInt) (b := 0) rfl (by decide) c_5
        exact ok_r_sure_81 s0 hB k41 M41 hk41 _ _ _ _ _ hI_s6 hF_s6 (by omega) (by omega) (by omega) (by omega) (by omega) (by omega) (by omega)
      · have c_5 := tn_ne (a := (r7).toInt) (b := 0) rfl (by decide) c_5
        refine ok_grd (vpb_ok (by omega) (by omega)) ?_
        exact ok_r_sure_81 s0 hB k41 M41 hk41 _ _ _ _ _ hI_s6 hF_s6 (by omega) (by omega) (by omega) (by omega) (by omega) (by omega) (by omega)
theorem okL_r_sure_41 (s0 : RS) (hB : Big s0)  : ∀ (n : Nat) (s : RS) (x1 : Int32) (x2 : Int32) (x3 : Int32) (x4 : Int32), (7776 - x4.toInt).toNat < n → InvR s → FrR [42, 45, 140, 141, 144, 150] s0 s → 0 ≤ x1.toInt → x1.toInt ≤ 5 → 1 ≤ x2.toInt → x2.toInt ≤ 8 → 0 ≤ x4.toInt → x4.toInt ≤ 7776 → Ok (r_sure_41L  n s x1 x2 x3 x4) (Q_r_sure s0) := by
  intro n
  induction n with
  | zero => intro s x1 x2 x3 x4 hn; omega
  | succ n ih =>
    intro s x1 x2 x3 x4 hn hI_s hF_s h_x1l h_x1u h_x2l h_x2u h_x4l h_x4u 
    exact ok_r_sure_41 s0 hB (r_sure_41L  n) ((7776 - x4.toInt).toNat) (fun zs zx1 zx2 zx3 zx4 g0 g1 g2 g3 g4 g5 g6 g7  hm => ih zs zx1 zx2 zx3 zx4 (by omega) g0 g1 g2 g3 g4 g5 g6 g7 ) s x1 x2 x3 x4 hI_s hF_s h_x1l h_x1u h_x2l h_x2u h_x4l h_x4u (Nat.le_refl _)
set_option maxHeartbeats 1000000 in
theorem ok_r_sureB (s0 : RS) (hB : Big s0)  (s : RS) (x1 : Int32) (x2 : Int32) (hI_s : InvR s) (hF_s : FrR [42, 45, 140, 141, 144, 150] s0 s)  : Ok (r_sure  s x1 x2) (Q_r_sure s0) := by
  unfold r_sure
  refine ok_bindI (ok_r_isHere _ _ hI_s) (fun r2 s1 hc_1 => ?_)
  have hI_s1 : InvR s1 := hc_1.1
  have hFc_s1 : FrR [] s s1 := hc_1.2.1
  have hF_s1 : FrR [42, 45, 140, 141, 144, 150] s0 s1 := hF_s.trans hFc_s1 (by decide)
  have hl_r2 : 0 ≤ r2.toInt := hc_1.2.2.1
  have hu_r2 : r2.toInt ≤ 1 := hc_1.2.2.2.1
  have hx0_r2 : (¬ r2.toInt = 0 → 0 ≤ (x1).toInt ∧ (x1).toInt ≤ 5) := hc_1.2.2.2.2
  refine ok_ite (fun c_2 => ?_) (fun c_2 => ?_)
  · have c_2 := tn_eq (a := (r2).toInt) (b := 0) rfl (by decide) c_2
    exact ok_some ⟨hI_s1, hF_s1, (ti_rng _).1, (ti_rng _).2⟩
  · have c_2 := tn_ne (a := (r2).toInt) (b := 0) rfl (by decide) c_2
    have a_3 : 0 ≤ (s.v 18).toInt ∧ (s.v 18).toInt ≤ 1 := hI_s.1 18
    have a_4 : (s1.v 18).toInt = (s.v 18).toInt := congrArg Int32.toInt (hFc_s1.1 18 (by decide))
    refine ok_grd (vpb_ok (by omega) (by omega)) ?_
    have a_5 : ((s1.f 20 (Int32.toNatClampNeg (s1.v 18)))).toInt = wv s0 := wv_fr hF_s1 (by decide) (by decide)
    have a_6 : 0 ≤ ((s1.f 20 (Int32.toNatClampNeg (s1.v 18)))).toInt ∧ ((s1.f 20 (Int32.toNatClampNeg (s1.v 18)))).toInt ≤ 5 := hI_s1.2 20 _
    refine ok_ite (fun c_7 => ?_) (fun c_7 => ?_)
    · have c_7 := tn_eq (a := ((s1.f 20 (Int32.toNatClampNeg (s1.v 18)))).toInt) (b := 0) rfl (by decide) c_7
      exact ok_some ⟨hI_s1, hF_s1, (ti_rng _).1, (ti_rng _).2⟩
    · have c_7 := tn_ne (a := ((s1.f 20 (Int32.toNatClampNeg (s1.v 18)))).toInt) (b := 0) rfl (by decide) c_7
      refine ok_bindP (ok_r_in _ _ _ (by decide) (by decide) (by decide) (by decide)) (fun r6 hc_8 => ?_)
      have l_1 : (1 : Int32).toInt = 1 := by decide
      have l_8 : (8 : Int32).toInt = 8 := by decide
      have hl_r6 : 0 ≤ r6.toInt := hc_8.1
      have hu_r6 : r6.toInt ≤ 1 := hc_8.2.1
      have hx0_r6 : (¬ r6.toInt = 0 → (1 : Int32).toInt ≤ (x2).toInt ∧ (x2).toInt ≤ (8 : Int32).toInt) := hc_8.2.2
      refine ok_ite (fun c_9 => ?_) (fun c_9 => ?_)
      · have c_9 := tn_eq (a := (r6).toInt) (b := 0) rfl (by decide) c_9
        exact ok_some ⟨hI_s1, hF_s1, (ti_rng _).1, (ti_rng _).2⟩
      · have c_9 := tn_ne (a := (r6).toInt) (b := 0) rfl (by decide) c_9
        refine ok_bindP (ok_r_fillsChances _  hI_s1 (hB.fr hF_s1 (by decide))) (fun s8 hc_10 => ?_)
        have hI_s8 : InvR s8 := hc_10.1
        have hFc_s8 : FrR [45, 144, 150] s1 s8 := hc_10.2
        have hF_s8 : FrR [42, 45, 140, 141, 144, 150] s0 s8 := hF_s1.trans hFc_s8 (by decide)
        have l_0 : (0 : Int32).toInt = 0 := by decide
        exact okL_r_sure_41 s0 hB  fu _ _ _ _ _ (by unfold fu; omega) hI_s8 hF_s8 (by omega) (by omega) (by omega) (by omega) (by decide) (by decide) 
theorem ok_r_sure (s : RS) (x1 : Int32) (x2 : Int32) (hI_s : InvR s) (hB : Big s) : Ok (r_sure s x1 x2) (Q_r_sure s) := ok_r_sureB s hB s x1 x2 hI_s FrR.rfl
noncomputable abbrev Q_r_alike (s0 : RS) (y : Int32 × RS) : Prop := InvR y.2 ∧ FrR [] s0 y.2 ∧ -1 ≤ y.1.toInt ∧ y.1.toInt ≤ 5
set_option maxHeartbeats 1000000 in
theorem ok_r_alike_20 (s0 : RS) (hB : Big s0) (k20 : RS → Int32 → Int32 → Int32 → Option (Int32 × RS)) (M20 : Nat) (hk20 : ∀ (s : RS) (x1 : Int32) (x2 : Int32) (x3 : Int32), InvR s → FrR [] s0 s → 0 ≤ x1.toInt → x1.toInt ≤ 7775 → 0 ≤ x2.toInt → x2.toInt ≤ 7775 → 0 ≤ x3.toInt → x3.toInt ≤ 5 → (5 - x3.toInt).toNat < M20 → Ok (k20 s x1 x2 x3) (Q_r_alike s0)) (s : RS) (x1 : Int32) (x2 : Int32) (x3 : Int32) (hI_s : InvR s) (hF_s : FrR [] s0 s) (h_x1l : 0 ≤ x1.toInt) (h_x1u : x1.toInt ≤ 7775) (h_x2l : 0 ≤ x2.toInt) (h_x2u : x2.toInt ≤ 7775) (h_x3l : 0 ≤ x3.toInt) (h_x3u : x3.toInt ≤ 5) (hM20 : (5 - x3.toInt).toNat ≤ M20) : Ok (r_alike_20 k20 s x1 x2 x3) (Q_r_alike s0) := by
  unfold r_alike_20
  have a_1 : 0 ≤ (s.v 18).toInt ∧ (s.v 18).toInt ≤ 1 := hI_s.1 18
  refine ok_grd (vpb_ok (by omega) (by omega)) ?_
  have a_2 : ((s.f 20 (Int32.toNatClampNeg (s.v 18)))).toInt = wv s0 := wv_fr hF_s (by decide) (by decide)
  have a_3 : 0 ≤ ((s.f 20 (Int32.toNatClampNeg (s.v 18)))).toInt ∧ ((s.f 20 (Int32.toNatClampNeg (s.v 18)))).toInt ≤ 5 := hI_s.2 20 _
  refine ok_ite (fun c_4 => ?_) (fun c_4 => ?_)
  · have c_4 := tn_le (a := ((s.f 20 (Int32.toNatClampNeg (s.v 18)))).toInt) (b := (x3).toInt) rfl rfl c_4
    exact ok_some ⟨hI_s, hF_s, by show -1 ≤ (x3).toInt; omega, by show (x3).toInt ≤ 5; omega⟩
  · have c_4 := tn_nle (a := ((s.f 20 (Int32.toNatClampNeg (s.v 18)))).toInt) (b := (x3).toInt) rfl rfl c_4
    refine ok_bindI (ok_r_thingAt _ _ _ hI_s (hB.fr hF_s (by decide)) (by omega) (by omega) (by omega) (by omega)) (fun r4 s3 hc_5 => ?_)
    have hI_s3 : InvR s3 := hc_5.1
    have hFc_s3 : FrR [] s s3 := hc_5.2.1
    have hF_s3 : FrR [] s0 s3 := hF_s.trans hFc_s3 (by decide)
    have hl_r4 : 0 ≤ r4.toInt := hc_5.2.2.1
    have hu_r4 : r4.toInt ≤ 5 := hc_5.2.2.2
    refine ok_bindI (ok_r_thingAt _ _ _ hI_s3 (hB.fr hF_s3 (by decide)) (by omega) (by omega) (by omega) (by omega)) (fun r6 s5 hc_6 => ?_)
    have hI_s5 : InvR s5 := hc_6.1
    have hFc_s5 : FrR [] s3 s5 := hc_6.2.1
    have hF_s5 : FrR [] s0 s5 := hF_s3.trans hFc_s5 (by decide)
    have hl_r6 : 0 ≤ r6.toInt := hc_6.2.2.1
    have hu_r6 : r6.toInt ≤ 5 := hc_6.2.2.2
    refine ok_ite (fun c_7 => ?_) (fun c_7 => ?_)
    · have c_7 := tn_eq (a := (r4).toInt) (b := (r6).toInt) rfl rfl c_7
      have a_8 : ((x3 + 1)).toInt = (x3).toInt + 1 := tn_add rfl (by decide) (by omega) (by omega)
      exact hk20 _ _ _ _ hI_s5 hF_s5 (by omega) (by omega) (by omega) (by omega) (by omega) (by omega) (by omega)
    · have c_7 := tn_ne (a := (r4).toInt) (b := (r6).toInt) rfl rfl c_7
      exact ok_some ⟨hI_s5, hF_s5, by show -1 ≤ (x3).toInt; omega, by show (x3).toInt ≤ 5; omega⟩
theorem okL_r_alike_20 (s0 : RS) (hB : Big s0)  : ∀ (n : Nat) (s : RS) (x1 : Int32) (x2 : Int32) (x3 : Int32), (5 - x3.toInt).toNat < n → InvR s → FrR [] s0 s → 0 ≤ x1.toInt → x1.toInt ≤ 7775 → 0 ≤ x2.toInt → x2.toInt ≤ 7775 → 0 ≤ x3.toInt → x3.toInt ≤ 5 → Ok (r_alike_20L  n s x1 x2 x3) (Q_r_alike s0) := by
  intro n
  induction n with
  | zero => intro s x1 x2 x3 hn; omega
  | succ n ih =>
    intro s x1 x2 x3 hn hI_s hF_s h_x1l h_x1u h_x2l h_x2u h_x3l h_x3u 
    exact ok_r_alike_20 s0 hB (r_alike_20L  n) ((5 - x3.toInt).toNat) (fun zs zx1 zx2 zx3 g0 g1 g2 g3 g4 g5 g6 g7  hm => ih zs zx1 zx2 zx3 (by omega) g0 g1 g2 g3 g4 g5 g6 g7 ) s x1 x2 x3 hI_s hF_s h_x1l h_x1u h_x2l h_x2u h_x3l h_x3u (Nat.le_refl _)
set_option maxHeartbeats 1000000 in
theorem ok_r_alikeB (s0 : RS) (hB : Big s0)  (s : RS) (x1 : Int32) (x2 : Int32) (hI_s : InvR s) (hF_s : FrR [] s0 s)  : Ok (r_alike  s x1 x2) (Q_r_alike s0) := by
  unfold r_alike
  refine ok_bindI (ok_r_isGuess _ _ hI_s (hB.fr hF_s (by decide))) (fun r2 s1 hc_1 => ?_)
  have hI_s1 : InvR s1 := hc_1.1
  have hFc_s1 : FrR [] s s1 := hc_1.2.1
  have hF_s1 : FrR [] s0 s1 := hF_s.trans hFc_s1 (by decide)
  have hl_r2 : 0 ≤ r2.toInt := hc_1.2.2.1
  have hu_r2 : r2.toInt ≤ 1 := hc_1.2.2.2.1
  have hx0_r2 : (¬ r2.toInt = 0 → 0 ≤ (x1).toInt ∧ (x1).toInt ≤ 7775) := hc_1.2.2.2.2
  refine ok_ite (fun c_2 => ?_) (fun c_2 => ?_)
  · have c_2 := tn_eq (a := (r2).toInt) (b := 0) rfl (by decide) c_2
    exact ok_some ⟨hI_s1, hF_s1, by show -1 ≤ ((-1) : Int32).toInt; decide, by show ((-1) : Int32).toInt ≤ 5; decide⟩
  · have c_2 := tn_ne (a := (r2).toInt) (b := 0) rfl (by decide) c_2
    refine ok_bindI (ok_r_isGuess _ _ hI_s1 (hB.fr hF_s1 (by decide))) (fun r5 s4 hc_3 => ?_)
    have hI_s4 : InvR s4 := hc_3.1
    have hFc_s4 : FrR [] s1 s4 := hc_3.2.1
    have hF_s4 : FrR [] s0 s4 := hF_s1.trans hFc_s4 (by decide)
    have hl_r5 : 0 ≤ r5.toInt := hc_3.2.2.1
    have hu_r5 : r5.toInt ≤ 1 := hc_3.2.2.2.1
    have hx0_r5 : (¬ r5.toInt = 0 → 0 ≤ (x2).toInt ∧ (x2).toInt ≤ 7775) := hc_3.2.2.2.2
    refine ok_ite (fun c_4 => ?_) (fun c_4 => ?_)
    · have c_4 := tn_eq (a := (r5).toInt) (b := 0) rfl (by decide) c_4
      exact ok_some ⟨hI_s4, hF_s4, by show -1 ≤ ((-1) : Int32).toInt; decide, by show ((-1) : Int32).toInt ≤ 5; decide⟩
    · have c_4 := tn_ne (a := (r5).toInt) (b := 0) rfl (by decide) c_4
      have l_0 : (0 : Int32).toInt = 0 := by decide
      exact okL_r_alike_20 s0 hB  fu _ _ _ _ (by unfold fu; omega) hI_s4 hF_s4 (by omega) (by omega) (by omega) (by omega) (by decide) (by decide) 
theorem ok_r_alike (s : RS) (x1 : Int32) (x2 : Int32) (hI_s : InvR s) (hB : Big s) : Ok (r_alike s x1 x2) (Q_r_alike s) := ok_r_alikeB s hB s x1 x2 hI_s FrR.rfl
noncomputable abbrev Q_r_sunk (s0 : RS) (y : Int32 × RS) : Prop := InvR y.2 ∧ FrR [42, 45, 140, 141, 144] s0 y.2 ∧ -2147483648 ≤ y.1.toInt ∧ y.1.toInt ≤ 2147483647
set_option maxHeartbeats 1000000 in
theorem ok_r_sunk_63 (s0 : RS) (hB : Big s0) (k18 : RS → Int32 → Int32 → Int32 → Option (Int32 × RS)) (M18 : Nat) (hk18 : ∀ (s : RS) (x1 : Int32) (x2 : Int32) (x3 : Int32), InvR s → FrR [42, 45, 140, 141, 144] s0 s → 0 ≤ x1.toInt → x1.toInt ≤ 7775 → 0 ≤ x3.toInt → x3.toInt ≤ 6 → (6 - x3.toInt).toNat < M18 → Ok (k18 s x1 x2 x3) (Q_r_sunk s0)) (s : RS) (x1 : Int32) (x2 : Int32) (x3 : Int32) (hI_s : InvR s) (hF_s : FrR [42, 45, 140, 141, 144] s0 s) (h_x1l : 0 ≤ x1.toInt) (h_x1u : x1.toInt ≤ 7775) (h_x3l : 0 ≤ x3.toInt) (h_x3u : x3.toInt ≤ 5) (hM18 : (6 - x3.toInt).toNat ≤ M18) : Ok (r_sunk_63 k18 s x1 x2 x3) (Q_r_sunk s0) := by
  unfold r_sunk_63
  have a_1 : ((x3 + 1)).toInt = (x3).toInt + 1 := tn_add rfl (by decide) (by omega) (by omega)
  exact hk18 _ _ _ _ hI_s hF_s (by omega) (by omega) (by omega) (by omega) (by omega)
set_option maxHeartbeats 1000000 in
theorem ok_r_sunk_18 (s0 : RS) (hB : Big s0) (k18 : RS → Int32 → Int32 → Int32 → Option (Int32 × RS)) (M18 : Nat) (hk18 : ∀ (s : RS) (x1 : Int32) (x2 : Int32) (x3 : Int32), InvR s → FrR [42, 45, 140, 141, 144] s0 s → 0 ≤ x1.toInt → x1.toInt ≤ 7775 → 0 ≤ x3.toInt → x3.toInt ≤ 6 → (6 - x3.toInt).toNat < M18 → Ok (k18 s x1 x2 x3) (Q_r_sunk s0)) (s : RS) (x1 : Int32) (x2 : Int32) (x3 : Int32) (hI_s : InvR s) (hF_s : FrR [42, 45, 140, 141, 144] s0 s) (h_x1l : 0 ≤ x1.toInt) (h_x1u : x1.toInt ≤ 7775) (h_x3l : 0 ≤ x3.toInt) (h_x3u : x3.toInt ≤ 6) (hM18 : (6 - x3.toInt).toNat ≤ M18) : Ok (r_sunk_18 k18 s x1 x2 x3) (Q_r_sunk s0) := by
  unfold r_sunk_18
  have a_1 : 0 ≤ (s.v 18).toInt ∧ (s.v 18).toInt ≤ 1 := hI_s.1 18
  refine ok_grd (vpb_ok (by omega) (by omega)) ?_
  have a_2 : 0 ≤ ((s.f 23 (Int32.toNatClampNeg (s.v 18)))).toInt ∧ ((s.f 23 (Int32.toNatClampNeg (s.v 18)))).toInt ≤ 6 := hI_s.2 23 _
  refine ok_ite (fun c_3 => ?_) (fun c_3 => ?_)
  · have c_3 := tn_le (a := ((s.f 23 (Int32.toNatClampNeg (s.v 18)))).toInt) (b := (x3).toInt) rfl rfl c_3
    exact ok_some ⟨hI_s, hF_s, (ti_rng _).1, (ti_rng _).2⟩
  · have c_3 := tn_nle (a := ((s.f 23 (Int32.toNatClampNeg (s.v 18)))).toInt) (b := (x3).toInt) rfl rfl c_3
    refine ok_bindI (ok_r_isHere _ _ hI_s) (fun r4 s3 hc_4 => ?_)
    have hI_s3 : InvR s3 := hc_4.1
    have hFc_s3 : FrR [] s s3 := hc_4.2.1
    have hF_s3 : FrR [42, 45, 140, 141, 144] s0 s3 := hF_s.trans hFc_s3 (by decide)
    have hl_r4 : 0 ≤ r4.toInt := hc_4.2.2.1
    have hu_r4 : r4.toInt ≤ 1 := hc_4.2.2.2.1
    have hx0_r4 : (¬ r4.toInt = 0 → 0 ≤ (x3).toInt ∧ (x3).toInt ≤ 5) := hc_4.2.2.2.2
    refine ok_ite (fun c_5 => ?_) (fun c_5 => ?_)
    · have c_5 := tn_eq (a := (r4).toInt) (b := 0) rfl (by decide) c_5
      exact ok_r_sunk_63 s0 hB k18 M18 hk18 _ _ _ _ hI_s3 hF_s3 (by omega) (by omega) (by omega) (by omega) (by omega)
    · have c_5 := tn_ne (a := (r4).toInt) (b := 0) rfl (by decide) c_5
      refine ok_bindI (ok_r_bearsBy _ _ _ hI_s3 (hB.fr hF_s3 (by decide)) (by omega) (by omega) (by omega) (by omega)) (fun r7 s6 hc_6 => ?_)
      have hI_s6 : InvR s6 := hc_6.1
      have hFc_s6 : FrR [42, 140, 141] s3 s6 := hc_6.2.1
      have hF_s6 : FrR [42, 45, 140, 141, 144] s0 s6 := hF_s3.trans hFc_s6 (by decide)
      have hl_r7 : 0 ≤ r7.toInt := hc_6.2.2.1
      have hu_r7 : r7.toInt ≤ 5 := hc_6.2.2.2
      have a_7 : (s3.v 18).toInt = (s.v 18).toInt := congrArg Int32.toInt (hFc_s3.1 18 (by decide))
      have a_8 : (s6.v 18).toInt = (s3.v 18).toInt := congrArg Int32.toInt (hFc_s6.1 18 (by decide))
      refine ok_grd (vpb_ok (by omega) (by omega)) ?_
      have a_9 : ((s6.f 20 (Int32.toNatClampNeg (s6.v 18)))).toInt = wv s0 := wv_fr hF_s6 (by decide) (by decide)
      have a_10 : 0 ≤ ((s6.f 20 (Int32.toNatClampNeg (s6.v 18)))).toInt ∧ ((s6.f 20 (Int32.toNatClampNeg (s6.v 18)))).toInt ≤ 5 := hI_s6.2 20 _
      refine ok_ite (fun c_11 => ?_) (fun c_11 => ?_)
      · have c_11 := tn_le (a := ((s6.f 20 (Int32.toNatClampNeg (s6.v 18)))).toInt) (b := (r7).toInt) rfl rfl c_11
        exact ok_r_sunk_63 s0 hB k18 M18 hk18 _ _ _ _ hI_s6 hF_s6 (by omega) (by omega) (by omega) (by omega) (by omega)
      · have c_11 := tn_nle (a := ((s6.f 20 (Int32.toNatClampNeg (s6.v 18)))).toInt) (b := (r7).toInt) rfl rfl c_11
        exact ok_r_sunk_63 s0 hB k18 M18 hk18 _ _ _ _ hI_s6 hF_s6 (by omega) (by omega) (by omega) (by omega) (by omega)
theorem okL_r_sunk_18 (s0 : RS) (hB : Big s0)  : ∀ (n : Nat) (s : RS) (x1 : Int32) (x2 : Int32) (x3 : Int32), (6 - x3.toInt).toNat < n → InvR s → FrR [42, 45, 140, 141, 144] s0 s → 0 ≤ x1.toInt → x1.toInt ≤ 7775 → 0 ≤ x3.toInt → x3.toInt ≤ 6 → Ok (r_sunk_18L  n s x1 x2 x3) (Q_r_sunk s0) := by
  intro n
  induction n with
  | zero => intro s x1 x2 x3 hn; omega
  | succ n ih =>
    intro s x1 x2 x3 hn hI_s hF_s h_x1l h_x1u h_x3l h_x3u 
    exact ok_r_sunk_18 s0 hB (r_sunk_18L  n) ((6 - x3.toInt).toNat) (fun zs zx1 zx2 zx3 g0 g1 g2 g3 g4 g5  hm => ih zs zx1 zx2 zx3 (by omega) g0 g1 g2 g3 g4 g5 ) s x1 x2 x3 hI_s hF_s h_x1l h_x1u h_x3l h_x3u (Nat.le_refl _)
set_option maxHeartbeats 1000000 in
theorem ok_r_sunkB (s0 : RS) (hB : Big s0)  (s : RS) (x1 : Int32) (hI_s : InvR s) (hF_s : FrR [42, 45, 140, 141, 144] s0 s)  : Ok (r_sunk  s x1) (Q_r_sunk s0) := by
  unfold r_sunk
  refine ok_bindI (ok_r_isGuess _ _ hI_s (hB.fr hF_s (by decide))) (fun r2 s1 hc_1 => ?_)
  have hI_s1 : InvR s1 := hc_1.1
  have hFc_s1 : FrR [] s s1 := hc_1.2.1
  have hF_s1 : FrR [42, 45, 140, 141, 144] s0 s1 := hF_s.trans hFc_s1 (by decide)
  have hl_r2 : 0 ≤ r2.toInt := hc_1.2.2.1
  have hu_r2 : r2.toInt ≤ 1 := hc_1.2.2.2.1
  have hx0_r2 : (¬ r2.toInt = 0 → 0 ≤ (x1).toInt ∧ (x1).toInt ≤ 7775) := hc_1.2.2.2.2
  refine ok_ite (fun c_2 => ?_) (fun c_2 => ?_)
  · have c_2 := tn_eq (a := (r2).toInt) (b := 0) rfl (by decide) c_2
    exact ok_some ⟨hI_s1, hF_s1, (ti_rng _).1, (ti_rng _).2⟩
  · have c_2 := tn_ne (a := (r2).toInt) (b := 0) rfl (by decide) c_2
    refine ok_bindP (ok_r_copies _  hI_s1) (fun s4 hc_3 => ?_)
    have hI_s4 : InvR s4 := hc_3.1
    have hFc_s4 : FrR [45, 144] s1 s4 := hc_3.2
    have hF_s4 : FrR [42, 45, 140, 141, 144] s0 s4 := hF_s1.trans hFc_s4 (by decide)
    have l_0 : (0 : Int32).toInt = 0 := by decide
    exact okL_r_sunk_18 s0 hB  fu _ _ _ _ (by unfold fu; omega) hI_s4 hF_s4 (by omega) (by omega) (by decide) (by decide) 
theorem ok_r_sunk (s : RS) (x1 : Int32) (hI_s : InvR s) (hB : Big s) : Ok (r_sunk s x1) (Q_r_sunk s) := ok_r_sunkB s hB s x1 hI_s FrR.rfl
noncomputable abbrev Q_r_stuck (s0 : RS) (y : Int32 × RS) : Prop := InvR y.2 ∧ FrR [42, 45, 140, 141, 144] s0 y.2 ∧ -2147483648 ≤ y.1.toInt ∧ y.1.toInt ≤ 2147483647
set_option maxHeartbeats 1000000 in
theorem ok_r_stuck_43 (s0 : RS) (hB : Big s0) (k8 : RS → Int32 → Int32 → Option (Int32 × RS)) (M8 : Nat) (hk8 : ∀ (s : RS) (x1 : Int32) (x2 : Int32), InvR s → FrR [42, 45, 140, 141, 144] s0 s → 0 ≤ x2.toInt → x2.toInt ≤ 6 → (6 - x2.toInt).toNat < M8 → Ok (k8 s x1 x2) (Q_r_stuck s0)) (s : RS) (x1 : Int32) (x2 : Int32) (hI_s : InvR s) (hF_s : FrR [42, 45, 140, 141, 144] s0 s) (h_x2l : 0 ≤ x2.toInt) (h_x2u : x2.toInt ≤ 5) (hM8 : (6 - x2.toInt).toNat ≤ M8) : Ok (r_stuck_43 k8 s x1 x2) (Q_r_stuck s0) := by
  unfold r_stuck_43
  have a_1 : ((x2 + 1)).toInt = (x2).toInt + 1 := tn_add rfl (by decide) (by omega) (by omega)
  exact hk8 _ _ _ hI_s hF_s (by omega) (by omega) (by omega)
set_option maxHeartbeats 1000000 in
theorem ok_r_stuck_8 (s0 : RS) (hB : Big s0) (k8 : RS → Int32 → Int32 → Option (Int32 × RS)) (M8 : Nat) (hk8 : ∀ (s : RS) (x1 : Int32) (x2 : Int32), InvR s → FrR [42, 45, 140, 141, 144] s0 s → 0 ≤ x2.toInt → x2.toInt ≤ 6 → (6 - x2.toInt).toNat < M8 → Ok (k8 s x1 x2) (Q_r_stuck s0)) (s : RS) (x1 : Int32) (x2 : Int32) (hI_s : InvR s) (hF_s : FrR [42, 45, 140, 141, 144] s0 s) (h_x2l : 0 ≤ x2.toInt) (h_x2u : x2.toInt ≤ 6) (hM8 : (6 - x2.toInt).toNat ≤ M8) : Ok (r_stuck_8 k8 s x1 x2) (Q_r_stuck s0) := by
  unfold r_stuck_8
  have a_1 : 0 ≤ (s.v 18).toInt ∧ (s.v 18).toInt ≤ 1 := hI_s.1 18
  refine ok_grd (vpb_ok (by omega) (by omega)) ?_
  have a_2 : 0 ≤ ((s.f 23 (Int32.toNatClampNeg (s.v 18)))).toInt ∧ ((s.f 23 (Int32.toNatClampNeg (s.v 18)))).toInt ≤ 6 := hI_s.2 23 _
  refine ok_ite (fun c_3 => ?_) (fun c_3 => ?_)
  · have c_3 := tn_le (a := ((s.f 23 (Int32.toNatClampNeg (s.v 18)))).toInt) (b := (x2).toInt) rfl rfl c_3
    exact ok_some ⟨hI_s, hF_s, (ti_rng _).1, (ti_rng _).2⟩
  · have c_3 := tn_nle (a := ((s.f 23 (Int32.toNatClampNeg (s.v 18)))).toInt) (b := (x2).toInt) rfl rfl c_3
    refine ok_bindI (ok_r_isHere _ _ hI_s) (fun r4 s3 hc_4 => ?_)
    have hI_s3 : InvR s3 := hc_4.1
    have hFc_s3 : FrR [] s s3 := hc_4.2.1
    have hF_s3 : FrR [42, 45, 140, 141, 144] s0 s3 := hF_s.trans hFc_s3 (by decide)
    have hl_r4 : 0 ≤ r4.toInt := hc_4.2.2.1
    have hu_r4 : r4.toInt ≤ 1 := hc_4.2.2.2.1
    have hx0_r4 : (¬ r4.toInt = 0 → 0 ≤ (x2).toInt ∧ (x2).toInt ≤ 5) := hc_4.2.2.2.2
    refine ok_ite (fun c_5 => ?_) (fun c_5 => ?_)
    · have c_5 := tn_eq (a := (r4).toInt) (b := 0) rfl (by decide) c_5
      exact ok_r_stuck_43 s0 hB k8 M8 hk8 _ _ _ hI_s3 hF_s3 (by omega) (by omega) (by omega)
    · have c_5 := tn_ne (a := (r4).toInt) (b := 0) rfl (by decide) c_5
      refine ok_bindI (ok_r_bestFor _ _ hI_s3 (hB.fr hF_s3 (by decide)) (by omega) (by omega)) (fun r7 s6 hc_6 => ?_)
      have hI_s6 : InvR s6 := hc_6.1
      have hFc_s6 : FrR [42, 140, 141] s3 s6 := hc_6.2.1
      have hF_s6 : FrR [42, 45, 140, 141, 144] s0 s6 := hF_s3.trans hFc_s6 (by decide)
      have hl_r7 : -2 ≤ r7.toInt := hc_6.2.2.1
      have hu_r7 : r7.toInt ≤ 194400 := hc_6.2.2.2
      refine ok_ite (fun c_7 => ?_) (fun c_7 => ?_)
      · have c_7 := tn_le (a := 0) (b := (r7).toInt) (by decide) rfl c_7
        exact ok_r_stuck_43 s0 hB k8 M8 hk8 _ _ _ hI_s6 hF_s6 (by omega) (by omega) (by omega)
      · have c_7 := tn_nle (a := 0) (b := (r7).toInt) (by decide) rfl c_7
        exact ok_r_stuck_43 s0 hB k8 M8 hk8 _ _ _ hI_s6 hF_s6 (by omega) (by omega) (by omega)
theorem okL_r_stuck_8 (s0 : RS) (hB : Big s0)  : ∀ (n : Nat) (s : RS) (x1 : Int32) (x2 : Int32), (6 - x2.toInt).toNat < n → InvR s → FrR [42, 45, 140, 141, 144] s0 s → 0 ≤ x2.toInt → x2.toInt ≤ 6 → Ok (r_stuck_8L  n s x1 x2) (Q_r_stuck s0) := by
  intro n
  induction n with
  | zero => intro s x1 x2 hn; omega
  | succ n ih =>
    intro s x1 x2 hn hI_s hF_s h_x2l h_x2u 
    exact ok_r_stuck_8 s0 hB (r_stuck_8L  n) ((6 - x2.toInt).toNat) (fun zs zx1 zx2 g0 g1 g2 g3  hm => ih zs zx1 zx2 (by omega) g0 g1 g2 g3 ) s x1 x2 hI_s hF_s h_x2l h_x2u (Nat.le_refl _)
set_option maxHeartbeats 1000000 in
theorem ok_r_stuckB (s0 : RS) (hB : Big s0)  (s : RS) (hI_s : InvR s) (hF_s : FrR [42, 45, 140, 141, 144] s0 s)  : Ok (r_stuck  s) (Q_r_stuck s0) := by
  unfold r_stuck
  refine ok_bindP (ok_r_copies _  hI_s) (fun s1 hc_1 => ?_)
  have hI_s1 : InvR s1 := hc_1.1
  have hFc_s1 : FrR [45, 144] s s1 := hc_1.2
  have hF_s1 : FrR [42, 45, 140, 141, 144] s0 s1 := hF_s.trans hFc_s1 (by decide)
  have l_0 : (0 : Int32).toInt = 0 := by decide
  exact okL_r_stuck_8 s0 hB  fu _ _ _ (by unfold fu; omega) hI_s1 hF_s1 (by decide) (by decide) 
theorem ok_r_stuck (s : RS) (hI_s : InvR s) (hB : Big s) : Ok (r_stuck s) (Q_r_stuck s) := ok_r_stuckB s hB s hI_s FrR.rfl
noncomputable abbrev Q_r_spread (s0 : RS) (y : Int32 × RS) : Prop := InvR y.2 ∧ FrR [45, 144] s0 y.2 ∧ -2147483648 ≤ y.1.toInt ∧ y.1.toInt ≤ 2147483647
set_option maxHeartbeats 1000000 in
theorem ok_r_spread_80 (s0 : RS) (k22 : RS → Int32 → Int32 → Int32 → Int32 → Option (Int32 × RS)) (M22 : Nat) (hk22 : ∀ (s : RS) (x1 : Int32) (x2 : Int32) (x3 : Int32) (x4 : Int32), InvR s → FrR [45, 144] s0 s → 0 ≤ x1.toInt → x1.toInt ≤ 4 → 0 ≤ x4.toInt → x4.toInt ≤ 6 → (6 - x4.toInt).toNat < M22 → Ok (k22 s x1 x2 x3 x4) (Q_r_spread s0)) (s : RS) (x1 : Int32) (x2 : Int32) (x3 : Int32) (x4 : Int32) (hI_s : InvR s) (hF_s : FrR [45, 144] s0 s) (h_x1l : 0 ≤ x1.toInt) (h_x1u : x1.toInt ≤ 4) (h_x4l : 0 ≤ x4.toInt) (h_x4u : x4.toInt ≤ 5) (hM22 : (6 - x4.toInt).toNat ≤ M22) : Ok (r_spread_80 k22 s x1 x2 x3 x4) (Q_r_spread s0) := by
  unfold r_spread_80
  have a_1 : ((x4 + 1)).toInt = (x4).toInt + 1 := tn_add rfl (by decide) (by omega) (by omega)
  exact hk22 _ _ _ _ _ hI_s hF_s (by omega) (by omega) (by omega) (by omega) (by omega)
set_option maxHeartbeats 1000000 in
theorem ok_r_spread_61 (s0 : RS) (k22 : RS → Int32 → Int32 → Int32 → Int32 → Option (Int32 × RS)) (M22 : Nat) (hk22 : ∀ (s : RS) (x1 : Int32) (x2 : Int32) (x3 : Int32) (x4 : Int32), InvR s → FrR [45, 144] s0 s → 0 ≤ x1.toInt → x1.toInt ≤ 4 → 0 ≤ x4.toInt → x4.toInt ≤ 6 → (6 - x4.toInt).toNat < M22 → Ok (k22 s x1 x2 x3 x4) (Q_r_spread s0)) (s : RS) (x1 : Int32) (x2 : Int32) (x3 : Int32) (x4 : Int32) (hI_s : InvR s) (hF_s : FrR [45, 144] s0 s) (h_x1l : 0 ≤ x1.toInt) (h_x1u : x1.toInt ≤ 4) (h_x4l : 0 ≤ x4.toInt) (h_x4u : x4.toInt ≤ 5) (hM22 : (6 - x4.toInt).toNat ≤ M22) : Ok (r_spread_61 k22 s x1 x2 x3 x4) (Q_r_spread s0) := by
  unfold r_spread_61
  refine ok_bindI (ok_r_oddsAt _ _ _ hI_s (by omega) (by omega) (by omega) (by omega)) (fun r2 s1 hc_1 => ?_)
  have hI_s1 : InvR s1 := hc_1.1
  have hFc_s1 : FrR [] s s1 := hc_1.2.1
  have hF_s1 : FrR [45, 144] s0 s1 := hF_s.trans hFc_s1 (by decide)
  refine ok_ite (fun c_2 => ?_) (fun c_2 => ?_)
  · have c_2 := tn_le (a := (x3).toInt) (b := (r2).toInt) rfl rfl c_2
    exact ok_r_spread_80 s0 k22 M22 hk22 _ _ _ _ _ hI_s1 hF_s1 (by omega) (by omega) (by omega) (by omega) (by omega)
  · have c_2 := tn_nle (a := (x3).toInt) (b := (r2).toInt) rfl rfl c_2
    refine ok_bindI (ok_r_oddsAt _ _ _ hI_s1 (by omega) (by omega) (by omega) (by omega)) (fun r5 s4 hc_3 => ?_)
    have hI_s4 : InvR s4 := hc_3.1
    have hFc_s4 : FrR [] s1 s4 := hc_3.2.1
    have hF_s4 : FrR [45, 144] s0 s4 := hF_s1.trans hFc_s4 (by decide)
    exact ok_r_spread_80 s0 k22 M22 hk22 _ _ _ _ _ hI_s4 hF_s4 (by omega) (by omega) (by omega) (by omega) (by omega)
set_option maxHeartbeats 1000000 in
theorem ok_r_spread_22 (s0 : RS) (k22 : RS → Int32 → Int32 → Int32 → Int32 → Option (Int32 × RS)) (M22 : Nat) (hk22 : ∀ (s : RS) (x1 : Int32) (x2 : Int32) (x3 : Int32) (x4 : Int32), InvR s → FrR [45, 144] s0 s → 0 ≤ x1.toInt → x1.toInt ≤ 4 → 0 ≤ x4.toInt → x4.toInt ≤ 6 → (6 - x4.toInt).toNat < M22 → Ok (k22 s x1 x2 x3 x4) (Q_r_spread s0)) (s : RS) (x1 : Int32) (x2 : Int32) (x3 : Int32) (x4 : Int32) (hI_s : InvR s) (hF_s : FrR [45, 144] s0 s) (h_x1l : 0 ≤ x1.toInt) (h_x1u : x1.toInt ≤ 4) (h_x4l : 0 ≤ x4.toInt) (h_x4u : x4.toInt ≤ 6) (hM22 : (6 - x4.toInt).toNat ≤ M22) : Ok (r_spread_22 k22 s x1 x2 x3 x4) (Q_r_spread s0) := by
  unfold r_spread_22
  refine ok_ite (fun c_1 => ?_) (fun c_1 => ?_)
  · have c_1 := tn_le (a := 6) (b := (x4).toInt) (by decide) rfl c_1
    refine ok_ite (fun c_2 => ?_) (fun c_2 => ?_)
    · have c_2 := tn_le (a := (x3).toInt) (b := (x2).toInt) rfl rfl c_2
      exact ok_some ⟨hI_s, hF_s, (ti_rng _).1, (ti_rng _).2⟩
    · have c_2 := tn_nle (a := (x3).toInt) (b := (x2).toInt) rfl rfl c_2
      exact ok_some ⟨hI_s, hF_s, (ti_rng _).1, (ti_rng _).2⟩
  · have c_1 := tn_nle (a := 6) (b := (x4).toInt) (by decide) rfl c_1
    refine ok_bindI (ok_r_mayBe _ _ _ hI_s (by omega) (by omega) (by omega) (by omega)) (fun r4 s3 hc_3 => ?_)
    have hI_s3 : InvR s3 := hc_3.1
    have hFc_s3 : FrR [] s s3 := hc_3.2.1
    have hF_s3 : FrR [45, 144] s0 s3 := hF_s.trans hFc_s3 (by decide)
    have hl_r4 : 0 ≤ r4.toInt := hc_3.2.2.1
    have hu_r4 : r4.toInt ≤ 1 := hc_3.2.2.2
    refine ok_ite (fun c_4 => ?_) (fun c_4 => ?_)
    · have c_4 := tn_eq (a := (r4).toInt) (b := 0) rfl (by decide) c_4
      exact ok_r_spread_80 s0 k22 M22 hk22 _ _ _ _ _ hI_s3 hF_s3 (by omega) (by omega) (by omega) (by omega) (by omega)
    · have c_4 := tn_ne (a := (r4).toInt) (b := 0) rfl (by decide) c_4
      refine ok_bindI (ok_r_oddsAt _ _ _ hI_s3 (by omega) (by omega) (by omega) (by omega)) (fun r7 s6 hc_5 => ?_)
      have hI_s6 : InvR s6 := hc_5.1
      have hFc_s6 : FrR [] s3 s6 := hc_5.2.1
      have hF_s6 : FrR [45, 144] s0 s6 := hF_s3.trans hFc_s6 (by decide)
      refine ok_ite (fun c_6 => ?_) (fun c_6 => ?_)
      · have c_6 := tn_le (a := (r7).toInt) (b := (x2).toInt) rfl rfl c_6
        exact ok_r_spread_61 s0 k22 M22 hk22 _ _ _ _ _ hI_s6 hF_s6 (by omega) (by omega) (by omega) (by omega) (by omega)
      · have c_6 := tn_nle (a := (r7).toInt) (b := (x2).toInt) rfl rfl c_6
        refine ok_bindI (ok_r_oddsAt _ _ _ hI_s6 (by omega) (by omega) (by omega) (by omega)) (fun r10 s9 hc_7 => ?_)
        have hI_s9 : InvR s9 := hc_7.1
        have hFc_s9 : FrR [] s6 s9 := hc_7.2.1
        have hF_s9 : FrR [45, 144] s0 s9 := hF_s6.trans hFc_s9 (by decide)
        exact ok_r_spread_61 s0 k22 M22 hk22 _ _ _ _ _ hI_s9 hF_s9 (by omega) (by omega) (by omega) (by omega) (by omega)
theorem okL_r_spread_22 (s0 : RS)  : ∀ (n : Nat) (s : RS) (x1 : Int32) (x2 : Int32) (x3 : Int32) (x4 : Int32), (6 - x4.toInt).toNat < n → InvR s → FrR [45, 144] s0 s → 0 ≤ x1.toInt → x1.toInt ≤ 4 → 0 ≤ x4.toInt → x4.toInt ≤ 6 → Ok (r_spread_22L  n s x1 x2 x3 x4) (Q_r_spread s0) := by
  intro n
  induction n with
  | zero => intro s x1 x2 x3 x4 hn; omega
  | succ n ih =>
    intro s x1 x2 x3 x4 hn hI_s hF_s h_x1l h_x1u h_x4l h_x4u 
    exact ok_r_spread_22 s0 (r_spread_22L  n) ((6 - x4.toInt).toNat) (fun zs zx1 zx2 zx3 zx4 g0 g1 g2 g3 g4 g5  hm => ih zs zx1 zx2 zx3 zx4 (by omega) g0 g1 g2 g3 g4 g5 ) s x1 x2 x3 x4 hI_s hF_s h_x1l h_x1u h_x4l h_x4u (Nat.le_refl _)
set_option maxHeartbeats 1000000 in
theorem ok_r_spreadB (s0 : RS)  (s : RS) (x1 : Int32) (hI_s : InvR s) (hF_s : FrR [45, 144] s0 s)  : Ok (r_spread  s x1) (Q_r_spread s0) := by
  unfold r_spread
  refine ok_bindI (ok_r_isWave _ _ hI_s) (fun r2 s1 hc_1 => ?_)
  have hI_s1 : InvR s1 := hc_1.1
  have hFc_s1 : FrR [] s s1 := hc_1.2.1
  have hF_s1 : FrR [45, 144] s0 s1 := hF_s.trans hFc_s1 (by decide)
  have a_2 : wv s = wv s0 := wv_fr hF_s (by decide) (by decide)
  have hl_r2 : 0 ≤ r2.toInt := hc_1.2.2.1
  have hu_r2 : r2.toInt ≤ 1 := hc_1.2.2.2.1
  have hx0_r2 : (¬ r2.toInt = 0 → 0 ≤ (x1).toInt ∧ (x1).toInt < wv s ∧ wv s ≤ 5) := hc_1.2.2.2.2
  refine ok_ite (fun c_3 => ?_) (fun c_3 => ?_)
  · have c_3 := tn_eq (a := (r2).toInt) (b := 0) rfl (by decide) c_3
    exact ok_some ⟨hI_s1, hF_s1, (ti_rng _).1, (ti_rng _).2⟩
  · have c_3 := tn_ne (a := (r2).toInt) (b := 0) rfl (by decide) c_3
    refine ok_bindP (ok_r_copies _  hI_s1) (fun s4 hc_4 => ?_)
    have hI_s4 : InvR s4 := hc_4.1
    have hFc_s4 : FrR [45, 144] s1 s4 := hc_4.2
    have hF_s4 : FrR [45, 144] s0 s4 := hF_s1.trans hFc_s4 (by decide)
    have l_0 : (0 : Int32).toInt = 0 := by decide
    have l_10 : (10 : Int32).toInt = 10 := by decide
    exact okL_r_spread_22 s0  fu _ _ _ _ _ (by unfold fu; omega) hI_s4 hF_s4 (by omega) (by omega) (by decide) (by decide) 
theorem ok_r_spread (s : RS) (x1 : Int32) (hI_s : InvR s) : Ok (r_spread s x1) (Q_r_spread s) := ok_r_spreadB s s x1 hI_s FrR.rfl
noncomputable abbrev Q_r_dearest (s0 : RS) (y : Int32 × RS) : Prop := InvR y.2 ∧ FrR [42, 45, 140, 141, 144] s0 y.2 ∧ -2 ≤ y.1.toInt ∧ y.1.toInt ≤ 100
set_option maxHeartbeats 1000000 in
theorem ok_r_dearest_52 (s0 : RS) (hB : Big s0) (k20 : RS → Int32 → Int32 → Int32 → Option (Int32 × RS)) (M20 : Nat) (hk20 : ∀ (s : RS) (x1 : Int32) (x2 : Int32) (x3 : Int32), InvR s → FrR [42, 45, 140, 141, 144] s0 s → 0 ≤ x1.toInt → x1.toInt ≤ 1 → -2 ≤ x2.toInt → x2.toInt ≤ 5 → 0 ≤ x3.toInt → x3.toInt ≤ 6 → (6 - x3.toInt).toNat < M20 → Ok (k20 s x1 x2 x3) (Q_r_dearest s0)) (s : RS) (x1 : Int32) (x2 : Int32) (x3 : Int32) (hI_s : InvR s) (hF_s : FrR [42, 45, 140, 141, 144] s0 s) (h_x1l : 0 ≤ x1.toInt) (h_x1u : x1.toInt ≤ 1) (h_x2l : 0 ≤ x2.toInt) (h_x2u : x2.toInt ≤ 5) (h_x3l : 0 ≤ x3.toInt) (h_x3u : x3.toInt ≤ 5) (hM20 : (6 - x3.toInt).toNat ≤ M20) : Ok (r_dearest_52 k20 s x1 x2 x3) (Q_r_dearest s0) := by
  unfold r_dearest_52
  have a_1 : ((x3 + 1)).toInt = (x3).toInt + 1 := tn_add rfl (by decide) (by omega) (by omega)
  exact hk20 _ _ _ _ hI_s hF_s (by omega) (by omega) (by omega) (by omega) (by omega) (by omega) (by omega)
set_option maxHeartbeats 1000000 in
theorem ok_r_dearest_50 (s0 : RS) (hB : Big s0) (k20 : RS → Int32 → Int32 → Int32 → Option (Int32 × RS)) (M20 : Nat) (hk20 : ∀ (s : RS) (x1 : Int32) (x2 : Int32) (x3 : Int32), InvR s → FrR [42, 45, 140, 141, 144] s0 s → 0 ≤ x1.toInt → x1.toInt ≤ 1 → -2 ≤ x2.toInt → x2.toInt ≤ 5 → 0 ≤ x3.toInt → x3.toInt ≤ 6 → (6 - x3.toInt).toNat < M20 → Ok (k20 s x1 x2 x3) (Q_r_dearest s0)) (s : RS) (x1 : Int32) (x3 : Int32) (hI_s : InvR s) (hF_s : FrR [42, 45, 140, 141, 144] s0 s) (h_x1l : 0 ≤ x1.toInt) (h_x1u : x1.toInt ≤ 1) (h_x3l : 0 ≤ x3.toInt) (h_x3u : x3.toInt ≤ 5) (hM20 : (6 - x3.toInt).toNat ≤ M20) : Ok (r_dearest_50 k20 s x1 x3) (Q_r_dearest s0) := by
  unfold r_dearest_50
  exact ok_r_dearest_52 s0 hB k20 M20 hk20 _ _ _ _ hI_s hF_s (by omega) (by omega) (by omega) (by omega) (by omega) (by omega) (by omega)
set_option maxHeartbeats 1000000 in
theorem ok_r_dearest_20 (s0 : RS) (hB : Big s0) (k20 : RS → Int32 → Int32 → Int32 → Option (Int32 × RS)) (M20 : Nat) (hk20 : ∀ (s : RS) (x1 : Int32) (x2 : Int32) (x3 : Int32), InvR s → FrR [42, 45, 140, 141, 144] s0 s → 0 ≤ x1.toInt → x1.toInt ≤ 1 → -2 ≤ x2.toInt → x2.toInt ≤ 5 → 0 ≤ x3.toInt → x3.toInt ≤ 6 → (6 - x3.toInt).toNat < M20 → Ok (k20 s x1 x2 x3) (Q_r_dearest s0)) (s : RS) (x1 : Int32) (x2 : Int32) (x3 : Int32) (hI_s : InvR s) (hF_s : FrR [42, 45, 140, 141, 144] s0 s) (h_x1l : 0 ≤ x1.toInt) (h_x1u : x1.toInt ≤ 1) (h_x2l : -2 ≤ x2.toInt) (h_x2u : x2.toInt ≤ 5) (h_x3l : 0 ≤ x3.toInt) (h_x3u : x3.toInt ≤ 6) (hM20 : (6 - x3.toInt).toNat ≤ M20) : Ok (r_dearest_20 k20 s x1 x2 x3) (Q_r_dearest s0) := by
  unfold r_dearest_20
  have a_1 : 0 ≤ (s.v 18).toInt ∧ (s.v 18).toInt ≤ 1 := hI_s.1 18
  refine ok_grd (vpb_ok (by omega) (by omega)) ?_
  have a_2 : 0 ≤ ((s.f 23 (Int32.toNatClampNeg (s.v 18)))).toInt ∧ ((s.f 23 (Int32.toNatClampNeg (s.v 18)))).toInt ≤ 6 := hI_s.2 23 _
  refine ok_ite (fun c_3 => ?_) (fun c_3 => ?_)
  · have c_3 := tn_le (a := ((s.f 23 (Int32.toNatClampNeg (s.v 18)))).toInt) (b := (x3).toInt) rfl rfl c_3
    refine ok_ite (fun c_4 => ?_) (fun c_4 => ?_)
    · have c_4 := tn_lt (a := (x2).toInt) (b := 0) rfl (by decide) c_4
      exact ok_some ⟨hI_s, hF_s, by show -2 ≤ (x2).toInt; omega, by show (x2).toInt ≤ 100; omega⟩
    · have c_4 := tn_nlt (a := (x2).toInt) (b := 0) rfl (by decide) c_4
      refine ok_ite (fun c_5 => ?_) (fun c_5 => ?_)
      · have c_5 := tn_eq (a := (x1).toInt) (b := 0) rfl (by decide) c_5
        exact ok_some ⟨hI_s, hF_s, by show -2 ≤ (x2).toInt; omega, by show (x2).toInt ≤ 100; omega⟩
      · have c_5 := tn_ne (a := (x1).toInt) (b := 0) rfl (by decide) c_5
        refine ok_bindI (ok_r_faresOf _ _ hI_s (hB.fr hF_s (by decide)) (by omega) (by omega)) (fun r6 s5 hc_6 => ?_)
        have hI_s5 : InvR s5 := hc_6.1
        have hFc_s5 : FrR [42, 140, 141] s s5 := hc_6.2.1
        have hF_s5 : FrR [42, 45, 140, 141, 144] s0 s5 := hF_s.trans hFc_s5 (by decide)
        have hl_r6 : 0 ≤ r6.toInt := hc_6.2.2.1
        have hu_r6 : r6.toInt ≤ 100 := hc_6.2.2.2
        exact ok_some ⟨hI_s5, hF_s5, by show -2 ≤ (r6).toInt; omega, by show (r6).toInt ≤ 100; omega⟩
  · have c_3 := tn_nle (a := ((s.f 23 (Int32.toNatClampNeg (s.v 18)))).toInt) (b := (x3).toInt) rfl rfl c_3
    refine ok_ite (fun c_7 => ?_) (fun c_7 => ?_)
    · have c_7 := tn_lt (a := (x2).toInt) (b := 0) rfl (by decide) c_7
      exact ok_r_dearest_50 s0 hB k20 M20 hk20 _ _ _ hI_s hF_s (by omega) (by omega) (by omega) (by omega) (by omega)
    · have c_7 := tn_nlt (a := (x2).toInt) (b := 0) rfl (by decide) c_7
      refine ok_bindI (ok_r_faresOf _ _ hI_s (hB.fr hF_s (by decide)) (by omega) (by omega)) (fun r9 s8 hc_8 => ?_)
      have hI_s8 : InvR s8 := hc_8.1
      have hFc_s8 : FrR [42, 140, 141] s s8 := hc_8.2.1
      have hF_s8 : FrR [42, 45, 140, 141, 144] s0 s8 := hF_s.trans hFc_s8 (by decide)
      have hl_r9 : 0 ≤ r9.toInt := hc_8.2.2.1
      have hu_r9 : r9.toInt ≤ 100 := hc_8.2.2.2
      refine ok_bindI (ok_r_faresOf _ _ hI_s8 (hB.fr hF_s8 (by decide)) (by omega) (by omega)) (fun r11 s10 hc_9 => ?_)
      have hI_s10 : InvR s10 := hc_9.1
      have hFc_s10 : FrR [42, 140, 141] s8 s10 := hc_9.2.1
      have hF_s10 : FrR [42, 45, 140, 141, 144] s0 s10 := hF_s8.trans hFc_s10 (by decide)
      have hl_r11 : 0 ≤ r11.toInt := hc_9.2.2.1
      have hu_r11 : r11.toInt ≤ 100 := hc_9.2.2.2
      refine ok_ite (fun c_10 => ?_) (fun c_10 => ?_)
      · have c_10 := tn_le (a := (r9).toInt) (b := (r11).toInt) rfl rfl c_10
        exact ok_r_dearest_52 s0 hB k20 M20 hk20 _ _ _ _ hI_s10 hF_s10 (by omega) (by omega) (by omega) (by omega) (by omega) (by omega) (by omega)
      · have c_10 := tn_nle (a := (r9).toInt) (b := (r11).toInt) rfl rfl c_10
        exact ok_r_dearest_50 s0 hB k20 M20 hk20 _ _ _ hI_s10 hF_s10 (by omega) (by omega) (by omega) (by omega) (by omega)
theorem okL_r_dearest_20 (s0 : RS) (hB : Big s0)  : ∀ (n : Nat) (s : RS) (x1 : Int32) (x2 : Int32) (x3 : Int32), (6 - x3.toInt).toNat < n → InvR s → FrR [42, 45, 140, 141, 144] s0 s → 0 ≤ x1.toInt → x1.toInt ≤ 1 → -2 ≤ x2.toInt → x2.toInt ≤ 5 → 0 ≤ x3.toInt → x3.toInt ≤ 6 → Ok (r_dearest_20L  n s x1 x2 x3) (Q_r_dearest s0) := by
  intro n
  induction n with
  | zero => intro s x1 x2 x3 hn; omega
  | succ n ih =>
    intro s x1 x2 x3 hn hI_s hF_s h_x1l h_x1u h_x2l h_x2u h_x3l h_x3u 
    exact ok_r_dearest_20 s0 hB (r_dearest_20L  n) ((6 - x3.toInt).toNat) (fun zs zx1 zx2 zx3 g0 g1 g2 g3 g4 g5 g6 g7  hm => ih zs zx1 zx2 zx3 (by omega) g0 g1 g2 g3 g4 g5 g6 g7 ) s x1 x2 x3 hI_s hF_s h_x1l h_x1u h_x2l h_x2u h_x3l h_x3u (Nat.le_refl _)
set_option maxHeartbeats 1000000 in
theorem ok_r_dearestB (s0 : RS) (hB : Big s0)  (s : RS) (x1 : Int32) (hI_s : InvR s) (hF_s : FrR [42, 45, 140, 141, 144] s0 s)  : Ok (r_dearest  s x1) (Q_r_dearest s0) := by
  unfold r_dearest
  refine ok_bindP (ok_r_in _ _ _ (by decide) (by decide) (by decide) (by decide)) (fun r1 hc_1 => ?_)
  have l_0 : (0 : Int32).toInt = 0 := by decide
  have l_1 : (1 : Int32).toInt = 1 := by decide
  have hl_r1 : 0 ≤ r1.toInt := hc_1.1
  have hu_r1 : r1.toInt ≤ 1 := hc_1.2.1
  have hx0_r1 : (¬ r1.toInt = 0 → (0 : Int32).toInt ≤ (x1).toInt ∧ (x1).toInt ≤ (1 : Int32).toInt) := hc_1.2.2
  refine ok_ite (fun c_2 => ?_) (fun c_2 => ?_)
  · have c_2 := tn_eq (a := (r1).toInt) (b := 0) rfl (by decide) c_2
    exact ok_some ⟨hI_s, hF_s, by show -2 ≤ ((-1) : Int32).toInt; decide, by show ((-1) : Int32).toInt ≤ 100; decide⟩
  · have c_2 := tn_ne (a := (r1).toInt) (b := 0) rfl (by decide) c_2
    refine ok_bindP (ok_r_copies _  hI_s) (fun s3 hc_3 => ?_)
    have hI_s3 : InvR s3 := hc_3.1
    have hFc_s3 : FrR [45, 144] s s3 := hc_3.2
    have hF_s3 : FrR [42, 45, 140, 141, 144] s0 s3 := hF_s.trans hFc_s3 (by decide)
    have l_m2 : ((-2) : Int32).toInt = -2 := by decide
    exact okL_r_dearest_20 s0 hB  fu _ _ _ _ (by unfold fu; omega) hI_s3 hF_s3 (by omega) (by omega) (by decide) (by decide) (by decide) (by decide) 
theorem ok_r_dearest (s : RS) (x1 : Int32) (hI_s : InvR s) (hB : Big s) : Ok (r_dearest s x1) (Q_r_dearest s) := ok_r_dearestB s hB s x1 hI_s FrR.rfl
noncomputable abbrev Q_r_chosen (s0 : RS) (y : Int32 × RS) : Prop := InvR y.2 ∧ FrR [42, 45, 140, 141, 144] s0 y.2 ∧ -2 ≤ y.1.toInt ∧ y.1.toInt ≤ 5
set_option maxHeartbeats 1000000 in
theorem ok_r_chosen_75 (s0 : RS) (hB : Big s0) (k11 : RS → Int32 → Int32 → Int32 → Option (Int32 × RS)) (M11 : Nat) (hk11 : ∀ (s : RS) (x1 : Int32) (x2 : Int32) (x3 : Int32), InvR s → FrR [42, 45, 140, 141, 144] s0 s → -2 ≤ x1.toInt → x1.toInt ≤ 5 → 0 ≤ x3.toInt → x3.toInt ≤ 6 → (6 - x3.toInt).toNat < M11 → Ok (k11 s x1 x2 x3) (Q_r_chosen s0)) (s : RS) (x1 : Int32) (x2 : Int32) (x3 : Int32) (hI_s : InvR s) (hF_s : FrR [42, 45, 140, 141, 144] s0 s) (h_x1l : -2 ≤ x1.toInt) (h_x1u : x1.toInt ≤ 5) (h_x3l : 0 ≤ x3.toInt) (h_x3u : x3.toInt ≤ 5) (hM11 : (6 - x3.toInt).toNat ≤ M11) : Ok (r_chosen_75 k11 s x1 x2 x3) (Q_r_chosen s0) := by
  unfold r_chosen_75
  have a_1 : ((x3 + 1)).toInt = (x3).toInt + 1 := tn_add rfl (by decide) (by omega) (by omega)
  exact hk11 _ _ _ _ hI_s hF_s (by omega) (by omega) (by omega) (by omega) (by omega)
set_option maxHeartbeats 1000000 in
theorem ok_r_chosen_66 (s0 : RS) (hB : Big s0) (k11 : RS → Int32 → Int32 → Int32 → Option (Int32 × RS)) (M11 : Nat) (hk11 : ∀ (s : RS) (x1 : Int32) (x2 : Int32) (x3 : Int32), InvR s → FrR [42, 45, 140, 141, 144] s0 s → -2 ≤ x1.toInt → x1.toInt ≤ 5 → 0 ≤ x3.toInt → x3.toInt ≤ 6 → (6 - x3.toInt).toNat < M11 → Ok (k11 s x1 x2 x3) (Q_r_chosen s0)) (s : RS) (x3 : Int32) (x4 : Int32) (hI_s : InvR s) (hF_s : FrR [42, 45, 140, 141, 144] s0 s) (h_x3l : 0 ≤ x3.toInt) (h_x3u : x3.toInt ≤ 5) (h_x4l : 0 ≤ x4.toInt) (h_x4u : x4.toInt ≤ 194400) (hM11 : (6 - x3.toInt).toNat ≤ M11) : Ok (r_chosen_66 k11 s x3 x4) (Q_r_chosen s0) := by
  unfold r_chosen_66
  refine ok_bindI (ok_r_chanceOf _ _ hI_s (hB.fr hF_s (by decide)) (by omega) (by omega)) (fun r2 s1 hc_1 => ?_)
  have hI_s1 : InvR s1 := hc_1.1
  have hFc_s1 : FrR [] s s1 := hc_1.2.1
  have hF_s1 : FrR [42, 45, 140, 141, 144] s0 s1 := hF_s.trans hFc_s1 (by decide)
  exact ok_r_chosen_75 s0 hB k11 M11 hk11 _ _ _ _ hI_s1 hF_s1 (by omega) (by omega) (by omega) (by omega) (by omega)
set_option maxHeartbeats 1000000 in
theorem ok_r_chosen_42 (s0 : RS) (hB : Big s0) (k11 : RS → Int32 → Int32 → Int32 → Option (Int32 × RS)) (M11 : Nat) (hk11 : ∀ (s : RS) (x1 : Int32) (x2 : Int32) (x3 : Int32), InvR s → FrR [42, 45, 140, 141, 144] s0 s → -2 ≤ x1.toInt → x1.toInt ≤ 5 → 0 ≤ x3.toInt → x3.toInt ≤ 6 → (6 - x3.toInt).toNat < M11 → Ok (k11 s x1 x2 x3) (Q_r_chosen s0)) (s : RS) (x1 : Int32) (x2 : Int32) (x3 : Int32) (t0 : Int32) (hI_s : InvR s) (hF_s : FrR [42, 45, 140, 141, 144] s0 s) (h_x1l : -2 ≤ x1.toInt) (h_x1u : x1.toInt ≤ 5) (h_x3l : 0 ≤ x3.toInt) (h_x3u : x3.toInt ≤ 5) (h_t0l : -2 ≤ t0.toInt) (h_t0u : t0.toInt ≤ 194400) (hM11 : (6 - x3.toInt).toNat ≤ M11) : Ok (r_chosen_42 k11 s x1 x2 x3 t0) (Q_r_chosen s0) := by
  unfold r_chosen_42
  refine ok_ite (fun c_1 => ?_) (fun c_1 => ?_)
  · have c_1 := tn_lt (a := (t0).toInt) (b := 0) rfl (by decide) c_1
    exact ok_r_chosen_75 s0 hB k11 M11 hk11 _ _ _ _ hI_s hF_s (by omega) (by omega) (by omega) (by omega) (by omega)
  · have c_1 := tn_nlt (a := (t0).toInt) (b := 0) rfl (by decide) c_1
    refine ok_ite (fun c_2 => ?_) (fun c_2 => ?_)
    · have c_2 := tn_lt (a := (x1).toInt) (b := 0) rfl (by decide) c_2
      exact ok_r_chosen_66 s0 hB k11 M11 hk11 _ _ _ hI_s hF_s (by omega) (by omega) (by omega) (by omega) (by omega)
    · have c_2 := tn_nlt (a := (x1).toInt) (b := 0) rfl (by decide) c_2
      refine ok_bindI (ok_r_chanceOf _ _ hI_s (hB.fr hF_s (by decide)) (by omega) (by omega)) (fun r4 s3 hc_3 => ?_)
      have hI_s3 : InvR s3 := hc_3.1
      have hFc_s3 : FrR [] s s3 := hc_3.2.1
      have hF_s3 : FrR [42, 45, 140, 141, 144] s0 s3 := hF_s.trans hFc_s3 (by decide)
      refine ok_ite (fun c_4 => ?_) (fun c_4 => ?_)
      · have c_4 := tn_lt (a := (x2).toInt) (b := (r4).toInt) rfl rfl c_4
        exact ok_r_chosen_66 s0 hB k11 M11 hk11 _ _ _ hI_s3 hF_s3 (by omega) (by omega) (by omega) (by omega) (by omega)
      · have c_4 := tn_nlt (a := (x2).toInt) (b := (r4).toInt) rfl rfl c_4
        exact ok_r_chosen_75 s0 hB k11 M11 hk11 _ _ _ _ hI_s3 hF_s3 (by omega) (by omega) (by omega) (by omega) (by omega)
set_option maxHeartbeats 1000000 in
theorem ok_r_chosen_11 (s0 : RS) (hB : Big s0) (k11 : RS → Int32 → Int32 → Int32 → Option (Int32 × RS)) (M11 : Nat) (hk11 : ∀ (s : RS) (x1 : Int32) (x2 : Int32) (x3 : Int32), InvR s → FrR [42, 45, 140, 141, 144] s0 s → -2 ≤ x1.toInt → x1.toInt ≤ 5 → 0 ≤ x3.toInt → x3.toInt ≤ 6 → (6 - x3.toInt).toNat < M11 → Ok (k11 s x1 x2 x3) (Q_r_chosen s0)) (s : RS) (x1 : Int32) (x2 : Int32) (x3 : Int32) (hI_s : InvR s) (hF_s : FrR [42, 45, 140, 141, 144] s0 s) (h_x1l : -2 ≤ x1.toInt) (h_x1u : x1.toInt ≤ 5) (h_x3l : 0 ≤ x3.toInt) (h_x3u : x3.toInt ≤ 6) (hM11 : (6 - x3.toInt).toNat ≤ M11) : Ok (r_chosen_11 k11 s x1 x2 x3) (Q_r_chosen s0) := by
  unfold r_chosen_11
  have a_1 : 0 ≤ (s.v 18).toInt ∧ (s.v 18).toInt ≤ 1 := hI_s.1 18
  refine ok_grd (vpb_ok (by omega) (by omega)) ?_
  have a_2 : 0 ≤ ((s.f 23 (Int32.toNatClampNeg (s.v 18)))).toInt ∧ ((s.f 23 (Int32.toNatClampNeg (s.v 18)))).toInt ≤ 6 := hI_s.2 23 _
  refine ok_ite (fun c_3 => ?_) (fun c_3 => ?_)
  · have c_3 := tn_le (a := ((s.f 23 (Int32.toNatClampNeg (s.v 18)))).toInt) (b := (x3).toInt) rfl rfl c_3
    exact ok_some ⟨hI_s, hF_s, by show -2 ≤ (x1).toInt; omega, by show (x1).toInt ≤ 5; omega⟩
  · have c_3 := tn_nle (a := ((s.f 23 (Int32.toNatClampNeg (s.v 18)))).toInt) (b := (x3).toInt) rfl rfl c_3
    refine ok_bindI (ok_r_isHere _ _ hI_s) (fun r4 s3 hc_4 => ?_)
    have hI_s3 : InvR s3 := hc_4.1
    have hFc_s3 : FrR [] s s3 := hc_4.2.1
    have hF_s3 : FrR [42, 45, 140, 141, 144] s0 s3 := hF_s.trans hFc_s3 (by decide)
    have hl_r4 : 0 ≤ r4.toInt := hc_4.2.2.1
    have hu_r4 : r4.toInt ≤ 1 := hc_4.2.2.2.1
    have hx0_r4 : (¬ r4.toInt = 0 → 0 ≤ (x3).toInt ∧ (x3).toInt ≤ 5) := hc_4.2.2.2.2
    refine ok_ite (fun c_5 => ?_) (fun c_5 => ?_)
    · have c_5 := tn_eq (a := (r4).toInt) (b := 0) rfl (by decide) c_5
      have l_m2 : ((-2) : Int32).toInt = -2 := by decide
      exact ok_r_chosen_42 s0 hB k11 M11 hk11 _ _ _ _ _ hI_s3 hF_s3 (by omega) (by omega) (by omega) (by omega) (by decide) (by decide) (by omega)
    · have c_5 := tn_ne (a := (r4).toInt) (b := 0) rfl (by decide) c_5
      refine ok_bindI (ok_r_bestFor _ _ hI_s3 (hB.fr hF_s3 (by decide)) (by omega) (by omega)) (fun r7 s6 hc_6 => ?_)
      have hI_s6 : InvR s6 := hc_6.1
      have hFc_s6 : FrR [42, 140, 141] s3 s6 := hc_6.2.1
      have hF_s6 : FrR [42, 45, 140, 141, 144] s0 s6 := hF_s3.trans hFc_s6 (by decide)
      have hl_r7 : -2 ≤ r7.toInt := hc_6.2.2.1
      have hu_r7 : r7.toInt ≤ 194400 := hc_6.2.2.2
      exact ok_r_chosen_42 s0 hB k11 M11 hk11 _ _ _ _ _ hI_s6 hF_s6 (by omega) (by omega) (by omega) (by omega) (by omega) (by omega) (by omega)
theorem okL_r_chosen_11 (s0 : RS) (hB : Big s0)  : ∀ (n : Nat) (s : RS) (x1 : Int32) (x2 : Int32) (x3 : Int32), (6 - x3.toInt).toNat < n → InvR s → FrR [42, 45, 140, 141, 144] s0 s → -2 ≤ x1.toInt → x1.toInt ≤ 5 → 0 ≤ x3.toInt → x3.toInt ≤ 6 → Ok (r_chosen_11L  n s x1 x2 x3) (Q_r_chosen s0) := by
  intro n
  induction n with
  | zero => intro s x1 x2 x3 hn; omega
  | succ n ih =>
    intro s x1 x2 x3 hn hI_s hF_s h_x1l h_x1u h_x3l h_x3u 
    exact ok_r_chosen_11 s0 hB (r_chosen_11L  n) ((6 - x3.toInt).toNat) (fun zs zx1 zx2 zx3 g0 g1 g2 g3 g4 g5  hm => ih zs zx1 zx2 zx3 (by omega) g0 g1 g2 g3 g4 g5 ) s x1 x2 x3 hI_s hF_s h_x1l h_x1u h_x3l h_x3u (Nat.le_refl _)
set_option maxHeartbeats 1000000 in
theorem ok_r_chosenB (s0 : RS) (hB : Big s0)  (s : RS) (hI_s : InvR s) (hF_s : FrR [42, 45, 140, 141, 144] s0 s)  : Ok (r_chosen  s) (Q_r_chosen s0) := by
  unfold r_chosen
  refine ok_bindP (ok_r_copies _  hI_s) (fun s1 hc_1 => ?_)
  have hI_s1 : InvR s1 := hc_1.1
  have hFc_s1 : FrR [45, 144] s s1 := hc_1.2
  have hF_s1 : FrR [42, 45, 140, 141, 144] s0 s1 := hF_s.trans hFc_s1 (by decide)
  have l_m2 : ((-2) : Int32).toInt = -2 := by decide
  have l_0 : (0 : Int32).toInt = 0 := by decide
  exact okL_r_chosen_11 s0 hB  fu _ _ _ _ (by unfold fu; omega) hI_s1 hF_s1 (by decide) (by decide) (by decide) (by decide) 
theorem ok_r_chosen (s : RS) (hI_s : InvR s) (hB : Big s) : Ok (r_chosen s) (Q_r_chosen s) := ok_r_chosenB s hB s hI_s FrR.rfl
noncomputable abbrev Q_r_manyIn (s0 : RS) (y : Int32 × RS) : Prop := InvR y.2 ∧ FrR [] s0 y.2 ∧ -2147483648 ≤ y.1.toInt ∧ y.1.toInt ≤ 2147483647
set_option maxHeartbeats 1000000 in
theorem ok_r_manyIn_33 (s0 : RS) (k4 : RS → Int32 → Int32 → Int32 → Option (Int32 × RS)) (M4 : Nat) (hk4 : ∀ (s : RS) (x1 : Int32) (x2 : Int32) (x3 : Int32), InvR s → FrR [] s0 s → 1 ≤ x1.toInt → x1.toInt ≤ 2 → 0 ≤ x3.toInt → x3.toInt ≤ 6 → (6 - x3.toInt).toNat < M4 → Ok (k4 s x1 x2 x3) (Q_r_manyIn s0)) (s : RS) (x1 : Int32) (x2 : Int32) (x3 : Int32) (hI_s : InvR s) (hF_s : FrR [] s0 s) (h_x1l : 1 ≤ x1.toInt) (h_x1u : x1.toInt ≤ 2) (h_x3l : 0 ≤ x3.toInt) (h_x3u : x3.toInt ≤ 5) (hM4 : (6 - x3.toInt).toNat ≤ M4) : Ok (r_manyIn_33 k4 s x1 x2 x3) (Q_r_manyIn s0) := by
  unfold r_manyIn_33
  have a_1 : ((x3 + 1)).toInt = (x3).toInt + 1 := tn_add rfl (by decide) (by omega) (by omega)
  exact hk4 _ _ _ _ hI_s hF_s (by omega) (by omega) (by omega) (by omega) (by omega)
set_option maxHeartbeats 1000000 in
theorem ok_r_manyIn_4 (s0 : RS) (k4 : RS → Int32 → Int32 → Int32 → Option (Int32 × RS)) (M4 : Nat) (hk4 : ∀ (s : RS) (x1 : Int32) (x2 : Int32) (x3 : Int32), InvR s → FrR [] s0 s → 1 ≤ x1.toInt → x1.toInt ≤ 2 → 0 ≤ x3.toInt → x3.toInt ≤ 6 → (6 - x3.toInt).toNat < M4 → Ok (k4 s x1 x2 x3) (Q_r_manyIn s0)) (s : RS) (x1 : Int32) (x2 : Int32) (x3 : Int32) (hI_s : InvR s) (hF_s : FrR [] s0 s) (h_x1l : 1 ≤ x1.toInt) (h_x1u : x1.toInt ≤ 2) (h_x3l : 0 ≤ x3.toInt) (h_x3u : x3.toInt ≤ 6) (hM4 : (6 - x3.toInt).toNat ≤ M4) : Ok (r_manyIn_4 k4 s x1 x2 x3) (Q_r_manyIn s0) := by
  unfold r_manyIn_4
  have a_1 : 0 ≤ (s.v 18).toInt ∧ (s.v 18).toInt ≤ 1 := hI_s.1 18
  refine ok_grd (vpb_ok (by omega) (by omega)) ?_
  have a_2 : 0 ≤ ((s.f 23 (Int32.toNatClampNeg (s.v 18)))).toInt ∧ ((s.f 23 (Int32.toNatClampNeg (s.v 18)))).toInt ≤ 6 := hI_s.2 23 _
  refine ok_ite (fun c_3 => ?_) (fun c_3 => ?_)
  · have c_3 := tn_le (a := ((s.f 23 (Int32.toNatClampNeg (s.v 18)))).toInt) (b := (x3).toInt) rfl rfl c_3
    exact ok_some ⟨hI_s, hF_s, (ti_rng _).1, (ti_rng _).2⟩
  · have c_3 := tn_nle (a := ((s.f 23 (Int32.toNatClampNeg (s.v 18)))).toInt) (b := (x3).toInt) rfl rfl c_3
    have a_4 : ((15 + x3)).toInt = 15 + (x3).toInt := tn_add (by decide) rfl (by omega) (by omega)
    refine ok_grd (vpb_ok (by omega) (by omega)) ?_
    refine ok_ite (fun c_5 => ?_) (fun c_5 => ?_)
    · have c_5 := tn_eq (a := ((s.f 44 (Int32.toNatClampNeg (15 + x3)))).toInt) (b := (x1).toInt) rfl rfl c_5
      exact ok_r_manyIn_33 s0 k4 M4 hk4 _ _ _ _ hI_s hF_s (by omega) (by omega) (by omega) (by omega) (by omega)
    · have c_5 := tn_ne (a := ((s.f 44 (Int32.toNatClampNeg (15 + x3)))).toInt) (b := (x1).toInt) rfl rfl c_5
      exact ok_r_manyIn_33 s0 k4 M4 hk4 _ _ _ _ hI_s hF_s (by omega) (by omega) (by omega) (by omega) (by omega)
theorem okL_r_manyIn_4 (s0 : RS)  : ∀ (n : Nat) (s : RS) (x1 : Int32) (x2 : Int32) (x3 : Int32), (6 - x3.toInt).toNat < n → InvR s → FrR [] s0 s → 1 ≤ x1.toInt → x1.toInt ≤ 2 → 0 ≤ x3.toInt → x3.toInt ≤ 6 → Ok (r_manyIn_4L  n s x1 x2 x3) (Q_r_manyIn s0) := by
  intro n
  induction n with
  | zero => intro s x1 x2 x3 hn; omega
  | succ n ih =>
    intro s x1 x2 x3 hn hI_s hF_s h_x1l h_x1u h_x3l h_x3u 
    exact ok_r_manyIn_4 s0 (r_manyIn_4L  n) ((6 - x3.toInt).toNat) (fun zs zx1 zx2 zx3 g0 g1 g2 g3 g4 g5  hm => ih zs zx1 zx2 zx3 (by omega) g0 g1 g2 g3 g4 g5 ) s x1 x2 x3 hI_s hF_s h_x1l h_x1u h_x3l h_x3u (Nat.le_refl _)
set_option maxHeartbeats 1000000 in
theorem ok_r_manyInB (s0 : RS)  (s : RS) (x1 : Int32) (hI_s : InvR s) (hF_s : FrR [] s0 s) (h_x1l : 1 ≤ x1.toInt) (h_x1u : x1.toInt ≤ 2)  : Ok (r_manyIn  s x1) (Q_r_manyIn s0) := by
  unfold r_manyIn
  have l_0 : (0 : Int32).toInt = 0 := by decide
  exact okL_r_manyIn_4 s0  fu _ _ _ _ (by unfold fu; omega) hI_s hF_s (by omega) (by omega) (by decide) (by decide) 
theorem ok_r_manyIn (s : RS) (x1 : Int32) (hI_s : InvR s) (h_x1l : 1 ≤ x1.toInt) (h_x1u : x1.toInt ≤ 2) : Ok (r_manyIn s x1) (Q_r_manyIn s) := ok_r_manyInB s s x1 hI_s FrR.rfl h_x1l h_x1u
noncomputable abbrev Q_r_allGo (s0 : RS) (y : Int32 × RS) : Prop := InvR y.2 ∧ FrR [42, 45, 140, 141, 144] s0 y.2 ∧ -2147483648 ≤ y.1.toInt ∧ y.1.toInt ≤ 2147483647
set_option maxHeartbeats 1000000 in
theorem ok_r_allGo_89 (s0 : RS) (hB : Big s0) (k22 : RS → Int32 → Int32 → Int32 → Option (Int32 × RS)) (M22 : Nat) (hk22 : ∀ (s : RS) (x1 : Int32) (x2 : Int32) (x3 : Int32), InvR s → FrR [42, 45, 140, 141, 144] s0 s → 0 ≤ x1.toInt → x1.toInt ≤ 2 → 0 ≤ x2.toInt → x2.toInt ≤ 194400 → 0 ≤ x3.toInt → x3.toInt ≤ 6 → (6 - x3.toInt).toNat < M22 → Ok (k22 s x1 x2 x3) (Q_r_allGo s0)) (s : RS) (x1 : Int32) (x2 : Int32) (x3 : Int32) (hI_s : InvR s) (hF_s : FrR [42, 45, 140, 141, 144] s0 s) (h_x1l : 0 ≤ x1.toInt) (h_x1u : x1.toInt ≤ 2) (h_x2l : 0 ≤ x2.toInt) (h_x2u : x2.toInt ≤ 194400) (h_x3l : 0 ≤ x3.toInt) (h_x3u : x3.toInt ≤ 5) (hM22 : (6 - x3.toInt).toNat ≤ M22) : Ok (r_allGo_89 k22 s x1 x2 x3) (Q_r_allGo s0) := by
  unfold r_allGo_89
  have a_1 : ((x3 + 1)).toInt = (x3).toInt + 1 := tn_add rfl (by decide) (by omega) (by omega)
  exact hk22 _ _ _ _ hI_s hF_s (by omega) (by omega) (by omega) (by omega) (by omega) (by omega) (by omega)
set_option maxHeartbeats 1000000 in
theorem ok_r_allGo_73 (s0 : RS) (hB : Big s0) (k22 : RS → Int32 → Int32 → Int32 → Option (Int32 × RS)) (M22 : Nat) (hk22 : ∀ (s : RS) (x1 : Int32) (x2 : Int32) (x3 : Int32), InvR s → FrR [42, 45, 140, 141, 144] s0 s → 0 ≤ x1.toInt → x1.toInt ≤ 2 → 0 ≤ x2.toInt → x2.toInt ≤ 194400 → 0 ≤ x3.toInt → x3.toInt ≤ 6 → (6 - x3.toInt).toNat < M22 → Ok (k22 s x1 x2 x3) (Q_r_allGo s0)) (s : RS) (x1 : Int32) (x2 : Int32) (x3 : Int32) (t0 : Int32) (hI_s : InvR s) (hF_s : FrR [42, 45, 140, 141, 144] s0 s) (h_x1l : 0 ≤ x1.toInt) (h_x1u : x1.toInt ≤ 2) (h_x2l : 0 ≤ x2.toInt) (h_x2u : x2.toInt ≤ 194400) (h_x3l : 0 ≤ x3.toInt) (h_x3u : x3.toInt ≤ 5) (h_t0l : -2 ≤ t0.toInt) (h_t0u : t0.toInt ≤ 194400) (hM22 : (6 - x3.toInt).toNat ≤ M22) : Ok (r_allGo_73 k22 s x1 x2 x3 t0) (Q_r_allGo s0) := by
  unfold r_allGo_73
  refine ok_ite (fun c_1 => ?_) (fun c_1 => ?_)
  · have c_1 := tn_lt (a := (t0).toInt) (b := 0) rfl (by decide) c_1
    exact ok_r_allGo_89 s0 hB k22 M22 hk22 _ _ _ _ hI_s hF_s (by omega) (by omega) (by omega) (by omega) (by omega) (by omega) (by omega)
  · have c_1 := tn_nlt (a := (t0).toInt) (b := 0) rfl (by decide) c_1
    refine ok_bindI (ok_r_goesBy _ _ _ _ hI_s (hB.fr hF_s (by decide)) (by omega) (by omega) (by omega) (by omega) (by omega) (by omega)) (fun r3 s2 hc_2 => ?_)
    have hI_s2 : InvR s2 := hc_2.1
    have hFc_s2 : FrR [42, 140, 141, 144] s s2 := hc_2.2.1
    have hF_s2 : FrR [42, 45, 140, 141, 144] s0 s2 := hF_s.trans hFc_s2 (by decide)
    have hl_r3 : 0 ≤ r3.toInt := hc_2.2.2.1
    have hu_r3 : r3.toInt ≤ 5 := hc_2.2.2.2
    exact ok_r_allGo_89 s0 hB k22 M22 hk22 _ _ _ _ hI_s2 hF_s2 (by omega) (by omega) (by omega) (by omega) (by omega) (by omega) (by omega)
set_option maxHeartbeats 1000000 in
theorem ok_r_allGo_71 (s0 : RS) (hB : Big s0) (k22 : RS → Int32 → Int32 → Int32 → Option (Int32 × RS)) (M22 : Nat) (hk22 : ∀ (s : RS) (x1 : Int32) (x2 : Int32) (x3 : Int32), InvR s → FrR [42, 45, 140, 141, 144] s0 s → 0 ≤ x1.toInt → x1.toInt ≤ 2 → 0 ≤ x2.toInt → x2.toInt ≤ 194400 → 0 ≤ x3.toInt → x3.toInt ≤ 6 → (6 - x3.toInt).toNat < M22 → Ok (k22 s x1 x2 x3) (Q_r_allGo s0)) (s : RS) (x1 : Int32) (x2 : Int32) (x3 : Int32) (hI_s : InvR s) (hF_s : FrR [42, 45, 140, 141, 144] s0 s) (h_x1l : 0 ≤ x1.toInt) (h_x1u : x1.toInt ≤ 2) (h_x2l : 0 ≤ x2.toInt) (h_x2u : x2.toInt ≤ 194400) (h_x3l : 0 ≤ x3.toInt) (h_x3u : x3.toInt ≤ 5) (hM22 : (6 - x3.toInt).toNat ≤ M22) : Ok (r_allGo_71 k22 s x1 x2 x3) (Q_r_allGo s0) := by
  unfold r_allGo_71
  have l_m2 : ((-2) : Int32).toInt = -2 := by decide
  exact ok_r_allGo_73 s0 hB k22 M22 hk22 _ _ _ _ _ hI_s hF_s (by omega) (by omega) (by omega) (by omega) (by omega) (by omega) (by decide) (by decide) (by omega)
set_option maxHeartbeats 1000000 in
theorem ok_r_allGo_22 (s0 : RS) (hB : Big s0) (k22 : RS → Int32 → Int32 → Int32 → Option (Int32 × RS)) (M22 : Nat) (hk22 : ∀ (s : RS) (x1 : Int32) (x2 : Int32) (x3 : Int32), InvR s → FrR [42, 45, 140, 141, 144] s0 s → 0 ≤ x1.toInt → x1.toInt ≤ 2 → 0 ≤ x2.toInt → x2.toInt ≤ 194400 → 0 ≤ x3.toInt → x3.toInt ≤ 6 → (6 - x3.toInt).toNat < M22 → Ok (k22 s x1 x2 x3) (Q_r_allGo s0)) (s : RS) (x1 : Int32) (x2 : Int32) (x3 : Int32) (hI_s : InvR s) (hF_s : FrR [42, 45, 140, 141, 144] s0 s) (h_x1l : 0 ≤ x1.toInt) (h_x1u : x1.toInt ≤ 2) (h_x2l : 0 ≤ x2.toInt) (h_x2u : x2.toInt ≤ 194400) (h_x3l : 0 ≤ x3.toInt) (h_x3u : x3.toInt ≤ 6) (hM22 : (6 - x3.toInt).toNat ≤ M22) : Ok (r_allGo_22 k22 s x1 x2 x3) (Q_r_allGo s0) := by
  unfold r_allGo_22
  have a_1 : 0 ≤ (s.v 18).toInt ∧ (s.v 18).toInt ≤ 1 := hI_s.1 18
  refine ok_grd (vpb_ok (by omega) (by omega)) ?_
  have a_2 : 0 ≤ ((s.f 23 (Int32.toNatClampNeg (s.v 18)))).toInt ∧ ((s.f 23 (Int32.toNatClampNeg (s.v 18)))).toInt ≤ 6 := hI_s.2 23 _
  refine ok_ite (fun c_3 => ?_) (fun c_3 => ?_)
  · have c_3 := tn_le (a := ((s.f 23 (Int32.toNatClampNeg (s.v 18)))).toInt) (b := (x3).toInt) rfl rfl c_3
    refine ok_ite (fun c_4 => ?_) (fun c_4 => ?_)
    · have c_4 := tn_eq (a := (x1).toInt) (b := 0) rfl (by decide) c_4
      refine ok_bindI (ok_r_manyIn _ _ hI_s (by decide) (by decide)) (fun r8 s7 hc_5 => ?_)
      have hI_s7 : InvR s7 := hc_5.1
      have hFc_s7 : FrR [] s s7 := hc_5.2.1
      have hF_s7 : FrR [42, 45, 140, 141, 144] s0 s7 := hF_s.trans hFc_s7 (by decide)
      exact ok_some ⟨hI_s7, hF_s7, (ti_rng _).1, (ti_rng _).2⟩
    · have c_4 := tn_ne (a := (x1).toInt) (b := 0) rfl (by decide) c_4
      refine ok_ite (fun c_6 => ?_) (fun c_6 => ?_)
      · have c_6 := tn_eq (a := (x1).toInt) (b := 1) rfl (by decide) c_6
        refine ok_bindI (ok_r_manyIn _ _ hI_s (by decide) (by decide)) (fun r6 s5 hc_7 => ?_)
        have hI_s5 : InvR s5 := hc_7.1
        have hFc_s5 : FrR [] s s5 := hc_7.2.1
        have hF_s5 : FrR [42, 45, 140, 141, 144] s0 s5 := hF_s.trans hFc_s5 (by decide)
        exact ok_some ⟨hI_s5, hF_s5, (ti_rng _).1, (ti_rng _).2⟩
      · have c_6 := tn_ne (a := (x1).toInt) (b := 1) rfl (by decide) c_6
        exact ok_some ⟨hI_s, hF_s, (ti_rng _).1, (ti_rng _).2⟩
  · have c_3 := tn_nle (a := ((s.f 23 (Int32.toNatClampNeg (s.v 18)))).toInt) (b := (x3).toInt) rfl rfl c_3
    refine ok_bindI (ok_r_isHere _ _ hI_s) (fun r10 s9 hc_8 => ?_)
    have hI_s9 : InvR s9 := hc_8.1
    have hFc_s9 : FrR [] s s9 := hc_8.2.1
    have hF_s9 : FrR [42, 45, 140, 141, 144] s0 s9 := hF_s.trans hFc_s9 (by decide)
    have hl_r10 : 0 ≤ r10.toInt := hc_8.2.2.1
    have hu_r10 : r10.toInt ≤ 1 := hc_8.2.2.2.1
    have hx0_r10 : (¬ r10.toInt = 0 → 0 ≤ (x3).toInt ∧ (x3).toInt ≤ 5) := hc_8.2.2.2.2
    refine ok_ite (fun c_9 => ?_) (fun c_9 => ?_)
    · have c_9 := tn_eq (a := (r10).toInt) (b := 0) rfl (by decide) c_9
      exact ok_r_allGo_71 s0 hB k22 M22 hk22 _ _ _ _ hI_s9 hF_s9 (by omega) (by omega) (by omega) (by omega) (by omega) (by omega) (by omega)
    · have c_9 := tn_ne (a := (r10).toInt) (b := 0) rfl (by decide) c_9
      refine ok_bindI (ok_r_doesDare _ _ hI_s9 (hB.fr hF_s9 (by decide)) (by omega) (by omega)) (fun r13 s12 hc_10 => ?_)
      have hI_s12 : InvR s12 := hc_10.1
      have hFc_s12 : FrR [42, 140, 141] s9 s12 := hc_10.2.1
      have hF_s12 : FrR [42, 45, 140, 141, 144] s0 s12 := hF_s9.trans hFc_s12 (by decide)
      have hl_r13 : 0 ≤ r13.toInt := hc_10.2.2.1
      have hu_r13 : r13.toInt ≤ 1 := hc_10.2.2.2
      refine ok_ite (fun c_11 => ?_) (fun c_11 => ?_)
      · have c_11 := tn_eq (a := (r13).toInt) (b := 0) rfl (by decide) c_11
        exact ok_r_allGo_71 s0 hB k22 M22 hk22 _ _ _ _ hI_s12 hF_s12 (by omega) (by omega) (by omega) (by omega) (by omega) (by omega) (by omega)
      · have c_11 := tn_ne (a := (r13).toInt) (b := 0) rfl (by decide) c_11
        have a_12 : (s9.v 18).toInt = (s.v 18).toInt := congrArg Int32.toInt (hFc_s9.1 18 (by decide))
        have a_13 : (s12.v 18).toInt = (s9.v 18).toInt := congrArg Int32.toInt (hFc_s12.1 18 (by decide))
        refine ok_grd (vpb_ok (by omega) (by omega)) ?_
        have a_14 : ((s12.f 20 (Int32.toNatClampNeg (s12.v 18)))).toInt = wv s0 := wv_fr hF_s12 (by decide) (by decide)
        have a_15 : 0 ≤ ((s12.f 20 (Int32.toNatClampNeg (s12.v 18)))).toInt ∧ ((s12.f 20 (Int32.toNatClampNeg (s12.v 18)))).toInt ≤ 5 := hI_s12.2 20 _
        refine ok_ite (fun c_16 => ?_) (fun c_16 => ?_)
        · have c_16 := tn_le (a := ((s12.f 20 (Int32.toNatClampNeg (s12.v 18)))).toInt) (b := 0) rfl (by decide) c_16
          exact ok_r_allGo_71 s0 hB k22 M22 hk22 _ _ _ _ hI_s12 hF_s12 (by omega) (by omega) (by omega) (by omega) (by omega) (by omega) (by omega)
        · have c_16 := tn_nle (a := ((s12.f 20 (Int32.toNatClampNeg (s12.v 18)))).toInt) (b := 0) rfl (by decide) c_16
          refine ok_bindI (ok_r_bestFor _ _ hI_s12 (hB.fr hF_s12 (by decide)) (by omega) (by omega)) (fun r18 s17 hc_17 => ?_)
          have hI_s17 : InvR s17 := hc_17.1
          have hFc_s17 : FrR [42, 140, 141] s12 s17 := hc_17.2.1
          have hF_s17 : FrR [42, 45, 140, 141, 144] s0 s17 := hF_s12.trans hFc_s17 (by decide)
          have hl_r18 : -2 ≤ r18.toInt := hc_17.2.2.1
          have hu_r18 : r18.toInt ≤ 194400 := hc_17.2.2.2
          exact ok_r_allGo_73 s0 hB k22 M22 hk22 _ _ _ _ _ hI_s17 hF_s17 (by omega) (by omega) (by omega) (by omega) (by omega) (by omega) (by omega) (by omega) (by omega)
theorem okL_r_allGo_22 (s0 : RS) (hB : Big s0)  : ∀ (n : Nat) (s : RS) (x1 : Int32) (x2 : Int32) (x3 : Int32), (6 - x3.toInt).toNat < n → InvR s → FrR [42, 45, 140, 141, 144] s0 s → 0 ≤ x1.toInt → x1.toInt ≤ 2 → 0 ≤ x2.toInt → x2.toInt ≤ 194400 → 0 ≤ x3.toInt → x3.toInt ≤ 6 → Ok (r_allGo_22L  n s x1 x2 x3) (Q_r_allGo s0) := by
  intro n
  induction n with
  | zero => intro s x1 x2 x3 hn; omega
  | succ n ih =>
    intro s x1 x2 x3 hn hI_s hF_s h_x1l h_x1u h_x2l h_x2u h_x3l h_x3u 
    exact ok_r_allGo_22 s0 hB (r_allGo_22L  n) ((6 - x3.toInt).toNat) (fun zs zx1 zx2 zx3 g0 g1 g2 g3 g4 g5 g6 g7  hm => ih zs zx1 zx2 zx3 (by omega) g0 g1 g2 g3 g4 g5 g6 g7 ) s x1 x2 x3 hI_s hF_s h_x1l h_x1u h_x2l h_x2u h_x3l h_x3u (Nat.le_refl _)
set_option maxHeartbeats 1000000 in
theorem ok_r_allGoB (s0 : RS) (hB : Big s0)  (s : RS) (x1 : Int32) (hI_s : InvR s) (hF_s : FrR [42, 45, 140, 141, 144] s0 s)  : Ok (r_allGo  s x1) (Q_r_allGo s0) := by
  unfold r_allGo
  refine ok_bindP (ok_r_in _ _ _ (by decide) (by decide) (by decide) (by decide)) (fun r1 hc_1 => ?_)
  have l_0 : (0 : Int32).toInt = 0 := by decide
  have l_2 : (2 : Int32).toInt = 2 := by decide
  have hl_r1 : 0 ≤ r1.toInt := hc_1.1
  have hu_r1 : r1.toInt ≤ 1 := hc_1.2.1
  have hx0_r1 : (¬ r1.toInt = 0 → (0 : Int32).toInt ≤ (x1).toInt ∧ (x1).toInt ≤ (2 : Int32).toInt) := hc_1.2.2
  refine ok_ite (fun c_2 => ?_) (fun c_2 => ?_)
  · have c_2 := tn_eq (a := (r1).toInt) (b := 0) rfl (by decide) c_2
    exact ok_some ⟨hI_s, hF_s, (ti_rng _).1, (ti_rng _).2⟩
  · have c_2 := tn_ne (a := (r1).toInt) (b := 0) rfl (by decide) c_2
    refine ok_bindP (ok_r_copies _  hI_s) (fun s3 hc_3 => ?_)
    have hI_s3 : InvR s3 := hc_3.1
    have hFc_s3 : FrR [45, 144] s s3 := hc_3.2
    have hF_s3 : FrR [42, 45, 140, 141, 144] s0 s3 := hF_s.trans hFc_s3 (by decide)
    refine ok_bindI (ok_r_thereNumber _  hI_s3 (hB.fr hF_s3 (by decide))) (fun r5 s4 hc_4 => ?_)
    have hI_s4 : InvR s4 := hc_4.1
    have hFc_s4 : FrR [] s3 s4 := hc_4.2.1
    have hF_s4 : FrR [42, 45, 140, 141, 144] s0 s4 := hF_s3.trans hFc_s4 (by decide)
    have hl_r5 : 0 ≤ r5.toInt := hc_4.2.2.1
    have hu_r5 : r5.toInt ≤ 194400 := hc_4.2.2.2
    exact okL_r_allGo_22 s0 hB  fu _ _ _ _ (by unfold fu; omega) hI_s4 hF_s4 (by omega) (by omega) (by omega) (by omega) (by decide) (by decide) 
theorem ok_r_allGo (s : RS) (x1 : Int32) (hI_s : InvR s) (hB : Big s) : Ok (r_allGo s x1) (Q_r_allGo s) := ok_r_allGoB s hB s x1 hI_s FrR.rfl
end
section
noncomputable abbrev Q_r_darers (s0 : RS) (y : Int32 × RS) : Prop := InvR y.2 ∧ FrR [42, 45, 140, 141, 144] s0 y.2 ∧ -2147483648 ≤ y.1.toInt ∧ y.1.toInt ≤ 2147483647
set_option maxHeartbeats 1000000 in
theorem ok_r_darers_43 (s0 : RS) (hB : Big s0) (k8 : RS → Int32 → Int32 → Option (Int32 × RS)) (M8 : Nat) (hk8 : ∀ (s : RS) (x1 : Int32) (x2 : Int32), InvR s → FrR [42, 45, 140, 141, 144] s0 s → 0 ≤ x2.toInt → x2.toInt ≤ 6 → (6 - x2.toInt).toNat < M8 → Ok (k8 s x1 x2) (Q_r_darers s0)) (s : RS) (x1 : Int32) (x2 : Int32) (hI_s : InvR s) (hF_s : FrR [42, 45, 140, 141, 144] s0 s) (h_x2l : 0 ≤ x2.toInt) (h_x2u : x2.toInt ≤ 5) (hM8 : (6 - x2.toInt).toNat ≤ M8) : Ok (r_darers_43 k8 s x1 x2) (Q_r_darers s0) := by
  unfold r_darers_43
  have a_1 : ((x2 + 1)).toInt = (x2).toInt + 1 := tn_add rfl (by decide) (by omega) (by omega)
  exact hk8 _ _ _ hI_s hF_s (by omega) (by omega) (by omega)
set_option maxHeartbeats 1000000 in
theorem ok_r_darers_8 (s0 : RS) (hB : Big s0) (k8 : RS → Int32 → Int32 → Option (Int32 × RS)) (M8 : Nat) (hk8 : ∀ (s : RS) (x1 : Int32) (x2 : Int32), InvR s → FrR [42, 45, 140, 141, 144] s0 s → 0 ≤ x2.toInt → x2.toInt ≤ 6 → (6 - x2.toInt).toNat < M8 → Ok (k8 s x1 x2) (Q_r_darers s0)) (s : RS) (x1 : Int32) (x2 : Int32) (hI_s : InvR s) (hF_s : FrR [42, 45, 140, 141, 144] s0 s) (h_x2l : 0 ≤ x2.toInt) (h_x2u : x2.toInt ≤ 6) (hM8 : (6 - x2.toInt).toNat ≤ M8) : Ok (r_darers_8 k8 s x1 x2) (Q_r_darers s0) := by
  unfold r_darers_8
  have a_1 : 0 ≤ (s.v 18).toInt ∧ (s.v 18).toInt ≤ 1 := hI_s.1 18
  refine ok_grd (vpb_ok (by omega) (by omega)) ?_
  have a_2 : 0 ≤ ((s.f 23 (Int32.toNatClampNeg (s.v 18)))).toInt ∧ ((s.f 23 (Int32.toNatClampNeg (s.v 18)))).toInt ≤ 6 := hI_s.2 23 _
  refine ok_ite (fun c_3 => ?_) (fun c_3 => ?_)
  · have c_3 := tn_le (a := ((s.f 23 (Int32.toNatClampNeg (s.v 18)))).toInt) (b := (x2).toInt) rfl rfl c_3
    exact ok_some ⟨hI_s, hF_s, (ti_rng _).1, (ti_rng _).2⟩
  · have c_3 := tn_nle (a := ((s.f 23 (Int32.toNatClampNeg (s.v 18)))).toInt) (b := (x2).toInt) rfl rfl c_3
    refine ok_bindI (ok_r_isHere _ _ hI_s) (fun r4 s3 hc_4 => ?_)
    have hI_s3 : InvR s3 := hc_4.1
    have hFc_s3 : FrR [] s s3 := hc_4.2.1
    have hF_s3 : FrR [42, 45, 140, 141, 144] s0 s3 := hF_s.trans hFc_s3 (by decide)
    have hl_r4 : 0 ≤ r4.toInt := hc_4.2.2.1
    have hu_r4 : r4.toInt ≤ 1 := hc_4.2.2.2.1
    have hx0_r4 : (¬ r4.toInt = 0 → 0 ≤ (x2).toInt ∧ (x2).toInt ≤ 5) := hc_4.2.2.2.2
    refine ok_ite (fun c_5 => ?_) (fun c_5 => ?_)
    · have c_5 := tn_eq (a := (r4).toInt) (b := 0) rfl (by decide) c_5
      exact ok_r_darers_43 s0 hB k8 M8 hk8 _ _ _ hI_s3 hF_s3 (by omega) (by omega) (by omega)
    · have c_5 := tn_ne (a := (r4).toInt) (b := 0) rfl (by decide) c_5
      refine ok_bindI (ok_r_doesDare _ _ hI_s3 (hB.fr hF_s3 (by decide)) (by omega) (by omega)) (fun r7 s6 hc_6 => ?_)
      have hI_s6 : InvR s6 := hc_6.1
      have hFc_s6 : FrR [42, 140, 141] s3 s6 := hc_6.2.1
      have hF_s6 : FrR [42, 45, 140, 141, 144] s0 s6 := hF_s3.trans hFc_s6 (by decide)
      have hl_r7 : 0 ≤ r7.toInt := hc_6.2.2.1
      have hu_r7 : r7.toInt ≤ 1 := hc_6.2.2.2
      refine ok_ite (fun c_7 => ?_) (fun c_7 => ?_)
      · have c_7 := tn_eq (a := (r7).toInt) (b := 0) rfl (by decide) c_7
        exact ok_r_darers_43 s0 hB k8 M8 hk8 _ _ _ hI_s6 hF_s6 (by omega) (by omega) (by omega)
      · have c_7 := tn_ne (a := (r7).toInt) (b := 0) rfl (by decide) c_7
        exact ok_r_darers_43 s0 hB k8 M8 hk8 _ _ _ hI_s6 hF_s6 (by omega) (by omega) (by omega)
theorem okL_r_darers_8 (s0 : RS) (hB : Big s0)  : ∀ (n : Nat) (s : RS) (x1 : Int32) (x2 : Int32), (6 - x2.toInt).toNat < n → InvR s → FrR [42, 45, 140, 141, 144] s0 s → 0 ≤ x2.toInt → x2.toInt ≤ 6 → Ok (r_darers_8L  n s x1 x2) (Q_r_darers s0) := by
  intro n
  induction n with
  | zero => intro s x1 x2 hn; omega
  | succ n ih =>
    intro s x1 x2 hn hI_s hF_s h_x2l h_x2u 
    exact ok_r_darers_8 s0 hB (r_darers_8L  n) ((6 - x2.toInt).toNat) (fun zs zx1 zx2 g0 g1 g2 g3  hm => ih zs zx1 zx2 (by omega) g0 g1 g2 g3 ) s x1 x2 hI_s hF_s h_x2l h_x2u (Nat.le_refl _)
set_option maxHeartbeats 1000000 in
theorem ok_r_darersB (s0 : RS) (hB : Big s0)  (s : RS) (hI_s : InvR s) (hF_s : FrR [42, 45, 140, 141, 144] s0 s)  : Ok (r_darers  s) (Q_r_darers s0) := by
  unfold r_darers
  refine ok_bindP (ok_r_copies _  hI_s) (fun s1 hc_1 => ?_)
  have hI_s1 : InvR s1 := hc_1.1
  have hFc_s1 : FrR [45, 144] s s1 := hc_1.2
  have hF_s1 : FrR [42, 45, 140, 141, 144] s0 s1 := hF_s.trans hFc_s1 (by decide)
  have l_0 : (0 : Int32).toInt = 0 := by decide
  exact okL_r_darers_8 s0 hB  fu _ _ _ (by unfold fu; omega) hI_s1 hF_s1 (by decide) (by decide) 
theorem ok_r_darers (s : RS) (hI_s : InvR s) (hB : Big s) : Ok (r_darers s) (Q_r_darers s) := ok_r_darersB s hB s hI_s FrR.rfl
noncomputable abbrev Q_r_open (s0 : RS) (y : Int32 × RS) : Prop := InvR y.2 ∧ FrR [45, 144] s0 y.2 ∧ -2147483648 ≤ y.1.toInt ∧ y.1.toInt ≤ 2147483647
set_option maxHeartbeats 1000000 in
theorem ok_r_open_39 (s0 : RS) (k8 : RS → Int32 → Int32 → Option (Int32 × RS)) (M8 : Nat) (hk8 : ∀ (s : RS) (x1 : Int32) (x2 : Int32), InvR s → FrR [45, 144] s0 s → 0 ≤ x2.toInt → x2.toInt ≤ 5 → (5 - x2.toInt).toNat < M8 → Ok (k8 s x1 x2) (Q_r_open s0)) (s : RS) (x1 : Int32) (x2 : Int32) (hI_s : InvR s) (hF_s : FrR [45, 144] s0 s) (h_x2l : 0 ≤ x2.toInt) (h_x2u : x2.toInt ≤ 4) (hM8 : (5 - x2.toInt).toNat ≤ M8) : Ok (r_open_39 k8 s x1 x2) (Q_r_open s0) := by
  unfold r_open_39
  have a_1 : ((x2 + 1)).toInt = (x2).toInt + 1 := tn_add rfl (by decide) (by omega) (by omega)
  exact hk8 _ _ _ hI_s hF_s (by omega) (by omega) (by omega)
set_option maxHeartbeats 1000000 in
theorem ok_r_open_8 (s0 : RS) (k8 : RS → Int32 → Int32 → Option (Int32 × RS)) (M8 : Nat) (hk8 : ∀ (s : RS) (x1 : Int32) (x2 : Int32), InvR s → FrR [45, 144] s0 s → 0 ≤ x2.toInt → x2.toInt ≤ 5 → (5 - x2.toInt).toNat < M8 → Ok (k8 s x1 x2) (Q_r_open s0)) (s : RS) (x1 : Int32) (x2 : Int32) (hI_s : InvR s) (hF_s : FrR [45, 144] s0 s) (h_x2l : 0 ≤ x2.toInt) (h_x2u : x2.toInt ≤ 5) (hM8 : (5 - x2.toInt).toNat ≤ M8) : Ok (r_open_8 k8 s x1 x2) (Q_r_open s0) := by
  unfold r_open_8
  have a_1 : 0 ≤ (s.v 18).toInt ∧ (s.v 18).toInt ≤ 1 := hI_s.1 18
  refine ok_grd (vpb_ok (by omega) (by omega)) ?_
  have a_2 : ((s.f 20 (Int32.toNatClampNeg (s.v 18)))).toInt = wv s0 := wv_fr hF_s (by decide) (by decide)
  have a_3 : 0 ≤ ((s.f 20 (Int32.toNatClampNeg (s.v 18)))).toInt ∧ ((s.f 20 (Int32.toNatClampNeg (s.v 18)))).toInt ≤ 5 := hI_s.2 20 _
  refine ok_ite (fun c_4 => ?_) (fun c_4 => ?_)
  · have c_4 := tn_le (a := ((s.f 20 (Int32.toNatClampNeg (s.v 18)))).toInt) (b := (x2).toInt) rfl rfl c_4
    exact ok_some ⟨hI_s, hF_s, (ti_rng _).1, (ti_rng _).2⟩
  · have c_4 := tn_nle (a := ((s.f 20 (Int32.toNatClampNeg (s.v 18)))).toInt) (b := (x2).toInt) rfl rfl c_4
    refine ok_bindI (ok_r_mayAt _ _ hI_s (by omega) (by omega)) (fun r4 s3 hc_5 => ?_)
    have hI_s3 : InvR s3 := hc_5.1
    have hFc_s3 : FrR [] s s3 := hc_5.2.1
    have hF_s3 : FrR [45, 144] s0 s3 := hF_s.trans hFc_s3 (by decide)
    refine ok_bindP (ok_r_bits _ ) (fun r5 hc_6 => ?_)
    have hl_r5 : 0 ≤ r5.toInt := hc_6.1
    have hu_r5 : r5.toInt ≤ 6 := hc_6.2
    refine ok_ite (fun c_7 => ?_) (fun c_7 => ?_)
    · have c_7 := tn_le (a := (r5).toInt) (b := 1) rfl (by decide) c_7
      exact ok_r_open_39 s0 k8 M8 hk8 _ _ _ hI_s3 hF_s3 (by omega) (by omega) (by omega)
    · have c_7 := tn_nle (a := (r5).toInt) (b := 1) rfl (by decide) c_7
      exact ok_r_open_39 s0 k8 M8 hk8 _ _ _ hI_s3 hF_s3 (by omega) (by omega) (by omega)
theorem okL_r_open_8 (s0 : RS)  : ∀ (n : Nat) (s : RS) (x1 : Int32) (x2 : Int32), (5 - x2.toInt).toNat < n → InvR s → FrR [45, 144] s0 s → 0 ≤ x2.toInt → x2.toInt ≤ 5 → Ok (r_open_8L  n s x1 x2) (Q_r_open s0) := by
  intro n
  induction n with
  | zero => intro s x1 x2 hn; omega
  | succ n ih =>
    intro s x1 x2 hn hI_s hF_s h_x2l h_x2u 
    exact ok_r_open_8 s0 (r_open_8L  n) ((5 - x2.toInt).toNat) (fun zs zx1 zx2 g0 g1 g2 g3  hm => ih zs zx1 zx2 (by omega) g0 g1 g2 g3 ) s x1 x2 hI_s hF_s h_x2l h_x2u (Nat.le_refl _)
set_option maxHeartbeats 1000000 in
theorem ok_r_openB (s0 : RS)  (s : RS) (hI_s : InvR s) (hF_s : FrR [45, 144] s0 s)  : Ok (r_open  s) (Q_r_open s0) := by
  unfold r_open
  refine ok_bindP (ok_r_copies _  hI_s) (fun s1 hc_1 => ?_)
  have hI_s1 : InvR s1 := hc_1.1
  have hFc_s1 : FrR [45, 144] s s1 := hc_1.2
  have hF_s1 : FrR [45, 144] s0 s1 := hF_s.trans hFc_s1 (by decide)
  have l_0 : (0 : Int32).toInt = 0 := by decide
  exact okL_r_open_8 s0  fu _ _ _ (by unfold fu; omega) hI_s1 hF_s1 (by decide) (by decide) 
theorem ok_r_open (s : RS) (hI_s : InvR s) : Ok (r_open s) (Q_r_open s) := ok_r_openB s s hI_s FrR.rfl
noncomputable abbrev Q_r_then (s0 : RS) (y : Int32 × RS) : Prop := InvR y.2 ∧ FrR [42, 45, 140, 141, 144, 147] s0 y.2 ∧ -2147483648 ≤ y.1.toInt ∧ y.1.toInt ≤ 2147483647
set_option maxHeartbeats 1000000 in
theorem ok_r_thenB (s0 : RS) (hB : Big s0)  (s : RS) (x1 : Int32) (x2 : Int32) (x3 : Int32) (hI_s : InvR s) (hF_s : FrR [42, 45, 140, 141, 144, 147] s0 s)  : Ok (r_then  s x1 x2 x3) (Q_r_then s0) := by
  unfold r_then
  refine ok_bindI (ok_r_isWave _ _ hI_s) (fun r2 s1 hc_1 => ?_)
  have hI_s1 : InvR s1 := hc_1.1
  have hFc_s1 : FrR [] s s1 := hc_1.2.1
  have hF_s1 : FrR [42, 45, 140, 141, 144, 147] s0 s1 := hF_s.trans hFc_s1 (by decide)
  have a_2 : wv s = wv s0 := wv_fr hF_s (by decide) (by decide)
  have hl_r2 : 0 ≤ r2.toInt := hc_1.2.2.1
  have hu_r2 : r2.toInt ≤ 1 := hc_1.2.2.2.1
  have hx0_r2 : (¬ r2.toInt = 0 → 0 ≤ (x1).toInt ∧ (x1).toInt < wv s ∧ wv s ≤ 5) := hc_1.2.2.2.2
  refine ok_ite (fun c_3 => ?_) (fun c_3 => ?_)
  · have c_3 := tn_eq (a := (r2).toInt) (b := 0) rfl (by decide) c_3
    exact ok_some ⟨hI_s1, hF_s1, (ti_rng _).1, (ti_rng _).2⟩
  · have c_3 := tn_ne (a := (r2).toInt) (b := 0) rfl (by decide) c_3
    refine ok_bindP (ok_r_isLong _ ) (fun r4 hc_4 => ?_)
    have hl_r4 : 0 ≤ r4.toInt := hc_4.1
    have hu_r4 : r4.toInt ≤ 1 := hc_4.2.1
    have hx0_r4 : (¬ r4.toInt = 0 → 0 ≤ (x2).toInt ∧ (x2).toInt ≤ 40) := hc_4.2.2
    refine ok_ite (fun c_5 => ?_) (fun c_5 => ?_)
    · have c_5 := tn_eq (a := (r4).toInt) (b := 0) rfl (by decide) c_5
      exact ok_some ⟨hI_s1, hF_s1, (ti_rng _).1, (ti_rng _).2⟩
    · have c_5 := tn_ne (a := (r4).toInt) (b := 0) rfl (by decide) c_5
      refine ok_bindP (ok_r_in _ _ _ (by decide) (by decide) (by decide) (by decide)) (fun r6 hc_6 => ?_)
      have l_0 : (0 : Int32).toInt = 0 := by decide
      have l_2 : (2 : Int32).toInt = 2 := by decide
      have hl_r6 : 0 ≤ r6.toInt := hc_6.1
      have hu_r6 : r6.toInt ≤ 1 := hc_6.2.1
      have hx0_r6 : (¬ r6.toInt = 0 → (0 : Int32).toInt ≤ (x3).toInt ∧ (x3).toInt ≤ (2 : Int32).toInt) := hc_6.2.2
      refine ok_ite (fun c_7 => ?_) (fun c_7 => ?_)
      · have c_7 := tn_eq (a := (r6).toInt) (b := 0) rfl (by decide) c_7
        exact ok_some ⟨hI_s1, hF_s1, (ti_rng _).1, (ti_rng _).2⟩
      · have c_7 := tn_ne (a := (r6).toInt) (b := 0) rfl (by decide) c_7
        refine ok_bindP (ok_r_copies _  hI_s1) (fun s8 hc_8 => ?_)
        have hI_s8 : InvR s8 := hc_8.1
        have hFc_s8 : FrR [45, 144] s1 s8 := hc_8.2
        have hF_s8 : FrR [42, 45, 140, 141, 144, 147] s0 s8 := hF_s1.trans hFc_s8 (by decide)
        refine ok_bindP (ok_r_yearsGo _ _ hI_s8 (hB.fr hF_s8 (by decide)) (by omega) (by omega)) (fun s9 hc_9 => ?_)
        have hI_s9 : InvR s9 := hc_9.1
        have hFc_s9 : FrR [42, 140, 141, 144, 147] s8 s9 := hc_9.2
        have hF_s9 : FrR [42, 45, 140, 141, 144, 147] s0 s9 := hF_s8.trans hFc_s9 (by decide)
        refine ok_ite (fun c_10 => ?_) (fun c_10 => ?_)
        · have c_10 := tn_eq (a := (x3).toInt) (b := 0) rfl (by decide) c_10
          refine ok_bindI (ok_r_mayAt _ _ hI_s9 (by omega) (by omega)) (fun r16 s15 hc_11 => ?_)
          have hI_s15 : InvR s15 := hc_11.1
          have hFc_s15 : FrR [] s9 s15 := hc_11.2.1
          have hF_s15 : FrR [42, 45, 140, 141, 144, 147] s0 s15 := hF_s9.trans hFc_s15 (by decide)
          exact ok_some ⟨hI_s15, hF_s15, (ti_rng _).1, (ti_rng _).2⟩
        · have c_10 := tn_ne (a := (x3).toInt) (b := 0) rfl (by decide) c_10
          refine ok_ite (fun c_12 => ?_) (fun c_12 => ?_)
          · have c_12 := tn_eq (a := (x3).toInt) (b := 1) rfl (by decide) c_12
            have a_13 : ((10 + x1)).toInt = 10 + (x1).toInt := tn_add (by decide) rfl (by omega) (by omega)
            refine ok_grd (vpb_ok (by omega) (by omega)) ?_
            exact ok_some ⟨hI_s9, hF_s9, (ti_rng _).1, (ti_rng _).2⟩
          · have c_12 := tn_ne (a := (x3).toInt) (b := 1) rfl (by decide) c_12
            have a_15 : wv s9 = wv s0 := wv_fr hF_s9 (by decide) (by decide)
            refine ok_bindI (ok_r_thereAt _ _ hI_s9 (hB.fr hF_s9 (by decide)) (by omega) (by omega) (by omega)) (fun r13 s12 hc_14 => ?_)
            have hI_s12 : InvR s12 := hc_14.1
            have hFc_s12 : FrR [] s9 s12 := hc_14.2.1
            have hF_s12 : FrR [42, 45, 140, 141, 144, 147] s0 s12 := hF_s9.trans hFc_s12 (by decide)
            have hl_r13 : 0 ≤ r13.toInt := hc_14.2.2.1
            have hu_r13 : r13.toInt ≤ 5 := hc_14.2.2.2
            exact ok_some ⟨hI_s12, hF_s12, (ti_rng _).1, (ti_rng _).2⟩
theorem ok_r_then (s : RS) (x1 : Int32) (x2 : Int32) (x3 : Int32) (hI_s : InvR s) (hB : Big s) : Ok (r_then s x1 x2 x3) (Q_r_then s) := ok_r_thenB s hB s x1 x2 x3 hI_s FrR.rfl
noncomputable abbrev Q_r_next (s0 : RS) (y : Int32 × RS) : Prop := InvR y.2 ∧ FrR [42, 45, 140, 141, 144, 147] s0 y.2 ∧ -2 ≤ y.1.toInt ∧ y.1.toInt ≤ 40
set_option maxHeartbeats 1000000 in
theorem ok_r_next_16 (s0 : RS) (hB : Big s0) (k16 : RS → Int32 → Int32 → Option (Int32 × RS)) (M16 : Nat) (hk16 : ∀ (s : RS) (x1 : Int32) (x2 : Int32), InvR s → FrR [42, 45, 140, 141, 144, 147] s0 s → 0 ≤ x1.toInt → x1.toInt ≤ 4 → 1 ≤ x2.toInt → x2.toInt ≤ 41 → (41 - x2.toInt).toNat < M16 → Ok (k16 s x1 x2) (Q_r_next s0)) (s : RS) (x1 : Int32) (x2 : Int32) (hI_s : InvR s) (hF_s : FrR [42, 45, 140, 141, 144, 147] s0 s) (h_x1l : 0 ≤ x1.toInt) (h_x1u : x1.toInt ≤ 4) (h_x2l : 1 ≤ x2.toInt) (h_x2u : x2.toInt ≤ 41) (hM16 : (41 - x2.toInt).toNat ≤ M16) : Ok (r_next_16 k16 s x1 x2) (Q_r_next s0) := by
  unfold r_next_16
  refine ok_ite (fun c_1 => ?_) (fun c_1 => ?_)
  · have c_1 := tn_lt (a := 40) (b := (x2).toInt) (by decide) rfl c_1
    exact ok_some ⟨hI_s, hF_s, by show -2 ≤ ((-2) : Int32).toInt; decide, by show ((-2) : Int32).toInt ≤ 40; decide⟩
  · have c_1 := tn_nlt (a := 40) (b := (x2).toInt) (by decide) rfl c_1
    refine ok_bindP (ok_r_yearGoes _  hI_s (hB.fr hF_s (by decide))) (fun s2 hc_2 => ?_)
    have hI_s2 : InvR s2 := hc_2.1
    have hFc_s2 : FrR [42, 140, 141, 144, 147] s s2 := hc_2.2
    have hF_s2 : FrR [42, 45, 140, 141, 144, 147] s0 s2 := hF_s.trans hFc_s2 (by decide)
    have a_3 : ((10 + x1)).toInt = 10 + (x1).toInt := tn_add (by decide) rfl (by omega) (by omega)
    refine ok_grd (vpb_ok (by omega) (by omega)) ?_
    refine ok_grd (vpb_ok (by omega) (by omega)) ?_
    refine ok_ite (fun c_4 => ?_) (fun c_4 => ?_)
    · have c_4 := tn_le (a := ((s2.f 44 (Int32.toNatClampNeg (10 + x1)))).toInt) (b := ((s2.f 43 (Int32.toNatClampNeg (10 + x1)))).toInt) rfl rfl c_4
      have a_5 : ((x2 + 1)).toInt = (x2).toInt + 1 := tn_add rfl (by decide) (by omega) (by omega)
      exact hk16 _ _ _ hI_s2 hF_s2 (by omega) (by omega) (by omega) (by omega) (by omega)
    · have c_4 := tn_nle (a := ((s2.f 44 (Int32.toNatClampNeg (10 + x1)))).toInt) (b := ((s2.f 43 (Int32.toNatClampNeg (10 + x1)))).toInt) rfl rfl c_4
      exact ok_some ⟨hI_s2, hF_s2, by show -2 ≤ (x2).toInt; omega, by show (x2).toInt ≤ 40; omega⟩
theorem okL_r_next_16 (s0 : RS) (hB : Big s0)  : ∀ (n : Nat) (s : RS) (x1 : Int32) (x2 : Int32), (41 - x2.toInt).toNat < n → InvR s → FrR [42, 45, 140, 141, 144, 147] s0 s → 0 ≤ x1.toInt → x1.toInt ≤ 4 → 1 ≤ x2.toInt → x2.toInt ≤ 41 → Ok (r_next_16L  n s x1 x2) (Q_r_next s0) := by
  intro n
  induction n with
  | zero => intro s x1 x2 hn; omega
  | succ n ih =>
    intro s x1 x2 hn hI_s hF_s h_x1l h_x1u h_x2l h_x2u 
    exact ok_r_next_16 s0 hB (r_next_16L  n) ((41 - x2.toInt).toNat) (fun zs zx1 zx2 g0 g1 g2 g3 g4 g5  hm => ih zs zx1 zx2 (by omega) g0 g1 g2 g3 g4 g5 ) s x1 x2 hI_s hF_s h_x1l h_x1u h_x2l h_x2u (Nat.le_refl _)
set_option maxHeartbeats 1000000 in
theorem ok_r_nextB (s0 : RS) (hB : Big s0)  (s : RS) (x1 : Int32) (hI_s : InvR s) (hF_s : FrR [42, 45, 140, 141, 144, 147] s0 s)  : Ok (r_next  s x1) (Q_r_next s0) := by
  unfold r_next
  refine ok_bindI (ok_r_isWave _ _ hI_s) (fun r2 s1 hc_1 => ?_)
  have hI_s1 : InvR s1 := hc_1.1
  have hFc_s1 : FrR [] s s1 := hc_1.2.1
  have hF_s1 : FrR [42, 45, 140, 141, 144, 147] s0 s1 := hF_s.trans hFc_s1 (by decide)
  have a_2 : wv s = wv s0 := wv_fr hF_s (by decide) (by decide)
  have hl_r2 : 0 ≤ r2.toInt := hc_1.2.2.1
  have hu_r2 : r2.toInt ≤ 1 := hc_1.2.2.2.1
  have hx0_r2 : (¬ r2.toInt = 0 → 0 ≤ (x1).toInt ∧ (x1).toInt < wv s ∧ wv s ≤ 5) := hc_1.2.2.2.2
  refine ok_ite (fun c_3 => ?_) (fun c_3 => ?_)
  · have c_3 := tn_eq (a := (r2).toInt) (b := 0) rfl (by decide) c_3
    exact ok_some ⟨hI_s1, hF_s1, by show -2 ≤ ((-1) : Int32).toInt; decide, by show ((-1) : Int32).toInt ≤ 40; decide⟩
  · have c_3 := tn_ne (a := (r2).toInt) (b := 0) rfl (by decide) c_3
    refine ok_bindP (ok_r_copies _  hI_s1) (fun s4 hc_4 => ?_)
    have hI_s4 : InvR s4 := hc_4.1
    have hFc_s4 : FrR [45, 144] s1 s4 := hc_4.2
    have hF_s4 : FrR [42, 45, 140, 141, 144, 147] s0 s4 := hF_s1.trans hFc_s4 (by decide)
    have l_1 : (1 : Int32).toInt = 1 := by decide
    exact okL_r_next_16 s0 hB  fu _ _ _ (by unfold fu; omega) hI_s4 hF_s4 (by omega) (by omega) (by decide) (by decide) 
theorem ok_r_next (s : RS) (x1 : Int32) (hI_s : InvR s) (hB : Big s) : Ok (r_next s x1) (Q_r_next s) := ok_r_nextB s hB s x1 hI_s FrR.rfl
noncomputable abbrev Q_r_year (s0 : RS) (y : Int32 × RS) : Prop := InvR y.2 ∧ FrR [45, 144] s0 y.2 ∧ -2147483648 ≤ y.1.toInt ∧ y.1.toInt ≤ 2147483647
set_option maxHeartbeats 1000000 in
theorem ok_r_year_46 (s0 : RS) (hB : Big s0) (k29 : RS → Int32 → Int32 → Int32 → Int32 → Option (Int32 × RS)) (M29 : Nat) (hk29 : ∀ (s : RS) (x1 : Int32) (x2 : Int32) (x3 : Int32) (x4 : Int32), InvR s → FrR [45, 144] s0 s → 0 ≤ x1.toInt → x1.toInt ≤ 7775 → 1 ≤ x2.toInt → x2.toInt ≤ 20 → 0 ≤ x4.toInt → x4.toInt ≤ 20 → (20 - x4.toInt).toNat < M29 → Ok (k29 s x1 x2 x3 x4) (Q_r_year s0)) (s : RS) (x1 : Int32) (x2 : Int32) (x3 : Int32) (x4 : Int32) (hI_s : InvR s) (hF_s : FrR [45, 144] s0 s) (h_x1l : 0 ≤ x1.toInt) (h_x1u : x1.toInt ≤ 7775) (h_x2l : 1 ≤ x2.toInt) (h_x2u : x2.toInt ≤ 20) (h_x4l : 0 ≤ x4.toInt) (h_x4u : x4.toInt ≤ 19) (hM29 : (20 - x4.toInt).toNat ≤ M29) : Ok (r_year_46 k29 s x1 x2 x3 x4) (Q_r_year s0) := by
  unfold r_year_46
  refine ok_let (fun s1 hs1 => ?_)
  have hI_s1 : InvR s1 := by rw [← hs1]; exact hI_s.svF (k := 45) rfl rfl
  have hF_s1 : FrR [45, 144] s0 s1 := by rw [← hs1]; exact hF_s.sv (k := 45) (by decide)
  have a_1 : ((x4 + 1)).toInt = (x4).toInt + 1 := tn_add rfl (by decide) (by omega) (by omega)
  exact hk29 _ _ _ _ _ hI_s1 hF_s1 (by omega) (by omega) (by omega) (by omega) (by omega) (by omega) (by omega)
set_option maxHeartbeats 1000000 in
theorem ok_r_year_29 (s0 : RS) (hB : Big s0) (k29 : RS → Int32 → Int32 → Int32 → Int32 → Option (Int32 × RS)) (M29 : Nat) (hk29 : ∀ (s : RS) (x1 : Int32) (x2 : Int32) (x3 : Int32) (x4 : Int32), InvR s → FrR [45, 144] s0 s → 0 ≤ x1.toInt → x1.toInt ≤ 7775 → 1 ≤ x2.toInt → x2.toInt ≤ 20 → 0 ≤ x4.toInt → x4.toInt ≤ 20 → (20 - x4.toInt).toNat < M29 → Ok (k29 s x1 x2 x3 x4) (Q_r_year s0)) (s : RS) (x1 : Int32) (x2 : Int32) (x3 : Int32) (x4 : Int32) (hI_s : InvR s) (hF_s : FrR [45, 144] s0 s) (h_x1l : 0 ≤ x1.toInt) (h_x1u : x1.toInt ≤ 7775) (h_x2l : 1 ≤ x2.toInt) (h_x2u : x2.toInt ≤ 20) (h_x4l : 0 ≤ x4.toInt) (h_x4u : x4.toInt ≤ 20) (hM29 : (20 - x4.toInt).toNat ≤ M29) : Ok (r_year_29 k29 s x1 x2 x3 x4) (Q_r_year s0) := by
  unfold r_year_29
  refine ok_ite (fun c_1 => ?_) (fun c_1 => ?_)
  · have c_1 := tn_le (a := (x2).toInt) (b := (x4).toInt) rfl rfl c_1
    exact ok_some ⟨hI_s, hF_s, (ti_rng _).1, (ti_rng _).2⟩
  · have c_1 := tn_nle (a := (x2).toInt) (b := (x4).toInt) rfl rfl c_1
    refine ok_bindI (ok_r_thereNumber _  hI_s (hB.fr hF_s (by decide))) (fun r3 s2 hc_2 => ?_)
    have hI_s2 : InvR s2 := hc_2.1
    have hFc_s2 : FrR [] s s2 := hc_2.2.1
    have hF_s2 : FrR [45, 144] s0 s2 := hF_s.trans hFc_s2 (by decide)
    have hl_r3 : 0 ≤ r3.toInt := hc_2.2.2.1
    have hu_r3 : r3.toInt ≤ 194400 := hc_2.2.2.2
    refine ok_ite (fun c_3 => ?_) (fun c_3 => ?_)
    · have c_3 := tn_eq (a := (r3).toInt) (b := (x1).toInt) rfl rfl c_3
      exact ok_r_year_46 s0 hB k29 M29 hk29 _ _ _ _ _ hI_s2 hF_s2 (by omega) (by omega) (by omega) (by omega) (by omega) (by omega) (by omega)
    · have c_3 := tn_ne (a := (r3).toInt) (b := (x1).toInt) rfl rfl c_3
      exact ok_r_year_46 s0 hB k29 M29 hk29 _ _ _ _ _ hI_s2 hF_s2 (by omega) (by omega) (by omega) (by omega) (by omega) (by omega) (by omega)
theorem okL_r_year_29 (s0 : RS) (hB : Big s0)  : ∀ (n : Nat) (s : RS) (x1 : Int32) (x2 : Int32) (x3 : Int32) (x4 : Int32), (20 - x4.toInt).toNat < n → InvR s → FrR [45, 144] s0 s → 0 ≤ x1.toInt → x1.toInt ≤ 7775 → 1 ≤ x2.toInt → x2.toInt ≤ 20 → 0 ≤ x4.toInt → x4.toInt ≤ 20 → Ok (r_year_29L  n s x1 x2 x3 x4) (Q_r_year s0) := by
  intro n
  induction n with
  | zero => intro s x1 x2 x3 x4 hn; omega
  | succ n ih =>
    intro s x1 x2 x3 x4 hn hI_s hF_s h_x1l h_x1u h_x2l h_x2u h_x4l h_x4u 
    exact ok_r_year_29 s0 hB (r_year_29L  n) ((20 - x4.toInt).toNat) (fun zs zx1 zx2 zx3 zx4 g0 g1 g2 g3 g4 g5 g6 g7  hm => ih zs zx1 zx2 zx3 zx4 (by omega) g0 g1 g2 g3 g4 g5 g6 g7 ) s x1 x2 x3 x4 hI_s hF_s h_x1l h_x1u h_x2l h_x2u h_x4l h_x4u (Nat.le_refl _)
set_option maxHeartbeats 1000000 in
theorem ok_r_yearB (s0 : RS) (hB : Big s0)  (s : RS) (x1 : Int32) (x2 : Int32) (hI_s : InvR s) (hF_s : FrR [45, 144] s0 s)  : Ok (r_year  s x1 x2) (Q_r_year s0) := by
  unfold r_year
  refine ok_bindI (ok_r_isGuess _ _ hI_s (hB.fr hF_s (by decide))) (fun r2 s1 hc_1 => ?_)
  have hI_s1 : InvR s1 := hc_1.1
  have hFc_s1 : FrR [] s s1 := hc_1.2.1
  have hF_s1 : FrR [45, 144] s0 s1 := hF_s.trans hFc_s1 (by decide)
  have hl_r2 : 0 ≤ r2.toInt := hc_1.2.2.1
  have hu_r2 : r2.toInt ≤ 1 := hc_1.2.2.2.1
  have hx0_r2 : (¬ r2.toInt = 0 → 0 ≤ (x1).toInt ∧ (x1).toInt ≤ 7775) := hc_1.2.2.2.2
  refine ok_ite (fun c_2 => ?_) (fun c_2 => ?_)
  · have c_2 := tn_eq (a := (r2).toInt) (b := 0) rfl (by decide) c_2
    exact ok_some ⟨hI_s1, hF_s1, (ti_rng _).1, (ti_rng _).2⟩
  · have c_2 := tn_ne (a := (r2).toInt) (b := 0) rfl (by decide) c_2
    refine ok_bindP (ok_r_in _ _ _ (by decide) (by decide) (by decide) (by decide)) (fun r4 hc_3 => ?_)
    have l_1 : (1 : Int32).toInt = 1 := by decide
    have l_20 : (20 : Int32).toInt = 20 := by decide
    have hl_r4 : 0 ≤ r4.toInt := hc_3.1
    have hu_r4 : r4.toInt ≤ 1 := hc_3.2.1
    have hx0_r4 : (¬ r4.toInt = 0 → (1 : Int32).toInt ≤ (x2).toInt ∧ (x2).toInt ≤ (20 : Int32).toInt) := hc_3.2.2
    refine ok_ite (fun c_4 => ?_) (fun c_4 => ?_)
    · have c_4 := tn_eq (a := (r4).toInt) (b := 0) rfl (by decide) c_4
      exact ok_some ⟨hI_s1, hF_s1, (ti_rng _).1, (ti_rng _).2⟩
    · have c_4 := tn_ne (a := (r4).toInt) (b := 0) rfl (by decide) c_4
      refine ok_bindP (ok_r_copies _  hI_s1) (fun s6 hc_5 => ?_)
      have hI_s6 : InvR s6 := hc_5.1
      have hFc_s6 : FrR [45, 144] s1 s6 := hc_5.2
      have hF_s6 : FrR [45, 144] s0 s6 := hF_s1.trans hFc_s6 (by decide)
      have l_0 : (0 : Int32).toInt = 0 := by decide
      exact okL_r_year_29 s0 hB  fu _ _ _ _ _ (by unfold fu; omega) hI_s6 hF_s6 (by omega) (by omega) (by omega) (by omega) (by decide) (by decide) 
theorem ok_r_year (s : RS) (x1 : Int32) (x2 : Int32) (hI_s : InvR s) (hB : Big s) : Ok (r_year s x1 x2) (Q_r_year s) := ok_r_yearB s hB s x1 x2 hI_s FrR.rfl
noncomputable abbrev Q_r_drawn (s0 : RS) (y : Int32 × RS) : Prop := InvR y.2 ∧ FrR [45, 144] s0 y.2 ∧ -1 ≤ y.1.toInt ∧ y.1.toInt ≤ 6
set_option maxHeartbeats 1000000 in
theorem ok_r_drawn_29 (s0 : RS) (hB : Big s0) (k29 : RS → Int32 → Int32 → Int32 → Int32 → Option (Int32 × RS)) (M29 : Nat) (hk29 : ∀ (s : RS) (x1 : Int32) (x2 : Int32) (x3 : Int32) (x4 : Int32), InvR s → FrR [45, 144] s0 s → 0 ≤ x1.toInt → x1.toInt ≤ 4 → 1 ≤ x2.toInt → x2.toInt ≤ 20 → 0 ≤ x4.toInt → x4.toInt ≤ 20 → (x1.toInt < wv s0) → (20 - x4.toInt).toNat < M29 → Ok (k29 s x1 x2 x3 x4) (Q_r_drawn s0)) (s : RS) (x1 : Int32) (x2 : Int32) (x3 : Int32) (x4 : Int32) (hI_s : InvR s) (hF_s : FrR [45, 144] s0 s) (h_x1l : 0 ≤ x1.toInt) (h_x1u : x1.toInt ≤ 4) (h_x2l : 1 ≤ x2.toInt) (h_x2u : x2.toInt ≤ 20) (h_x4l : 0 ≤ x4.toInt) (h_x4u : x4.toInt ≤ 20) (hx0 : (x1.toInt < wv s0)) (hM29 : (20 - x4.toInt).toNat ≤ M29) : Ok (r_drawn_29 k29 s x1 x2 x3 x4) (Q_r_drawn s0) := by
  unfold r_drawn_29
  refine ok_ite (fun c_1 => ?_) (fun c_1 => ?_)
  · have c_1 := tn_le (a := (x2).toInt) (b := (x4).toInt) rfl rfl c_1
    refine ok_bindP (ok_r_bits _ ) (fun r2 hc_2 => ?_)
    have hl_r2 : 0 ≤ r2.toInt := hc_2.1
    have hu_r2 : r2.toInt ≤ 6 := hc_2.2
    exact ok_some ⟨hI_s, hF_s, by show -1 ≤ (r2).toInt; omega, by show (r2).toInt ≤ 6; omega⟩
  · have c_1 := tn_nle (a := (x2).toInt) (b := (x4).toInt) rfl rfl c_1
    have a_4 : wv s = wv s0 := wv_fr hF_s (by decide) (by decide)
    refine ok_bindI (ok_r_thereAt _ _ hI_s (hB.fr hF_s (by decide)) (by omega) (by omega) (by omega)) (fun r4 s3 hc_3 => ?_)
    have hI_s3 : InvR s3 := hc_3.1
    have hFc_s3 : FrR [] s s3 := hc_3.2.1
    have hF_s3 : FrR [45, 144] s0 s3 := hF_s.trans hFc_s3 (by decide)
    have hl_r4 : 0 ≤ r4.toInt := hc_3.2.2.1
    have hu_r4 : r4.toInt ≤ 5 := hc_3.2.2.2
    refine ok_let (fun s5 hs5 => ?_)
    have a_5 : (s3.v 45).toInt = (s.v 45).toInt := congrArg Int32.toInt (hFc_s3.1 45 (by decide))
    have hI_s5 : InvR s5 := by rw [← hs5]; exact hI_s3.svF (k := 45) rfl rfl
    have hF_s5 : FrR [45, 144] s0 s5 := by rw [← hs5]; exact hF_s3.sv (k := 45) (by decide)
    have a_6 : ((x4 + 1)).toInt = (x4).toInt + 1 := tn_add rfl (by decide) (by omega) (by omega)
    exact hk29 _ _ _ _ _ hI_s5 hF_s5 (by first | (clear hx0; omega) | omega) (by first | (clear hx0; omega) | omega) (by first | (clear hx0; omega) | omega) (by first | (clear hx0; omega) | omega) (by first | (clear hx0; omega) | omega) (by first | (clear hx0; omega) | omega) (by omega) (by first | (clear hx0; omega) | omega)
theorem okL_r_drawn_29 (s0 : RS) (hB : Big s0)  : ∀ (n : Nat) (s : RS) (x1 : Int32) (x2 : Int32) (x3 : Int32) (x4 : Int32), (20 - x4.toInt).toNat < n → InvR s → FrR [45, 144] s0 s → 0 ≤ x1.toInt → x1.toInt ≤ 4 → 1 ≤ x2.toInt → x2.toInt ≤ 20 → 0 ≤ x4.toInt → x4.toInt ≤ 20 → (x1.toInt < wv s0) → Ok (r_drawn_29L  n s x1 x2 x3 x4) (Q_r_drawn s0) := by
  intro n
  induction n with
  | zero => intro s x1 x2 x3 x4 hn; omega
  | succ n ih =>
    intro s x1 x2 x3 x4 hn hI_s hF_s h_x1l h_x1u h_x2l h_x2u h_x4l h_x4u hx0 
    exact ok_r_drawn_29 s0 hB (r_drawn_29L  n) ((20 - x4.toInt).toNat) (fun zs zx1 zx2 zx3 zx4 g0 g1 g2 g3 g4 g5 g6 g7 g8  hm => ih zs zx1 zx2 zx3 zx4 (by omega) g0 g1 g2 g3 g4 g5 g6 g7 g8 ) s x1 x2 x3 x4 hI_s hF_s h_x1l h_x1u h_x2l h_x2u h_x4l h_x4u hx0 (Nat.le_refl _)
set_option maxHeartbeats 1000000 in
theorem ok_r_drawnB (s0 : RS) (hB : Big s0)  (s : RS) (x1 : Int32) (x2 : Int32) (hI_s : InvR s) (hF_s : FrR [45, 144] s0 s)  : Ok (r_drawn  s x1 x2) (Q_r_drawn s0) := by
  unfold r_drawn
  refine ok_bindI (ok_r_isWave _ _ hI_s) (fun r2 s1 hc_1 => ?_)
  have hI_s1 : InvR s1 := hc_1.1
  have hFc_s1 : FrR [] s s1 := hc_1.2.1
  have hF_s1 : FrR [45, 144] s0 s1 := hF_s.trans hFc_s1 (by decide)
  have a_2 : wv s = wv s0 := wv_fr hF_s (by decide) (by decide)
  have hl_r2 : 0 ≤ r2.toInt := hc_1.2.2.1
  have hu_r2 : r2.toInt ≤ 1 := hc_1.2.2.2.1
  have hx0_r2 : (¬ r2.toInt = 0 → 0 ≤ (x1).toInt ∧ (x1).toInt < wv s ∧ wv s ≤ 5) := hc_1.2.2.2.2
  refine ok_ite (fun c_3 => ?_) (fun c_3 => ?_)
  · have c_3 := tn_eq (a := (r2).toInt) (b := 0) rfl (by decide) c_3
    exact ok_some ⟨hI_s1, hF_s1, by show -1 ≤ ((-1) : Int32).toInt; decide, by show ((-1) : Int32).toInt ≤ 6; decide⟩
  · have c_3 := tn_ne (a := (r2).toInt) (b := 0) rfl (by decide) c_3
    refine ok_bindP (ok_r_in _ _ _ (by decide) (by decide) (by decide) (by decide)) (fun r4 hc_4 => ?_)
    have l_1 : (1 : Int32).toInt = 1 := by decide
    have l_20 : (20 : Int32).toInt = 20 := by decide
    have hl_r4 : 0 ≤ r4.toInt := hc_4.1
    have hu_r4 : r4.toInt ≤ 1 := hc_4.2.1
    have hx0_r4 : (¬ r4.toInt = 0 → (1 : Int32).toInt ≤ (x2).toInt ∧ (x2).toInt ≤ (20 : Int32).toInt) := hc_4.2.2
    refine ok_ite (fun c_5 => ?_) (fun c_5 => ?_)
    · have c_5 := tn_eq (a := (r4).toInt) (b := 0) rfl (by decide) c_5
      exact ok_some ⟨hI_s1, hF_s1, by show -1 ≤ ((-1) : Int32).toInt; decide, by show ((-1) : Int32).toInt ≤ 6; decide⟩
    · have c_5 := tn_ne (a := (r4).toInt) (b := 0) rfl (by decide) c_5
      refine ok_bindP (ok_r_copies _  hI_s1) (fun s6 hc_6 => ?_)
      have hI_s6 : InvR s6 := hc_6.1
      have hFc_s6 : FrR [45, 144] s1 s6 := hc_6.2
      have hF_s6 : FrR [45, 144] s0 s6 := hF_s1.trans hFc_s6 (by decide)
      have l_0 : (0 : Int32).toInt = 0 := by decide
      exact okL_r_drawn_29 s0 hB  fu _ _ _ _ _ (by unfold fu; omega) hI_s6 hF_s6 (by omega) (by omega) (by omega) (by omega) (by decide) (by decide) (by omega) 
theorem ok_r_drawn (s : RS) (x1 : Int32) (x2 : Int32) (hI_s : InvR s) (hB : Big s) : Ok (r_drawn s x1 x2) (Q_r_drawn s) := ok_r_drawnB s hB s x1 x2 hI_s FrR.rfl
noncomputable abbrev Q_r_tell (s0 : RS) (y : Int32 × RS) : Prop := InvR y.2 ∧ FrR [51, 152, 153, 154] s0 y.2 ∧ -1 ≤ y.1.toInt ∧ y.1.toInt ≤ 19
set_option maxHeartbeats 1000000 in
theorem ok_r_tellB (s0 : RS)  (s : RS) (x1 : Int32) (x2 : Int32) (x3 : Int32) (hI_s : InvR s) (hF_s : FrR [51, 152, 153, 154] s0 s)  : Ok (r_tell  s x1 x2 x3) (Q_r_tell s0) := by
  unfold r_tell
  have a_1 : 0 ≤ (s.v 51).toInt ∧ (s.v 51).toInt ≤ 20 := hI_s.1 51
  refine ok_ite (fun c_2 => ?_) (fun c_2 => ?_)
  · have c_2 := tn_eq (a := ((s.v 51)).toInt) (b := 20) rfl (by decide) c_2
    exact ok_some ⟨hI_s, hF_s, by show -1 ≤ ((-1) : Int32).toInt; decide, by show ((-1) : Int32).toInt ≤ 19; decide⟩
  · have c_2 := tn_ne (a := ((s.v 51)).toInt) (b := 20) rfl (by decide) c_2
    refine ok_bindI (ok_r_isWave _ _ hI_s) (fun r3 s2 hc_3 => ?_)
    have hI_s2 : InvR s2 := hc_3.1
    have hFc_s2 : FrR [] s s2 := hc_3.2.1
    have hF_s2 : FrR [51, 152, 153, 154] s0 s2 := hF_s.trans hFc_s2 (by decide)
    have a_4 : wv s = wv s0 := wv_fr hF_s (by decide) (by decide)
    have hl_r3 : 0 ≤ r3.toInt := hc_3.2.2.1
    have hu_r3 : r3.toInt ≤ 1 := hc_3.2.2.2.1
    have hx0_r3 : (¬ r3.toInt = 0 → 0 ≤ (x1).toInt ∧ (x1).toInt < wv s ∧ wv s ≤ 5) := hc_3.2.2.2.2
    refine ok_ite (fun c_5 => ?_) (fun c_5 => ?_)
    · have c_5 := tn_eq (a := (r3).toInt) (b := 0) rfl (by decide) c_5
      exact ok_some ⟨hI_s2, hF_s2, by show -1 ≤ ((-1) : Int32).toInt; decide, by show ((-1) : Int32).toInt ≤ 19; decide⟩
    · have c_5 := tn_ne (a := (r3).toInt) (b := 0) rfl (by decide) c_5
      refine ok_bindP (ok_r_in _ _ _ (by decide) (by decide) (by decide) (by decide)) (fun r5 hc_6 => ?_)
      have l_1 : (1 : Int32).toInt = 1 := by decide
      have l_63 : (63 : Int32).toInt = 63 := by decide
      have hl_r5 : 0 ≤ r5.toInt := hc_6.1
      have hu_r5 : r5.toInt ≤ 1 := hc_6.2.1
      have hx0_r5 : (¬ r5.toInt = 0 → (1 : Int32).toInt ≤ (x2).toInt ∧ (x2).toInt ≤ (63 : Int32).toInt) := hc_6.2.2
      refine ok_ite (fun c_7 => ?_) (fun c_7 => ?_)
      · have c_7 := tn_eq (a := (r5).toInt) (b := 0) rfl (by decide) c_7
        exact ok_some ⟨hI_s2, hF_s2, by show -1 ≤ ((-1) : Int32).toInt; decide, by show ((-1) : Int32).toInt ≤ 19; decide⟩
      · have c_7 := tn_ne (a := (r5).toInt) (b := 0) rfl (by decide) c_7
        have a_8 : (s2.v 51).toInt = (s.v 51).toInt := congrArg Int32.toInt (hFc_s2.1 51 (by decide))
        refine ok_grd (vpb_ok (by omega) (by omega)) ?_
        refine ok_let (fun s8 hs8 => ?_)
        have hI_s8 : InvR s8 := by rw [← hs8]; exact hI_s2.sf (k := 52) (show (0 : Int) ≤ (x1).toInt by omega) (show (x1).toInt ≤ (4 : Int) by omega)
        have hF_s8 : FrR [51, 152, 153, 154] s0 s8 := by rw [← hs8]; exact hF_s2.sf (k := 52) (by decide)
        have a_9 : (s8.v 51).toInt = (s2.v 51).toInt := congrArg Int32.toInt (show s8.v 51 = s2.v 51 by rw [← hs8]; rfl)
        refine ok_grd (vpb_ok (by omega) (by omega)) ?_
        refine ok_let (fun s11 hs11 => ?_)
        have hI_s11 : InvR s11 := by rw [← hs11]; exact hI_s8.sfF (k := 53) rfl rfl
        have hF_s11 : FrR [51, 152, 153, 154] s0 s11 := by rw [← hs11]; exact hF_s8.sf (k := 53) (by decide)
        have a_10 : (s11.v 51).toInt = (s8.v 51).toInt := congrArg Int32.toInt (show s11.v 51 = s8.v 51 by rw [← hs11]; rfl)
        refine ok_grd (vpb_ok (by omega) (by omega)) ?_
        refine ok_let (fun s14 hs14 => ?_)
        have hI_s14 : InvR s14 := by rw [← hs14]; exact hI_s11.sfF (k := 54) rfl rfl
        have hF_s14 : FrR [51, 152, 153, 154] s0 s14 := by rw [← hs14]; exact hF_s11.sf (k := 54) (by decide)
        refine ok_let (fun s16 hs16 => ?_)
        have a_11 : (s14.v 51).toInt = (s11.v 51).toInt := congrArg Int32.toInt (show s14.v 51 = s11.v 51 by rw [← hs14]; rfl)
        have a_12 : (((s14.v 51) + 1)).toInt = ((s14.v 51)).toInt + 1 := tn_add rfl (by decide) (by omega) (by omega)
        have hI_s16 : InvR s16 := by rw [← hs16]; exact hI_s14.sv (k := 51) (show (0 : Int) ≤ (((s14.v 51) + 1)).toInt by omega) (show (((s14.v 51) + 1)).toInt ≤ (20 : Int) by omega)
        have hF_s16 : FrR [51, 152, 153, 154] s0 s16 := by rw [← hs16]; exact hF_s14.sv (k := 51) (by decide)
        have a_13 : (s16.v 51).toInt = (((s14.v 51) + 1)).toInt := (congrArg Int32.toInt (show s16.v 51 = ((s14.v 51) + 1) by rw [← hs16]; rfl)).trans rfl
        have a_14 : (((s16.v 51) - 1)).toInt = ((s16.v 51)).toInt - 1 := tn_sub rfl (by decide) (by omega) (by omega)
        exact ok_some ⟨hI_s16, hF_s16, by show -1 ≤ (((s16.v 51) - 1)).toInt; omega, by show (((s16.v 51) - 1)).toInt ≤ 19; omega⟩
theorem ok_r_tell (s : RS) (x1 : Int32) (x2 : Int32) (x3 : Int32) (hI_s : InvR s) : Ok (r_tell s x1 x2 x3) (Q_r_tell s) := ok_r_tellB s s x1 x2 x3 hI_s FrR.rfl
noncomputable abbrev Q_r_forget (s0 : RS) (y : Int32 × RS) : Prop := InvR y.2 ∧ FrR [51] s0 y.2 ∧ 0 ≤ y.1.toInt ∧ y.1.toInt ≤ 20
set_option maxHeartbeats 1000000 in
theorem ok_r_forgetB (s0 : RS)  (s : RS) (hI_s : InvR s) (hF_s : FrR [51] s0 s)  : Ok (r_forget  s) (Q_r_forget s0) := by
  unfold r_forget
  refine ok_let (fun s1 hs1 => ?_)
  have hI_s1 : InvR s1 := by rw [← hs1]; exact hI_s.sv (k := 51) (show (0 : Int) ≤ (0 : Int32).toInt by decide) (show (0 : Int32).toInt ≤ (20 : Int) by decide)
  have hF_s1 : FrR [51] s0 s1 := by rw [← hs1]; exact hF_s.sv (k := 51) (by decide)
  have a_1 : 0 ≤ (s.v 51).toInt ∧ (s.v 51).toInt ≤ 20 := hI_s.1 51
  exact ok_some ⟨hI_s1, hF_s1, by show 0 ≤ ((s.v 51)).toInt; omega, by show ((s.v 51)).toInt ≤ 20; omega⟩
theorem ok_r_forget (s : RS) (hI_s : InvR s) : Ok (r_forget s) (Q_r_forget s) := ok_r_forgetB s s hI_s FrR.rfl
noncomputable abbrev Q_r_isSo (s0 : RS) (y : Int32 × RS) : Prop := InvR y.2 ∧ FrR [] s0 y.2 ∧ 0 ≤ y.1.toInt ∧ y.1.toInt ≤ 1
set_option maxHeartbeats 1000000 in
theorem ok_r_isSo_29 (s0 : RS) (hB : Big s0)  (s : RS) (x2 : Int32) (t0 : Int32) (hI_s : InvR s) (hF_s : FrR [] s0 s) (h_x2l : 0 ≤ x2.toInt) (h_x2u : x2.toInt ≤ 19) (h_t0l : 0 ≤ t0.toInt) (h_t0u : t0.toInt ≤ 1)  : Ok (r_isSo_29  s x2 t0) (Q_r_isSo s0) := by
  unfold r_isSo_29
  refine ok_grd (vpb_ok (by omega) (by omega)) ?_
  refine ok_ite (fun c_1 => ?_) (fun c_1 => ?_)
  · have c_1 := tn_eq (a := (t0).toInt) (b := ((s.f 54 (Int32.toNatClampNeg x2))).toInt) rfl rfl c_1
    exact ok_some ⟨hI_s, hF_s, by show 0 ≤ (1 : Int32).toInt; decide, by show (1 : Int32).toInt ≤ 1; decide⟩
  · have c_1 := tn_ne (a := (t0).toInt) (b := ((s.f 54 (Int32.toNatClampNeg x2))).toInt) rfl rfl c_1
    exact ok_some ⟨hI_s, hF_s, by show 0 ≤ (0 : Int32).toInt; decide, by show (0 : Int32).toInt ≤ 1; decide⟩
set_option maxHeartbeats 1000000 in
theorem ok_r_isSoB (s0 : RS) (hB : Big s0)  (s : RS) (x1 : Int32) (x2 : Int32) (hI_s : InvR s) (hF_s : FrR [] s0 s) (h_x1l : 0 ≤ x1.toInt) (h_x1u : x1.toInt ≤ 7775) (h_x2l : 0 ≤ x2.toInt) (h_x2u : x2.toInt ≤ 19)  : Ok (r_isSo  s x1 x2) (Q_r_isSo s0) := by
  unfold r_isSo
  refine ok_grd (vpb_ok (by omega) (by omega)) ?_
  refine ok_grd (vpb_ok (by omega) (by omega)) ?_
  have a_1 : 0 ≤ ((s.f 52 (Int32.toNatClampNeg x2))).toInt ∧ ((s.f 52 (Int32.toNatClampNeg x2))).toInt ≤ 4 := hI_s.2 52 _
  refine ok_bindI (ok_r_thingAt _ _ _ hI_s (hB.fr hF_s (by decide)) (by omega) (by omega) (by omega) (by omega)) (fun r4 s3 hc_2 => ?_)
  have hI_s3 : InvR s3 := hc_2.1
  have hFc_s3 : FrR [] s s3 := hc_2.2.1
  have hF_s3 : FrR [] s0 s3 := hF_s.trans hFc_s3 (by decide)
  have hl_r4 : 0 ≤ r4.toInt := hc_2.2.2.1
  have hu_r4 : r4.toInt ≤ 5 := hc_2.2.2.2
  have a_3 := ti_and1 (((s.f 53 (Int32.toNatClampNeg x2)) >>> (r4 &&& 31)))
  refine ok_ite (fun c_4 => ?_) (fun c_4 => ?_)
  · have c_4 := tn_eq (a := ((((s.f 53 (Int32.toNatClampNeg x2)) >>> (r4 &&& 31)) &&& 1)).toInt) (b := 1) rfl (by decide) c_4
    have l_1 : (1 : Int32).toInt = 1 := by decide
    exact ok_r_isSo_29 s0 hB  _ _ _ hI_s3 hF_s3 (by omega) (by omega) (by decide) (by decide) 
  · have c_4 := tn_ne (a := ((((s.f 53 (Int32.toNatClampNeg x2)) >>> (r4 &&& 31)) &&& 1)).toInt) (b := 1) rfl (by decide) c_4
    have l_0 : (0 : Int32).toInt = 0 := by decide
    exact ok_r_isSo_29 s0 hB  _ _ _ hI_s3 hF_s3 (by omega) (by omega) (by decide) (by decide) 
theorem ok_r_isSo (s : RS) (x1 : Int32) (x2 : Int32) (hI_s : InvR s) (hB : Big s) (h_x1l : 0 ≤ x1.toInt) (h_x1u : x1.toInt ≤ 7775) (h_x2l : 0 ≤ x2.toInt) (h_x2u : x2.toInt ≤ 19) : Ok (r_isSo s x1 x2) (Q_r_isSo s) := ok_r_isSoB s hB s x1 x2 hI_s FrR.rfl h_x1l h_x1u h_x2l h_x2u
noncomputable abbrev Q_r_doesFit (s0 : RS) (y : Int32 × RS) : Prop := InvR y.2 ∧ FrR [] s0 y.2 ∧ 0 ≤ y.1.toInt ∧ y.1.toInt ≤ 1
set_option maxHeartbeats 1000000 in
theorem ok_r_doesFit_36 (s0 : RS) (hB : Big s0) (k17 : RS → Int32 → Int32 → Int32 → Int32 → Int32 → Option (Int32 × RS)) (M17 : Nat) (hk17 : ∀ (s : RS) (x1 : Int32) (x2 : Int32) (x3 : Int32) (x4 : Int32) (x5 : Int32), InvR s → FrR [] s0 s → 0 ≤ x1.toInt → x1.toInt ≤ 7775 → 0 ≤ x2.toInt → x2.toInt ≤ 20 → 0 ≤ x3.toInt → x3.toInt ≤ 3 → 0 ≤ x5.toInt → x5.toInt ≤ 20 → (20 - x5.toInt).toNat < M17 → Ok (k17 s x1 x2 x3 x4 x5) (Q_r_doesFit s0)) (s : RS) (x1 : Int32) (x2 : Int32) (x3 : Int32) (x4 : Int32) (x5 : Int32) (hI_s : InvR s) (hF_s : FrR [] s0 s) (h_x1l : 0 ≤ x1.toInt) (h_x1u : x1.toInt ≤ 7775) (h_x2l : 1 ≤ x2.toInt) (h_x2u : x2.toInt ≤ 20) (h_x3l : 0 ≤ x3.toInt) (h_x3u : x3.toInt ≤ 3) (h_x5l : 0 ≤ x5.toInt) (h_x5u : x5.toInt ≤ 19) (hM17 : (20 - x5.toInt).toNat ≤ M17) : Ok (r_doesFit_36 k17 s x1 x2 x3 x4 x5) (Q_r_doesFit s0) := by
  unfold r_doesFit_36
  have a_1 : ((x5 + 1)).toInt = (x5).toInt + 1 := tn_add rfl (by decide) (by omega) (by omega)
  exact hk17 _ _ _ _ _ _ hI_s hF_s (by omega) (by omega) (by omega) (by omega) (by omega) (by omega) (by omega) (by omega) (by omega)
set_option maxHeartbeats 1000000 in
theorem ok_r_doesFit_17 (s0 : RS) (hB : Big s0) (k17 : RS → Int32 → Int32 → Int32 → Int32 → Int32 → Option (Int32 × RS)) (M17 : Nat) (hk17 : ∀ (s : RS) (x1 : Int32) (x2 : Int32) (x3 : Int32) (x4 : Int32) (x5 : Int32), InvR s → FrR [] s0 s → 0 ≤ x1.toInt → x1.toInt ≤ 7775 → 0 ≤ x2.toInt → x2.toInt ≤ 20 → 0 ≤ x3.toInt → x3.toInt ≤ 3 → 0 ≤ x5.toInt → x5.toInt ≤ 20 → (20 - x5.toInt).toNat < M17 → Ok (k17 s x1 x2 x3 x4 x5) (Q_r_doesFit s0)) (s : RS) (x1 : Int32) (x2 : Int32) (x3 : Int32) (x4 : Int32) (x5 : Int32) (hI_s : InvR s) (hF_s : FrR [] s0 s) (h_x1l : 0 ≤ x1.toInt) (h_x1u : x1.toInt ≤ 7775) (h_x2l : 0 ≤ x2.toInt) (h_x2u : x2.toInt ≤ 20) (h_x3l : 0 ≤ x3.toInt) (h_x3u : x3.toInt ≤ 3) (h_x5l : 0 ≤ x5.toInt) (h_x5u : x5.toInt ≤ 20) (hM17 : (20 - x5.toInt).toNat ≤ M17) : Ok (r_doesFit_17 k17 s x1 x2 x3 x4 x5) (Q_r_doesFit s0) := by
  unfold r_doesFit_17
  refine ok_ite (fun c_1 => ?_) (fun c_1 => ?_)
  · have c_1 := tn_le (a := (x2).toInt) (b := (x5).toInt) rfl rfl c_1
    refine ok_ite (fun c_2 => ?_) (fun c_2 => ?_)
    · have c_2 := tn_lt (a := (x3).toInt) (b := (x4).toInt) rfl rfl c_2
      exact ok_some ⟨hI_s, hF_s, by show 0 ≤ (0 : Int32).toInt; decide, by show (0 : Int32).toInt ≤ 1; decide⟩
    · have c_2 := tn_nlt (a := (x3).toInt) (b := (x4).toInt) rfl rfl c_2
      exact ok_some ⟨hI_s, hF_s, by show 0 ≤ (1 : Int32).toInt; decide, by show (1 : Int32).toInt ≤ 1; decide⟩
  · have c_1 := tn_nle (a := (x2).toInt) (b := (x5).toInt) rfl rfl c_1
    refine ok_bindI (ok_r_isSo _ _ _ hI_s (hB.fr hF_s (by decide)) (by omega) (by omega) (by omega) (by omega)) (fun r4 s3 hc_3 => ?_)
    have hI_s3 : InvR s3 := hc_3.1
    have hFc_s3 : FrR [] s s3 := hc_3.2.1
    have hF_s3 : FrR [] s0 s3 := hF_s.trans hFc_s3 (by decide)
    have hl_r4 : 0 ≤ r4.toInt := hc_3.2.2.1
    have hu_r4 : r4.toInt ≤ 1 := hc_3.2.2.2
    refine ok_ite (fun c_4 => ?_) (fun c_4 => ?_)
    · have c_4 := tn_eq (a := (r4).toInt) (b := 0) rfl (by decide) c_4
      exact ok_r_doesFit_36 s0 hB k17 M17 hk17 _ _ _ _ _ _ hI_s3 hF_s3 (by omega) (by omega) (by omega) (by omega) (by omega) (by omega) (by omega) (by omega) (by omega)
    · have c_4 := tn_ne (a := (r4).toInt) (b := 0) rfl (by decide) c_4
      exact ok_r_doesFit_36 s0 hB k17 M17 hk17 _ _ _ _ _ _ hI_s3 hF_s3 (by omega) (by omega) (by omega) (by omega) (by omega) (by omega) (by omega) (by omega) (by omega)
theorem okL_r_doesFit_17 (s0 : RS) (hB : Big s0)  : ∀ (n : Nat) (s : RS) (x1 : Int32) (x2 : Int32) (x3 : Int32) (x4 : Int32) (x5 : Int32), (20 - x5.toInt).toNat < n → InvR s → FrR [] s0 s → 0 ≤ x1.toInt → x1.toInt ≤ 7775 → 0 ≤ x2.toInt → x2.toInt ≤ 20 → 0 ≤ x3.toInt → x3.toInt ≤ 3 → 0 ≤ x5.toInt → x5.toInt ≤ 20 → Ok (r_doesFit_17L  n s x1 x2 x3 x4 x5) (Q_r_doesFit s0) := by
  intro n
  induction n with
  | zero => intro s x1 x2 x3 x4 x5 hn; omega
  | succ n ih =>
    intro s x1 x2 x3 x4 x5 hn hI_s hF_s h_x1l h_x1u h_x2l h_x2u h_x3l h_x3u h_x5l h_x5u 
    exact ok_r_doesFit_17 s0 hB (r_doesFit_17L  n) ((20 - x5.toInt).toNat) (fun zs zx1 zx2 zx3 zx4 zx5 g0 g1 g2 g3 g4 g5 g6 g7 g8 g9  hm => ih zs zx1 zx2 zx3 zx4 zx5 (by omega) g0 g1 g2 g3 g4 g5 g6 g7 g8 g9 ) s x1 x2 x3 x4 x5 hI_s hF_s h_x1l h_x1u h_x2l h_x2u h_x3l h_x3u h_x5l h_x5u (Nat.le_refl _)
set_option maxHeartbeats 1000000 in
theorem ok_r_doesFitB (s0 : RS) (hB : Big s0)  (s : RS) (x1 : Int32) (x2 : Int32) (x3 : Int32) (hI_s : InvR s) (hF_s : FrR [] s0 s) (h_x1l : 0 ≤ x1.toInt) (h_x1u : x1.toInt ≤ 7775) (h_x2l : 0 ≤ x2.toInt) (h_x2u : x2.toInt ≤ 20) (h_x3l : 0 ≤ x3.toInt) (h_x3u : x3.toInt ≤ 3)  : Ok (r_doesFit  s x1 x2 x3) (Q_r_doesFit s0) := by
  unfold r_doesFit
  refine ok_grd (vpb_ok (by omega) (by omega)) ?_
  refine ok_ite (fun c_1 => ?_) (fun c_1 => ?_)
  · have c_1 := tn_eq (a := ((s.f 50 (Int32.toNatClampNeg x1))).toInt) (b := 0) rfl (by decide) c_1
    exact ok_some ⟨hI_s, hF_s, by show 0 ≤ (0 : Int32).toInt; decide, by show (0 : Int32).toInt ≤ 1; decide⟩
  · have c_1 := tn_ne (a := ((s.f 50 (Int32.toNatClampNeg x1))).toInt) (b := 0) rfl (by decide) c_1
    have l_0 : (0 : Int32).toInt = 0 := by decide
    exact okL_r_doesFit_17 s0 hB  fu _ _ _ _ _ _ (by unfold fu; omega) hI_s hF_s (by omega) (by omega) (by omega) (by omega) (by omega) (by omega) (by decide) (by decide) 
theorem ok_r_doesFit (s : RS) (x1 : Int32) (x2 : Int32) (x3 : Int32) (hI_s : InvR s) (hB : Big s) (h_x1l : 0 ≤ x1.toInt) (h_x1u : x1.toInt ≤ 7775) (h_x2l : 0 ≤ x2.toInt) (h_x2u : x2.toInt ≤ 20) (h_x3l : 0 ≤ x3.toInt) (h_x3u : x3.toInt ≤ 3) : Ok (r_doesFit s x1 x2 x3) (Q_r_doesFit s) := ok_r_doesFitB s hB s x1 x2 x3 hI_s FrR.rfl h_x1l h_x1u h_x2l h_x2u h_x3l h_x3u
noncomputable abbrev Q_r_isAsked (s0 : RS) (x1 : Int32) (x2 : Int32) (y : Int32 × RS) : Prop := InvR y.2 ∧ FrR [] s0 y.2 ∧ 0 ≤ y.1.toInt ∧ y.1.toInt ≤ 1 ∧ (¬ y.1.toInt = 0 → 0 ≤ (x1).toInt ∧ (x1).toInt ≤ 20 ∧ 0 ≤ (x2).toInt ∧ (x2).toInt ≤ 3)
set_option maxHeartbeats 1000000 in
theorem ok_r_isAskedB (s0 : RS)  (s : RS) (x1 : Int32) (x2 : Int32) (hI_s : InvR s) (hF_s : FrR [] s0 s)  : Ok (r_isAsked  s x1 x2) (Q_r_isAsked s0 x1 x2) := by
  unfold r_isAsked
  have a_1 : 0 ≤ (s.v 51).toInt ∧ (s.v 51).toInt ≤ 20 := hI_s.1 51
  refine ok_bindP (ok_r_in _ _ _ (by decide) (by decide) (by omega) (by omega)) (fun r1 hc_2 => ?_)
  have l_0 : (0 : Int32).toInt = 0 := by decide
  have hl_r1 : 0 ≤ r1.toInt := hc_2.1
  have hu_r1 : r1.toInt ≤ 1 := hc_2.2.1
  have hx0_r1 : (¬ r1.toInt = 0 → (0 : Int32).toInt ≤ (x1).toInt ∧ (x1).toInt ≤ ((s.v 51)).toInt) := hc_2.2.2
  refine ok_ite (fun c_3 => ?_) (fun c_3 => ?_)
  · have c_3 := tn_eq (a := (r1).toInt) (b := 0) rfl (by decide) c_3
    exact ok_some ⟨hI_s, hF_s, by show 0 ≤ (0 : Int32).toInt; decide, by show (0 : Int32).toInt ≤ 1; decide, by show (¬ (0 : Int32).toInt = 0 → 0 ≤ (x1).toInt ∧ (x1).toInt ≤ 20 ∧ 0 ≤ (x2).toInt ∧ (x2).toInt ≤ 3); have l := (by decide : (0 : Int32).toInt = 0); omega⟩
  · have c_3 := tn_ne (a := (r1).toInt) (b := 0) rfl (by decide) c_3
    refine ok_bindP (ok_r_in _ _ _ (by decide) (by decide) (by decide) (by decide)) (fun r3 hc_4 => ?_)
    have l_3 : (3 : Int32).toInt = 3 := by decide
    have hl_r3 : 0 ≤ r3.toInt := hc_4.1
    have hu_r3 : r3.toInt ≤ 1 := hc_4.2.1
    have hx0_r3 : (¬ r3.toInt = 0 → (0 : Int32).toInt ≤ (x2).toInt ∧ (x2).toInt ≤ (3 : Int32).toInt) := hc_4.2.2
    refine ok_ite (fun c_5 => ?_) (fun c_5 => ?_)
    · have c_5 := tn_eq (a := (r3).toInt) (b := 0) rfl (by decide) c_5
      exact ok_some ⟨hI_s, hF_s, by show 0 ≤ (0 : Int32).toInt; decide, by show (0 : Int32).toInt ≤ 1; decide, by show (¬ (0 : Int32).toInt = 0 → 0 ≤ (x1).toInt ∧ (x1).toInt ≤ 20 ∧ 0 ≤ (x2).toInt ∧ (x2).toInt ≤ 3); have l := (by decide : (0 : Int32).toInt = 0); omega⟩
    · have c_5 := tn_ne (a := (r3).toInt) (b := 0) rfl (by decide) c_5
      exact ok_some ⟨hI_s, hF_s, by show 0 ≤ (1 : Int32).toInt; decide, by show (1 : Int32).toInt ≤ 1; decide, by show (¬ (1 : Int32).toInt = 0 → 0 ≤ (x1).toInt ∧ (x1).toInt ≤ 20 ∧ 0 ≤ (x2).toInt ∧ (x2).toInt ≤ 3); have l := (by decide : (1 : Int32).toInt = 1); omega⟩
theorem ok_r_isAsked (s : RS) (x1 : Int32) (x2 : Int32) (hI_s : InvR s) : Ok (r_isAsked s x1 x2) (Q_r_isAsked s x1 x2) := ok_r_isAskedB s s x1 x2 hI_s FrR.rfl
noncomputable abbrev Q_r_fit (s0 : RS) (y : Int32 × RS) : Prop := InvR y.2 ∧ FrR [45, 144, 150] s0 y.2 ∧ -2147483648 ≤ y.1.toInt ∧ y.1.toInt ≤ 2147483647
set_option maxHeartbeats 1000000 in
theorem ok_r_fit_70 (s0 : RS) (hB : Big s0) (k30 : RS → Int32 → Int32 → Int32 → Int32 → Int32 → Option (Int32 × RS)) (M30 : Nat) (hk30 : ∀ (s : RS) (x1 : Int32) (x2 : Int32) (x3 : Int32) (x4 : Int32) (x5 : Int32), InvR s → FrR [45, 144, 150] s0 s → 0 ≤ x1.toInt → x1.toInt ≤ 20 → 0 ≤ x2.toInt → x2.toInt ≤ 3 → 0 ≤ x3.toInt → x3.toInt ≤ 1 → 0 ≤ x5.toInt → x5.toInt ≤ 7776 → (7776 - x5.toInt).toNat < M30 → Ok (k30 s x1 x2 x3 x4 x5) (Q_r_fit s0)) (s : RS) (x1 : Int32) (x2 : Int32) (x3 : Int32) (x4 : Int32) (x5 : Int32) (hI_s : InvR s) (hF_s : FrR [45, 144, 150] s0 s) (h_x1l : 0 ≤ x1.toInt) (h_x1u : x1.toInt ≤ 20) (h_x2l : 0 ≤ x2.toInt) (h_x2u : x2.toInt ≤ 3) (h_x3l : 0 ≤ x3.toInt) (h_x3u : x3.toInt ≤ 1) (h_x5l : 0 ≤ x5.toInt) (h_x5u : x5.toInt ≤ 7775) (hM30 : (7776 - x5.toInt).toNat ≤ M30) : Ok (r_fit_70 k30 s x1 x2 x3 x4 x5) (Q_r_fit s0) := by
  unfold r_fit_70
  have a_1 : ((x5 + 1)).toInt = (x5).toInt + 1 := tn_add rfl (by decide) (by omega) (by omega)
  exact hk30 _ _ _ _ _ _ hI_s hF_s (by omega) (by omega) (by omega) (by omega) (by omega) (by omega) (by omega) (by omega) (by omega)
set_option maxHeartbeats 1000000 in
theorem ok_r_fit_67 (s0 : RS) (hB : Big s0) (k30 : RS → Int32 → Int32 → Int32 → Int32 → Int32 → Option (Int32 × RS)) (M30 : Nat) (hk30 : ∀ (s : RS) (x1 : Int32) (x2 : Int32) (x3 : Int32) (x4 : Int32) (x5 : Int32), InvR s → FrR [45, 144, 150] s0 s → 0 ≤ x1.toInt → x1.toInt ≤ 20 → 0 ≤ x2.toInt → x2.toInt ≤ 3 → 0 ≤ x3.toInt → x3.toInt ≤ 1 → 0 ≤ x5.toInt → x5.toInt ≤ 7776 → (7776 - x5.toInt).toNat < M30 → Ok (k30 s x1 x2 x3 x4 x5) (Q_r_fit s0)) (s : RS) (x1 : Int32) (x2 : Int32) (x3 : Int32) (x5 : Int32) (t0 : Int32) (t1 : Int32) (hI_s : InvR s) (hF_s : FrR [45, 144, 150] s0 s) (h_x1l : 0 ≤ x1.toInt) (h_x1u : x1.toInt ≤ 20) (h_x2l : 0 ≤ x2.toInt) (h_x2u : x2.toInt ≤ 3) (h_x3l : 0 ≤ x3.toInt) (h_x3u : x3.toInt ≤ 1) (h_x5l : 0 ≤ x5.toInt) (h_x5u : x5.toInt ≤ 7775) (hM30 : (7776 - x5.toInt).toNat ≤ M30) : Ok (r_fit_67 k30 s x1 x2 x3 x5 t0 t1) (Q_r_fit s0) := by
  unfold r_fit_67
  exact ok_r_fit_70 s0 hB k30 M30 hk30 _ _ _ _ _ _ hI_s hF_s (by omega) (by omega) (by omega) (by omega) (by omega) (by omega) (by omega) (by omega) (by omega)
set_option maxHeartbeats 1000000 in
theorem ok_r_fit_30 (s0 : RS) (hB : Big s0) (k30 : RS → Int32 → Int32 → Int32 → Int32 → Int32 → Option (Int32 × RS)) (M30 : Nat) (hk30 : ∀ (s : RS) (x1 : Int32) (x2 : Int32) (x3 : Int32) (x4 : Int32) (x5 : Int32), InvR s → FrR [45, 144, 150] s0 s → 0 ≤ x1.toInt → x1.toInt ≤ 20 → 0 ≤ x2.toInt → x2.toInt ≤ 3 → 0 ≤ x3.toInt → x3.toInt ≤ 1 → 0 ≤ x5.toInt → x5.toInt ≤ 7776 → (7776 - x5.toInt).toNat < M30 → Ok (k30 s x1 x2 x3 x4 x5) (Q_r_fit s0)) (s : RS) (x1 : Int32) (x2 : Int32) (x3 : Int32) (x4 : Int32) (x5 : Int32) (hI_s : InvR s) (hF_s : FrR [45, 144, 150] s0 s) (h_x1l : 0 ≤ x1.toInt) (h_x1u : x1.toInt ≤ 20) (h_x2l : 0 ≤ x2.toInt) (h_x2u : x2.toInt ≤ 3) (h_x3l : 0 ≤ x3.toInt) (h_x3u : x3.toInt ≤ 1) (h_x5l : 0 ≤ x5.toInt) (h_x5u : x5.toInt ≤ 7776) (hM30 : (7776 - x5.toInt).toNat ≤ M30) : Ok (r_fit_30 k30 s x1 x2 x3 x4 x5) (Q_r_fit s0) := by
  unfold r_fit_30
  refine ok_bindI (ok_r_guesses _  hI_s (hB.fr hF_s (by decide))) (fun r2 s1 hc_1 => ?_)
  have hI_s1 : InvR s1 := hc_1.1
  have hFc_s1 : FrR [] s s1 := hc_1.2.1
  have hF_s1 : FrR [45, 144, 150] s0 s1 := hF_s.trans hFc_s1 (by decide)
  have hl_r2 : 1 ≤ r2.toInt := hc_1.2.2.1
  have hu_r2 : r2.toInt ≤ 7776 := hc_1.2.2.2
  refine ok_ite (fun c_2 => ?_) (fun c_2 => ?_)
  · have c_2 := tn_le (a := (r2).toInt) (b := (x5).toInt) rfl rfl c_2
    exact ok_some ⟨hI_s1, hF_s1, (ti_rng _).1, (ti_rng _).2⟩
  · have c_2 := tn_nle (a := (r2).toInt) (b := (x5).toInt) rfl rfl c_2
    refine ok_bindI (ok_r_doesFit _ _ _ _ hI_s1 (hB.fr hF_s1 (by decide)) (by omega) (by omega) (by omega) (by omega) (by omega) (by omega)) (fun r5 s4 hc_3 => ?_)
    have hI_s4 : InvR s4 := hc_3.1
    have hFc_s4 : FrR [] s1 s4 := hc_3.2.1
    have hF_s4 : FrR [45, 144, 150] s0 s4 := hF_s1.trans hFc_s4 (by decide)
    have hl_r5 : 0 ≤ r5.toInt := hc_3.2.2.1
    have hu_r5 : r5.toInt ≤ 1 := hc_3.2.2.2
    refine ok_ite (fun c_4 => ?_) (fun c_4 => ?_)
    · have c_4 := tn_eq (a := (r5).toInt) (b := 0) rfl (by decide) c_4
      exact ok_r_fit_70 s0 hB k30 M30 hk30 _ _ _ _ _ _ hI_s4 hF_s4 (by omega) (by omega) (by omega) (by omega) (by omega) (by omega) (by omega) (by omega) (by omega)
    · have c_4 := tn_ne (a := (r5).toInt) (b := 0) rfl (by decide) c_4
      refine ok_ite (fun c_5 => ?_) (fun c_5 => ?_)
      · have c_5 := tn_eq (a := (x3).toInt) (b := 0) rfl (by decide) c_5
        have l_1 : (1 : Int32).toInt = 1 := by decide
        exact ok_r_fit_67 s0 hB k30 M30 hk30 _ _ _ _ _ _ _ hI_s4 hF_s4 (by omega) (by omega) (by omega) (by omega) (by omega) (by omega) (by omega) (by omega) (by omega)
      · have c_5 := tn_ne (a := (x3).toInt) (b := 0) rfl (by decide) c_5
        refine ok_grd (vpb_ok (by omega) (by omega)) ?_
        exact ok_r_fit_67 s0 hB k30 M30 hk30 _ _ _ _ _ _ _ hI_s4 hF_s4 (by omega) (by omega) (by omega) (by omega) (by omega) (by omega) (by omega) (by omega) (by omega)
theorem okL_r_fit_30 (s0 : RS) (hB : Big s0)  : ∀ (n : Nat) (s : RS) (x1 : Int32) (x2 : Int32) (x3 : Int32) (x4 : Int32) (x5 : Int32), (7776 - x5.toInt).toNat < n → InvR s → FrR [45, 144, 150] s0 s → 0 ≤ x1.toInt → x1.toInt ≤ 20 → 0 ≤ x2.toInt → x2.toInt ≤ 3 → 0 ≤ x3.toInt → x3.toInt ≤ 1 → 0 ≤ x5.toInt → x5.toInt ≤ 7776 → Ok (r_fit_30L  n s x1 x2 x3 x4 x5) (Q_r_fit s0) := by
  intro n
  induction n with
  | zero => intro s x1 x2 x3 x4 x5 hn; omega
  | succ n ih =>
    intro s x1 x2 x3 x4 x5 hn hI_s hF_s h_x1l h_x1u h_x2l h_x2u h_x3l h_x3u h_x5l h_x5u 
    exact ok_r_fit_30 s0 hB (r_fit_30L  n) ((7776 - x5.toInt).toNat) (fun zs zx1 zx2 zx3 zx4 zx5 g0 g1 g2 g3 g4 g5 g6 g7 g8 g9  hm => ih zs zx1 zx2 zx3 zx4 zx5 (by omega) g0 g1 g2 g3 g4 g5 g6 g7 g8 g9 ) s x1 x2 x3 x4 x5 hI_s hF_s h_x1l h_x1u h_x2l h_x2u h_x3l h_x3u h_x5l h_x5u (Nat.le_refl _)
set_option maxHeartbeats 1000000 in
theorem ok_r_fitB (s0 : RS) (hB : Big s0)  (s : RS) (x1 : Int32) (x2 : Int32) (x3 : Int32) (hI_s : InvR s) (hF_s : FrR [45, 144, 150] s0 s)  : Ok (r_fit  s x1 x2 x3) (Q_r_fit s0) := by
  unfold r_fit
  refine ok_bindI (ok_r_isAsked _ _ _ hI_s) (fun r2 s1 hc_1 => ?_)
  have hI_s1 : InvR s1 := hc_1.1
  have hFc_s1 : FrR [] s s1 := hc_1.2.1
  have hF_s1 : FrR [45, 144, 150] s0 s1 := hF_s.trans hFc_s1 (by decide)
  have hl_r2 : 0 ≤ r2.toInt := hc_1.2.2.1
  have hu_r2 : r2.toInt ≤ 1 := hc_1.2.2.2.1
  have hx0_r2 : (¬ r2.toInt = 0 → 0 ≤ (x1).toInt ∧ (x1).toInt ≤ 20 ∧ 0 ≤ (x2).toInt ∧ (x2).toInt ≤ 3) := hc_1.2.2.2.2
  refine ok_ite (fun c_2 => ?_) (fun c_2 => ?_)
  · have c_2 := tn_eq (a := (r2).toInt) (b := 0) rfl (by decide) c_2
    exact ok_some ⟨hI_s1, hF_s1, (ti_rng _).1, (ti_rng _).2⟩
  · have c_2 := tn_ne (a := (r2).toInt) (b := 0) rfl (by decide) c_2
    refine ok_bindP (ok_r_in _ _ _ (by decide) (by decide) (by decide) (by decide)) (fun r4 hc_3 => ?_)
    have l_0 : (0 : Int32).toInt = 0 := by decide
    have l_1 : (1 : Int32).toInt = 1 := by decide
    have hl_r4 : 0 ≤ r4.toInt := hc_3.1
    have hu_r4 : r4.toInt ≤ 1 := hc_3.2.1
    have hx0_r4 : (¬ r4.toInt = 0 → (0 : Int32).toInt ≤ (x3).toInt ∧ (x3).toInt ≤ (1 : Int32).toInt) := hc_3.2.2
    refine ok_ite (fun c_4 => ?_) (fun c_4 => ?_)
    · have c_4 := tn_eq (a := (r4).toInt) (b := 0) rfl (by decide) c_4
      exact ok_some ⟨hI_s1, hF_s1, (ti_rng _).1, (ti_rng _).2⟩
    · have c_4 := tn_ne (a := (r4).toInt) (b := 0) rfl (by decide) c_4
      refine ok_bindP (ok_r_fillsChances _  hI_s1 (hB.fr hF_s1 (by decide))) (fun s6 hc_5 => ?_)
      have hI_s6 : InvR s6 := hc_5.1
      have hFc_s6 : FrR [45, 144, 150] s1 s6 := hc_5.2
      have hF_s6 : FrR [45, 144, 150] s0 s6 := hF_s1.trans hFc_s6 (by decide)
      exact okL_r_fit_30 s0 hB  fu _ _ _ _ _ _ (by unfold fu; omega) hI_s6 hF_s6 (by omega) (by omega) (by omega) (by omega) (by omega) (by omega) (by decide) (by decide) 
theorem ok_r_fit (s : RS) (x1 : Int32) (x2 : Int32) (x3 : Int32) (hI_s : InvR s) (hB : Big s) : Ok (r_fit s x1 x2 x3) (Q_r_fit s) := ok_r_fitB s hB s x1 x2 x3 hI_s FrR.rfl
noncomputable abbrev Q_r_lie (s0 : RS) (y : Int32 × RS) : Prop := InvR y.2 ∧ FrR [45, 144, 150] s0 y.2 ∧ -2147483648 ≤ y.1.toInt ∧ y.1.toInt ≤ 2147483647
set_option maxHeartbeats 1000000 in
theorem ok_r_lie_82 (s0 : RS) (hB : Big s0) (k24 : RS → Int32 → Int32 → Int32 → Int32 → Option (Int32 × RS)) (M24 : Nat) (hk24 : ∀ (s : RS) (x1 : Int32) (x2 : Int32) (x3 : Int32) (x4 : Int32), InvR s → FrR [45, 144, 150] s0 s → 0 ≤ x1.toInt → x1.toInt ≤ 20 → 0 ≤ x2.toInt → x2.toInt ≤ 3 → 0 ≤ x4.toInt → x4.toInt ≤ 7776 → (7776 - x4.toInt).toNat < M24 → Ok (k24 s x1 x2 x3 x4) (Q_r_lie s0)) (s : RS) (x1 : Int32) (x2 : Int32) (x3 : Int32) (x4 : Int32) (hI_s : InvR s) (hF_s : FrR [45, 144, 150] s0 s) (h_x1l : 0 ≤ x1.toInt) (h_x1u : x1.toInt ≤ 20) (h_x2l : 0 ≤ x2.toInt) (h_x2u : x2.toInt ≤ 3) (h_x4l : 0 ≤ x4.toInt) (h_x4u : x4.toInt ≤ 7775) (hM24 : (7776 - x4.toInt).toNat ≤ M24) : Ok (r_lie_82 k24 s x1 x2 x3 x4) (Q_r_lie s0) := by
  unfold r_lie_82
  have a_1 : ((x4 + 1)).toInt = (x4).toInt + 1 := tn_add rfl (by decide) (by omega) (by omega)
  exact hk24 _ _ _ _ _ hI_s hF_s (by omega) (by omega) (by omega) (by omega) (by omega) (by omega) (by omega)
set_option maxHeartbeats 1000000 in
theorem ok_r_lie_76 (s0 : RS) (hB : Big s0) (k24 : RS → Int32 → Int32 → Int32 → Int32 → Option (Int32 × RS)) (M24 : Nat) (hk24 : ∀ (s : RS) (x1 : Int32) (x2 : Int32) (x3 : Int32) (x4 : Int32), InvR s → FrR [45, 144, 150] s0 s → 0 ≤ x1.toInt → x1.toInt ≤ 20 → 0 ≤ x2.toInt → x2.toInt ≤ 3 → 0 ≤ x4.toInt → x4.toInt ≤ 7776 → (7776 - x4.toInt).toNat < M24 → Ok (k24 s x1 x2 x3 x4) (Q_r_lie s0)) (k50 : RS → Int32 → Int32 → Int32 → Int32 → Int32 → Option (Int32 × RS)) (M50 : Nat) (hk50 : ∀ (s : RS) (x1 : Int32) (x2 : Int32) (x3 : Int32) (x4 : Int32) (x5 : Int32), InvR s → FrR [45, 144, 150] s0 s → 0 ≤ x1.toInt → x1.toInt ≤ 20 → 0 ≤ x2.toInt → x2.toInt ≤ 3 → 0 ≤ x4.toInt → x4.toInt ≤ 7775 → 0 ≤ x5.toInt → x5.toInt ≤ 20 → (7776 - x4.toInt).toNat ≤ M24 → (20 - x5.toInt).toNat < M50 → Ok (k50 s x1 x2 x3 x4 x5) (Q_r_lie s0)) (s : RS) (x1 : Int32) (x2 : Int32) (x3 : Int32) (x4 : Int32) (x5 : Int32) (hI_s : InvR s) (hF_s : FrR [45, 144, 150] s0 s) (h_x1l : 1 ≤ x1.toInt) (h_x1u : x1.toInt ≤ 20) (h_x2l : 0 ≤ x2.toInt) (h_x2u : x2.toInt ≤ 3) (h_x4l : 0 ≤ x4.toInt) (h_x4u : x4.toInt ≤ 7775) (h_x5l : 0 ≤ x5.toInt) (h_x5u : x5.toInt ≤ 19) (hM24 : (7776 - x4.toInt).toNat ≤ M24) (hM50 : (20 - x5.toInt).toNat ≤ M50) : Ok (r_lie_76 k24 k50 s x1 x2 x3 x4 x5) (Q_r_lie s0) := by
  unfold r_lie_76
  have a_1 : ((x5 + 1)).toInt = (x5).toInt + 1 := tn_add rfl (by decide) (by omega) (by omega)
  exact hk50 _ _ _ _ _ _ hI_s hF_s (by omega) (by omega) (by omega) (by omega) (by omega) (by omega) (by omega) (by omega) (by omega) (by omega)
set_option maxHeartbeats 1000000 in
theorem ok_r_lie_50 (s0 : RS) (hB : Big s0) (k24 : RS → Int32 → Int32 → Int32 → Int32 → Option (Int32 × RS)) (M24 : Nat) (hk24 : ∀ (s : RS) (x1 : Int32) (x2 : Int32) (x3 : Int32) (x4 : Int32), InvR s → FrR [45, 144, 150] s0 s → 0 ≤ x1.toInt → x1.toInt ≤ 20 → 0 ≤ x2.toInt → x2.toInt ≤ 3 → 0 ≤ x4.toInt → x4.toInt ≤ 7776 → (7776 - x4.toInt).toNat < M24 → Ok (k24 s x1 x2 x3 x4) (Q_r_lie s0)) (k50 : RS → Int32 → Int32 → Int32 → Int32 → Int32 → Option (Int32 × RS)) (M50 : Nat) (hk50 : ∀ (s : RS) (x1 : Int32) (x2 : Int32) (x3 : Int32) (x4 : Int32) (x5 : Int32), InvR s → FrR [45, 144, 150] s0 s → 0 ≤ x1.toInt → x1.toInt ≤ 20 → 0 ≤ x2.toInt → x2.toInt ≤ 3 → 0 ≤ x4.toInt → x4.toInt ≤ 7775 → 0 ≤ x5.toInt → x5.toInt ≤ 20 → (7776 - x4.toInt).toNat ≤ M24 → (20 - x5.toInt).toNat < M50 → Ok (k50 s x1 x2 x3 x4 x5) (Q_r_lie s0)) (s : RS) (x1 : Int32) (x2 : Int32) (x3 : Int32) (x4 : Int32) (x5 : Int32) (hI_s : InvR s) (hF_s : FrR [45, 144, 150] s0 s) (h_x1l : 0 ≤ x1.toInt) (h_x1u : x1.toInt ≤ 20) (h_x2l : 0 ≤ x2.toInt) (h_x2u : x2.toInt ≤ 3) (h_x4l : 0 ≤ x4.toInt) (h_x4u : x4.toInt ≤ 7775) (h_x5l : 0 ≤ x5.toInt) (h_x5u : x5.toInt ≤ 20) (hM24 : (7776 - x4.toInt).toNat ≤ M24) (hM50 : (20 - x5.toInt).toNat ≤ M50) : Ok (r_lie_50 k24 k50 s x1 x2 x3 x4 x5) (Q_r_lie s0) := by
  unfold r_lie_50
  refine ok_ite (fun c_1 => ?_) (fun c_1 => ?_)
  · have c_1 := tn_le (a := (x1).toInt) (b := (x5).toInt) rfl rfl c_1
    exact ok_r_lie_82 s0 hB k24 M24 hk24 _ _ _ _ _ hI_s hF_s (by omega) (by omega) (by omega) (by omega) (by omega) (by omega) (by omega)
  · have c_1 := tn_nle (a := (x1).toInt) (b := (x5).toInt) rfl rfl c_1
    refine ok_bindI (ok_r_isSo _ _ _ hI_s (hB.fr hF_s (by decide)) (by omega) (by omega) (by omega) (by omega)) (fun r3 s2 hc_2 => ?_)
    have hI_s2 : InvR s2 := hc_2.1
    have hFc_s2 : FrR [] s s2 := hc_2.2.1
    have hF_s2 : FrR [45, 144, 150] s0 s2 := hF_s.trans hFc_s2 (by decide)
    have hl_r3 : 0 ≤ r3.toInt := hc_2.2.2.1
    have hu_r3 : r3.toInt ≤ 1 := hc_2.2.2.2
    refine ok_ite (fun c_3 => ?_) (fun c_3 => ?_)
    · have c_3 := tn_eq (a := (r3).toInt) (b := 0) rfl (by decide) c_3
      exact ok_r_lie_76 s0 hB k24 M24 hk24 k50 M50 hk50 _ _ _ _ _ _ hI_s2 hF_s2 (by omega) (by omega) (by omega) (by omega) (by omega) (by omega) (by omega) (by omega) (by omega) (by omega)
    · have c_3 := tn_ne (a := (r3).toInt) (b := 0) rfl (by decide) c_3
      exact ok_r_lie_76 s0 hB k24 M24 hk24 k50 M50 hk50 _ _ _ _ _ _ hI_s2 hF_s2 (by omega) (by omega) (by omega) (by omega) (by omega) (by omega) (by omega) (by omega) (by omega) (by omega)
theorem okL_r_lie_50 (s0 : RS) (hB : Big s0) (k24 : RS → Int32 → Int32 → Int32 → Int32 → Option (Int32 × RS)) (M24 : Nat) (hk24 : ∀ (s : RS) (x1 : Int32) (x2 : Int32) (x3 : Int32) (x4 : Int32), InvR s → FrR [45, 144, 150] s0 s → 0 ≤ x1.toInt → x1.toInt ≤ 20 → 0 ≤ x2.toInt → x2.toInt ≤ 3 → 0 ≤ x4.toInt → x4.toInt ≤ 7776 → (7776 - x4.toInt).toNat < M24 → Ok (k24 s x1 x2 x3 x4) (Q_r_lie s0)) : ∀ (n : Nat) (s : RS) (x1 : Int32) (x2 : Int32) (x3 : Int32) (x4 : Int32) (x5 : Int32), (20 - x5.toInt).toNat < n → InvR s → FrR [45, 144, 150] s0 s → 0 ≤ x1.toInt → x1.toInt ≤ 20 → 0 ≤ x2.toInt → x2.toInt ≤ 3 → 0 ≤ x4.toInt → x4.toInt ≤ 7775 → 0 ≤ x5.toInt → x5.toInt ≤ 20 → (7776 - x4.toInt).toNat ≤ M24 → Ok (r_lie_50L k24 n s x1 x2 x3 x4 x5) (Q_r_lie s0) := by
  intro n
  induction n with
  | zero => intro s x1 x2 x3 x4 x5 hn; omega
  | succ n ih =>
    intro s x1 x2 x3 x4 x5 hn hI_s hF_s h_x1l h_x1u h_x2l h_x2u h_x4l h_x4u h_x5l h_x5u hM24
    exact ok_r_lie_50 s0 hB k24 M24 hk24 (r_lie_50L k24 n) ((20 - x5.toInt).toNat) (fun zs zx1 zx2 zx3 zx4 zx5 g0 g1 g2 g3 g4 g5 g6 g7 g8 g9 o24 hm => ih zs zx1 zx2 zx3 zx4 zx5 (by omega) g0 g1 g2 g3 g4 g5 g6 g7 g8 g9 o24) s x1 x2 x3 x4 x5 hI_s hF_s h_x1l h_x1u h_x2l h_x2u h_x4l h_x4u h_x5l h_x5u hM24 (Nat.le_refl _)
set_option maxHeartbeats 1000000 in
theorem ok_r_lie_24 (s0 : RS) (hB : Big s0) (k24 : RS → Int32 → Int32 → Int32 → Int32 → Option (Int32 × RS)) (M24 : Nat) (hk24 : ∀ (s : RS) (x1 : Int32) (x2 : Int32) (x3 : Int32) (x4 : Int32), InvR s → FrR [45, 144, 150] s0 s → 0 ≤ x1.toInt → x1.toInt ≤ 20 → 0 ≤ x2.toInt → x2.toInt ≤ 3 → 0 ≤ x4.toInt → x4.toInt ≤ 7776 → (7776 - x4.toInt).toNat < M24 → Ok (k24 s x1 x2 x3 x4) (Q_r_lie s0)) (s : RS) (x1 : Int32) (x2 : Int32) (x3 : Int32) (x4 : Int32) (hI_s : InvR s) (hF_s : FrR [45, 144, 150] s0 s) (h_x1l : 0 ≤ x1.toInt) (h_x1u : x1.toInt ≤ 20) (h_x2l : 0 ≤ x2.toInt) (h_x2u : x2.toInt ≤ 3) (h_x4l : 0 ≤ x4.toInt) (h_x4u : x4.toInt ≤ 7776) (hM24 : (7776 - x4.toInt).toNat ≤ M24) : Ok (r_lie_24 k24 s x1 x2 x3 x4) (Q_r_lie s0) := by
  unfold r_lie_24
  refine ok_bindI (ok_r_guesses _  hI_s (hB.fr hF_s (by decide))) (fun r2 s1 hc_1 => ?_)
  have hI_s1 : InvR s1 := hc_1.1
  have hFc_s1 : FrR [] s s1 := hc_1.2.1
  have hF_s1 : FrR [45, 144, 150] s0 s1 := hF_s.trans hFc_s1 (by decide)
  have hl_r2 : 1 ≤ r2.toInt := hc_1.2.2.1
  have hu_r2 : r2.toInt ≤ 7776 := hc_1.2.2.2
  refine ok_ite (fun c_2 => ?_) (fun c_2 => ?_)
  · have c_2 := tn_le (a := (r2).toInt) (b := (x4).toInt) rfl rfl c_2
    exact ok_some ⟨hI_s1, hF_s1, (ti_rng _).1, (ti_rng _).2⟩
  · have c_2 := tn_nle (a := (r2).toInt) (b := (x4).toInt) rfl rfl c_2
    refine ok_bindI (ok_r_doesFit _ _ _ _ hI_s1 (hB.fr hF_s1 (by decide)) (by omega) (by omega) (by omega) (by omega) (by omega) (by omega)) (fun r5 s4 hc_3 => ?_)
    have hI_s4 : InvR s4 := hc_3.1
    have hFc_s4 : FrR [] s1 s4 := hc_3.2.1
    have hF_s4 : FrR [45, 144, 150] s0 s4 := hF_s1.trans hFc_s4 (by decide)
    have hl_r5 : 0 ≤ r5.toInt := hc_3.2.2.1
    have hu_r5 : r5.toInt ≤ 1 := hc_3.2.2.2
    refine ok_ite (fun c_4 => ?_) (fun c_4 => ?_)
    · have c_4 := tn_eq (a := (r5).toInt) (b := 0) rfl (by decide) c_4
      exact ok_r_lie_82 s0 hB k24 M24 hk24 _ _ _ _ _ hI_s4 hF_s4 (by omega) (by omega) (by omega) (by omega) (by omega) (by omega) (by omega)
    · have c_4 := tn_ne (a := (r5).toInt) (b := 0) rfl (by decide) c_4
      have l_0 : (0 : Int32).toInt = 0 := by decide
      exact okL_r_lie_50 s0 hB k24 M24 hk24 fu _ _ _ _ _ _ (by unfold fu; omega) hI_s4 hF_s4 (by omega) (by omega) (by omega) (by omega) (by omega) (by omega) (by decide) (by decide) (by omega)
theorem okL_r_lie_24 (s0 : RS) (hB : Big s0)  : ∀ (n : Nat) (s : RS) (x1 : Int32) (x2 : Int32) (x3 : Int32) (x4 : Int32), (7776 - x4.toInt).toNat < n → InvR s → FrR [45, 144, 150] s0 s → 0 ≤ x1.toInt → x1.toInt ≤ 20 → 0 ≤ x2.toInt → x2.toInt ≤ 3 → 0 ≤ x4.toInt → x4.toInt ≤ 7776 → Ok (r_lie_24L  n s x1 x2 x3 x4) (Q_r_lie s0) := by
  intro n
  induction n with
  | zero => intro s x1 x2 x3 x4 hn; omega
  | succ n ih =>
    intro s x1 x2 x3 x4 hn hI_s hF_s h_x1l h_x1u h_x2l h_x2u h_x4l h_x4u 
    exact ok_r_lie_24 s0 hB (r_lie_24L  n) ((7776 - x4.toInt).toNat) (fun zs zx1 zx2 zx3 zx4 g0 g1 g2 g3 g4 g5 g6 g7  hm => ih zs zx1 zx2 zx3 zx4 (by omega) g0 g1 g2 g3 g4 g5 g6 g7 ) s x1 x2 x3 x4 hI_s hF_s h_x1l h_x1u h_x2l h_x2u h_x4l h_x4u (Nat.le_refl _)
set_option maxHeartbeats 1000000 in
theorem ok_r_lieB (s0 : RS) (hB : Big s0)  (s : RS) (x1 : Int32) (x2 : Int32) (hI_s : InvR s) (hF_s : FrR [45, 144, 150] s0 s)  : Ok (r_lie  s x1 x2) (Q_r_lie s0) := by
  unfold r_lie
  refine ok_bindI (ok_r_isAsked _ _ _ hI_s) (fun r2 s1 hc_1 => ?_)
  have hI_s1 : InvR s1 := hc_1.1
  have hFc_s1 : FrR [] s s1 := hc_1.2.1
  have hF_s1 : FrR [45, 144, 150] s0 s1 := hF_s.trans hFc_s1 (by decide)
  have hl_r2 : 0 ≤ r2.toInt := hc_1.2.2.1
  have hu_r2 : r2.toInt ≤ 1 := hc_1.2.2.2.1
  have hx0_r2 : (¬ r2.toInt = 0 → 0 ≤ (x1).toInt ∧ (x1).toInt ≤ 20 ∧ 0 ≤ (x2).toInt ∧ (x2).toInt ≤ 3) := hc_1.2.2.2.2
  refine ok_ite (fun c_2 => ?_) (fun c_2 => ?_)
  · have c_2 := tn_eq (a := (r2).toInt) (b := 0) rfl (by decide) c_2
    exact ok_some ⟨hI_s1, hF_s1, (ti_rng _).1, (ti_rng _).2⟩
  · have c_2 := tn_ne (a := (r2).toInt) (b := 0) rfl (by decide) c_2
    refine ok_bindP (ok_r_fillsChances _  hI_s1 (hB.fr hF_s1 (by decide))) (fun s4 hc_3 => ?_)
    have hI_s4 : InvR s4 := hc_3.1
    have hFc_s4 : FrR [45, 144, 150] s1 s4 := hc_3.2
    have hF_s4 : FrR [45, 144, 150] s0 s4 := hF_s1.trans hFc_s4 (by decide)
    have l_0 : (0 : Int32).toInt = 0 := by decide
    exact okL_r_lie_24 s0 hB  fu _ _ _ _ _ (by unfold fu; omega) hI_s4 hF_s4 (by omega) (by omega) (by omega) (by omega) (by decide) (by decide) 
theorem ok_r_lie (s : RS) (x1 : Int32) (x2 : Int32) (hI_s : InvR s) (hB : Big s) : Ok (r_lie s x1 x2) (Q_r_lie s) := ok_r_lieB s hB s x1 x2 hI_s FrR.rfl
noncomputable abbrev Q_r_worstAt (s0 : RS) (y : Int32 × RS) : Prop := InvR y.2 ∧ FrR [] s0 y.2 ∧ 0 ≤ y.1.toInt ∧ y.1.toInt ≤ 2147483647
set_option maxHeartbeats 1000000 in
theorem ok_r_worstAt_37 (s0 : RS) (k4 : RS → Int32 → Int32 → Int32 → Option (Int32 × RS)) (M4 : Nat) (hk4 : ∀ (s : RS) (x1 : Int32) (x2 : Int32) (x3 : Int32), InvR s → FrR [] s0 s → 0 ≤ x1.toInt → x1.toInt ≤ 4 → 0 ≤ x2.toInt → 0 ≤ x3.toInt → x3.toInt ≤ 6 → (6 - x3.toInt).toNat < M4 → Ok (k4 s x1 x2 x3) (Q_r_worstAt s0)) (s : RS) (x1 : Int32) (x2 : Int32) (x3 : Int32) (hI_s : InvR s) (hF_s : FrR [] s0 s) (h_x1l : 0 ≤ x1.toInt) (h_x1u : x1.toInt ≤ 4) (h_x2l : 0 ≤ x2.toInt) (h_x3l : 0 ≤ x3.toInt) (h_x3u : x3.toInt ≤ 5) (hM4 : (6 - x3.toInt).toNat ≤ M4) : Ok (r_worstAt_37 k4 s x1 x2 x3) (Q_r_worstAt s0) := by
  unfold r_worstAt_37
  have a_1 : ((x3 + 1)).toInt = (x3).toInt + 1 := tn_add rfl (by decide) (by omega) (by omega)
  exact hk4 _ _ _ _ hI_s hF_s (by omega) (by omega) (by omega) (by omega) (by omega) (by omega)
set_option maxHeartbeats 1000000 in
theorem ok_r_worstAt_4 (s0 : RS) (k4 : RS → Int32 → Int32 → Int32 → Option (Int32 × RS)) (M4 : Nat) (hk4 : ∀ (s : RS) (x1 : Int32) (x2 : Int32) (x3 : Int32), InvR s → FrR [] s0 s → 0 ≤ x1.toInt → x1.toInt ≤ 4 → 0 ≤ x2.toInt → 0 ≤ x3.toInt → x3.toInt ≤ 6 → (6 - x3.toInt).toNat < M4 → Ok (k4 s x1 x2 x3) (Q_r_worstAt s0)) (s : RS) (x1 : Int32) (x2 : Int32) (x3 : Int32) (hI_s : InvR s) (hF_s : FrR [] s0 s) (h_x1l : 0 ≤ x1.toInt) (h_x1u : x1.toInt ≤ 4) (h_x2l : 0 ≤ x2.toInt) (h_x3l : 0 ≤ x3.toInt) (h_x3u : x3.toInt ≤ 6) (hM4 : (6 - x3.toInt).toNat ≤ M4) : Ok (r_worstAt_4 k4 s x1 x2 x3) (Q_r_worstAt s0) := by
  unfold r_worstAt_4
  refine ok_ite (fun c_1 => ?_) (fun c_1 => ?_)
  · have c_1 := tn_le (a := 6) (b := (x3).toInt) (by decide) rfl c_1
    exact ok_some ⟨hI_s, hF_s, by show 0 ≤ (x2).toInt; omega, (ti_rng _).2⟩
  · have c_1 := tn_nle (a := 6) (b := (x3).toInt) (by decide) rfl c_1
    have a_2 : ((6 * x1)).toInt = (x1).toInt * 6 := ti_cmul (c := 6) (by decide) (by omega) (by omega)
    have a_3 : (((6 * x1) + x3)).toInt = ((6 * x1)).toInt + (x3).toInt := tn_add rfl rfl (by omega) (by omega)
    refine ok_grd (vpb_ok (by omega) (by omega)) ?_
    refine ok_ite (fun c_4 => ?_) (fun c_4 => ?_)
    · have c_4 := tn_le (a := ((s.f 55 (Int32.toNatClampNeg ((6 * x1) + x3)))).toInt) (b := (x2).toInt) rfl rfl c_4
      exact ok_r_worstAt_37 s0 k4 M4 hk4 _ _ _ _ hI_s hF_s (by omega) (by omega) (by omega) (by omega) (by omega) (by omega)
    · have c_4 := tn_nle (a := ((s.f 55 (Int32.toNatClampNeg ((6 * x1) + x3)))).toInt) (b := (x2).toInt) rfl rfl c_4
      refine ok_grd (vpb_ok (by omega) (by omega)) ?_
      exact ok_r_worstAt_37 s0 k4 M4 hk4 _ _ _ _ hI_s hF_s (by omega) (by omega) (by omega) (by omega) (by omega) (by omega)
theorem okL_r_worstAt_4 (s0 : RS)  : ∀ (n : Nat) (s : RS) (x1 : Int32) (x2 : Int32) (x3 : Int32), (6 - x3.toInt).toNat < n → InvR s → FrR [] s0 s → 0 ≤ x1.toInt → x1.toInt ≤ 4 → 0 ≤ x2.toInt → 0 ≤ x3.toInt → x3.toInt ≤ 6 → Ok (r_worstAt_4L  n s x1 x2 x3) (Q_r_worstAt s0) := by
  intro n
  induction n with
  | zero => intro s x1 x2 x3 hn; omega
  | succ n ih =>
    intro s x1 x2 x3 hn hI_s hF_s h_x1l h_x1u h_x2l h_x3l h_x3u 
    exact ok_r_worstAt_4 s0 (r_worstAt_4L  n) ((6 - x3.toInt).toNat) (fun zs zx1 zx2 zx3 g0 g1 g2 g3 g4 g5 g6  hm => ih zs zx1 zx2 zx3 (by omega) g0 g1 g2 g3 g4 g5 g6 ) s x1 x2 x3 hI_s hF_s h_x1l h_x1u h_x2l h_x3l h_x3u (Nat.le_refl _)
set_option maxHeartbeats 1000000 in
theorem ok_r_worstAtB (s0 : RS)  (s : RS) (x1 : Int32) (hI_s : InvR s) (hF_s : FrR [] s0 s) (h_x1l : 0 ≤ x1.toInt) (h_x1u : x1.toInt ≤ 4)  : Ok (r_worstAt  s x1) (Q_r_worstAt s0) := by
  unfold r_worstAt
  have l_0 : (0 : Int32).toInt = 0 := by decide
  exact okL_r_worstAt_4 s0  fu _ _ _ _ (by unfold fu; omega) hI_s hF_s (by omega) (by omega) (by decide) (by decide) (by decide) 
theorem ok_r_worstAt (s : RS) (x1 : Int32) (hI_s : InvR s) (h_x1l : 0 ≤ x1.toInt) (h_x1u : x1.toInt ≤ 4) : Ok (r_worstAt s x1) (Q_r_worstAt s) := ok_r_worstAtB s s x1 hI_s FrR.rfl h_x1l h_x1u
noncomputable abbrev Q_r_ask (s0 : RS) (y : Int32 × RS) : Prop := InvR y.2 ∧ FrR [45, 144, 150, 155] s0 y.2 ∧ -2 ≤ y.1.toInt ∧ y.1.toInt ≤ 4
set_option maxHeartbeats 1000000 in
theorem ok_r_ask_168 (s0 : RS) (hB : Big s0) (k126 : RS → Int32 → Int32 → Int32 → Option (Int32 × RS)) (M126 : Nat) (hk126 : ∀ (s : RS) (x3 : Int32) (x4 : Int32) (x5 : Int32), InvR s → FrR [45, 144, 150, 155] s0 s → -2 ≤ x4.toInt → x4.toInt ≤ 4 → 0 ≤ x5.toInt → x5.toInt ≤ 5 → (5 - x5.toInt).toNat < M126 → Ok (k126 s x3 x4 x5) (Q_r_ask s0)) (s : RS) (x3 : Int32) (x4 : Int32) (x5 : Int32) (hI_s : InvR s) (hF_s : FrR [45, 144, 150, 155] s0 s) (h_x3l : 1 ≤ x3.toInt) (h_x4l : 0 ≤ x4.toInt) (h_x4u : x4.toInt ≤ 4) (h_x5l : 0 ≤ x5.toInt) (h_x5u : x5.toInt ≤ 4) (hM126 : (5 - x5.toInt).toNat ≤ M126) : Ok (r_ask_168 k126 s x3 x4 x5) (Q_r_ask s0) := by
  unfold r_ask_168
  have a_1 : ((x5 + 1)).toInt = (x5).toInt + 1 := tn_add rfl (by decide) (by omega) (by omega)
  exact hk126 _ _ _ _ hI_s hF_s (by omega) (by omega) (by omega) (by omega) (by omega)
set_option maxHeartbeats 1000000 in
theorem ok_r_ask_164 (s0 : RS) (hB : Big s0) (k126 : RS → Int32 → Int32 → Int32 → Option (Int32 × RS)) (M126 : Nat) (hk126 : ∀ (s : RS) (x3 : Int32) (x4 : Int32) (x5 : Int32), InvR s → FrR [45, 144, 150, 155] s0 s → -2 ≤ x4.toInt → x4.toInt ≤ 4 → 0 ≤ x5.toInt → x5.toInt ≤ 5 → (5 - x5.toInt).toNat < M126 → Ok (k126 s x3 x4 x5) (Q_r_ask s0)) (s : RS) (x3 : Int32) (x5 : Int32) (hI_s : InvR s) (hF_s : FrR [45, 144, 150, 155] s0 s) (h_x3l : 1 ≤ x3.toInt) (h_x5l : 0 ≤ x5.toInt) (h_x5u : x5.toInt ≤ 4) (hM126 : (5 - x5.toInt).toNat ≤ M126) : Ok (r_ask_164 k126 s x3 x5) (Q_r_ask s0) := by
  unfold r_ask_164
  exact ok_r_ask_168 s0 hB k126 M126 hk126 _ _ _ _ hI_s hF_s (by omega) (by omega) (by omega) (by omega) (by omega) (by omega)
set_option maxHeartbeats 1000000 in
theorem ok_r_ask_126 (s0 : RS) (hB : Big s0) (k126 : RS → Int32 → Int32 → Int32 → Option (Int32 × RS)) (M126 : Nat) (hk126 : ∀ (s : RS) (x3 : Int32) (x4 : Int32) (x5 : Int32), InvR s → FrR [45, 144, 150, 155] s0 s → -2 ≤ x4.toInt → x4.toInt ≤ 4 → 0 ≤ x5.toInt → x5.toInt ≤ 5 → (5 - x5.toInt).toNat < M126 → Ok (k126 s x3 x4 x5) (Q_r_ask s0)) (s : RS) (x3 : Int32) (x4 : Int32) (x5 : Int32) (hI_s : InvR s) (hF_s : FrR [45, 144, 150, 155] s0 s) (h_x4l : -2 ≤ x4.toInt) (h_x4u : x4.toInt ≤ 4) (h_x5l : 0 ≤ x5.toInt) (h_x5u : x5.toInt ≤ 5) (hM126 : (5 - x5.toInt).toNat ≤ M126) : Ok (r_ask_126 k126 s x3 x4 x5) (Q_r_ask s0) := by
  unfold r_ask_126
  have a_1 : 0 ≤ (s.v 18).toInt ∧ (s.v 18).toInt ≤ 1 := hI_s.1 18
  refine ok_grd (vpb_ok (by omega) (by omega)) ?_
  have a_2 : ((s.f 20 (Int32.toNatClampNeg (s.v 18)))).toInt = wv s0 := wv_fr hF_s (by decide) (by decide)
  have a_3 : 0 ≤ ((s.f 20 (Int32.toNatClampNeg (s.v 18)))).toInt ∧ ((s.f 20 (Int32.toNatClampNeg (s.v 18)))).toInt ≤ 5 := hI_s.2 20 _
  refine ok_ite (fun c_4 => ?_) (fun c_4 => ?_)
  · have c_4 := tn_le (a := ((s.f 20 (Int32.toNatClampNeg (s.v 18)))).toInt) (b := (x5).toInt) rfl rfl c_4
    exact ok_some ⟨hI_s, hF_s, by show -2 ≤ (x4).toInt; omega, by show (x4).toInt ≤ 4; omega⟩
  · have c_4 := tn_nle (a := ((s.f 20 (Int32.toNatClampNeg (s.v 18)))).toInt) (b := (x5).toInt) rfl rfl c_4
    refine ok_ite (fun c_5 => ?_) (fun c_5 => ?_)
    · have c_5 := tn_le (a := (x3).toInt) (b := 0) rfl (by decide) c_5
      exact ok_some ⟨hI_s, hF_s, by show -2 ≤ (x4).toInt; omega, by show (x4).toInt ≤ 4; omega⟩
    · have c_5 := tn_nle (a := (x3).toInt) (b := 0) rfl (by decide) c_5
      refine ok_ite (fun c_6 => ?_) (fun c_6 => ?_)
      · have c_6 := tn_lt (a := (x4).toInt) (b := 0) rfl (by decide) c_6
        exact ok_r_ask_164 s0 hB k126 M126 hk126 _ _ _ hI_s hF_s (by omega) (by omega) (by omega) (by omega)
      · have c_6 := tn_nlt (a := (x4).toInt) (b := 0) rfl (by decide) c_6
        refine ok_bindI (ok_r_worstAt _ _ hI_s (by omega) (by omega)) (fun r6 s5 hc_7 => ?_)
        have hI_s5 : InvR s5 := hc_7.1
        have hFc_s5 : FrR [] s s5 := hc_7.2.1
        have hF_s5 : FrR [45, 144, 150, 155] s0 s5 := hF_s.trans hFc_s5 (by decide)
        have hl_r6 : 0 ≤ r6.toInt := hc_7.2.2.1
        refine ok_bindI (ok_r_worstAt _ _ hI_s5 (by omega) (by omega)) (fun r8 s7 hc_8 => ?_)
        have hI_s7 : InvR s7 := hc_8.1
        have hFc_s7 : FrR [] s5 s7 := hc_8.2.1
        have hF_s7 : FrR [45, 144, 150, 155] s0 s7 := hF_s5.trans hFc_s7 (by decide)
        have hl_r8 : 0 ≤ r8.toInt := hc_8.2.2.1
        refine ok_ite (fun c_9 => ?_) (fun c_9 => ?_)
        · have c_9 := tn_le (a := (r8).toInt) (b := (r6).toInt) rfl rfl c_9
          exact ok_r_ask_168 s0 hB k126 M126 hk126 _ _ _ _ hI_s7 hF_s7 (by omega) (by omega) (by omega) (by omega) (by omega) (by omega)
        · have c_9 := tn_nle (a := (r8).toInt) (b := (r6).toInt) rfl rfl c_9
          exact ok_r_ask_164 s0 hB k126 M126 hk126 _ _ _ hI_s7 hF_s7 (by omega) (by omega) (by omega) (by omega)
theorem okL_r_ask_126 (s0 : RS) (hB : Big s0)  : ∀ (n : Nat) (s : RS) (x3 : Int32) (x4 : Int32) (x5 : Int32), (5 - x5.toInt).toNat < n → InvR s → FrR [45, 144, 150, 155] s0 s → -2 ≤ x4.toInt → x4.toInt ≤ 4 → 0 ≤ x5.toInt → x5.toInt ≤ 5 → Ok (r_ask_126L  n s x3 x4 x5) (Q_r_ask s0) := by
  intro n
  induction n with
  | zero => intro s x3 x4 x5 hn; omega
  | succ n ih =>
    intro s x3 x4 x5 hn hI_s hF_s h_x4l h_x4u h_x5l h_x5u 
    exact ok_r_ask_126 s0 hB (r_ask_126L  n) ((5 - x5.toInt).toNat) (fun zs zx3 zx4 zx5 g0 g1 g2 g3 g4 g5  hm => ih zs zx3 zx4 zx5 (by omega) g0 g1 g2 g3 g4 g5 ) s x3 x4 x5 hI_s hF_s h_x4l h_x4u h_x5l h_x5u (Nat.le_refl _)
set_option maxHeartbeats 1000000 in
theorem ok_r_ask_113 (s0 : RS) (hB : Big s0) (k41 : RS → Int32 → Int32 → Int32 → Int32 → Option (Int32 × RS)) (M41 : Nat) (hk41 : ∀ (s : RS) (x1 : Int32) (x2 : Int32) (x3 : Int32) (x4 : Int32), InvR s → FrR [45, 144, 150, 155] s0 s → 0 ≤ x1.toInt → x1.toInt ≤ 20 → 0 ≤ x2.toInt → x2.toInt ≤ 3 → 0 ≤ x4.toInt → x4.toInt ≤ 7776 → (7776 - x4.toInt).toNat < M41 → Ok (k41 s x1 x2 x3 x4) (Q_r_ask s0)) (s : RS) (x1 : Int32) (x2 : Int32) (x3 : Int32) (x4 : Int32) (hI_s : InvR s) (hF_s : FrR [45, 144, 150, 155] s0 s) (h_x1l : 0 ≤ x1.toInt) (h_x1u : x1.toInt ≤ 20) (h_x2l : 0 ≤ x2.toInt) (h_x2u : x2.toInt ≤ 3) (h_x4l : 0 ≤ x4.toInt) (h_x4u : x4.toInt ≤ 7775) (hM41 : (7776 - x4.toInt).toNat ≤ M41) : Ok (r_ask_113 k41 s x1 x2 x3 x4) (Q_r_ask s0) := by
  unfold r_ask_113
  have a_1 : ((x4 + 1)).toInt = (x4).toInt + 1 := tn_add rfl (by decide) (by omega) (by omega)
  exact hk41 _ _ _ _ _ hI_s hF_s (by omega) (by omega) (by omega) (by omega) (by omega) (by omega) (by omega)
set_option maxHeartbeats 1000000 in
theorem ok_r_ask_70 (s0 : RS) (hB : Big s0) (k41 : RS → Int32 → Int32 → Int32 → Int32 → Option (Int32 × RS)) (M41 : Nat) (hk41 : ∀ (s : RS) (x1 : Int32) (x2 : Int32) (x3 : Int32) (x4 : Int32), InvR s → FrR [45, 144, 150, 155] s0 s → 0 ≤ x1.toInt → x1.toInt ≤ 20 → 0 ≤ x2.toInt → x2.toInt ≤ 3 → 0 ≤ x4.toInt → x4.toInt ≤ 7776 → (7776 - x4.toInt).toNat < M41 → Ok (k41 s x1 x2 x3 x4) (Q_r_ask s0)) (k70 : RS → Int32 → Int32 → Int32 → Int32 → Int32 → Option (Int32 × RS)) (M70 : Nat) (hk70 : ∀ (s : RS) (x1 : Int32) (x2 : Int32) (x3 : Int32) (x4 : Int32) (x5 : Int32), InvR s → FrR [45, 144, 150, 155] s0 s → 0 ≤ x1.toInt → x1.toInt ≤ 20 → 0 ≤ x2.toInt → x2.toInt ≤ 3 → 0 ≤ x4.toInt → x4.toInt ≤ 7775 → 0 ≤ x5.toInt → x5.toInt ≤ 5 → (7776 - x4.toInt).toNat ≤ M41 → (5 - x5.toInt).toNat < M70 → Ok (k70 s x1 x2 x3 x4 x5) (Q_r_ask s0)) (s : RS) (x1 : Int32) (x2 : Int32) (x3 : Int32) (x4 : Int32) (x5 : Int32) (hI_s : InvR s) (hF_s : FrR [45, 144, 150, 155] s0 s) (h_x1l : 0 ≤ x1.toInt) (h_x1u : x1.toInt ≤ 20) (h_x2l : 0 ≤ x2.toInt) (h_x2u : x2.toInt ≤ 3) (h_x4l : 0 ≤ x4.toInt) (h_x4u : x4.toInt ≤ 7775) (h_x5l : 0 ≤ x5.toInt) (h_x5u : x5.toInt ≤ 5) (hM41 : (7776 - x4.toInt).toNat ≤ M41) (hM70 : (5 - x5.toInt).toNat ≤ M70) : Ok (r_ask_70 k41 k70 s x1 x2 x3 x4 x5) (Q_r_ask s0) := by
  unfold r_ask_70
  have a_1 : 0 ≤ (s.v 18).toInt ∧ (s.v 18).toInt ≤ 1 := hI_s.1 18
  refine ok_grd (vpb_ok (by omega) (by omega)) ?_
  have a_2 : ((s.f 20 (Int32.toNatClampNeg (s.v 18)))).toInt = wv s0 := wv_fr hF_s (by decide) (by decide)
  have a_3 : 0 ≤ ((s.f 20 (Int32.toNatClampNeg (s.v 18)))).toInt ∧ ((s.f 20 (Int32.toNatClampNeg (s.v 18)))).toInt ≤ 5 := hI_s.2 20 _
  refine ok_ite (fun c_4 => ?_) (fun c_4 => ?_)
  · have c_4 := tn_le (a := ((s.f 20 (Int32.toNatClampNeg (s.v 18)))).toInt) (b := (x5).toInt) rfl rfl c_4
    exact ok_r_ask_113 s0 hB k41 M41 hk41 _ _ _ _ _ hI_s hF_s (by omega) (by omega) (by omega) (by omega) (by omega) (by omega) (by omega)
  · have c_4 := tn_nle (a := ((s.f 20 (Int32.toNatClampNeg (s.v 18)))).toInt) (b := (x5).toInt) rfl rfl c_4
    refine ok_bindI (ok_r_thingAt _ _ _ hI_s (hB.fr hF_s (by decide)) (by omega) (by omega) (by omega) (by omega)) (fun r4 s3 hc_5 => ?_)
    have hI_s3 : InvR s3 := hc_5.1
    have hFc_s3 : FrR [] s s3 := hc_5.2.1
    have hF_s3 : FrR [45, 144, 150, 155] s0 s3 := hF_s.trans hFc_s3 (by decide)
    have hl_r4 : 0 ≤ r4.toInt := hc_5.2.2.1
    have hu_r4 : r4.toInt ≤ 5 := hc_5.2.2.2
    have a_6 : ((6 * x5)).toInt = (x5).toInt * 6 := ti_cmul (c := 6) (by decide) (by omega) (by omega)
    have a_7 : (((6 * x5) + r4)).toInt = ((6 * x5)).toInt + (r4).toInt := tn_add rfl rfl (by omega) (by omega)
    refine ok_grd (vpb_ok (by omega) (by omega)) ?_
    refine ok_grd (vpb_ok (by omega) (by omega)) ?_
    refine ok_let (fun s7 hs7 => ?_)
    have hI_s7 : InvR s7 := by rw [← hs7]; exact hI_s3.sfF (k := 55) rfl rfl
    have hF_s7 : FrR [45, 144, 150, 155] s0 s7 := by rw [← hs7]; exact hF_s3.sf (k := 55) (by decide)
    have a_8 : ((x5 + 1)).toInt = (x5).toInt + 1 := tn_add rfl (by decide) (by omega) (by omega)
    exact hk70 _ _ _ _ _ _ hI_s7 hF_s7 (by omega) (by omega) (by omega) (by omega) (by omega) (by omega) (by omega) (by omega) (by omega) (by omega)
theorem okL_r_ask_70 (s0 : RS) (hB : Big s0) (k41 : RS → Int32 → Int32 → Int32 → Int32 → Option (Int32 × RS)) (M41 : Nat) (hk41 : ∀ (s : RS) (x1 : Int32) (x2 : Int32) (x3 : Int32) (x4 : Int32), InvR s → FrR [45, 144, 150, 155] s0 s → 0 ≤ x1.toInt → x1.toInt ≤ 20 → 0 ≤ x2.toInt → x2.toInt ≤ 3 → 0 ≤ x4.toInt → x4.toInt ≤ 7776 → (7776 - x4.toInt).toNat < M41 → Ok (k41 s x1 x2 x3 x4) (Q_r_ask s0)) : ∀ (n : Nat) (s : RS) (x1 : Int32) (x2 : Int32) (x3 : Int32) (x4 : Int32) (x5 : Int32), (5 - x5.toInt).toNat < n → InvR s → FrR [45, 144, 150, 155] s0 s → 0 ≤ x1.toInt → x1.toInt ≤ 20 → 0 ≤ x2.toInt → x2.toInt ≤ 3 → 0 ≤ x4.toInt → x4.toInt ≤ 7775 → 0 ≤ x5.toInt → x5.toInt ≤ 5 → (7776 - x4.toInt).toNat ≤ M41 → Ok (r_ask_70L k41 n s x1 x2 x3 x4 x5) (Q_r_ask s0) := by
  intro n
  induction n with
  | zero => intro s x1 x2 x3 x4 x5 hn; omega
  | succ n ih =>
    intro s x1 x2 x3 x4 x5 hn hI_s hF_s h_x1l h_x1u h_x2l h_x2u h_x4l h_x4u h_x5l h_x5u hM41
    exact ok_r_ask_70 s0 hB k41 M41 hk41 (r_ask_70L k41 n) ((5 - x5.toInt).toNat) (fun zs zx1 zx2 zx3 zx4 zx5 g0 g1 g2 g3 g4 g5 g6 g7 g8 g9 o41 hm => ih zs zx1 zx2 zx3 zx4 zx5 (by omega) g0 g1 g2 g3 g4 g5 g6 g7 g8 g9 o41) s x1 x2 x3 x4 x5 hI_s hF_s h_x1l h_x1u h_x2l h_x2u h_x4l h_x4u h_x5l h_x5u hM41 (Nat.le_refl _)
set_option maxHeartbeats 1000000 in
theorem ok_r_ask_41 (s0 : RS) (hB : Big s0) (k41 : RS → Int32 → Int32 → Int32 → Int32 → Option (Int32 × RS)) (M41 : Nat) (hk41 : ∀ (s : RS) (x1 : Int32) (x2 : Int32) (x3 : Int32) (x4 : Int32), InvR s → FrR [45, 144, 150, 155] s0 s → 0 ≤ x1.toInt → x1.toInt ≤ 20 → 0 ≤ x2.toInt → x2.toInt ≤ 3 → 0 ≤ x4.toInt → x4.toInt ≤ 7776 → (7776 - x4.toInt).toNat < M41 → Ok (k41 s x1 x2 x3 x4) (Q_r_ask s0)) (s : RS) (x1 : Int32) (x2 : Int32) (x3 : Int32) (x4 : Int32) (hI_s : InvR s) (hF_s : FrR [45, 144, 150, 155] s0 s) (h_x1l : 0 ≤ x1.toInt) (h_x1u : x1.toInt ≤ 20) (h_x2l : 0 ≤ x2.toInt) (h_x2u : x2.toInt ≤ 3) (h_x4l : 0 ≤ x4.toInt) (h_x4u : x4.toInt ≤ 7776) (hM41 : (7776 - x4.toInt).toNat ≤ M41) : Ok (r_ask_41 k41 s x1 x2 x3 x4) (Q_r_ask s0) := by
  unfold r_ask_41
  refine ok_bindI (ok_r_guesses _  hI_s (hB.fr hF_s (by decide))) (fun r2 s1 hc_1 => ?_)
  have hI_s1 : InvR s1 := hc_1.1
  have hFc_s1 : FrR [] s s1 := hc_1.2.1
  have hF_s1 : FrR [45, 144, 150, 155] s0 s1 := hF_s.trans hFc_s1 (by decide)
  have hl_r2 : 1 ≤ r2.toInt := hc_1.2.2.1
  have hu_r2 : r2.toInt ≤ 7776 := hc_1.2.2.2
  refine ok_ite (fun c_2 => ?_) (fun c_2 => ?_)
  · have c_2 := tn_le (a := (r2).toInt) (b := (x4).toInt) rfl rfl c_2
    have l_m2 : ((-2) : Int32).toInt = -2 := by decide
    have l_0 : (0 : Int32).toInt = 0 := by decide
    exact okL_r_ask_126 s0 hB  fu _ _ _ _ (by unfold fu; omega) hI_s1 hF_s1 (by decide) (by decide) (by decide) (by decide) 
  · have c_2 := tn_nle (a := (r2).toInt) (b := (x4).toInt) rfl rfl c_2
    refine ok_bindI (ok_r_doesFit _ _ _ _ hI_s1 (hB.fr hF_s1 (by decide)) (by omega) (by omega) (by omega) (by omega) (by omega) (by omega)) (fun r5 s4 hc_3 => ?_)
    have hI_s4 : InvR s4 := hc_3.1
    have hFc_s4 : FrR [] s1 s4 := hc_3.2.1
    have hF_s4 : FrR [45, 144, 150, 155] s0 s4 := hF_s1.trans hFc_s4 (by decide)
    have hl_r5 : 0 ≤ r5.toInt := hc_3.2.2.1
    have hu_r5 : r5.toInt ≤ 1 := hc_3.2.2.2
    refine ok_ite (fun c_4 => ?_) (fun c_4 => ?_)
    · have c_4 := tn_eq (a := (r5).toInt) (b := 0) rfl (by decide) c_4
      exact ok_r_ask_113 s0 hB k41 M41 hk41 _ _ _ _ _ hI_s4 hF_s4 (by omega) (by omega) (by omega) (by omega) (by omega) (by omega) (by omega)
    · have c_4 := tn_ne (a := (r5).toInt) (b := 0) rfl (by decide) c_4
      have l_0 : (0 : Int32).toInt = 0 := by decide
      exact okL_r_ask_70 s0 hB k41 M41 hk41 fu _ _ _ _ _ _ (by unfold fu; omega) hI_s4 hF_s4 (by omega) (by omega) (by omega) (by omega) (by omega) (by omega) (by decide) (by decide) (by omega)
theorem okL_r_ask_41 (s0 : RS) (hB : Big s0)  : ∀ (n : Nat) (s : RS) (x1 : Int32) (x2 : Int32) (x3 : Int32) (x4 : Int32), (7776 - x4.toInt).toNat < n → InvR s → FrR [45, 144, 150, 155] s0 s → 0 ≤ x1.toInt → x1.toInt ≤ 20 → 0 ≤ x2.toInt → x2.toInt ≤ 3 → 0 ≤ x4.toInt → x4.toInt ≤ 7776 → Ok (r_ask_41L  n s x1 x2 x3 x4) (Q_r_ask s0) := by
  intro n
  induction n with
  | zero => intro s x1 x2 x3 x4 hn; omega
  | succ n ih =>
    intro s x1 x2 x3 x4 hn hI_s hF_s h_x1l h_x1u h_x2l h_x2u h_x4l h_x4u 
    exact ok_r_ask_41 s0 hB (r_ask_41L  n) ((7776 - x4.toInt).toNat) (fun zs zx1 zx2 zx3 zx4 g0 g1 g2 g3 g4 g5 g6 g7  hm => ih zs zx1 zx2 zx3 zx4 (by omega) g0 g1 g2 g3 g4 g5 g6 g7 ) s x1 x2 x3 x4 hI_s hF_s h_x1l h_x1u h_x2l h_x2u h_x4l h_x4u (Nat.le_refl _)
set_option maxHeartbeats 1000000 in
theorem ok_r_ask_17 (s0 : RS) (hB : Big s0) (k17 : RS → Int32 → Int32 → Int32 → Option (Int32 × RS)) (M17 : Nat) (hk17 : ∀ (s : RS) (x1 : Int32) (x2 : Int32) (x3 : Int32), InvR s → FrR [45, 144, 150, 155] s0 s → 0 ≤ x1.toInt → x1.toInt ≤ 20 → 0 ≤ x2.toInt → x2.toInt ≤ 3 → 0 ≤ x3.toInt → x3.toInt ≤ 30 → (30 - x3.toInt).toNat < M17 → Ok (k17 s x1 x2 x3) (Q_r_ask s0)) (s : RS) (x1 : Int32) (x2 : Int32) (x3 : Int32) (hI_s : InvR s) (hF_s : FrR [45, 144, 150, 155] s0 s) (h_x1l : 0 ≤ x1.toInt) (h_x1u : x1.toInt ≤ 20) (h_x2l : 0 ≤ x2.toInt) (h_x2u : x2.toInt ≤ 3) (h_x3l : 0 ≤ x3.toInt) (h_x3u : x3.toInt ≤ 30) (hM17 : (30 - x3.toInt).toNat ≤ M17) : Ok (r_ask_17 k17 s x1 x2 x3) (Q_r_ask s0) := by
  unfold r_ask_17
  refine ok_ite (fun c_1 => ?_) (fun c_1 => ?_)
  · have c_1 := tn_le (a := 30) (b := (x3).toInt) (by decide) rfl c_1
    have l_0 : (0 : Int32).toInt = 0 := by decide
    exact okL_r_ask_41 s0 hB  fu _ _ _ _ _ (by unfold fu; omega) hI_s hF_s (by omega) (by omega) (by omega) (by omega) (by decide) (by decide) 
  · have c_1 := tn_nle (a := 30) (b := (x3).toInt) (by decide) rfl c_1
    refine ok_grd (vpb_ok (by omega) (by omega)) ?_
    refine ok_let (fun s3 hs3 => ?_)
    have hI_s3 : InvR s3 := by rw [← hs3]; exact hI_s.sfF (k := 55) rfl rfl
    have hF_s3 : FrR [45, 144, 150, 155] s0 s3 := by rw [← hs3]; exact hF_s.sf (k := 55) (by decide)
    have a_2 : ((x3 + 1)).toInt = (x3).toInt + 1 := tn_add rfl (by decide) (by omega) (by omega)
    exact hk17 _ _ _ _ hI_s3 hF_s3 (by omega) (by omega) (by omega) (by omega) (by omega) (by omega) (by omega)
theorem okL_r_ask_17 (s0 : RS) (hB : Big s0)  : ∀ (n : Nat) (s : RS) (x1 : Int32) (x2 : Int32) (x3 : Int32), (30 - x3.toInt).toNat < n → InvR s → FrR [45, 144, 150, 155] s0 s → 0 ≤ x1.toInt → x1.toInt ≤ 20 → 0 ≤ x2.toInt → x2.toInt ≤ 3 → 0 ≤ x3.toInt → x3.toInt ≤ 30 → Ok (r_ask_17L  n s x1 x2 x3) (Q_r_ask s0) := by
  intro n
  induction n with
  | zero => intro s x1 x2 x3 hn; omega
  | succ n ih =>
    intro s x1 x2 x3 hn hI_s hF_s h_x1l h_x1u h_x2l h_x2u h_x3l h_x3u 
    exact ok_r_ask_17 s0 hB (r_ask_17L  n) ((30 - x3.toInt).toNat) (fun zs zx1 zx2 zx3 g0 g1 g2 g3 g4 g5 g6 g7  hm => ih zs zx1 zx2 zx3 (by omega) g0 g1 g2 g3 g4 g5 g6 g7 ) s x1 x2 x3 hI_s hF_s h_x1l h_x1u h_x2l h_x2u h_x3l h_x3u (Nat.le_refl _)
set_option maxHeartbeats 1000000 in
theorem ok_r_askB (s0 : RS) (hB : Big s0)  (s : RS) (x1 : Int32) (x2 : Int32) (hI_s : InvR s) (hF_s : FrR [45, 144, 150, 155] s0 s)  : Ok (r_ask  s x1 x2) (Q_r_ask s0) := by
  unfold r_ask
  refine ok_bindI (ok_r_isAsked _ _ _ hI_s) (fun r2 s1 hc_1 => ?_)
  have hI_s1 : InvR s1 := hc_1.1
  have hFc_s1 : FrR [] s s1 := hc_1.2.1
  have hF_s1 : FrR [45, 144, 150, 155] s0 s1 := hF_s.trans hFc_s1 (by decide)
  have hl_r2 : 0 ≤ r2.toInt := hc_1.2.2.1
  have hu_r2 : r2.toInt ≤ 1 := hc_1.2.2.2.1
  have hx0_r2 : (¬ r2.toInt = 0 → 0 ≤ (x1).toInt ∧ (x1).toInt ≤ 20 ∧ 0 ≤ (x2).toInt ∧ (x2).toInt ≤ 3) := hc_1.2.2.2.2
  refine ok_ite (fun c_2 => ?_) (fun c_2 => ?_)
  · have c_2 := tn_eq (a := (r2).toInt) (b := 0) rfl (by decide) c_2
    exact ok_some ⟨hI_s1, hF_s1, by show -2 ≤ ((-1) : Int32).toInt; decide, by show ((-1) : Int32).toInt ≤ 4; decide⟩
  · have c_2 := tn_ne (a := (r2).toInt) (b := 0) rfl (by decide) c_2
    refine ok_bindP (ok_r_fillsChances _  hI_s1 (hB.fr hF_s1 (by decide))) (fun s4 hc_3 => ?_)
    have hI_s4 : InvR s4 := hc_3.1
    have hFc_s4 : FrR [45, 144, 150] s1 s4 := hc_3.2
    have hF_s4 : FrR [45, 144, 150, 155] s0 s4 := hF_s1.trans hFc_s4 (by decide)
    have l_0 : (0 : Int32).toInt = 0 := by decide
    exact okL_r_ask_17 s0 hB  fu _ _ _ _ (by unfold fu; omega) hI_s4 hF_s4 (by omega) (by omega) (by omega) (by omega) (by decide) (by decide) 
theorem ok_r_ask (s : RS) (x1 : Int32) (x2 : Int32) (hI_s : InvR s) (hB : Big s) : Ok (r_ask s x1 x2) (Q_r_ask s) := ok_r_askB s hB s x1 x2 hI_s FrR.rfl
end
section
noncomputable abbrev Q_r_hold (s0 : RS) (y : Int32 × RS) : Prop := InvR y.2 ∧ FrR [156, 157] s0 y.2 ∧ 0 ≤ y.1.toInt ∧ y.1.toInt ≤ 1
set_option maxHeartbeats 1000000 in
theorem ok_r_hold_20 (s0 : RS) (k20 : RS → Int32 → Int32 → Option (Int32 × RS)) (M20 : Nat) (hk20 : ∀ (s : RS) (x1 : Int32) (x2 : Int32), InvR s → FrR [156, 157] s0 s → 0 ≤ x1.toInt → x1.toInt ≤ 2 → 0 ≤ x2.toInt → x2.toInt ≤ 29 → (29 - x2.toInt).toNat < M20 → Ok (k20 s x1 x2) (Q_r_hold s0)) (s : RS) (x1 : Int32) (x2 : Int32) (hI_s : InvR s) (hF_s : FrR [156, 157] s0 s) (h_x1l : 0 ≤ x1.toInt) (h_x1u : x1.toInt ≤ 2) (h_x2l : 0 ≤ x2.toInt) (h_x2u : x2.toInt ≤ 29) (hM20 : (29 - x2.toInt).toNat ≤ M20) : Ok (r_hold_20 k20 s x1 x2) (Q_r_hold s0) := by
  unfold r_hold_20
  refine ok_ite (fun c_1 => ?_) (fun c_1 => ?_)
  · have c_1 := tn_le (a := 29) (b := (x2).toInt) (by decide) rfl c_1
    exact ok_some ⟨hI_s, hF_s, by show 0 ≤ (1 : Int32).toInt; decide, by show (1 : Int32).toInt ≤ 1; decide⟩
  · have c_1 := tn_nle (a := 29) (b := (x2).toInt) (by decide) rfl c_1
    refine ok_grd (vpb_ok (by omega) (by omega)) ?_
    have a_2 : ((29 * x1)).toInt = (x1).toInt * 29 := ti_cmul (c := 29) (by decide) (by omega) (by omega)
    have a_3 : (((29 * x1) + x2)).toInt = ((29 * x1)).toInt + (x2).toInt := tn_add rfl rfl (by omega) (by omega)
    refine ok_grd (vpb_ok (by omega) (by omega)) ?_
    refine ok_let (fun s4 hs4 => ?_)
    have hI_s4 : InvR s4 := by rw [← hs4]; exact hI_s.sfF (k := 57) rfl rfl
    have hF_s4 : FrR [156, 157] s0 s4 := by rw [← hs4]; exact hF_s.sf (k := 57) (by decide)
    have a_4 : ((x2 + 1)).toInt = (x2).toInt + 1 := tn_add rfl (by decide) (by omega) (by omega)
    exact hk20 _ _ _ hI_s4 hF_s4 (by omega) (by omega) (by omega) (by omega) (by omega)
theorem okL_r_hold_20 (s0 : RS)  : ∀ (n : Nat) (s : RS) (x1 : Int32) (x2 : Int32), (29 - x2.toInt).toNat < n → InvR s → FrR [156, 157] s0 s → 0 ≤ x1.toInt → x1.toInt ≤ 2 → 0 ≤ x2.toInt → x2.toInt ≤ 29 → Ok (r_hold_20L  n s x1 x2) (Q_r_hold s0) := by
  intro n
  induction n with
  | zero => intro s x1 x2 hn; omega
  | succ n ih =>
    intro s x1 x2 hn hI_s hF_s h_x1l h_x1u h_x2l h_x2u 
    exact ok_r_hold_20 s0 (r_hold_20L  n) ((29 - x2.toInt).toNat) (fun zs zx1 zx2 g0 g1 g2 g3 g4 g5  hm => ih zs zx1 zx2 (by omega) g0 g1 g2 g3 g4 g5 ) s x1 x2 hI_s hF_s h_x1l h_x1u h_x2l h_x2u (Nat.le_refl _)
set_option maxHeartbeats 1000000 in
theorem ok_r_holdB (s0 : RS)  (s : RS) (x1 : Int32) (hI_s : InvR s) (hF_s : FrR [156, 157] s0 s)  : Ok (r_hold  s x1) (Q_r_hold s0) := by
  unfold r_hold
  refine ok_bindP (ok_r_in _ _ _ (by decide) (by decide) (by decide) (by decide)) (fun r1 hc_1 => ?_)
  have l_0 : (0 : Int32).toInt = 0 := by decide
  have l_2 : (2 : Int32).toInt = 2 := by decide
  have hl_r1 : 0 ≤ r1.toInt := hc_1.1
  have hu_r1 : r1.toInt ≤ 1 := hc_1.2.1
  have hx0_r1 : (¬ r1.toInt = 0 → (0 : Int32).toInt ≤ (x1).toInt ∧ (x1).toInt ≤ (2 : Int32).toInt) := hc_1.2.2
  refine ok_ite (fun c_2 => ?_) (fun c_2 => ?_)
  · have c_2 := tn_eq (a := (r1).toInt) (b := 0) rfl (by decide) c_2
    exact ok_some ⟨hI_s, hF_s, by show 0 ≤ (0 : Int32).toInt; decide, by show (0 : Int32).toInt ≤ 1; decide⟩
  · have c_2 := tn_ne (a := (r1).toInt) (b := 0) rfl (by decide) c_2
    refine ok_grd (vpb_ok (by omega) (by omega)) ?_
    refine ok_let (fun s4 hs4 => ?_)
    have hI_s4 : InvR s4 := by rw [← hs4]; exact hI_s.sfF (k := 56) rfl rfl
    have hF_s4 : FrR [156, 157] s0 s4 := by rw [← hs4]; exact hF_s.sf (k := 56) (by decide)
    exact okL_r_hold_20 s0  fu _ _ _ (by unfold fu; omega) hI_s4 hF_s4 (by omega) (by omega) (by decide) (by decide) 
theorem ok_r_hold (s : RS) (x1 : Int32) (hI_s : InvR s) : Ok (r_hold s x1) (Q_r_hold s) := ok_r_holdB s s x1 hI_s FrR.rfl
noncomputable abbrev Q_r_restore (s0 : RS) (y : Int32 × RS) : Prop := InvR y.2 ∧ FrR [48, 143] s0 y.2 ∧ 0 ≤ y.1.toInt ∧ y.1.toInt ≤ 1
set_option maxHeartbeats 1000000 in
theorem ok_r_restore_22 (s0 : RS) (k22 : RS → Int32 → Int32 → Option (Int32 × RS)) (M22 : Nat) (hk22 : ∀ (s : RS) (x1 : Int32) (x2 : Int32), InvR s → FrR [48, 143] s0 s → 0 ≤ x1.toInt → x1.toInt ≤ 2 → 0 ≤ x2.toInt → x2.toInt ≤ 29 → (29 - x2.toInt).toNat < M22 → Ok (k22 s x1 x2) (Q_r_restore s0)) (s : RS) (x1 : Int32) (x2 : Int32) (hI_s : InvR s) (hF_s : FrR [48, 143] s0 s) (h_x1l : 0 ≤ x1.toInt) (h_x1u : x1.toInt ≤ 2) (h_x2l : 0 ≤ x2.toInt) (h_x2u : x2.toInt ≤ 29) (hM22 : (29 - x2.toInt).toNat ≤ M22) : Ok (r_restore_22 k22 s x1 x2) (Q_r_restore s0) := by
  unfold r_restore_22
  refine ok_ite (fun c_1 => ?_) (fun c_1 => ?_)
  · have c_1 := tn_le (a := 29) (b := (x2).toInt) (by decide) rfl c_1
    refine ok_let (fun s2 hs2 => ?_)
    have hI_s2 : InvR s2 := by rw [← hs2]; exact hI_s.sv (k := 48) (show (0 : Int) ≤ (0 : Int32).toInt by decide) (show (0 : Int32).toInt ≤ (40 : Int) by decide)
    have hF_s2 : FrR [48, 143] s0 s2 := by rw [← hs2]; exact hF_s.sv (k := 48) (by decide)
    exact ok_some ⟨hI_s2, hF_s2, by show 0 ≤ (1 : Int32).toInt; decide, by show (1 : Int32).toInt ≤ 1; decide⟩
  · have c_1 := tn_nle (a := 29) (b := (x2).toInt) (by decide) rfl c_1
    have a_2 : ((29 * x1)).toInt = (x1).toInt * 29 := ti_cmul (c := 29) (by decide) (by omega) (by omega)
    have a_3 : (((29 * x1) + x2)).toInt = ((29 * x1)).toInt + (x2).toInt := tn_add rfl rfl (by omega) (by omega)
    refine ok_grd (vpb_ok (by omega) (by omega)) ?_
    refine ok_grd (vpb_ok (by omega) (by omega)) ?_
    refine ok_let (fun s6 hs6 => ?_)
    have hI_s6 : InvR s6 := by rw [← hs6]; exact hI_s.sfF (k := 43) rfl rfl
    have hF_s6 : FrR [48, 143] s0 s6 := by rw [← hs6]; exact hF_s.sf (k := 43) (by decide)
    have a_4 : ((x2 + 1)).toInt = (x2).toInt + 1 := tn_add rfl (by decide) (by omega) (by omega)
    exact hk22 _ _ _ hI_s6 hF_s6 (by omega) (by omega) (by omega) (by omega) (by omega)
theorem okL_r_restore_22 (s0 : RS)  : ∀ (n : Nat) (s : RS) (x1 : Int32) (x2 : Int32), (29 - x2.toInt).toNat < n → InvR s → FrR [48, 143] s0 s → 0 ≤ x1.toInt → x1.toInt ≤ 2 → 0 ≤ x2.toInt → x2.toInt ≤ 29 → Ok (r_restore_22L  n s x1 x2) (Q_r_restore s0) := by
  intro n
  induction n with
  | zero => intro s x1 x2 hn; omega
  | succ n ih =>
    intro s x1 x2 hn hI_s hF_s h_x1l h_x1u h_x2l h_x2u 
    exact ok_r_restore_22 s0 (r_restore_22L  n) ((29 - x2.toInt).toNat) (fun zs zx1 zx2 g0 g1 g2 g3 g4 g5  hm => ih zs zx1 zx2 (by omega) g0 g1 g2 g3 g4 g5 ) s x1 x2 hI_s hF_s h_x1l h_x1u h_x2l h_x2u (Nat.le_refl _)
set_option maxHeartbeats 1000000 in
theorem ok_r_restoreB (s0 : RS)  (s : RS) (x1 : Int32) (hI_s : InvR s) (hF_s : FrR [48, 143] s0 s)  : Ok (r_restore  s x1) (Q_r_restore s0) := by
  unfold r_restore
  refine ok_bindP (ok_r_in _ _ _ (by decide) (by decide) (by decide) (by decide)) (fun r1 hc_1 => ?_)
  have l_0 : (0 : Int32).toInt = 0 := by decide
  have l_2 : (2 : Int32).toInt = 2 := by decide
  have hl_r1 : 0 ≤ r1.toInt := hc_1.1
  have hu_r1 : r1.toInt ≤ 1 := hc_1.2.1
  have hx0_r1 : (¬ r1.toInt = 0 → (0 : Int32).toInt ≤ (x1).toInt ∧ (x1).toInt ≤ (2 : Int32).toInt) := hc_1.2.2
  refine ok_ite (fun c_2 => ?_) (fun c_2 => ?_)
  · have c_2 := tn_eq (a := (r1).toInt) (b := 0) rfl (by decide) c_2
    exact ok_some ⟨hI_s, hF_s, by show 0 ≤ (0 : Int32).toInt; decide, by show (0 : Int32).toInt ≤ 1; decide⟩
  · have c_2 := tn_ne (a := (r1).toInt) (b := 0) rfl (by decide) c_2
    refine ok_grd (vpb_ok (by omega) (by omega)) ?_
    refine ok_ite (fun c_3 => ?_) (fun c_3 => ?_)
    · have c_3 := tn_eq (a := ((s.f 56 (Int32.toNatClampNeg x1))).toInt) (b := 0) rfl (by decide) c_3
      exact ok_some ⟨hI_s, hF_s, by show 0 ≤ (0 : Int32).toInt; decide, by show (0 : Int32).toInt ≤ 1; decide⟩
    · have c_3 := tn_ne (a := ((s.f 56 (Int32.toNatClampNeg x1))).toInt) (b := 0) rfl (by decide) c_3
      exact okL_r_restore_22 s0  fu _ _ _ (by unfold fu; omega) hI_s hF_s (by omega) (by omega) (by decide) (by decide) 
theorem ok_r_restore (s : RS) (x1 : Int32) (hI_s : InvR s) : Ok (r_restore s x1) (Q_r_restore s) := ok_r_restoreB s s x1 hI_s FrR.rfl
noncomputable abbrev Q_r_partiesIn (s0 : RS) (y : Int32 × RS) : Prop := InvR y.2 ∧ FrR [] s0 y.2 ∧ -2147483648 ≤ y.1.toInt ∧ y.1.toInt ≤ 2147483647
set_option maxHeartbeats 1000000 in
theorem ok_r_partiesIn_36 (s0 : RS) (k4 : RS → Int32 → Int32 → Int32 → Option (Int32 × RS)) (M4 : Nat) (hk4 : ∀ (s : RS) (x1 : Int32) (x2 : Int32) (x3 : Int32), InvR s → FrR [] s0 s → 0 ≤ x1.toInt → x1.toInt ≤ 2 → 0 ≤ x3.toInt → x3.toInt ≤ 6 → (6 - x3.toInt).toNat < M4 → Ok (k4 s x1 x2 x3) (Q_r_partiesIn s0)) (s : RS) (x1 : Int32) (x2 : Int32) (x3 : Int32) (hI_s : InvR s) (hF_s : FrR [] s0 s) (h_x1l : 0 ≤ x1.toInt) (h_x1u : x1.toInt ≤ 2) (h_x3l : 0 ≤ x3.toInt) (h_x3u : x3.toInt ≤ 5) (hM4 : (6 - x3.toInt).toNat ≤ M4) : Ok (r_partiesIn_36 k4 s x1 x2 x3) (Q_r_partiesIn s0) := by
  unfold r_partiesIn_36
  have a_1 : ((x3 + 1)).toInt = (x3).toInt + 1 := tn_add rfl (by decide) (by omega) (by omega)
  exact hk4 _ _ _ _ hI_s hF_s (by omega) (by omega) (by omega) (by omega) (by omega)
set_option maxHeartbeats 1000000 in
theorem ok_r_partiesIn_4 (s0 : RS) (k4 : RS → Int32 → Int32 → Int32 → Option (Int32 × RS)) (M4 : Nat) (hk4 : ∀ (s : RS) (x1 : Int32) (x2 : Int32) (x3 : Int32), InvR s → FrR [] s0 s → 0 ≤ x1.toInt → x1.toInt ≤ 2 → 0 ≤ x3.toInt → x3.toInt ≤ 6 → (6 - x3.toInt).toNat < M4 → Ok (k4 s x1 x2 x3) (Q_r_partiesIn s0)) (s : RS) (x1 : Int32) (x2 : Int32) (x3 : Int32) (hI_s : InvR s) (hF_s : FrR [] s0 s) (h_x1l : 0 ≤ x1.toInt) (h_x1u : x1.toInt ≤ 2) (h_x3l : 0 ≤ x3.toInt) (h_x3u : x3.toInt ≤ 6) (hM4 : (6 - x3.toInt).toNat ≤ M4) : Ok (r_partiesIn_4 k4 s x1 x2 x3) (Q_r_partiesIn s0) := by
  unfold r_partiesIn_4
  have a_1 : 0 ≤ (s.v 18).toInt ∧ (s.v 18).toInt ≤ 1 := hI_s.1 18
  refine ok_grd (vpb_ok (by omega) (by omega)) ?_
  have a_2 : 0 ≤ ((s.f 23 (Int32.toNatClampNeg (s.v 18)))).toInt ∧ ((s.f 23 (Int32.toNatClampNeg (s.v 18)))).toInt ≤ 6 := hI_s.2 23 _
  refine ok_ite (fun c_3 => ?_) (fun c_3 => ?_)
  · have c_3 := tn_le (a := ((s.f 23 (Int32.toNatClampNeg (s.v 18)))).toInt) (b := (x3).toInt) rfl rfl c_3
    exact ok_some ⟨hI_s, hF_s, (ti_rng _).1, (ti_rng _).2⟩
  · have c_3 := tn_nle (a := ((s.f 23 (Int32.toNatClampNeg (s.v 18)))).toInt) (b := (x3).toInt) rfl rfl c_3
    have a_4 : ((15 + x3)).toInt = 15 + (x3).toInt := tn_add (by decide) rfl (by omega) (by omega)
    refine ok_grd (vpb_ok (by omega) (by omega)) ?_
    refine ok_ite (fun c_5 => ?_) (fun c_5 => ?_)
    · have c_5 := tn_eq (a := ((s.f 44 (Int32.toNatClampNeg (15 + x3)))).toInt) (b := (x1).toInt) rfl rfl c_5
      exact ok_r_partiesIn_36 s0 k4 M4 hk4 _ _ _ _ hI_s hF_s (by omega) (by omega) (by omega) (by omega) (by omega)
    · have c_5 := tn_ne (a := ((s.f 44 (Int32.toNatClampNeg (15 + x3)))).toInt) (b := (x1).toInt) rfl rfl c_5
      exact ok_r_partiesIn_36 s0 k4 M4 hk4 _ _ _ _ hI_s hF_s (by omega) (by omega) (by omega) (by omega) (by omega)
theorem okL_r_partiesIn_4 (s0 : RS)  : ∀ (n : Nat) (s : RS) (x1 : Int32) (x2 : Int32) (x3 : Int32), (6 - x3.toInt).toNat < n → InvR s → FrR [] s0 s → 0 ≤ x1.toInt → x1.toInt ≤ 2 → 0 ≤ x3.toInt → x3.toInt ≤ 6 → Ok (r_partiesIn_4L  n s x1 x2 x3) (Q_r_partiesIn s0) := by
  intro n
  induction n with
  | zero => intro s x1 x2 x3 hn; omega
  | succ n ih =>
    intro s x1 x2 x3 hn hI_s hF_s h_x1l h_x1u h_x3l h_x3u 
    exact ok_r_partiesIn_4 s0 (r_partiesIn_4L  n) ((6 - x3.toInt).toNat) (fun zs zx1 zx2 zx3 g0 g1 g2 g3 g4 g5  hm => ih zs zx1 zx2 zx3 (by omega) g0 g1 g2 g3 g4 g5 ) s x1 x2 x3 hI_s hF_s h_x1l h_x1u h_x3l h_x3u (Nat.le_refl _)
set_option maxHeartbeats 1000000 in
theorem ok_r_partiesInB (s0 : RS)  (s : RS) (x1 : Int32) (hI_s : InvR s) (hF_s : FrR [] s0 s) (h_x1l : 0 ≤ x1.toInt) (h_x1u : x1.toInt ≤ 2)  : Ok (r_partiesIn  s x1) (Q_r_partiesIn s0) := by
  unfold r_partiesIn
  have l_0 : (0 : Int32).toInt = 0 := by decide
  exact okL_r_partiesIn_4 s0  fu _ _ _ _ (by unfold fu; omega) hI_s hF_s (by omega) (by omega) (by decide) (by decide) 
theorem ok_r_partiesIn (s : RS) (x1 : Int32) (hI_s : InvR s) (h_x1l : 0 ≤ x1.toInt) (h_x1u : x1.toInt ≤ 2) : Ok (r_partiesIn s x1) (Q_r_partiesIn s) := ok_r_partiesInB s s x1 hI_s FrR.rfl h_x1l h_x1u
noncomputable abbrev Q_r_sumNow (s0 : RS) (y : Int32 × RS) : Prop := InvR y.2 ∧ FrR [] s0 y.2 ∧ -2147483648 ≤ y.1.toInt ∧ y.1.toInt ≤ 2147483647
set_option maxHeartbeats 1000000 in
theorem ok_r_sumNow_5 (s0 : RS) (k5 : RS → Int32 → Int32 → Int32 → Int32 → Option (Int32 × RS)) (M5 : Nat) (hk5 : ∀ (s : RS) (x1 : Int32) (x2 : Int32) (x3 : Int32) (x4 : Int32), InvR s → FrR [] s0 s → 10 ≤ x1.toInt → x1.toInt ≤ 21 → 5 ≤ x2.toInt → x2.toInt ≤ 6 → 10 ≤ x4.toInt → x4.toInt ≤ 29 → (29 - x4.toInt).toNat < M5 → Ok (k5 s x1 x2 x3 x4) (Q_r_sumNow s0)) (s : RS) (x1 : Int32) (x2 : Int32) (x3 : Int32) (x4 : Int32) (hI_s : InvR s) (hF_s : FrR [] s0 s) (h_x1l : 10 ≤ x1.toInt) (h_x1u : x1.toInt ≤ 21) (h_x2l : 5 ≤ x2.toInt) (h_x2u : x2.toInt ≤ 6) (h_x4l : 10 ≤ x4.toInt) (h_x4u : x4.toInt ≤ 29) (hM5 : (29 - x4.toInt).toNat ≤ M5) : Ok (r_sumNow_5 k5 s x1 x2 x3 x4) (Q_r_sumNow s0) := by
  unfold r_sumNow_5
  have a_1 : ((x1 + x2)).toInt = (x1).toInt + (x2).toInt := tn_add rfl rfl (by omega) (by omega)
  refine ok_ite (fun c_2 => ?_) (fun c_2 => ?_)
  · have c_2 := tn_le (a := ((x1 + x2)).toInt) (b := (x4).toInt) rfl rfl c_2
    exact ok_some ⟨hI_s, hF_s, (ti_rng _).1, (ti_rng _).2⟩
  · have c_2 := tn_nle (a := ((x1 + x2)).toInt) (b := (x4).toInt) rfl rfl c_2
    refine ok_grd (vpb_ok (by omega) (by omega)) ?_
    have a_3 : ((x4 + 1)).toInt = (x4).toInt + 1 := tn_add rfl (by decide) (by omega) (by omega)
    exact hk5 _ _ _ _ _ hI_s hF_s (by omega) (by omega) (by omega) (by omega) (by omega) (by omega) (by omega)
theorem okL_r_sumNow_5 (s0 : RS)  : ∀ (n : Nat) (s : RS) (x1 : Int32) (x2 : Int32) (x3 : Int32) (x4 : Int32), (29 - x4.toInt).toNat < n → InvR s → FrR [] s0 s → 10 ≤ x1.toInt → x1.toInt ≤ 21 → 5 ≤ x2.toInt → x2.toInt ≤ 6 → 10 ≤ x4.toInt → x4.toInt ≤ 29 → Ok (r_sumNow_5L  n s x1 x2 x3 x4) (Q_r_sumNow s0) := by
  intro n
  induction n with
  | zero => intro s x1 x2 x3 x4 hn; omega
  | succ n ih =>
    intro s x1 x2 x3 x4 hn hI_s hF_s h_x1l h_x1u h_x2l h_x2u h_x4l h_x4u 
    exact ok_r_sumNow_5 s0 (r_sumNow_5L  n) ((29 - x4.toInt).toNat) (fun zs zx1 zx2 zx3 zx4 g0 g1 g2 g3 g4 g5 g6 g7  hm => ih zs zx1 zx2 zx3 zx4 (by omega) g0 g1 g2 g3 g4 g5 g6 g7 ) s x1 x2 x3 x4 hI_s hF_s h_x1l h_x1u h_x2l h_x2u h_x4l h_x4u (Nat.le_refl _)
set_option maxHeartbeats 1000000 in
theorem ok_r_sumNowB (s0 : RS)  (s : RS) (x1 : Int32) (x2 : Int32) (hI_s : InvR s) (hF_s : FrR [] s0 s) (h_x1l : 10 ≤ x1.toInt) (h_x1u : x1.toInt ≤ 21) (h_x2l : 5 ≤ x2.toInt) (h_x2u : x2.toInt ≤ 6)  : Ok (r_sumNow  s x1 x2) (Q_r_sumNow s0) := by
  unfold r_sumNow
  have l_0 : (0 : Int32).toInt = 0 := by decide
  exact okL_r_sumNow_5 s0  fu _ _ _ _ _ (by unfold fu; omega) hI_s hF_s (by omega) (by omega) (by omega) (by omega) (by omega) (by omega) 
theorem ok_r_sumNow (s : RS) (x1 : Int32) (x2 : Int32) (hI_s : InvR s) (h_x1l : 10 ≤ x1.toInt) (h_x1u : x1.toInt ≤ 21) (h_x2l : 5 ≤ x2.toInt) (h_x2u : x2.toInt ≤ 6) : Ok (r_sumNow s x1 x2) (Q_r_sumNow s) := ok_r_sumNowB s s x1 x2 hI_s FrR.rfl h_x1l h_x1u h_x2l h_x2u
noncomputable abbrev Q_r_count (s0 : RS) (y : Int32 × RS) : Prop := InvR y.2 ∧ FrR [42, 45, 140, 141, 144] s0 y.2 ∧ -2147483648 ≤ y.1.toInt ∧ y.1.toInt ≤ 2147483647
set_option maxHeartbeats 1000000 in
theorem ok_r_count_202 (s0 : RS) (hB : Big s0)  (s : RS) (t0 : Int32) (t1 : Int32) (hI_s : InvR s) (hF_s : FrR [42, 45, 140, 141, 144] s0 s) (h_t0l : 0 ≤ t0.toInt) (h_t0u : t0.toInt ≤ 1) (h_t1l : 0 ≤ t1.toInt) (h_t1u : t1.toInt ≤ 1)  : Ok (r_count_202  s t0 t1) (Q_r_count s0) := by
  unfold r_count_202
  refine ok_ite (fun c_1 => ?_) (fun c_1 => ?_)
  · have c_1 := tn_eq (a := ((s.f 56 2)).toInt) (b := 0) rfl (by decide) c_1
    have a_2 : ((t1 + t0)).toInt = (t1).toInt + (t0).toInt := tn_add rfl rfl (by omega) (by omega)
    have a_3 : (((t1 + t0) + 0)).toInt = ((t1 + t0)).toInt + 0 := tn_add rfl (by decide) (by omega) (by omega)
    exact ok_some ⟨hI_s, hF_s, (ti_rng _).1, (ti_rng _).2⟩
  · have c_1 := tn_ne (a := ((s.f 56 2)).toInt) (b := 0) rfl (by decide) c_1
    have a_4 : ((t1 + t0)).toInt = (t1).toInt + (t0).toInt := tn_add rfl rfl (by omega) (by omega)
    have a_5 : (((t1 + t0) + 1)).toInt = ((t1 + t0)).toInt + 1 := tn_add rfl (by decide) (by omega) (by omega)
    exact ok_some ⟨hI_s, hF_s, (ti_rng _).1, (ti_rng _).2⟩
set_option maxHeartbeats 1000000 in
theorem ok_r_count_188 (s0 : RS) (hB : Big s0)  (s : RS) (t0 : Int32) (hI_s : InvR s) (hF_s : FrR [42, 45, 140, 141, 144] s0 s) (h_t0l : 0 ≤ t0.toInt) (h_t0u : t0.toInt ≤ 1)  : Ok (r_count_188  s t0) (Q_r_count s0) := by
  unfold r_count_188
  refine ok_ite (fun c_1 => ?_) (fun c_1 => ?_)
  · have c_1 := tn_eq (a := ((s.f 56 1)).toInt) (b := 0) rfl (by decide) c_1
    have l_0 : (0 : Int32).toInt = 0 := by decide
    exact ok_r_count_202 s0 hB  _ _ _ hI_s hF_s (by decide) (by decide) (by omega) (by omega) 
  · have c_1 := tn_ne (a := ((s.f 56 1)).toInt) (b := 0) rfl (by decide) c_1
    have l_1 : (1 : Int32).toInt = 1 := by decide
    exact ok_r_count_202 s0 hB  _ _ _ hI_s hF_s (by decide) (by decide) (by omega) (by omega) 
set_option maxHeartbeats 1000000 in
theorem ok_r_count_301 (s0 : RS) (hB : Big s0) (k271 : RS → Int32 → Int32 → Option (Int32 × RS)) (M271 : Nat) (hk271 : ∀ (s : RS) (x2 : Int32) (x3 : Int32), InvR s → FrR [42, 45, 140, 141, 144] s0 s → 0 ≤ x3.toInt → x3.toInt ≤ 5 → (5 - x3.toInt).toNat < M271 → Ok (k271 s x2 x3) (Q_r_count s0)) (s : RS) (x2 : Int32) (x3 : Int32) (hI_s : InvR s) (hF_s : FrR [42, 45, 140, 141, 144] s0 s) (h_x3l : 0 ≤ x3.toInt) (h_x3u : x3.toInt ≤ 4) (hM271 : (5 - x3.toInt).toNat ≤ M271) : Ok (r_count_301 k271 s x2 x3) (Q_r_count s0) := by
  unfold r_count_301
  have a_1 : ((x3 + 1)).toInt = (x3).toInt + 1 := tn_add rfl (by decide) (by omega) (by omega)
  exact hk271 _ _ _ hI_s hF_s (by omega) (by omega) (by omega)
set_option maxHeartbeats 1000000 in
theorem ok_r_count_271 (s0 : RS) (hB : Big s0) (k271 : RS → Int32 → Int32 → Option (Int32 × RS)) (M271 : Nat) (hk271 : ∀ (s : RS) (x2 : Int32) (x3 : Int32), InvR s → FrR [42, 45, 140, 141, 144] s0 s → 0 ≤ x3.toInt → x3.toInt ≤ 5 → (5 - x3.toInt).toNat < M271 → Ok (k271 s x2 x3) (Q_r_count s0)) (s : RS) (x2 : Int32) (x3 : Int32) (hI_s : InvR s) (hF_s : FrR [42, 45, 140, 141, 144] s0 s) (h_x3l : 0 ≤ x3.toInt) (h_x3u : x3.toInt ≤ 5) (hM271 : (5 - x3.toInt).toNat ≤ M271) : Ok (r_count_271 k271 s x2 x3) (Q_r_count s0) := by
  unfold r_count_271
  have a_1 : 0 ≤ (s.v 18).toInt ∧ (s.v 18).toInt ≤ 1 := hI_s.1 18
  refine ok_grd (vpb_ok (by omega) (by omega)) ?_
  have a_2 : ((s.f 20 (Int32.toNatClampNeg (s.v 18)))).toInt = wv s0 := wv_fr hF_s (by decide) (by decide)
  have a_3 : 0 ≤ ((s.f 20 (Int32.toNatClampNeg (s.v 18)))).toInt ∧ ((s.f 20 (Int32.toNatClampNeg (s.v 18)))).toInt ≤ 5 := hI_s.2 20 _
  refine ok_ite (fun c_4 => ?_) (fun c_4 => ?_)
  · have c_4 := tn_le (a := ((s.f 20 (Int32.toNatClampNeg (s.v 18)))).toInt) (b := (x3).toInt) rfl rfl c_4
    exact ok_some ⟨hI_s, hF_s, (ti_rng _).1, (ti_rng _).2⟩
  · have c_4 := tn_nle (a := ((s.f 20 (Int32.toNatClampNeg (s.v 18)))).toInt) (b := (x3).toInt) rfl rfl c_4
    have a_5 : ((5 + x3)).toInt = 5 + (x3).toInt := tn_add (by decide) rfl (by omega) (by omega)
    refine ok_grd (vpb_ok (by omega) (by omega)) ?_
    refine ok_ite (fun c_6 => ?_) (fun c_6 => ?_)
    · have c_6 := tn_lt (a := ((s.f 44 (Int32.toNatClampNeg (5 + x3)))).toInt) (b := 0) rfl (by decide) c_6
      exact ok_r_count_301 s0 hB k271 M271 hk271 _ _ _ hI_s hF_s (by omega) (by omega) (by omega)
    · have c_6 := tn_nlt (a := ((s.f 44 (Int32.toNatClampNeg (5 + x3)))).toInt) (b := 0) rfl (by decide) c_6
      exact ok_r_count_301 s0 hB k271 M271 hk271 _ _ _ hI_s hF_s (by omega) (by omega) (by omega)
theorem okL_r_count_271 (s0 : RS) (hB : Big s0)  : ∀ (n : Nat) (s : RS) (x2 : Int32) (x3 : Int32), (5 - x3.toInt).toNat < n → InvR s → FrR [42, 45, 140, 141, 144] s0 s → 0 ≤ x3.toInt → x3.toInt ≤ 5 → Ok (r_count_271L  n s x2 x3) (Q_r_count s0) := by
  intro n
  induction n with
  | zero => intro s x2 x3 hn; omega
  | succ n ih =>
    intro s x2 x3 hn hI_s hF_s h_x3l h_x3u 
    exact ok_r_count_271 s0 hB (r_count_271L  n) ((5 - x3.toInt).toNat) (fun zs zx2 zx3 g0 g1 g2 g3  hm => ih zs zx2 zx3 (by omega) g0 g1 g2 g3 ) s x2 x3 hI_s hF_s h_x3l h_x3u (Nat.le_refl _)
set_option maxHeartbeats 1000000 in
theorem ok_r_count_356 (s0 : RS) (hB : Big s0) (k329 : RS → Int32 → Int32 → Option (Int32 × RS)) (M329 : Nat) (hk329 : ∀ (s : RS) (x2 : Int32) (x3 : Int32), InvR s → FrR [42, 45, 140, 141, 144] s0 s → 0 ≤ x3.toInt → x3.toInt ≤ 5 → (5 - x3.toInt).toNat < M329 → Ok (k329 s x2 x3) (Q_r_count s0)) (s : RS) (x2 : Int32) (x3 : Int32) (hI_s : InvR s) (hF_s : FrR [42, 45, 140, 141, 144] s0 s) (h_x3l : 0 ≤ x3.toInt) (h_x3u : x3.toInt ≤ 4) (hM329 : (5 - x3.toInt).toNat ≤ M329) : Ok (r_count_356 k329 s x2 x3) (Q_r_count s0) := by
  unfold r_count_356
  have a_1 : ((x3 + 1)).toInt = (x3).toInt + 1 := tn_add rfl (by decide) (by omega) (by omega)
  exact hk329 _ _ _ hI_s hF_s (by omega) (by omega) (by omega)
set_option maxHeartbeats 1000000 in
theorem ok_r_count_329 (s0 : RS) (hB : Big s0) (k329 : RS → Int32 → Int32 → Option (Int32 × RS)) (M329 : Nat) (hk329 : ∀ (s : RS) (x2 : Int32) (x3 : Int32), InvR s → FrR [42, 45, 140, 141, 144] s0 s → 0 ≤ x3.toInt → x3.toInt ≤ 5 → (5 - x3.toInt).toNat < M329 → Ok (k329 s x2 x3) (Q_r_count s0)) (s : RS) (x2 : Int32) (x3 : Int32) (hI_s : InvR s) (hF_s : FrR [42, 45, 140, 141, 144] s0 s) (h_x3l : 0 ≤ x3.toInt) (h_x3u : x3.toInt ≤ 5) (hM329 : (5 - x3.toInt).toNat ≤ M329) : Ok (r_count_329 k329 s x2 x3) (Q_r_count s0) := by
  unfold r_count_329
  have a_1 : 0 ≤ (s.v 18).toInt ∧ (s.v 18).toInt ≤ 1 := hI_s.1 18
  refine ok_grd (vpb_ok (by omega) (by omega)) ?_
  have a_2 : ((s.f 20 (Int32.toNatClampNeg (s.v 18)))).toInt = wv s0 := wv_fr hF_s (by decide) (by decide)
  have a_3 : 0 ≤ ((s.f 20 (Int32.toNatClampNeg (s.v 18)))).toInt ∧ ((s.f 20 (Int32.toNatClampNeg (s.v 18)))).toInt ≤ 5 := hI_s.2 20 _
  refine ok_ite (fun c_4 => ?_) (fun c_4 => ?_)
  · have c_4 := tn_le (a := ((s.f 20 (Int32.toNatClampNeg (s.v 18)))).toInt) (b := (x3).toInt) rfl rfl c_4
    exact ok_some ⟨hI_s, hF_s, (ti_rng _).1, (ti_rng _).2⟩
  · have c_4 := tn_nle (a := ((s.f 20 (Int32.toNatClampNeg (s.v 18)))).toInt) (b := (x3).toInt) rfl rfl c_4
    refine ok_bindI (ok_r_mayAt _ _ hI_s (by omega) (by omega)) (fun r4 s3 hc_5 => ?_)
    have hI_s3 : InvR s3 := hc_5.1
    have hFc_s3 : FrR [] s s3 := hc_5.2.1
    have hF_s3 : FrR [42, 45, 140, 141, 144] s0 s3 := hF_s.trans hFc_s3 (by decide)
    refine ok_ite (fun c_6 => ?_) (fun c_6 => ?_)
    · have c_6 := tn_eq (a := (r4).toInt) (b := 0) rfl (by decide) c_6
      exact ok_r_count_356 s0 hB k329 M329 hk329 _ _ _ hI_s3 hF_s3 (by omega) (by omega) (by omega)
    · have c_6 := tn_ne (a := (r4).toInt) (b := 0) rfl (by decide) c_6
      exact ok_r_count_356 s0 hB k329 M329 hk329 _ _ _ hI_s3 hF_s3 (by omega) (by omega) (by omega)
theorem okL_r_count_329 (s0 : RS) (hB : Big s0)  : ∀ (n : Nat) (s : RS) (x2 : Int32) (x3 : Int32), (5 - x3.toInt).toNat < n → InvR s → FrR [42, 45, 140, 141, 144] s0 s → 0 ≤ x3.toInt → x3.toInt ≤ 5 → Ok (r_count_329L  n s x2 x3) (Q_r_count s0) := by
  intro n
  induction n with
  | zero => intro s x2 x3 hn; omega
  | succ n ih =>
    intro s x2 x3 hn hI_s hF_s h_x3l h_x3u 
    exact ok_r_count_329 s0 hB (r_count_329L  n) ((5 - x3.toInt).toNat) (fun zs zx2 zx3 g0 g1 g2 g3  hm => ih zs zx2 zx3 (by omega) g0 g1 g2 g3 ) s x2 x3 hI_s hF_s h_x3l h_x3u (Nat.le_refl _)
set_option maxHeartbeats 1000000 in
theorem ok_r_count_395 (s0 : RS) (hB : Big s0) (k366 : RS → Int32 → Int32 → Option (Int32 × RS)) (M366 : Nat) (hk366 : ∀ (s : RS) (x2 : Int32) (x3 : Int32), InvR s → FrR [42, 45, 140, 141, 144] s0 s → 0 ≤ x3.toInt → x3.toInt ≤ 6 → (6 - x3.toInt).toNat < M366 → Ok (k366 s x2 x3) (Q_r_count s0)) (s : RS) (x2 : Int32) (x3 : Int32) (hI_s : InvR s) (hF_s : FrR [42, 45, 140, 141, 144] s0 s) (h_x3l : 0 ≤ x3.toInt) (h_x3u : x3.toInt ≤ 5) (hM366 : (6 - x3.toInt).toNat ≤ M366) : Ok (r_count_395 k366 s x2 x3) (Q_r_count s0) := by
  unfold r_count_395
  have a_1 : ((x3 + 1)).toInt = (x3).toInt + 1 := tn_add rfl (by decide) (by omega) (by omega)
  exact hk366 _ _ _ hI_s hF_s (by omega) (by omega) (by omega)
set_option maxHeartbeats 1000000 in
theorem ok_r_count_366 (s0 : RS) (hB : Big s0) (k366 : RS → Int32 → Int32 → Option (Int32 × RS)) (M366 : Nat) (hk366 : ∀ (s : RS) (x2 : Int32) (x3 : Int32), InvR s → FrR [42, 45, 140, 141, 144] s0 s → 0 ≤ x3.toInt → x3.toInt ≤ 6 → (6 - x3.toInt).toNat < M366 → Ok (k366 s x2 x3) (Q_r_count s0)) (s : RS) (x2 : Int32) (x3 : Int32) (hI_s : InvR s) (hF_s : FrR [42, 45, 140, 141, 144] s0 s) (h_x3l : 0 ≤ x3.toInt) (h_x3u : x3.toInt ≤ 6) (hM366 : (6 - x3.toInt).toNat ≤ M366) : Ok (r_count_366 k366 s x2 x3) (Q_r_count s0) := by
  unfold r_count_366
  have a_1 : 0 ≤ (s.v 18).toInt ∧ (s.v 18).toInt ≤ 1 := hI_s.1 18
  refine ok_grd (vpb_ok (by omega) (by omega)) ?_
  have a_2 : 0 ≤ ((s.f 23 (Int32.toNatClampNeg (s.v 18)))).toInt ∧ ((s.f 23 (Int32.toNatClampNeg (s.v 18)))).toInt ≤ 6 := hI_s.2 23 _
  refine ok_ite (fun c_3 => ?_) (fun c_3 => ?_)
  · have c_3 := tn_le (a := ((s.f 23 (Int32.toNatClampNeg (s.v 18)))).toInt) (b := (x3).toInt) rfl rfl c_3
    exact ok_some ⟨hI_s, hF_s, (ti_rng _).1, (ti_rng _).2⟩
  · have c_3 := tn_nle (a := ((s.f 23 (Int32.toNatClampNeg (s.v 18)))).toInt) (b := (x3).toInt) rfl rfl c_3
    refine ok_bindI (ok_r_isHere _ _ hI_s) (fun r4 s3 hc_4 => ?_)
    have hI_s3 : InvR s3 := hc_4.1
    have hFc_s3 : FrR [] s s3 := hc_4.2.1
    have hF_s3 : FrR [42, 45, 140, 141, 144] s0 s3 := hF_s.trans hFc_s3 (by decide)
    have hl_r4 : 0 ≤ r4.toInt := hc_4.2.2.1
    have hu_r4 : r4.toInt ≤ 1 := hc_4.2.2.2.1
    have hx0_r4 : (¬ r4.toInt = 0 → 0 ≤ (x3).toInt ∧ (x3).toInt ≤ 5) := hc_4.2.2.2.2
    refine ok_ite (fun c_5 => ?_) (fun c_5 => ?_)
    · have c_5 := tn_eq (a := (r4).toInt) (b := 0) rfl (by decide) c_5
      exact ok_r_count_395 s0 hB k366 M366 hk366 _ _ _ hI_s3 hF_s3 (by omega) (by omega) (by omega)
    · have c_5 := tn_ne (a := (r4).toInt) (b := 0) rfl (by decide) c_5
      refine ok_bindI (ok_r_faresOf _ _ hI_s3 (hB.fr hF_s3 (by decide)) (by omega) (by omega)) (fun r7 s6 hc_6 => ?_)
      have hI_s6 : InvR s6 := hc_6.1
      have hFc_s6 : FrR [42, 140, 141] s3 s6 := hc_6.2.1
      have hF_s6 : FrR [42, 45, 140, 141, 144] s0 s6 := hF_s3.trans hFc_s6 (by decide)
      have hl_r7 : 0 ≤ r7.toInt := hc_6.2.2.1
      have hu_r7 : r7.toInt ≤ 100 := hc_6.2.2.2
      exact ok_r_count_395 s0 hB k366 M366 hk366 _ _ _ hI_s6 hF_s6 (by omega) (by omega) (by omega)
theorem okL_r_count_366 (s0 : RS) (hB : Big s0)  : ∀ (n : Nat) (s : RS) (x2 : Int32) (x3 : Int32), (6 - x3.toInt).toNat < n → InvR s → FrR [42, 45, 140, 141, 144] s0 s → 0 ≤ x3.toInt → x3.toInt ≤ 6 → Ok (r_count_366L  n s x2 x3) (Q_r_count s0) := by
  intro n
  induction n with
  | zero => intro s x2 x3 hn; omega
  | succ n ih =>
    intro s x2 x3 hn hI_s hF_s h_x3l h_x3u 
    exact ok_r_count_366 s0 hB (r_count_366L  n) ((6 - x3.toInt).toNat) (fun zs zx2 zx3 g0 g1 g2 g3  hm => ih zs zx2 zx3 (by omega) g0 g1 g2 g3 ) s x2 x3 hI_s hF_s h_x3l h_x3u (Nat.le_refl _)
set_option maxHeartbeats 1000000 in
theorem ok_r_countB (s0 : RS) (hB : Big s0)  (s : RS) (x1 : Int32) (hI_s : InvR s) (hF_s : FrR [42, 45, 140, 141, 144] s0 s)  : Ok (r_count  s x1) (Q_r_count s0) := by
  unfold r_count
  refine ok_bindP (ok_r_copies _  hI_s) (fun s1 hc_1 => ?_)
  have hI_s1 : InvR s1 := hc_1.1
  have hFc_s1 : FrR [45, 144] s s1 := hc_1.2
  have hF_s1 : FrR [42, 45, 140, 141, 144] s0 s1 := hF_s.trans hFc_s1 (by decide)
  refine ok_ite (fun c_2 => ?_) (fun c_2 => ?_)
  · have c_2 := tn_eq (a := (x1).toInt) (b := 0) rfl (by decide) c_2
    have a_3 : 0 ≤ (s.v 18).toInt ∧ (s.v 18).toInt ≤ 1 := hI_s.1 18
    have a_4 : (s1.v 18).toInt = (s.v 18).toInt := congrArg Int32.toInt (hFc_s1.1 18 (by decide))
    refine ok_grd (vpb_ok (by omega) (by omega)) ?_
    have a_5 : ((s1.f 20 (Int32.toNatClampNeg (s1.v 18)))).toInt = wv s0 := wv_fr hF_s1 (by decide) (by decide)
    have a_6 : 0 ≤ ((s1.f 20 (Int32.toNatClampNeg (s1.v 18)))).toInt ∧ ((s1.f 20 (Int32.toNatClampNeg (s1.v 18)))).toInt ≤ 5 := hI_s1.2 20 _
    exact ok_some ⟨hI_s1, hF_s1, (ti_rng _).1, (ti_rng _).2⟩
  · have c_2 := tn_ne (a := (x1).toInt) (b := 0) rfl (by decide) c_2
    refine ok_ite (fun c_7 => ?_) (fun c_7 => ?_)
    · have c_7 := tn_eq (a := (x1).toInt) (b := 1) rfl (by decide) c_7
      have a_8 : 0 ≤ (s.v 18).toInt ∧ (s.v 18).toInt ≤ 1 := hI_s.1 18
      have a_9 : (s1.v 18).toInt = (s.v 18).toInt := congrArg Int32.toInt (hFc_s1.1 18 (by decide))
      refine ok_grd (vpb_ok (by omega) (by omega)) ?_
      have a_10 : 0 ≤ ((s1.f 23 (Int32.toNatClampNeg (s1.v 18)))).toInt ∧ ((s1.f 23 (Int32.toNatClampNeg (s1.v 18)))).toInt ≤ 6 := hI_s1.2 23 _
      exact ok_some ⟨hI_s1, hF_s1, (ti_rng _).1, (ti_rng _).2⟩
    · have c_7 := tn_ne (a := (x1).toInt) (b := 1) rfl (by decide) c_7
      refine ok_ite (fun c_11 => ?_) (fun c_11 => ?_)
      · have c_11 := tn_eq (a := (x1).toInt) (b := 2) rfl (by decide) c_11
        exact ok_some ⟨hI_s1, hF_s1, (ti_rng _).1, (ti_rng _).2⟩
      · have c_11 := tn_ne (a := (x1).toInt) (b := 2) rfl (by decide) c_11
        refine ok_ite (fun c_12 => ?_) (fun c_12 => ?_)
        · have c_12 := tn_eq (a := (x1).toInt) (b := 3) rfl (by decide) c_12
          exact ok_some ⟨hI_s1, hF_s1, (ti_rng _).1, (ti_rng _).2⟩
        · have c_12 := tn_ne (a := (x1).toInt) (b := 3) rfl (by decide) c_12
          refine ok_ite (fun c_13 => ?_) (fun c_13 => ?_)
          · have c_13 := tn_eq (a := (x1).toInt) (b := 4) rfl (by decide) c_13
            refine ok_bindI (ok_r_partiesIn _ _ hI_s1 (by decide) (by decide)) (fun r10 s9 hc_14 => ?_)
            have hI_s9 : InvR s9 := hc_14.1
            have hFc_s9 : FrR [] s1 s9 := hc_14.2.1
            have hF_s9 : FrR [42, 45, 140, 141, 144] s0 s9 := hF_s1.trans hFc_s9 (by decide)
            exact ok_some ⟨hI_s9, hF_s9, (ti_rng _).1, (ti_rng _).2⟩
          · have c_13 := tn_ne (a := (x1).toInt) (b := 4) rfl (by decide) c_13
            refine ok_ite (fun c_15 => ?_) (fun c_15 => ?_)
            · have c_15 := tn_eq (a := (x1).toInt) (b := 5) rfl (by decide) c_15
              refine ok_bindI (ok_r_partiesIn _ _ hI_s1 (by decide) (by decide)) (fun r13 s12 hc_16 => ?_)
              have hI_s12 : InvR s12 := hc_16.1
              have hFc_s12 : FrR [] s1 s12 := hc_16.2.1
              have hF_s12 : FrR [42, 45, 140, 141, 144] s0 s12 := hF_s1.trans hFc_s12 (by decide)
              exact ok_some ⟨hI_s12, hF_s12, (ti_rng _).1, (ti_rng _).2⟩
            · have c_15 := tn_ne (a := (x1).toInt) (b := 5) rfl (by decide) c_15
              refine ok_ite (fun c_17 => ?_) (fun c_17 => ?_)
              · have c_17 := tn_eq (a := (x1).toInt) (b := 6) rfl (by decide) c_17
                refine ok_bindI (ok_r_partiesIn _ _ hI_s1 (by decide) (by decide)) (fun r16 s15 hc_18 => ?_)
                have hI_s15 : InvR s15 := hc_18.1
                have hFc_s15 : FrR [] s1 s15 := hc_18.2.1
                have hF_s15 : FrR [42, 45, 140, 141, 144] s0 s15 := hF_s1.trans hFc_s15 (by decide)
                exact ok_some ⟨hI_s15, hF_s15, (ti_rng _).1, (ti_rng _).2⟩
              · have c_17 := tn_ne (a := (x1).toInt) (b := 6) rfl (by decide) c_17
                refine ok_ite (fun c_19 => ?_) (fun c_19 => ?_)
                · have c_19 := tn_eq (a := (x1).toInt) (b := 7) rfl (by decide) c_19
                  refine ok_bindI (ok_r_sumNow _ _ _ hI_s1 (by decide) (by decide) (by decide) (by decide)) (fun r19 s18 hc_20 => ?_)
                  have hI_s18 : InvR s18 := hc_20.1
                  have hFc_s18 : FrR [] s1 s18 := hc_20.2.1
                  have hF_s18 : FrR [42, 45, 140, 141, 144] s0 s18 := hF_s1.trans hFc_s18 (by decide)
                  exact ok_some ⟨hI_s18, hF_s18, (ti_rng _).1, (ti_rng _).2⟩
                · have c_19 := tn_ne (a := (x1).toInt) (b := 7) rfl (by decide) c_19
                  refine ok_ite (fun c_21 => ?_) (fun c_21 => ?_)
                  · have c_21 := tn_eq (a := (x1).toInt) (b := 8) rfl (by decide) c_21
                    have a_22 : 0 ≤ (s.v 2).toInt ∧ (s.v 2).toInt ≤ 2000 := hI_s.1 2
                    have a_23 : (s1.v 2).toInt = (s.v 2).toInt := congrArg Int32.toInt (hFc_s1.1 2 (by decide))
                    exact ok_some ⟨hI_s1, hF_s1, (ti_rng _).1, (ti_rng _).2⟩
                  · have c_21 := tn_ne (a := (x1).toInt) (b := 8) rfl (by decide) c_21
                    refine ok_ite (fun c_24 => ?_) (fun c_24 => ?_)
                    · have c_24 := tn_eq (a := (x1).toInt) (b := 9) rfl (by decide) c_24
                      have a_25 : 0 ≤ (s.v 48).toInt ∧ (s.v 48).toInt ≤ 40 := hI_s.1 48
                      have a_26 : (s1.v 48).toInt = (s.v 48).toInt := congrArg Int32.toInt (hFc_s1.1 48 (by decide))
                      exact ok_some ⟨hI_s1, hF_s1, (ti_rng _).1, (ti_rng _).2⟩
                    · have c_24 := tn_ne (a := (x1).toInt) (b := 9) rfl (by decide) c_24
                      refine ok_ite (fun c_27 => ?_) (fun c_27 => ?_)
                      · have c_27 := tn_eq (a := (x1).toInt) (b := 10) rfl (by decide) c_27
                        have a_28 : 0 ≤ (s.v 51).toInt ∧ (s.v 51).toInt ≤ 20 := hI_s.1 51
                        have a_29 : (s1.v 51).toInt = (s.v 51).toInt := congrArg Int32.toInt (hFc_s1.1 51 (by decide))
                        exact ok_some ⟨hI_s1, hF_s1, (ti_rng _).1, (ti_rng _).2⟩
                      · have c_27 := tn_ne (a := (x1).toInt) (b := 10) rfl (by decide) c_27
                        refine ok_ite (fun c_30 => ?_) (fun c_30 => ?_)
                        · have c_30 := tn_eq (a := (x1).toInt) (b := 11) rfl (by decide) c_30
                          refine ok_ite (fun c_31 => ?_) (fun c_31 => ?_)
                          · have c_31 := tn_eq (a := ((s1.f 56 0)).toInt) (b := 0) rfl (by decide) c_31
                            have l_0 : (0 : Int32).toInt = 0 := by decide
                            exact ok_r_count_188 s0 hB  _ _ hI_s1 hF_s1 (by decide) (by decide) 
                          · have c_31 := tn_ne (a := ((s1.f 56 0)).toInt) (b := 0) rfl (by decide) c_31
                            have l_1 : (1 : Int32).toInt = 1 := by decide
                            exact ok_r_count_188 s0 hB  _ _ hI_s1 hF_s1 (by decide) (by decide) 
                        · have c_30 := tn_ne (a := (x1).toInt) (b := 11) rfl (by decide) c_30
                          refine ok_ite (fun c_32 => ?_) (fun c_32 => ?_)
                          · have c_32 := tn_eq (a := (x1).toInt) (b := 12) rfl (by decide) c_32
                            refine ok_bindP (ok_r_bits _ ) (fun r26 hc_33 => ?_)
                            have hl_r26 : 0 ≤ r26.toInt := hc_33.1
                            have hu_r26 : r26.toInt ≤ 6 := hc_33.2
                            refine ok_bindP (ok_r_bits _ ) (fun r27 hc_34 => ?_)
                            have hl_r27 : 0 ≤ r27.toInt := hc_34.1
                            have hu_r27 : r27.toInt ≤ 6 := hc_34.2
                            refine ok_bindP (ok_r_bits _ ) (fun r28 hc_35 => ?_)
                            have hl_r28 : 0 ≤ r28.toInt := hc_35.1
                            have hu_r28 : r28.toInt ≤ 6 := hc_35.2
                            refine ok_bindP (ok_r_bits _ ) (fun r29 hc_36 => ?_)
                            have hl_r29 : 0 ≤ r29.toInt := hc_36.1
                            have hu_r29 : r29.toInt ≤ 6 := hc_36.2
                            refine ok_bindP (ok_r_bits _ ) (fun r30 hc_37 => ?_)
                            have hl_r30 : 0 ≤ r30.toInt := hc_37.1
                            have hu_r30 : r30.toInt ≤ 6 := hc_37.2
                            have a_38 : ((r26 + r27)).toInt = (r26).toInt + (r27).toInt := tn_add rfl rfl (by omega) (by omega)
                            have a_39 : (((r26 + r27) + r28)).toInt = ((r26 + r27)).toInt + (r28).toInt := tn_add rfl rfl (by omega) (by omega)
                            have a_40 : ((((r26 + r27) + r28) + r29)).toInt = (((r26 + r27) + r28)).toInt + (r29).toInt := tn_add rfl rfl (by omega) (by omega)
                            have a_41 : (((((r26 + r27) + r28) + r29) + r30)).toInt = ((((r26 + r27) + r28) + r29)).toInt + (r30).toInt := tn_add rfl rfl (by omega) (by omega)
                            exact ok_some ⟨hI_s1, hF_s1, (ti_rng _).1, (ti_rng _).2⟩
                          · have c_32 := tn_ne (a := (x1).toInt) (b := 12) rfl (by decide) c_32
                            refine ok_ite (fun c_42 => ?_) (fun c_42 => ?_)
                            · have c_42 := tn_eq (a := (x1).toInt) (b := 13) rfl (by decide) c_42
                              have l_0 : (0 : Int32).toInt = 0 := by decide
                              exact okL_r_count_271 s0 hB  fu _ _ _ (by unfold fu; omega) hI_s1 hF_s1 (by decide) (by decide) 
                            · have c_42 := tn_ne (a := (x1).toInt) (b := 13) rfl (by decide) c_42
                              refine ok_ite (fun c_43 => ?_) (fun c_43 => ?_)
                              · have c_43 := tn_eq (a := (x1).toInt) (b := 14) rfl (by decide) c_43
                                refine ok_bindI (ok_r_guesses _  hI_s1 (hB.fr hF_s1 (by decide))) (fun r34 s33 hc_44 => ?_)
                                have hI_s33 : InvR s33 := hc_44.1
                                have hFc_s33 : FrR [] s1 s33 := hc_44.2.1
                                have hF_s33 : FrR [42, 45, 140, 141, 144] s0 s33 := hF_s1.trans hFc_s33 (by decide)
                                have hl_r34 : 1 ≤ r34.toInt := hc_44.2.2.1
                                have hu_r34 : r34.toInt ≤ 7776 := hc_44.2.2.2
                                exact ok_some ⟨hI_s33, hF_s33, (ti_rng _).1, (ti_rng _).2⟩
                              · have c_43 := tn_ne (a := (x1).toInt) (b := 14) rfl (by decide) c_43
                                refine ok_ite (fun c_45 => ?_) (fun c_45 => ?_)
                                · have c_45 := tn_eq (a := (x1).toInt) (b := 15) rfl (by decide) c_45
                                  refine ok_bindI (ok_r_thereNumber _  hI_s1 (hB.fr hF_s1 (by decide))) (fun r37 s36 hc_46 => ?_)
                                  have hI_s36 : InvR s36 := hc_46.1
                                  have hFc_s36 : FrR [] s1 s36 := hc_46.2.1
                                  have hF_s36 : FrR [42, 45, 140, 141, 144] s0 s36 := hF_s1.trans hFc_s36 (by decide)
                                  have hl_r37 : 0 ≤ r37.toInt := hc_46.2.2.1
                                  have hu_r37 : r37.toInt ≤ 194400 := hc_46.2.2.2
                                  exact ok_some ⟨hI_s36, hF_s36, (ti_rng _).1, (ti_rng _).2⟩
                                · have c_45 := tn_ne (a := (x1).toInt) (b := 15) rfl (by decide) c_45
                                  refine ok_ite (fun c_47 => ?_) (fun c_47 => ?_)
                                  · have c_47 := tn_eq (a := (x1).toInt) (b := 16) rfl (by decide) c_47
                                    refine ok_bindI (ok_r_sumNow _ _ _ hI_s1 (by decide) (by decide) (by decide) (by decide)) (fun r40 s39 hc_48 => ?_)
                                    have hI_s39 : InvR s39 := hc_48.1
                                    have hFc_s39 : FrR [] s1 s39 := hc_48.2.1
                                    have hF_s39 : FrR [42, 45, 140, 141, 144] s0 s39 := hF_s1.trans hFc_s39 (by decide)
                                    exact ok_some ⟨hI_s39, hF_s39, (ti_rng _).1, (ti_rng _).2⟩
                                  · have c_47 := tn_ne (a := (x1).toInt) (b := 16) rfl (by decide) c_47
                                    refine ok_ite (fun c_49 => ?_) (fun c_49 => ?_)
                                    · have c_49 := tn_eq (a := (x1).toInt) (b := 17) rfl (by decide) c_49
                                      have l_0 : (0 : Int32).toInt = 0 := by decide
                                      exact okL_r_count_329 s0 hB  fu _ _ _ (by unfold fu; omega) hI_s1 hF_s1 (by decide) (by decide) 
                                    · have c_49 := tn_ne (a := (x1).toInt) (b := 17) rfl (by decide) c_49
                                      refine ok_ite (fun c_50 => ?_) (fun c_50 => ?_)
                                      · have c_50 := tn_eq (a := (x1).toInt) (b := 18) rfl (by decide) c_50
                                        have l_0 : (0 : Int32).toInt = 0 := by decide
                                        exact okL_r_count_366 s0 hB  fu _ _ _ (by unfold fu; omega) hI_s1 hF_s1 (by decide) (by decide) 
                                      · have c_50 := tn_ne (a := (x1).toInt) (b := 18) rfl (by decide) c_50
                                        exact ok_some ⟨hI_s1, hF_s1, (ti_rng _).1, (ti_rng _).2⟩
theorem ok_r_count (s : RS) (x1 : Int32) (hI_s : InvR s) (hB : Big s) : Ok (r_count s x1) (Q_r_count s) := ok_r_countB s hB s x1 hI_s FrR.rfl
end
