noncomputable def loVR (k : Nat) : Int := if k = 2 then 0 else if k = 4 then 0 else if k = 10 then 0 else if k = 11 then 0 else if k = 13 then 0 else if k = 15 then 0 else if k = 18 then 0 else if k = 19 then 0 else if k = 48 then 0 else if k = 51 then 0 else -2147483648
noncomputable def hiVR (k : Nat) : Int := if k = 2 then 2000 else if k = 4 then 2000 else if k = 10 then 402 else if k = 11 then 400 else if k = 13 then 2 else if k = 15 then 5 else if k = 18 then 1 else if k = 19 then 1 else if k = 48 then 40 else if k = 51 then 20 else 2147483647
noncomputable def loFR (k : Nat) : Int := if k = 5 then 0 else if k = 7 then 0 else if k = 20 then 0 else if k = 23 then 0 else if k = 52 then 0 else -2147483648
noncomputable def hiFR (k : Nat) : Int := if k = 5 then 38 else if k = 7 then 9999 else if k = 20 then 5 else if k = 23 then 6 else if k = 52 then 4 else 2147483647
/-- what holds of the reference's numbers at all times -/
noncomputable def InvR (s : RS) : Prop := (∀ k, loVR k ≤ (s.v k).toInt ∧ (s.v k).toInt ≤ hiVR k) ∧ (∀ k j, loFR k ≤ (s.f k j).toInt ∧ (s.f k j).toInt ≤ hiFR k)
theorem InvR.sv {s : RS} {k : Nat} {x : Int32} (h : InvR s) (h1 : loVR k ≤ x.toInt) (h2 : x.toInt ≤ hiVR k) : InvR (s.sv k x) := by
  refine ⟨fun j => ?_, h.2⟩
  show loVR j ≤ (va_up s.v k x j).toInt ∧ (va_up s.v k x j).toInt ≤ hiVR j
  by_cases e : j = k
  · subst e; rw [va_up_self]; exact ⟨h1, h2⟩
  · rw [va_up_ne _ _ e]; exact h.1 j
theorem InvR.svF {s : RS} {k : Nat} {x : Int32} (h : InvR s) (h1 : loVR k = -2147483648) (h2 : hiVR k = 2147483647) : InvR (s.sv k x) := h.sv (by rw [h1]; exact (ti_rng x).1) (by rw [h2]; exact (ti_rng x).2)
theorem InvR.sf {s : RS} {k i : Nat} {x : Int32} (h : InvR s) (h1 : loFR k ≤ x.toInt) (h2 : x.toInt ≤ hiFR k) : InvR (s.sf k i x) := by
  refine ⟨h.1, fun a j => ?_⟩
  show loFR a ≤ (va_up s.f k (upd (s.f k) i x) a j).toInt ∧ (va_up s.f k (upd (s.f k) i x) a j).toInt ≤ hiFR a
  by_cases e : a = k
  · subst e; rw [va_up_self]; unfold upd
    by_cases e2 : j = i
    · rw [if_pos e2]; exact ⟨h1, h2⟩
    · rw [if_neg e2]; exact h.2 a j
  · rw [va_up_ne _ _ e]; exact h.2 a j
theorem InvR.sfF {s : RS} {k i : Nat} {x : Int32} (h : InvR s) (h1 : loFR k = -2147483648) (h2 : hiFR k = 2147483647) : InvR (s.sf k i x) := h.sf (by rw [h1]; exact (ti_rng x).1) (by rw [h2]; exact (ti_rng x).2)
theorem InvR.sg {s : RS} {k i : Nat} {x : Int64} (h : InvR s) : InvR (s.sg k i x) := h
/-- what a program leaves as it was: all numbers but those of W, all rows k but those with 100 + k in W -/
noncomputable def FrR (W : List Nat) (s t : RS) : Prop := (∀ k, k ∉ W → t.v k = s.v k) ∧ (∀ k, 100 + k ∉ W → t.f k = s.f k ∧ t.g k = s.g k)
theorem FrR.rfl {W : List Nat} {s : RS} : FrR W s s := ⟨fun _ _ => Eq.refl _, fun _ _ => ⟨Eq.refl _, Eq.refl _⟩⟩
theorem FrR.sv {W : List Nat} {s t : RS} {k : Nat} {x : Int32} (h : FrR W s t) (hk : k ∈ W) : FrR W s (t.sv k x) := by
  refine ⟨fun j hj => ?_, h.2⟩
  show va_up t.v k x j = s.v j
  have hn : j ≠ k := fun e => hj (by rw [e]; exact hk)
  rw [va_up_ne _ _ hn]; exact h.1 j hj
theorem FrR.sf {W : List Nat} {s t : RS} {k i : Nat} {x : Int32} (h : FrR W s t) (hk : 100 + k ∈ W) : FrR W s (t.sf k i x) := by
  refine ⟨h.1, fun j hj => ⟨?_, (h.2 j hj).2⟩⟩
  show va_up t.f k (upd (t.f k) i x) j = s.f j
  have hn : j ≠ k := fun e => hj (by rw [e]; exact hk)
  rw [va_up_ne _ _ hn]; exact (h.2 j hj).1
theorem FrR.sg {W : List Nat} {s t : RS} {k i : Nat} {x : Int64} (h : FrR W s t) (hk : 100 + k ∈ W) : FrR W s (t.sg k i x) := by
  refine ⟨h.1, fun j hj => ⟨(h.2 j hj).1, ?_⟩⟩
  show va_up t.g k (vp_updL (t.g k) i x) j = s.g j
  have hn : j ≠ k := fun e => hj (by rw [e]; exact hk)
  rw [va_up_ne _ _ hn]; exact (h.2 j hj).2
theorem FrR.trans {W W' : List Nat} {s t u : RS} (h : FrR W s t) (h2 : FrR W' t u) (hW : ∀ k ∈ W', k ∈ W) : FrR W s u :=
  ⟨fun k hk => (h2.1 k (fun q => hk (hW k q))).trans (h.1 k hk), fun k hk => ⟨(h2.2 k (fun q => hk (hW _ q))).1.trans (h.2 k hk).1, (h2.2 k (fun q => hk (hW _ q))).2.trans (h.2 k hk).2⟩⟩
/-! ===== the reference: what holds of its numbers, of its odds, of its laws ===== -/
noncomputable def psum (f : Nat → Int32) (b : Nat) : Nat → Int
  | 0 => 0
  | n + 1 => psum f b n + (f (b + n)).toInt
noncomputable def Six (f : Nat → Int32) : Prop := ∀ j : Nat, j < 6 → 1 ≤ (f j).toInt ∧ (f j).toInt ≤ 7776
noncomputable def OddsOK (live : Int32) (f20 f21 : Nat → Int32) : Prop := ∀ w : Nat, (w : Int) < (f20 live.toNatClampNeg).toInt → (∀ v : Nat, v < 6 → 0 ≤ (f21 (30 * live.toNatClampNeg + 6 * w + v)).toInt ∧ (f21 (30 * live.toNatClampNeg + 6 * w + v)).toInt ≤ 9) ∧ 0 < psum f21 (30 * live.toNatClampNeg + 6 * w) 6
/-- n codes from c on, over d values that wait: how many wait behind them; none if they aren't well formed -/
noncomputable def dep (cd ci : Nat → Int32) : Nat → Nat → Nat → Option Nat
  | 0, _, d => some d
  | n + 1, c, d => if (cd c).toInt = 0 ∨ ((cd c).toInt = 1 ∧ 0 ≤ (ci c).toInt ∧ (ci c).toInt ≤ 8) then dep cd ci n (c + 1) (d + 1) else if 2 ≤ (cd c).toInt ∧ (cd c).toInt ≤ 5 ∧ 2 ≤ d then dep cd ci n (c + 1) (d - 1) else none
/-- a stretch of codes that can be gone through -/
noncomputable def Seg (lo hi : Nat) (cd ci : Nat → Int32) (a b : Int32) : Prop := ∃ p n : Nat, a.toInt = (p : Int) ∧ b.toInt = (p : Int) + (n : Int) ∧ lo ≤ p ∧ p + n ≤ hi ∧ n ≤ 400 ∧ ∃ d, dep cd ci n p 0 = some d
noncomputable def BrOK (lo hi : Nat) (f30 f31 f32 f33 f34 f36 f37 : Nat → Int32) (b : Nat) : Prop := (¬ f30 b = 0 → Seg lo hi f36 f37 (f31 b) (f32 b) ∧ Seg lo hi f36 f37 (f32 b) (f33 b)) ∧ Seg lo hi f36 f37 (f33 b) (f34 b)
noncomputable def LawOK (live : Int32) (f27 f28 f30 f31 f32 f33 f34 f36 f37 : Nat → Int32) : Prop := ∀ k : Nat, k < 4 → f27 (4 * live.toNatClampNeg + k) = f28 (4 * live.toNatClampNeg + k) ∨ (((130 * live.toNatClampNeg : Nat) : Int) ≤ (f27 (4 * live.toNatClampNeg + k)).toInt ∧ (f28 (4 * live.toNatClampNeg + k)).toInt ≤ ((130 * live.toNatClampNeg + 103 : Nat) : Int) ∧ ∀ b : Nat, (f27 (4 * live.toNatClampNeg + k)).toInt ≤ (b : Int) → (b : Int) < (f28 (4 * live.toNatClampNeg + k)).toInt → BrOK (420 * live.toNatClampNeg) (420 * live.toNatClampNeg + 402) f30 f31 f32 f33 f34 f36 f37 b)
noncomputable def Big (s : RS) : Prop := Six (s.f 46) ∧ OddsOK (s.v 18) (s.f 20) (s.f 21) ∧ LawOK (s.v 18) (s.f 27) (s.f 28) (s.f 30) (s.f 31) (s.f 32) (s.f 33) (s.f 34) (s.f 36) (s.f 37)
noncomputable def wv (s : RS) : Int := (s.f 20 (s.v 18).toNatClampNeg).toInt
theorem wv_fr {W : List Nat} {s0 s : RS} (h : FrR W s0 s) (h1 : 18 ∉ W) (h2 : 120 ∉ W) : wv s = wv s0 := by
  unfold wv
  rw [h.1 18 h1, (h.2 20 h2).1]
theorem Big.fr {W : List Nat} {s0 s : RS} (hB : Big s0) (h : FrR W s0 s) (hW : ∀ k ∈ [18, 120, 121, 127, 128, 130, 131, 132, 133, 134, 136, 137, 146], k ∉ W) : Big s := by
  have e (k : Nat) (hk : 100 + k ∈ [18, 120, 121, 127, 128, 130, 131, 132, 133, 134, 136, 137, 146]) : s.f k = s0.f k := (h.2 k (hW _ hk)).1
  unfold Big
  rw [h.1 18 (hW 18 (by decide)), e 20 (by decide), e 21 (by decide), e 27 (by decide), e 28 (by decide), e 30 (by decide), e 31 (by decide), e 32 (by decide), e 33 (by decide), e 34 (by decide), e 36 (by decide), e 37 (by decide), e 46 (by decide)]
  exact hB
theorem clamp_of_int {i : Int32} {n : Nat} (h : i.toInt = (n : Int)) : i.toNatClampNeg = n := by
  have e : i.toInt.toNat = i.toNatClampNeg := Int32.toNat_toInt i
  omega
theorem Big.six {W : List Nat} {s0 s : RS} {i : Int32} (hB : Big s0) (h : FrR W s0 s) (hW : 146 ∉ W) (h0 : 0 ≤ i.toInt) (h1 : i.toInt < 6) : 1 ≤ (s.f 46 (Int32.toNatClampNeg i)).toInt ∧ (s.f 46 (Int32.toNatClampNeg i)).toInt ≤ 7776 := by
  rw [(h.2 46 hW).1]
  exact hB.1 _ (clamp_lt (n := 6) (by omega) (by omega))
theorem FrR.eq {s t : RS} (h : FrR [] s t) : t = s := by
  obtain ⟨v, f, g⟩ := s
  obtain ⟨v', f', g'⟩ := t
  have h1 : v' = v := funext (fun k => h.1 k (by simp))
  have h2 : f' = f := funext (fun k => (h.2 k (by simp)).1)
  have h3 : g' = g := funext (fun k => (h.2 k (by simp)).2)
  rw [h1, h2, h3]
theorem ti_ushr1 (x : Int32) : 0 ≤ (ushr x 1).toInt := by
  have e : (Int32.toUInt32 1 &&& Int32.toUInt32 31) = 1 := by decide
  have h : (x.toUInt32 >>> (1 : UInt32)).toNat < 2147483648 := by
    rw [UInt32.toNat_shiftRight]
    have h1 : x.toUInt32.toNat < 4294967296 := x.toUInt32.toNat_lt
    rw [show (1 : UInt32).toNat % 32 = 1 from by decide, Nat.shiftRight_eq_div_pow]
    omega
  show 0 ≤ ((x.toUInt32 >>> (Int32.toUInt32 1 &&& Int32.toUInt32 31)).toInt32).toInt
  rw [e]
  generalize x.toUInt32 >>> (1 : UInt32) = u at h
  have e2 : u.toInt32.toInt = (u.toNat : Int) := by
    show u.toBitVec.toInt = _
    rw [BitVec.toInt_eq_toNat_of_lt (by show 2 * u.toNat < _; omega)]
    rfl
  omega
