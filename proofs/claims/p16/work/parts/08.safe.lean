/-! ===== programs that come to an end: rows on options, and on ints ===== -/
noncomputable def Ok {α : Type} (o : Option α) (Q : α → Prop) : Prop := ∃ y, o = some y ∧ Q y
theorem ok_some {α : Type} {y : α} {Q : α → Prop} (h : Q y) : Ok (some y) Q := ⟨y, rfl, h⟩
theorem ok_ite {α : Type} {c : Prop} [Decidable c] {A B : Option α} {Q : α → Prop} (h1 : c → Ok A Q) (h2 : ¬ c → Ok B Q) : Ok (if c then A else B) Q := by
  by_cases h : c
  · rw [if_pos h]; exact h1 h
  · rw [if_neg h]; exact h2 h
theorem ok_grd {α : Type} {c : Prop} [Decidable c] {A B : Option α} {Q : α → Prop} (h : c) (h1 : Ok A Q) : Ok (if c then A else B) Q := by
  rw [if_pos h]; exact h1
theorem ok_let {σ α : Type} {S : σ} {k : σ → Option α} {Q : α → Prop} (h : ∀ s, S = s → Ok (k s) Q) : Ok (letS S k) Q := h S rfl
theorem ok_bindI {σ α : Type} {o : Option (Int32 × σ)} {k : Int32 → σ → Option α} {P : Int32 × σ → Prop} {Q : α → Prop} (h : Ok o P) (hk : ∀ r s, P (r, s) → Ok (k r s) Q) : Ok (bindI o k) Q := by
  obtain ⟨⟨r, s⟩, rfl, h2⟩ := h
  exact hk r s h2
theorem ok_bindL {σ α : Type} {o : Option (Int64 × σ)} {k : Int64 → σ → Option α} {P : Int64 × σ → Prop} {Q : α → Prop} (h : Ok o P) (hk : ∀ r s, P (r, s) → Ok (k r s) Q) : Ok (bindL o k) Q := by
  obtain ⟨⟨r, s⟩, rfl, h2⟩ := h
  exact hk r s h2
theorem ok_bindP {τ α : Type} {o : Option τ} {k : τ → Option α} {P : τ → Prop} {Q : α → Prop} (h : Ok o P) (hk : ∀ r, P r → Ok (k r) Q) : Ok (bindP o k) Q := by
  obtain ⟨r, rfl, h2⟩ := h
  exact hk r h2
theorem ok_weak {α : Type} {o : Option α} {P Q : α → Prop} (h : Ok o P) (hk : ∀ y, P y → Q y) : Ok o Q := by
  obtain ⟨y, h1, h2⟩ := h
  exact ⟨y, h1, hk y h2⟩
theorem ti_lt {x y : Int32} (h : x < y) : x.toInt < y.toInt := Int32.lt_iff_toInt_lt.mp h
theorem ti_le {x y : Int32} (h : x ≤ y) : x.toInt ≤ y.toInt := Int32.le_iff_toInt_le.mp h
theorem ti_eq {x y : Int32} (h : x = y) : x.toInt = y.toInt := congrArg Int32.toInt h
theorem ti_nlt {x y : Int32} (h : ¬ x < y) : y.toInt ≤ x.toInt := Int.not_lt.mp (fun q => h (Int32.lt_iff_toInt_lt.mpr q))
theorem ti_nle {x y : Int32} (h : ¬ x ≤ y) : y.toInt < x.toInt := Int.not_le.mp (fun q => h (Int32.le_iff_toInt_le.mpr q))
theorem ti_ne {x y : Int32} (h : ¬ x = y) : x.toInt ≠ y.toInt := fun q => h (Int32.toInt_inj.mp q)
theorem ti_rng (x : Int32) : -2147483648 ≤ x.toInt ∧ x.toInt ≤ 2147483647 := by
  have h1 := Int32.le_toInt x
  have h2 := Int32.toInt_lt x
  omega
theorem ti_bmod {z : Int} (h1 : -2147483648 ≤ z) (h2 : z ≤ 2147483647) : z.bmod (2 ^ 32) = z := by
  rw [Int.bmod_eq_of_le (by omega) (by omega)]
theorem ti_add {x y : Int32} (h1 : -2147483648 ≤ x.toInt + y.toInt) (h2 : x.toInt + y.toInt ≤ 2147483647) : (x + y).toInt = x.toInt + y.toInt := by
  rw [Int32.toInt_add, ti_bmod h1 h2]
theorem ti_sub {x y : Int32} (h1 : -2147483648 ≤ x.toInt - y.toInt) (h2 : x.toInt - y.toInt ≤ 2147483647) : (x - y).toInt = x.toInt - y.toInt := by
  rw [Int32.toInt_sub, ti_bmod h1 h2]
theorem ti_neg {x : Int32} (h : x.toInt ≠ -2147483648) : (-x).toInt = -x.toInt := by
  have := ti_rng x
  rw [Int32.toInt_neg, ti_bmod (by omega) (by omega)]
theorem ti_mulc {x y : Int32} {c : Int} (hy : y.toInt = c) (h1 : -2147483648 ≤ x.toInt * c) (h2 : x.toInt * c ≤ 2147483647) : (x * y).toInt = x.toInt * c := by
  rw [Int32.toInt_mul, hy, ti_bmod h1 h2]
theorem ti_cmul {x y : Int32} {c : Int} (hy : y.toInt = c) (h1 : -2147483648 ≤ x.toInt * c) (h2 : x.toInt * c ≤ 2147483647) : (y * x).toInt = x.toInt * c := by
  rw [Int32.toInt_mul, hy, Int.mul_comm, ti_bmod h1 h2]
theorem ti_mulr {x y : Int32} {a b : Int} (h1 : 0 ≤ x.toInt) (h2 : x.toInt ≤ a) (h3 : 0 ≤ y.toInt) (h4 : y.toInt ≤ b) (h5 : a * b ≤ 2147483647) : 0 ≤ (x * y).toInt ∧ (x * y).toInt ≤ a * b := by
  have h6 : 0 ≤ x.toInt * y.toInt := Int.mul_nonneg h1 h3
  have h7 : x.toInt * y.toInt ≤ a * b := Int.mul_le_mul h2 h4 h3 (Int.le_trans h1 h2)
  rw [Int32.toInt_mul, ti_bmod (by omega) (by omega)]
  exact ⟨h6, h7⟩
theorem ti_div {x y : Int32} (hx : 0 ≤ x.toInt) (hy : 0 < y.toInt) : (x / y).toInt = x.toInt / y.toInt := by
  rw [Int32.toInt_div_of_ne_right x y (fun h => by rw [h] at hy; exact absurd hy (by decide)), Int.tdiv_eq_ediv_of_nonneg hx]
theorem ti_divc {x y : Int32} {c : Int} (hy : y.toInt = c) (hx : 0 ≤ x.toInt) (hc : 0 < c) : (x / y).toInt = x.toInt / c := by
  rw [ti_div hx (by omega), hy]
theorem ti_rem {x y : Int32} (hx : 0 ≤ x.toInt) (hy : 0 < y.toInt) : (x - x / y * y).toInt = x.toInt % y.toInt := by
  have hd := ti_div hx hy
  have hr := ti_rng x
  have h0 : 0 ≤ x.toInt / y.toInt * y.toInt := Int.mul_nonneg (Int.ediv_nonneg hx (Int.le_of_lt hy)) (Int.le_of_lt hy)
  have h1 : x.toInt / y.toInt * y.toInt ≤ x.toInt := Int.ediv_mul_le _ (by omega)
  have hm : (x / y * y).toInt = x.toInt / y.toInt * y.toInt := by
    rw [Int32.toInt_mul, hd, ti_bmod (by omega) (by omega)]
  rw [Int32.toInt_sub, hm, ti_bmod (by omega) (by omega), Int.emod_def, Int.mul_comm]
theorem ti_remc {x y : Int32} {c : Int} (hy : y.toInt = c) (hx : 0 ≤ x.toInt) (hc : 0 < c) : (x - x / y * y).toInt = x.toInt % c := by
  rw [ti_rem hx (by omega), hy]
theorem ti_remb {x y : Int32} (hx : 0 ≤ x.toInt) (hy : 0 < y.toInt) : 0 ≤ (x - x / y * y).toInt ∧ (x - x / y * y).toInt < y.toInt := by
  rw [ti_rem hx hy]
  exact ⟨Int.emod_nonneg _ (by omega), Int.emod_lt_of_pos _ hy⟩
theorem ti_z01 {x : Int32} (h1 : 0 ≤ x.toInt) (h2 : x.toInt ≤ 1) : x = 0 ∨ x = 1 := by
  rcases (show x.toInt = 0 ∨ x.toInt = 1 by omega) with h | h
  · exact Or.inl (Int32.toInt_inj.mp h)
  · exact Or.inr (Int32.toInt_inj.mp h)
theorem vpb_ok {i : Int32} {n : Nat} (h0 : 0 ≤ i.toInt) (h1 : i.toInt < (n : Int)) : vpb i n = true := by
  refine decide_eq_true ?_
  rintro (h | h)
  · have := ti_lt h
    rw [show (0 : Int32).toInt = 0 from by decide] at this
    omega
  · have e : i.toInt.toNat = i.toNatClampNeg := Int32.toNat_toInt i
    omega
theorem ti_mmax (x y : Int32) : x.toInt ≤ (mmax x y).toInt ∧ y.toInt ≤ (mmax x y).toInt ∧ ((mmax x y).toInt = x.toInt ∨ (mmax x y).toInt = y.toInt) := by
  unfold mmax
  by_cases h : x < y
  · have := ti_lt h
    rw [if_pos h]; omega
  · have := ti_nlt h
    rw [if_neg h]; omega
theorem ti_mmin (x y : Int32) : (mmin x y).toInt ≤ x.toInt ∧ (mmin x y).toInt ≤ y.toInt ∧ ((mmin x y).toInt = x.toInt ∨ (mmin x y).toInt = y.toInt) := by
  unfold mmin
  by_cases h : y < x
  · have := ti_lt h
    rw [if_pos h]; omega
  · have := ti_nlt h
    rw [if_neg h]; omega
theorem cpy_rng {f g : Nat → Int32} {n : Nat} {lo hi : Int} (hf : ∀ j, lo ≤ (f j).toInt ∧ (f j).toInt ≤ hi) (hg : ∀ j, lo ≤ (g j).toInt ∧ (g j).toInt ≤ hi) : ∀ j, lo ≤ (va_cpy f g 0 0 n j).toInt ∧ (va_cpy f g 0 0 n j).toInt ≤ hi := by
  intro j
  unfold va_cpy
  split
  · exact hf _
  · exact hg _
theorem ti_and1 (x : Int32) : 0 ≤ (x &&& 1).toInt ∧ (x &&& 1).toInt ≤ 1 := by
  have h : (x &&& 1).toBitVec.toNat ≤ 1 := by
    show (x.toBitVec &&& 1#32).toNat ≤ 1
    rw [BitVec.toNat_and]
    exact Nat.and_le_right
  have e : (x &&& 1).toInt = ((x &&& 1).toBitVec.toNat : Int) := by
    show (x &&& 1).toBitVec.toInt = _
    rw [BitVec.toInt_eq_toNat_of_lt (by omega)]
  omega
theorem ti_divb {x y : Int32} (hx : 0 ≤ x.toInt) (hy : 0 < y.toInt) : 0 ≤ (x / y).toInt ∧ (x / y).toInt ≤ x.toInt := by
  rw [ti_div hx hy]
  refine ⟨Int.ediv_nonneg hx (Int.le_of_lt hy), ?_⟩
  exact Int.ediv_le_self _ hx
theorem clamp_lt {i : Int32} {n : Nat} (h1 : i.toInt < (n : Int)) (h2 : 0 < n) : i.toNatClampNeg < n := by
  have e : i.toInt.toNat = i.toNatClampNeg := Int32.toNat_toInt i
  omega
/-! the same with numbers given -/
theorem tn_lt {x y : Int32} {a b : Int} (hx : x.toInt = a) (hy : y.toInt = b) (h : x < y) : a < b := hx ▸ hy ▸ ti_lt h
theorem tn_le {x y : Int32} {a b : Int} (hx : x.toInt = a) (hy : y.toInt = b) (h : x ≤ y) : a ≤ b := hx ▸ hy ▸ ti_le h
theorem tn_eq {x y : Int32} {a b : Int} (hx : x.toInt = a) (hy : y.toInt = b) (h : x = y) : a = b := hx ▸ hy ▸ ti_eq h
theorem tn_nlt {x y : Int32} {a b : Int} (hx : x.toInt = a) (hy : y.toInt = b) (h : ¬ x < y) : b ≤ a := hx ▸ hy ▸ ti_nlt h
theorem tn_nle {x y : Int32} {a b : Int} (hx : x.toInt = a) (hy : y.toInt = b) (h : ¬ x ≤ y) : b < a := hx ▸ hy ▸ ti_nle h
theorem tn_ne {x y : Int32} {a b : Int} (hx : x.toInt = a) (hy : y.toInt = b) (h : ¬ x = y) : a ≠ b := hx ▸ hy ▸ ti_ne h
theorem tn_add {x y : Int32} {a b : Int} (hx : x.toInt = a) (hy : y.toInt = b) (h1 : -2147483648 ≤ a + b) (h2 : a + b ≤ 2147483647) : (x + y).toInt = a + b := by
  subst hx; subst hy; exact ti_add h1 h2
theorem tn_sub {x y : Int32} {a b : Int} (hx : x.toInt = a) (hy : y.toInt = b) (h1 : -2147483648 ≤ a - b) (h2 : a - b ≤ 2147483647) : (x - y).toInt = a - b := by
  subst hx; subst hy; exact ti_sub h1 h2
theorem tn_mmax {x y : Int32} {a b : Int} (hx : x.toInt = a) (hy : y.toInt = b) : a ≤ (mmax x y).toInt ∧ b ≤ (mmax x y).toInt ∧ ((mmax x y).toInt = a ∨ (mmax x y).toInt = b) := by
  subst hx; subst hy; exact ti_mmax x y
theorem tn_mmin {x y : Int32} {a b : Int} (hx : x.toInt = a) (hy : y.toInt = b) : (mmin x y).toInt ≤ a ∧ (mmin x y).toInt ≤ b ∧ ((mmin x y).toInt = a ∨ (mmin x y).toInt = b) := by
  subst hx; subst hy; exact ti_mmin x y
noncomputable def loVK (k : Nat) : Int := if k = 0 then 0 else if k = 1 then 0 else if k = 2 then 0 else if k = 5 then 0 else if k = 8 then 0 else if k = 9 then 0 else if k = 12 then 0 else if k = 13 then 0 else if k = 15 then 0 else if k = 20 then 0 else if k = 21 then 0 else -2147483648
noncomputable def hiVK (k : Nat) : Int := if k = 0 then 2000 else if k = 1 then 5 else if k = 2 then 6 else if k = 5 then 404 else if k = 8 then 5 else if k = 9 then 6 else if k = 12 then 404 else if k = 13 then 3 else if k = 15 then 400 else if k = 20 then 2000 else if k = 21 then 20 else 2147483647
noncomputable def loFK (k : Nat) : Int := if k = 10 then 0 else if k = 11 then 0 else if k = 12 then 0 else if k = 23 then 0 else if k = 24 then 0 else if k = 25 then 0 else if k = 45 then 0 else -2147483648
noncomputable def hiFK (k : Nat) : Int := if k = 10 then 404 else if k = 11 then 404 else if k = 12 then 13 else if k = 23 then 404 else if k = 24 then 404 else if k = 25 then 13 else if k = 45 then 20 else 2147483647
/-- what holds of the class's numbers at all times -/
noncomputable def InvK (s : KS) : Prop := (∀ k, loVK k ≤ (s.v k).toInt ∧ (s.v k).toInt ≤ hiVK k) ∧ (∀ k j, loFK k ≤ (s.f k j).toInt ∧ (s.f k j).toInt ≤ hiFK k)
theorem InvK.sv {s : KS} {k : Nat} {x : Int32} (h : InvK s) (h1 : loVK k ≤ x.toInt) (h2 : x.toInt ≤ hiVK k) : InvK (s.sv k x) := by
  refine ⟨fun j => ?_, h.2⟩
  show loVK j ≤ (va_up s.v k x j).toInt ∧ (va_up s.v k x j).toInt ≤ hiVK j
  by_cases e : j = k
  · subst e; rw [va_up_self]; exact ⟨h1, h2⟩
  · rw [va_up_ne _ _ e]; exact h.1 j
theorem InvK.svF {s : KS} {k : Nat} {x : Int32} (h : InvK s) (h1 : loVK k = -2147483648) (h2 : hiVK k = 2147483647) : InvK (s.sv k x) := h.sv (by rw [h1]; exact (ti_rng x).1) (by rw [h2]; exact (ti_rng x).2)
theorem InvK.sf {s : KS} {k i : Nat} {x : Int32} (h : InvK s) (h1 : loFK k ≤ x.toInt) (h2 : x.toInt ≤ hiFK k) : InvK (s.sf k i x) := by
  refine ⟨h.1, fun a j => ?_⟩
  show loFK a ≤ (va_up s.f k (upd (s.f k) i x) a j).toInt ∧ (va_up s.f k (upd (s.f k) i x) a j).toInt ≤ hiFK a
  by_cases e : a = k
  · subst e; rw [va_up_self]; unfold upd
    by_cases e2 : j = i
    · rw [if_pos e2]; exact ⟨h1, h2⟩
    · rw [if_neg e2]; exact h.2 a j
  · rw [va_up_ne _ _ e]; exact h.2 a j
theorem InvK.sfF {s : KS} {k i : Nat} {x : Int32} (h : InvK s) (h1 : loFK k = -2147483648) (h2 : hiFK k = 2147483647) : InvK (s.sf k i x) := h.sf (by rw [h1]; exact (ti_rng x).1) (by rw [h2]; exact (ti_rng x).2)
noncomputable def loVG (k : Nat) : Int := if k = 3 then 0 else if k = 4 then 0 else -2147483648
noncomputable def hiVG (k : Nat) : Int := if k = 3 then 39 else if k = 4 then 40 else 2147483647
noncomputable def loFG (k : Nat) : Int := -2147483648
noncomputable def hiFG (k : Nat) : Int := 2147483647
/-- what holds of the class's numbers at all times -/
noncomputable def InvG (s : GS) : Prop := (∀ k, loVG k ≤ (s.v k).toInt ∧ (s.v k).toInt ≤ hiVG k) ∧ (∀ k j, loFG k ≤ (s.f k j).toInt ∧ (s.f k j).toInt ≤ hiFG k)
theorem InvG.sv {s : GS} {k : Nat} {x : Int32} (h : InvG s) (h1 : loVG k ≤ x.toInt) (h2 : x.toInt ≤ hiVG k) : InvG (s.sv k x) := by
  refine ⟨fun j => ?_, h.2⟩
  show loVG j ≤ (va_up s.v k x j).toInt ∧ (va_up s.v k x j).toInt ≤ hiVG j
  by_cases e : j = k
  · subst e; rw [va_up_self]; exact ⟨h1, h2⟩
  · rw [va_up_ne _ _ e]; exact h.1 j
theorem InvG.svF {s : GS} {k : Nat} {x : Int32} (h : InvG s) (h1 : loVG k = -2147483648) (h2 : hiVG k = 2147483647) : InvG (s.sv k x) := h.sv (by rw [h1]; exact (ti_rng x).1) (by rw [h2]; exact (ti_rng x).2)
theorem InvG.sf {s : GS} {k i : Nat} {x : Int32} (h : InvG s) (h1 : loFG k ≤ x.toInt) (h2 : x.toInt ≤ hiFG k) : InvG (s.sf k i x) := by
  refine ⟨h.1, fun a j => ?_⟩
  show loFG a ≤ (va_up s.f k (upd (s.f k) i x) a j).toInt ∧ (va_up s.f k (upd (s.f k) i x) a j).toInt ≤ hiFG a
  by_cases e : a = k
  · subst e; rw [va_up_self]; unfold upd
    by_cases e2 : j = i
    · rw [if_pos e2]; exact ⟨h1, h2⟩
    · rw [if_neg e2]; exact h.2 a j
  · rw [va_up_ne _ _ e]; exact h.2 a j
theorem InvG.sfF {s : GS} {k i : Nat} {x : Int32} (h : InvG s) (h1 : loFG k = -2147483648) (h2 : hiFG k = 2147483647) : InvG (s.sf k i x) := h.sf (by rw [h1]; exact (ti_rng x).1) (by rw [h2]; exact (ti_rng x).2)
theorem InvK.sa {s : KS} {k : Nat} {x : Nat → Int32} (h : InvK s) (hx : ∀ j, loFK k ≤ (x j).toInt ∧ (x j).toInt ≤ hiFK k) : InvK (s.sa k x) := by
  refine ⟨h.1, fun a j => ?_⟩
  show loFK a ≤ (va_up s.f k x a j).toInt ∧ (va_up s.f k x a j).toInt ≤ hiFK a
  by_cases e : a = k
  · subst e; rw [va_up_self]; exact hx j
  · rw [va_up_ne _ _ e]; exact h.2 a j
theorem InvK.saF {s : KS} {k : Nat} {x : Nat → Int32} (h : InvK s) (h1 : loFK k = -2147483648) (h2 : hiFK k = 2147483647) : InvK (s.sa k x) := h.sa (fun j => by rw [h1, h2]; exact ti_rng _)
theorem InvK.sg {s : KS} {k i : Nat} {x : Int64} (h : InvK s) : InvK (s.sg k i x) := h
theorem InvK.su {s : KS} {k : Nat} {x : Int64} (h : InvK s) : InvK (s.su k x) := h
/-- what a program leaves as it was: all numbers but those of W, all rows k but those with 100 + k in W -/
noncomputable def FrK (W : List Nat) (s t : KS) : Prop := (∀ k, k ∉ W → t.v k = s.v k) ∧ (∀ k, 100 + k ∉ W → t.f k = s.f k ∧ t.g k = s.g k)
theorem FrK.rfl {W : List Nat} {s : KS} : FrK W s s := ⟨fun _ _ => Eq.refl _, fun _ _ => ⟨Eq.refl _, Eq.refl _⟩⟩
theorem FrK.sv {W : List Nat} {s t : KS} {k : Nat} {x : Int32} (h : FrK W s t) (hk : k ∈ W) : FrK W s (t.sv k x) := by
  refine ⟨fun j hj => ?_, h.2⟩
  show va_up t.v k x j = s.v j
  have hn : j ≠ k := fun e => hj (by rw [e]; exact hk)
  rw [va_up_ne _ _ hn]; exact h.1 j hj
theorem FrK.sf {W : List Nat} {s t : KS} {k i : Nat} {x : Int32} (h : FrK W s t) (hk : 100 + k ∈ W) : FrK W s (t.sf k i x) := by
  refine ⟨h.1, fun j hj => ⟨?_, (h.2 j hj).2⟩⟩
  show va_up t.f k (upd (t.f k) i x) j = s.f j
  have hn : j ≠ k := fun e => hj (by rw [e]; exact hk)
  rw [va_up_ne _ _ hn]; exact (h.2 j hj).1
theorem FrK.sa {W : List Nat} {s t : KS} {k : Nat} {x : Nat → Int32} (h : FrK W s t) (hk : 100 + k ∈ W) : FrK W s (t.sa k x) := by
  refine ⟨h.1, fun j hj => ⟨?_, (h.2 j hj).2⟩⟩
  show va_up t.f k x j = s.f j
  have hn : j ≠ k := fun e => hj (by rw [e]; exact hk)
  rw [va_up_ne _ _ hn]; exact (h.2 j hj).1
theorem FrK.sg {W : List Nat} {s t : KS} {k i : Nat} {x : Int64} (h : FrK W s t) (hk : 100 + k ∈ W) : FrK W s (t.sg k i x) := by
  refine ⟨h.1, fun j hj => ⟨(h.2 j hj).1, ?_⟩⟩
  show va_up t.g k (vp_updL (t.g k) i x) j = s.g j
  have hn : j ≠ k := fun e => hj (by rw [e]; exact hk)
  rw [va_up_ne _ _ hn]; exact (h.2 j hj).2
theorem FrK.su {W : List Nat} {s t : KS} {k : Nat} {x : Int64} (h : FrK W s t) : FrK W s (t.su k x) := h
theorem FrK.trans {W W' : List Nat} {s t u : KS} (h : FrK W s t) (h2 : FrK W' t u) (hW : ∀ k ∈ W', k ∈ W) : FrK W s u :=
  ⟨fun k hk => (h2.1 k (fun q => hk (hW k q))).trans (h.1 k hk), fun k hk => ⟨(h2.2 k (fun q => hk (hW _ q))).1.trans (h.2 k hk).1, (h2.2 k (fun q => hk (hW _ q))).2.trans (h.2 k hk).2⟩⟩
