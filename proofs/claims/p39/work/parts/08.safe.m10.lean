section
/-! ===== programs that come to an end: rows on options, and on ints ===== -/
noncomputable def Ok {α : Type} (o : Option α) (Q : α → Prop) : Prop := ∃ y, o = some y ∧ Q y
theorem ok_some {α : Type} {y : α} {Q : α → Prop} (h : Q y) : Ok (some y) Q := ⟨y, rfl, h⟩
theorem ok_ite {α : Type} {c : Prop} [Decidable c] {A B : Option α} {Q : α → Prop} (h1 : c → Ok A Q) (h2 : ¬ c → Ok B Q) : Ok (if c then A else B) Q := by
  by_cases h : c
  · rw [if_pos h]; exact h1 h
  · rw [if_neg h]; exact h2 h
theorem ok_grd {α : Type} {c : Prop} [Decidable c] {A B : Option α} {Q : α → Prop} (h : c) (h1 : Ok A Q) : Ok (if c then A else B) Q := by
  rw [if_pos h]; exact h1
theorem ok_let {σ α : Type} {S : σ} {k : σ → Option α} {Q : α → Prop} (h : ∀ s, S = s → Ok (k s) Q) : Ok (letS S k) Q := h S rfl
theorem ok_bindI {σ α : Type} {o : Option (Int32 × σ)} {k : Int32 → σ → Option α} {P : Int32 × σ → Prop} {Q : α → Prop} (h : Ok o P) (hk : ∀ r s, P (r, s) → Ok (k r s) Q) : Ok (bindI o k) Q := by
  obtain ⟨⟨r, s⟩, rfl, h2⟩ := h
  exact hk r s h2
theorem ok_bindL {σ α : Type} {o : Option (Int64 × σ)} {k : Int64 → σ → Option α} {P : Int64 × σ → Prop} {Q : α → Prop} (h : Ok o P) (hk : ∀ r s, P (r, s) → Ok (k r s) Q) : Ok (bindL o k) Q := by
  obtain ⟨⟨r, s⟩, rfl, h2⟩ := h
  exact hk r s h2
theorem ok_bindP {τ α : Type} {o : Option τ} {k : τ → Option α} {P : τ → Prop} {Q : α → Prop} (h : Ok o P) (hk : ∀ r, P r → Ok (k r) Q) : Ok (bindP o k) Q := by
  obtain ⟨r, rfl, h2⟩ := h
  exact hk r h2
theorem ok_weak {α : Type} {o : Option α} {P Q : α → Prop} (h : Ok o P) (hk : ∀ y, P y → Q y) : Ok o Q := by
  obtain ⟨y, h1, h2⟩ := h
  exact ⟨y, h1, hk y h2⟩
theorem ti_lt {x y : Int32} (h : x < y) : x.toInt < y.toInt := Int32.lt_iff_toInt_lt.mp h
theorem ti_le {x y : Int32} (h : x ≤ y) : x.toInt ≤ y.toInt := Int32.le_iff_toInt_le.mp h
theorem ti_eq {x y : Int32} (h : x = y) : x.toInt = y.toInt := congrArg Int32.toInt h
theorem ti_nlt {x y : Int32} (h : ¬ x < y) : y.toInt ≤ x.toInt := Int.not_lt.mp (fun q => h (Int32.lt_iff_toInt_lt.mpr q))
theorem ti_nle {x y : Int32} (h : ¬ x ≤ y) : y.toInt < x.toInt := Int.not_le.mp (fun q => h (Int32.le_iff_toInt_le.mpr q))
theorem ti_ne {x y : Int32} (h : ¬ x = y) : x.toInt ≠ y.toInt := fun q => h (Int32.toInt_inj.mp q)
theorem ti_rng (x : Int32) : -2147483648 ≤ x.toInt ∧ x.toInt ≤ 2147483647 := by
  have h1 := Int32.le_toInt x
  have h2 := Int32.toInt_lt x
  omega
theorem ti_bmod {z : Int} (h1 : -2147483648 ≤ z) (h2 : z ≤ 2147483647) : z.bmod (2 ^ 32) = z := by
  rw [Int.bmod_eq_of_le (by omega) (by omega)]
theorem ti_add {x y : Int32} (h1 : -2147483648 ≤ x.toInt + y.toInt) (h2 : x.toInt + y.toInt ≤ 2147483647) : (x + y).toInt = x.toInt + y.toInt := by
  rw [Int32.toInt_add, ti_bmod h1 h2]
theorem ti_sub {x y : Int32} (h1 : -2147483648 ≤ x.toInt - y.toInt) (h2 : x.toInt - y.toInt ≤ 2147483647) : (x - y).toInt = x.toInt - y.toInt := by
  rw [Int32.toInt_sub, ti_bmod h1 h2]
theorem ti_neg {x : Int32} (h : x.toInt ≠ -2147483648) : (-x).toInt = -x.toInt := by
  have := ti_rng x
  rw [Int32.toInt_neg, ti_bmod (by omega) (by omega)]
theorem ti_mulc {x y : Int32} {c : Int} (hy : y.toInt = c) (h1 : -2147483648 ≤ x.toInt * c) (h2 : x.toInt * c ≤ 2147483647) : (x * y).toInt = x.toInt * c := by
  rw [Int32.toInt_mul, hy, ti_bmod h1 h2]
theorem ti_cmul {x y : Int32} {c : Int} (hy : y.toInt = c) (h1 : -2147483648 ≤ x.toInt * c) (h2 : x.toInt * c ≤ 2147483647) : (y * x).toInt = x.toInt * c := by
  rw [Int32.toInt_mul, hy, Int.mul_comm, ti_bmod h1 h2]
theorem ti_mulr {x y : Int32} {a b : Int} (h1 : 0 ≤ x.toInt) (h2 : x.toInt ≤ a) (h3 : 0 ≤ y.toInt) (h4 : y.toInt ≤ b) (h5 : a * b ≤ 2147483647) : 0 ≤ (x * y).toInt ∧ (x * y).toInt ≤ a * b := by
  have h6 : 0 ≤ x.toInt * y.toInt := Int.mul_nonneg h1 h3
  have h7 : x.toInt * y.toInt ≤ a * b := Int.mul_le_mul h2 h4 h3 (Int.le_trans h1 h2)
  rw [Int32.toInt_mul, ti_bmod (by omega) (by omega)]
  exact ⟨h6, h7⟩
theorem ti_div {x y : Int32} (hx : 0 ≤ x.toInt) (hy : 0 < y.toInt) : (x / y).toInt = x.toInt / y.toInt := by
  rw [Int32.toInt_div_of_ne_right x y (fun h => by rw [h] at hy; exact absurd hy (by decide)), Int.tdiv_eq_ediv_of_nonneg hx]
theorem ti_divc {x y : Int32} {c : Int} (hy : y.toInt = c) (hx : 0 ≤ x.toInt) (hc : 0 < c) : (x / y).toInt = x.toInt / c := by
  rw [ti_div hx (by omega), hy]
theorem ti_rem {x y : Int32} (hx : 0 ≤ x.toInt) (hy : 0 < y.toInt) : (x - x / y * y).toInt = x.toInt % y.toInt := by
  have hd := ti_div hx hy
  have hr := ti_rng x
  have h0 : 0 ≤ x.toInt / y.toInt * y.toInt := Int.mul_nonneg (Int.ediv_nonneg hx (Int.le_of_lt hy)) (Int.le_of_lt hy)
  have h1 : x.toInt / y.toInt * y.toInt ≤ x.toInt := Int.ediv_mul_le _ (by omega)
  have hm : (x / y * y).toInt = x.toInt / y.toInt * y.toInt := by
    rw [Int32.toInt_mul, hd, ti_bmod (by omega) (by omega)]
  rw [Int32.toInt_sub, hm, ti_bmod (by omega) (by omega), Int.emod_def, Int.mul_comm]
theorem ti_remc {x y : Int32} {c : Int} (hy : y.toInt = c) (hx : 0 ≤ x.toInt) (hc : 0 < c) : (x - x / y * y).toInt = x.toInt % c := by
  rw [ti_rem hx (by omega), hy]
theorem ti_remb {x y : Int32} (hx : 0 ≤ x.toInt) (hy : 0 < y.toInt) : 0 ≤ (x - x / y * y).toInt ∧ (x - x / y * y).toInt < y.toInt := by
  rw [ti_rem hx hy]
  exact ⟨Int.emod_nonneg _ (by omega), Int.emod_lt_of_pos _ hy⟩
theorem ti_z01 {x : Int32} (h1 : 0 ≤ x.toInt) (h2 : x.toInt ≤ 1) : x = 0 ∨ x = 1 := by
  rcases (show x.toInt = 0 ∨ x.toInt = 1 by omega) with h | h
  · exact Or.inl (Int32.toInt_inj.mp h)
  · exact Or.inr (Int32.toInt_inj.mp h)
theorem vpb_ok {i : Int32} {n : Nat} (h0 : 0 ≤ i.toInt) (h1 : i.toInt < (n : Int)) : vpb i n = true := by
  refine decide_eq_true ?_
  rintro (h | h)
  · have := ti_lt h
    rw [show (0 : Int32).toInt = 0 from by decide] at this
    omega
  · have e : i.toInt.toNat = i.toNatClampNeg := Int32.toNat_toInt i
    omega
theorem ti_mmax (x y : Int32) : x.toInt ≤ (mmax x y).toInt ∧ y.toInt ≤ (mmax x y).toInt ∧ ((mmax x y).toInt = x.toInt ∨ (mmax x y).toInt = y.toInt) := by
  unfold mmax
  by_cases h : x < y
  · have := ti_lt h
    rw [if_pos h]; omega
  · have := ti_nlt h
    rw [if_neg h]; omega
theorem ti_mmin (x y : Int32) : (mmin x y).toInt ≤ x.toInt ∧ (mmin x y).toInt ≤ y.toInt ∧ ((mmin x y).toInt = x.toInt ∨ (mmin x y).toInt = y.toInt) := by
  unfold mmin
  by_cases h : y < x
  · have := ti_lt h
    rw [if_pos h]; omega
  · have := ti_nlt h
    rw [if_neg h]; omega
theorem cpy_rng {f g : Nat → Int32} {n : Nat} {lo hi : Int} (hf : ∀ j, lo ≤ (f j).toInt ∧ (f j).toInt ≤ hi) (hg : ∀ j, lo ≤ (g j).toInt ∧ (g j).toInt ≤ hi) : ∀ j, lo ≤ (va_cpy f g 0 0 n j).toInt ∧ (va_cpy f g 0 0 n j).toInt ≤ hi := by
  intro j
  unfold va_cpy
  split
  · exact hf _
  · exact hg _
theorem ti_and1 (x : Int32) : 0 ≤ (x &&& 1).toInt ∧ (x &&& 1).toInt ≤ 1 := by
  have h : (x &&& 1).toBitVec.toNat ≤ 1 := by
    show (x.toBitVec &&& 1#32).toNat ≤ 1
    rw [BitVec.toNat_and]
    exact Nat.and_le_right
  have e : (x &&& 1).toInt = ((x &&& 1).toBitVec.toNat : Int) := by
    show (x &&& 1).toBitVec.toInt = _
    rw [BitVec.toInt_eq_toNat_of_lt (by omega)]
  omega
theorem ti_divb {x y : Int32} (hx : 0 ≤ x.toInt) (hy : 0 < y.toInt) : 0 ≤ (x / y).toInt ∧ (x / y).toInt ≤ x.toInt := by
  rw [ti_div hx hy]
  refine ⟨Int.ediv_nonneg hx (Int.le_of_lt hy), ?_⟩
  exact Int.ediv_le_self _ hx
theorem clamp_lt {i : Int32} {n : Nat} (h1 : i.toInt < (n : Int)) (h2 : 0 < n) : i.toNatClampNeg < n := by
  have e : i.toInt.toNat = i.toNatClampNeg := Int32.toNat_toInt i
  omega
/-! the same with numbers given -/
theorem tn_lt {x y : Int32} {a b : Int} (hx : x.toInt = a) (hy : y.toInt = b) (h : x < y) : a < b := hx ▸ hy ▸ ti_lt h
theorem tn_le {x y : Int32} {a b : Int} (hx : x.toInt = a) (hy : y.toInt = b) (h : x ≤ y) : a ≤ b := hx ▸ hy ▸ ti_le h
theorem tn_eq {x y : Int32} {a b : Int} (hx : x.toInt = a) (hy : y.toInt = b) (h : x = y) : a = b := hx ▸ hy ▸ ti_eq h
theorem tn_nlt {x y : Int32} {a b : Int} (hx : x.toInt = a) (hy : y.toInt = b) (h : ¬ x < y) : b ≤ a := hx ▸ hy ▸ ti_nlt h
theorem tn_nle {x y : Int32} {a b : Int} (hx : x.toInt = a) (hy : y.toInt = b) (h : ¬ x ≤ y) : b < a := hx ▸ hy ▸ ti_nle h
theorem tn_ne {x y : Int32} {a b : Int} (hx : x.toInt = a) (hy : y.toInt = b) (h : ¬ x = y) : a ≠ b := hx ▸ hy ▸ ti_ne h
theorem tn_add {x y : Int32} {a b : Int} (hx : x.toInt = a) (hy : y.toInt = b) (h1 : -2147483648 ≤ a + b) (h2 : a + b ≤ 2147483647) : (x + y).toInt = a + b := by
  subst hx; subst hy; exact ti_add h1 h2
theorem tn_sub {x y : Int32} {a b : Int} (hx : x.toInt = a) (hy : y.toInt = b) (h1 : -2147483648 ≤ a - b) (h2 : a - b ≤ 2147483647) : (x - y).toInt = a - b := by
  subst hx; subst hy; exact ti_sub h1 h2
theorem tn_mmax {x y : Int32} {a b : Int} (hx : x.toInt = a) (hy : y.toInt = b) : a ≤ (mmax x y).toInt ∧ b ≤ (mmax x y).toInt ∧ ((mmax x y).toInt = a ∨ (mmax x y).toInt = b) := by
  subst hx; subst hy; exact ti_mmax x y
theorem tn_mmin {x y : Int32} {a b : Int} (hx : x.toInt = a) (hy : y.toInt = b) : (mmin x y).toInt ≤ a ∧ (mmin x y).toInt ≤ b ∧ ((mmin x y).toInt = a ∨ (mmin x y).toInt = b) := by
  subst hx; subst hy; exact ti_mmin x y
noncomputable def loVK (k : Nat) : Int := if k = 0 then 0 else if k = 1 then 0 else if k = 2 then 0 else if k = 5 then 0 else if k = 8 then 0 else if k = 9 then 0 else if k = 12 then 0 else if k = 13 then 0 else if k = 15 then 0 else if k = 20 then 0 else if k = 21 then 0 else -2147483648
noncomputable def hiVK (k : Nat) : Int := if k = 0 then 2000 else if k = 1 then 5 else if k = 2 then 6 else if k = 5 then 404 else if k = 8 then 5 else if k = 9 then 6 else if k = 12 then 404 else if k = 13 then 3 else if k = 15 then 400 else if k = 20 then 2000 else if k = 21 then 20 else 2147483647
noncomputable def loFK (k : Nat) : Int := if k = 10 then 0 else if k = 11 then 0 else if k = 12 then 0 else if k = 23 then 0 else if k = 24 then 0 else if k = 25 then 0 else if k = 45 then 0 else -2147483648
noncomputable def hiFK (k : Nat) : Int := if k = 10 then 404 else if k = 11 then 404 else if k = 12 then 13 else if k = 23 then 404 else if k = 24 then 404 else if k = 25 then 13 else if k = 45 then 20 else 2147483647
/-- what holds of the class's numbers at all times -/
noncomputable def InvK (s : KS) : Prop := (∀ k, loVK k ≤ (s.v k).toInt ∧ (s.v k).toInt ≤ hiVK k) ∧ (∀ k j, loFK k ≤ (s.f k j).toInt ∧ (s.f k j).toInt ≤ hiFK k)
theorem InvK.sv {s : KS} {k : Nat} {x : Int32} (h : InvK s) (h1 : loVK k ≤ x.toInt) (h2 : x.toInt ≤ hiVK k) : InvK (s.sv k x) := by
  refine ⟨fun j => ?_, h.2⟩
  show loVK j ≤ (va_up s.v k x j).toInt ∧ (va_up s.v k x j).toInt ≤ hiVK j
  by_cases e : j = k
  · subst e; rw [va_up_self]; exact ⟨h1, h2⟩
  · rw [va_up_ne _ _ e]; exact h.1 j
theorem InvK.svF {s : KS} {k : Nat} {x : Int32} (h : InvK s) (h1 : loVK k = -2147483648) (h2 : hiVK k = 2147483647) : InvK (s.sv k x) := h.sv (by rw [h1]; exact (ti_rng x).1) (by rw [h2]; exact (ti_rng x).2)
theorem InvK.sf {s : KS} {k i : Nat} {x : Int32} (h : InvK s) (h1 : loFK k ≤ x.toInt) (h2 : x.toInt ≤ hiFK k) : InvK (s.sf k i x) := by
  refine ⟨h.1, fun a j => ?_⟩
  show loFK a ≤ (va_up s.f k (upd (s.f k) i x) a j).toInt ∧ (va_up s.f k (upd (s.f k) i x) a j).toInt ≤ hiFK a
  by_cases e : a = k
  · subst e; rw [va_up_self]; unfold upd
    by_cases e2 : j = i
    · rw [if_pos e2]; exact ⟨h1, h2⟩
    · rw [if_neg e2]; exact h.2 a j
  · rw [va_up_ne _ _ e]; exact h.2 a j
theorem InvK.sfF {s : KS} {k i : Nat} {x : Int32} (h : InvK s) (h1 : loFK k = -2147483648) (h2 : hiFK k = 2147483647) : InvK (s.sf k i x) := h.sf (by rw [h1]; exact (ti_rng x).1) (by rw [h2]; exact (ti_rng x).2)
noncomputable def loVG (k : Nat) : Int := if k = 3 then 0 else if k = 4 then 0 else -2147483648
noncomputable def hiVG (k : Nat) : Int := if k = 3 then 39 else if k = 4 then 40 else 2147483647
noncomputable def loFG (k : Nat) : Int := -2147483648
noncomputable def hiFG (k : Nat) : Int := 2147483647
/-- what holds of the class's numbers at all times -/
noncomputable def InvG (s : GS) : Prop := (∀ k, loVG k ≤ (s.v k).toInt ∧ (s.v k).toInt ≤ hiVG k) ∧ (∀ k j, loFG k ≤ (s.f k j).toInt ∧ (s.f k j).toInt ≤ hiFG k)
theorem InvG.sv {s : GS} {k : Nat} {x : Int32} (h : InvG s) (h1 : loVG k ≤ x.toInt) (h2 : x.toInt ≤ hiVG k) : InvG (s.sv k x) := by
  refine ⟨fun j => ?_, h.2⟩
  show loVG j ≤ (va_up s.v k x j).toInt ∧ (va_up s.v k x j).toInt ≤ hiVG j
  by_cases e : j = k
  · subst e; rw [va_up_self]; exact ⟨h1, h2⟩
  · rw [va_up_ne _ _ e]; exact h.1 j
theorem InvG.svF {s : GS} {k : Nat} {x : Int32} (h : InvG s) (h1 : loVG k = -2147483648) (h2 : hiVG k = 2147483647) : InvG (s.sv k x) := h.sv (by rw [h1]; exact (ti_rng x).1) (by rw [h2]; exact (ti_rng x).2)
theorem InvG.sf {s : GS} {k i : Nat} {x : Int32} (h : InvG s) (h1 : loFG k ≤ x.toInt) (h2 : x.toInt ≤ hiFG k) : InvG (s.sf k i x) := by
  refine ⟨h.1, fun a j => ?_⟩
  show loFG a ≤ (va_up s.f k (upd (s.f k) i x) a j).toInt ∧ (va_up s.f k (upd (s.f k) i x) a j).toInt ≤ hiFG a
  by_cases e : a = k
  · subst e; rw [va_up_self]; unfold upd
    by_cases e2 : j = i
    · rw [if_pos e2]; exact ⟨h1, h2⟩
    · rw [if_neg e2]; exact h.2 a j
  · rw [va_up_ne _ _ e]; exact h.2 a j
theorem InvG.sfF {s : GS} {k i : Nat} {x : Int32} (h : InvG s) (h1 : loFG k = -2147483648) (h2 : hiFG k = 2147483647) : InvG (s.sf k i x) := h.sf (by rw [h1]; exact (ti_rng x).1) (by rw [h2]; exact (ti_rng x).2)
theorem InvK.sa {s : KS} {k : Nat} {x : Nat → Int32} (h : InvK s) (hx : ∀ j, loFK k ≤ (x j).toInt ∧ (x j).toInt ≤ hiFK k) : InvK (s.sa k x) := by
  refine ⟨h.1, fun a j => ?_⟩
  show loFK a ≤ (va_up s.f k x a j).toInt ∧ (va_up s.f k x a j).toInt ≤ hiFK a
  by_cases e : a = k
  · subst e; rw [va_up_self]; exact hx j
  · rw [va_up_ne _ _ e]; exact h.2 a j
theorem InvK.saF {s : KS} {k : Nat} {x : Nat → Int32} (h : InvK s) (h1 : loFK k = -2147483648) (h2 : hiFK k = 2147483647) : InvK (s.sa k x) := h.sa (fun j => by rw [h1, h2]; exact ti_rng _)
theorem InvK.sg {s : KS} {k i : Nat} {x : Int64} (h : InvK s) : InvK (s.sg k i x) := h
theorem InvK.su {s : KS} {k : Nat} {x : Int64} (h : InvK s) : InvK (s.su k x) := h
/-- what a program leaves as it was: all numbers but those of W, all rows k but those with 100 + k in W -/
noncomputable def FrK (W : List Nat) (s t : KS) : Prop := (∀ k, k ∉ W → t.v k = s.v k) ∧ (∀ k, 100 + k ∉ W → t.f k = s.f k ∧ t.g k = s.g k)
theorem FrK.rfl {W : List Nat} {s : KS} : FrK W s s := ⟨fun _ _ => Eq.refl _, fun _ _ => ⟨Eq.refl _, Eq.refl _⟩⟩
theorem FrK.sv {W : List Nat} {s t : KS} {k : Nat} {x : Int32} (h : FrK W s t) (hk : k ∈ W) : FrK W s (t.sv k x) := by
  refine ⟨fun j hj => ?_, h.2⟩
  show va_up t.v k x j = s.v j
  have hn : j ≠ k := fun e => hj (by rw [e]; exact hk)
  rw [va_up_ne _ _ hn]; exact h.1 j hj
theorem FrK.sf {W : List Nat} {s t : KS} {k i : Nat} {x : Int32} (h : FrK W s t) (hk : 100 + k ∈ W) : FrK W s (t.sf k i x) := by
  refine ⟨h.1, fun j hj => ⟨?_, (h.2 j hj).2⟩⟩
  show va_up t.f k (upd (t.f k) i x) j = s.f j
  have hn : j ≠ k := fun e => hj (by rw [e]; exact hk)
  rw [va_up_ne _ _ hn]; exact (h.2 j hj).1
theorem FrK.sa {W : List Nat} {s t : KS} {k : Nat} {x : Nat → Int32} (h : FrK W s t) (hk : 100 + k ∈ W) : FrK W s (t.sa k x) := by
  refine ⟨h.1, fun j hj => ⟨?_, (h.2 j hj).2⟩⟩
  show va_up t.f k x j = s.f j
  have hn : j ≠ k := fun e => hj (by rw [e]; exact hk)
  rw [va_up_ne _ _ hn]; exact (h.2 j hj).1
theorem FrK.sg {W : List Nat} {s t : KS} {k i : Nat} {x : Int64} (h : FrK W s t) (hk : 100 + k ∈ W) : FrK W s (t.sg k i x) := by
  refine ⟨h.1, fun j hj => ⟨(h.2 j hj).1, ?_⟩⟩
  show va_up t.g k (vp_updL (t.g k) i x) j = s.g j
  have hn : j ≠ k := fun e => hj (by rw [e]; exact hk)
  rw [va_up_ne _ _ hn]; exact (h.2 j hj).2
theorem FrK.su {W : List Nat} {s t : KS} {k : Nat} {x : Int64} (h : FrK W s t) : FrK W s (t.su k x) := h
theorem FrK.trans {W W' : List Nat} {s t u : KS} (h : FrK W s t) (h2 : FrK W' t u) (hW : ∀ k ∈ W', k ∈ W) : FrK W s u :=
  ⟨fun k hk => (h2.1 k (fun q => hk (hW k q))).trans (h.1 k hk), fun k hk => ⟨(h2.2 k (fun q => hk (hW _ q))).1.trans (h.2 k hk).1, (h2.2 k (fun q => hk (hW _ q))).2.trans (h.2 k hk).2⟩⟩
end
section
noncomputable abbrev Q_kJ1_canEncode_9a6ad (y : Int32) : Prop := 0 ≤ y.toInt ∧ y.toInt ≤ 1
set_option maxHeartbeats 1000000 in
theorem ok_kJ1_canEncode_9a6adB  (x0 : Int32)   : Ok (kJ1_canEncode_9a6ad  x0) Q_kJ1_canEncode_9a6ad := by
  unfold kJ1_canEncode_9a6ad
  refine ok_ite (fun c_1 => ?_) (fun c_1 => ?_)
  · have c_1 := tn_lt (a := (x0).toInt) (b := 0) rfl (by decide) c_1
    exact ok_some ⟨by show 0 ≤ (0 : Int32).toInt; decide, by show (0 : Int32).toInt ≤ 1; decide⟩
  · have c_1 := tn_nlt (a := (x0).toInt) (b := 0) rfl (by decide) c_1
    refine ok_ite (fun c_2 => ?_) (fun c_2 => ?_)
    · have c_2 := tn_lt (a := 255) (b := (x0).toInt) (by decide) rfl c_2
      exact ok_some ⟨by show 0 ≤ (0 : Int32).toInt; decide, by show (0 : Int32).toInt ≤ 1; decide⟩
    · have c_2 := tn_nlt (a := 255) (b := (x0).toInt) (by decide) rfl c_2
      exact ok_some ⟨by show 0 ≤ (1 : Int32).toInt; decide, by show (1 : Int32).toInt ≤ 1; decide⟩
theorem ok_kJ1_canEncode_9a6ad (x0 : Int32)  : Ok (kJ1_canEncode_9a6ad x0) Q_kJ1_canEncode_9a6ad := ok_kJ1_canEncode_9a6adB x0 
noncomputable abbrev Q_kJ1_indexOfChar_4cfef (y : Int32) : Prop := -1 ≤ y.toInt ∧ y.toInt ≤ 8
set_option maxHeartbeats 1000000 in
theorem ok_kJ1_indexOfChar_4cfef_7 (k7 : Int32 → Int32 → Int32 → Option (Int32)) (M7 : Nat) (hk7 : ∀ (x3 : Int32) (x4 : Int32) (x5 : Int32), 9 ≤ x3.toInt → x3.toInt ≤ 9 → 0 ≤ x5.toInt → x5.toInt ≤ 9 → (9 - x5.toInt).toNat < M7 → Ok (k7 x3 x4 x5) Q_kJ1_indexOfChar_4cfef) (x3 : Int32) (x4 : Int32) (x5 : Int32) (h_x3l : 9 ≤ x3.toInt) (h_x3u : x3.toInt ≤ 9) (h_x5l : 0 ≤ x5.toInt) (h_x5u : x5.toInt ≤ 9) (hM7 : (9 - x5.toInt).toNat ≤ M7) : Ok (kJ1_indexOfChar_4cfef_7 k7 x3 x4 x5) Q_kJ1_indexOfChar_4cfef := by
  unfold kJ1_indexOfChar_4cfef_7
  refine ok_ite (fun c_1 => ?_) (fun c_1 => ?_)
  · have c_1 := tn_le (a := (x3).toInt) (b := (x5).toInt) rfl rfl c_1
    exact ok_some ⟨by show -1 ≤ ((-1) : Int32).toInt; decide, by show ((-1) : Int32).toInt ≤ 8; decide⟩
  · have c_1 := tn_nle (a := (x3).toInt) (b := (x5).toInt) rfl rfl c_1
    refine ok_grd (vpb_ok (by omega) (by omega)) ?_
    refine ok_ite (fun c_2 => ?_) (fun c_2 => ?_)
    · have c_2 := tn_eq (a := ((sgn (Int32.toNatClampNeg x5))).toInt) (b := (x4).toInt) rfl rfl c_2
      exact ok_some ⟨by show -1 ≤ (x5).toInt; omega, by show (x5).toInt ≤ 8; omega⟩
    · have c_2 := tn_ne (a := ((sgn (Int32.toNatClampNeg x5))).toInt) (b := (x4).toInt) rfl rfl c_2
      have a_3 : ((x5 + 1)).toInt = (x5).toInt + 1 := tn_add rfl (by decide) (by omega) (by omega)
      exact hk7 _ _ _ (by omega) (by omega) (by omega) (by omega) (by omega)
theorem okL_kJ1_indexOfChar_4cfef_7  : ∀ (n : Nat) (x3 : Int32) (x4 : Int32) (x5 : Int32), (9 - x5.toInt).toNat < n → 9 ≤ x3.toInt → x3.toInt ≤ 9 → 0 ≤ x5.toInt → x5.toInt ≤ 9 → Ok (kJ1_indexOfChar_4cfef_7L  n x3 x4 x5) Q_kJ1_indexOfChar_4cfef := by
  intro n
  induction n with
  | zero => intro x3 x4 x5 hn; omega
  | succ n ih =>
    intro x3 x4 x5 hn h_x3l h_x3u h_x5l h_x5u 
    exact ok_kJ1_indexOfChar_4cfef_7 (kJ1_indexOfChar_4cfef_7L  n) ((9 - x5.toInt).toNat) (fun zx3 zx4 zx5 g0 g1 g2 g3  hm => ih zx3 zx4 zx5 (by omega) g0 g1 g2 g3 ) x3 x4 x5 h_x3l h_x3u h_x5l h_x5u (Nat.le_refl _)
set_option maxHeartbeats 1000000 in
theorem ok_kJ1_indexOfChar_4cfefB  (x1 : Int32) (x2 : Int32) (x3 : Int32) (h_x2l : 0 ≤ x2.toInt) (h_x2u : x2.toInt ≤ 0) (h_x3l : 9 ≤ x3.toInt) (h_x3u : x3.toInt ≤ 9)  : Ok (kJ1_indexOfChar_4cfef  x1 x2 x3) Q_kJ1_indexOfChar_4cfef := by
  unfold kJ1_indexOfChar_4cfef
  exact okL_kJ1_indexOfChar_4cfef_7  fu _ _ _ (by unfold fu; omega) (by omega) (by omega) (by omega) (by omega) 
theorem ok_kJ1_indexOfChar_4cfef (x1 : Int32) (x2 : Int32) (x3 : Int32) (h_x2l : 0 ≤ x2.toInt) (h_x2u : x2.toInt ≤ 0) (h_x3l : 9 ≤ x3.toInt) (h_x3u : x3.toInt ≤ 9) : Ok (kJ1_indexOfChar_4cfef x1 x2 x3) Q_kJ1_indexOfChar_4cfef := ok_kJ1_indexOfChar_4cfefB x1 x2 x3 h_x2l h_x2u h_x3l h_x3u
noncomputable abbrev Q_kJ1_indexOf_4cfef (y : Int32) : Prop := -1 ≤ y.toInt ∧ y.toInt ≤ 8
set_option maxHeartbeats 1000000 in
theorem ok_kJ1_indexOf_4cfefB  (x1 : Int32) (x2 : Int32) (x3 : Int32) (h_x2l : 0 ≤ x2.toInt) (h_x2u : x2.toInt ≤ 0) (h_x3l : 9 ≤ x3.toInt) (h_x3u : x3.toInt ≤ 9)  : Ok (kJ1_indexOf_4cfef  x1 x2 x3) Q_kJ1_indexOf_4cfef := by
  unfold kJ1_indexOf_4cfef
  refine ok_bindP (ok_kJ1_canEncode_9a6ad _ ) (fun r1 hc_1 => ?_)
  have hl_r1 : 0 ≤ r1.toInt := hc_1.1
  have hu_r1 : r1.toInt ≤ 1 := hc_1.2
  refine ok_ite (fun c_2 => ?_) (fun c_2 => ?_)
  · have c_2 := tn_eq (a := (r1).toInt) (b := 0) rfl (by decide) c_2
    exact ok_some ⟨by show -1 ≤ ((-1) : Int32).toInt; decide, by show ((-1) : Int32).toInt ≤ 8; decide⟩
  · have c_2 := tn_ne (a := (r1).toInt) (b := 0) rfl (by decide) c_2
    have a_3 := tn_mmax (x := x2) (y := 0) (a := (x2).toInt) (b := 0) rfl (by decide)
    have a_4 := tn_mmin (x := x3) (y := 9) (a := (x3).toInt) (b := 9) rfl (by decide)
    refine ok_ite (fun c_5 => ?_) (fun c_5 => ?_)
    · have c_5 := tn_lt (a := ((mmax x2 0)).toInt) (b := ((mmin x3 9)).toInt) rfl rfl c_5
      refine ok_bindP (ok_kJ1_indexOfChar_4cfef _ _ _ (by omega) (by omega) (by omega) (by omega)) (fun r4 hc_6 => ?_)
      have hl_r4 : -1 ≤ r4.toInt := hc_6.1
      have hu_r4 : r4.toInt ≤ 8 := hc_6.2
      exact ok_some ⟨by show -1 ≤ (r4).toInt; omega, by show (r4).toInt ≤ 8; omega⟩
    · have c_5 := tn_nlt (a := ((mmax x2 0)).toInt) (b := ((mmin x3 9)).toInt) rfl rfl c_5
      omega
theorem ok_kJ1_indexOf_4cfef (x1 : Int32) (x2 : Int32) (x3 : Int32) (h_x2l : 0 ≤ x2.toInt) (h_x2u : x2.toInt ≤ 0) (h_x3l : 9 ≤ x3.toInt) (h_x3u : x3.toInt ≤ 9) : Ok (kJ1_indexOf_4cfef x1 x2 x3) Q_kJ1_indexOf_4cfef := ok_kJ1_indexOf_4cfefB x1 x2 x3 h_x2l h_x2u h_x3l h_x3u
noncomputable abbrev Q_kJ0_coder_7d493 (y : Int32) : Prop := 0 ≤ y.toInt ∧ y.toInt ≤ 0
set_option maxHeartbeats 1000000 in
theorem ok_kJ0_coder_7d493B     : Ok (kJ0_coder_7d493  ) Q_kJ0_coder_7d493 := by
  unfold kJ0_coder_7d493
  exact ok_some ⟨by show 0 ≤ (0 : Int32).toInt; decide, by show (0 : Int32).toInt ≤ 0; decide⟩
theorem ok_kJ0_coder_7d493   : Ok (kJ0_coder_7d493 ) Q_kJ0_coder_7d493 := ok_kJ0_coder_7d493B  
noncomputable abbrev Q_kJ0_length_8abf5 (y : Int32) : Prop := 9 ≤ y.toInt ∧ y.toInt ≤ 9
set_option maxHeartbeats 1000000 in
theorem ok_kJ0_length_8abf5B     : Ok (kJ0_length_8abf5  ) Q_kJ0_length_8abf5 := by
  unfold kJ0_length_8abf5
  refine ok_bindP (ok_kJ0_coder_7d493  ) (fun r1 hc_1 => ?_)
  have hl_r1 : 0 ≤ r1.toInt := hc_1.1
  have hu_r1 : r1.toInt ≤ 0 := hc_1.2
  exact ok_some ⟨by show 9 ≤ (9 : Int32).toInt; decide, by show (9 : Int32).toInt ≤ 9; decide⟩
theorem ok_kJ0_length_8abf5   : Ok (kJ0_length_8abf5 ) Q_kJ0_length_8abf5 := ok_kJ0_length_8abf5B  
noncomputable abbrev Q_kJ0_isLatin1_aae02 (y : Int32) : Prop := 1 ≤ y.toInt ∧ y.toInt ≤ 1
set_option maxHeartbeats 1000000 in
theorem ok_kJ0_isLatin1_aae02B     : Ok (kJ0_isLatin1_aae02  ) Q_kJ0_isLatin1_aae02 := by
  unfold kJ0_isLatin1_aae02
  exact ok_some ⟨by show 1 ≤ (1 : Int32).toInt; decide, by show (1 : Int32).toInt ≤ 1; decide⟩
theorem ok_kJ0_isLatin1_aae02   : Ok (kJ0_isLatin1_aae02 ) Q_kJ0_isLatin1_aae02 := ok_kJ0_isLatin1_aae02B  
noncomputable abbrev Q_kJ0_indexOf_7cf53 (y : Int32) : Prop := -1 ≤ y.toInt ∧ y.toInt ≤ 8
set_option maxHeartbeats 1000000 in
theorem ok_kJ0_indexOf_7cf53B  (x1 : Int32) (x2 : Int32) (h_x2l : 0 ≤ x2.toInt) (h_x2u : x2.toInt ≤ 0)  : Ok (kJ0_indexOf_7cf53  x1 x2) Q_kJ0_indexOf_7cf53 := by
  unfold kJ0_indexOf_7cf53
  refine ok_bindP (ok_kJ0_isLatin1_aae02  ) (fun r1 hc_1 => ?_)
  have hl_r1 : 1 ≤ r1.toInt := hc_1.1
  have hu_r1 : r1.toInt ≤ 1 := hc_1.2
  refine ok_bindP (ok_kJ0_length_8abf5  ) (fun r2 hc_2 => ?_)
  have hl_r2 : 9 ≤ r2.toInt := hc_2.1
  have hu_r2 : r2.toInt ≤ 9 := hc_2.2
  refine ok_bindP (ok_kJ1_indexOf_4cfef _ _ _ (by omega) (by omega) (by decide) (by decide)) (fun r3 hc_3 => ?_)
  have hl_r3 : -1 ≤ r3.toInt := hc_3.1
  have hu_r3 : r3.toInt ≤ 8 := hc_3.2
  exact ok_some ⟨by show -1 ≤ (r3).toInt; omega, by show (r3).toInt ≤ 8; omega⟩
theorem ok_kJ0_indexOf_7cf53 (x1 : Int32) (x2 : Int32) (h_x2l : 0 ≤ x2.toInt) (h_x2u : x2.toInt ≤ 0) : Ok (kJ0_indexOf_7cf53 x1 x2) Q_kJ0_indexOf_7cf53 := ok_kJ0_indexOf_7cf53B x1 x2 h_x2l h_x2u
noncomputable abbrev Q_kJ0_indexOf_0f7a4 (y : Int32) : Prop := -1 ≤ y.toInt ∧ y.toInt ≤ 8
set_option maxHeartbeats 1000000 in
theorem ok_kJ0_indexOf_0f7a4B  (x1 : Int32)   : Ok (kJ0_indexOf_0f7a4  x1) Q_kJ0_indexOf_0f7a4 := by
  unfold kJ0_indexOf_0f7a4
  refine ok_bindP (ok_kJ0_indexOf_7cf53 _ _ (by decide) (by decide)) (fun r1 hc_1 => ?_)
  have hl_r1 : -1 ≤ r1.toInt := hc_1.1
  have hu_r1 : r1.toInt ≤ 8 := hc_1.2
  exact ok_some ⟨by show -1 ≤ (r1).toInt; omega, by show (r1).toInt ≤ 8; omega⟩
theorem ok_kJ0_indexOf_0f7a4 (x1 : Int32)  : Ok (kJ0_indexOf_0f7a4 x1) Q_kJ0_indexOf_0f7a4 := ok_kJ0_indexOf_0f7a4B x1 
noncomputable abbrev Q_kX0_mayBe (s0 : JS) (y : Int32 × JS) : Prop := InvK y.2.k ∧ FrK [] s0.k y.2.k ∧ -2147483648 ≤ y.1.toInt ∧ y.1.toInt ≤ 2147483647
set_option maxHeartbeats 1000000 in
theorem ok_kX0_mayBeB (s0 : JS)  (s : JS) (x2 : Int32) (hI_s_k : InvK s.k) (hF_s_k : FrK [] s0.k s.k) (h_x2l : 0 ≤ x2.toInt) (h_x2u : x2.toInt ≤ 4)  : Ok (kX0_mayBe  s x2) (Q_kX0_mayBe s0) := by
  unfold kX0_mayBe
  refine ok_grd (vpb_ok (by omega) (by omega)) ?_
  refine ok_ite (fun c_1 => ?_) (fun c_1 => ?_)
  · have c_1 := tn_eq (a := (((s.d.f 0) (Int32.toNatClampNeg x2))).toInt) (b := (-1)) rfl (by decide) c_1
    refine ok_grd (vpb_ok (by omega) (by omega)) ?_
    refine ok_grd (vpb_ok (by omega) (by omega)) ?_
    exact ok_some ⟨hI_s_k, hF_s_k, (ti_rng _).1, (ti_rng _).2⟩
  · have c_1 := tn_ne (a := (((s.d.f 0) (Int32.toNatClampNeg x2))).toInt) (b := (-1)) rfl (by decide) c_1
    refine ok_grd (vpb_ok (by omega) (by omega)) ?_
    exact ok_some ⟨hI_s_k, hF_s_k, (ti_rng _).1, (ti_rng _).2⟩
theorem ok_kX0_mayBe (s : JS) (x2 : Int32) (hI_s_k : InvK s.k) (h_x2l : 0 ≤ x2.toInt) (h_x2u : x2.toInt ≤ 4) : Ok (kX0_mayBe s x2) (Q_kX0_mayBe s) := ok_kX0_mayBeB s s x2 hI_s_k FrK.rfl h_x2l h_x2u
noncomputable abbrev Q_kX0_setParty (s0 : JS) (y : JS) : Prop := InvK y.k ∧ FrK [113] s0.k y.k
set_option maxHeartbeats 1000000 in
theorem ok_kX0_setPartyB (s0 : JS)  (s : JS) (x2 : Int32) (hI_s_k : InvK s.k) (hF_s_k : FrK [113] s0.k s.k) (h_x2l : 0 ≤ x2.toInt) (h_x2u : x2.toInt ≤ 5)  : Ok (kX0_setParty  s x2) (Q_kX0_setParty s0) := by
  unfold kX0_setParty
  refine ok_grd (vpb_ok (by omega) (by omega)) ?_
  refine ok_let (fun s2 hs2 => ?_)
  have hI_s2_k : InvK s2.k := by rw [← hs2]; exact hI_s_k.sfF (k := 13) rfl rfl
  have hF_s2_k : FrK [113] s0.k s2.k := by rw [← hs2]; exact hF_s_k.sf (k := 13) (by decide)
  refine ok_grd (vpb_ok (by omega) (by omega)) ?_
  refine ok_let (fun s5 hs5 => ?_)
  have hI_s5_k : InvK s5.k := by rw [← hs5]; exact hI_s2_k.sfF (k := 13) rfl rfl
  have hF_s5_k : FrK [113] s0.k s5.k := by rw [← hs5]; exact hF_s2_k.sf (k := 13) (by decide)
  refine ok_let (fun s7 hs7 => ?_)
  have hI_s7_k : InvK s7.k := by rw [← hs7]; exact hI_s5_k.sfF (k := 13) rfl rfl
  have hF_s7_k : FrK [113] s0.k s7.k := by rw [← hs7]; exact hF_s5_k.sf (k := 13) (by decide)
  refine ok_grd (vpb_ok (by omega) (by omega)) ?_
  refine ok_let (fun s10 hs10 => ?_)
  have hI_s10_k : InvK s10.k := by rw [← hs10]; exact hI_s7_k.sfF (k := 13) rfl rfl
  have hF_s10_k : FrK [113] s0.k s10.k := by rw [← hs10]; exact hF_s7_k.sf (k := 13) (by decide)
  exact ok_some ⟨hI_s10_k, hF_s10_k⟩
theorem ok_kX0_setParty (s : JS) (x2 : Int32) (hI_s_k : InvK s.k) (h_x2l : 0 ≤ x2.toInt) (h_x2u : x2.toInt ≤ 5) : Ok (kX0_setParty s x2) (Q_kX0_setParty s) := ok_kX0_setPartyB s s x2 hI_s_k FrK.rfl h_x2l h_x2u
noncomputable abbrev Q_kX1_copyFrom (s0 : KS) (y : KS) : Prop := InvK y ∧ FrK [5, 109, 110, 111, 112] s0 y
set_option maxHeartbeats 1000000 in
theorem ok_kX1_copyFromB (s0 : KS)  (s : KS) (hI_s : InvK s) (hF_s : FrK [5, 109, 110, 111, 112] s0 s)  : Ok (kX1_copyFrom  s) (Q_kX1_copyFrom s0) := by
  unfold kX1_copyFrom
  refine ok_let (fun s1 hs1 => ?_)
  have hI_s1 : InvK s1 := by rw [← hs1]; exact hI_s.saF (k := 9) rfl rfl
  have hF_s1 : FrK [5, 109, 110, 111, 112] s0 s1 := by rw [← hs1]; exact hF_s.sa (k := 9) (by decide)
  refine ok_let (fun s3 hs3 => ?_)
  have hI_s3 : InvK s3 := by rw [← hs3]; exact hI_s1.sa (k := 10) (cpy_rng (fun j => hI_s1.2 23 j) (fun j => hI_s1.2 10 j))
  have hF_s3 : FrK [5, 109, 110, 111, 112] s0 s3 := by rw [← hs3]; exact hF_s1.sa (k := 10) (by decide)
  refine ok_let (fun s5 hs5 => ?_)
  have hI_s5 : InvK s5 := by rw [← hs5]; exact hI_s3.sa (k := 11) (cpy_rng (fun j => hI_s3.2 24 j) (fun j => hI_s3.2 11 j))
  have hF_s5 : FrK [5, 109, 110, 111, 112] s0 s5 := by rw [← hs5]; exact hF_s3.sa (k := 11) (by decide)
  refine ok_let (fun s7 hs7 => ?_)
  have hI_s7 : InvK s7 := by rw [← hs7]; exact hI_s5.sa (k := 12) (cpy_rng (fun j => hI_s5.2 25 j) (fun j => hI_s5.2 12 j))
  have hF_s7 : FrK [5, 109, 110, 111, 112] s0 s7 := by rw [← hs7]; exact hF_s5.sa (k := 12) (by decide)
  refine ok_let (fun s9 hs9 => ?_)
  have a_1 : 0 ≤ (s.v 12).toInt ∧ (s.v 12).toInt ≤ 404 := hI_s.1 12
  have a_2 : (s1.v 12).toInt = (s.v 12).toInt := congrArg Int32.toInt (show s1.v 12 = s.v 12 by rw [← hs1]; rfl)
  have a_3 : (s3.v 12).toInt = (s1.v 12).toInt := congrArg Int32.toInt (show s3.v 12 = s1.v 12 by rw [← hs3]; rfl)
  have a_4 : (s5.v 12).toInt = (s3.v 12).toInt := congrArg Int32.toInt (show s5.v 12 = s3.v 12 by rw [← hs5]; rfl)
  have a_5 : (s7.v 12).toInt = (s5.v 12).toInt := congrArg Int32.toInt (show s7.v 12 = s5.v 12 by rw [← hs7]; rfl)
  have hI_s9 : InvK s9 := by rw [← hs9]; exact hI_s7.sv (k := 5) (show (0 : Int) ≤ ((s7.v 12)).toInt by omega) (show ((s7.v 12)).toInt ≤ (404 : Int) by omega)
  have hF_s9 : FrK [5, 109, 110, 111, 112] s0 s9 := by rw [← hs9]; exact hF_s7.sv (k := 5) (by decide)
  exact ok_some ⟨hI_s9, hF_s9⟩
theorem ok_kX1_copyFrom (s : KS) (hI_s : InvK s) : Ok (kX1_copyFrom s) (Q_kX1_copyFrom s) := ok_kX1_copyFromB s s hI_s FrK.rfl
noncomputable abbrev Q_kX1_begin (s0 : KS) (y : KS) : Prop := InvK y ∧ FrK [13, 124, 125] s0 y
set_option maxHeartbeats 1000000 in
theorem ok_kX1_beginB (s0 : KS)  (s : KS) (x1 : Int32) (hI_s : InvK s) (hF_s : FrK [13, 124, 125] s0 s) (h_x1l : 0 ≤ x1.toInt) (h_x1u : x1.toInt ≤ 3)  : Ok (kX1_begin  s x1) (Q_kX1_begin s0) := by
  unfold kX1_begin
  refine ok_let (fun s1 hs1 => ?_)
  have hI_s1 : InvK s1 := by rw [← hs1]; exact hI_s.sv (k := 13) (show (0 : Int) ≤ (x1).toInt by omega) (show (x1).toInt ≤ (3 : Int) by omega)
  have hF_s1 : FrK [13, 124, 125] s0 s1 := by rw [← hs1]; exact hF_s.sv (k := 13) (by decide)
  refine ok_grd (vpb_ok (by omega) (by omega)) ?_
  refine ok_let (fun s4 hs4 => ?_)
  have a_1 : 0 ≤ (s.v 12).toInt ∧ (s.v 12).toInt ≤ 404 := hI_s.1 12
  have a_2 : (s1.v 12).toInt = (s.v 12).toInt := congrArg Int32.toInt (show s1.v 12 = s.v 12 by rw [← hs1]; rfl)
  have hI_s4 : InvK s4 := by rw [← hs4]; exact hI_s1.sf (k := 24) (show (0 : Int) ≤ ((s1.v 12)).toInt by omega) (show ((s1.v 12)).toInt ≤ (404 : Int) by omega)
  have hF_s4 : FrK [13, 124, 125] s0 s4 := by rw [← hs4]; exact hF_s1.sf (k := 24) (by decide)
  refine ok_grd (vpb_ok (by omega) (by omega)) ?_
  refine ok_let (fun s7 hs7 => ?_)
  have hI_s7 : InvK s7 := by rw [← hs7]; exact hI_s4.sf (k := 25) (show (0 : Int) ≤ (0 : Int32).toInt by decide) (show (0 : Int32).toInt ≤ (13 : Int) by decide)
  have hF_s7 : FrK [13, 124, 125] s0 s7 := by rw [← hs7]; exact hF_s4.sf (k := 25) (by decide)
  exact ok_some ⟨hI_s7, hF_s7⟩
theorem ok_kX1_begin (s : KS) (x1 : Int32) (hI_s : InvK s) (h_x1l : 0 ≤ x1.toInt) (h_x1u : x1.toInt ≤ 3) : Ok (kX1_begin s x1) (Q_kX1_begin s) := ok_kX1_beginB s s x1 hI_s FrK.rfl h_x1l h_x1u
noncomputable abbrev Q_kX1_endPart (s0 : KS) (y : KS) : Prop := InvK y ∧ FrK [123, 125] s0 y
set_option maxHeartbeats 1000000 in
theorem ok_kX1_endPartB (s0 : KS)  (s : KS) (hI_s : InvK s) (hF_s : FrK [123, 125] s0 s)  : Ok (kX1_endPart  s) (Q_kX1_endPart s0) := by
  unfold kX1_endPart
  have a_1 : 0 ≤ (s.v 13).toInt ∧ (s.v 13).toInt ≤ 3 := hI_s.1 13
  refine ok_grd (vpb_ok (by omega) (by omega)) ?_
  have a_2 : 0 ≤ (((s.f 25) (Int32.toNatClampNeg (s.v 13)))).toInt ∧ (((s.f 25) (Int32.toNatClampNeg (s.v 13)))).toInt ≤ 13 := hI_s.2 25 _
  refine ok_ite (fun c_3 => ?_) (fun c_3 => ?_)
  · have c_3 := tn_le (a := 13) (b := (((s.f 25) (Int32.toNatClampNeg (s.v 13)))).toInt) (by decide) rfl c_3
    exact ok_some ⟨hI_s, hF_s⟩
  · have c_3 := tn_nle (a := 13) (b := (((s.f 25) (Int32.toNatClampNeg (s.v 13)))).toInt) (by decide) rfl c_3
    have a_4 : (((s.v 13) * 13)).toInt = ((s.v 13)).toInt * 13 := ti_mulc (c := 13) (by decide) (by omega) (by omega)
    have a_5 : ((((s.v 13) * 13) + ((s.f 25) (Int32.toNatClampNeg (s.v 13))))).toInt = (((s.v 13) * 13)).toInt + (((s.f 25) (Int32.toNatClampNeg (s.v 13)))).toInt := tn_add rfl rfl (by omega) (by omega)
    refine ok_grd (vpb_ok (by omega) (by omega)) ?_
    refine ok_let (fun s4 hs4 => ?_)
    have a_6 : 0 ≤ (s.v 12).toInt ∧ (s.v 12).toInt ≤ 404 := hI_s.1 12
    have hI_s4 : InvK s4 := by rw [← hs4]; exact hI_s.sf (k := 23) (show (0 : Int) ≤ ((s.v 12)).toInt by omega) (show ((s.v 12)).toInt ≤ (404 : Int) by omega)
    have hF_s4 : FrK [123, 125] s0 s4 := by rw [← hs4]; exact hF_s.sf (k := 23) (by decide)
    have a_7 : (s4.v 13).toInt = (s.v 13).toInt := congrArg Int32.toInt (show s4.v 13 = s.v 13 by rw [← hs4]; rfl)
    refine ok_grd (vpb_ok (by omega) (by omega)) ?_
    refine ok_let (fun s7 hs7 => ?_)
    have a_8 : ((((s.f 25) (Int32.toNatClampNeg (s.v 13))) + 1)).toInt = (((s.f 25) (Int32.toNatClampNeg (s.v 13)))).toInt + 1 := tn_add rfl (by decide) (by omega) (by omega)
    have hI_s7 : InvK s7 := by rw [← hs7]; exact hI_s4.sf (k := 25) (show (0 : Int) ≤ ((((s.f 25) (Int32.toNatClampNeg (s.v 13))) + 1)).toInt by omega) (show ((((s.f 25) (Int32.toNatClampNeg (s.v 13))) + 1)).toInt ≤ (13 : Int) by omega)
    have hF_s7 : FrK [123, 125] s0 s7 := by rw [← hs7]; exact hF_s4.sf (k := 25) (by decide)
    exact ok_some ⟨hI_s7, hF_s7⟩
theorem ok_kX1_endPart (s : KS) (hI_s : InvK s) : Ok (kX1_endPart s) (Q_kX1_endPart s) := ok_kX1_endPartB s s hI_s FrK.rfl
noncomputable abbrev Q_kX1_put (s0 : KS) (y : KS) : Prop := InvK y ∧ FrK [12, 122] s0 y
set_option maxHeartbeats 1000000 in
theorem ok_kX1_putB (s0 : KS)  (s : KS) (x1 : Int32) (hI_s : InvK s) (hF_s : FrK [12, 122] s0 s)  : Ok (kX1_put  s x1) (Q_kX1_put s0) := by
  unfold kX1_put
  have a_1 : 0 ≤ (s.v 12).toInt ∧ (s.v 12).toInt ≤ 404 := hI_s.1 12
  refine ok_ite (fun c_2 => ?_) (fun c_2 => ?_)
  · have c_2 := tn_le (a := 404) (b := ((s.v 12)).toInt) (by decide) rfl c_2
    exact ok_some ⟨hI_s, hF_s⟩
  · have c_2 := tn_nle (a := 404) (b := ((s.v 12)).toInt) (by decide) rfl c_2
    refine ok_grd (vpb_ok (by omega) (by omega)) ?_
    refine ok_let (fun s3 hs3 => ?_)
    have hI_s3 : InvK s3 := by rw [← hs3]; exact hI_s.sfF (k := 22) rfl rfl
    have hF_s3 : FrK [12, 122] s0 s3 := by rw [← hs3]; exact hF_s.sf (k := 22) (by decide)
    refine ok_let (fun s5 hs5 => ?_)
    have a_3 : (s3.v 12).toInt = (s.v 12).toInt := congrArg Int32.toInt (show s3.v 12 = s.v 12 by rw [← hs3]; rfl)
    have a_4 : (((s3.v 12) + 1)).toInt = ((s3.v 12)).toInt + 1 := tn_add rfl (by decide) (by omega) (by omega)
    have hI_s5 : InvK s5 := by rw [← hs5]; exact hI_s3.sv (k := 12) (show (0 : Int) ≤ (((s3.v 12) + 1)).toInt by omega) (show (((s3.v 12) + 1)).toInt ≤ (404 : Int) by omega)
    have hF_s5 : FrK [12, 122] s0 s5 := by rw [← hs5]; exact hF_s3.sv (k := 12) (by decide)
    exact ok_some ⟨hI_s5, hF_s5⟩
theorem ok_kX1_put (s : KS) (x1 : Int32) (hI_s : InvK s) : Ok (kX1_put s x1) (Q_kX1_put s) := ok_kX1_putB s s x1 hI_s FrK.rfl
noncomputable abbrev Q_kX1_joined (s0 : KS) (y : Int32 × KS) : Prop := InvK y.2 ∧ FrK [7] s0 y.2 ∧ -2147483648 ≤ y.1.toInt ∧ y.1.toInt ≤ 2147483647
set_option maxHeartbeats 1000000 in
theorem ok_kX1_joinedB (s0 : KS)  (s : KS) (x1 : Int32) (x2 : Int32) (x3 : Int32) (hI_s : InvK s) (hF_s : FrK [7] s0 s)  : Ok (kX1_joined  s x1 x2 x3) (Q_kX1_joined s0) := by
  unfold kX1_joined
  refine ok_ite (fun c_1 => ?_) (fun c_1 => ?_)
  · have c_1 := tn_eq (a := (x1).toInt) (b := 42) rfl (by decide) c_1
    exact ok_some ⟨hI_s, hF_s, (ti_rng _).1, (ti_rng _).2⟩
  · have c_1 := tn_ne (a := (x1).toInt) (b := 42) rfl (by decide) c_1
    refine ok_ite (fun c_2 => ?_) (fun c_2 => ?_)
    · have c_2 := tn_eq (a := (x1).toInt) (b := 43) rfl (by decide) c_2
      exact ok_some ⟨hI_s, hF_s, (ti_rng _).1, (ti_rng _).2⟩
    · have c_2 := tn_ne (a := (x1).toInt) (b := 43) rfl (by decide) c_2
      refine ok_ite (fun c_3 => ?_) (fun c_3 => ?_)
      · have c_3 := tn_eq (a := (x1).toInt) (b := 44) rfl (by decide) c_3
        refine ok_ite (fun c_4 => ?_) (fun c_4 => ?_)
        · have c_4 := tn_eq (a := (x3).toInt) (b := 0) rfl (by decide) c_4
          refine ok_let (fun s6 hs6 => ?_)
          have hI_s6 : InvK s6 := by rw [← hs6]; exact hI_s.svF (k := 7) rfl rfl
          have hF_s6 : FrK [7] s0 s6 := by rw [← hs6]; exact hF_s.sv (k := 7) (by decide)
          exact ok_some ⟨hI_s6, hF_s6, (ti_rng _).1, (ti_rng _).2⟩
        · have c_4 := tn_ne (a := (x3).toInt) (b := 0) rfl (by decide) c_4
          refine ok_grd (fun h => by have := tn_eq rfl (b := 0) (by decide) h; omega) ?_
          exact ok_some ⟨hI_s, hF_s, (ti_rng _).1, (ti_rng _).2⟩
      · have c_3 := tn_ne (a := (x1).toInt) (b := 44) rfl (by decide) c_3
        refine ok_ite (fun c_5 => ?_) (fun c_5 => ?_)
        · have c_5 := tn_eq (a := (x1).toInt) (b := 45) rfl (by decide) c_5
          exact ok_some ⟨hI_s, hF_s, (ti_rng _).1, (ti_rng _).2⟩
        · have c_5 := tn_ne (a := (x1).toInt) (b := 45) rfl (by decide) c_5
          refine ok_ite (fun c_6 => ?_) (fun c_6 => ?_)
          · have c_6 := tn_eq (a := (x3).toInt) (b := 0) rfl (by decide) c_6
            refine ok_let (fun s11 hs11 => ?_)
            have hI_s11 : InvK s11 := by rw [← hs11]; exact hI_s.svF (k := 7) rfl rfl
            have hF_s11 : FrK [7] s0 s11 := by rw [← hs11]; exact hF_s.sv (k := 7) (by decide)
            exact ok_some ⟨hI_s11, hF_s11, (ti_rng _).1, (ti_rng _).2⟩
          · have c_6 := tn_ne (a := (x3).toInt) (b := 0) rfl (by decide) c_6
            refine ok_grd (fun h => by have := tn_eq rfl (b := 0) (by decide) h; omega) ?_
            exact ok_some ⟨hI_s, hF_s, (ti_rng _).1, (ti_rng _).2⟩
theorem ok_kX1_joined (s : KS) (x1 : Int32) (x2 : Int32) (x3 : Int32) (hI_s : InvK s) : Ok (kX1_joined s x1 x2 x3) (Q_kX1_joined s) := ok_kX1_joinedB s s x1 x2 x3 hI_s FrK.rfl
noncomputable abbrev Q_kX2_putOnTop (s0 : KS) (y : KS) : Prop := InvK y ∧ FrK [139, 140] s0 y
set_option maxHeartbeats 1000000 in
theorem ok_kX2_putOnTop_59 (s0 : KS)  (s : KS) (x1 : Int32) (x2 : Int32) (x4 : Int32) (hI_s : InvK s) (hF_s : FrK [139, 140] s0 s) (h_x4l : 0 ≤ x4.toInt) (h_x4u : x4.toInt ≤ 19)  : Ok (kX2_putOnTop_59  s x1 x2 x4) (Q_kX2_putOnTop s0) := by
  unfold kX2_putOnTop_59
  refine ok_grd (vpb_ok (by omega) (by omega)) ?_
  refine ok_let (fun s2 hs2 => ?_)
  have hI_s2 : InvK s2 := by rw [← hs2]; exact hI_s.sfF (k := 40) rfl rfl
  have hF_s2 : FrK [139, 140] s0 s2 := by rw [← hs2]; exact hF_s.sf (k := 40) (by decide)
  refine ok_grd (vpb_ok (by omega) (by omega)) ?_
  refine ok_let (fun s5 hs5 => ?_)
  have hI_s5 : InvK s5 := by rw [← hs5]; exact hI_s2.sfF (k := 39) rfl rfl
  have hF_s5 : FrK [139, 140] s0 s5 := by rw [← hs5]; exact hF_s2.sf (k := 39) (by decide)
  exact ok_some ⟨hI_s5, hF_s5⟩
set_option maxHeartbeats 1000000 in
theorem ok_kX2_putOnTop_3 (s0 : KS) (k3 : KS → Int32 → Int32 → Int32 → Option (KS)) (M3 : Nat) (hk3 : ∀ (s : KS) (x1 : Int32) (x2 : Int32) (x4 : Int32), InvK s → FrK [139, 140] s0 s → 0 ≤ x4.toInt → x4.toInt ≤ 19 → (x4.toInt - (0)).toNat < M3 → Ok (k3 s x1 x2 x4) (Q_kX2_putOnTop s0)) (s : KS) (x1 : Int32) (x2 : Int32) (x4 : Int32) (hI_s : InvK s) (hF_s : FrK [139, 140] s0 s) (h_x4l : 0 ≤ x4.toInt) (h_x4u : x4.toInt ≤ 19) (hM3 : (x4.toInt - (0)).toNat ≤ M3) : Ok (kX2_putOnTop_3 k3 s x1 x2 x4) (Q_kX2_putOnTop s0) := by
  unfold kX2_putOnTop_3
  rw [show x4 + (-1) = x4 - 1 from (Int32.sub_eq_add_neg x4 1).symm]
  refine ok_ite (fun c_1 => ?_) (fun c_1 => ?_)
  · have c_1 := tn_le (a := (x4).toInt) (b := 0) rfl (by decide) c_1
    exact ok_kX2_putOnTop_59 s0  _ _ _ _ hI_s hF_s (by omega) (by omega) 
  · have c_1 := tn_nle (a := (x4).toInt) (b := 0) rfl (by decide) c_1
    have a_2 : ((x4 - 1)).toInt = (x4).toInt - 1 := tn_sub rfl (by decide) (by omega) (by omega)
    refine ok_grd (vpb_ok (by omega) (by omega)) ?_
    refine ok_ite (fun c_3 => ?_) (fun c_3 => ?_)
    · have c_3 := tn_le (a := (x2).toInt) (b := (((s.f 40) (Int32.toNatClampNeg (x4 - 1)))).toInt) rfl rfl c_3
      exact ok_kX2_putOnTop_59 s0  _ _ _ _ hI_s hF_s (by omega) (by omega) 
    · have c_3 := tn_nle (a := (x2).toInt) (b := (((s.f 40) (Int32.toNatClampNeg (x4 - 1)))).toInt) rfl rfl c_3
      refine ok_grd (vpb_ok (by omega) (by omega)) ?_
      refine ok_grd (vpb_ok (by omega) (by omega)) ?_
      refine ok_let (fun s6 hs6 => ?_)
      have hI_s6 : InvK s6 := by rw [← hs6]; exact hI_s.sfF (k := 40) rfl rfl
      have hF_s6 : FrK [139, 140] s0 s6 := by rw [← hs6]; exact hF_s.sf (k := 40) (by decide)
      refine ok_grd (vpb_ok (by omega) (by omega)) ?_
      refine ok_grd (vpb_ok (by omega) (by omega)) ?_
      refine ok_let (fun s10 hs10 => ?_)
      have hI_s10 : InvK s10 := by rw [← hs10]; exact hI_s6.sfF (k := 39) rfl rfl
      have hF_s10 : FrK [139, 140] s0 s10 := by rw [← hs10]; exact hF_s6.sf (k := 39) (by decide)
      exact hk3 _ _ _ _ hI_s10 hF_s10 (by omega) (by omega) (by omega)
theorem okL_kX2_putOnTop_3 (s0 : KS)  : ∀ (n : Nat) (s : KS) (x1 : Int32) (x2 : Int32) (x4 : Int32), (x4.toInt - (0)).toNat < n → InvK s → FrK [139, 140] s0 s → 0 ≤ x4.toInt → x4.toInt ≤ 19 → Ok (kX2_putOnTop_3L  n s x1 x2 x4) (Q_kX2_putOnTop s0) := by
  intro n
  induction n with
  | zero => intro s x1 x2 x4 hn; omega
  | succ n ih =>
    intro s x1 x2 x4 hn hI_s hF_s h_x4l h_x4u 
    exact ok_kX2_putOnTop_3 s0 (kX2_putOnTop_3L  n) ((x4.toInt - (0)).toNat) (fun zs zx1 zx2 zx4 g0 g1 g2 g3  hm => ih zs zx1 zx2 zx4 (by omega) g0 g1 g2 g3 ) s x1 x2 x4 hI_s hF_s h_x4l h_x4u (Nat.le_refl _)
set_option maxHeartbeats 1000000 in
theorem ok_kX2_putOnTopB (s0 : KS)  (s : KS) (x1 : Int32) (x2 : Int32) (x3 : Int32) (hI_s : InvK s) (hF_s : FrK [139, 140] s0 s) (h_x3l : 0 ≤ x3.toInt) (h_x3u : x3.toInt ≤ 19)  : Ok (kX2_putOnTop  s x1 x2 x3) (Q_kX2_putOnTop s0) := by
  unfold kX2_putOnTop
  exact okL_kX2_putOnTop_3 s0  fu _ _ _ _ (by unfold fu; omega) hI_s hF_s (by omega) (by omega) 
theorem ok_kX2_putOnTop (s : KS) (x1 : Int32) (x2 : Int32) (x3 : Int32) (hI_s : InvK s) (h_x3l : 0 ≤ x3.toInt) (h_x3u : x3.toInt ≤ 19) : Ok (kX2_putOnTop s x1 x2 x3) (Q_kX2_putOnTop s) := ok_kX2_putOnTopB s s x1 x2 x3 hI_s FrK.rfl h_x3l h_x3u
noncomputable abbrev Q_kX3_forgetAll (s0 : GS) (y : GS) : Prop := InvG y
set_option maxHeartbeats 1000000 in
theorem ok_kX3_forgetAll_7 (s0 : GS) (k7 : GS → Int32 → Option (GS)) (M7 : Nat) (hk7 : ∀ (s : GS) (x1 : Int32), InvG s → 0 ≤ x1.toInt → x1.toInt ≤ 3 → (3 - x1.toInt).toNat < M7 → Ok (k7 s x1) (Q_kX3_forgetAll s0)) (s : GS) (x1 : Int32) (hI_s : InvG s) (h_x1l : 0 ≤ x1.toInt) (h_x1u : x1.toInt ≤ 3) (hM7 : (3 - x1.toInt).toNat ≤ M7) : Ok (kX3_forgetAll_7 k7 s x1) (Q_kX3_forgetAll s0) := by
  unfold kX3_forgetAll_7
  refine ok_ite (fun c_1 => ?_) (fun c_1 => ?_)
  · have c_1 := tn_le (a := 3) (b := (x1).toInt) (by decide) rfl c_1
    exact ok_some (hI_s)
  · have c_1 := tn_nle (a := 3) (b := (x1).toInt) (by decide) rfl c_1
    refine ok_grd (vpb_ok (by omega) (by omega)) ?_
    refine ok_let (fun s3 hs3 => ?_)
    have hI_s3 : InvG s3 := by rw [← hs3]; exact hI_s.sfF (k := 4) rfl rfl
    have a_2 : ((x1 + 1)).toInt = (x1).toInt + 1 := tn_add rfl (by decide) (by omega) (by omega)
    exact hk7 _ _ hI_s3 (by omega) (by omega) (by omega)
theorem okL_kX3_forgetAll_7 (s0 : GS)  : ∀ (n : Nat) (s : GS) (x1 : Int32), (3 - x1.toInt).toNat < n → InvG s → 0 ≤ x1.toInt → x1.toInt ≤ 3 → Ok (kX3_forgetAll_7L  n s x1) (Q_kX3_forgetAll s0) := by
  intro n
  induction n with
  | zero => intro s x1 hn; omega
  | succ n ih =>
    intro s x1 hn hI_s h_x1l h_x1u 
    exact ok_kX3_forgetAll_7 s0 (kX3_forgetAll_7L  n) ((3 - x1.toInt).toNat) (fun zs zx1 g0 g1 g2  hm => ih zs zx1 (by omega) g0 g1 g2 ) s x1 hI_s h_x1l h_x1u (Nat.le_refl _)
set_option maxHeartbeats 1000000 in
theorem ok_kX3_forgetAllB (s0 : GS)  (s : GS) (hI_s : InvG s)  : Ok (kX3_forgetAll  s) (Q_kX3_forgetAll s0) := by
  unfold kX3_forgetAll
  refine ok_let (fun s1 hs1 => ?_)
  have hI_s1 : InvG s1 := by rw [← hs1]; exact hI_s.sv (k := 4) (show (0 : Int) ≤ (0 : Int32).toInt by decide) (show (0 : Int32).toInt ≤ (40 : Int) by decide)
  have l_0 : (0 : Int32).toInt = 0 := by decide
  exact okL_kX3_forgetAll_7 s0  fu _ _ (by unfold fu; omega) hI_s1 (by decide) (by decide) 
theorem ok_kX3_forgetAll (s : GS) (hI_s : InvG s) : Ok (kX3_forgetAll s) (Q_kX3_forgetAll s) := ok_kX3_forgetAllB s s hI_s
noncomputable abbrev Q_kX3_slotsHeld (s0 : GS) (y : Int32 × GS) : Prop := InvG y.2 ∧ -2147483648 ≤ y.1.toInt ∧ y.1.toInt ≤ 2147483647
set_option maxHeartbeats 1000000 in
theorem ok_kX3_slotsHeld_24 (s0 : GS) (k4 : GS → Int32 → Int32 → Option (Int32 × GS)) (M4 : Nat) (hk4 : ∀ (s : GS) (x1 : Int32) (x2 : Int32), InvG s → 0 ≤ x2.toInt → x2.toInt ≤ 3 → (3 - x2.toInt).toNat < M4 → Ok (k4 s x1 x2) (Q_kX3_slotsHeld s0)) (s : GS) (x2 : Int32) (t0 : Int32) (t1 : Int32) (hI_s : InvG s) (h_x2l : 0 ≤ x2.toInt) (h_x2u : x2.toInt ≤ 2) (h_t0l : 0 ≤ t0.toInt) (h_t0u : t0.toInt ≤ 1) (hM4 : (3 - x2.toInt).toNat ≤ M4) : Ok (kX3_slotsHeld_24 k4 s x2 t0 t1) (Q_kX3_slotsHeld s0) := by
  unfold kX3_slotsHeld_24
  have a_1 : ((x2 + 1)).toInt = (x2).toInt + 1 := tn_add rfl (by decide) (by omega) (by omega)
  exact hk4 _ _ _ hI_s (by omega) (by omega) (by omega)
set_option maxHeartbeats 1000000 in
theorem ok_kX3_slotsHeld_4 (s0 : GS) (k4 : GS → Int32 → Int32 → Option (Int32 × GS)) (M4 : Nat) (hk4 : ∀ (s : GS) (x1 : Int32) (x2 : Int32), InvG s → 0 ≤ x2.toInt → x2.toInt ≤ 3 → (3 - x2.toInt).toNat < M4 → Ok (k4 s x1 x2) (Q_kX3_slotsHeld s0)) (s : GS) (x1 : Int32) (x2 : Int32) (hI_s : InvG s) (h_x2l : 0 ≤ x2.toInt) (h_x2u : x2.toInt ≤ 3) (hM4 : (3 - x2.toInt).toNat ≤ M4) : Ok (kX3_slotsHeld_4 k4 s x1 x2) (Q_kX3_slotsHeld s0) := by
  unfold kX3_slotsHeld_4
  refine ok_ite (fun c_1 => ?_) (fun c_1 => ?_)
  · have c_1 := tn_le (a := 3) (b := (x2).toInt) (by decide) rfl c_1
    exact ok_some ⟨hI_s, (ti_rng _).1, (ti_rng _).2⟩
  · have c_1 := tn_nle (a := 3) (b := (x2).toInt) (by decide) rfl c_1
    refine ok_grd (vpb_ok (by omega) (by omega)) ?_
    refine ok_ite (fun c_2 => ?_) (fun c_2 => ?_)
    · have c_2 := tn_eq (a := (((s.f 4) (Int32.toNatClampNeg x2))).toInt) (b := 0) rfl (by decide) c_2
      have l_0 : (0 : Int32).toInt = 0 := by decide
      exact ok_kX3_slotsHeld_24 s0 k4 M4 hk4 _ _ _ _ hI_s (by omega) (by omega) (by decide) (by decide) (by omega)
    · have c_2 := tn_ne (a := (((s.f 4) (Int32.toNatClampNeg x2))).toInt) (b := 0) rfl (by decide) c_2
      have l_1 : (1 : Int32).toInt = 1 := by decide
      exact ok_kX3_slotsHeld_24 s0 k4 M4 hk4 _ _ _ _ hI_s (by omega) (by omega) (by decide) (by decide) (by omega)
theorem okL_kX3_slotsHeld_4 (s0 : GS)  : ∀ (n : Nat) (s : GS) (x1 : Int32) (x2 : Int32), (3 - x2.toInt).toNat < n → InvG s → 0 ≤ x2.toInt → x2.toInt ≤ 3 → Ok (kX3_slotsHeld_4L  n s x1 x2) (Q_kX3_slotsHeld s0) := by
  intro n
  induction n with
  | zero => intro s x1 x2 hn; omega
  | succ n ih =>
    intro s x1 x2 hn hI_s h_x2l h_x2u 
    exact ok_kX3_slotsHeld_4 s0 (kX3_slotsHeld_4L  n) ((3 - x2.toInt).toNat) (fun zs zx1 zx2 g0 g1 g2  hm => ih zs zx1 zx2 (by omega) g0 g1 g2 ) s x1 x2 hI_s h_x2l h_x2u (Nat.le_refl _)
set_option maxHeartbeats 1000000 in
theorem ok_kX3_slotsHeldB (s0 : GS)  (s : GS) (hI_s : InvG s)  : Ok (kX3_slotsHeld  s) (Q_kX3_slotsHeld s0) := by
  unfold kX3_slotsHeld
  have l_0 : (0 : Int32).toInt = 0 := by decide
  exact okL_kX3_slotsHeld_4 s0  fu _ _ _ (by unfold fu; omega) hI_s (by decide) (by decide) 
theorem ok_kX3_slotsHeld (s : GS) (hI_s : InvG s) : Ok (kX3_slotsHeld s) (Q_kX3_slotsHeld s) := ok_kX3_slotsHeldB s s hI_s
noncomputable abbrev Q_kX4_isAt (s0 : KS) (y : Int32 × KS) : Prop := InvK y.2 ∧ FrK [] s0 y.2 ∧ 0 ≤ y.1.toInt ∧ y.1.toInt ≤ 1
set_option maxHeartbeats 1000000 in
theorem ok_kX4_isAtB (s0 : KS)  (s : KS) (x1 : Int32) (hI_s : InvK s) (hF_s : FrK [] s0 s)  : Ok (kX4_isAt  s x1) (Q_kX4_isAt s0) := by
  unfold kX4_isAt
  refine ok_ite (fun c_1 => ?_) (fun c_1 => ?_)
  · have c_1 := tn_eq (a := ((s.v 16)).toInt) (b := 0) rfl (by decide) c_1
    have a_2 : 0 ≤ (s.v 15).toInt ∧ (s.v 15).toInt ≤ 400 := hI_s.1 15
    refine ok_grd (vpb_ok (by omega) (by omega)) ?_
    refine ok_ite (fun c_3 => ?_) (fun c_3 => ?_)
    · have c_3 := tn_eq (a := (((s.f 32) (Int32.toNatClampNeg (s.v 15)))).toInt) (b := (x1).toInt) rfl rfl c_3
      exact ok_some ⟨hI_s, hF_s, by show 0 ≤ (1 : Int32).toInt; decide, by show (1 : Int32).toInt ≤ 1; decide⟩
    · have c_3 := tn_ne (a := (((s.f 32) (Int32.toNatClampNeg (s.v 15)))).toInt) (b := (x1).toInt) rfl rfl c_3
      exact ok_some ⟨hI_s, hF_s, by show 0 ≤ (0 : Int32).toInt; decide, by show (0 : Int32).toInt ≤ 1; decide⟩
  · have c_1 := tn_ne (a := ((s.v 16)).toInt) (b := 0) rfl (by decide) c_1
    exact ok_some ⟨hI_s, hF_s, by show 0 ≤ (0 : Int32).toInt; decide, by show (0 : Int32).toInt ≤ 1; decide⟩
theorem ok_kX4_isAt (s : KS) (x1 : Int32) (hI_s : InvK s) : Ok (kX4_isAt s x1) (Q_kX4_isAt s) := ok_kX4_isAtB s s x1 hI_s FrK.rfl
noncomputable abbrev Q_kX4_fail (s0 : KS) (y : KS) : Prop := InvK y ∧ FrK [16, 17] s0 y
set_option maxHeartbeats 1000000 in
theorem ok_kX4_failB (s0 : KS)  (s : KS) (x1 : Int32) (hI_s : InvK s) (hF_s : FrK [16, 17] s0 s) (h_x1l : 1 ≤ x1.toInt) (h_x1u : x1.toInt ≤ 2)  : Ok (kX4_fail  s x1) (Q_kX4_fail s0) := by
  unfold kX4_fail
  refine ok_ite (fun c_1 => ?_) (fun c_1 => ?_)
  · have c_1 := tn_eq (a := ((s.v 16)).toInt) (b := 0) rfl (by decide) c_1
    refine ok_let (fun s2 hs2 => ?_)
    have hI_s2 : InvK s2 := by rw [← hs2]; exact hI_s.svF (k := 16) rfl rfl
    have hF_s2 : FrK [16, 17] s0 s2 := by rw [← hs2]; exact hF_s.sv (k := 16) (by decide)
    have a_2 : 0 ≤ (s.v 15).toInt ∧ (s.v 15).toInt ≤ 400 := hI_s.1 15
    have a_3 : (s2.v 15).toInt = (s.v 15).toInt := congrArg Int32.toInt (show s2.v 15 = s.v 15 by rw [← hs2]; rfl)
    refine ok_grd (vpb_ok (by omega) (by omega)) ?_
    refine ok_let (fun s5 hs5 => ?_)
    have hI_s5 : InvK s5 := by rw [← hs5]; exact hI_s2.svF (k := 17) rfl rfl
    have hF_s5 : FrK [16, 17] s0 s5 := by rw [← hs5]; exact hF_s2.sv (k := 17) (by decide)
    exact ok_some ⟨hI_s5, hF_s5⟩
  · have c_1 := tn_ne (a := ((s.v 16)).toInt) (b := 0) rfl (by decide) c_1
    exact ok_some ⟨hI_s, hF_s⟩
theorem ok_kX4_fail (s : KS) (x1 : Int32) (hI_s : InvK s) (h_x1l : 1 ≤ x1.toInt) (h_x1u : x1.toInt ≤ 2) : Ok (kX4_fail s x1) (Q_kX4_fail s) := ok_kX4_failB s s x1 hI_s FrK.rfl h_x1l h_x1u
noncomputable abbrev Q_kX4_failLater (s0 : KS) (y : KS) : Prop := InvK y ∧ FrK [18, 19] s0 y
set_option maxHeartbeats 1000000 in
theorem ok_kX4_failLaterB (s0 : KS)  (s : KS) (x1 : Int32) (x2 : Int32) (hI_s : InvK s) (hF_s : FrK [18, 19] s0 s) (h_x1l : 3 ≤ x1.toInt) (h_x1u : x1.toInt ≤ 5)  : Ok (kX4_failLater  s x1 x2) (Q_kX4_failLater s0) := by
  unfold kX4_failLater
  refine ok_ite (fun c_1 => ?_) (fun c_1 => ?_)
  · have c_1 := tn_eq (a := ((s.v 18)).toInt) (b := 0) rfl (by decide) c_1
    refine ok_let (fun s2 hs2 => ?_)
    have hI_s2 : InvK s2 := by rw [← hs2]; exact hI_s.svF (k := 18) rfl rfl
    have hF_s2 : FrK [18, 19] s0 s2 := by rw [← hs2]; exact hF_s.sv (k := 18) (by decide)
    refine ok_let (fun s4 hs4 => ?_)
    have hI_s4 : InvK s4 := by rw [← hs4]; exact hI_s2.svF (k := 19) rfl rfl
    have hF_s4 : FrK [18, 19] s0 s4 := by rw [← hs4]; exact hF_s2.sv (k := 19) (by decide)
    exact ok_some ⟨hI_s4, hF_s4⟩
  · have c_1 := tn_ne (a := ((s.v 18)).toInt) (b := 0) rfl (by decide) c_1
    exact ok_some ⟨hI_s, hF_s⟩
theorem ok_kX4_failLater (s : KS) (x1 : Int32) (x2 : Int32) (hI_s : InvK s) (h_x1l : 3 ≤ x1.toInt) (h_x1u : x1.toInt ≤ 5) : Ok (kX4_failLater s x1 x2) (Q_kX4_failLater s) := ok_kX4_failLaterB s s x1 x2 hI_s FrK.rfl h_x1l h_x1u
noncomputable abbrev Q_kX4_take (s0 : KS) (y : KS) : Prop := InvK y ∧ FrK [15, 16, 17] s0 y
set_option maxHeartbeats 1000000 in
theorem ok_kX4_takeB (s0 : KS)  (s : KS) (x1 : Int32) (hI_s : InvK s) (hF_s : FrK [15, 16, 17] s0 s)  : Ok (kX4_take  s x1) (Q_kX4_take s0) := by
  unfold kX4_take
  refine ok_bindI (ok_kX4_isAt _ _ hI_s) (fun r2 s1 hc_1 => ?_)
  have hI_s1 : InvK s1 := hc_1.1
  have hFc_s1 : FrK [] s s1 := hc_1.2.1
  have hF_s1 : FrK [15, 16, 17] s0 s1 := hF_s.trans hFc_s1 (by decide)
  have hl_r2 : 0 ≤ r2.toInt := hc_1.2.2.1
  have hu_r2 : r2.toInt ≤ 1 := hc_1.2.2.2
  refine ok_ite (fun c_2 => ?_) (fun c_2 => ?_)
  · have c_2 := tn_eq (a := (r2).toInt) (b := 0) rfl (by decide) c_2
    refine ok_bindP (ok_kX4_fail _ _ hI_s1 (by decide) (by decide)) (fun s8 hc_3 => ?_)
    have hI_s8 : InvK s8 := hc_3.1
    have hFc_s8 : FrK [16, 17] s1 s8 := hc_3.2
    have hF_s8 : FrK [15, 16, 17] s0 s8 := hF_s1.trans hFc_s8 (by decide)
    exact ok_some ⟨hI_s8, hF_s8⟩
  · have c_2 := tn_ne (a := (r2).toInt) (b := 0) rfl (by decide) c_2
    have a_4 : 0 ≤ (s.v 15).toInt ∧ (s.v 15).toInt ≤ 400 := hI_s.1 15
    have a_5 : (s1.v 15).toInt = (s.v 15).toInt := congrArg Int32.toInt (hFc_s1.1 15 (by decide))
    refine ok_ite (fun c_6 => ?_) (fun c_6 => ?_)
    · have c_6 := tn_lt (a := ((s1.v 15)).toInt) (b := 400) rfl (by decide) c_6
      refine ok_let (fun s5 hs5 => ?_)
      have a_7 : (((s1.v 15) + 1)).toInt = ((s1.v 15)).toInt + 1 := tn_add rfl (by decide) (by omega) (by omega)
      have hI_s5 : InvK s5 := by rw [← hs5]; exact hI_s1.sv (k := 15) (show (0 : Int) ≤ (((s1.v 15) + 1)).toInt by omega) (show (((s1.v 15) + 1)).toInt ≤ (400 : Int) by omega)
      have hF_s5 : FrK [15, 16, 17] s0 s5 := by rw [← hs5]; exact hF_s1.sv (k := 15) (by decide)
      exact ok_some ⟨hI_s5, hF_s5⟩
    · have c_6 := tn_nlt (a := ((s1.v 15)).toInt) (b := 400) rfl (by decide) c_6
      refine ok_bindP (ok_kX4_fail _ _ hI_s1 (by decide) (by decide)) (fun s7 hc_8 => ?_)
      have hI_s7 : InvK s7 := hc_8.1
      have hFc_s7 : FrK [16, 17] s1 s7 := hc_8.2
      have hF_s7 : FrK [15, 16, 17] s0 s7 := hF_s1.trans hFc_s7 (by decide)
      exact ok_some ⟨hI_s7, hF_s7⟩
theorem ok_kX4_take (s : KS) (x1 : Int32) (hI_s : InvK s) : Ok (kX4_take s x1) (Q_kX4_take s) := ok_kX4_takeB s s x1 hI_s FrK.rfl
noncomputable abbrev Q_kX4_takeInt (s0 : KS) (y : Int32 × KS) : Prop := InvK y.2 ∧ FrK [15, 16, 17, 18, 19] s0 y.2 ∧ -2147483648 ≤ y.1.toInt ∧ y.1.toInt ≤ 2147483647
set_option maxHeartbeats 1000000 in
theorem ok_kX4_takeInt_46 (s0 : KS)  (s : KS) (x2 : Int32) (hI_s : InvK s) (hF_s : FrK [15, 16, 17, 18, 19] s0 s)  : Ok (kX4_takeInt_46  s x2) (Q_kX4_takeInt s0) := by
  unfold kX4_takeInt_46
  refine ok_bindP (ok_kX4_take _ _ hI_s) (fun s1 hc_1 => ?_)
  have hI_s1 : InvK s1 := hc_1.1
  have hFc_s1 : FrK [15, 16, 17] s s1 := hc_1.2
  have hF_s1 : FrK [15, 16, 17, 18, 19] s0 s1 := hF_s.trans hFc_s1 (by decide)
  exact ok_some ⟨hI_s1, hF_s1, (ti_rng _).1, (ti_rng _).2⟩
set_option maxHeartbeats 1000000 in
theorem ok_kX4_takeIntB (s0 : KS)  (s : KS) (x1 : Int32) (hI_s : InvK s) (hF_s : FrK [15, 16, 17, 18, 19] s0 s) (h_x1l : 9 ≤ x1.toInt) (h_x1u : x1.toInt ≤ 9999)  : Ok (kX4_takeInt  s x1) (Q_kX4_takeInt s0) := by
  unfold kX4_takeInt
  have a_1 : 0 ≤ (s.v 15).toInt ∧ (s.v 15).toInt ≤ 400 := hI_s.1 15
  refine ok_grd (vpb_ok (by omega) (by omega)) ?_
  refine ok_bindI (ok_kX4_isAt _ _ hI_s) (fun r3 s2 hc_2 => ?_)
  have hI_s2 : InvK s2 := hc_2.1
  have hFc_s2 : FrK [] s s2 := hc_2.2.1
  have hF_s2 : FrK [15, 16, 17, 18, 19] s0 s2 := hF_s.trans hFc_s2 (by decide)
  have hl_r3 : 0 ≤ r3.toInt := hc_2.2.2.1
  have hu_r3 : r3.toInt ≤ 1 := hc_2.2.2.2
  refine ok_ite (fun c_3 => ?_) (fun c_3 => ?_)
  · have c_3 := tn_eq (a := (r3).toInt) (b := 0) rfl (by decide) c_3
    exact ok_kX4_takeInt_46 s0  _ _ hI_s2 hF_s2 
  · have c_3 := tn_ne (a := (r3).toInt) (b := 0) rfl (by decide) c_3
    refine ok_ite (fun c_4 => ?_) (fun c_4 => ?_)
    · have c_4 := tn_le (a := ((Int64.toInt32 ((s.g 34) (Int32.toNatClampNeg (s.v 15))))).toInt) (b := (x1).toInt) rfl rfl c_4
      exact ok_kX4_takeInt_46 s0  _ _ hI_s2 hF_s2 
    · have c_4 := tn_nle (a := ((Int64.toInt32 ((s.g 34) (Int32.toNatClampNeg (s.v 15))))).toInt) (b := (x1).toInt) rfl rfl c_4
      have a_5 : (s2.v 15).toInt = (s.v 15).toInt := congrArg Int32.toInt (hFc_s2.1 15 (by decide))
      refine ok_grd (vpb_ok (by omega) (by omega)) ?_
      refine ok_bindP (ok_kX4_failLater _ _ _ hI_s2 (by decide) (by decide)) (fun s7 hc_6 => ?_)
      have hI_s7 : InvK s7 := hc_6.1
      have hFc_s7 : FrK [18, 19] s2 s7 := hc_6.2
      have hF_s7 : FrK [15, 16, 17, 18, 19] s0 s7 := hF_s2.trans hFc_s7 (by decide)
      exact ok_kX4_takeInt_46 s0  _ _ hI_s7 hF_s7 
theorem ok_kX4_takeInt (s : KS) (x1 : Int32) (hI_s : InvK s) (h_x1l : 9 ≤ x1.toInt) (h_x1u : x1.toInt ≤ 9999) : Ok (kX4_takeInt s x1) (Q_kX4_takeInt s) := ok_kX4_takeIntB s s x1 hI_s FrK.rfl h_x1l h_x1u
noncomputable abbrev Q_kX4_readWave (s0 : KS) (y : KS) : Prop := InvK y ∧ FrK [8, 15, 16, 17, 18, 19, 116] s0 y
set_option maxHeartbeats 1000000 in
theorem ok_kX4_readWave_100 (s0 : KS)  (s : KS) (hI_s : InvK s) (hF_s : FrK [8, 15, 16, 17, 18, 19, 116] s0 s) (h_v8u : (s.v 8).toInt ≤ 4)  : Ok (kX4_readWave_100  s) (Q_kX4_readWave s0) := by
  unfold kX4_readWave_100
  refine ok_bindP (ok_kX4_take _ _ hI_s) (fun s1 hc_1 => ?_)
  have hI_s1 : InvK s1 := hc_1.1
  have hFc_s1 : FrK [15, 16, 17] s s1 := hc_1.2
  have hF_s1 : FrK [8, 15, 16, 17, 18, 19, 116] s0 s1 := hF_s.trans hFc_s1 (by decide)
  refine ok_let (fun s2 hs2 => ?_)
  have a_2 : 0 ≤ (s.v 8).toInt ∧ (s.v 8).toInt ≤ 5 := hI_s.1 8
  have a_3 : (s1.v 8).toInt = (s.v 8).toInt := congrArg Int32.toInt (hFc_s1.1 8 (by decide))
  have a_4 : (((s1.v 8) + 1)).toInt = ((s1.v 8)).toInt + 1 := tn_add rfl (by decide) (by omega) (by omega)
  have hI_s2 : InvK s2 := by rw [← hs2]; exact hI_s1.sv (k := 8) (show (0 : Int) ≤ (((s1.v 8) + 1)).toInt by omega) (show (((s1.v 8) + 1)).toInt ≤ (5 : Int) by omega)
  have hF_s2 : FrK [8, 15, 16, 17, 18, 19, 116] s0 s2 := by rw [← hs2]; exact hF_s1.sv (k := 8) (by decide)
  exact ok_some ⟨hI_s2, hF_s2⟩
set_option maxHeartbeats 1000000 in
theorem ok_kX4_readWave_30 (s0 : KS) (k30 : KS → Int32 → Int32 → Int32 → Option (KS)) (M30 : Nat) (hk30 : ∀ (s : KS) (x1 : Int32) (x2 : Int32) (x3 : Int32), InvK s → FrK [8, 15, 16, 17, 18, 19, 116] s0 s → 0 ≤ x3.toInt → x3.toInt ≤ 6 → (s.v 8).toInt ≤ 4 → (6 - x3.toInt).toNat < M30 → Ok (k30 s x1 x2 x3) (Q_kX4_readWave s0)) (s : KS) (x1 : Int32) (x2 : Int32) (x3 : Int32) (hI_s : InvK s) (hF_s : FrK [8, 15, 16, 17, 18, 19, 116] s0 s) (h_x3l : 0 ≤ x3.toInt) (h_x3u : x3.toInt ≤ 6) (h_v8u : (s.v 8).toInt ≤ 4) (hM30 : (6 - x3.toInt).toNat ≤ M30) : Ok (kX4_readWave_30 k30 s x1 x2 x3) (Q_kX4_readWave s0) := by
  unfold kX4_readWave_30
  refine ok_ite (fun c_1 => ?_) (fun c_1 => ?_)
  · have c_1 := tn_le (a := 6) (b := (x3).toInt) (by decide) rfl c_1
    refine ok_ite (fun c_2 => ?_) (fun c_2 => ?_)
    · have c_2 := tn_eq (a := (x1).toInt) (b := 0) rfl (by decide) c_2
      refine ok_bindP (ok_kX4_failLater _ _ _ hI_s (by decide) (by decide)) (fun s3 hc_3 => ?_)
      have hI_s3 : InvK s3 := hc_3.1
      have hFc_s3 : FrK [18, 19] s s3 := hc_3.2
      have hF_s3 : FrK [8, 15, 16, 17, 18, 19, 116] s0 s3 := hF_s.trans hFc_s3 (by decide)
      have a_4 : 0 ≤ (s.v 8).toInt ∧ (s.v 8).toInt ≤ 5 := hI_s.1 8
      have a_5 : (s3.v 8).toInt = (s.v 8).toInt := congrArg Int32.toInt (hFc_s3.1 8 (by decide))
      exact ok_kX4_readWave_100 s0  _ hI_s3 hF_s3 (by omega) 
    · have c_2 := tn_ne (a := (x1).toInt) (b := 0) rfl (by decide) c_2
      have a_6 : 0 ≤ (s.v 8).toInt ∧ (s.v 8).toInt ≤ 5 := hI_s.1 8
      exact ok_kX4_readWave_100 s0  _ hI_s hF_s (by omega) 
  · have c_1 := tn_nle (a := 6) (b := (x3).toInt) (by decide) rfl c_1
    have a_7 : 0 ≤ (s.v 15).toInt ∧ (s.v 15).toInt ≤ 400 := hI_s.1 15
    refine ok_grd (vpb_ok (by omega) (by omega)) ?_
    refine ok_bindI (ok_kX4_takeInt _ _ hI_s (by decide) (by decide)) (fun r6 s5 hc_8 => ?_)
    have hI_s5 : InvK s5 := hc_8.1
    have hFc_s5 : FrK [15, 16, 17, 18, 19] s s5 := hc_8.2.1
    have hF_s5 : FrK [8, 15, 16, 17, 18, 19, 116] s0 s5 := hF_s.trans hFc_s5 (by decide)
    have a_9 : 0 ≤ (s.v 8).toInt ∧ (s.v 8).toInt ≤ 5 := hI_s.1 8
    have a_10 : (s5.v 8).toInt = (s.v 8).toInt := congrArg Int32.toInt (hFc_s5.1 8 (by decide))
    have a_11 : (((s5.v 8) * 6)).toInt = ((s5.v 8)).toInt * 6 := ti_mulc (c := 6) (by decide) (by omega) (by omega)
    have a_12 : ((((s5.v 8) * 6) + x3)).toInt = (((s5.v 8) * 6)).toInt + (x3).toInt := tn_add rfl rfl (by omega) (by omega)
    refine ok_grd (vpb_ok (by omega) (by omega)) ?_
    refine ok_let (fun s8 hs8 => ?_)
    have hI_s8 : InvK s8 := by rw [← hs8]; exact hI_s5.sfF (k := 16) rfl rfl
    have hF_s8 : FrK [8, 15, 16, 17, 18, 19, 116] s0 s8 := by rw [← hs8]; exact hF_s5.sf (k := 16) (by decide)
    have a_13 : ((x3 + 1)).toInt = (x3).toInt + 1 := tn_add rfl (by decide) (by omega) (by omega)
    have a_14 : (s8.v 8).toInt = (s5.v 8).toInt := congrArg Int32.toInt (show s8.v 8 = s5.v 8 by rw [← hs8]; rfl)
    exact hk30 _ _ _ _ hI_s8 hF_s8 (by omega) (by omega) (by omega) (by omega)
theorem okL_kX4_readWave_30 (s0 : KS)  : ∀ (n : Nat) (s : KS) (x1 : Int32) (x2 : Int32) (x3 : Int32), (6 - x3.toInt).toNat < n → InvK s → FrK [8, 15, 16, 17, 18, 19, 116] s0 s → 0 ≤ x3.toInt → x3.toInt ≤ 6 → (s.v 8).toInt ≤ 4 → Ok (kX4_readWave_30L  n s x1 x2 x3) (Q_kX4_readWave s0) := by
  intro n
  induction n with
  | zero => intro s x1 x2 x3 hn; omega
  | succ n ih =>
    intro s x1 x2 x3 hn hI_s hF_s h_x3l h_x3u h_v8u 
    exact ok_kX4_readWave_30 s0 (kX4_readWave_30L  n) ((6 - x3.toInt).toNat) (fun zs zx1 zx2 zx3 g0 g1 g2 g3 g4  hm => ih zs zx1 zx2 zx3 (by omega) g0 g1 g2 g3 g4 ) s x1 x2 x3 hI_s hF_s h_x3l h_x3u h_v8u (Nat.le_refl _)
set_option maxHeartbeats 1000000 in
theorem ok_kX4_readWaveB (s0 : KS)  (s : KS) (hI_s : InvK s) (hF_s : FrK [8, 15, 16, 17, 18, 19, 116] s0 s)  : Ok (kX4_readWave  s) (Q_kX4_readWave s0) := by
  unfold kX4_readWave
  have a_1 : 0 ≤ (s.v 8).toInt ∧ (s.v 8).toInt ≤ 5 := hI_s.1 8
  refine ok_ite (fun c_2 => ?_) (fun c_2 => ?_)
  · have c_2 := tn_lt (a := ((s.v 8)).toInt) (b := 5) rfl (by decide) c_2
    refine ok_bindP (ok_kX4_take _ _ hI_s) (fun s2 hc_3 => ?_)
    have hI_s2 : InvK s2 := hc_3.1
    have hFc_s2 : FrK [15, 16, 17] s s2 := hc_3.2
    have hF_s2 : FrK [8, 15, 16, 17, 18, 19, 116] s0 s2 := hF_s.trans hFc_s2 (by decide)
    have a_4 : (s2.v 8).toInt = (s.v 8).toInt := congrArg Int32.toInt (hFc_s2.1 8 (by decide))
    have l_0 : (0 : Int32).toInt = 0 := by decide
    have l_m1 : ((-1) : Int32).toInt = -1 := by decide
    exact okL_kX4_readWave_30 s0  fu _ _ _ _ (by unfold fu; omega) hI_s2 hF_s2 (by decide) (by decide) (by omega) 
  · have c_2 := tn_nlt (a := ((s.v 8)).toInt) (b := 5) rfl (by decide) c_2
    refine ok_bindP (ok_kX4_fail _ _ hI_s (by decide) (by decide)) (fun s3 hc_5 => ?_)
    have hI_s3 : InvK s3 := hc_5.1
    have hFc_s3 : FrK [16, 17] s s3 := hc_5.2
    have hF_s3 : FrK [8, 15, 16, 17, 18, 19, 116] s0 s3 := hF_s.trans hFc_s3 (by decide)
    exact ok_some ⟨hI_s3, hF_s3⟩
theorem ok_kX4_readWave (s : KS) (hI_s : InvK s) : Ok (kX4_readWave s) (Q_kX4_readWave s) := ok_kX4_readWaveB s s hI_s FrK.rfl
noncomputable abbrev Q_kX4_isTold (s0 : KS) (y : Int32 × KS) : Prop := InvK y.2 ∧ FrK [] s0 y.2 ∧ 0 ≤ y.1.toInt ∧ y.1.toInt ≤ 1
set_option maxHeartbeats 1000000 in
theorem ok_kX4_isTold_2 (s0 : KS) (k2 : KS → Int64 → Int32 → Option (Int32 × KS)) (M2 : Nat) (hk2 : ∀ (s : KS) (x1 : Int64) (x3 : Int32), InvK s → FrK [] s0 s → 0 ≤ x3.toInt → x3.toInt ≤ 6 → (6 - x3.toInt).toNat < M2 → Ok (k2 s x1 x3) (Q_kX4_isTold s0)) (s : KS) (x1 : Int64) (x3 : Int32) (hI_s : InvK s) (hF_s : FrK [] s0 s) (h_x3l : 0 ≤ x3.toInt) (h_x3u : x3.toInt ≤ 6) (hM2 : (6 - x3.toInt).toNat ≤ M2) : Ok (kX4_isTold_2 k2 s x1 x3) (Q_kX4_isTold s0) := by
  unfold kX4_isTold_2
  have a_1 : 0 ≤ (s.v 9).toInt ∧ (s.v 9).toInt ≤ 6 := hI_s.1 9
  refine ok_ite (fun c_2 => ?_) (fun c_2 => ?_)
  · have c_2 := tn_le (a := ((s.v 9)).toInt) (b := (x3).toInt) rfl rfl c_2
    exact ok_some ⟨hI_s, hF_s, by show 0 ≤ (0 : Int32).toInt; decide, by show (0 : Int32).toInt ≤ 1; decide⟩
  · have c_2 := tn_nle (a := ((s.v 9)).toInt) (b := (x3).toInt) rfl rfl c_2
    refine ok_grd (vpb_ok (by omega) (by omega)) ?_
    refine ok_ite (fun c_3 => ?_) (fun c_3 => ?_)
    · have c_3 := tn_eq (a := ((lg_cmp ((s.g 29) (Int32.toNatClampNeg x3)) x1)).toInt) (b := 0) rfl (by decide) c_3
      exact ok_some ⟨hI_s, hF_s, by show 0 ≤ (1 : Int32).toInt; decide, by show (1 : Int32).toInt ≤ 1; decide⟩
    · have c_3 := tn_ne (a := ((lg_cmp ((s.g 29) (Int32.toNatClampNeg x3)) x1)).toInt) (b := 0) rfl (by decide) c_3
      have a_4 : ((x3 + 1)).toInt = (x3).toInt + 1 := tn_add rfl (by decide) (by omega) (by omega)
      exact hk2 _ _ _ hI_s hF_s (by omega) (by omega) (by omega)
theorem okL_kX4_isTold_2 (s0 : KS)  : ∀ (n : Nat) (s : KS) (x1 : Int64) (x3 : Int32), (6 - x3.toInt).toNat < n → InvK s → FrK [] s0 s → 0 ≤ x3.toInt → x3.toInt ≤ 6 → Ok (kX4_isTold_2L  n s x1 x3) (Q_kX4_isTold s0) := by
  intro n
  induction n with
  | zero => intro s x1 x3 hn; omega
  | succ n ih =>
    intro s x1 x3 hn hI_s hF_s h_x3l h_x3u 
    exact ok_kX4_isTold_2 s0 (kX4_isTold_2L  n) ((6 - x3.toInt).toNat) (fun zs zx1 zx3 g0 g1 g2 g3  hm => ih zs zx1 zx3 (by omega) g0 g1 g2 g3 ) s x1 x3 hI_s hF_s h_x3l h_x3u (Nat.le_refl _)
set_option maxHeartbeats 1000000 in
theorem ok_kX4_isToldB (s0 : KS)  (s : KS) (x1 : Int64) (hI_s : InvK s) (hF_s : FrK [] s0 s)  : Ok (kX4_isTold  s x1) (Q_kX4_isTold s0) := by
  unfold kX4_isTold
  have l_0 : (0 : Int32).toInt = 0 := by decide
  exact okL_kX4_isTold_2 s0  fu _ _ _ (by unfold fu; omega) hI_s hF_s (by decide) (by decide) 
theorem ok_kX4_isTold (s : KS) (x1 : Int64) (hI_s : InvK s) : Ok (kX4_isTold s x1) (Q_kX4_isTold s) := ok_kX4_isToldB s s x1 hI_s FrK.rfl
noncomputable abbrev Q_kX5_copyFrom (s0 : KS) (y : KS) : Prop := InvK y ∧ FrK [1, 2, 3, 4, 5, 103, 104, 105, 106, 107, 109, 110, 111, 112] s0 y
set_option maxHeartbeats 1000000 in
theorem ok_kX5_copyFromB (s0 : KS)  (s : KS) (hI_s : InvK s) (hF_s : FrK [1, 2, 3, 4, 5, 103, 104, 105, 106, 107, 109, 110, 111, 112] s0 s)  : Ok (kX5_copyFrom  s) (Q_kX5_copyFrom s0) := by
  unfold kX5_copyFrom
  refine ok_let (fun s1 hs1 => ?_)
  have hI_s1 : InvK s1 := by rw [← hs1]; exact hI_s.saF (k := 3) rfl rfl
  have hF_s1 : FrK [1, 2, 3, 4, 5, 103, 104, 105, 106, 107, 109, 110, 111, 112] s0 s1 := by rw [← hs1]; exact hF_s.sa (k := 3) (by decide)
  refine ok_let (fun s3 hs3 => ?_)
  have hI_s3 : InvK s3 := by rw [← hs3]; exact hI_s1.saF (k := 4) rfl rfl
  have hF_s3 : FrK [1, 2, 3, 4, 5, 103, 104, 105, 106, 107, 109, 110, 111, 112] s0 s3 := by rw [← hs3]; exact hF_s1.sa (k := 4) (by decide)
  refine ok_let (fun s5 hs5 => ?_)
  have hI_s5 : InvK s5 := by rw [← hs5]; exact hI_s3.saF (k := 5) rfl rfl
  have hF_s5 : FrK [1, 2, 3, 4, 5, 103, 104, 105, 106, 107, 109, 110, 111, 112] s0 s5 := by rw [← hs5]; exact hF_s3.sa (k := 5) (by decide)
  refine ok_let (fun s7 hs7 => ?_)
  have hI_s7 : InvK s7 := by rw [← hs7]; exact hI_s5.saF (k := 6) rfl rfl
  have hF_s7 : FrK [1, 2, 3, 4, 5, 103, 104, 105, 106, 107, 109, 110, 111, 112] s0 s7 := by rw [← hs7]; exact hF_s5.sa (k := 6) (by decide)
  refine ok_let (fun s9 hs9 => ?_)
  have hI_s9 : InvK s9 := by rw [← hs9]; exact hI_s7.saF (k := 7) rfl rfl
  have hF_s9 : FrK [1, 2, 3, 4, 5, 103, 104, 105, 106, 107, 109, 110, 111, 112] s0 s9 := by rw [← hs9]; exact hF_s7.sa (k := 7) (by decide)
  refine ok_bindP (ok_kX1_copyFrom _  hI_s9) (fun s11 hc_1 => ?_)
  have hI_s11 : InvK s11 := hc_1.1
  have hFc_s11 : FrK [5, 109, 110, 111, 112] s9 s11 := hc_1.2
  have hF_s11 : FrK [1, 2, 3, 4, 5, 103, 104, 105, 106, 107, 109, 110, 111, 112] s0 s11 := hF_s9.trans hFc_s11 (by decide)
  refine ok_let (fun s12 hs12 => ?_)
  have a_2 : 0 ≤ (s.v 8).toInt ∧ (s.v 8).toInt ≤ 5 := hI_s.1 8
  have a_3 : (s1.v 8).toInt = (s.v 8).toInt := congrArg Int32.toInt (show s1.v 8 = s.v 8 by rw [← hs1]; rfl)
  have a_4 : (s3.v 8).toInt = (s1.v 8).toInt := congrArg Int32.toInt (show s3.v 8 = s1.v 8 by rw [← hs3]; rfl)
  have a_5 : (s5.v 8).toInt = (s3.v 8).toInt := congrArg Int32.toInt (show s5.v 8 = s3.v 8 by rw [← hs5]; rfl)
  have a_6 : (s7.v 8).toInt = (s5.v 8).toInt := congrArg Int32.toInt (show s7.v 8 = s5.v 8 by rw [← hs7]; rfl)
  have a_7 : (s9.v 8).toInt = (s7.v 8).toInt := congrArg Int32.toInt (show s9.v 8 = s7.v 8 by rw [← hs9]; rfl)
  have a_8 : (s11.v 8).toInt = (s9.v 8).toInt := congrArg Int32.toInt (hFc_s11.1 8 (by decide))
  have hI_s12 : InvK s12 := by rw [← hs12]; exact hI_s11.sv (k := 1) (show (0 : Int) ≤ ((s11.v 8)).toInt by omega) (show ((s11.v 8)).toInt ≤ (5 : Int) by omega)
  have hF_s12 : FrK [1, 2, 3, 4, 5, 103, 104, 105, 106, 107, 109, 110, 111, 112] s0 s12 := by rw [← hs12]; exact hF_s11.sv (k := 1) (by decide)
  refine ok_let (fun s14 hs14 => ?_)
  have a_9 : 0 ≤ (s.v 9).toInt ∧ (s.v 9).toInt ≤ 6 := hI_s.1 9
  have a_10 : (s1.v 9).toInt = (s.v 9).toInt := congrArg Int32.toInt (show s1.v 9 = s.v 9 by rw [← hs1]; rfl)
  have a_11 : (s3.v 9).toInt = (s1.v 9).toInt := congrArg Int32.toInt (show s3.v 9 = s1.v 9 by rw [← hs3]; rfl)
  have a_12 : (s5.v 9).toInt = (s3.v 9).toInt := congrArg Int32.toInt (show s5.v 9 = s3.v 9 by rw [← hs5]; rfl)
  have a_13 : (s7.v 9).toInt = (s5.v 9).toInt := congrArg Int32.toInt (show s7.v 9 = s5.v 9 by rw [← hs7]; rfl)
  have a_14 : (s9.v 9).toInt = (s7.v 9).toInt := congrArg Int32.toInt (show s9.v 9 = s7.v 9 by rw [← hs9]; rfl)
  have a_15 : (s11.v 9).toInt = (s9.v 9).toInt := congrArg Int32.toInt (hFc_s11.1 9 (by decide))
  have a_16 : (s12.v 9).toInt = (s11.v 9).toInt := congrArg Int32.toInt (show s12.v 9 = s11.v 9 by rw [← hs12]; rfl)
  have hI_s14 : InvK s14 := by rw [← hs14]; exact hI_s12.sv (k := 2) (show (0 : Int) ≤ ((s12.v 9)).toInt by omega) (show ((s12.v 9)).toInt ≤ (6 : Int) by omega)
  have hF_s14 : FrK [1, 2, 3, 4, 5, 103, 104, 105, 106, 107, 109, 110, 111, 112] s0 s14 := by rw [← hs14]; exact hF_s12.sv (k := 2) (by decide)
  refine ok_let (fun s16 hs16 => ?_)
  have a_17 : (s1.v 10).toInt = (s.v 10).toInt := congrArg Int32.toInt (show s1.v 10 = s.v 10 by rw [← hs1]; rfl)
  have a_18 : (s3.v 10).toInt = (s1.v 10).toInt := congrArg Int32.toInt (show s3.v 10 = s1.v 10 by rw [← hs3]; rfl)
  have a_19 : (s5.v 10).toInt = (s3.v 10).toInt := congrArg Int32.toInt (show s5.v 10 = s3.v 10 by rw [← hs5]; rfl)
  have a_20 : (s7.v 10).toInt = (s5.v 10).toInt := congrArg Int32.toInt (show s7.v 10 = s5.v 10 by rw [← hs7]; rfl)
  have a_21 : (s9.v 10).toInt = (s7.v 10).toInt := congrArg Int32.toInt (show s9.v 10 = s7.v 10 by rw [← hs9]; rfl)
  have a_22 : (s11.v 10).toInt = (s9.v 10).toInt := congrArg Int32.toInt (hFc_s11.1 10 (by decide))
  have a_23 : (s12.v 10).toInt = (s11.v 10).toInt := congrArg Int32.toInt (show s12.v 10 = s11.v 10 by rw [← hs12]; rfl)
  have a_24 : (s14.v 10).toInt = (s12.v 10).toInt := congrArg Int32.toInt (show s14.v 10 = s12.v 10 by rw [← hs14]; rfl)
  have hI_s16 : InvK s16 := by rw [← hs16]; exact hI_s14.svF (k := 3) rfl rfl
  have hF_s16 : FrK [1, 2, 3, 4, 5, 103, 104, 105, 106, 107, 109, 110, 111, 112] s0 s16 := by rw [← hs16]; exact hF_s14.sv (k := 3) (by decide)
  refine ok_let (fun s18 hs18 => ?_)
  have a_25 : (s1.v 11).toInt = (s.v 11).toInt := congrArg Int32.toInt (show s1.v 11 = s.v 11 by rw [← hs1]; rfl)
  have a_26 : (s3.v 11).toInt = (s1.v 11).toInt := congrArg Int32.toInt (show s3.v 11 = s1.v 11 by rw [← hs3]; rfl)
  have a_27 : (s5.v 11).toInt = (s3.v 11).toInt := congrArg Int32.toInt (show s5.v 11 = s3.v 11 by rw [← hs5]; rfl)
  have a_28 : (s7.v 11).toInt = (s5.v 11).toInt := congrArg Int32.toInt (show s7.v 11 = s5.v 11 by rw [← hs7]; rfl)
  have a_29 : (s9.v 11).toInt = (s7.v 11).toInt := congrArg Int32.toInt (show s9.v 11 = s7.v 11 by rw [← hs9]; rfl)
  have a_30 : (s11.v 11).toInt = (s9.v 11).toInt := congrArg Int32.toInt (hFc_s11.1 11 (by decide))
  have a_31 : (s12.v 11).toInt = (s11.v 11).toInt := congrArg Int32.toInt (show s12.v 11 = s11.v 11 by rw [← hs12]; rfl)
  have a_32 : (s14.v 11).toInt = (s12.v 11).toInt := congrArg Int32.toInt (show s14.v 11 = s12.v 11 by rw [← hs14]; rfl)
  have a_33 : (s16.v 11).toInt = (s14.v 11).toInt := congrArg Int32.toInt (show s16.v 11 = s14.v 11 by rw [← hs16]; rfl)
  have hI_s18 : InvK s18 := by rw [← hs18]; exact hI_s16.svF (k := 4) rfl rfl
  have hF_s18 : FrK [1, 2, 3, 4, 5, 103, 104, 105, 106, 107, 109, 110, 111, 112] s0 s18 := by rw [← hs18]; exact hF_s16.sv (k := 4) (by decide)
  exact ok_some ⟨hI_s18, hF_s18⟩
theorem ok_kX5_copyFrom (s : KS) (hI_s : InvK s) : Ok (kX5_copyFrom s) (Q_kX5_copyFrom s) := ok_kX5_copyFromB s s hI_s FrK.rfl
noncomputable abbrev Q_kX5_hasWave (s0 : KS) (x1 : Int32) (y : Int32 × KS) : Prop := InvK y.2 ∧ FrK [] s0 y.2 ∧ 0 ≤ y.1.toInt ∧ y.1.toInt ≤ 1 ∧ (¬ y.1.toInt = 0 → 0 ≤ (x1).toInt ∧ (x1).toInt ≤ 4)
set_option maxHeartbeats 1000000 in
theorem ok_kX5_hasWaveB (s0 : KS)  (s : KS) (x1 : Int32) (hI_s : InvK s) (hF_s : FrK [] s0 s)  : Ok (kX5_hasWave  s x1) (Q_kX5_hasWave s0 x1) := by
  unfold kX5_hasWave
  refine ok_ite (fun c_1 => ?_) (fun c_1 => ?_)
  · have c_1 := tn_lt (a := (x1).toInt) (b := 0) rfl (by decide) c_1
    exact ok_some ⟨hI_s, hF_s, by show 0 ≤ (0 : Int32).toInt; decide, by show (0 : Int32).toInt ≤ 1; decide, by show (¬ (0 : Int32).toInt = 0 → 0 ≤ (x1).toInt ∧ (x1).toInt ≤ 4); have l := (by decide : (0 : Int32).toInt = 0); omega⟩
  · have c_1 := tn_nlt (a := (x1).toInt) (b := 0) rfl (by decide) c_1
    have a_2 : 0 ≤ (s.v 1).toInt ∧ (s.v 1).toInt ≤ 5 := hI_s.1 1
    refine ok_ite (fun c_3 => ?_) (fun c_3 => ?_)
    · have c_3 := tn_le (a := ((s.v 1)).toInt) (b := (x1).toInt) rfl rfl c_3
      exact ok_some ⟨hI_s, hF_s, by show 0 ≤ (0 : Int32).toInt; decide, by show (0 : Int32).toInt ≤ 1; decide, by show (¬ (0 : Int32).toInt = 0 → 0 ≤ (x1).toInt ∧ (x1).toInt ≤ 4); have l := (by decide : (0 : Int32).toInt = 0); omega⟩
    · have c_3 := tn_nle (a := ((s.v 1)).toInt) (b := (x1).toInt) rfl rfl c_3
      exact ok_some ⟨hI_s, hF_s, by show 0 ≤ (1 : Int32).toInt; decide, by show (1 : Int32).toInt ≤ 1; decide, by show (¬ (1 : Int32).toInt = 0 → 0 ≤ (x1).toInt ∧ (x1).toInt ≤ 4); have l := (by decide : (1 : Int32).toInt = 1); omega⟩
theorem ok_kX5_hasWave (s : KS) (x1 : Int32) (hI_s : InvK s) : Ok (kX5_hasWave s x1) (Q_kX5_hasWave s x1) := ok_kX5_hasWaveB s s x1 hI_s FrK.rfl
noncomputable abbrev Q_kX5_hasParty (s0 : KS) (x1 : Int32) (y : Int32 × KS) : Prop := InvK y.2 ∧ FrK [] s0 y.2 ∧ 0 ≤ y.1.toInt ∧ y.1.toInt ≤ 1 ∧ (¬ y.1.toInt = 0 → 0 ≤ (x1).toInt ∧ (x1).toInt ≤ 5)
set_option maxHeartbeats 1000000 in
theorem ok_kX5_hasPartyB (s0 : KS)  (s : KS) (x1 : Int32) (hI_s : InvK s) (hF_s : FrK [] s0 s)  : Ok (kX5_hasParty  s x1) (Q_kX5_hasParty s0 x1) := by
  unfold kX5_hasParty
  refine ok_ite (fun c_1 => ?_) (fun c_1 => ?_)
  · have c_1 := tn_lt (a := (x1).toInt) (b := 0) rfl (by decide) c_1
    exact ok_some ⟨hI_s, hF_s, by show 0 ≤ (0 : Int32).toInt; decide, by show (0 : Int32).toInt ≤ 1; decide, by show (¬ (0 : Int32).toInt = 0 → 0 ≤ (x1).toInt ∧ (x1).toInt ≤ 5); have l := (by decide : (0 : Int32).toInt = 0); omega⟩
  · have c_1 := tn_nlt (a := (x1).toInt) (b := 0) rfl (by decide) c_1
    have a_2 : 0 ≤ (s.v 2).toInt ∧ (s.v 2).toInt ≤ 6 := hI_s.1 2
    refine ok_ite (fun c_3 => ?_) (fun c_3 => ?_)
    · have c_3 := tn_le (a := ((s.v 2)).toInt) (b := (x1).toInt) rfl rfl c_3
      exact ok_some ⟨hI_s, hF_s, by show 0 ≤ (0 : Int32).toInt; decide, by show (0 : Int32).toInt ≤ 1; decide, by show (¬ (0 : Int32).toInt = 0 → 0 ≤ (x1).toInt ∧ (x1).toInt ≤ 5); have l := (by decide : (0 : Int32).toInt = 0); omega⟩
    · have c_3 := tn_nle (a := ((s.v 2)).toInt) (b := (x1).toInt) rfl rfl c_3
      exact ok_some ⟨hI_s, hF_s, by show 0 ≤ (1 : Int32).toInt; decide, by show (1 : Int32).toInt ≤ 1; decide, by show (¬ (1 : Int32).toInt = 0 → 0 ≤ (x1).toInt ∧ (x1).toInt ≤ 5); have l := (by decide : (1 : Int32).toInt = 1); omega⟩
theorem ok_kX5_hasParty (s : KS) (x1 : Int32) (hI_s : InvK s) : Ok (kX5_hasParty s x1) (Q_kX5_hasParty s x1) := ok_kX5_hasPartyB s s x1 hI_s FrK.rfl
noncomputable abbrev Q_kX5_hasGuess (s0 : KS) (x1 : Int32) (y : Int32 × KS) : Prop := InvK y.2 ∧ FrK [] s0 y.2 ∧ 0 ≤ y.1.toInt ∧ y.1.toInt ≤ 1 ∧ (¬ y.1.toInt = 0 → 0 ≤ (x1).toInt)
set_option maxHeartbeats 1000000 in
theorem ok_kX5_hasGuessB (s0 : KS)  (s : KS) (x1 : Int32) (hI_s : InvK s) (hF_s : FrK [] s0 s)  : Ok (kX5_hasGuess  s x1) (Q_kX5_hasGuess s0 x1) := by
  unfold kX5_hasGuess
  refine ok_ite (fun c_1 => ?_) (fun c_1 => ?_)
  · have c_1 := tn_lt (a := (x1).toInt) (b := 0) rfl (by decide) c_1
    exact ok_some ⟨hI_s, hF_s, by show 0 ≤ (0 : Int32).toInt; decide, by show (0 : Int32).toInt ≤ 1; decide, by show (¬ (0 : Int32).toInt = 0 → 0 ≤ (x1).toInt); have l := (by decide : (0 : Int32).toInt = 0); omega⟩
  · have c_1 := tn_nlt (a := (x1).toInt) (b := 0) rfl (by decide) c_1
    refine ok_ite (fun c_2 => ?_) (fun c_2 => ?_)
    · have c_2 := tn_le (a := ((s.v 3)).toInt) (b := (x1).toInt) rfl rfl c_2
      exact ok_some ⟨hI_s, hF_s, by show 0 ≤ (0 : Int32).toInt; decide, by show (0 : Int32).toInt ≤ 1; decide, by show (¬ (0 : Int32).toInt = 0 → 0 ≤ (x1).toInt); have l := (by decide : (0 : Int32).toInt = 0); omega⟩
    · have c_2 := tn_nle (a := ((s.v 3)).toInt) (b := (x1).toInt) rfl rfl c_2
      exact ok_some ⟨hI_s, hF_s, by show 0 ≤ (1 : Int32).toInt; decide, by show (1 : Int32).toInt ≤ 1; decide, by show (¬ (1 : Int32).toInt = 0 → 0 ≤ (x1).toInt); have l := (by decide : (1 : Int32).toInt = 1); omega⟩
theorem ok_kX5_hasGuess (s : KS) (x1 : Int32) (hI_s : InvK s) : Ok (kX5_hasGuess s x1) (Q_kX5_hasGuess s x1) := ok_kX5_hasGuessB s s x1 hI_s FrK.rfl
noncomputable abbrev Q_kX5_oddsAt (s0 : KS) (y : Int32 × KS) : Prop := InvK y.2 ∧ FrK [] s0 y.2 ∧ -2147483648 ≤ y.1.toInt ∧ y.1.toInt ≤ 2147483647
set_option maxHeartbeats 1000000 in
theorem ok_kX5_oddsAtB (s0 : KS)  (s : KS) (x1 : Int32) (x2 : Int32) (hI_s : InvK s) (hF_s : FrK [] s0 s) (h_x1l : 0 ≤ x1.toInt) (h_x1u : x1.toInt ≤ 4) (h_x2l : 0 ≤ x2.toInt) (h_x2u : x2.toInt ≤ 5)  : Ok (kX5_oddsAt  s x1 x2) (Q_kX5_oddsAt s0) := by
  unfold kX5_oddsAt
  have a_1 : ((x1 * 6)).toInt = (x1).toInt * 6 := ti_mulc (c := 6) (by decide) (by omega) (by omega)
  have a_2 : (((x1 * 6) + x2)).toInt = ((x1 * 6)).toInt + (x2).toInt := tn_add rfl rfl (by omega) (by omega)
  refine ok_grd (vpb_ok (by omega) (by omega)) ?_
  exact ok_some ⟨hI_s, hF_s, (ti_rng _).1, (ti_rng _).2⟩
theorem ok_kX5_oddsAt (s : KS) (x1 : Int32) (x2 : Int32) (hI_s : InvK s) (h_x1l : 0 ≤ x1.toInt) (h_x1u : x1.toInt ≤ 4) (h_x2l : 0 ≤ x2.toInt) (h_x2u : x2.toInt ≤ 5) : Ok (kX5_oddsAt s x1 x2) (Q_kX5_oddsAt s) := ok_kX5_oddsAtB s s x1 x2 hI_s FrK.rfl h_x1l h_x1u h_x2l h_x2u
noncomputable abbrev Q_kX5_oddsAt_d (s0 : KS) (y : Int32 × KS) : Prop := InvK y.2 ∧ FrK [] s0 y.2 ∧ -2147483648 ≤ y.1.toInt ∧ y.1.toInt ≤ 2147483647
set_option maxHeartbeats 1000000 in
theorem ok_kX5_oddsAt_dB (s0 : KS)  (s : KS) (x1 : Int32) (x2 : Int32) (hI_s : InvK s) (hF_s : FrK [] s0 s) (h_x1l : 0 ≤ x1.toInt) (h_x1u : x1.toInt ≤ 4) (h_x2l : 0 ≤ x2.toInt) (h_x2u : x2.toInt ≤ 5)  : Ok (kX5_oddsAt_d  s x1 x2) (Q_kX5_oddsAt_d s0) := by
  unfold kX5_oddsAt_d
  have a_1 : ((x1 * 6)).toInt = (x1).toInt * 6 := ti_mulc (c := 6) (by decide) (by omega) (by omega)
  have a_2 : (((x1 * 6) + x2)).toInt = ((x1 * 6)).toInt + (x2).toInt := tn_add rfl rfl (by omega) (by omega)
  refine ok_grd (vpb_ok (by omega) (by omega)) ?_
  exact ok_some ⟨hI_s, hF_s, (ti_rng _).1, (ti_rng _).2⟩
theorem ok_kX5_oddsAt_d (s : KS) (x1 : Int32) (x2 : Int32) (hI_s : InvK s) (h_x1l : 0 ≤ x1.toInt) (h_x1u : x1.toInt ≤ 4) (h_x2l : 0 ≤ x2.toInt) (h_x2u : x2.toInt ≤ 5) : Ok (kX5_oddsAt_d s x1 x2) (Q_kX5_oddsAt_d s) := ok_kX5_oddsAt_dB s s x1 x2 hI_s FrK.rfl h_x1l h_x1u h_x2l h_x2u
noncomputable abbrev Q_kX6_copyFrom (s0 : DS) (y : DS) : Prop := True
set_option maxHeartbeats 1000000 in
theorem ok_kX6_copyFromB (s0 : DS)  (s : DS)   : Ok (kX6_copyFrom  s) (Q_kX6_copyFrom s0) := by
  unfold kX6_copyFrom
  refine ok_let (fun s1 hs1 => ?_)
  refine ok_let (fun s3 hs3 => ?_)
  refine ok_let (fun s5 hs5 => ?_)
  refine ok_let (fun s7 hs7 => ?_)
  refine ok_let (fun s9 hs9 => ?_)
  refine ok_let (fun s11 hs11 => ?_)
  refine ok_let (fun s13 hs13 => ?_)
  exact ok_some (trivial)
theorem ok_kX6_copyFrom (s : DS)  : Ok (kX6_copyFrom s) (Q_kX6_copyFrom s) := ok_kX6_copyFromB s s 
noncomputable abbrev Q_kX7_hasRoomFor (s0 : KS) (y : Int32 × KS) : Prop := InvK y.2 ∧ FrK [] s0 y.2 ∧ 0 ≤ y.1.toInt ∧ y.1.toInt ≤ 1
set_option maxHeartbeats 1000000 in
theorem ok_kX7_hasRoomForB (s0 : KS)  (s : KS) (x1 : Int32) (hI_s : InvK s) (hF_s : FrK [] s0 s) (h_x1l : 20 ≤ x1.toInt) (h_x1u : x1.toInt ≤ 20)  : Ok (kX7_hasRoomFor  s x1) (Q_kX7_hasRoomFor s0) := by
  unfold kX7_hasRoomFor
  have a_1 : 0 ≤ (s.v 0).toInt ∧ (s.v 0).toInt ≤ 2000 := hI_s.1 0
  have a_2 : ((2000 - (s.v 0))).toInt = 2000 - ((s.v 0)).toInt := tn_sub (by decide) rfl (by omega) (by omega)
  refine ok_ite (fun c_3 => ?_) (fun c_3 => ?_)
  · have c_3 := tn_lt (a := ((2000 - (s.v 0))).toInt) (b := (x1).toInt) rfl rfl c_3
    exact ok_some ⟨hI_s, hF_s, by show 0 ≤ (0 : Int32).toInt; decide, by show (0 : Int32).toInt ≤ 1; decide⟩
  · have c_3 := tn_nlt (a := ((2000 - (s.v 0))).toInt) (b := (x1).toInt) rfl rfl c_3
    exact ok_some ⟨hI_s, hF_s, by show 0 ≤ (1 : Int32).toInt; decide, by show (1 : Int32).toInt ≤ 1; decide⟩
theorem ok_kX7_hasRoomFor (s : KS) (x1 : Int32) (hI_s : InvK s) (h_x1l : 20 ≤ x1.toInt) (h_x1u : x1.toInt ≤ 20) : Ok (kX7_hasRoomFor s x1) (Q_kX7_hasRoomFor s) := ok_kX7_hasRoomForB s s x1 hI_s FrK.rfl h_x1l h_x1u
noncomputable abbrev Q_kX7_addFour (s0 : KS) (y : KS) : Prop := InvK y ∧ FrK [0, 101] s0 y
set_option maxHeartbeats 1000000 in
theorem ok_kX7_addFour_42 (s0 : KS) (k3 : KS → Int32 → Int32 → Option (KS)) (M3 : Nat) (hk3 : ∀ (s : KS) (x1 : Int32) (x2 : Int32), InvK s → FrK [0, 101] s0 s → -8 ≤ x2.toInt → x2.toInt ≤ 24 → (x2.toInt - (-8)).toNat < M3 → Ok (k3 s x1 x2) (Q_kX7_addFour s0)) (s : KS) (x1 : Int32) (x2 : Int32) (hI_s : InvK s) (hF_s : FrK [0, 101] s0 s) (h_x2l : 0 ≤ x2.toInt) (h_x2u : x2.toInt ≤ 24) (hM3 : (x2.toInt - (-8)).toNat ≤ M3) : Ok (kX7_addFour_42 k3 s x1 x2) (Q_kX7_addFour s0) := by
  unfold kX7_addFour_42
  rw [show x2 + (-8) = x2 - 8 from (Int32.sub_eq_add_neg x2 8).symm]
  have a_1 : ((x2 - 8)).toInt = (x2).toInt - 8 := tn_sub rfl (by decide) (by omega) (by omega)
  exact hk3 _ _ _ hI_s hF_s (by omega) (by omega) (by omega)
set_option maxHeartbeats 1000000 in
theorem ok_kX7_addFour_3 (s0 : KS) (k3 : KS → Int32 → Int32 → Option (KS)) (M3 : Nat) (hk3 : ∀ (s : KS) (x1 : Int32) (x2 : Int32), InvK s → FrK [0, 101] s0 s → -8 ≤ x2.toInt → x2.toInt ≤ 24 → (x2.toInt - (-8)).toNat < M3 → Ok (k3 s x1 x2) (Q_kX7_addFour s0)) (s : KS) (x1 : Int32) (x2 : Int32) (hI_s : InvK s) (hF_s : FrK [0, 101] s0 s) (h_x2l : -8 ≤ x2.toInt) (h_x2u : x2.toInt ≤ 24) (hM3 : (x2.toInt - (-8)).toNat ≤ M3) : Ok (kX7_addFour_3 k3 s x1 x2) (Q_kX7_addFour s0) := by
  unfold kX7_addFour_3
  refine ok_ite (fun c_1 => ?_) (fun c_1 => ?_)
  · have c_1 := tn_lt (a := (x2).toInt) (b := 0) rfl (by decide) c_1
    exact ok_some ⟨hI_s, hF_s⟩
  · have c_1 := tn_nlt (a := (x2).toInt) (b := 0) rfl (by decide) c_1
    have a_2 : 0 ≤ (s.v 0).toInt ∧ (s.v 0).toInt ≤ 2000 := hI_s.1 0
    refine ok_ite (fun c_3 => ?_) (fun c_3 => ?_)
    · have c_3 := tn_le (a := 2000) (b := ((s.v 0)).toInt) (by decide) rfl c_3
      exact ok_kX7_addFour_42 s0 k3 M3 hk3 _ _ _ hI_s hF_s (by omega) (by omega) (by omega)
    · have c_3 := tn_nle (a := 2000) (b := ((s.v 0)).toInt) (by decide) rfl c_3
      refine ok_grd (vpb_ok (by omega) (by omega)) ?_
      refine ok_let (fun s4 hs4 => ?_)
      have hI_s4 : InvK s4 := by rw [← hs4]; exact hI_s.sfF (k := 1) rfl rfl
      have hF_s4 : FrK [0, 101] s0 s4 := by rw [← hs4]; exact hF_s.sf (k := 1) (by decide)
      refine ok_let (fun s6 hs6 => ?_)
      have a_4 : (s4.v 0).toInt = (s.v 0).toInt := congrArg Int32.toInt (show s4.v 0 = s.v 0 by rw [← hs4]; rfl)
      have a_5 : (((s4.v 0) + 1)).toInt = ((s4.v 0)).toInt + 1 := tn_add rfl (by decide) (by omega) (by omega)
      have hI_s6 : InvK s6 := by rw [← hs6]; exact hI_s4.sv (k := 0) (show (0 : Int) ≤ (((s4.v 0) + 1)).toInt by omega) (show (((s4.v 0) + 1)).toInt ≤ (2000 : Int) by omega)
      have hF_s6 : FrK [0, 101] s0 s6 := by rw [← hs6]; exact hF_s4.sv (k := 0) (by decide)
      exact ok_kX7_addFour_42 s0 k3 M3 hk3 _ _ _ hI_s6 hF_s6 (by omega) (by omega) (by omega)
theorem okL_kX7_addFour_3 (s0 : KS)  : ∀ (n : Nat) (s : KS) (x1 : Int32) (x2 : Int32), (x2.toInt - (-8)).toNat < n → InvK s → FrK [0, 101] s0 s → -8 ≤ x2.toInt → x2.toInt ≤ 24 → Ok (kX7_addFour_3L  n s x1 x2) (Q_kX7_addFour s0) := by
  intro n
  induction n with
  | zero => intro s x1 x2 hn; omega
  | succ n ih =>
    intro s x1 x2 hn hI_s hF_s h_x2l h_x2u 
    exact ok_kX7_addFour_3 s0 (kX7_addFour_3L  n) ((x2.toInt - (-8)).toNat) (fun zs zx1 zx2 g0 g1 g2 g3  hm => ih zs zx1 zx2 (by omega) g0 g1 g2 g3 ) s x1 x2 hI_s hF_s h_x2l h_x2u (Nat.le_refl _)
set_option maxHeartbeats 1000000 in
theorem ok_kX7_addFourB (s0 : KS)  (s : KS) (x1 : Int32) (hI_s : InvK s) (hF_s : FrK [0, 101] s0 s)  : Ok (kX7_addFour  s x1) (Q_kX7_addFour s0) := by
  unfold kX7_addFour
  have l_24 : (24 : Int32).toInt = 24 := by decide
  exact okL_kX7_addFour_3 s0  fu _ _ _ (by unfold fu; omega) hI_s hF_s (by decide) (by decide) 
theorem ok_kX7_addFour (s : KS) (x1 : Int32) (hI_s : InvK s) : Ok (kX7_addFour s x1) (Q_kX7_addFour s) := ok_kX7_addFourB s s x1 hI_s FrK.rfl
noncomputable abbrev Q_kX7_byteAt (s0 : KS) (x1 : Int32) (y : Int32 × KS) : Prop := InvK y.2 ∧ FrK [] s0 y.2 ∧ -2147483648 ≤ y.1.toInt ∧ y.1.toInt ≤ 2147483647 ∧ (¬ y.1.toInt = -1 → (x1).toInt < (s0.v 0).toInt)
set_option maxHeartbeats 1000000 in
theorem ok_kX7_byteAtB (s0 : KS)  (s : KS) (x1 : Int32) (hI_s : InvK s) (hF_s : FrK [] s0 s) (h_x1l : 0 ≤ x1.toInt) (h_x1u : x1.toInt ≤ 2000)  : Ok (kX7_byteAt  s x1) (Q_kX7_byteAt s0 x1) := by
  unfold kX7_byteAt
  refine ok_ite (fun c_1 => ?_) (fun c_1 => ?_)
  · have c_1 := tn_lt (a := (x1).toInt) (b := 0) rfl (by decide) c_1
    omega
  · have c_1 := tn_nlt (a := (x1).toInt) (b := 0) rfl (by decide) c_1
    have a_2 : 0 ≤ (s.v 0).toInt ∧ (s.v 0).toInt ≤ 2000 := hI_s.1 0
    refine ok_ite (fun c_3 => ?_) (fun c_3 => ?_)
    · have c_3 := tn_le (a := ((s.v 0)).toInt) (b := (x1).toInt) rfl rfl c_3
      have a_4 : (s.v 0).toInt = (s0.v 0).toInt := congrArg Int32.toInt (hF_s.1 0 (by decide))
      exact ok_some ⟨hI_s, hF_s, (ti_rng _).1, (ti_rng _).2, by show (¬ ((-1) : Int32).toInt = -1 → (x1).toInt < (s0.v 0).toInt); have l := (by decide : ((-1) : Int32).toInt = -1); omega⟩
    · have c_3 := tn_nle (a := ((s.v 0)).toInt) (b := (x1).toInt) rfl rfl c_3
      refine ok_grd (vpb_ok (by omega) (by omega)) ?_
      have a_5 : (s.v 0).toInt = (s0.v 0).toInt := congrArg Int32.toInt (hF_s.1 0 (by decide))
      exact ok_some ⟨hI_s, hF_s, (ti_rng _).1, (ti_rng _).2, by show (¬ ((((s.f 1) (Int32.toNatClampNeg x1)) &&& 255)).toInt = -1 → (x1).toInt < (s0.v 0).toInt); omega⟩
theorem ok_kX7_byteAt (s : KS) (x1 : Int32) (hI_s : InvK s) (h_x1l : 0 ≤ x1.toInt) (h_x1u : x1.toInt ≤ 2000) : Ok (kX7_byteAt s x1) (Q_kX7_byteAt s x1) := ok_kX7_byteAtB s s x1 hI_s FrK.rfl h_x1l h_x1u
end
section
noncomputable abbrev Q_kX8_add (s0 : KS) (y : Int32 × KS) : Prop := InvK y.2 ∧ FrK [21, 142, 143] s0 y.2 ∧ -1 ≤ y.1.toInt ∧ y.1.toInt ≤ 19
set_option maxHeartbeats 1000000 in
theorem ok_kX8_addB (s0 : KS)  (s : KS) (x1 : Int32) (x2 : Int32) (hI_s : InvK s) (hF_s : FrK [21, 142, 143] s0 s) (h_x1l : 0 ≤ x1.toInt) (h_x1u : x1.toInt ≤ 4)  : Ok (kX8_add  s x1 x2) (Q_kX8_add s0) := by
  unfold kX8_add
  have a_1 : 0 ≤ (s.v 21).toInt ∧ (s.v 21).toInt ≤ 20 := hI_s.1 21
  refine ok_ite (fun c_2 => ?_) (fun c_2 => ?_)
  · have c_2 := tn_lt (a := ((s.v 21)).toInt) (b := 20) rfl (by decide) c_2
    refine ok_grd (vpb_ok (by omega) (by omega)) ?_
    refine ok_let (fun s3 hs3 => ?_)
    have hI_s3 : InvK s3 := by rw [← hs3]; exact hI_s.sfF (k := 42) rfl rfl
    have hF_s3 : FrK [21, 142, 143] s0 s3 := by rw [← hs3]; exact hF_s.sf (k := 42) (by decide)
    have a_3 : (s3.v 21).toInt = (s.v 21).toInt := congrArg Int32.toInt (show s3.v 21 = s.v 21 by rw [← hs3]; rfl)
    refine ok_grd (vpb_ok (by omega) (by omega)) ?_
    refine ok_let (fun s6 hs6 => ?_)
    have hI_s6 : InvK s6 := by rw [← hs6]; exact hI_s3.sfF (k := 43) rfl rfl
    have hF_s6 : FrK [21, 142, 143] s0 s6 := by rw [← hs6]; exact hF_s3.sf (k := 43) (by decide)
    refine ok_let (fun s8 hs8 => ?_)
    have a_4 : (s6.v 21).toInt = (s3.v 21).toInt := congrArg Int32.toInt (show s6.v 21 = s3.v 21 by rw [← hs6]; rfl)
    have a_5 : (((s6.v 21) + 1)).toInt = ((s6.v 21)).toInt + 1 := tn_add rfl (by decide) (by omega) (by omega)
    have hI_s8 : InvK s8 := by rw [← hs8]; exact hI_s6.sv (k := 21) (show (0 : Int) ≤ (((s6.v 21) + 1)).toInt by omega) (show (((s6.v 21) + 1)).toInt ≤ (20 : Int) by omega)
    have hF_s8 : FrK [21, 142, 143] s0 s8 := by rw [← hs8]; exact hF_s6.sv (k := 21) (by decide)
    have a_6 : (s8.v 21).toInt = (((s6.v 21) + 1)).toInt := (congrArg Int32.toInt (show s8.v 21 = ((s6.v 21) + 1) by rw [← hs8]; rfl)).trans rfl
    have a_7 : (((s8.v 21) - 1)).toInt = ((s8.v 21)).toInt - 1 := tn_sub rfl (by decide) (by omega) (by omega)
    exact ok_some ⟨hI_s8, hF_s8, by show -1 ≤ (((s8.v 21) - 1)).toInt; omega, by show (((s8.v 21) - 1)).toInt ≤ 19; omega⟩
  · have c_2 := tn_nlt (a := ((s.v 21)).toInt) (b := 20) rfl (by decide) c_2
    exact ok_some ⟨hI_s, hF_s, by show -1 ≤ ((-1) : Int32).toInt; decide, by show ((-1) : Int32).toInt ≤ 19; decide⟩
theorem ok_kX8_add (s : KS) (x1 : Int32) (x2 : Int32) (hI_s : InvK s) (h_x1l : 0 ≤ x1.toInt) (h_x1u : x1.toInt ≤ 4) : Ok (kX8_add s x1 x2) (Q_kX8_add s) := ok_kX8_addB s s x1 x2 hI_s FrK.rfl h_x1l h_x1u
noncomputable abbrev Q_kX8_areSuch (s0 : KS) (x1 : Int32) (x2 : Int32) (y : Int32 × KS) : Prop := InvK y.2 ∧ FrK [] s0 y.2 ∧ 0 ≤ y.1.toInt ∧ y.1.toInt ≤ 1 ∧ (¬ y.1.toInt = 0 → 0 ≤ (x1).toInt ∧ (x1).toInt ≤ 20 ∧ 0 ≤ (x2).toInt ∧ (x2).toInt ≤ 3)
set_option maxHeartbeats 1000000 in
theorem ok_kX8_areSuchB (s0 : KS)  (s : KS) (x1 : Int32) (x2 : Int32) (hI_s : InvK s) (hF_s : FrK [] s0 s)  : Ok (kX8_areSuch  s x1 x2) (Q_kX8_areSuch s0 x1 x2) := by
  unfold kX8_areSuch
  refine ok_ite (fun c_1 => ?_) (fun c_1 => ?_)
  · have c_1 := tn_lt (a := (x1).toInt) (b := 0) rfl (by decide) c_1
    exact ok_some ⟨hI_s, hF_s, by show 0 ≤ (0 : Int32).toInt; decide, by show (0 : Int32).toInt ≤ 1; decide, by show (¬ (0 : Int32).toInt = 0 → 0 ≤ (x1).toInt ∧ (x1).toInt ≤ 20 ∧ 0 ≤ (x2).toInt ∧ (x2).toInt ≤ 3); have l := (by decide : (0 : Int32).toInt = 0); omega⟩
  · have c_1 := tn_nlt (a := (x1).toInt) (b := 0) rfl (by decide) c_1
    have a_2 : 0 ≤ (s.v 21).toInt ∧ (s.v 21).toInt ≤ 20 := hI_s.1 21
    refine ok_ite (fun c_3 => ?_) (fun c_3 => ?_)
    · have c_3 := tn_lt (a := ((s.v 21)).toInt) (b := (x1).toInt) rfl rfl c_3
      exact ok_some ⟨hI_s, hF_s, by show 0 ≤ (0 : Int32).toInt; decide, by show (0 : Int32).toInt ≤ 1; decide, by show (¬ (0 : Int32).toInt = 0 → 0 ≤ (x1).toInt ∧ (x1).toInt ≤ 20 ∧ 0 ≤ (x2).toInt ∧ (x2).toInt ≤ 3); have l := (by decide : (0 : Int32).toInt = 0); omega⟩
    · have c_3 := tn_nlt (a := ((s.v 21)).toInt) (b := (x1).toInt) rfl rfl c_3
      refine ok_ite (fun c_4 => ?_) (fun c_4 => ?_)
      · have c_4 := tn_lt (a := (x2).toInt) (b := 0) rfl (by decide) c_4
        exact ok_some ⟨hI_s, hF_s, by show 0 ≤ (0 : Int32).toInt; decide, by show (0 : Int32).toInt ≤ 1; decide, by show (¬ (0 : Int32).toInt = 0 → 0 ≤ (x1).toInt ∧ (x1).toInt ≤ 20 ∧ 0 ≤ (x2).toInt ∧ (x2).toInt ≤ 3); have l := (by decide : (0 : Int32).toInt = 0); omega⟩
      · have c_4 := tn_nlt (a := (x2).toInt) (b := 0) rfl (by decide) c_4
        refine ok_ite (fun c_5 => ?_) (fun c_5 => ?_)
        · have c_5 := tn_lt (a := 3) (b := (x2).toInt) (by decide) rfl c_5
          exact ok_some ⟨hI_s, hF_s, by show 0 ≤ (0 : Int32).toInt; decide, by show (0 : Int32).toInt ≤ 1; decide, by show (¬ (0 : Int32).toInt = 0 → 0 ≤ (x1).toInt ∧ (x1).toInt ≤ 20 ∧ 0 ≤ (x2).toInt ∧ (x2).toInt ≤ 3); have l := (by decide : (0 : Int32).toInt = 0); omega⟩
        · have c_5 := tn_nlt (a := 3) (b := (x2).toInt) (by decide) rfl c_5
          exact ok_some ⟨hI_s, hF_s, by show 0 ≤ (1 : Int32).toInt; decide, by show (1 : Int32).toInt ≤ 1; decide, by show (¬ (1 : Int32).toInt = 0 → 0 ≤ (x1).toInt ∧ (x1).toInt ≤ 20 ∧ 0 ≤ (x2).toInt ∧ (x2).toInt ≤ 3); have l := (by decide : (1 : Int32).toInt = 1); omega⟩
theorem ok_kX8_areSuch (s : KS) (x1 : Int32) (x2 : Int32) (hI_s : InvK s) : Ok (kX8_areSuch s x1 x2) (Q_kX8_areSuch s x1 x2) := ok_kX8_areSuchB s s x1 x2 hI_s FrK.rfl
noncomputable abbrev Q_kX8_withWave (s0 : KS) (y : Int32 × KS) : Prop := InvK y.2 ∧ FrK [] s0 y.2 ∧ -2147483648 ≤ y.1.toInt ∧ y.1.toInt ≤ 2147483647
set_option maxHeartbeats 1000000 in
theorem ok_kX8_withWave_78 (s0 : KS) (k6 : KS → Int32 → Int32 → Int32 → Int32 → Int32 → Option (Int32 × KS)) (M6 : Nat) (hk6 : ∀ (s : KS) (x1 : Int32) (x2 : Int32) (x3 : Int32) (x4 : Int32) (x5 : Int32), InvK s → FrK [] s0 s → 0 ≤ x1.toInt → x1.toInt ≤ 4 → 0 ≤ x2.toInt → x2.toInt ≤ 3 → 0 ≤ x3.toInt → x3.toInt ≤ 1 → 0 ≤ x5.toInt → x5.toInt ≤ 6 → (6 - x5.toInt).toNat < M6 → Ok (k6 s x1 x2 x3 x4 x5) (Q_kX8_withWave s0)) (s : KS) (x1 : Int32) (x2 : Int32) (x3 : Int32) (x4 : Int32) (x5 : Int32) (hI_s : InvK s) (hF_s : FrK [] s0 s) (h_x1l : 0 ≤ x1.toInt) (h_x1u : x1.toInt ≤ 4) (h_x2l : 0 ≤ x2.toInt) (h_x2u : x2.toInt ≤ 3) (h_x3l : 0 ≤ x3.toInt) (h_x3u : x3.toInt ≤ 1) (h_x5l : 0 ≤ x5.toInt) (h_x5u : x5.toInt ≤ 5) (hM6 : (6 - x5.toInt).toNat ≤ M6) : Ok (kX8_withWave_78 k6 s x1 x2 x3 x4 x5) (Q_kX8_withWave s0) := by
  unfold kX8_withWave_78
  have a_1 : ((x5 + 1)).toInt = (x5).toInt + 1 := tn_add rfl (by decide) (by omega) (by omega)
  exact hk6 _ _ _ _ _ _ hI_s hF_s (by omega) (by omega) (by omega) (by omega) (by omega) (by omega) (by omega) (by omega) (by omega)
set_option maxHeartbeats 1000000 in
theorem ok_kX8_withWave_74 (s0 : KS) (k6 : KS → Int32 → Int32 → Int32 → Int32 → Int32 → Option (Int32 × KS)) (M6 : Nat) (hk6 : ∀ (s : KS) (x1 : Int32) (x2 : Int32) (x3 : Int32) (x4 : Int32) (x5 : Int32), InvK s → FrK [] s0 s → 0 ≤ x1.toInt → x1.toInt ≤ 4 → 0 ≤ x2.toInt → x2.toInt ≤ 3 → 0 ≤ x3.toInt → x3.toInt ≤ 1 → 0 ≤ x5.toInt → x5.toInt ≤ 6 → (6 - x5.toInt).toNat < M6 → Ok (k6 s x1 x2 x3 x4 x5) (Q_kX8_withWave s0)) (s : KS) (x1 : Int32) (x2 : Int32) (x3 : Int32) (x5 : Int32) (t0 : Int32) (t1 : Int32) (t2 : Int32) (hI_s : InvK s) (hF_s : FrK [] s0 s) (h_x1l : 0 ≤ x1.toInt) (h_x1u : x1.toInt ≤ 4) (h_x2l : 0 ≤ x2.toInt) (h_x2u : x2.toInt ≤ 3) (h_x3l : 0 ≤ x3.toInt) (h_x3u : x3.toInt ≤ 1) (h_x5l : 0 ≤ x5.toInt) (h_x5u : x5.toInt ≤ 5) (h_t0l : 1 ≤ t0.toInt) (hM6 : (6 - x5.toInt).toNat ≤ M6) : Ok (kX8_withWave_74 k6 s x1 x2 x3 x5 t0 t1 t2) (Q_kX8_withWave s0) := by
  unfold kX8_withWave_74
  exact ok_kX8_withWave_78 s0 k6 M6 hk6 _ _ _ _ _ _ hI_s hF_s (by omega) (by omega) (by omega) (by omega) (by omega) (by omega) (by omega) (by omega) (by omega)
set_option maxHeartbeats 1000000 in
theorem ok_kX8_withWave_6 (s0 : KS) (k6 : KS → Int32 → Int32 → Int32 → Int32 → Int32 → Option (Int32 × KS)) (M6 : Nat) (hk6 : ∀ (s : KS) (x1 : Int32) (x2 : Int32) (x3 : Int32) (x4 : Int32) (x5 : Int32), InvK s → FrK [] s0 s → 0 ≤ x1.toInt → x1.toInt ≤ 4 → 0 ≤ x2.toInt → x2.toInt ≤ 3 → 0 ≤ x3.toInt → x3.toInt ≤ 1 → 0 ≤ x5.toInt → x5.toInt ≤ 6 → (6 - x5.toInt).toNat < M6 → Ok (k6 s x1 x2 x3 x4 x5) (Q_kX8_withWave s0)) (s : KS) (x1 : Int32) (x2 : Int32) (x3 : Int32) (x4 : Int32) (x5 : Int32) (hI_s : InvK s) (hF_s : FrK [] s0 s) (h_x1l : 0 ≤ x1.toInt) (h_x1u : x1.toInt ≤ 4) (h_x2l : 0 ≤ x2.toInt) (h_x2u : x2.toInt ≤ 3) (h_x3l : 0 ≤ x3.toInt) (h_x3u : x3.toInt ≤ 1) (h_x5l : 0 ≤ x5.toInt) (h_x5u : x5.toInt ≤ 6) (hM6 : (6 - x5.toInt).toNat ≤ M6) : Ok (kX8_withWave_6 k6 s x1 x2 x3 x4 x5) (Q_kX8_withWave s0) := by
  unfold kX8_withWave_6
  refine ok_ite (fun c_1 => ?_) (fun c_1 => ?_)
  · have c_1 := tn_le (a := 6) (b := (x5).toInt) (by decide) rfl c_1
    exact ok_some ⟨hI_s, hF_s, (ti_rng _).1, (ti_rng _).2⟩
  · have c_1 := tn_nle (a := 6) (b := (x5).toInt) (by decide) rfl c_1
    have a_2 : ((x1 * 6)).toInt = (x1).toInt * 6 := ti_mulc (c := 6) (by decide) (by omega) (by omega)
    have a_3 : (((x1 * 6) + x5)).toInt = ((x1 * 6)).toInt + (x5).toInt := tn_add rfl rfl (by omega) (by omega)
    refine ok_grd (vpb_ok (by omega) (by omega)) ?_
    refine ok_ite (fun c_4 => ?_) (fun c_4 => ?_)
    · have c_4 := tn_le (a := (((s.f 44) (Int32.toNatClampNeg ((x1 * 6) + x5)))).toInt) (b := 0) rfl (by decide) c_4
      exact ok_kX8_withWave_78 s0 k6 M6 hk6 _ _ _ _ _ _ hI_s hF_s (by omega) (by omega) (by omega) (by omega) (by omega) (by omega) (by omega) (by omega) (by omega)
    · have c_4 := tn_nle (a := (((s.f 44) (Int32.toNatClampNeg ((x1 * 6) + x5)))).toInt) (b := 0) rfl (by decide) c_4
      refine ok_grd (vpb_ok (by omega) (by omega)) ?_
      have a_5 : 0 ≤ (((s.f 45) (Int32.toNatClampNeg ((x1 * 6) + x5)))).toInt ∧ (((s.f 45) (Int32.toNatClampNeg ((x1 * 6) + x5)))).toInt ≤ 20 := hI_s.2 45 _
      refine ok_ite (fun c_6 => ?_) (fun c_6 => ?_)
      · have c_6 := tn_lt (a := (x2).toInt) (b := (((s.f 45) (Int32.toNatClampNeg ((x1 * 6) + x5)))).toInt) rfl rfl c_6
        exact ok_kX8_withWave_78 s0 k6 M6 hk6 _ _ _ _ _ _ hI_s hF_s (by omega) (by omega) (by omega) (by omega) (by omega) (by omega) (by omega) (by omega) (by omega)
      · have c_6 := tn_nlt (a := (x2).toInt) (b := (((s.f 45) (Int32.toNatClampNeg ((x1 * 6) + x5)))).toInt) rfl rfl c_6
        refine ok_grd (vpb_ok (by omega) (by omega)) ?_
        have a_7 : ((x2 - ((s.f 45) (Int32.toNatClampNeg ((x1 * 6) + x5))))).toInt = (x2).toInt - (((s.f 45) (Int32.toNatClampNeg ((x1 * 6) + x5)))).toInt := tn_sub rfl rfl (by omega) (by omega)
        refine ok_grd (vpb_ok (by omega) (by omega)) ?_
        refine ok_ite (fun c_8 => ?_) (fun c_8 => ?_)
        · have c_8 := tn_eq (a := (x3).toInt) (b := 0) rfl (by decide) c_8
          have l_1 : (1 : Int32).toInt = 1 := by decide
          exact ok_kX8_withWave_74 s0 k6 M6 hk6 _ _ _ _ _ _ _ _ hI_s hF_s (by omega) (by omega) (by omega) (by omega) (by omega) (by omega) (by omega) (by omega) (by decide) (by omega)
        · have c_8 := tn_ne (a := (x3).toInt) (b := 0) rfl (by decide) c_8
          refine ok_grd (vpb_ok (by omega) (by omega)) ?_
          exact ok_kX8_withWave_74 s0 k6 M6 hk6 _ _ _ _ _ _ _ _ hI_s hF_s (by omega) (by omega) (by omega) (by omega) (by omega) (by omega) (by omega) (by omega) (by omega) (by omega)
theorem okL_kX8_withWave_6 (s0 : KS)  : ∀ (n : Nat) (s : KS) (x1 : Int32) (x2 : Int32) (x3 : Int32) (x4 : Int32) (x5 : Int32), (6 - x5.toInt).toNat < n → InvK s → FrK [] s0 s → 0 ≤ x1.toInt → x1.toInt ≤ 4 → 0 ≤ x2.toInt → x2.toInt ≤ 3 → 0 ≤ x3.toInt → x3.toInt ≤ 1 → 0 ≤ x5.toInt → x5.toInt ≤ 6 → Ok (kX8_withWave_6L  n s x1 x2 x3 x4 x5) (Q_kX8_withWave s0) := by
  intro n
  induction n with
  | zero => intro s x1 x2 x3 x4 x5 hn; omega
  | succ n ih =>
    intro s x1 x2 x3 x4 x5 hn hI_s hF_s h_x1l h_x1u h_x2l h_x2u h_x3l h_x3u h_x5l h_x5u 
    exact ok_kX8_withWave_6 s0 (kX8_withWave_6L  n) ((6 - x5.toInt).toNat) (fun zs zx1 zx2 zx3 zx4 zx5 g0 g1 g2 g3 g4 g5 g6 g7 g8 g9  hm => ih zs zx1 zx2 zx3 zx4 zx5 (by omega) g0 g1 g2 g3 g4 g5 g6 g7 g8 g9 ) s x1 x2 x3 x4 x5 hI_s hF_s h_x1l h_x1u h_x2l h_x2u h_x3l h_x3u h_x5l h_x5u (Nat.le_refl _)
set_option maxHeartbeats 1000000 in
theorem ok_kX8_withWaveB (s0 : KS)  (s : KS) (x1 : Int32) (x2 : Int32) (x3 : Int32) (hI_s : InvK s) (hF_s : FrK [] s0 s) (h_x1l : 0 ≤ x1.toInt) (h_x1u : x1.toInt ≤ 4) (h_x2l : 0 ≤ x2.toInt) (h_x2u : x2.toInt ≤ 3) (h_x3l : 0 ≤ x3.toInt) (h_x3u : x3.toInt ≤ 1)  : Ok (kX8_withWave  s x1 x2 x3) (Q_kX8_withWave s0) := by
  unfold kX8_withWave
  have l_0 : (0 : Int32).toInt = 0 := by decide
  exact okL_kX8_withWave_6 s0  fu _ _ _ _ _ _ (by unfold fu; omega) hI_s hF_s (by omega) (by omega) (by omega) (by omega) (by omega) (by omega) (by decide) (by decide) 
theorem ok_kX8_withWave (s : KS) (x1 : Int32) (x2 : Int32) (x3 : Int32) (hI_s : InvK s) (h_x1l : 0 ≤ x1.toInt) (h_x1u : x1.toInt ≤ 4) (h_x2l : 0 ≤ x2.toInt) (h_x2u : x2.toInt ≤ 3) (h_x3l : 0 ≤ x3.toInt) (h_x3u : x3.toInt ≤ 1) : Ok (kX8_withWave s x1 x2 x3) (Q_kX8_withWave s) := ok_kX8_withWaveB s s x1 x2 x3 hI_s FrK.rfl h_x1l h_x1u h_x2l h_x2u h_x3l h_x3u
noncomputable abbrev Q_kX8_upTo (s0 : KS) (y : Int32 × KS) : Prop := InvK y.2 ∧ FrK [] s0 y.2 ∧ -2147483648 ≤ y.1.toInt ∧ y.1.toInt ≤ 2147483647
set_option maxHeartbeats 1000000 in
theorem ok_kX8_upTo_4 (s0 : KS) (k4 : KS → Int32 → Int32 → Int32 → Option (Int32 × KS)) (M4 : Nat) (hk4 : ∀ (s : KS) (x1 : Int32) (x2 : Int32) (x3 : Int32), InvK s → FrK [] s0 s → -20 ≤ x1.toInt → x1.toInt ≤ 3 → 0 ≤ x3.toInt → x3.toInt ≤ 4 → (4 - x3.toInt).toNat < M4 → Ok (k4 s x1 x2 x3) (Q_kX8_upTo s0)) (s : KS) (x1 : Int32) (x2 : Int32) (x3 : Int32) (hI_s : InvK s) (hF_s : FrK [] s0 s) (h_x1l : -20 ≤ x1.toInt) (h_x1u : x1.toInt ≤ 3) (h_x3l : 0 ≤ x3.toInt) (h_x3u : x3.toInt ≤ 4) (hM4 : (4 - x3.toInt).toNat ≤ M4) : Ok (kX8_upTo_4 k4 s x1 x2 x3) (Q_kX8_upTo s0) := by
  unfold kX8_upTo_4
  refine ok_ite (fun c_1 => ?_) (fun c_1 => ?_)
  · have c_1 := tn_lt (a := (x1).toInt) (b := (x3).toInt) rfl rfl c_1
    exact ok_some ⟨hI_s, hF_s, (ti_rng _).1, (ti_rng _).2⟩
  · have c_1 := tn_nlt (a := (x1).toInt) (b := (x3).toInt) rfl rfl c_1
    refine ok_ite (fun c_2 => ?_) (fun c_2 => ?_)
    · have c_2 := tn_lt (a := 3) (b := (x3).toInt) (by decide) rfl c_2
      omega
    · have c_2 := tn_nlt (a := 3) (b := (x3).toInt) (by decide) rfl c_2
      refine ok_grd (vpb_ok (by omega) (by omega)) ?_
      have a_3 : ((x3 + 1)).toInt = (x3).toInt + 1 := tn_add rfl (by decide) (by omega) (by omega)
      exact hk4 _ _ _ _ hI_s hF_s (by omega) (by omega) (by omega) (by omega) (by omega)
theorem okL_kX8_upTo_4 (s0 : KS)  : ∀ (n : Nat) (s : KS) (x1 : Int32) (x2 : Int32) (x3 : Int32), (4 - x3.toInt).toNat < n → InvK s → FrK [] s0 s → -20 ≤ x1.toInt → x1.toInt ≤ 3 → 0 ≤ x3.toInt → x3.toInt ≤ 4 → Ok (kX8_upTo_4L  n s x1 x2 x3) (Q_kX8_upTo s0) := by
  intro n
  induction n with
  | zero => intro s x1 x2 x3 hn; omega
  | succ n ih =>
    intro s x1 x2 x3 hn hI_s hF_s h_x1l h_x1u h_x3l h_x3u 
    exact ok_kX8_upTo_4 s0 (kX8_upTo_4L  n) ((4 - x3.toInt).toNat) (fun zs zx1 zx2 zx3 g0 g1 g2 g3 g4 g5  hm => ih zs zx1 zx2 zx3 (by omega) g0 g1 g2 g3 g4 g5 ) s x1 x2 x3 hI_s hF_s h_x1l h_x1u h_x3l h_x3u (Nat.le_refl _)
set_option maxHeartbeats 1000000 in
theorem ok_kX8_upToB (s0 : KS)  (s : KS) (x1 : Int32) (hI_s : InvK s) (hF_s : FrK [] s0 s) (h_x1l : -20 ≤ x1.toInt) (h_x1u : x1.toInt ≤ 3)  : Ok (kX8_upTo  s x1) (Q_kX8_upTo s0) := by
  unfold kX8_upTo
  have l_0 : (0 : Int32).toInt = 0 := by decide
  exact okL_kX8_upTo_4 s0  fu _ _ _ _ (by unfold fu; omega) hI_s hF_s (by omega) (by omega) (by decide) (by decide) 
theorem ok_kX8_upTo (s : KS) (x1 : Int32) (hI_s : InvK s) (h_x1l : -20 ≤ x1.toInt) (h_x1u : x1.toInt ≤ 3) : Ok (kX8_upTo s x1) (Q_kX8_upTo s) := ok_kX8_upToB s s x1 hI_s FrK.rfl h_x1l h_x1u
noncomputable abbrev Q_kX8_fittingWith (s0 : KS) (y : Int32 × KS) : Prop := InvK y.2 ∧ FrK [] s0 y.2 ∧ -2147483648 ≤ y.1.toInt ∧ y.1.toInt ≤ 2147483647
set_option maxHeartbeats 1000000 in
theorem ok_kX8_fittingWithB (s0 : KS)  (s : KS) (x1 : Int32) (x2 : Int32) (x3 : Int32) (hI_s : InvK s) (hF_s : FrK [] s0 s) (h_x1l : 0 ≤ x1.toInt) (h_x1u : x1.toInt ≤ 4) (h_x2l : 0 ≤ x2.toInt) (h_x2u : x2.toInt ≤ 5) (h_x3l : 0 ≤ x3.toInt) (h_x3u : x3.toInt ≤ 3)  : Ok (kX8_fittingWith  s x1 x2 x3) (Q_kX8_fittingWith s0) := by
  unfold kX8_fittingWith
  have a_1 : ((x1 * 6)).toInt = (x1).toInt * 6 := ti_mulc (c := 6) (by decide) (by omega) (by omega)
  have a_2 : (((x1 * 6) + x2)).toInt = ((x1 * 6)).toInt + (x2).toInt := tn_add rfl rfl (by omega) (by omega)
  refine ok_grd (vpb_ok (by omega) (by omega)) ?_
  refine ok_ite (fun c_3 => ?_) (fun c_3 => ?_)
  · have c_3 := tn_le (a := (((s.f 44) (Int32.toNatClampNeg ((x1 * 6) + x2)))).toInt) (b := 0) rfl (by decide) c_3
    exact ok_some ⟨hI_s, hF_s, (ti_rng _).1, (ti_rng _).2⟩
  · have c_3 := tn_nle (a := (((s.f 44) (Int32.toNatClampNeg ((x1 * 6) + x2)))).toInt) (b := 0) rfl (by decide) c_3
    refine ok_grd (vpb_ok (by omega) (by omega)) ?_
    have a_4 : 0 ≤ (((s.f 45) (Int32.toNatClampNeg ((x1 * 6) + x2)))).toInt ∧ (((s.f 45) (Int32.toNatClampNeg ((x1 * 6) + x2)))).toInt ≤ 20 := hI_s.2 45 _
    have a_5 : ((x3 - ((s.f 45) (Int32.toNatClampNeg ((x1 * 6) + x2))))).toInt = (x3).toInt - (((s.f 45) (Int32.toNatClampNeg ((x1 * 6) + x2)))).toInt := tn_sub rfl rfl (by omega) (by omega)
    refine ok_bindI (ok_kX8_upTo _ _ hI_s (by omega) (by omega)) (fun r5 s4 hc_6 => ?_)
    have hI_s4 : InvK s4 := hc_6.1
    have hFc_s4 : FrK [] s s4 := hc_6.2.1
    have hF_s4 : FrK [] s0 s4 := hF_s.trans hFc_s4 (by decide)
    exact ok_some ⟨hI_s4, hF_s4, (ti_rng _).1, (ti_rng _).2⟩
theorem ok_kX8_fittingWith (s : KS) (x1 : Int32) (x2 : Int32) (x3 : Int32) (hI_s : InvK s) (h_x1l : 0 ≤ x1.toInt) (h_x1u : x1.toInt ≤ 4) (h_x2l : 0 ≤ x2.toInt) (h_x2u : x2.toInt ≤ 5) (h_x3l : 0 ≤ x3.toInt) (h_x3u : x3.toInt ≤ 3) : Ok (kX8_fittingWith s x1 x2 x3) (Q_kX8_fittingWith s) := ok_kX8_fittingWithB s s x1 x2 x3 hI_s FrK.rfl h_x1l h_x1u h_x2l h_x2u h_x3l h_x3u
noncomputable abbrev Q_kX9_isBlank (y : Int32) : Prop := 0 ≤ y.toInt ∧ y.toInt ≤ 1
set_option maxHeartbeats 1000000 in
theorem ok_kX9_isBlankB  (x0 : Int32)   : Ok (kX9_isBlank  x0) Q_kX9_isBlank := by
  unfold kX9_isBlank
  refine ok_ite (fun c_1 => ?_) (fun c_1 => ?_)
  · have c_1 := tn_eq (a := (x0).toInt) (b := 9) rfl (by decide) c_1
    exact ok_some ⟨by show 0 ≤ (1 : Int32).toInt; decide, by show (1 : Int32).toInt ≤ 1; decide⟩
  · have c_1 := tn_ne (a := (x0).toInt) (b := 9) rfl (by decide) c_1
    refine ok_ite (fun c_2 => ?_) (fun c_2 => ?_)
    · have c_2 := tn_eq (a := (x0).toInt) (b := 10) rfl (by decide) c_2
      exact ok_some ⟨by show 0 ≤ (1 : Int32).toInt; decide, by show (1 : Int32).toInt ≤ 1; decide⟩
    · have c_2 := tn_ne (a := (x0).toInt) (b := 10) rfl (by decide) c_2
      refine ok_ite (fun c_3 => ?_) (fun c_3 => ?_)
      · have c_3 := tn_eq (a := (x0).toInt) (b := 13) rfl (by decide) c_3
        exact ok_some ⟨by show 0 ≤ (1 : Int32).toInt; decide, by show (1 : Int32).toInt ≤ 1; decide⟩
      · have c_3 := tn_ne (a := (x0).toInt) (b := 13) rfl (by decide) c_3
        refine ok_ite (fun c_4 => ?_) (fun c_4 => ?_)
        · have c_4 := tn_eq (a := (x0).toInt) (b := 32) rfl (by decide) c_4
          exact ok_some ⟨by show 0 ≤ (1 : Int32).toInt; decide, by show (1 : Int32).toInt ≤ 1; decide⟩
        · have c_4 := tn_ne (a := (x0).toInt) (b := 32) rfl (by decide) c_4
          exact ok_some ⟨by show 0 ≤ (0 : Int32).toInt; decide, by show (0 : Int32).toInt ≤ 1; decide⟩
theorem ok_kX9_isBlank (x0 : Int32)  : Ok (kX9_isBlank x0) Q_kX9_isBlank := ok_kX9_isBlankB x0 
noncomputable abbrev Q_kX9_isLetter (y : Int32) : Prop := 0 ≤ y.toInt ∧ y.toInt ≤ 1
set_option maxHeartbeats 1000000 in
theorem ok_kX9_isLetterB  (x0 : Int32)   : Ok (kX9_isLetter  x0) Q_kX9_isLetter := by
  unfold kX9_isLetter
  refine ok_ite (fun c_1 => ?_) (fun c_1 => ?_)
  · have c_1 := tn_lt (a := (x0).toInt) (b := 97) rfl (by decide) c_1
    exact ok_some ⟨by show 0 ≤ (0 : Int32).toInt; decide, by show (0 : Int32).toInt ≤ 1; decide⟩
  · have c_1 := tn_nlt (a := (x0).toInt) (b := 97) rfl (by decide) c_1
    refine ok_ite (fun c_2 => ?_) (fun c_2 => ?_)
    · have c_2 := tn_lt (a := 122) (b := (x0).toInt) (by decide) rfl c_2
      exact ok_some ⟨by show 0 ≤ (0 : Int32).toInt; decide, by show (0 : Int32).toInt ≤ 1; decide⟩
    · have c_2 := tn_nlt (a := 122) (b := (x0).toInt) (by decide) rfl c_2
      exact ok_some ⟨by show 0 ≤ (1 : Int32).toInt; decide, by show (1 : Int32).toInt ≤ 1; decide⟩
theorem ok_kX9_isLetter (x0 : Int32)  : Ok (kX9_isLetter x0) Q_kX9_isLetter := ok_kX9_isLetterB x0 
noncomputable abbrev Q_kX9_isDigit (y : Int32) : Prop := 0 ≤ y.toInt ∧ y.toInt ≤ 1
set_option maxHeartbeats 1000000 in
theorem ok_kX9_isDigitB  (x0 : Int32)   : Ok (kX9_isDigit  x0) Q_kX9_isDigit := by
  unfold kX9_isDigit
  refine ok_ite (fun c_1 => ?_) (fun c_1 => ?_)
  · have c_1 := tn_lt (a := (x0).toInt) (b := 48) rfl (by decide) c_1
    exact ok_some ⟨by show 0 ≤ (0 : Int32).toInt; decide, by show (0 : Int32).toInt ≤ 1; decide⟩
  · have c_1 := tn_nlt (a := (x0).toInt) (b := 48) rfl (by decide) c_1
    refine ok_ite (fun c_2 => ?_) (fun c_2 => ?_)
    · have c_2 := tn_lt (a := 57) (b := (x0).toInt) (by decide) rfl c_2
      exact ok_some ⟨by show 0 ≤ (0 : Int32).toInt; decide, by show (0 : Int32).toInt ≤ 1; decide⟩
    · have c_2 := tn_nlt (a := 57) (b := (x0).toInt) (by decide) rfl c_2
      exact ok_some ⟨by show 0 ≤ (1 : Int32).toInt; decide, by show (1 : Int32).toInt ≤ 1; decide⟩
theorem ok_kX9_isDigit (x0 : Int32)  : Ok (kX9_isDigit x0) Q_kX9_isDigit := ok_kX9_isDigitB x0 
noncomputable abbrev Q_kX9_withLetter (y : Int64) : Prop := True
set_option maxHeartbeats 1000000 in
theorem ok_kX9_withLetterB  (x0 : Int64) (x2 : Int32)   : Ok (kX9_withLetter  x0 x2) Q_kX9_withLetter := by
  unfold kX9_withLetter
  exact ok_some (trivial)
theorem ok_kX9_withLetter (x0 : Int64) (x2 : Int32)  : Ok (kX9_withLetter x0 x2) Q_kX9_withLetter := ok_kX9_withLetterB x0 x2 
noncomputable abbrev Q_kX9_skipBlanks (s0 : KS) (y : KS) : Prop := InvK y ∧ FrK [20] s0 y
set_option maxHeartbeats 1000000 in
theorem ok_kX9_skipBlanks_0 (s0 : KS) (k0 : KS → Option (KS)) (M0 : Nat) (hk0 : ∀ (s : KS), InvK s → FrK [20] s0 s → (2000 - (s.v 20).toInt).toNat < M0 → Ok (k0 s) (Q_kX9_skipBlanks s0)) (s : KS) (hI_s : InvK s) (hF_s : FrK [20] s0 s) (hM0 : (2000 - (s.v 20).toInt).toNat ≤ M0) : Ok (kX9_skipBlanks_0 k0 s) (Q_kX9_skipBlanks s0) := by
  unfold kX9_skipBlanks_0
  have a_1 : 0 ≤ (s.v 20).toInt ∧ (s.v 20).toInt ≤ 2000 := hI_s.1 20
  have a_2 : 0 ≤ (s.v 0).toInt ∧ (s.v 0).toInt ≤ 2000 := hI_s.1 0
  refine ok_ite (fun c_3 => ?_) (fun c_3 => ?_)
  · have c_3 := tn_le (a := ((s.v 0)).toInt) (b := ((s.v 20)).toInt) rfl rfl c_3
    exact ok_some ⟨hI_s, hF_s⟩
  · have c_3 := tn_nle (a := ((s.v 0)).toInt) (b := ((s.v 20)).toInt) rfl rfl c_3
    refine ok_bindI (ok_kX7_byteAt _ _ hI_s (by omega) (by omega)) (fun r3 s2 hc_4 => ?_)
    have hI_s2 : InvK s2 := hc_4.1
    have hFc_s2 : FrK [] s s2 := hc_4.2.1
    have hF_s2 : FrK [20] s0 s2 := hF_s.trans hFc_s2 (by decide)
    have hx0_r3 : (¬ r3.toInt = -1 → ((s.v 20)).toInt < (s.v 0).toInt) := hc_4.2.2.2.2
    refine ok_bindP (ok_kX9_isBlank _ ) (fun r4 hc_5 => ?_)
    have hl_r4 : 0 ≤ r4.toInt := hc_5.1
    have hu_r4 : r4.toInt ≤ 1 := hc_5.2
    refine ok_ite (fun c_6 => ?_) (fun c_6 => ?_)
    · have c_6 := tn_eq (a := (r4).toInt) (b := 0) rfl (by decide) c_6
      exact ok_some ⟨hI_s2, hF_s2⟩
    · have c_6 := tn_ne (a := (r4).toInt) (b := 0) rfl (by decide) c_6
      refine ok_let (fun s6 hs6 => ?_)
      have a_7 : (s2.v 20).toInt = (s.v 20).toInt := congrArg Int32.toInt (hFc_s2.1 20 (by decide))
      have a_8 : (((s2.v 20) + 1)).toInt = ((s2.v 20)).toInt + 1 := tn_add rfl (by decide) (by omega) (by omega)
      have hI_s6 : InvK s6 := by rw [← hs6]; exact hI_s2.sv (k := 20) (show (0 : Int) ≤ (((s2.v 20) + 1)).toInt by omega) (show (((s2.v 20) + 1)).toInt ≤ (2000 : Int) by omega)
      have hF_s6 : FrK [20] s0 s6 := by rw [← hs6]; exact hF_s2.sv (k := 20) (by decide)
      have a_9 : (s6.v 20).toInt = (((s2.v 20) + 1)).toInt := (congrArg Int32.toInt (show s6.v 20 = ((s2.v 20) + 1) by rw [← hs6]; rfl)).trans rfl
      exact hk0 _ hI_s6 hF_s6 (by omega)
theorem okL_kX9_skipBlanks_0 (s0 : KS)  : ∀ (n : Nat) (s : KS), (2000 - (s.v 20).toInt).toNat < n → InvK s → FrK [20] s0 s → Ok (kX9_skipBlanks_0L  n s) (Q_kX9_skipBlanks s0) := by
  intro n
  induction n with
  | zero => intro s hn; omega
  | succ n ih =>
    intro s hn hI_s hF_s 
    exact ok_kX9_skipBlanks_0 s0 (kX9_skipBlanks_0L  n) ((2000 - (s.v 20).toInt).toNat) (fun zs g0 g1  hm => ih zs (by omega) g0 g1 ) s hI_s hF_s (Nat.le_refl _)
set_option maxHeartbeats 1000000 in
theorem ok_kX9_skipBlanksB (s0 : KS)  (s : KS) (hI_s : InvK s) (hF_s : FrK [20] s0 s)  : Ok (kX9_skipBlanks  s) (Q_kX9_skipBlanks s0) := by
  unfold kX9_skipBlanks
  have a_1 : 0 ≤ (s.v 20).toInt ∧ (s.v 20).toInt ≤ 2000 := hI_s.1 20
  exact okL_kX9_skipBlanks_0 s0  fu _ (by unfold fu; omega) hI_s hF_s 
theorem ok_kX9_skipBlanks (s : KS) (hI_s : InvK s) : Ok (kX9_skipBlanks s) (Q_kX9_skipBlanks s) := ok_kX9_skipBlanksB s s hI_s FrK.rfl
noncomputable abbrev Q_kX9_splitLetters (s0 : KS) (y : Int32 × KS) : Prop := InvK y.2 ∧ FrK [20] s0 y.2 ∧ 256 ≤ y.1.toInt ∧ y.1.toInt ≤ 303
set_option maxHeartbeats 1000000 in
theorem ok_kX9_splitLetters_88 (s0 : KS) (k88 : KS → Int32 → Option (Int32 × KS)) (M88 : Nat) (hk88 : ∀ (s : KS) (x2 : Int32), InvK s → FrK [20] s0 s → 0 ≤ x2.toInt → x2.toInt ≤ 19 → (19 - x2.toInt).toNat < M88 → Ok (k88 s x2) (Q_kX9_splitLetters s0)) (s : KS) (x2 : Int32) (hI_s : InvK s) (hF_s : FrK [20] s0 s) (h_x2l : 0 ≤ x2.toInt) (h_x2u : x2.toInt ≤ 19) (hM88 : (19 - x2.toInt).toNat ≤ M88) : Ok (kX9_splitLetters_88 k88 s x2) (Q_kX9_splitLetters s0) := by
  unfold kX9_splitLetters_88
  refine ok_ite (fun c_1 => ?_) (fun c_1 => ?_)
  · have c_1 := tn_le (a := 19) (b := (x2).toInt) (by decide) rfl c_1
    exact ok_some ⟨hI_s, hF_s, by show 256 ≤ (300 : Int32).toInt; decide, by show (300 : Int32).toInt ≤ 303; decide⟩
  · have c_1 := tn_nle (a := 19) (b := (x2).toInt) (by decide) rfl c_1
    refine ok_grd (vpb_ok (by omega) (by omega)) ?_
    refine ok_ite (fun c_2 => ?_) (fun c_2 => ?_)
    · have c_2 := tn_eq (a := ((lg_cmp ((s.g 31) (Int32.toNatClampNeg x2)) (s.u 0))).toInt) (b := 0) rfl (by decide) c_2
      have a_3 : ((256 + x2)).toInt = 256 + (x2).toInt := tn_add (by decide) rfl (by omega) (by omega)
      exact ok_some ⟨hI_s, hF_s, by show 256 ≤ ((256 + x2)).toInt; omega, by show ((256 + x2)).toInt ≤ 303; omega⟩
    · have c_2 := tn_ne (a := ((lg_cmp ((s.g 31) (Int32.toNatClampNeg x2)) (s.u 0))).toInt) (b := 0) rfl (by decide) c_2
      have a_4 : ((x2 + 1)).toInt = (x2).toInt + 1 := tn_add rfl (by decide) (by omega) (by omega)
      exact hk88 _ _ hI_s hF_s (by omega) (by omega) (by omega)
theorem okL_kX9_splitLetters_88 (s0 : KS)  : ∀ (n : Nat) (s : KS) (x2 : Int32), (19 - x2.toInt).toNat < n → InvK s → FrK [20] s0 s → 0 ≤ x2.toInt → x2.toInt ≤ 19 → Ok (kX9_splitLetters_88L  n s x2) (Q_kX9_splitLetters s0) := by
  intro n
  induction n with
  | zero => intro s x2 hn; omega
  | succ n ih =>
    intro s x2 hn hI_s hF_s h_x2l h_x2u 
    exact ok_kX9_splitLetters_88 s0 (kX9_splitLetters_88L  n) ((19 - x2.toInt).toNat) (fun zs zx2 g0 g1 g2 g3  hm => ih zs zx2 (by omega) g0 g1 g2 g3 ) s x2 hI_s hF_s h_x2l h_x2u (Nat.le_refl _)
set_option maxHeartbeats 1000000 in
theorem ok_kX9_splitLetters_71 (s0 : KS)  (s : KS) (x1 : Int32) (hI_s : InvK s) (hF_s : FrK [20] s0 s) (h_x1l : 0 ≤ x1.toInt) (h_x1u : x1.toInt ≤ 2000)  : Ok (kX9_splitLetters_71  s x1) (Q_kX9_splitLetters s0) := by
  unfold kX9_splitLetters_71
  have a_1 : 0 ≤ (s.v 20).toInt ∧ (s.v 20).toInt ≤ 2000 := hI_s.1 20
  have a_2 : (((s.v 20) - x1)).toInt = ((s.v 20)).toInt - (x1).toInt := tn_sub rfl rfl (by omega) (by omega)
  refine ok_ite (fun c_3 => ?_) (fun c_3 => ?_)
  · have c_3 := tn_le (a := (((s.v 20) - x1)).toInt) (b := 8) rfl (by decide) c_3
    have l_0 : (0 : Int32).toInt = 0 := by decide
    exact okL_kX9_splitLetters_88 s0  fu _ _ (by unfold fu; omega) hI_s hF_s (by decide) (by decide) 
  · have c_3 := tn_nle (a := (((s.v 20) - x1)).toInt) (b := 8) rfl (by decide) c_3
    exact ok_some ⟨hI_s, hF_s, by show 256 ≤ (303 : Int32).toInt; decide, by show (303 : Int32).toInt ≤ 303; decide⟩
set_option maxHeartbeats 1000000 in
theorem ok_kX9_splitLetters_5 (s0 : KS) (k5 : KS → Int32 → Option (Int32 × KS)) (M5 : Nat) (hk5 : ∀ (s : KS) (x1 : Int32), InvK s → FrK [20] s0 s → 0 ≤ x1.toInt → x1.toInt ≤ 2000 → (2000 - (s.v 20).toInt).toNat < M5 → Ok (k5 s x1) (Q_kX9_splitLetters s0)) (s : KS) (x1 : Int32) (hI_s : InvK s) (hF_s : FrK [20] s0 s) (h_x1l : 0 ≤ x1.toInt) (h_x1u : x1.toInt ≤ 2000) (hM5 : (2000 - (s.v 20).toInt).toNat ≤ M5) : Ok (kX9_splitLetters_5 k5 s x1) (Q_kX9_splitLetters s0) := by
  unfold kX9_splitLetters_5
  have a_1 : 0 ≤ (s.v 20).toInt ∧ (s.v 20).toInt ≤ 2000 := hI_s.1 20
  have a_2 : 0 ≤ (s.v 0).toInt ∧ (s.v 0).toInt ≤ 2000 := hI_s.1 0
  refine ok_ite (fun c_3 => ?_) (fun c_3 => ?_)
  · have c_3 := tn_le (a := ((s.v 0)).toInt) (b := ((s.v 20)).toInt) rfl rfl c_3
    exact ok_kX9_splitLetters_71 s0  _ _ hI_s hF_s (by omega) (by omega) 
  · have c_3 := tn_nle (a := ((s.v 0)).toInt) (b := ((s.v 20)).toInt) rfl rfl c_3
    refine ok_bindI (ok_kX7_byteAt _ _ hI_s (by omega) (by omega)) (fun r3 s2 hc_4 => ?_)
    have hI_s2 : InvK s2 := hc_4.1
    have hFc_s2 : FrK [] s s2 := hc_4.2.1
    have hF_s2 : FrK [20] s0 s2 := hF_s.trans hFc_s2 (by decide)
    have hx0_r3 : (¬ r3.toInt = -1 → ((s.v 20)).toInt < (s.v 0).toInt) := hc_4.2.2.2.2
    refine ok_bindP (ok_kX9_isLetter _ ) (fun r4 hc_5 => ?_)
    have hl_r4 : 0 ≤ r4.toInt := hc_5.1
    have hu_r4 : r4.toInt ≤ 1 := hc_5.2
    refine ok_ite (fun c_6 => ?_) (fun c_6 => ?_)
    · have c_6 := tn_eq (a := (r4).toInt) (b := 0) rfl (by decide) c_6
      exact ok_kX9_splitLetters_71 s0  _ _ hI_s2 hF_s2 (by omega) (by omega) 
    · have c_6 := tn_ne (a := (r4).toInt) (b := 0) rfl (by decide) c_6
      have a_7 : (s2.v 20).toInt = (s.v 20).toInt := congrArg Int32.toInt (hFc_s2.1 20 (by decide))
      refine ok_bindI (ok_kX7_byteAt _ _ hI_s2 (by omega) (by omega)) (fun r7 s6 hc_8 => ?_)
      have hI_s6 : InvK s6 := hc_8.1
      have hFc_s6 : FrK [] s2 s6 := hc_8.2.1
      have hF_s6 : FrK [20] s0 s6 := hF_s2.trans hFc_s6 (by decide)
      have a_9 : (s2.v 0).toInt = (s.v 0).toInt := congrArg Int32.toInt (hFc_s2.1 0 (by decide))
      have hx0_r7 : (¬ r7.toInt = -1 → ((s2.v 20)).toInt < (s2.v 0).toInt) := hc_8.2.2.2.2
      refine ok_bindP (ok_kX9_withLetter _ _ ) (fun r8 hc_10 => ?_)
      refine ok_let (fun s9 hs9 => ?_)
      have hI_s9 : InvK s9 := by rw [← hs9]; exact hI_s6.su
      have hF_s9 : FrK [20] s0 s9 := by rw [← hs9]; exact hF_s6.su
      refine ok_let (fun s11 hs11 => ?_)
      have a_11 : (s6.v 20).toInt = (s2.v 20).toInt := congrArg Int32.toInt (hFc_s6.1 20 (by decide))
      have a_12 : (s9.v 20).toInt = (s6.v 20).toInt := congrArg Int32.toInt (show s9.v 20 = s6.v 20 by rw [← hs9]; rfl)
      have a_13 : (((s9.v 20) + 1)).toInt = ((s9.v 20)).toInt + 1 := tn_add rfl (by decide) (by omega) (by omega)
      have hI_s11 : InvK s11 := by rw [← hs11]; exact hI_s9.sv (k := 20) (show (0 : Int) ≤ (((s9.v 20) + 1)).toInt by omega) (show (((s9.v 20) + 1)).toInt ≤ (2000 : Int) by omega)
      have hF_s11 : FrK [20] s0 s11 := by rw [← hs11]; exact hF_s9.sv (k := 20) (by decide)
      have a_14 : (s11.v 20).toInt = (((s9.v 20) + 1)).toInt := (congrArg Int32.toInt (show s11.v 20 = ((s9.v 20) + 1) by rw [← hs11]; rfl)).trans rfl
      exact hk5 _ _ hI_s11 hF_s11 (by omega) (by omega) (by omega)
theorem okL_kX9_splitLetters_5 (s0 : KS)  : ∀ (n : Nat) (s : KS) (x1 : Int32), (2000 - (s.v 20).toInt).toNat < n → InvK s → FrK [20] s0 s → 0 ≤ x1.toInt → x1.toInt ≤ 2000 → Ok (kX9_splitLetters_5L  n s x1) (Q_kX9_splitLetters s0) := by
  intro n
  induction n with
  | zero => intro s x1 hn; omega
  | succ n ih =>
    intro s x1 hn hI_s hF_s h_x1l h_x1u 
    exact ok_kX9_splitLetters_5 s0 (kX9_splitLetters_5L  n) ((2000 - (s.v 20).toInt).toNat) (fun zs zx1 g0 g1 g2 g3  hm => ih zs zx1 (by omega) g0 g1 g2 g3 ) s x1 hI_s hF_s h_x1l h_x1u (Nat.le_refl _)
set_option maxHeartbeats 1000000 in
theorem ok_kX9_splitLettersB (s0 : KS)  (s : KS) (hI_s : InvK s) (hF_s : FrK [20] s0 s)  : Ok (kX9_splitLetters  s) (Q_kX9_splitLetters s0) := by
  unfold kX9_splitLetters
  have a_1 : 0 ≤ (s.v 20).toInt ∧ (s.v 20).toInt ≤ 2000 := hI_s.1 20
  exact okL_kX9_splitLetters_5 s0  fu _ _ (by unfold fu; omega) hI_s hF_s (by omega) (by omega) 
theorem ok_kX9_splitLetters (s : KS) (hI_s : InvK s) : Ok (kX9_splitLetters s) (Q_kX9_splitLetters s) := ok_kX9_splitLettersB s s hI_s FrK.rfl
noncomputable abbrev Q_kX9_splitDigits (s0 : KS) (y : Int32 × KS) : Prop := InvK y.2 ∧ FrK [20] s0 y.2 ∧ 301 ≤ y.1.toInt ∧ y.1.toInt ≤ 303
set_option maxHeartbeats 1000000 in
theorem ok_kX9_splitDigits_78 (s0 : KS)  (s : KS) (x1 : Int32) (hI_s : InvK s) (hF_s : FrK [20] s0 s) (h_x1l : 0 ≤ x1.toInt) (h_x1u : x1.toInt ≤ 2000)  : Ok (kX9_splitDigits_78  s x1) (Q_kX9_splitDigits s0) := by
  unfold kX9_splitDigits_78
  have a_1 : 0 ≤ (s.v 20).toInt ∧ (s.v 20).toInt ≤ 2000 := hI_s.1 20
  have a_2 : (((s.v 20) - x1)).toInt = ((s.v 20)).toInt - (x1).toInt := tn_sub rfl rfl (by omega) (by omega)
  refine ok_ite (fun c_3 => ?_) (fun c_3 => ?_)
  · have c_3 := tn_le (a := (((s.v 20) - x1)).toInt) (b := 4) rfl (by decide) c_3
    exact ok_some ⟨hI_s, hF_s, by show 301 ≤ (301 : Int32).toInt; decide, by show (301 : Int32).toInt ≤ 303; decide⟩
  · have c_3 := tn_nle (a := (((s.v 20) - x1)).toInt) (b := 4) rfl (by decide) c_3
    exact ok_some ⟨hI_s, hF_s, by show 301 ≤ (303 : Int32).toInt; decide, by show (303 : Int32).toInt ≤ 303; decide⟩
set_option maxHeartbeats 1000000 in
theorem ok_kX9_splitDigits_5 (s0 : KS) (k5 : KS → Int32 → Option (Int32 × KS)) (M5 : Nat) (hk5 : ∀ (s : KS) (x1 : Int32), InvK s → FrK [20] s0 s → 0 ≤ x1.toInt → x1.toInt ≤ 2000 → (2000 - (s.v 20).toInt).toNat < M5 → Ok (k5 s x1) (Q_kX9_splitDigits s0)) (s : KS) (x1 : Int32) (hI_s : InvK s) (hF_s : FrK [20] s0 s) (h_x1l : 0 ≤ x1.toInt) (h_x1u : x1.toInt ≤ 2000) (hM5 : (2000 - (s.v 20).toInt).toNat ≤ M5) : Ok (kX9_splitDigits_5 k5 s x1) (Q_kX9_splitDigits s0) := by
  unfold kX9_splitDigits_5
  have a_1 : 0 ≤ (s.v 20).toInt ∧ (s.v 20).toInt ≤ 2000 := hI_s.1 20
  have a_2 : 0 ≤ (s.v 0).toInt ∧ (s.v 0).toInt ≤ 2000 := hI_s.1 0
  refine ok_ite (fun c_3 => ?_) (fun c_3 => ?_)
  · have c_3 := tn_le (a := ((s.v 0)).toInt) (b := ((s.v 20)).toInt) rfl rfl c_3
    exact ok_kX9_splitDigits_78 s0  _ _ hI_s hF_s (by omega) (by omega) 
  · have c_3 := tn_nle (a := ((s.v 0)).toInt) (b := ((s.v 20)).toInt) rfl rfl c_3
    refine ok_bindI (ok_kX7_byteAt _ _ hI_s (by omega) (by omega)) (fun r3 s2 hc_4 => ?_)
    have hI_s2 : InvK s2 := hc_4.1
    have hFc_s2 : FrK [] s s2 := hc_4.2.1
    have hF_s2 : FrK [20] s0 s2 := hF_s.trans hFc_s2 (by decide)
    have hx0_r3 : (¬ r3.toInt = -1 → ((s.v 20)).toInt < (s.v 0).toInt) := hc_4.2.2.2.2
    refine ok_bindP (ok_kX9_isDigit _ ) (fun r4 hc_5 => ?_)
    have hl_r4 : 0 ≤ r4.toInt := hc_5.1
    have hu_r4 : r4.toInt ≤ 1 := hc_5.2
    refine ok_ite (fun c_6 => ?_) (fun c_6 => ?_)
    · have c_6 := tn_eq (a := (r4).toInt) (b := 0) rfl (by decide) c_6
      exact ok_kX9_splitDigits_78 s0  _ _ hI_s2 hF_s2 (by omega) (by omega) 
    · have c_6 := tn_ne (a := (r4).toInt) (b := 0) rfl (by decide) c_6
      have a_7 : (s2.v 20).toInt = (s.v 20).toInt := congrArg Int32.toInt (hFc_s2.1 20 (by decide))
      refine ok_bindI (ok_kX7_byteAt _ _ hI_s2 (by omega) (by omega)) (fun r7 s6 hc_8 => ?_)
      have hI_s6 : InvK s6 := hc_8.1
      have hFc_s6 : FrK [] s2 s6 := hc_8.2.1
      have hF_s6 : FrK [20] s0 s6 := hF_s2.trans hFc_s6 (by decide)
      have a_9 : (s2.v 0).toInt = (s.v 0).toInt := congrArg Int32.toInt (hFc_s2.1 0 (by decide))
      have hx0_r7 : (¬ r7.toInt = -1 → ((s2.v 20)).toInt < (s2.v 0).toInt) := hc_8.2.2.2.2
      refine ok_let (fun s8 hs8 => ?_)
      have hI_s8 : InvK s8 := by rw [← hs8]; exact hI_s6.su
      have hF_s8 : FrK [20] s0 s8 := by rw [← hs8]; exact hF_s6.su
      refine ok_let (fun s10 hs10 => ?_)
      have a_10 : (s6.v 20).toInt = (s2.v 20).toInt := congrArg Int32.toInt (hFc_s6.1 20 (by decide))
      have a_11 : (s8.v 20).toInt = (s6.v 20).toInt := congrArg Int32.toInt (show s8.v 20 = s6.v 20 by rw [← hs8]; rfl)
      have a_12 : (((s8.v 20) + 1)).toInt = ((s8.v 20)).toInt + 1 := tn_add rfl (by decide) (by omega) (by omega)
      have hI_s10 : InvK s10 := by rw [← hs10]; exact hI_s8.sv (k := 20) (show (0 : Int) ≤ (((s8.v 20) + 1)).toInt by omega) (show (((s8.v 20) + 1)).toInt ≤ (2000 : Int) by omega)
      have hF_s10 : FrK [20] s0 s10 := by rw [← hs10]; exact hF_s8.sv (k := 20) (by decide)
      have a_13 : (s10.v 20).toInt = (((s8.v 20) + 1)).toInt := (congrArg Int32.toInt (show s10.v 20 = ((s8.v 20) + 1) by rw [← hs10]; rfl)).trans rfl
      exact hk5 _ _ hI_s10 hF_s10 (by omega) (by omega) (by omega)
theorem okL_kX9_splitDigits_5 (s0 : KS)  : ∀ (n : Nat) (s : KS) (x1 : Int32), (2000 - (s.v 20).toInt).toNat < n → InvK s → FrK [20] s0 s → 0 ≤ x1.toInt → x1.toInt ≤ 2000 → Ok (kX9_splitDigits_5L  n s x1) (Q_kX9_splitDigits s0) := by
  intro n
  induction n with
  | zero => intro s x1 hn; omega
  | succ n ih =>
    intro s x1 hn hI_s hF_s h_x1l h_x1u 
    exact ok_kX9_splitDigits_5 s0 (kX9_splitDigits_5L  n) ((2000 - (s.v 20).toInt).toNat) (fun zs zx1 g0 g1 g2 g3  hm => ih zs zx1 (by omega) g0 g1 g2 g3 ) s x1 hI_s hF_s h_x1l h_x1u (Nat.le_refl _)
set_option maxHeartbeats 1000000 in
theorem ok_kX9_splitDigitsB (s0 : KS)  (s : KS) (hI_s : InvK s) (hF_s : FrK [20] s0 s)  : Ok (kX9_splitDigits  s) (Q_kX9_splitDigits s0) := by
  unfold kX9_splitDigits
  have a_1 : 0 ≤ (s.v 20).toInt ∧ (s.v 20).toInt ≤ 2000 := hI_s.1 20
  exact okL_kX9_splitDigits_5 s0  fu _ _ (by unfold fu; omega) hI_s hF_s (by omega) (by omega) 
theorem ok_kX9_splitDigits (s : KS) (hI_s : InvK s) : Ok (kX9_splitDigits s) (Q_kX9_splitDigits s) := ok_kX9_splitDigitsB s s hI_s FrK.rfl
noncomputable abbrev Q_kX10_feed (s0 : XS) (y : Int32 × XS) : Prop := InvK y.2.k ∧ FrK [0, 101] s0.k y.2.k ∧ InvG y.2.g ∧ -1 ≤ y.1.toInt ∧ y.1.toInt ≤ 2000
set_option maxHeartbeats 1000000 in
theorem ok_kX10_feedB (s0 : XS)  (s : XS) (x1 : Int32) (x2 : Int32) (x3 : Int32) (x4 : Int32) (x5 : Int32) (hI_s_k : InvK s.k) (hF_s_k : FrK [0, 101] s0.k s.k) (hI_s_g : InvG s.g)  : Ok (kX10_feed  s x1 x2 x3 x4 x5) (Q_kX10_feed s0) := by
  unfold kX10_feed
  refine ok_bindI (ok_kX7_hasRoomFor _ _ hI_s_k (by decide) (by decide)) (fun r2 s1 hc_1 => ?_)
  have hI_s1 : InvK s1 := hc_1.1
  have hFc_s1 : FrK [] s.k s1 := hc_1.2.1
  have hF_s1 : FrK [0, 101] s0.k s1 := hF_s_k.trans hFc_s1 (by decide)
  have hl_r2 : 0 ≤ r2.toInt := hc_1.2.2.1
  have hu_r2 : r2.toInt ≤ 1 := hc_1.2.2.2
  refine ok_let (fun s3 hs3 => ?_)
  have hI_s3_g : InvG s3.g := by rw [← hs3]; exact hI_s_g
  have hI_s3_k : InvK s3.k := by rw [← hs3]; exact hI_s1
  have hF_s3_k : FrK [0, 101] s0.k s3.k := by rw [← hs3]; exact hF_s1
  refine ok_ite (fun c_2 => ?_) (fun c_2 => ?_)
  · have c_2 := tn_eq (a := (r2).toInt) (b := 0) rfl (by decide) c_2
    exact ok_some ⟨hI_s3_k, hF_s3_k, hI_s3_g, by show -1 ≤ ((-1) : Int32).toInt; decide, by show ((-1) : Int32).toInt ≤ 2000; decide⟩
  · have c_2 := tn_ne (a := (r2).toInt) (b := 0) rfl (by decide) c_2
    refine ok_bindP (ok_kX7_addFour _ _ hI_s3_k) (fun s6 hc_3 => ?_)
    have hI_s6 : InvK s6 := hc_3.1
    have hFc_s6 : FrK [0, 101] s3.k s6 := hc_3.2
    have hF_s6 : FrK [0, 101] s0.k s6 := hF_s3_k.trans hFc_s6 (by decide)
    refine ok_let (fun s7 hs7 => ?_)
    have hI_s7_g : InvG s7.g := by rw [← hs7]; exact hI_s3_g
    have hI_s7_k : InvK s7.k := by rw [← hs7]; exact hI_s6
    have hF_s7_k : FrK [0, 101] s0.k s7.k := by rw [← hs7]; exact hF_s6
    refine ok_bindP (ok_kX7_addFour _ _ hI_s7_k) (fun s9 hc_4 => ?_)
    have hI_s9 : InvK s9 := hc_4.1
    have hFc_s9 : FrK [0, 101] s7.k s9 := hc_4.2
    have hF_s9 : FrK [0, 101] s0.k s9 := hF_s7_k.trans hFc_s9 (by decide)
    refine ok_let (fun s10 hs10 => ?_)
    have hI_s10_g : InvG s10.g := by rw [← hs10]; exact hI_s7_g
    have hI_s10_k : InvK s10.k := by rw [← hs10]; exact hI_s9
    have hF_s10_k : FrK [0, 101] s0.k s10.k := by rw [← hs10]; exact hF_s9
    refine ok_bindP (ok_kX7_addFour _ _ hI_s10_k) (fun s12 hc_5 => ?_)
    have hI_s12 : InvK s12 := hc_5.1
    have hFc_s12 : FrK [0, 101] s10.k s12 := hc_5.2
    have hF_s12 : FrK [0, 101] s0.k s12 := hF_s10_k.trans hFc_s12 (by decide)
    refine ok_let (fun s13 hs13 => ?_)
    have hI_s13_g : InvG s13.g := by rw [← hs13]; exact hI_s10_g
    have hI_s13_k : InvK s13.k := by rw [← hs13]; exact hI_s12
    have hF_s13_k : FrK [0, 101] s0.k s13.k := by rw [← hs13]; exact hF_s12
    refine ok_bindP (ok_kX7_addFour _ _ hI_s13_k) (fun s15 hc_6 => ?_)
    have hI_s15 : InvK s15 := hc_6.1
    have hFc_s15 : FrK [0, 101] s13.k s15 := hc_6.2
    have hF_s15 : FrK [0, 101] s0.k s15 := hF_s13_k.trans hFc_s15 (by decide)
    refine ok_let (fun s16 hs16 => ?_)
    have hI_s16_g : InvG s16.g := by rw [← hs16]; exact hI_s13_g
    have hI_s16_k : InvK s16.k := by rw [← hs16]; exact hI_s15
    have hF_s16_k : FrK [0, 101] s0.k s16.k := by rw [← hs16]; exact hF_s15
    refine ok_bindP (ok_kX7_addFour _ _ hI_s16_k) (fun s18 hc_7 => ?_)
    have hI_s18 : InvK s18 := hc_7.1
    have hFc_s18 : FrK [0, 101] s16.k s18 := hc_7.2
    have hF_s18 : FrK [0, 101] s0.k s18 := hF_s16_k.trans hFc_s18 (by decide)
    refine ok_let (fun s19 hs19 => ?_)
    have hI_s19_g : InvG s19.g := by rw [← hs19]; exact hI_s16_g
    have hI_s19_k : InvK s19.k := by rw [← hs19]; exact hI_s18
    have hF_s19_k : FrK [0, 101] s0.k s19.k := by rw [← hs19]; exact hF_s18
    have a_8 : 0 ≤ (s18.v 0).toInt ∧ (s18.v 0).toInt ≤ 2000 := hI_s18.1 0
    have a_9 : (s19.k.v 0).toInt = (s18.v 0).toInt := congrArg Int32.toInt (show s19.k.v 0 = s18.v 0 by rw [← hs19]; rfl)
    exact ok_some ⟨hI_s19_k, hF_s19_k, hI_s19_g, by show -1 ≤ ((s19.k.v 0)).toInt; omega, by show ((s19.k.v 0)).toInt ≤ 2000; omega⟩
theorem ok_kX10_feed (s : XS) (x1 : Int32) (x2 : Int32) (x3 : Int32) (x4 : Int32) (x5 : Int32) (hI_s_k : InvK s.k) (hI_s_g : InvG s.g) : Ok (kX10_feed s x1 x2 x3 x4 x5) (Q_kX10_feed s) := ok_kX10_feedB s s x1 x2 x3 x4 x5 hI_s_k FrK.rfl hI_s_g
noncomputable abbrev Q_kX10_back (s0 : XS) (y : Int32 × XS) : Prop := InvK y.2.k ∧ FrK [0] s0.k y.2.k ∧ InvG y.2.g ∧ -1 ≤ y.1.toInt ∧ y.1.toInt ≤ 2000
set_option maxHeartbeats 1000000 in
theorem ok_kX10_backB (s0 : XS)  (s : XS) (x1 : Int32) (hI_s_k : InvK s.k) (hF_s_k : FrK [0] s0.k s.k) (hI_s_g : InvG s.g)  : Ok (kX10_back  s x1) (Q_kX10_back s0) := by
  unfold kX10_back
  refine ok_ite (fun c_1 => ?_) (fun c_1 => ?_)
  · have c_1 := tn_lt (a := (x1).toInt) (b := 0) rfl (by decide) c_1
    exact ok_some ⟨hI_s_k, hF_s_k, hI_s_g, by show -1 ≤ ((-1) : Int32).toInt; decide, by show ((-1) : Int32).toInt ≤ 2000; decide⟩
  · have c_1 := tn_nlt (a := (x1).toInt) (b := 0) rfl (by decide) c_1
    have a_2 : 0 ≤ (s.k.v 0).toInt ∧ (s.k.v 0).toInt ≤ 2000 := hI_s_k.1 0
    refine ok_ite (fun c_3 => ?_) (fun c_3 => ?_)
    · have c_3 := tn_le (a := (x1).toInt) (b := ((s.k.v 0)).toInt) rfl rfl c_3
      refine ok_let (fun s3 hs3 => ?_)
      have a_4 : (((s.k.v 0) - x1)).toInt = ((s.k.v 0)).toInt - (x1).toInt := tn_sub rfl rfl (by omega) (by omega)
      have hI_s3_k : InvK s3.k := by rw [← hs3]; exact hI_s_k.sv (k := 0) (show (0 : Int) ≤ (((s.k.v 0) - x1)).toInt by omega) (show (((s.k.v 0) - x1)).toInt ≤ (2000 : Int) by omega)
      have hF_s3_k : FrK [0] s0.k s3.k := by rw [← hs3]; exact hF_s_k.sv (k := 0) (by decide)
      have hI_s3_g : InvG s3.g := by rw [← hs3]; exact hI_s_g
      have a_5 : (s3.k.v 0).toInt = (((s.k.v 0) - x1)).toInt := (congrArg Int32.toInt (show s3.k.v 0 = ((s.k.v 0) - x1) by rw [← hs3]; rfl)).trans rfl
      exact ok_some ⟨hI_s3_k, hF_s3_k, hI_s3_g, by show -1 ≤ ((s3.k.v 0)).toInt; omega, by show ((s3.k.v 0)).toInt ≤ 2000; omega⟩
    · have c_3 := tn_nle (a := (x1).toInt) (b := ((s.k.v 0)).toInt) rfl rfl c_3
      exact ok_some ⟨hI_s_k, hF_s_k, hI_s_g, by show -1 ≤ ((-1) : Int32).toInt; decide, by show ((-1) : Int32).toInt ≤ 2000; decide⟩
theorem ok_kX10_back (s : XS) (x1 : Int32) (hI_s_k : InvK s.k) (hI_s_g : InvG s.g) : Ok (kX10_back s x1) (Q_kX10_back s) := ok_kX10_backB s s x1 hI_s_k FrK.rfl hI_s_g
noncomputable abbrev Q_kX10_place (s0 : XS) (y : Int32 × XS) : Prop := InvK y.2.k ∧ FrK [] s0.k y.2.k ∧ InvG y.2.g ∧ -2147483648 ≤ y.1.toInt ∧ y.1.toInt ≤ 2147483647
set_option maxHeartbeats 1000000 in
theorem ok_kX10_placeB (s0 : XS)  (s : XS) (hI_s_k : InvK s.k) (hF_s_k : FrK [] s0.k s.k) (hI_s_g : InvG s.g)  : Ok (kX10_place  s) (Q_kX10_place s0) := by
  unfold kX10_place
  exact ok_some ⟨hI_s_k, hF_s_k, hI_s_g, (ti_rng _).1, (ti_rng _).2⟩
theorem ok_kX10_place (s : XS) (hI_s_k : InvK s.k) (hI_s_g : InvG s.g) : Ok (kX10_place s) (Q_kX10_place s) := ok_kX10_placeB s s hI_s_k FrK.rfl hI_s_g
noncomputable abbrev Q_kX10_tell (s0 : XS) (y : Int32 × XS) : Prop := InvK y.2.k ∧ FrK [21, 142, 143] s0.k y.2.k ∧ InvG y.2.g ∧ -1 ≤ y.1.toInt ∧ y.1.toInt ≤ 19
set_option maxHeartbeats 1000000 in
theorem ok_kX10_tell_43 (s0 : XS)  (s : XS) (t0 : Int32) (t1 : Int32) (hI_s_k : InvK s.k) (hF_s_k : FrK [21, 142, 143] s0.k s.k) (hI_s_g : InvG s.g) (h_t1l : 0 ≤ t1.toInt) (h_t1u : t1.toInt ≤ 4)  : Ok (kX10_tell_43  s t0 t1) (Q_kX10_tell s0) := by
  unfold kX10_tell_43
  refine ok_bindI (ok_kX8_add _ _ _ hI_s_k (by omega) (by omega)) (fun r2 s1 hc_1 => ?_)
  have hI_s1 : InvK s1 := hc_1.1
  have hFc_s1 : FrK [21, 142, 143] s.k s1 := hc_1.2.1
  have hF_s1 : FrK [21, 142, 143] s0.k s1 := hF_s_k.trans hFc_s1 (by decide)
  have hl_r2 : -1 ≤ r2.toInt := hc_1.2.2.1
  have hu_r2 : r2.toInt ≤ 19 := hc_1.2.2.2
  refine ok_let (fun s3 hs3 => ?_)
  have hI_s3_g : InvG s3.g := by rw [← hs3]; exact hI_s_g
  have hI_s3_k : InvK s3.k := by rw [← hs3]; exact hI_s1
  have hF_s3_k : FrK [21, 142, 143] s0.k s3.k := by rw [← hs3]; exact hF_s1
  exact ok_some ⟨hI_s3_k, hF_s3_k, hI_s3_g, by show -1 ≤ (r2).toInt; omega, by show (r2).toInt ≤ 19; omega⟩
set_option maxHeartbeats 1000000 in
theorem ok_kX10_tellB (s0 : XS)  (s : XS) (x1 : Int32) (x2 : Int32) (x3 : Int32) (hI_s_k : InvK s.k) (hF_s_k : FrK [21, 142, 143] s0.k s.k) (hI_s_g : InvG s.g)  : Ok (kX10_tell  s x1 x2 x3) (Q_kX10_tell s0) := by
  unfold kX10_tell
  refine ok_bindI (ok_kX5_hasWave _ _ hI_s_k) (fun r2 s1 hc_1 => ?_)
  have hI_s1 : InvK s1 := hc_1.1
  have hFc_s1 : FrK [] s.k s1 := hc_1.2.1
  have hF_s1 : FrK [21, 142, 143] s0.k s1 := hF_s_k.trans hFc_s1 (by decide)
  have hl_r2 : 0 ≤ r2.toInt := hc_1.2.2.1
  have hu_r2 : r2.toInt ≤ 1 := hc_1.2.2.2.1
  have hx0_r2 : (¬ r2.toInt = 0 → 0 ≤ (x1).toInt ∧ (x1).toInt ≤ 4) := hc_1.2.2.2.2
  refine ok_let (fun s3 hs3 => ?_)
  have hI_s3_g : InvG s3.g := by rw [← hs3]; exact hI_s_g
  have hI_s3_k : InvK s3.k := by rw [← hs3]; exact hI_s1
  have hF_s3_k : FrK [21, 142, 143] s0.k s3.k := by rw [← hs3]; exact hF_s1
  refine ok_ite (fun c_2 => ?_) (fun c_2 => ?_)
  · have c_2 := tn_eq (a := (r2).toInt) (b := 0) rfl (by decide) c_2
    exact ok_some ⟨hI_s3_k, hF_s3_k, hI_s3_g, by show -1 ≤ ((-1) : Int32).toInt; decide, by show ((-1) : Int32).toInt ≤ 19; decide⟩
  · have c_2 := tn_ne (a := (r2).toInt) (b := 0) rfl (by decide) c_2
    refine ok_ite (fun c_3 => ?_) (fun c_3 => ?_)
    · have c_3 := tn_lt (a := (x2).toInt) (b := 1) rfl (by decide) c_3
      exact ok_some ⟨hI_s3_k, hF_s3_k, hI_s3_g, by show -1 ≤ ((-1) : Int32).toInt; decide, by show ((-1) : Int32).toInt ≤ 19; decide⟩
    · have c_3 := tn_nlt (a := (x2).toInt) (b := 1) rfl (by decide) c_3
      refine ok_ite (fun c_4 => ?_) (fun c_4 => ?_)
      · have c_4 := tn_le (a := (x2).toInt) (b := 63) rfl (by decide) c_4
        refine ok_ite (fun c_5 => ?_) (fun c_5 => ?_)
        · have c_5 := tn_eq (a := (x3).toInt) (b := 0) rfl (by decide) c_5
          exact ok_kX10_tell_43 s0  _ _ _ hI_s3_k hF_s3_k hI_s3_g (by omega) (by omega) 
        · have c_5 := tn_ne (a := (x3).toInt) (b := 0) rfl (by decide) c_5
          exact ok_kX10_tell_43 s0  _ _ _ hI_s3_k hF_s3_k hI_s3_g (by omega) (by omega) 
      · have c_4 := tn_nle (a := (x2).toInt) (b := 63) rfl (by decide) c_4
        exact ok_some ⟨hI_s3_k, hF_s3_k, hI_s3_g, by show -1 ≤ ((-1) : Int32).toInt; decide, by show ((-1) : Int32).toInt ≤ 19; decide⟩
theorem ok_kX10_tell (s : XS) (x1 : Int32) (x2 : Int32) (x3 : Int32) (hI_s_k : InvK s.k) (hI_s_g : InvG s.g) : Ok (kX10_tell s x1 x2 x3) (Q_kX10_tell s) := ok_kX10_tellB s s x1 x2 x3 hI_s_k FrK.rfl hI_s_g
noncomputable abbrev Q_kX10_forget (s0 : XS) (y : Int32 × XS) : Prop := InvK y.2.k ∧ FrK [21] s0.k y.2.k ∧ InvG y.2.g ∧ 0 ≤ y.1.toInt ∧ y.1.toInt ≤ 20
set_option maxHeartbeats 1000000 in
theorem ok_kX10_forgetB (s0 : XS)  (s : XS) (hI_s_k : InvK s.k) (hF_s_k : FrK [21] s0.k s.k) (hI_s_g : InvG s.g)  : Ok (kX10_forget  s) (Q_kX10_forget s0) := by
  unfold kX10_forget
  refine ok_let (fun s1 hs1 => ?_)
  have hI_s1_k : InvK s1.k := by rw [← hs1]; exact hI_s_k.sv (k := 21) (show (0 : Int) ≤ (0 : Int32).toInt by decide) (show (0 : Int32).toInt ≤ (20 : Int) by decide)
  have hF_s1_k : FrK [21] s0.k s1.k := by rw [← hs1]; exact hF_s_k.sv (k := 21) (by decide)
  have hI_s1_g : InvG s1.g := by rw [← hs1]; exact hI_s_g
  have a_1 : 0 ≤ (s.k.v 21).toInt ∧ (s.k.v 21).toInt ≤ 20 := hI_s_k.1 21
  exact ok_some ⟨hI_s1_k, hF_s1_k, hI_s1_g, by show 0 ≤ ((s.k.v 21)).toInt; omega, by show ((s.k.v 21)).toInt ≤ 20; omega⟩
theorem ok_kX10_forget (s : XS) (hI_s_k : InvK s.k) (hI_s_g : InvG s.g) : Ok (kX10_forget s) (Q_kX10_forget s) := ok_kX10_forgetB s s hI_s_k FrK.rfl hI_s_g
noncomputable abbrev Q_kX10_isHere (s0 : XS) (x1 : Int32) (y : Int32 × XS) : Prop := InvK y.2.k ∧ FrK [] s0.k y.2.k ∧ InvG y.2.g ∧ 0 ≤ y.1.toInt ∧ y.1.toInt ≤ 1 ∧ (¬ y.1.toInt = 0 → 0 ≤ (x1).toInt ∧ (x1).toInt ≤ 5)
set_option maxHeartbeats 1000000 in
theorem ok_kX10_isHereB (s0 : XS)  (s : XS) (x1 : Int32) (hI_s_k : InvK s.k) (hF_s_k : FrK [] s0.k s.k) (hI_s_g : InvG s.g)  : Ok (kX10_isHere  s x1) (Q_kX10_isHere s0 x1) := by
  unfold kX10_isHere
  refine ok_bindI (ok_kX5_hasParty _ _ hI_s_k) (fun r2 s1 hc_1 => ?_)
  have hI_s1 : InvK s1 := hc_1.1
  have hFc_s1 : FrK [] s.k s1 := hc_1.2.1
  have hF_s1 : FrK [] s0.k s1 := hF_s_k.trans hFc_s1 (by decide)
  have hl_r2 : 0 ≤ r2.toInt := hc_1.2.2.1
  have hu_r2 : r2.toInt ≤ 1 := hc_1.2.2.2.1
  have hx0_r2 : (¬ r2.toInt = 0 → 0 ≤ (x1).toInt ∧ (x1).toInt ≤ 5) := hc_1.2.2.2.2
  refine ok_let (fun s3 hs3 => ?_)
  have hI_s3_g : InvG s3.g := by rw [← hs3]; exact hI_s_g
  have hI_s3_k : InvK s3.k := by rw [← hs3]; exact hI_s1
  have hF_s3_k : FrK [] s0.k s3.k := by rw [← hs3]; exact hF_s1
  refine ok_ite (fun c_2 => ?_) (fun c_2 => ?_)
  · have c_2 := tn_eq (a := (r2).toInt) (b := 0) rfl (by decide) c_2
    exact ok_some ⟨hI_s3_k, hF_s3_k, hI_s3_g, by show 0 ≤ (0 : Int32).toInt; decide, by show (0 : Int32).toInt ≤ 1; decide, by show (¬ (0 : Int32).toInt = 0 → 0 ≤ (x1).toInt ∧ (x1).toInt ≤ 5); have l := (by decide : (0 : Int32).toInt = 0); omega⟩
  · have c_2 := tn_ne (a := (r2).toInt) (b := 0) rfl (by decide) c_2
    refine ok_grd (vpb_ok (by omega) (by omega)) ?_
    refine ok_ite (fun c_3 => ?_) (fun c_3 => ?_)
    · have c_3 := tn_eq (a := (((s3.n.f 3) (Int32.toNatClampNeg x1))).toInt) (b := 0) rfl (by decide) c_3
      exact ok_some ⟨hI_s3_k, hF_s3_k, hI_s3_g, by show 0 ≤ (1 : Int32).toInt; decide, by show (1 : Int32).toInt ≤ 1; decide, by show (¬ (1 : Int32).toInt = 0 → 0 ≤ (x1).toInt ∧ (x1).toInt ≤ 5); have l := (by decide : (1 : Int32).toInt = 1); omega⟩
    · have c_3 := tn_ne (a := (((s3.n.f 3) (Int32.toNatClampNeg x1))).toInt) (b := 0) rfl (by decide) c_3
      exact ok_some ⟨hI_s3_k, hF_s3_k, hI_s3_g, by show 0 ≤ (0 : Int32).toInt; decide, by show (0 : Int32).toInt ≤ 1; decide, by show (¬ (0 : Int32).toInt = 0 → 0 ≤ (x1).toInt ∧ (x1).toInt ≤ 5); have l := (by decide : (0 : Int32).toInt = 0); omega⟩
theorem ok_kX10_isHere (s : XS) (x1 : Int32) (hI_s_k : InvK s.k) (hI_s_g : InvG s.g) : Ok (kX10_isHere s x1) (Q_kX10_isHere s x1) := ok_kX10_isHereB s s x1 hI_s_k FrK.rfl hI_s_g
noncomputable abbrev Q_kX10_partiesThatAre (s0 : XS) (y : Int32 × XS) : Prop := InvK y.2.k ∧ FrK [] s0.k y.2.k ∧ InvG y.2.g ∧ -2147483648 ≤ y.1.toInt ∧ y.1.toInt ≤ 2147483647
set_option maxHeartbeats 1000000 in
theorem ok_kX10_partiesThatAre_35 (s0 : XS) (k5 : XS → Int32 → Int32 → Int32 → Option (Int32 × XS)) (M5 : Nat) (hk5 : ∀ (s : XS) (x2 : Int32) (x3 : Int32) (x4 : Int32), InvK s.k → FrK [] s0.k s.k → InvG s.g → 0 ≤ x2.toInt → x2.toInt ≤ 2 → 0 ≤ x4.toInt → x4.toInt ≤ 6 → (6 - x4.toInt).toNat < M5 → Ok (k5 s x2 x3 x4) (Q_kX10_partiesThatAre s0)) (s : XS) (x2 : Int32) (x3 : Int32) (x4 : Int32) (hI_s_k : InvK s.k) (hF_s_k : FrK [] s0.k s.k) (hI_s_g : InvG s.g) (h_x2l : 0 ≤ x2.toInt) (h_x2u : x2.toInt ≤ 2) (h_x4l : 0 ≤ x4.toInt) (h_x4u : x4.toInt ≤ 5) (hM5 : (6 - x4.toInt).toNat ≤ M5) : Ok (kX10_partiesThatAre_35 k5 s x2 x3 x4) (Q_kX10_partiesThatAre s0) := by
  unfold kX10_partiesThatAre_35
  have a_1 : ((x4 + 1)).toInt = (x4).toInt + 1 := tn_add rfl (by decide) (by omega) (by omega)
  exact hk5 _ _ _ _ hI_s_k hF_s_k hI_s_g (by omega) (by omega) (by omega) (by omega) (by omega)
set_option maxHeartbeats 1000000 in
theorem ok_kX10_partiesThatAre_5 (s0 : XS) (k5 : XS → Int32 → Int32 → Int32 → Option (Int32 × XS)) (M5 : Nat) (hk5 : ∀ (s : XS) (x2 : Int32) (x3 : Int32) (x4 : Int32), InvK s.k → FrK [] s0.k s.k → InvG s.g → 0 ≤ x2.toInt → x2.toInt ≤ 2 → 0 ≤ x4.toInt → x4.toInt ≤ 6 → (6 - x4.toInt).toNat < M5 → Ok (k5 s x2 x3 x4) (Q_kX10_partiesThatAre s0)) (s : XS) (x2 : Int32) (x3 : Int32) (x4 : Int32) (hI_s_k : InvK s.k) (hF_s_k : FrK [] s0.k s.k) (hI_s_g : InvG s.g) (h_x2l : 0 ≤ x2.toInt) (h_x2u : x2.toInt ≤ 2) (h_x4l : 0 ≤ x4.toInt) (h_x4u : x4.toInt ≤ 6) (hM5 : (6 - x4.toInt).toNat ≤ M5) : Ok (kX10_partiesThatAre_5 k5 s x2 x3 x4) (Q_kX10_partiesThatAre s0) := by
  unfold kX10_partiesThatAre_5
  have a_1 : 0 ≤ (s.k.v 2).toInt ∧ (s.k.v 2).toInt ≤ 6 := hI_s_k.1 2
  refine ok_ite (fun c_2 => ?_) (fun c_2 => ?_)
  · have c_2 := tn_le (a := ((s.k.v 2)).toInt) (b := (x4).toInt) rfl rfl c_2
    exact ok_some ⟨hI_s_k, hF_s_k, hI_s_g, (ti_rng _).1, (ti_rng _).2⟩
  · have c_2 := tn_nle (a := ((s.k.v 2)).toInt) (b := (x4).toInt) rfl rfl c_2
    refine ok_grd (vpb_ok (by omega) (by omega)) ?_
    refine ok_ite (fun c_3 => ?_) (fun c_3 => ?_)
    · have c_3 := tn_eq (a := (((s.n.f 3) (Int32.toNatClampNeg x4))).toInt) (b := (x2).toInt) rfl rfl c_3
      exact ok_kX10_partiesThatAre_35 s0 k5 M5 hk5 _ _ _ _ hI_s_k hF_s_k hI_s_g (by omega) (by omega) (by omega) (by omega) (by omega)
    · have c_3 := tn_ne (a := (((s.n.f 3) (Int32.toNatClampNeg x4))).toInt) (b := (x2).toInt) rfl rfl c_3
      exact ok_kX10_partiesThatAre_35 s0 k5 M5 hk5 _ _ _ _ hI_s_k hF_s_k hI_s_g (by omega) (by omega) (by omega) (by omega) (by omega)
theorem okL_kX10_partiesThatAre_5 (s0 : XS)  : ∀ (n : Nat) (s : XS) (x2 : Int32) (x3 : Int32) (x4 : Int32), (6 - x4.toInt).toNat < n → InvK s.k → FrK [] s0.k s.k → InvG s.g → 0 ≤ x2.toInt → x2.toInt ≤ 2 → 0 ≤ x4.toInt → x4.toInt ≤ 6 → Ok (kX10_partiesThatAre_5L  n s x2 x3 x4) (Q_kX10_partiesThatAre s0) := by
  intro n
  induction n with
  | zero => intro s x2 x3 x4 hn; omega
  | succ n ih =>
    intro s x2 x3 x4 hn hI_s_k hF_s_k hI_s_g h_x2l h_x2u h_x4l h_x4u 
    exact ok_kX10_partiesThatAre_5 s0 (kX10_partiesThatAre_5L  n) ((6 - x4.toInt).toNat) (fun zs zx2 zx3 zx4 g0 g1 g2 g3 g4 g5 g6  hm => ih zs zx2 zx3 zx4 (by omega) g0 g1 g2 g3 g4 g5 g6 ) s x2 x3 x4 hI_s_k hF_s_k hI_s_g h_x2l h_x2u h_x4l h_x4u (Nat.le_refl _)
set_option maxHeartbeats 1000000 in
theorem ok_kX10_partiesThatAreB (s0 : XS)  (s : XS) (x2 : Int32) (hI_s_k : InvK s.k) (hF_s_k : FrK [] s0.k s.k) (hI_s_g : InvG s.g) (h_x2l : 0 ≤ x2.toInt) (h_x2u : x2.toInt ≤ 2)  : Ok (kX10_partiesThatAre  s x2) (Q_kX10_partiesThatAre s0) := by
  unfold kX10_partiesThatAre
  have l_0 : (0 : Int32).toInt = 0 := by decide
  exact okL_kX10_partiesThatAre_5 s0  fu _ _ _ _ (by unfold fu; omega) hI_s_k hF_s_k hI_s_g (by omega) (by omega) (by decide) (by decide) 
theorem ok_kX10_partiesThatAre (s : XS) (x2 : Int32) (hI_s_k : InvK s.k) (hI_s_g : InvG s.g) (h_x2l : 0 ≤ x2.toInt) (h_x2u : x2.toInt ≤ 2) : Ok (kX10_partiesThatAre s x2) (Q_kX10_partiesThatAre s) := ok_kX10_partiesThatAreB s s x2 hI_s_k FrK.rfl hI_s_g h_x2l h_x2u
noncomputable abbrev Q_kX10_partiesThatAre_t (s0 : XS) (y : Int32 × XS) : Prop := InvK y.2.k ∧ FrK [] s0.k y.2.k ∧ InvG y.2.g ∧ -2147483648 ≤ y.1.toInt ∧ y.1.toInt ≤ 2147483647
set_option maxHeartbeats 1000000 in
theorem ok_kX10_partiesThatAre_t_35 (s0 : XS) (k5 : XS → Int32 → Int32 → Int32 → Option (Int32 × XS)) (M5 : Nat) (hk5 : ∀ (s : XS) (x2 : Int32) (x3 : Int32) (x4 : Int32), InvK s.k → FrK [] s0.k s.k → InvG s.g → 1 ≤ x2.toInt → x2.toInt ≤ 2 → 0 ≤ x4.toInt → x4.toInt ≤ 6 → (6 - x4.toInt).toNat < M5 → Ok (k5 s x2 x3 x4) (Q_kX10_partiesThatAre_t s0)) (s : XS) (x2 : Int32) (x3 : Int32) (x4 : Int32) (hI_s_k : InvK s.k) (hF_s_k : FrK [] s0.k s.k) (hI_s_g : InvG s.g) (h_x2l : 1 ≤ x2.toInt) (h_x2u : x2.toInt ≤ 2) (h_x4l : 0 ≤ x4.toInt) (h_x4u : x4.toInt ≤ 5) (hM5 : (6 - x4.toInt).toNat ≤ M5) : Ok (kX10_partiesThatAre_t_35 k5 s x2 x3 x4) (Q_kX10_partiesThatAre_t s0) := by
  unfold kX10_partiesThatAre_t_35
  have a_1 : ((x4 + 1)).toInt = (x4).toInt + 1 := tn_add rfl (by decide) (by omega) (by omega)
  exact hk5 _ _ _ _ hI_s_k hF_s_k hI_s_g (by omega) (by omega) (by omega) (by omega) (by omega)
set_option maxHeartbeats 1000000 in
theorem ok_kX10_partiesThatAre_t_5 (s0 : XS) (k5 : XS → Int32 → Int32 → Int32 → Option (Int32 × XS)) (M5 : Nat) (hk5 : ∀ (s : XS) (x2 : Int32) (x3 : Int32) (x4 : Int32), InvK s.k → FrK [] s0.k s.k → InvG s.g → 1 ≤ x2.toInt → x2.toInt ≤ 2 → 0 ≤ x4.toInt → x4.toInt ≤ 6 → (6 - x4.toInt).toNat < M5 → Ok (k5 s x2 x3 x4) (Q_kX10_partiesThatAre_t s0)) (s : XS) (x2 : Int32) (x3 : Int32) (x4 : Int32) (hI_s_k : InvK s.k) (hF_s_k : FrK [] s0.k s.k) (hI_s_g : InvG s.g) (h_x2l : 1 ≤ x2.toInt) (h_x2u : x2.toInt ≤ 2) (h_x4l : 0 ≤ x4.toInt) (h_x4u : x4.toInt ≤ 6) (hM5 : (6 - x4.toInt).toNat ≤ M5) : Ok (kX10_partiesThatAre_t_5 k5 s x2 x3 x4) (Q_kX10_partiesThatAre_t s0) := by
  unfold kX10_partiesThatAre_t_5
  have a_1 : 0 ≤ (s.k.v 2).toInt ∧ (s.k.v 2).toInt ≤ 6 := hI_s_k.1 2
  refine ok_ite (fun c_2 => ?_) (fun c_2 => ?_)
  · have c_2 := tn_le (a := ((s.k.v 2)).toInt) (b := (x4).toInt) rfl rfl c_2
    exact ok_some ⟨hI_s_k, hF_s_k, hI_s_g, (ti_rng _).1, (ti_rng _).2⟩
  · have c_2 := tn_nle (a := ((s.k.v 2)).toInt) (b := (x4).toInt) rfl rfl c_2
    refine ok_grd (vpb_ok (by omega) (by omega)) ?_
    refine ok_ite (fun c_3 => ?_) (fun c_3 => ?_)
    · have c_3 := tn_eq (a := (((s.t.f 3) (Int32.toNatClampNeg x4))).toInt) (b := (x2).toInt) rfl rfl c_3
      exact ok_kX10_partiesThatAre_t_35 s0 k5 M5 hk5 _ _ _ _ hI_s_k hF_s_k hI_s_g (by omega) (by omega) (by omega) (by omega) (by omega)
    · have c_3 := tn_ne (a := (((s.t.f 3) (Int32.toNatClampNeg x4))).toInt) (b := (x2).toInt) rfl rfl c_3
      exact ok_kX10_partiesThatAre_t_35 s0 k5 M5 hk5 _ _ _ _ hI_s_k hF_s_k hI_s_g (by omega) (by omega) (by omega) (by omega) (by omega)
theorem okL_kX10_partiesThatAre_t_5 (s0 : XS)  : ∀ (n : Nat) (s : XS) (x2 : Int32) (x3 : Int32) (x4 : Int32), (6 - x4.toInt).toNat < n → InvK s.k → FrK [] s0.k s.k → InvG s.g → 1 ≤ x2.toInt → x2.toInt ≤ 2 → 0 ≤ x4.toInt → x4.toInt ≤ 6 → Ok (kX10_partiesThatAre_t_5L  n s x2 x3 x4) (Q_kX10_partiesThatAre_t s0) := by
  intro n
  induction n with
  | zero => intro s x2 x3 x4 hn; omega
  | succ n ih =>
    intro s x2 x3 x4 hn hI_s_k hF_s_k hI_s_g h_x2l h_x2u h_x4l h_x4u 
    exact ok_kX10_partiesThatAre_t_5 s0 (kX10_partiesThatAre_t_5L  n) ((6 - x4.toInt).toNat) (fun zs zx2 zx3 zx4 g0 g1 g2 g3 g4 g5 g6  hm => ih zs zx2 zx3 zx4 (by omega) g0 g1 g2 g3 g4 g5 g6 ) s x2 x3 x4 hI_s_k hF_s_k hI_s_g h_x2l h_x2u h_x4l h_x4u (Nat.le_refl _)
set_option maxHeartbeats 1000000 in
theorem ok_kX10_partiesThatAre_tB (s0 : XS)  (s : XS) (x2 : Int32) (hI_s_k : InvK s.k) (hF_s_k : FrK [] s0.k s.k) (hI_s_g : InvG s.g) (h_x2l : 1 ≤ x2.toInt) (h_x2u : x2.toInt ≤ 2)  : Ok (kX10_partiesThatAre_t  s x2) (Q_kX10_partiesThatAre_t s0) := by
  unfold kX10_partiesThatAre_t
  have l_0 : (0 : Int32).toInt = 0 := by decide
  exact okL_kX10_partiesThatAre_t_5 s0  fu _ _ _ _ (by unfold fu; omega) hI_s_k hF_s_k hI_s_g (by omega) (by omega) (by decide) (by decide) 
theorem ok_kX10_partiesThatAre_t (s : XS) (x2 : Int32) (hI_s_k : InvK s.k) (hI_s_g : InvG s.g) (h_x2l : 1 ≤ x2.toInt) (h_x2u : x2.toInt ≤ 2) : Ok (kX10_partiesThatAre_t s x2) (Q_kX10_partiesThatAre_t s) := ok_kX10_partiesThatAre_tB s s x2 hI_s_k FrK.rfl hI_s_g h_x2l h_x2u
noncomputable abbrev Q_kX10_wavesFound (s0 : XS) (y : Int32 × XS) : Prop := InvK y.2.k ∧ FrK [] s0.k y.2.k ∧ InvG y.2.g ∧ -2147483648 ≤ y.1.toInt ∧ y.1.toInt ≤ 2147483647
set_option maxHeartbeats 1000000 in
theorem ok_kX10_wavesFound_34 (s0 : XS) (k4 : XS → Int32 → Int32 → Option (Int32 × XS)) (M4 : Nat) (hk4 : ∀ (s : XS) (x1 : Int32) (x2 : Int32), InvK s.k → FrK [] s0.k s.k → InvG s.g → 0 ≤ x2.toInt → x2.toInt ≤ 5 → (5 - x2.toInt).toNat < M4 → Ok (k4 s x1 x2) (Q_kX10_wavesFound s0)) (s : XS) (x1 : Int32) (x2 : Int32) (hI_s_k : InvK s.k) (hF_s_k : FrK [] s0.k s.k) (hI_s_g : InvG s.g) (h_x2l : 0 ≤ x2.toInt) (h_x2u : x2.toInt ≤ 4) (hM4 : (5 - x2.toInt).toNat ≤ M4) : Ok (kX10_wavesFound_34 k4 s x1 x2) (Q_kX10_wavesFound s0) := by
  unfold kX10_wavesFound_34
  have a_1 : ((x2 + 1)).toInt = (x2).toInt + 1 := tn_add rfl (by decide) (by omega) (by omega)
  exact hk4 _ _ _ hI_s_k hF_s_k hI_s_g (by omega) (by omega) (by omega)
set_option maxHeartbeats 1000000 in
theorem ok_kX10_wavesFound_4 (s0 : XS) (k4 : XS → Int32 → Int32 → Option (Int32 × XS)) (M4 : Nat) (hk4 : ∀ (s : XS) (x1 : Int32) (x2 : Int32), InvK s.k → FrK [] s0.k s.k → InvG s.g → 0 ≤ x2.toInt → x2.toInt ≤ 5 → (5 - x2.toInt).toNat < M4 → Ok (k4 s x1 x2) (Q_kX10_wavesFound s0)) (s : XS) (x1 : Int32) (x2 : Int32) (hI_s_k : InvK s.k) (hF_s_k : FrK [] s0.k s.k) (hI_s_g : InvG s.g) (h_x2l : 0 ≤ x2.toInt) (h_x2u : x2.toInt ≤ 5) (hM4 : (5 - x2.toInt).toNat ≤ M4) : Ok (kX10_wavesFound_4 k4 s x1 x2) (Q_kX10_wavesFound s0) := by
  unfold kX10_wavesFound_4
  have a_1 : 0 ≤ (s.k.v 1).toInt ∧ (s.k.v 1).toInt ≤ 5 := hI_s_k.1 1
  refine ok_ite (fun c_2 => ?_) (fun c_2 => ?_)
  · have c_2 := tn_le (a := ((s.k.v 1)).toInt) (b := (x2).toInt) rfl rfl c_2
    exact ok_some ⟨hI_s_k, hF_s_k, hI_s_g, (ti_rng _).1, (ti_rng _).2⟩
  · have c_2 := tn_nle (a := ((s.k.v 1)).toInt) (b := (x2).toInt) rfl rfl c_2
    refine ok_grd (vpb_ok (by omega) (by omega)) ?_
    refine ok_ite (fun c_3 => ?_) (fun c_3 => ?_)
    · have c_3 := tn_eq (a := (((s.n.f 0) (Int32.toNatClampNeg x2))).toInt) (b := (-1)) rfl (by decide) c_3
      exact ok_kX10_wavesFound_34 s0 k4 M4 hk4 _ _ _ hI_s_k hF_s_k hI_s_g (by omega) (by omega) (by omega)
    · have c_3 := tn_ne (a := (((s.n.f 0) (Int32.toNatClampNeg x2))).toInt) (b := (-1)) rfl (by decide) c_3
      exact ok_kX10_wavesFound_34 s0 k4 M4 hk4 _ _ _ hI_s_k hF_s_k hI_s_g (by omega) (by omega) (by omega)
theorem okL_kX10_wavesFound_4 (s0 : XS)  : ∀ (n : Nat) (s : XS) (x1 : Int32) (x2 : Int32), (5 - x2.toInt).toNat < n → InvK s.k → FrK [] s0.k s.k → InvG s.g → 0 ≤ x2.toInt → x2.toInt ≤ 5 → Ok (kX10_wavesFound_4L  n s x1 x2) (Q_kX10_wavesFound s0) := by
  intro n
  induction n with
  | zero => intro s x1 x2 hn; omega
  | succ n ih =>
    intro s x1 x2 hn hI_s_k hF_s_k hI_s_g h_x2l h_x2u 
    exact ok_kX10_wavesFound_4 s0 (kX10_wavesFound_4L  n) ((5 - x2.toInt).toNat) (fun zs zx1 zx2 g0 g1 g2 g3 g4  hm => ih zs zx1 zx2 (by omega) g0 g1 g2 g3 g4 ) s x1 x2 hI_s_k hF_s_k hI_s_g h_x2l h_x2u (Nat.le_refl _)
set_option maxHeartbeats 1000000 in
theorem ok_kX10_wavesFoundB (s0 : XS)  (s : XS) (hI_s_k : InvK s.k) (hF_s_k : FrK [] s0.k s.k) (hI_s_g : InvG s.g)  : Ok (kX10_wavesFound  s) (Q_kX10_wavesFound s0) := by
  unfold kX10_wavesFound
  have l_0 : (0 : Int32).toInt = 0 := by decide
  exact okL_kX10_wavesFound_4 s0  fu _ _ _ (by unfold fu; omega) hI_s_k hF_s_k hI_s_g (by decide) (by decide) 
theorem ok_kX10_wavesFound (s : XS) (hI_s_k : InvK s.k) (hI_s_g : InvG s.g) : Ok (kX10_wavesFound s) (Q_kX10_wavesFound s) := ok_kX10_wavesFoundB s s hI_s_k FrK.rfl hI_s_g
noncomputable abbrev Q_kX10_wavesWithNothing (s0 : XS) (y : Int32 × XS) : Prop := InvK y.2.k ∧ FrK [] s0.k y.2.k ∧ InvG y.2.g ∧ -2147483648 ≤ y.1.toInt ∧ y.1.toInt ≤ 2147483647
set_option maxHeartbeats 1000000 in
theorem ok_kX10_wavesWithNothing_36 (s0 : XS) (k4 : XS → Int32 → Int32 → Option (Int32 × XS)) (M4 : Nat) (hk4 : ∀ (s : XS) (x1 : Int32) (x2 : Int32), InvK s.k → FrK [] s0.k s.k → InvG s.g → 0 ≤ x2.toInt → x2.toInt ≤ 5 → (5 - x2.toInt).toNat < M4 → Ok (k4 s x1 x2) (Q_kX10_wavesWithNothing s0)) (s : XS) (x1 : Int32) (x2 : Int32) (hI_s_k : InvK s.k) (hF_s_k : FrK [] s0.k s.k) (hI_s_g : InvG s.g) (h_x2l : 0 ≤ x2.toInt) (h_x2u : x2.toInt ≤ 4) (hM4 : (5 - x2.toInt).toNat ≤ M4) : Ok (kX10_wavesWithNothing_36 k4 s x1 x2) (Q_kX10_wavesWithNothing s0) := by
  unfold kX10_wavesWithNothing_36
  have a_1 : ((x2 + 1)).toInt = (x2).toInt + 1 := tn_add rfl (by decide) (by omega) (by omega)
  exact hk4 _ _ _ hI_s_k hF_s_k hI_s_g (by omega) (by omega) (by omega)
set_option maxHeartbeats 1000000 in
theorem ok_kX10_wavesWithNothing_4 (s0 : XS) (k4 : XS → Int32 → Int32 → Option (Int32 × XS)) (M4 : Nat) (hk4 : ∀ (s : XS) (x1 : Int32) (x2 : Int32), InvK s.k → FrK [] s0.k s.k → InvG s.g → 0 ≤ x2.toInt → x2.toInt ≤ 5 → (5 - x2.toInt).toNat < M4 → Ok (k4 s x1 x2) (Q_kX10_wavesWithNothing s0)) (s : XS) (x1 : Int32) (x2 : Int32) (hI_s_k : InvK s.k) (hF_s_k : FrK [] s0.k s.k) (hI_s_g : InvG s.g) (h_x2l : 0 ≤ x2.toInt) (h_x2u : x2.toInt ≤ 5) (hM4 : (5 - x2.toInt).toNat ≤ M4) : Ok (kX10_wavesWithNothing_4 k4 s x1 x2) (Q_kX10_wavesWithNothing s0) := by
  unfold kX10_wavesWithNothing_4
  have a_1 : 0 ≤ (s.k.v 1).toInt ∧ (s.k.v 1).toInt ≤ 5 := hI_s_k.1 1
  refine ok_ite (fun c_2 => ?_) (fun c_2 => ?_)
  · have c_2 := tn_le (a := ((s.k.v 1)).toInt) (b := (x2).toInt) rfl rfl c_2
    exact ok_some ⟨hI_s_k, hF_s_k, hI_s_g, (ti_rng _).1, (ti_rng _).2⟩
  · have c_2 := tn_nle (a := ((s.k.v 1)).toInt) (b := (x2).toInt) rfl rfl c_2
    refine ok_bindI (ok_kX0_mayBe _ _ hI_s_k (by omega) (by omega)) (fun r3 s2 hc_3 => ?_)
    have hI_s2_k : InvK s2.k := hc_3.1
    have hFc_s2_k : FrK [] s.k s2.k := hc_3.2.1
    have hF_s2_k : FrK [] s0.k s2.k := hF_s_k.trans hFc_s2_k (by decide)
    refine ok_let (fun s4 hs4 => ?_)
    have hI_s4_g : InvG s4.g := by rw [← hs4]; exact hI_s_g
    have hI_s4_k : InvK s4.k := by rw [← hs4]; exact hI_s2_k
    have hF_s4_k : FrK [] s0.k s4.k := by rw [← hs4]; exact hF_s2_k
    refine ok_ite (fun c_4 => ?_) (fun c_4 => ?_)
    · have c_4 := tn_eq (a := (r3).toInt) (b := 0) rfl (by decide) c_4
      exact ok_kX10_wavesWithNothing_36 s0 k4 M4 hk4 _ _ _ hI_s4_k hF_s4_k hI_s4_g (by omega) (by omega) (by omega)
    · have c_4 := tn_ne (a := (r3).toInt) (b := 0) rfl (by decide) c_4
      exact ok_kX10_wavesWithNothing_36 s0 k4 M4 hk4 _ _ _ hI_s4_k hF_s4_k hI_s4_g (by omega) (by omega) (by omega)
theorem okL_kX10_wavesWithNothing_4 (s0 : XS)  : ∀ (n : Nat) (s : XS) (x1 : Int32) (x2 : Int32), (5 - x2.toInt).toNat < n → InvK s.k → FrK [] s0.k s.k → InvG s.g → 0 ≤ x2.toInt → x2.toInt ≤ 5 → Ok (kX10_wavesWithNothing_4L  n s x1 x2) (Q_kX10_wavesWithNothing s0) := by
  intro n
  induction n with
  | zero => intro s x1 x2 hn; omega
  | succ n ih =>
    intro s x1 x2 hn hI_s_k hF_s_k hI_s_g h_x2l h_x2u 
    exact ok_kX10_wavesWithNothing_4 s0 (kX10_wavesWithNothing_4L  n) ((5 - x2.toInt).toNat) (fun zs zx1 zx2 g0 g1 g2 g3 g4  hm => ih zs zx1 zx2 (by omega) g0 g1 g2 g3 g4 ) s x1 x2 hI_s_k hF_s_k hI_s_g h_x2l h_x2u (Nat.le_refl _)
set_option maxHeartbeats 1000000 in
theorem ok_kX10_wavesWithNothingB (s0 : XS)  (s : XS) (hI_s_k : InvK s.k) (hF_s_k : FrK [] s0.k s.k) (hI_s_g : InvG s.g)  : Ok (kX10_wavesWithNothing  s) (Q_kX10_wavesWithNothing s0) := by
  unfold kX10_wavesWithNothing
  have l_0 : (0 : Int32).toInt = 0 := by decide
  exact okL_kX10_wavesWithNothing_4 s0  fu _ _ _ (by unfold fu; omega) hI_s_k hF_s_k hI_s_g (by decide) (by decide) 
theorem ok_kX10_wavesWithNothing (s : XS) (hI_s_k : InvK s.k) (hI_s_g : InvG s.g) : Ok (kX10_wavesWithNothing s) (Q_kX10_wavesWithNothing s) := ok_kX10_wavesWithNothingB s s hI_s_k FrK.rfl hI_s_g
noncomputable abbrev Q_kX10_isThing (x0 : Int32) (y : Int32) : Prop := 0 ≤ y.toInt ∧ y.toInt ≤ 1 ∧ (¬ y.toInt = 0 → 0 ≤ (x0).toInt ∧ (x0).toInt ≤ 5)
set_option maxHeartbeats 1000000 in
theorem ok_kX10_isThingB  (x0 : Int32)   : Ok (kX10_isThing  x0) (Q_kX10_isThing x0) := by
  unfold kX10_isThing
  refine ok_ite (fun c_1 => ?_) (fun c_1 => ?_)
  · have c_1 := tn_lt (a := (x0).toInt) (b := 0) rfl (by decide) c_1
    exact ok_some ⟨by show 0 ≤ (0 : Int32).toInt; decide, by show (0 : Int32).toInt ≤ 1; decide, by show (¬ (0 : Int32).toInt = 0 → 0 ≤ (x0).toInt ∧ (x0).toInt ≤ 5); have l := (by decide : (0 : Int32).toInt = 0); omega⟩
  · have c_1 := tn_nlt (a := (x0).toInt) (b := 0) rfl (by decide) c_1
    refine ok_ite (fun c_2 => ?_) (fun c_2 => ?_)
    · have c_2 := tn_le (a := 6) (b := (x0).toInt) (by decide) rfl c_2
      exact ok_some ⟨by show 0 ≤ (0 : Int32).toInt; decide, by show (0 : Int32).toInt ≤ 1; decide, by show (¬ (0 : Int32).toInt = 0 → 0 ≤ (x0).toInt ∧ (x0).toInt ≤ 5); have l := (by decide : (0 : Int32).toInt = 0); omega⟩
    · have c_2 := tn_nle (a := 6) (b := (x0).toInt) (by decide) rfl c_2
      exact ok_some ⟨by show 0 ≤ (1 : Int32).toInt; decide, by show (1 : Int32).toInt ≤ 1; decide, by show (¬ (1 : Int32).toInt = 0 → 0 ≤ (x0).toInt ∧ (x0).toInt ≤ 5); have l := (by decide : (1 : Int32).toInt = 1); omega⟩
theorem ok_kX10_isThing (x0 : Int32)  : Ok (kX10_isThing x0) (Q_kX10_isThing x0) := ok_kX10_isThingB x0 
noncomputable abbrev Q_kX10_has (y : Int32) : Prop := 0 ≤ y.toInt ∧ y.toInt ≤ 1
set_option maxHeartbeats 1000000 in
theorem ok_kX10_hasB  (x0 : Int32) (x1 : Int32)   : Ok (kX10_has  x0 x1) Q_kX10_has := by
  unfold kX10_has
  have a_1 := ti_and1 ((x0 >>> (x1 &&& 31)))
  refine ok_ite (fun c_2 => ?_) (fun c_2 => ?_)
  · have c_2 := tn_eq (a := (((x0 >>> (x1 &&& 31)) &&& 1)).toInt) (b := 1) rfl (by decide) c_2
    exact ok_some ⟨by show 0 ≤ (1 : Int32).toInt; decide, by show (1 : Int32).toInt ≤ 1; decide⟩
  · have c_2 := tn_ne (a := (((x0 >>> (x1 &&& 31)) &&& 1)).toInt) (b := 1) rfl (by decide) c_2
    exact ok_some ⟨by show 0 ≤ (0 : Int32).toInt; decide, by show (0 : Int32).toInt ≤ 1; decide⟩
theorem ok_kX10_has (x0 : Int32) (x1 : Int32)  : Ok (kX10_has x0 x1) Q_kX10_has := ok_kX10_hasB x0 x1 
end
section
noncomputable abbrev Q_kX10_sumOf_5 (s0 : (Nat → Int32)) (y : Int32 × (Nat → Int32)) : Prop := -2147483648 ≤ y.1.toInt ∧ y.1.toInt ≤ 2147483647
set_option maxHeartbeats 1000000 in
theorem ok_kX10_sumOf_5_4 (s0 : (Nat → Int32)) (k4 : ((Nat → Int32)) → Int32 → Int32 → Option (Int32 × (Nat → Int32))) (M4 : Nat) (hk4 : ∀ (s : (Nat → Int32)) (x1 : Int32) (x2 : Int32), 0 ≤ x2.toInt → x2.toInt ≤ 5 → (5 - x2.toInt).toNat < M4 → Ok (k4 s x1 x2) (Q_kX10_sumOf_5 s0)) (s : (Nat → Int32)) (x1 : Int32) (x2 : Int32) (h_x2l : 0 ≤ x2.toInt) (h_x2u : x2.toInt ≤ 5) (hM4 : (5 - x2.toInt).toNat ≤ M4) : Ok (kX10_sumOf_5_4 k4 s x1 x2) (Q_kX10_sumOf_5 s0) := by
  unfold kX10_sumOf_5_4
  refine ok_ite (fun c_1 => ?_) (fun c_1 => ?_)
  · have c_1 := tn_le (a := 5) (b := (x2).toInt) (by decide) rfl c_1
    exact ok_some ⟨(ti_rng _).1, (ti_rng _).2⟩
  · have c_1 := tn_nle (a := 5) (b := (x2).toInt) (by decide) rfl c_1
    refine ok_grd (vpb_ok (by omega) (by omega)) ?_
    have a_2 : ((x2 + 1)).toInt = (x2).toInt + 1 := tn_add rfl (by decide) (by omega) (by omega)
    exact hk4 _ _ _ (by omega) (by omega) (by omega)
theorem okL_kX10_sumOf_5_4 (s0 : (Nat → Int32))  : ∀ (n : Nat) (s : (Nat → Int32)) (x1 : Int32) (x2 : Int32), (5 - x2.toInt).toNat < n → 0 ≤ x2.toInt → x2.toInt ≤ 5 → Ok (kX10_sumOf_5_4L  n s x1 x2) (Q_kX10_sumOf_5 s0) := by
  intro n
  induction n with
  | zero => intro s x1 x2 hn; omega
  | succ n ih =>
    intro s x1 x2 hn h_x2l h_x2u 
    exact ok_kX10_sumOf_5_4 s0 (kX10_sumOf_5_4L  n) ((5 - x2.toInt).toNat) (fun zs zx1 zx2 g0 g1  hm => ih zs zx1 zx2 (by omega) g0 g1 ) s x1 x2 h_x2l h_x2u (Nat.le_refl _)
set_option maxHeartbeats 1000000 in
theorem ok_kX10_sumOf_5B (s0 : (Nat → Int32))  (s : (Nat → Int32))   : Ok (kX10_sumOf_5  s) (Q_kX10_sumOf_5 s0) := by
  unfold kX10_sumOf_5
  have l_0 : (0 : Int32).toInt = 0 := by decide
  exact okL_kX10_sumOf_5_4 s0  fu _ _ _ (by unfold fu; omega) (by decide) (by decide) 
theorem ok_kX10_sumOf_5 (s : (Nat → Int32))  : Ok (kX10_sumOf_5 s) (Q_kX10_sumOf_5 s) := ok_kX10_sumOf_5B s s 
noncomputable abbrev Q_kX10_sumOf_6 (s0 : (Nat → Int32)) (y : Int32 × (Nat → Int32)) : Prop := -2147483648 ≤ y.1.toInt ∧ y.1.toInt ≤ 2147483647
set_option maxHeartbeats 1000000 in
theorem ok_kX10_sumOf_6_4 (s0 : (Nat → Int32)) (k4 : ((Nat → Int32)) → Int32 → Int32 → Option (Int32 × (Nat → Int32))) (M4 : Nat) (hk4 : ∀ (s : (Nat → Int32)) (x1 : Int32) (x2 : Int32), 0 ≤ x2.toInt → x2.toInt ≤ 6 → (6 - x2.toInt).toNat < M4 → Ok (k4 s x1 x2) (Q_kX10_sumOf_6 s0)) (s : (Nat → Int32)) (x1 : Int32) (x2 : Int32) (h_x2l : 0 ≤ x2.toInt) (h_x2u : x2.toInt ≤ 6) (hM4 : (6 - x2.toInt).toNat ≤ M4) : Ok (kX10_sumOf_6_4 k4 s x1 x2) (Q_kX10_sumOf_6 s0) := by
  unfold kX10_sumOf_6_4
  refine ok_ite (fun c_1 => ?_) (fun c_1 => ?_)
  · have c_1 := tn_le (a := 6) (b := (x2).toInt) (by decide) rfl c_1
    exact ok_some ⟨(ti_rng _).1, (ti_rng _).2⟩
  · have c_1 := tn_nle (a := 6) (b := (x2).toInt) (by decide) rfl c_1
    refine ok_grd (vpb_ok (by omega) (by omega)) ?_
    have a_2 : ((x2 + 1)).toInt = (x2).toInt + 1 := tn_add rfl (by decide) (by omega) (by omega)
    exact hk4 _ _ _ (by omega) (by omega) (by omega)
theorem okL_kX10_sumOf_6_4 (s0 : (Nat → Int32))  : ∀ (n : Nat) (s : (Nat → Int32)) (x1 : Int32) (x2 : Int32), (6 - x2.toInt).toNat < n → 0 ≤ x2.toInt → x2.toInt ≤ 6 → Ok (kX10_sumOf_6_4L  n s x1 x2) (Q_kX10_sumOf_6 s0) := by
  intro n
  induction n with
  | zero => intro s x1 x2 hn; omega
  | succ n ih =>
    intro s x1 x2 hn h_x2l h_x2u 
    exact ok_kX10_sumOf_6_4 s0 (kX10_sumOf_6_4L  n) ((6 - x2.toInt).toNat) (fun zs zx1 zx2 g0 g1  hm => ih zs zx1 zx2 (by omega) g0 g1 ) s x1 x2 h_x2l h_x2u (Nat.le_refl _)
set_option maxHeartbeats 1000000 in
theorem ok_kX10_sumOf_6B (s0 : (Nat → Int32))  (s : (Nat → Int32))   : Ok (kX10_sumOf_6  s) (Q_kX10_sumOf_6 s0) := by
  unfold kX10_sumOf_6
  have l_0 : (0 : Int32).toInt = 0 := by decide
  exact okL_kX10_sumOf_6_4 s0  fu _ _ _ (by unfold fu; omega) (by decide) (by decide) 
theorem ok_kX10_sumOf_6 (s : (Nat → Int32))  : Ok (kX10_sumOf_6 s) (Q_kX10_sumOf_6 s) := ok_kX10_sumOf_6B s s 
noncomputable abbrev Q_kX10_thingIn (x0 x1 : Int32) (y : Int32) : Prop := -2147483648 ≤ y.toInt ∧ y.toInt ≤ 2147483647 ∧ (0 ≤ x0.toInt → 0 ≤ y.toInt ∧ y.toInt ≤ 5)
theorem okL_kX10_thingIn_4 : ∀ (n : Nat) (x1 x2 x3 : Int32), (5 - x3.toInt).toNat < n → 0 ≤ x3.toInt → x3.toInt ≤ 4 → x1.toInt ≤ 4 → Ok (kX10_thingIn_4L n x1 x2 x3) (fun y => 0 ≤ x2.toInt → 0 ≤ y.toInt ∧ y.toInt ≤ 5) := by
  intro n
  induction n with
  | zero => intro x1 x2 x3 h; omega
  | succ n ih =>
    intro x1 x2 x3 h h0 h1 h2
    show Ok (kX10_thingIn_4 (kX10_thingIn_4L n) x1 x2 x3) _
    unfold kX10_thingIn_4
    have l1 : (1 : Int32).toInt = 1 := by decide
    refine ok_ite (fun c => ?_) (fun c => ?_)
    · refine ok_some (fun hx => ?_)
      have e := ti_remc (x := x2) (y := 6) (c := 6) (by decide) hx (by decide)
      omega
    · have c := ti_nle c
      have a := ti_add (x := x3) (y := 1) (by omega) (by omega)
      refine ok_weak (ih x1 (x2 / 6) (x3 + 1) (by omega) (by omega) (by omega) h2) (fun y hy hx => hy ?_)
      have e := ti_divc (x := x2) (y := 6) (c := 6) (by decide) hx (by decide)
      omega
theorem ok_kX10_thingIn (x0 x1 : Int32) (h1 : 0 ≤ x1.toInt) (h2 : x1.toInt ≤ 4) : Ok (kX10_thingIn x0 x1) (Q_kX10_thingIn x0 x1) := by
  unfold kX10_thingIn
  have l0 : (0 : Int32).toInt = 0 := by decide
  exact ok_weak (okL_kX10_thingIn_4 fu x1 x0 0 (by unfold fu; omega) (by omega) (by omega) h2) (fun y hy => ⟨(ti_rng y).1, (ti_rng y).2, hy⟩)
noncomputable abbrev Q_kX10_heldTo (y : Int32) : Prop := 0 ≤ y.toInt ∧ y.toInt ≤ 100
set_option maxHeartbeats 1000000 in
theorem ok_kX10_heldToB  (x0 : Int32) (x1 : Int32) (h_x0l : 9 ≤ x0.toInt) (h_x0u : x0.toInt ≤ 100)  : Ok (kX10_heldTo  x0 x1) Q_kX10_heldTo := by
  unfold kX10_heldTo
  have a_1 := tn_mmin (x := x0) (y := x1) (a := (x0).toInt) (b := (x1).toInt) rfl rfl
  have a_2 := tn_mmax (x := 0) (y := (mmin x0 x1)) (a := 0) (b := ((mmin x0 x1)).toInt) (by decide) rfl
  exact ok_some ⟨by show 0 ≤ ((mmax 0 (mmin x0 x1))).toInt; omega, by show ((mmax 0 (mmin x0 x1))).toInt ≤ 100; omega⟩
theorem ok_kX10_heldTo (x0 : Int32) (x1 : Int32) (h_x0l : 9 ≤ x0.toInt) (h_x0u : x0.toInt ≤ 100) : Ok (kX10_heldTo x0 x1) Q_kX10_heldTo := ok_kX10_heldToB x0 x1 h_x0l h_x0u
noncomputable abbrev Q_kX10_stirred (y : Int32) : Prop := -2147483648 ≤ y.toInt ∧ y.toInt ≤ 2147483647
set_option maxHeartbeats 1000000 in
theorem ok_kX10_stirredB  (x0 : Int32) (x1 : Int32)   : Ok (kX10_stirred  x0 x1) Q_kX10_stirred := by
  unfold kX10_stirred
  exact ok_some ⟨(ti_rng _).1, (ti_rng _).2⟩
theorem ok_kX10_stirred (x0 : Int32) (x1 : Int32)  : Ok (kX10_stirred x0 x1) Q_kX10_stirred := ok_kX10_stirredB x0 x1 
noncomputable abbrev Q_kJ6_numberOfTrailingZeros_0f7a4 (y : Int32) : Prop := -2147483648 ≤ y.toInt ∧ y.toInt ≤ 2147483647
set_option maxHeartbeats 1000000 in
theorem ok_kJ6_numberOfTrailingZeros_0f7a4_74  (x0 : Int32) (x1 : Int32) (h_x1l : 1 ≤ x1.toInt) (h_x1u : x1.toInt ≤ 31)  : Ok (kJ6_numberOfTrailingZeros_0f7a4_74  x0 x1) Q_kJ6_numberOfTrailingZeros_0f7a4 := by
  unfold kJ6_numberOfTrailingZeros_0f7a4_74
  exact ok_some ⟨(ti_rng _).1, (ti_rng _).2⟩
set_option maxHeartbeats 1000000 in
theorem ok_kJ6_numberOfTrailingZeros_0f7a4_62  (x0 : Int32) (x1 : Int32) (h_x1l : 1 ≤ x1.toInt) (h_x1u : x1.toInt ≤ 29)  : Ok (kJ6_numberOfTrailingZeros_0f7a4_62  x0 x1) Q_kJ6_numberOfTrailingZeros_0f7a4 := by
  unfold kJ6_numberOfTrailingZeros_0f7a4_62
  refine ok_ite (fun c_1 => ?_) (fun c_1 => ?_)
  · have c_1 := tn_le (a := (x0).toInt) (b := 4) rfl (by decide) c_1
    exact ok_kJ6_numberOfTrailingZeros_0f7a4_74  _ _ (by omega) (by omega) 
  · have c_1 := tn_nle (a := (x0).toInt) (b := 4) rfl (by decide) c_1
    have a_2 : ((x1 + 2)).toInt = (x1).toInt + 2 := tn_add rfl (by decide) (by omega) (by omega)
    exact ok_kJ6_numberOfTrailingZeros_0f7a4_74  _ _ (by omega) (by omega) 
set_option maxHeartbeats 1000000 in
theorem ok_kJ6_numberOfTrailingZeros_0f7a4_49  (x0 : Int32) (x1 : Int32) (h_x1l : 1 ≤ x1.toInt) (h_x1u : x1.toInt ≤ 25)  : Ok (kJ6_numberOfTrailingZeros_0f7a4_49  x0 x1) Q_kJ6_numberOfTrailingZeros_0f7a4 := by
  unfold kJ6_numberOfTrailingZeros_0f7a4_49
  refine ok_ite (fun c_1 => ?_) (fun c_1 => ?_)
  · have c_1 := tn_le (a := (x0).toInt) (b := 16) rfl (by decide) c_1
    exact ok_kJ6_numberOfTrailingZeros_0f7a4_62  _ _ (by omega) (by omega) 
  · have c_1 := tn_nle (a := (x0).toInt) (b := 16) rfl (by decide) c_1
    have a_2 : ((x1 + 4)).toInt = (x1).toInt + 4 := tn_add rfl (by decide) (by omega) (by omega)
    exact ok_kJ6_numberOfTrailingZeros_0f7a4_62  _ _ (by omega) (by omega) 
set_option maxHeartbeats 1000000 in
theorem ok_kJ6_numberOfTrailingZeros_0f7a4_34  (x0 : Int32) (x1 : Int32) (h_x1l : 1 ≤ x1.toInt) (h_x1u : x1.toInt ≤ 17)  : Ok (kJ6_numberOfTrailingZeros_0f7a4_34  x0 x1) Q_kJ6_numberOfTrailingZeros_0f7a4 := by
  unfold kJ6_numberOfTrailingZeros_0f7a4_34
  refine ok_ite (fun c_1 => ?_) (fun c_1 => ?_)
  · have c_1 := tn_le (a := (x0).toInt) (b := 256) rfl (by decide) c_1
    exact ok_kJ6_numberOfTrailingZeros_0f7a4_49  _ _ (by omega) (by omega) 
  · have c_1 := tn_nle (a := (x0).toInt) (b := 256) rfl (by decide) c_1
    have a_2 : ((x1 + 8)).toInt = (x1).toInt + 8 := tn_add rfl (by decide) (by omega) (by omega)
    exact ok_kJ6_numberOfTrailingZeros_0f7a4_49  _ _ (by omega) (by omega) 
set_option maxHeartbeats 1000000 in
theorem ok_kJ6_numberOfTrailingZeros_0f7a4B  (x0 : Int32)   : Ok (kJ6_numberOfTrailingZeros_0f7a4  x0) Q_kJ6_numberOfTrailingZeros_0f7a4 := by
  unfold kJ6_numberOfTrailingZeros_0f7a4
  refine ok_ite (fun c_1 => ?_) (fun c_1 => ?_)
  · have c_1 := tn_lt (a := 0) (b := (((x0 ^^^ (-1)) &&& (x0 - 1))).toInt) (by decide) rfl c_1
    refine ok_ite (fun c_2 => ?_) (fun c_2 => ?_)
    · have c_2 := tn_le (a := (((x0 ^^^ (-1)) &&& (x0 - 1))).toInt) (b := 65536) rfl (by decide) c_2
      have l_1 : (1 : Int32).toInt = 1 := by decide
      exact ok_kJ6_numberOfTrailingZeros_0f7a4_34  _ _ (by decide) (by decide) 
    · have c_2 := tn_nle (a := (((x0 ^^^ (-1)) &&& (x0 - 1))).toInt) (b := 65536) rfl (by decide) c_2
      have l_17 : (17 : Int32).toInt = 17 := by decide
      exact ok_kJ6_numberOfTrailingZeros_0f7a4_34  _ _ (by decide) (by decide) 
  · have c_1 := tn_nlt (a := 0) (b := (((x0 ^^^ (-1)) &&& (x0 - 1))).toInt) (by decide) rfl c_1
    exact ok_some ⟨(ti_rng _).1, (ti_rng _).2⟩
theorem ok_kJ6_numberOfTrailingZeros_0f7a4 (x0 : Int32)  : Ok (kJ6_numberOfTrailingZeros_0f7a4 x0) Q_kJ6_numberOfTrailingZeros_0f7a4 := ok_kJ6_numberOfTrailingZeros_0f7a4B x0 
noncomputable abbrev Q_kJ6_bitCount_0f7a4 (y : Int32) : Prop := -2147483648 ≤ y.toInt ∧ y.toInt ≤ 2147483647
set_option maxHeartbeats 1000000 in
theorem ok_kJ6_bitCount_0f7a4B  (x0 : Int32)   : Ok (kJ6_bitCount_0f7a4  x0) Q_kJ6_bitCount_0f7a4 := by
  unfold kJ6_bitCount_0f7a4
  exact ok_some ⟨(ti_rng _).1, (ti_rng _).2⟩
theorem ok_kJ6_bitCount_0f7a4 (x0 : Int32)  : Ok (kJ6_bitCount_0f7a4 x0) Q_kJ6_bitCount_0f7a4 := ok_kJ6_bitCount_0f7a4B x0 
noncomputable abbrev Q_kJ7_fill_53178_4 (s0 : (Nat → Int32)) (y : (Nat → Int32)) : Prop := True
set_option maxHeartbeats 1000000 in
theorem ok_kJ7_fill_53178_4_5 (s0 : (Nat → Int32)) (k5 : ((Nat → Int32)) → Int32 → Int32 → Int32 → Option ((Nat → Int32))) (M5 : Nat) (hk5 : ∀ (s : (Nat → Int32)) (x1 : Int32) (x2 : Int32) (x3 : Int32), 0 ≤ x1.toInt → x1.toInt ≤ 0 → 0 ≤ x2.toInt → x2.toInt ≤ 4 → 4 ≤ x3.toInt → x3.toInt ≤ 4 → (4 - x2.toInt).toNat < M5 → Ok (k5 s x1 x2 x3) (Q_kJ7_fill_53178_4 s0)) (s : (Nat → Int32)) (x1 : Int32) (x2 : Int32) (x3 : Int32) (h_x1l : 0 ≤ x1.toInt) (h_x1u : x1.toInt ≤ 0) (h_x2l : 0 ≤ x2.toInt) (h_x2u : x2.toInt ≤ 4) (h_x3l : 4 ≤ x3.toInt) (h_x3u : x3.toInt ≤ 4) (hM5 : (4 - x2.toInt).toNat ≤ M5) : Ok (kJ7_fill_53178_4_5 k5 s x1 x2 x3) (Q_kJ7_fill_53178_4 s0) := by
  unfold kJ7_fill_53178_4_5
  refine ok_ite (fun c_1 => ?_) (fun c_1 => ?_)
  · have c_1 := tn_le (a := (x3).toInt) (b := (x2).toInt) rfl rfl c_1
    exact ok_some (trivial)
  · have c_1 := tn_nle (a := (x3).toInt) (b := (x2).toInt) rfl rfl c_1
    refine ok_grd (vpb_ok (by omega) (by omega)) ?_
    refine ok_let (fun s3 hs3 => ?_)
    have a_2 : ((x2 + 1)).toInt = (x2).toInt + 1 := tn_add rfl (by decide) (by omega) (by omega)
    exact hk5 _ _ _ _ (by omega) (by omega) (by omega) (by omega) (by omega) (by omega) (by omega)
theorem okL_kJ7_fill_53178_4_5 (s0 : (Nat → Int32))  : ∀ (n : Nat) (s : (Nat → Int32)) (x1 : Int32) (x2 : Int32) (x3 : Int32), (4 - x2.toInt).toNat < n → 0 ≤ x1.toInt → x1.toInt ≤ 0 → 0 ≤ x2.toInt → x2.toInt ≤ 4 → 4 ≤ x3.toInt → x3.toInt ≤ 4 → Ok (kJ7_fill_53178_4_5L  n s x1 x2 x3) (Q_kJ7_fill_53178_4 s0) := by
  intro n
  induction n with
  | zero => intro s x1 x2 x3 hn; omega
  | succ n ih =>
    intro s x1 x2 x3 hn h_x1l h_x1u h_x2l h_x2u h_x3l h_x3u 
    exact ok_kJ7_fill_53178_4_5 s0 (kJ7_fill_53178_4_5L  n) ((4 - x2.toInt).toNat) (fun zs zx1 zx2 zx3 g0 g1 g2 g3 g4 g5  hm => ih zs zx1 zx2 zx3 (by omega) g0 g1 g2 g3 g4 g5 ) s x1 x2 x3 h_x1l h_x1u h_x2l h_x2u h_x3l h_x3u (Nat.le_refl _)
set_option maxHeartbeats 1000000 in
theorem ok_kJ7_fill_53178_4B (s0 : (Nat → Int32))  (s : (Nat → Int32)) (x1 : Int32) (h_x1l : 0 ≤ x1.toInt) (h_x1u : x1.toInt ≤ 0)  : Ok (kJ7_fill_53178_4  s x1) (Q_kJ7_fill_53178_4 s0) := by
  unfold kJ7_fill_53178_4
  have l_0 : (0 : Int32).toInt = 0 := by decide
  have l_4 : (4 : Int32).toInt = 4 := by decide
  exact okL_kJ7_fill_53178_4_5 s0  fu _ _ _ _ (by unfold fu; omega) (by omega) (by omega) (by decide) (by decide) (by decide) (by decide) 
theorem ok_kJ7_fill_53178_4 (s : (Nat → Int32)) (x1 : Int32) (h_x1l : 0 ≤ x1.toInt) (h_x1u : x1.toInt ≤ 0) : Ok (kJ7_fill_53178_4 s x1) (Q_kJ7_fill_53178_4 s) := ok_kJ7_fill_53178_4B s s x1 h_x1l h_x1u
noncomputable abbrev Q_kJ7_fill_53178_5 (s0 : (Nat → Int32)) (y : (Nat → Int32)) : Prop := True
set_option maxHeartbeats 1000000 in
theorem ok_kJ7_fill_53178_5_5 (s0 : (Nat → Int32)) (k5 : ((Nat → Int32)) → Int32 → Int32 → Int32 → Option ((Nat → Int32))) (M5 : Nat) (hk5 : ∀ (s : (Nat → Int32)) (x1 : Int32) (x2 : Int32) (x3 : Int32), -1 ≤ x1.toInt → x1.toInt ≤ 0 → 0 ≤ x2.toInt → x2.toInt ≤ 5 → 5 ≤ x3.toInt → x3.toInt ≤ 5 → (5 - x2.toInt).toNat < M5 → Ok (k5 s x1 x2 x3) (Q_kJ7_fill_53178_5 s0)) (s : (Nat → Int32)) (x1 : Int32) (x2 : Int32) (x3 : Int32) (h_x1l : -1 ≤ x1.toInt) (h_x1u : x1.toInt ≤ 0) (h_x2l : 0 ≤ x2.toInt) (h_x2u : x2.toInt ≤ 5) (h_x3l : 5 ≤ x3.toInt) (h_x3u : x3.toInt ≤ 5) (hM5 : (5 - x2.toInt).toNat ≤ M5) : Ok (kJ7_fill_53178_5_5 k5 s x1 x2 x3) (Q_kJ7_fill_53178_5 s0) := by
  unfold kJ7_fill_53178_5_5
  refine ok_ite (fun c_1 => ?_) (fun c_1 => ?_)
  · have c_1 := tn_le (a := (x3).toInt) (b := (x2).toInt) rfl rfl c_1
    exact ok_some (trivial)
  · have c_1 := tn_nle (a := (x3).toInt) (b := (x2).toInt) rfl rfl c_1
    refine ok_grd (vpb_ok (by omega) (by omega)) ?_
    refine ok_let (fun s3 hs3 => ?_)
    have a_2 : ((x2 + 1)).toInt = (x2).toInt + 1 := tn_add rfl (by decide) (by omega) (by omega)
    exact hk5 _ _ _ _ (by omega) (by omega) (by omega) (by omega) (by omega) (by omega) (by omega)
theorem okL_kJ7_fill_53178_5_5 (s0 : (Nat → Int32))  : ∀ (n : Nat) (s : (Nat → Int32)) (x1 : Int32) (x2 : Int32) (x3 : Int32), (5 - x2.toInt).toNat < n → -1 ≤ x1.toInt → x1.toInt ≤ 0 → 0 ≤ x2.toInt → x2.toInt ≤ 5 → 5 ≤ x3.toInt → x3.toInt ≤ 5 → Ok (kJ7_fill_53178_5_5L  n s x1 x2 x3) (Q_kJ7_fill_53178_5 s0) := by
  intro n
  induction n with
  | zero => intro s x1 x2 x3 hn; omega
  | succ n ih =>
    intro s x1 x2 x3 hn h_x1l h_x1u h_x2l h_x2u h_x3l h_x3u 
    exact ok_kJ7_fill_53178_5_5 s0 (kJ7_fill_53178_5_5L  n) ((5 - x2.toInt).toNat) (fun zs zx1 zx2 zx3 g0 g1 g2 g3 g4 g5  hm => ih zs zx1 zx2 zx3 (by omega) g0 g1 g2 g3 g4 g5 ) s x1 x2 x3 h_x1l h_x1u h_x2l h_x2u h_x3l h_x3u (Nat.le_refl _)
set_option maxHeartbeats 1000000 in
theorem ok_kJ7_fill_53178_5B (s0 : (Nat → Int32))  (s : (Nat → Int32)) (x1 : Int32) (h_x1l : -1 ≤ x1.toInt) (h_x1u : x1.toInt ≤ 0)  : Ok (kJ7_fill_53178_5  s x1) (Q_kJ7_fill_53178_5 s0) := by
  unfold kJ7_fill_53178_5
  have l_0 : (0 : Int32).toInt = 0 := by decide
  have l_5 : (5 : Int32).toInt = 5 := by decide
  exact okL_kJ7_fill_53178_5_5 s0  fu _ _ _ _ (by unfold fu; omega) (by omega) (by omega) (by decide) (by decide) (by decide) (by decide) 
theorem ok_kJ7_fill_53178_5 (s : (Nat → Int32)) (x1 : Int32) (h_x1l : -1 ≤ x1.toInt) (h_x1u : x1.toInt ≤ 0) : Ok (kJ7_fill_53178_5 s x1) (Q_kJ7_fill_53178_5 s) := ok_kJ7_fill_53178_5B s s x1 h_x1l h_x1u
noncomputable abbrev Q_kJ7_fill_53178_6 (s0 : (Nat → Int32)) (y : (Nat → Int32)) : Prop := True
set_option maxHeartbeats 1000000 in
theorem ok_kJ7_fill_53178_6_5 (s0 : (Nat → Int32)) (k5 : ((Nat → Int32)) → Int32 → Int32 → Int32 → Option ((Nat → Int32))) (M5 : Nat) (hk5 : ∀ (s : (Nat → Int32)) (x1 : Int32) (x2 : Int32) (x3 : Int32), 0 ≤ x1.toInt → x1.toInt ≤ 0 → 0 ≤ x2.toInt → x2.toInt ≤ 6 → 6 ≤ x3.toInt → x3.toInt ≤ 6 → (6 - x2.toInt).toNat < M5 → Ok (k5 s x1 x2 x3) (Q_kJ7_fill_53178_6 s0)) (s : (Nat → Int32)) (x1 : Int32) (x2 : Int32) (x3 : Int32) (h_x1l : 0 ≤ x1.toInt) (h_x1u : x1.toInt ≤ 0) (h_x2l : 0 ≤ x2.toInt) (h_x2u : x2.toInt ≤ 6) (h_x3l : 6 ≤ x3.toInt) (h_x3u : x3.toInt ≤ 6) (hM5 : (6 - x2.toInt).toNat ≤ M5) : Ok (kJ7_fill_53178_6_5 k5 s x1 x2 x3) (Q_kJ7_fill_53178_6 s0) := by
  unfold kJ7_fill_53178_6_5
  refine ok_ite (fun c_1 => ?_) (fun c_1 => ?_)
  · have c_1 := tn_le (a := (x3).toInt) (b := (x2).toInt) rfl rfl c_1
    exact ok_some (trivial)
  · have c_1 := tn_nle (a := (x3).toInt) (b := (x2).toInt) rfl rfl c_1
    refine ok_grd (vpb_ok (by omega) (by omega)) ?_
    refine ok_let (fun s3 hs3 => ?_)
    have a_2 : ((x2 + 1)).toInt = (x2).toInt + 1 := tn_add rfl (by decide) (by omega) (by omega)
    exact hk5 _ _ _ _ (by omega) (by omega) (by omega) (by omega) (by omega) (by omega) (by omega)
theorem okL_kJ7_fill_53178_6_5 (s0 : (Nat → Int32))  : ∀ (n : Nat) (s : (Nat → Int32)) (x1 : Int32) (x2 : Int32) (x3 : Int32), (6 - x2.toInt).toNat < n → 0 ≤ x1.toInt → x1.toInt ≤ 0 → 0 ≤ x2.toInt → x2.toInt ≤ 6 → 6 ≤ x3.toInt → x3.toInt ≤ 6 → Ok (kJ7_fill_53178_6_5L  n s x1 x2 x3) (Q_kJ7_fill_53178_6 s0) := by
  intro n
  induction n with
  | zero => intro s x1 x2 x3 hn; omega
  | succ n ih =>
    intro s x1 x2 x3 hn h_x1l h_x1u h_x2l h_x2u h_x3l h_x3u 
    exact ok_kJ7_fill_53178_6_5 s0 (kJ7_fill_53178_6_5L  n) ((6 - x2.toInt).toNat) (fun zs zx1 zx2 zx3 g0 g1 g2 g3 g4 g5  hm => ih zs zx1 zx2 zx3 (by omega) g0 g1 g2 g3 g4 g5 ) s x1 x2 x3 h_x1l h_x1u h_x2l h_x2u h_x3l h_x3u (Nat.le_refl _)
set_option maxHeartbeats 1000000 in
theorem ok_kJ7_fill_53178_6B (s0 : (Nat → Int32))  (s : (Nat → Int32)) (x1 : Int32) (h_x1l : 0 ≤ x1.toInt) (h_x1u : x1.toInt ≤ 0)  : Ok (kJ7_fill_53178_6  s x1) (Q_kJ7_fill_53178_6 s0) := by
  unfold kJ7_fill_53178_6
  have l_0 : (0 : Int32).toInt = 0 := by decide
  have l_6 : (6 : Int32).toInt = 6 := by decide
  exact okL_kJ7_fill_53178_6_5 s0  fu _ _ _ _ (by unfold fu; omega) (by omega) (by omega) (by decide) (by decide) (by decide) (by decide) 
theorem ok_kJ7_fill_53178_6 (s : (Nat → Int32)) (x1 : Int32) (h_x1l : 0 ≤ x1.toInt) (h_x1u : x1.toInt ≤ 0) : Ok (kJ7_fill_53178_6 s x1) (Q_kJ7_fill_53178_6 s) := ok_kJ7_fill_53178_6B s s x1 h_x1l h_x1u
noncomputable abbrev Q_kJ7_fill_53178_9 (s0 : (Nat → Int32)) (y : (Nat → Int32)) : Prop := True
set_option maxHeartbeats 1000000 in
theorem ok_kJ7_fill_53178_9_5 (s0 : (Nat → Int32)) (k5 : ((Nat → Int32)) → Int32 → Int32 → Int32 → Option ((Nat → Int32))) (M5 : Nat) (hk5 : ∀ (s : (Nat → Int32)) (x1 : Int32) (x2 : Int32) (x3 : Int32), 0 ≤ x1.toInt → x1.toInt ≤ 0 → 0 ≤ x2.toInt → x2.toInt ≤ 9 → 9 ≤ x3.toInt → x3.toInt ≤ 9 → (9 - x2.toInt).toNat < M5 → Ok (k5 s x1 x2 x3) (Q_kJ7_fill_53178_9 s0)) (s : (Nat → Int32)) (x1 : Int32) (x2 : Int32) (x3 : Int32) (h_x1l : 0 ≤ x1.toInt) (h_x1u : x1.toInt ≤ 0) (h_x2l : 0 ≤ x2.toInt) (h_x2u : x2.toInt ≤ 9) (h_x3l : 9 ≤ x3.toInt) (h_x3u : x3.toInt ≤ 9) (hM5 : (9 - x2.toInt).toNat ≤ M5) : Ok (kJ7_fill_53178_9_5 k5 s x1 x2 x3) (Q_kJ7_fill_53178_9 s0) := by
  unfold kJ7_fill_53178_9_5
  refine ok_ite (fun c_1 => ?_) (fun c_1 => ?_)
  · have c_1 := tn_le (a := (x3).toInt) (b := (x2).toInt) rfl rfl c_1
    exact ok_some (trivial)
  · have c_1 := tn_nle (a := (x3).toInt) (b := (x2).toInt) rfl rfl c_1
    refine ok_grd (vpb_ok (by omega) (by omega)) ?_
    refine ok_let (fun s3 hs3 => ?_)
    have a_2 : ((x2 + 1)).toInt = (x2).toInt + 1 := tn_add rfl (by decide) (by omega) (by omega)
    exact hk5 _ _ _ _ (by omega) (by omega) (by omega) (by omega) (by omega) (by omega) (by omega)
theorem okL_kJ7_fill_53178_9_5 (s0 : (Nat → Int32))  : ∀ (n : Nat) (s : (Nat → Int32)) (x1 : Int32) (x2 : Int32) (x3 : Int32), (9 - x2.toInt).toNat < n → 0 ≤ x1.toInt → x1.toInt ≤ 0 → 0 ≤ x2.toInt → x2.toInt ≤ 9 → 9 ≤ x3.toInt → x3.toInt ≤ 9 → Ok (kJ7_fill_53178_9_5L  n s x1 x2 x3) (Q_kJ7_fill_53178_9 s0) := by
  intro n
  induction n with
  | zero => intro s x1 x2 x3 hn; omega
  | succ n ih =>
    intro s x1 x2 x3 hn h_x1l h_x1u h_x2l h_x2u h_x3l h_x3u 
    exact ok_kJ7_fill_53178_9_5 s0 (kJ7_fill_53178_9_5L  n) ((9 - x2.toInt).toNat) (fun zs zx1 zx2 zx3 g0 g1 g2 g3 g4 g5  hm => ih zs zx1 zx2 zx3 (by omega) g0 g1 g2 g3 g4 g5 ) s x1 x2 x3 h_x1l h_x1u h_x2l h_x2u h_x3l h_x3u (Nat.le_refl _)
set_option maxHeartbeats 1000000 in
theorem ok_kJ7_fill_53178_9B (s0 : (Nat → Int32))  (s : (Nat → Int32)) (x1 : Int32) (h_x1l : 0 ≤ x1.toInt) (h_x1u : x1.toInt ≤ 0)  : Ok (kJ7_fill_53178_9  s x1) (Q_kJ7_fill_53178_9 s0) := by
  unfold kJ7_fill_53178_9
  have l_0 : (0 : Int32).toInt = 0 := by decide
  have l_9 : (9 : Int32).toInt = 9 := by decide
  exact okL_kJ7_fill_53178_9_5 s0  fu _ _ _ _ (by unfold fu; omega) (by omega) (by omega) (by decide) (by decide) (by decide) (by decide) 
theorem ok_kJ7_fill_53178_9 (s : (Nat → Int32)) (x1 : Int32) (h_x1l : 0 ≤ x1.toInt) (h_x1u : x1.toInt ≤ 0) : Ok (kJ7_fill_53178_9 s x1) (Q_kJ7_fill_53178_9 s) := ok_kJ7_fill_53178_9B s s x1 h_x1l h_x1u
noncomputable abbrev Q_kJ7_fill_53178_20 (s0 : (Nat → Int32)) (y : (Nat → Int32)) : Prop := True
set_option maxHeartbeats 1000000 in
theorem ok_kJ7_fill_53178_20_5 (s0 : (Nat → Int32)) (k5 : ((Nat → Int32)) → Int32 → Int32 → Int32 → Option ((Nat → Int32))) (M5 : Nat) (hk5 : ∀ (s : (Nat → Int32)) (x1 : Int32) (x2 : Int32) (x3 : Int32), -1 ≤ x1.toInt → x1.toInt ≤ 0 → 0 ≤ x2.toInt → x2.toInt ≤ 20 → 20 ≤ x3.toInt → x3.toInt ≤ 20 → (20 - x2.toInt).toNat < M5 → Ok (k5 s x1 x2 x3) (Q_kJ7_fill_53178_20 s0)) (s : (Nat → Int32)) (x1 : Int32) (x2 : Int32) (x3 : Int32) (h_x1l : -1 ≤ x1.toInt) (h_x1u : x1.toInt ≤ 0) (h_x2l : 0 ≤ x2.toInt) (h_x2u : x2.toInt ≤ 20) (h_x3l : 20 ≤ x3.toInt) (h_x3u : x3.toInt ≤ 20) (hM5 : (20 - x2.toInt).toNat ≤ M5) : Ok (kJ7_fill_53178_20_5 k5 s x1 x2 x3) (Q_kJ7_fill_53178_20 s0) := by
  unfold kJ7_fill_53178_20_5
  refine ok_ite (fun c_1 => ?_) (fun c_1 => ?_)
  · have c_1 := tn_le (a := (x3).toInt) (b := (x2).toInt) rfl rfl c_1
    exact ok_some (trivial)
  · have c_1 := tn_nle (a := (x3).toInt) (b := (x2).toInt) rfl rfl c_1
    refine ok_grd (vpb_ok (by omega) (by omega)) ?_
    refine ok_let (fun s3 hs3 => ?_)
    have a_2 : ((x2 + 1)).toInt = (x2).toInt + 1 := tn_add rfl (by decide) (by omega) (by omega)
    exact hk5 _ _ _ _ (by omega) (by omega) (by omega) (by omega) (by omega) (by omega) (by omega)
theorem okL_kJ7_fill_53178_20_5 (s0 : (Nat → Int32))  : ∀ (n : Nat) (s : (Nat → Int32)) (x1 : Int32) (x2 : Int32) (x3 : Int32), (20 - x2.toInt).toNat < n → -1 ≤ x1.toInt → x1.toInt ≤ 0 → 0 ≤ x2.toInt → x2.toInt ≤ 20 → 20 ≤ x3.toInt → x3.toInt ≤ 20 → Ok (kJ7_fill_53178_20_5L  n s x1 x2 x3) (Q_kJ7_fill_53178_20 s0) := by
  intro n
  induction n with
  | zero => intro s x1 x2 x3 hn; omega
  | succ n ih =>
    intro s x1 x2 x3 hn h_x1l h_x1u h_x2l h_x2u h_x3l h_x3u 
    exact ok_kJ7_fill_53178_20_5 s0 (kJ7_fill_53178_20_5L  n) ((20 - x2.toInt).toNat) (fun zs zx1 zx2 zx3 g0 g1 g2 g3 g4 g5  hm => ih zs zx1 zx2 zx3 (by omega) g0 g1 g2 g3 g4 g5 ) s x1 x2 x3 h_x1l h_x1u h_x2l h_x2u h_x3l h_x3u (Nat.le_refl _)
set_option maxHeartbeats 1000000 in
theorem ok_kJ7_fill_53178_20B (s0 : (Nat → Int32))  (s : (Nat → Int32)) (x1 : Int32) (h_x1l : -1 ≤ x1.toInt) (h_x1u : x1.toInt ≤ 0)  : Ok (kJ7_fill_53178_20  s x1) (Q_kJ7_fill_53178_20 s0) := by
  unfold kJ7_fill_53178_20
  have l_0 : (0 : Int32).toInt = 0 := by decide
  have l_20 : (20 : Int32).toInt = 20 := by decide
  exact okL_kJ7_fill_53178_20_5 s0  fu _ _ _ _ (by unfold fu; omega) (by omega) (by omega) (by decide) (by decide) (by decide) (by decide) 
theorem ok_kJ7_fill_53178_20 (s : (Nat → Int32)) (x1 : Int32) (h_x1l : -1 ≤ x1.toInt) (h_x1u : x1.toInt ≤ 0) : Ok (kJ7_fill_53178_20 s x1) (Q_kJ7_fill_53178_20 s) := ok_kJ7_fill_53178_20B s s x1 h_x1l h_x1u
noncomputable abbrev Q_kX0_clearVars (s0 : JS) (y : JS) : Prop := InvK y.k ∧ FrK [113] s0.k y.k
set_option maxHeartbeats 1000000 in
theorem ok_kX0_clearVarsB (s0 : JS)  (s : JS) (hI_s_k : InvK s.k) (hF_s_k : FrK [113] s0.k s.k)  : Ok (kX0_clearVars  s) (Q_kX0_clearVars s0) := by
  unfold kX0_clearVars
  refine ok_bindP (ok_kJ7_fill_53178_9 _ _ (by decide) (by decide)) (fun s1 hc_1 => ?_)
  refine ok_let (fun s2 hs2 => ?_)
  have hI_s2_k : InvK s2.k := by rw [← hs2]; exact hI_s_k.saF (k := 13) rfl rfl
  have hF_s2_k : FrK [113] s0.k s2.k := by rw [← hs2]; exact hF_s_k.sa (k := 13) (by decide)
  refine ok_let (fun s4 hs4 => ?_)
  have hI_s4_k : InvK s4.k := by rw [← hs4]; exact hI_s2_k.sfF (k := 13) rfl rfl
  have hF_s4_k : FrK [113] s0.k s4.k := by rw [← hs4]; exact hF_s2_k.sf (k := 13) (by decide)
  exact ok_some ⟨hI_s4_k, hF_s4_k⟩
theorem ok_kX0_clearVars (s : JS) (hI_s_k : InvK s.k) : Ok (kX0_clearVars s) (Q_kX0_clearVars s) := ok_kX0_clearVarsB s s hI_s_k FrK.rfl
noncomputable abbrev Q_kX0_setWave (s0 : JS) (y : JS) : Prop := InvK y.k ∧ FrK [113] s0.k y.k
set_option maxHeartbeats 1000000 in
theorem ok_kX0_setWaveB (s0 : JS)  (s : JS) (x2 : Int32) (hI_s_k : InvK s.k) (hF_s_k : FrK [113] s0.k s.k) (h_x2l : 0 ≤ x2.toInt) (h_x2u : x2.toInt ≤ 4)  : Ok (kX0_setWave  s x2) (Q_kX0_setWave s0) := by
  unfold kX0_setWave
  refine ok_let (fun s1 hs1 => ?_)
  have hI_s1_k : InvK s1.k := by rw [← hs1]; exact hI_s_k.sfF (k := 13) rfl rfl
  have hF_s1_k : FrK [113] s0.k s1.k := by rw [← hs1]; exact hF_s_k.sf (k := 13) (by decide)
  refine ok_bindI (ok_kX0_mayBe _ _ hI_s1_k (by omega) (by omega)) (fun r4 s3 hc_1 => ?_)
  have hI_s3_k : InvK s3.k := hc_1.1
  have hFc_s3_k : FrK [] s1.k s3.k := hc_1.2.1
  have hF_s3_k : FrK [113] s0.k s3.k := hF_s1_k.trans hFc_s3_k (by decide)
  refine ok_bindP (ok_kJ6_bitCount_0f7a4 _ ) (fun r5 hc_2 => ?_)
  refine ok_let (fun s6 hs6 => ?_)
  have hI_s6_k : InvK s6.k := by rw [← hs6]; exact hI_s3_k.sfF (k := 13) rfl rfl
  have hF_s6_k : FrK [113] s0.k s6.k := by rw [← hs6]; exact hF_s3_k.sf (k := 13) (by decide)
  refine ok_grd (vpb_ok (by omega) (by omega)) ?_
  refine ok_bindP (ok_kJ6_bitCount_0f7a4 _ ) (fun r9 hc_3 => ?_)
  refine ok_let (fun s10 hs10 => ?_)
  have hI_s10_k : InvK s10.k := by rw [← hs10]; exact hI_s6_k.sfF (k := 13) rfl rfl
  have hF_s10_k : FrK [113] s0.k s10.k := by rw [← hs10]; exact hF_s6_k.sf (k := 13) (by decide)
  exact ok_some ⟨hI_s10_k, hF_s10_k⟩
theorem ok_kX0_setWave (s : JS) (x2 : Int32) (hI_s_k : InvK s.k) (h_x2l : 0 ≤ x2.toInt) (h_x2u : x2.toInt ≤ 4) : Ok (kX0_setWave s x2) (Q_kX0_setWave s) := ok_kX0_setWaveB s s x2 hI_s_k FrK.rfl h_x2l h_x2u
noncomputable abbrev Q_kX1_putNumber (s0 : KS) (y : KS) : Prop := InvK y ∧ FrK [12, 122] s0 y
set_option maxHeartbeats 1000000 in
theorem ok_kX1_putNumberB (s0 : KS)  (s : KS) (x1 : Int32) (hI_s : InvK s) (hF_s : FrK [12, 122] s0 s)  : Ok (kX1_putNumber  s x1) (Q_kX1_putNumber s0) := by
  unfold kX1_putNumber
  refine ok_bindP (ok_kX1_put _ _ hI_s) (fun s1 hc_1 => ?_)
  have hI_s1 : InvK s1 := hc_1.1
  have hFc_s1 : FrK [12, 122] s s1 := hc_1.2
  have hF_s1 : FrK [12, 122] s0 s1 := hF_s.trans hFc_s1 (by decide)
  exact ok_some ⟨hI_s1, hF_s1⟩
theorem ok_kX1_putNumber (s : KS) (x1 : Int32) (hI_s : InvK s) : Ok (kX1_putNumber s x1) (Q_kX1_putNumber s) := ok_kX1_putNumberB s s x1 hI_s FrK.rfl
noncomputable abbrev Q_kX1_putVar (s0 : KS) (y : KS) : Prop := InvK y ∧ FrK [12, 122] s0 y
set_option maxHeartbeats 1000000 in
theorem ok_kX1_putVarB (s0 : KS)  (s : KS) (x1 : Int32) (hI_s : InvK s) (hF_s : FrK [12, 122] s0 s) (h_x1l : 0 ≤ x1.toInt) (h_x1u : x1.toInt ≤ 8)  : Ok (kX1_putVar  s x1) (Q_kX1_putVar s0) := by
  unfold kX1_putVar
  have a_1 : (((-1) - x1)).toInt = (-1) - (x1).toInt := tn_sub (by decide) rfl (by omega) (by omega)
  refine ok_bindP (ok_kX1_put _ _ hI_s) (fun s1 hc_2 => ?_)
  have hI_s1 : InvK s1 := hc_2.1
  have hFc_s1 : FrK [12, 122] s s1 := hc_2.2
  have hF_s1 : FrK [12, 122] s0 s1 := hF_s.trans hFc_s1 (by decide)
  exact ok_some ⟨hI_s1, hF_s1⟩
theorem ok_kX1_putVar (s : KS) (x1 : Int32) (hI_s : InvK s) (h_x1l : 0 ≤ x1.toInt) (h_x1u : x1.toInt ≤ 8) : Ok (kX1_putVar s x1) (Q_kX1_putVar s) := ok_kX1_putVarB s s x1 hI_s FrK.rfl h_x1l h_x1u
noncomputable abbrev Q_kX1_putSign (s0 : KS) (y : KS) : Prop := InvK y ∧ FrK [12, 122] s0 y
set_option maxHeartbeats 1000000 in
theorem ok_kX1_putSignB (s0 : KS)  (s : KS) (x1 : Int32) (hI_s : InvK s) (hF_s : FrK [12, 122] s0 s)  : Ok (kX1_putSign  s x1) (Q_kX1_putSign s0) := by
  unfold kX1_putSign
  refine ok_bindP (ok_kX1_put _ _ hI_s) (fun s1 hc_1 => ?_)
  have hI_s1 : InvK s1 := hc_1.1
  have hFc_s1 : FrK [12, 122] s s1 := hc_1.2
  have hF_s1 : FrK [12, 122] s0 s1 := hF_s.trans hFc_s1 (by decide)
  exact ok_some ⟨hI_s1, hF_s1⟩
theorem ok_kX1_putSign (s : KS) (x1 : Int32) (hI_s : InvK s) : Ok (kX1_putSign s x1) (Q_kX1_putSign s) := ok_kX1_putSignB s s x1 hI_s FrK.rfl
noncomputable abbrev Q_kX1_partValue (s0 : KS) (y : Int32 × KS) : Prop := InvK y.2 ∧ FrK [7, 114] s0 y.2 ∧ -2147483648 ≤ y.1.toInt ∧ y.1.toInt ≤ 2147483647
set_option maxHeartbeats 1000000 in
theorem ok_kX1_partValue_156 (s0 : KS) (k53 : KS → Int32 → Int32 → Int32 → Option (Int32 × KS)) (M53 : Nat) (hk53 : ∀ (s : KS) (x4 : Int32) (x5 : Int32) (x6 : Int32), InvK s → FrK [7, 114] s0 s → 0 ≤ x4.toInt → x4.toInt ≤ 404 → 0 ≤ x5.toInt → x5.toInt ≤ 16 → 0 ≤ x6.toInt → x6.toInt ≤ 404 → (404 - x6.toInt).toNat < M53 → Ok (k53 s x4 x5 x6) (Q_kX1_partValue s0)) (s : KS) (x4 : Int32) (x5 : Int32) (x6 : Int32) (hI_s : InvK s) (hF_s : FrK [7, 114] s0 s) (h_x4l : 1 ≤ x4.toInt) (h_x4u : x4.toInt ≤ 404) (h_x5l : 0 ≤ x5.toInt) (h_x5u : x5.toInt ≤ 16) (h_x6l : 0 ≤ x6.toInt) (h_x6u : x6.toInt ≤ 403) (hM53 : (404 - x6.toInt).toNat ≤ M53) : Ok (kX1_partValue_156 k53 s x4 x5 x6) (Q_kX1_partValue s0) := by
  unfold kX1_partValue_156
  have a_1 : ((x6 + 1)).toInt = (x6).toInt + 1 := tn_add rfl (by decide) (by omega) (by omega)
  exact hk53 _ _ _ _ hI_s hF_s (by omega) (by omega) (by omega) (by omega) (by omega) (by omega) (by omega)
set_option maxHeartbeats 1000000 in
theorem ok_kX1_partValue_115 (s0 : KS) (k53 : KS → Int32 → Int32 → Int32 → Option (Int32 × KS)) (M53 : Nat) (hk53 : ∀ (s : KS) (x4 : Int32) (x5 : Int32) (x6 : Int32), InvK s → FrK [7, 114] s0 s → 0 ≤ x4.toInt → x4.toInt ≤ 404 → 0 ≤ x5.toInt → x5.toInt ≤ 16 → 0 ≤ x6.toInt → x6.toInt ≤ 404 → (404 - x6.toInt).toNat < M53 → Ok (k53 s x4 x5 x6) (Q_kX1_partValue s0)) (s : KS) (x4 : Int32) (x5 : Int32) (x6 : Int32) (x7 : Int32) (hI_s : InvK s) (hF_s : FrK [7, 114] s0 s) (h_x4l : 1 ≤ x4.toInt) (h_x4u : x4.toInt ≤ 404) (h_x5l : 0 ≤ x5.toInt) (h_x5u : x5.toInt ≤ 16) (h_x6l : 0 ≤ x6.toInt) (h_x6u : x6.toInt ≤ 403) (hM53 : (404 - x6.toInt).toNat ≤ M53) : Ok (kX1_partValue_115 k53 s x4 x5 x6 x7) (Q_kX1_partValue s0) := by
  unfold kX1_partValue_115
  rw [show x5 + (-1) = x5 - 1 from (Int32.sub_eq_add_neg x5 1).symm]
  refine ok_ite (fun c_1 => ?_) (fun c_1 => ?_)
  · have c_1 := tn_lt (a := (x5).toInt) (b := 2) rfl (by decide) c_1
    exact ok_kX1_partValue_156 s0 k53 M53 hk53 _ _ _ _ hI_s hF_s (by omega) (by omega) (by omega) (by omega) (by omega) (by omega) (by omega)
  · have c_1 := tn_nlt (a := (x5).toInt) (b := 2) rfl (by decide) c_1
    have a_2 : ((x5 - 1)).toInt = (x5).toInt - 1 := tn_sub rfl (by decide) (by omega) (by omega)
    have a_3 : (((x5 - 1) - 1)).toInt = ((x5 - 1)).toInt - 1 := tn_sub rfl (by decide) (by omega) (by omega)
    refine ok_grd (vpb_ok (by omega) (by omega)) ?_
    refine ok_grd (vpb_ok (by omega) (by omega)) ?_
    refine ok_bindI (ok_kX1_joined _ _ _ _ hI_s) (fun r5 s4 hc_4 => ?_)
    have hI_s4 : InvK s4 := hc_4.1
    have hFc_s4 : FrK [7] s s4 := hc_4.2.1
    have hF_s4 : FrK [7, 114] s0 s4 := hF_s.trans hFc_s4 (by decide)
    refine ok_grd (vpb_ok (by omega) (by omega)) ?_
    refine ok_let (fun s7 hs7 => ?_)
    have hI_s7 : InvK s7 := by rw [← hs7]; exact hI_s4.sfF (k := 14) rfl rfl
    have hF_s7 : FrK [7, 114] s0 s7 := by rw [← hs7]; exact hF_s4.sf (k := 14) (by decide)
    exact ok_kX1_partValue_156 s0 k53 M53 hk53 _ _ _ _ hI_s7 hF_s7 (by omega) (by omega) (by omega) (by omega) (by omega) (by omega) (by omega)
set_option maxHeartbeats 1000000 in
theorem ok_kX1_partValue_108 (s0 : KS) (k53 : KS → Int32 → Int32 → Int32 → Option (Int32 × KS)) (M53 : Nat) (hk53 : ∀ (s : KS) (x4 : Int32) (x5 : Int32) (x6 : Int32), InvK s → FrK [7, 114] s0 s → 0 ≤ x4.toInt → x4.toInt ≤ 404 → 0 ≤ x5.toInt → x5.toInt ≤ 16 → 0 ≤ x6.toInt → x6.toInt ≤ 404 → (404 - x6.toInt).toNat < M53 → Ok (k53 s x4 x5 x6) (Q_kX1_partValue s0)) (s : KS) (x4 : Int32) (x5 : Int32) (x6 : Int32) (t0 : Int32) (t1 : Int32) (hI_s : InvK s) (hF_s : FrK [7, 114] s0 s) (h_x4l : 1 ≤ x4.toInt) (h_x4u : x4.toInt ≤ 404) (h_x5l : 0 ≤ x5.toInt) (h_x5u : x5.toInt ≤ 15) (h_x6l : 0 ≤ x6.toInt) (h_x6u : x6.toInt ≤ 403) (h_t1l : 0 ≤ t1.toInt) (h_t1u : t1.toInt ≤ 15) (hM53 : (404 - x6.toInt).toNat ≤ M53) : Ok (kX1_partValue_108 k53 s x4 x5 x6 t0 t1) (Q_kX1_partValue s0) := by
  unfold kX1_partValue_108
  refine ok_grd (vpb_ok (by omega) (by omega)) ?_
  refine ok_let (fun s2 hs2 => ?_)
  have hI_s2 : InvK s2 := by rw [← hs2]; exact hI_s.sfF (k := 14) rfl rfl
  have hF_s2 : FrK [7, 114] s0 s2 := by rw [← hs2]; exact hF_s.sf (k := 14) (by decide)
  have a_1 : ((x5 + 1)).toInt = (x5).toInt + 1 := tn_add rfl (by decide) (by omega) (by omega)
  exact ok_kX1_partValue_156 s0 k53 M53 hk53 _ _ _ _ hI_s2 hF_s2 (by omega) (by omega) (by omega) (by omega) (by omega) (by omega) (by omega)
set_option maxHeartbeats 1000000 in
theorem ok_kX1_partValue_53 (s0 : KS) (k53 : KS → Int32 → Int32 → Int32 → Option (Int32 × KS)) (M53 : Nat) (hk53 : ∀ (s : KS) (x4 : Int32) (x5 : Int32) (x6 : Int32), InvK s → FrK [7, 114] s0 s → 0 ≤ x4.toInt → x4.toInt ≤ 404 → 0 ≤ x5.toInt → x5.toInt ≤ 16 → 0 ≤ x6.toInt → x6.toInt ≤ 404 → (404 - x6.toInt).toNat < M53 → Ok (k53 s x4 x5 x6) (Q_kX1_partValue s0)) (s : KS) (x4 : Int32) (x5 : Int32) (x6 : Int32) (hI_s : InvK s) (hF_s : FrK [7, 114] s0 s) (h_x4l : 0 ≤ x4.toInt) (h_x4u : x4.toInt ≤ 404) (h_x5l : 0 ≤ x5.toInt) (h_x5u : x5.toInt ≤ 16) (h_x6l : 0 ≤ x6.toInt) (h_x6u : x6.toInt ≤ 404) (hM53 : (404 - x6.toInt).toNat ≤ M53) : Ok (kX1_partValue_53 k53 s x4 x5 x6) (Q_kX1_partValue s0) := by
  unfold kX1_partValue_53
  refine ok_ite (fun c_1 => ?_) (fun c_1 => ?_)
  · have c_1 := tn_le (a := (x4).toInt) (b := (x6).toInt) rfl rfl c_1
    exact ok_some ⟨hI_s, hF_s, (ti_rng _).1, (ti_rng _).2⟩
  · have c_1 := tn_nle (a := (x4).toInt) (b := (x6).toInt) rfl rfl c_1
    refine ok_grd (vpb_ok (by omega) (by omega)) ?_
    refine ok_ite (fun c_2 => ?_) (fun c_2 => ?_)
    · have c_2 := tn_lt (a := (((s.f 9) (Int32.toNatClampNeg x6))).toInt) (b := (-9)) rfl (by decide) c_2
      exact ok_kX1_partValue_115 s0 k53 M53 hk53 _ _ _ _ _ hI_s hF_s (by omega) (by omega) (by omega) (by omega) (by omega) (by omega) (by omega)
    · have c_2 := tn_nlt (a := (((s.f 9) (Int32.toNatClampNeg x6))).toInt) (b := (-9)) rfl (by decide) c_2
      refine ok_ite (fun c_3 => ?_) (fun c_3 => ?_)
      · have c_3 := tn_le (a := 16) (b := (x5).toInt) (by decide) rfl c_3
        exact ok_kX1_partValue_115 s0 k53 M53 hk53 _ _ _ _ _ hI_s hF_s (by omega) (by omega) (by omega) (by omega) (by omega) (by omega) (by omega)
      · have c_3 := tn_nle (a := 16) (b := (x5).toInt) (by decide) rfl c_3
        refine ok_ite (fun c_4 => ?_) (fun c_4 => ?_)
        · have c_4 := tn_lt (a := (((s.f 9) (Int32.toNatClampNeg x6))).toInt) (b := 0) rfl (by decide) c_4
          have a_5 : (((-1) - ((s.f 9) (Int32.toNatClampNeg x6)))).toInt = (-1) - (((s.f 9) (Int32.toNatClampNeg x6))).toInt := tn_sub (by decide) rfl (by omega) (by omega)
          refine ok_grd (vpb_ok (by omega) (by omega)) ?_
          exact ok_kX1_partValue_108 s0 k53 M53 hk53 _ _ _ _ _ _ hI_s hF_s (by omega) (by omega) (by omega) (by omega) (by omega) (by omega) (by omega) (by omega) (by omega)
        · have c_4 := tn_nlt (a := (((s.f 9) (Int32.toNatClampNeg x6))).toInt) (b := 0) rfl (by decide) c_4
          exact ok_kX1_partValue_108 s0 k53 M53 hk53 _ _ _ _ _ _ hI_s hF_s (by omega) (by omega) (by omega) (by omega) (by omega) (by omega) (by omega) (by omega) (by omega)
theorem okL_kX1_partValue_53 (s0 : KS)  : ∀ (n : Nat) (s : KS) (x4 : Int32) (x5 : Int32) (x6 : Int32), (404 - x6.toInt).toNat < n → InvK s → FrK [7, 114] s0 s → 0 ≤ x4.toInt → x4.toInt ≤ 404 → 0 ≤ x5.toInt → x5.toInt ≤ 16 → 0 ≤ x6.toInt → x6.toInt ≤ 404 → Ok (kX1_partValue_53L  n s x4 x5 x6) (Q_kX1_partValue s0) := by
  intro n
  induction n with
  | zero => intro s x4 x5 x6 hn; omega
  | succ n ih =>
    intro s x4 x5 x6 hn hI_s hF_s h_x4l h_x4u h_x5l h_x5u h_x6l h_x6u 
    exact ok_kX1_partValue_53 s0 (kX1_partValue_53L  n) ((404 - x6.toInt).toNat) (fun zs zx4 zx5 zx6 g0 g1 g2 g3 g4 g5 g6 g7  hm => ih zs zx4 zx5 zx6 (by omega) g0 g1 g2 g3 g4 g5 g6 g7 ) s x4 x5 x6 hI_s hF_s h_x4l h_x4u h_x5l h_x5u h_x6l h_x6u (Nat.le_refl _)
set_option maxHeartbeats 1000000 in
theorem ok_kX1_partValue_51 (s0 : KS)  (s : KS) (x4 : Int32) (x5 : Int32) (t0 : Int32) (hI_s : InvK s) (hF_s : FrK [7, 114] s0 s) (h_x4l : 0 ≤ x4.toInt) (h_x4u : x4.toInt ≤ 404) (h_x5l : 0 ≤ x5.toInt) (h_x5u : x5.toInt ≤ 0) (h_t0l : 0 ≤ t0.toInt) (h_t0u : t0.toInt ≤ 404)  : Ok (kX1_partValue_51  s x4 x5 t0) (Q_kX1_partValue s0) := by
  unfold kX1_partValue_51
  exact okL_kX1_partValue_53 s0  fu _ _ _ _ (by unfold fu; omega) hI_s hF_s (by omega) (by omega) (by omega) (by omega) (by omega) (by omega) 
set_option maxHeartbeats 1000000 in
theorem ok_kX1_partValueB (s0 : KS)  (s : KS) (x1 : Int32) (x2 : Int32) (hI_s : InvK s) (hF_s : FrK [7, 114] s0 s) (h_x1l : 0 ≤ x1.toInt) (h_x1u : x1.toInt ≤ 3) (h_x2l : -1 ≤ x2.toInt) (h_x2u : x2.toInt ≤ 12)  : Ok (kX1_partValue  s x1 x2) (Q_kX1_partValue s0) := by
  unfold kX1_partValue
  refine ok_ite (fun c_1 => ?_) (fun c_1 => ?_)
  · have c_1 := tn_lt (a := (x2).toInt) (b := 0) rfl (by decide) c_1
    exact ok_some ⟨hI_s, hF_s, (ti_rng _).1, (ti_rng _).2⟩
  · have c_1 := tn_nlt (a := (x2).toInt) (b := 0) rfl (by decide) c_1
    refine ok_ite (fun c_2 => ?_) (fun c_2 => ?_)
    · have c_2 := tn_lt (a := (x2).toInt) (b := 13) rfl (by decide) c_2
      have a_3 : ((x1 * 13)).toInt = (x1).toInt * 13 := ti_mulc (c := 13) (by decide) (by omega) (by omega)
      have a_4 : (((x1 * 13) + x2)).toInt = ((x1 * 13)).toInt + (x2).toInt := tn_add rfl rfl (by omega) (by omega)
      refine ok_grd (vpb_ok (by omega) (by omega)) ?_
      refine ok_ite (fun c_5 => ?_) (fun c_5 => ?_)
      · have c_5 := tn_eq (a := (x2).toInt) (b := 0) rfl (by decide) c_5
        refine ok_grd (vpb_ok (by omega) (by omega)) ?_
        have a_6 : 0 ≤ (((s.f 10) (Int32.toNatClampNeg ((x1 * 13) + x2)))).toInt ∧ (((s.f 10) (Int32.toNatClampNeg ((x1 * 13) + x2)))).toInt ≤ 404 := hI_s.2 10 _
        have a_7 : 0 ≤ (((s.f 11) (Int32.toNatClampNeg x1))).toInt ∧ (((s.f 11) (Int32.toNatClampNeg x1))).toInt ≤ 404 := hI_s.2 11 _
        have l_0 : (0 : Int32).toInt = 0 := by decide
        exact ok_kX1_partValue_51 s0  _ _ _ _ hI_s hF_s (by omega) (by omega) (by decide) (by decide) (by omega) (by omega) 
      · have c_5 := tn_ne (a := (x2).toInt) (b := 0) rfl (by decide) c_5
        have a_8 : ((((x1 * 13) + x2) - 1)).toInt = (((x1 * 13) + x2)).toInt - 1 := tn_sub rfl (by decide) (by omega) (by omega)
        refine ok_grd (vpb_ok (by omega) (by omega)) ?_
        have a_9 : 0 ≤ (((s.f 10) (Int32.toNatClampNeg ((x1 * 13) + x2)))).toInt ∧ (((s.f 10) (Int32.toNatClampNeg ((x1 * 13) + x2)))).toInt ≤ 404 := hI_s.2 10 _
        have a_10 : 0 ≤ (((s.f 10) (Int32.toNatClampNeg (((x1 * 13) + x2) - 1)))).toInt ∧ (((s.f 10) (Int32.toNatClampNeg (((x1 * 13) + x2) - 1)))).toInt ≤ 404 := hI_s.2 10 _
        have l_0 : (0 : Int32).toInt = 0 := by decide
        exact ok_kX1_partValue_51 s0  _ _ _ _ hI_s hF_s (by omega) (by omega) (by decide) (by decide) (by omega) (by omega) 
    · have c_2 := tn_nlt (a := (x2).toInt) (b := 13) rfl (by decide) c_2
      omega
theorem ok_kX1_partValue (s : KS) (x1 : Int32) (x2 : Int32) (hI_s : InvK s) (h_x1l : 0 ≤ x1.toInt) (h_x1u : x1.toInt ≤ 3) (h_x2l : -1 ≤ x2.toInt) (h_x2u : x2.toInt ≤ 12) : Ok (kX1_partValue s x1 x2) (Q_kX1_partValue s) := ok_kX1_partValueB s s x1 x2 hI_s FrK.rfl h_x1l h_x1u h_x2l h_x2u
noncomputable abbrev Q_kX2_mayCount (s0 : JS) (y : Int32 × JS) : Prop := InvK y.2.k ∧ FrK [] s0.k y.2.k ∧ -2147483648 ≤ y.1.toInt ∧ y.1.toInt ≤ 2147483647
set_option maxHeartbeats 1000000 in
theorem ok_kX2_mayCountB (s0 : JS)  (s : JS) (x2 : Int32) (hI_s_k : InvK s.k) (hF_s_k : FrK [] s0.k s.k) (h_x2l : 0 ≤ x2.toInt) (h_x2u : x2.toInt ≤ 4)  : Ok (kX2_mayCount  s x2) (Q_kX2_mayCount s0) := by
  unfold kX2_mayCount
  refine ok_bindI (ok_kX0_mayBe _ _ hI_s_k (by omega) (by omega)) (fun r2 s1 hc_1 => ?_)
  have hI_s1_k : InvK s1.k := hc_1.1
  have hFc_s1_k : FrK [] s.k s1.k := hc_1.2.1
  have hF_s1_k : FrK [] s0.k s1.k := hF_s_k.trans hFc_s1_k (by decide)
  refine ok_bindP (ok_kJ6_bitCount_0f7a4 _ ) (fun r3 hc_2 => ?_)
  exact ok_some ⟨hI_s1_k, hF_s1_k, (ti_rng _).1, (ti_rng _).2⟩
theorem ok_kX2_mayCount (s : JS) (x2 : Int32) (hI_s_k : InvK s.k) (h_x2l : 0 ≤ x2.toInt) (h_x2u : x2.toInt ≤ 4) : Ok (kX2_mayCount s x2) (Q_kX2_mayCount s) := ok_kX2_mayCountB s s x2 hI_s_k FrK.rfl h_x2l h_x2u
noncomputable abbrev Q_kX2_caseCount (s0 : JS) (y : Int32 × JS) : Prop := InvK y.2.k ∧ FrK [] s0.k y.2.k ∧ -2147483648 ≤ y.1.toInt ∧ y.1.toInt ≤ 2147483647
set_option maxHeartbeats 1000000 in
theorem ok_kX2_caseCount_4 (s0 : JS) (k4 : JS → Int32 → Int32 → Option (Int32 × JS)) (M4 : Nat) (hk4 : ∀ (s : JS) (x2 : Int32) (x3 : Int32), InvK s.k → FrK [] s0.k s.k → 0 ≤ x3.toInt → x3.toInt ≤ 5 → (5 - x3.toInt).toNat < M4 → Ok (k4 s x2 x3) (Q_kX2_caseCount s0)) (s : JS) (x2 : Int32) (x3 : Int32) (hI_s_k : InvK s.k) (hF_s_k : FrK [] s0.k s.k) (h_x3l : 0 ≤ x3.toInt) (h_x3u : x3.toInt ≤ 5) (hM4 : (5 - x3.toInt).toNat ≤ M4) : Ok (kX2_caseCount_4 k4 s x2 x3) (Q_kX2_caseCount s0) := by
  unfold kX2_caseCount_4
  have a_1 : 0 ≤ (s.k.v 1).toInt ∧ (s.k.v 1).toInt ≤ 5 := hI_s_k.1 1
  refine ok_ite (fun c_2 => ?_) (fun c_2 => ?_)
  · have c_2 := tn_le (a := ((s.k.v 1)).toInt) (b := (x3).toInt) rfl rfl c_2
    exact ok_some ⟨hI_s_k, hF_s_k, (ti_rng _).1, (ti_rng _).2⟩
  · have c_2 := tn_nle (a := ((s.k.v 1)).toInt) (b := (x3).toInt) rfl rfl c_2
    refine ok_bindI (ok_kX2_mayCount _ _ hI_s_k (by omega) (by omega)) (fun r3 s2 hc_3 => ?_)
    have hI_s2_k : InvK s2.k := hc_3.1
    have hFc_s2_k : FrK [] s.k s2.k := hc_3.2.1
    have hF_s2_k : FrK [] s0.k s2.k := hF_s_k.trans hFc_s2_k (by decide)
    have a_4 : ((x3 + 1)).toInt = (x3).toInt + 1 := tn_add rfl (by decide) (by omega) (by omega)
    exact hk4 _ _ _ hI_s2_k hF_s2_k (by omega) (by omega) (by omega)
theorem okL_kX2_caseCount_4 (s0 : JS)  : ∀ (n : Nat) (s : JS) (x2 : Int32) (x3 : Int32), (5 - x3.toInt).toNat < n → InvK s.k → FrK [] s0.k s.k → 0 ≤ x3.toInt → x3.toInt ≤ 5 → Ok (kX2_caseCount_4L  n s x2 x3) (Q_kX2_caseCount s0) := by
  intro n
  induction n with
  | zero => intro s x2 x3 hn; omega
  | succ n ih =>
    intro s x2 x3 hn hI_s_k hF_s_k h_x3l h_x3u 
    exact ok_kX2_caseCount_4 s0 (kX2_caseCount_4L  n) ((5 - x3.toInt).toNat) (fun zs zx2 zx3 g0 g1 g2 g3  hm => ih zs zx2 zx3 (by omega) g0 g1 g2 g3 ) s x2 x3 hI_s_k hF_s_k h_x3l h_x3u (Nat.le_refl _)
set_option maxHeartbeats 1000000 in
theorem ok_kX2_caseCountB (s0 : JS)  (s : JS) (hI_s_k : InvK s.k) (hF_s_k : FrK [] s0.k s.k)  : Ok (kX2_caseCount  s) (Q_kX2_caseCount s0) := by
  unfold kX2_caseCount
  have l_1 : (1 : Int32).toInt = 1 := by decide
  have l_0 : (0 : Int32).toInt = 0 := by decide
  exact okL_kX2_caseCount_4 s0  fu _ _ _ (by unfold fu; omega) hI_s_k hF_s_k (by decide) (by decide) 
theorem ok_kX2_caseCount (s : JS) (hI_s_k : InvK s.k) : Ok (kX2_caseCount s) (Q_kX2_caseCount s) := ok_kX2_caseCountB s s hI_s_k FrK.rfl
noncomputable abbrev Q_kX2_oddsIfMay (s0 : JS) (y : Int32 × JS) : Prop := InvK y.2.k ∧ FrK [] s0.k y.2.k ∧ -2147483648 ≤ y.1.toInt ∧ y.1.toInt ≤ 2147483647
set_option maxHeartbeats 1000000 in
theorem ok_kX2_oddsIfMayB (s0 : JS)  (s : JS) (x2 : Int32) (x3 : Int32) (hI_s_k : InvK s.k) (hF_s_k : FrK [] s0.k s.k) (h_x2l : 0 ≤ x2.toInt) (h_x2u : x2.toInt ≤ 4) (h_x3l : 0 ≤ x3.toInt) (h_x3u : x3.toInt ≤ 5)  : Ok (kX2_oddsIfMay  s x2 x3) (Q_kX2_oddsIfMay s0) := by
  unfold kX2_oddsIfMay
  refine ok_bindI (ok_kX0_mayBe _ _ hI_s_k (by omega) (by omega)) (fun r2 s1 hc_1 => ?_)
  have hI_s1_k : InvK s1.k := hc_1.1
  have hFc_s1_k : FrK [] s.k s1.k := hc_1.2.1
  have hF_s1_k : FrK [] s0.k s1.k := hF_s_k.trans hFc_s1_k (by decide)
  refine ok_bindP (ok_kX10_has _ _ ) (fun r3 hc_2 => ?_)
  have hl_r3 : 0 ≤ r3.toInt := hc_2.1
  have hu_r3 : r3.toInt ≤ 1 := hc_2.2
  refine ok_ite (fun c_3 => ?_) (fun c_3 => ?_)
  · have c_3 := tn_eq (a := (r3).toInt) (b := 0) rfl (by decide) c_3
    exact ok_some ⟨hI_s1_k, hF_s1_k, (ti_rng _).1, (ti_rng _).2⟩
  · have c_3 := tn_ne (a := (r3).toInt) (b := 0) rfl (by decide) c_3
    refine ok_bindI (ok_kX5_oddsAt _ _ _ hI_s1_k (by omega) (by omega) (by omega) (by omega)) (fun r6 s5 hc_4 => ?_)
    have hI_s5 : InvK s5 := hc_4.1
    have hFc_s5 : FrK [] s1.k s5 := hc_4.2.1
    have hF_s5 : FrK [] s0.k s5 := hF_s1_k.trans hFc_s5 (by decide)
    refine ok_let (fun s7 hs7 => ?_)
    have hI_s7_k : InvK s7.k := by rw [← hs7]; exact hI_s5
    have hF_s7_k : FrK [] s0.k s7.k := by rw [← hs7]; exact hF_s5
    exact ok_some ⟨hI_s7_k, hF_s7_k, (ti_rng _).1, (ti_rng _).2⟩
theorem ok_kX2_oddsIfMay (s : JS) (x2 : Int32) (x3 : Int32) (hI_s_k : InvK s.k) (h_x2l : 0 ≤ x2.toInt) (h_x2u : x2.toInt ≤ 4) (h_x3l : 0 ≤ x3.toInt) (h_x3u : x3.toInt ≤ 5) : Ok (kX2_oddsIfMay s x2 x3) (Q_kX2_oddsIfMay s) := ok_kX2_oddsIfMayB s s x2 x3 hI_s_k FrK.rfl h_x2l h_x2u h_x3l h_x3u
noncomputable abbrev Q_kX2_oddsOf (s0 : JS) (y : Int32 × JS) : Prop := InvK y.2.k ∧ FrK [] s0.k y.2.k ∧ -2147483648 ≤ y.1.toInt ∧ y.1.toInt ≤ 2147483647
set_option maxHeartbeats 1000000 in
theorem ok_kX2_oddsOf_5 (s0 : JS) (k5 : JS → Int32 → Int32 → Int32 → Option (Int32 × JS)) (M5 : Nat) (hk5 : ∀ (s : JS) (x2 : Int32) (x3 : Int32) (x4 : Int32), InvK s.k → FrK [] s0.k s.k → 0 ≤ x2.toInt → 0 ≤ x4.toInt → x4.toInt ≤ 5 → (5 - x4.toInt).toNat < M5 → Ok (k5 s x2 x3 x4) (Q_kX2_oddsOf s0)) (s : JS) (x2 : Int32) (x3 : Int32) (x4 : Int32) (hI_s_k : InvK s.k) (hF_s_k : FrK [] s0.k s.k) (h_x2l : 0 ≤ x2.toInt) (h_x4l : 0 ≤ x4.toInt) (h_x4u : x4.toInt ≤ 5) (hM5 : (5 - x4.toInt).toNat ≤ M5) : Ok (kX2_oddsOf_5 k5 s x2 x3 x4) (Q_kX2_oddsOf s0) := by
  unfold kX2_oddsOf_5
  have a_1 : 0 ≤ (s.k.v 1).toInt ∧ (s.k.v 1).toInt ≤ 5 := hI_s_k.1 1
  refine ok_ite (fun c_2 => ?_) (fun c_2 => ?_)
  · have c_2 := tn_le (a := ((s.k.v 1)).toInt) (b := (x4).toInt) rfl rfl c_2
    exact ok_some ⟨hI_s_k, hF_s_k, (ti_rng _).1, (ti_rng _).2⟩
  · have c_2 := tn_nle (a := ((s.k.v 1)).toInt) (b := (x4).toInt) rfl rfl c_2
    refine ok_bindP (ok_kX10_thingIn _ _ (by omega) (by omega)) (fun r2 hc_3 => ?_)
    have hx0_r2 : (0 ≤ (x2).toInt → 0 ≤ r2.toInt ∧ r2.toInt ≤ 5) := hc_3.2.2
    refine ok_bindI (ok_kX2_oddsIfMay _ _ _ hI_s_k (by omega) (by omega) (by omega) (by omega)) (fun r4 s3 hc_4 => ?_)
    have hI_s3_k : InvK s3.k := hc_4.1
    have hFc_s3_k : FrK [] s.k s3.k := hc_4.2.1
    have hF_s3_k : FrK [] s0.k s3.k := hF_s_k.trans hFc_s3_k (by decide)
    have a_5 : ((x4 + 1)).toInt = (x4).toInt + 1 := tn_add rfl (by decide) (by omega) (by omega)
    exact hk5 _ _ _ _ hI_s3_k hF_s3_k (by omega) (by omega) (by omega) (by omega)
theorem okL_kX2_oddsOf_5 (s0 : JS)  : ∀ (n : Nat) (s : JS) (x2 : Int32) (x3 : Int32) (x4 : Int32), (5 - x4.toInt).toNat < n → InvK s.k → FrK [] s0.k s.k → 0 ≤ x2.toInt → 0 ≤ x4.toInt → x4.toInt ≤ 5 → Ok (kX2_oddsOf_5L  n s x2 x3 x4) (Q_kX2_oddsOf s0) := by
  intro n
  induction n with
  | zero => intro s x2 x3 x4 hn; omega
  | succ n ih =>
    intro s x2 x3 x4 hn hI_s_k hF_s_k h_x2l h_x4l h_x4u 
    exact ok_kX2_oddsOf_5 s0 (kX2_oddsOf_5L  n) ((5 - x4.toInt).toNat) (fun zs zx2 zx3 zx4 g0 g1 g2 g3 g4  hm => ih zs zx2 zx3 zx4 (by omega) g0 g1 g2 g3 g4 ) s x2 x3 x4 hI_s_k hF_s_k h_x2l h_x4l h_x4u (Nat.le_refl _)
set_option maxHeartbeats 1000000 in
theorem ok_kX2_oddsOfB (s0 : JS)  (s : JS) (x2 : Int32) (hI_s_k : InvK s.k) (hF_s_k : FrK [] s0.k s.k) (h_x2l : 0 ≤ x2.toInt)  : Ok (kX2_oddsOf  s x2) (Q_kX2_oddsOf s0) := by
  unfold kX2_oddsOf
  have l_1 : (1 : Int32).toInt = 1 := by decide
  have l_0 : (0 : Int32).toInt = 0 := by decide
  exact okL_kX2_oddsOf_5 s0  fu _ _ _ _ (by unfold fu; omega) hI_s_k hF_s_k (by omega) (by decide) (by decide) 
theorem ok_kX2_oddsOf (s : JS) (x2 : Int32) (hI_s_k : InvK s.k) (h_x2l : 0 ≤ x2.toInt) : Ok (kX2_oddsOf s x2) (Q_kX2_oddsOf s) := ok_kX2_oddsOfB s s x2 hI_s_k FrK.rfl h_x2l
noncomputable abbrev Q_kX2_goesAtMost (s0 : JS) (y : Int32 × JS) : Prop := InvK y.2.k ∧ FrK [] s0.k y.2.k ∧ -2147483648 ≤ y.1.toInt ∧ y.1.toInt ≤ 2147483647
set_option maxHeartbeats 1000000 in
theorem ok_kX2_goesAtMost_4 (s0 : JS) (k4 : JS → Int32 → Int32 → Option (Int32 × JS)) (M4 : Nat) (hk4 : ∀ (s : JS) (x2 : Int32) (x3 : Int32), InvK s.k → FrK [] s0.k s.k → 0 ≤ x3.toInt → x3.toInt ≤ 5 → (5 - x3.toInt).toNat < M4 → Ok (k4 s x2 x3) (Q_kX2_goesAtMost s0)) (s : JS) (x2 : Int32) (x3 : Int32) (hI_s_k : InvK s.k) (hF_s_k : FrK [] s0.k s.k) (h_x3l : 0 ≤ x3.toInt) (h_x3u : x3.toInt ≤ 5) (hM4 : (5 - x3.toInt).toNat ≤ M4) : Ok (kX2_goesAtMost_4 k4 s x2 x3) (Q_kX2_goesAtMost s0) := by
  unfold kX2_goesAtMost_4
  have a_1 : 0 ≤ (s.k.v 1).toInt ∧ (s.k.v 1).toInt ≤ 5 := hI_s_k.1 1
  refine ok_ite (fun c_2 => ?_) (fun c_2 => ?_)
  · have c_2 := tn_le (a := ((s.k.v 1)).toInt) (b := (x3).toInt) rfl rfl c_2
    exact ok_some ⟨hI_s_k, hF_s_k, (ti_rng _).1, (ti_rng _).2⟩
  · have c_2 := tn_nle (a := ((s.k.v 1)).toInt) (b := (x3).toInt) rfl rfl c_2
    refine ok_bindI (ok_kX2_mayCount _ _ hI_s_k (by omega) (by omega)) (fun r3 s2 hc_3 => ?_)
    have hI_s2_k : InvK s2.k := hc_3.1
    have hFc_s2_k : FrK [] s.k s2.k := hc_3.2.1
    have hF_s2_k : FrK [] s0.k s2.k := hF_s_k.trans hFc_s2_k (by decide)
    have a_4 : ((x3 + 1)).toInt = (x3).toInt + 1 := tn_add rfl (by decide) (by omega) (by omega)
    exact hk4 _ _ _ hI_s2_k hF_s2_k (by omega) (by omega) (by omega)
theorem okL_kX2_goesAtMost_4 (s0 : JS)  : ∀ (n : Nat) (s : JS) (x2 : Int32) (x3 : Int32), (5 - x3.toInt).toNat < n → InvK s.k → FrK [] s0.k s.k → 0 ≤ x3.toInt → x3.toInt ≤ 5 → Ok (kX2_goesAtMost_4L  n s x2 x3) (Q_kX2_goesAtMost s0) := by
  intro n
  induction n with
  | zero => intro s x2 x3 hn; omega
  | succ n ih =>
    intro s x2 x3 hn hI_s_k hF_s_k h_x3l h_x3u 
    exact ok_kX2_goesAtMost_4 s0 (kX2_goesAtMost_4L  n) ((5 - x3.toInt).toNat) (fun zs zx2 zx3 g0 g1 g2 g3  hm => ih zs zx2 zx3 (by omega) g0 g1 g2 g3 ) s x2 x3 hI_s_k hF_s_k h_x3l h_x3u (Nat.le_refl _)
set_option maxHeartbeats 1000000 in
theorem ok_kX2_goesAtMostB (s0 : JS)  (s : JS) (hI_s_k : InvK s.k) (hF_s_k : FrK [] s0.k s.k)  : Ok (kX2_goesAtMost  s) (Q_kX2_goesAtMost s0) := by
  unfold kX2_goesAtMost
  have l_1 : (1 : Int32).toInt = 1 := by decide
  have l_0 : (0 : Int32).toInt = 0 := by decide
  exact okL_kX2_goesAtMost_4 s0  fu _ _ _ (by unfold fu; omega) hI_s_k hF_s_k (by decide) (by decide) 
theorem ok_kX2_goesAtMost (s : JS) (hI_s_k : InvK s.k) : Ok (kX2_goesAtMost s) (Q_kX2_goesAtMost s) := ok_kX2_goesAtMostB s s hI_s_k FrK.rfl
noncomputable abbrev Q_kX2_leftBehind (s0 : JS) (y : Int32 × JS) : Prop := InvK y.2.k ∧ FrK [] s0.k y.2.k ∧ -2147483648 ≤ y.1.toInt ∧ y.1.toInt ≤ 2147483647
set_option maxHeartbeats 1000000 in
theorem ok_kX2_leftBehind_73 (s0 : JS) (k16 : JS → Int32 → Int32 → Int32 → Int32 → Option (Int32 × JS)) (M16 : Nat) (hk16 : ∀ (s : JS) (x2 : Int32) (x3 : Int32) (x4 : Int32) (x5 : Int32), InvK s.k → FrK [] s0.k s.k → -1 ≤ x5.toInt → x5.toInt ≤ 4 → (x5.toInt - (-1)).toNat < M16 → Ok (k16 s x2 x3 x4 x5) (Q_kX2_leftBehind s0)) (s : JS) (x2 : Int32) (x3 : Int32) (x4 : Int32) (x5 : Int32) (x6 : Int32) (hI_s_k : InvK s.k) (hF_s_k : FrK [] s0.k s.k) (h_x5l : 0 ≤ x5.toInt) (h_x5u : x5.toInt ≤ 4) (hM16 : (x5.toInt - (-1)).toNat ≤ M16) : Ok (kX2_leftBehind_73 k16 s x2 x3 x4 x5 x6) (Q_kX2_leftBehind s0) := by
  unfold kX2_leftBehind_73
  rw [show x5 + (-1) = x5 - 1 from (Int32.sub_eq_add_neg x5 1).symm]
  have a_1 : ((x5 - 1)).toInt = (x5).toInt - 1 := tn_sub rfl (by decide) (by omega) (by omega)
  exact hk16 _ _ _ _ _ hI_s_k hF_s_k (by omega) (by omega) (by omega)
set_option maxHeartbeats 1000000 in
theorem ok_kX2_leftBehind_16 (s0 : JS) (k16 : JS → Int32 → Int32 → Int32 → Int32 → Option (Int32 × JS)) (M16 : Nat) (hk16 : ∀ (s : JS) (x2 : Int32) (x3 : Int32) (x4 : Int32) (x5 : Int32), InvK s.k → FrK [] s0.k s.k → -1 ≤ x5.toInt → x5.toInt ≤ 4 → (x5.toInt - (-1)).toNat < M16 → Ok (k16 s x2 x3 x4 x5) (Q_kX2_leftBehind s0)) (s : JS) (x2 : Int32) (x3 : Int32) (x4 : Int32) (x5 : Int32) (hI_s_k : InvK s.k) (hF_s_k : FrK [] s0.k s.k) (h_x5l : -1 ≤ x5.toInt) (h_x5u : x5.toInt ≤ 4) (hM16 : (x5.toInt - (-1)).toNat ≤ M16) : Ok (kX2_leftBehind_16 k16 s x2 x3 x4 x5) (Q_kX2_leftBehind s0) := by
  unfold kX2_leftBehind_16
  refine ok_ite (fun c_1 => ?_) (fun c_1 => ?_)
  · have c_1 := tn_lt (a := (x5).toInt) (b := 0) rfl (by decide) c_1
    exact ok_some ⟨hI_s_k, hF_s_k, (ti_rng _).1, (ti_rng _).2⟩
  · have c_1 := tn_nlt (a := (x5).toInt) (b := 0) rfl (by decide) c_1
    refine ok_bindI (ok_kX2_mayCount _ _ hI_s_k (by omega) (by omega)) (fun r3 s2 hc_2 => ?_)
    have hI_s2_k : InvK s2.k := hc_2.1
    have hFc_s2_k : FrK [] s.k s2.k := hc_2.2.1
    have hF_s2_k : FrK [] s0.k s2.k := hF_s_k.trans hFc_s2_k (by decide)
    refine ok_bindI (ok_kX0_mayBe _ _ hI_s2_k (by omega) (by omega)) (fun r5 s4 hc_3 => ?_)
    have hI_s4_k : InvK s4.k := hc_3.1
    have hFc_s4_k : FrK [] s2.k s4.k := hc_3.2.1
    have hF_s4_k : FrK [] s0.k s4.k := hF_s2_k.trans hFc_s4_k (by decide)
    refine ok_bindP (ok_kX10_thingIn _ _ (by omega) (by omega)) (fun r6 hc_4 => ?_)
    have hx0_r6 : (0 ≤ (x2).toInt → 0 ≤ r6.toInt ∧ r6.toInt ≤ 5) := hc_4.2.2
    refine ok_bindP (ok_kX10_has _ _ ) (fun r7 hc_5 => ?_)
    have hl_r7 : 0 ≤ r7.toInt := hc_5.1
    have hu_r7 : r7.toInt ≤ 1 := hc_5.2
    refine ok_ite (fun c_6 => ?_) (fun c_6 => ?_)
    · have c_6 := tn_eq (a := (r7).toInt) (b := 0) rfl (by decide) c_6
      exact ok_kX2_leftBehind_73 s0 k16 M16 hk16 _ _ _ _ _ _ hI_s4_k hF_s4_k (by omega) (by omega) (by omega)
    · have c_6 := tn_ne (a := (r7).toInt) (b := 0) rfl (by decide) c_6
      have a_7 := tn_mmax (x := x3) (y := ((r3 - 1) * x4)) (a := (x3).toInt) (b := (((r3 - 1) * x4)).toInt) rfl rfl
      exact ok_kX2_leftBehind_73 s0 k16 M16 hk16 _ _ _ _ _ _ hI_s4_k hF_s4_k (by omega) (by omega) (by omega)
theorem okL_kX2_leftBehind_16 (s0 : JS)  : ∀ (n : Nat) (s : JS) (x2 : Int32) (x3 : Int32) (x4 : Int32) (x5 : Int32), (x5.toInt - (-1)).toNat < n → InvK s.k → FrK [] s0.k s.k → -1 ≤ x5.toInt → x5.toInt ≤ 4 → Ok (kX2_leftBehind_16L  n s x2 x3 x4 x5) (Q_kX2_leftBehind s0) := by
  intro n
  induction n with
  | zero => intro s x2 x3 x4 x5 hn; omega
  | succ n ih =>
    intro s x2 x3 x4 x5 hn hI_s_k hF_s_k h_x5l h_x5u 
    exact ok_kX2_leftBehind_16 s0 (kX2_leftBehind_16L  n) ((x5.toInt - (-1)).toNat) (fun zs zx2 zx3 zx4 zx5 g0 g1 g2 g3  hm => ih zs zx2 zx3 zx4 zx5 (by omega) g0 g1 g2 g3 ) s x2 x3 x4 x5 hI_s_k hF_s_k h_x5l h_x5u (Nat.le_refl _)
set_option maxHeartbeats 1000000 in
theorem ok_kX2_leftBehindB (s0 : JS)  (s : JS) (x2 : Int32) (hI_s_k : InvK s.k) (hF_s_k : FrK [] s0.k s.k)  : Ok (kX2_leftBehind  s x2) (Q_kX2_leftBehind s0) := by
  unfold kX2_leftBehind
  have a_1 : 0 ≤ (s.k.v 1).toInt ∧ (s.k.v 1).toInt ≤ 5 := hI_s_k.1 1
  have a_2 : (((s.k.v 1) - 1)).toInt = ((s.k.v 1)).toInt - 1 := tn_sub rfl (by decide) (by omega) (by omega)
  have l_1 : (1 : Int32).toInt = 1 := by decide
  exact okL_kX2_leftBehind_16 s0  fu _ _ _ _ _ (by unfold fu; omega) hI_s_k hF_s_k (by omega) (by omega) 
theorem ok_kX2_leftBehind (s : JS) (x2 : Int32) (hI_s_k : InvK s.k) : Ok (kX2_leftBehind s x2) (Q_kX2_leftBehind s) := ok_kX2_leftBehindB s s x2 hI_s_k FrK.rfl
noncomputable abbrev Q_kX2_wisestGuess (s0 : JS) (y : Int32 × JS) : Prop := InvK y.2.k ∧ FrK [] s0.k y.2.k ∧ -2147483648 ≤ y.1.toInt ∧ y.1.toInt ≤ 2147483647
set_option maxHeartbeats 1000000 in
theorem ok_kX2_wisestGuess_7 (s0 : JS) (k7 : JS → Int32 → Int32 → Int32 → Option (Int32 × JS)) (M7 : Nat) (hk7 : ∀ (s : JS) (x2 : Int32) (x3 : Int32) (x4 : Int32), InvK s.k → FrK [] s0.k s.k → 0 ≤ x4.toInt → x4.toInt ≤ 5 → (5 - x4.toInt).toNat < M7 → Ok (k7 s x2 x3 x4) (Q_kX2_wisestGuess s0)) (s : JS) (x2 : Int32) (x3 : Int32) (x4 : Int32) (hI_s_k : InvK s.k) (hF_s_k : FrK [] s0.k s.k) (h_x4l : 0 ≤ x4.toInt) (h_x4u : x4.toInt ≤ 5) (hM7 : (5 - x4.toInt).toNat ≤ M7) : Ok (kX2_wisestGuess_7 k7 s x2 x3 x4) (Q_kX2_wisestGuess s0) := by
  unfold kX2_wisestGuess_7
  have a_1 : 0 ≤ (s.k.v 1).toInt ∧ (s.k.v 1).toInt ≤ 5 := hI_s_k.1 1
  refine ok_ite (fun c_2 => ?_) (fun c_2 => ?_)
  · have c_2 := tn_le (a := ((s.k.v 1)).toInt) (b := (x4).toInt) rfl rfl c_2
    exact ok_some ⟨hI_s_k, hF_s_k, (ti_rng _).1, (ti_rng _).2⟩
  · have c_2 := tn_nle (a := ((s.k.v 1)).toInt) (b := (x4).toInt) rfl rfl c_2
    refine ok_bindI (ok_kX0_mayBe _ _ hI_s_k (by omega) (by omega)) (fun r3 s2 hc_3 => ?_)
    have hI_s2_k : InvK s2.k := hc_3.1
    have hFc_s2_k : FrK [] s.k s2.k := hc_3.2.1
    have hF_s2_k : FrK [] s0.k s2.k := hF_s_k.trans hFc_s2_k (by decide)
    refine ok_bindP (ok_kJ6_numberOfTrailingZeros_0f7a4 _ ) (fun r4 hc_4 => ?_)
    refine ok_bindI (ok_kX2_mayCount _ _ hI_s2_k (by omega) (by omega)) (fun r6 s5 hc_5 => ?_)
    have hI_s5_k : InvK s5.k := hc_5.1
    have hFc_s5_k : FrK [] s2.k s5.k := hc_5.2.1
    have hF_s5_k : FrK [] s0.k s5.k := hF_s2_k.trans hFc_s5_k (by decide)
    refine ok_ite (fun c_6 => ?_) (fun c_6 => ?_)
    · have c_6 := tn_le (a := (r6).toInt) (b := 1) rfl (by decide) c_6
      have a_7 : ((x4 + 1)).toInt = (x4).toInt + 1 := tn_add rfl (by decide) (by omega) (by omega)
      exact hk7 _ _ _ _ hI_s5_k hF_s5_k (by omega) (by omega) (by omega)
    · have c_6 := tn_nle (a := (r6).toInt) (b := 1) rfl (by decide) c_6
      exact ok_some ⟨hI_s5_k, hF_s5_k, (ti_rng _).1, (ti_rng _).2⟩
theorem okL_kX2_wisestGuess_7 (s0 : JS)  : ∀ (n : Nat) (s : JS) (x2 : Int32) (x3 : Int32) (x4 : Int32), (5 - x4.toInt).toNat < n → InvK s.k → FrK [] s0.k s.k → 0 ≤ x4.toInt → x4.toInt ≤ 5 → Ok (kX2_wisestGuess_7L  n s x2 x3 x4) (Q_kX2_wisestGuess s0) := by
  intro n
  induction n with
  | zero => intro s x2 x3 x4 hn; omega
  | succ n ih =>
    intro s x2 x3 x4 hn hI_s_k hF_s_k h_x4l h_x4u 
    exact ok_kX2_wisestGuess_7 s0 (kX2_wisestGuess_7L  n) ((5 - x4.toInt).toNat) (fun zs zx2 zx3 zx4 g0 g1 g2 g3  hm => ih zs zx2 zx3 zx4 (by omega) g0 g1 g2 g3 ) s x2 x3 x4 hI_s_k hF_s_k h_x4l h_x4u (Nat.le_refl _)
set_option maxHeartbeats 1000000 in
theorem ok_kX2_wisestGuessB (s0 : JS)  (s : JS) (hI_s_k : InvK s.k) (hF_s_k : FrK [] s0.k s.k)  : Ok (kX2_wisestGuess  s) (Q_kX2_wisestGuess s0) := by
  unfold kX2_wisestGuess
  have l_0 : (0 : Int32).toInt = 0 := by decide
  have l_1 : (1 : Int32).toInt = 1 := by decide
  exact okL_kX2_wisestGuess_7 s0  fu _ _ _ _ (by unfold fu; omega) hI_s_k hF_s_k (by decide) (by decide) 
theorem ok_kX2_wisestGuess (s : JS) (hI_s_k : InvK s.k) : Ok (kX2_wisestGuess s) (Q_kX2_wisestGuess s) := ok_kX2_wisestGuessB s s hI_s_k FrK.rfl
noncomputable abbrev Q_kX2_oddsApart (s0 : JS) (y : Int32 × JS) : Prop := InvK y.2.k ∧ FrK [] s0.k y.2.k ∧ 0 ≤ y.1.toInt ∧ y.1.toInt ≤ 2147483647
set_option maxHeartbeats 1000000 in
theorem ok_kX2_oddsApart_47 (s0 : JS) (k9 : JS → Int32 → Int32 → Int32 → Int32 → Option (Int32 × JS)) (M9 : Nat) (hk9 : ∀ (s : JS) (x2 : Int32) (x3 : Int32) (x4 : Int32) (x5 : Int32), InvK s.k → FrK [] s0.k s.k → 0 ≤ x2.toInt → x2.toInt ≤ 4 → 1 ≤ x3.toInt → x3.toInt ≤ 9 → 0 ≤ x4.toInt → 0 ≤ x5.toInt → x5.toInt ≤ 6 → (6 - x5.toInt).toNat < M9 → Ok (k9 s x2 x3 x4 x5) (Q_kX2_oddsApart s0)) (s : JS) (x2 : Int32) (x3 : Int32) (x4 : Int32) (x5 : Int32) (hI_s_k : InvK s.k) (hF_s_k : FrK [] s0.k s.k) (h_x2l : 0 ≤ x2.toInt) (h_x2u : x2.toInt ≤ 4) (h_x3l : 1 ≤ x3.toInt) (h_x3u : x3.toInt ≤ 9) (h_x4l : 0 ≤ x4.toInt) (h_x5l : 0 ≤ x5.toInt) (h_x5u : x5.toInt ≤ 5) (hM9 : (6 - x5.toInt).toNat ≤ M9) : Ok (kX2_oddsApart_47 k9 s x2 x3 x4 x5) (Q_kX2_oddsApart s0) := by
  unfold kX2_oddsApart_47
  have a_1 : ((x5 + 1)).toInt = (x5).toInt + 1 := tn_add rfl (by decide) (by omega) (by omega)
  exact hk9 _ _ _ _ _ hI_s_k hF_s_k (by omega) (by omega) (by omega) (by omega) (by omega) (by omega) (by omega) (by omega)
set_option maxHeartbeats 1000000 in
theorem ok_kX2_oddsApart_9 (s0 : JS) (k9 : JS → Int32 → Int32 → Int32 → Int32 → Option (Int32 × JS)) (M9 : Nat) (hk9 : ∀ (s : JS) (x2 : Int32) (x3 : Int32) (x4 : Int32) (x5 : Int32), InvK s.k → FrK [] s0.k s.k → 0 ≤ x2.toInt → x2.toInt ≤ 4 → 1 ≤ x3.toInt → x3.toInt ≤ 9 → 0 ≤ x4.toInt → 0 ≤ x5.toInt → x5.toInt ≤ 6 → (6 - x5.toInt).toNat < M9 → Ok (k9 s x2 x3 x4 x5) (Q_kX2_oddsApart s0)) (s : JS) (x2 : Int32) (x3 : Int32) (x4 : Int32) (x5 : Int32) (hI_s_k : InvK s.k) (hF_s_k : FrK [] s0.k s.k) (h_x2l : 0 ≤ x2.toInt) (h_x2u : x2.toInt ≤ 4) (h_x3l : 1 ≤ x3.toInt) (h_x3u : x3.toInt ≤ 9) (h_x4l : 0 ≤ x4.toInt) (h_x5l : 0 ≤ x5.toInt) (h_x5u : x5.toInt ≤ 6) (hM9 : (6 - x5.toInt).toNat ≤ M9) : Ok (kX2_oddsApart_9 k9 s x2 x3 x4 x5) (Q_kX2_oddsApart s0) := by
  unfold kX2_oddsApart_9
  refine ok_ite (fun c_1 => ?_) (fun c_1 => ?_)
  · have c_1 := tn_le (a := 6) (b := (x5).toInt) (by decide) rfl c_1
    have a_2 := tn_mmax (x := 0) (y := (x4 - x3)) (a := 0) (b := ((x4 - x3)).toInt) (by decide) rfl
    exact ok_some ⟨hI_s_k, hF_s_k, by show 0 ≤ ((mmax 0 (x4 - x3))).toInt; omega, (ti_rng _).2⟩
  · have c_1 := tn_nle (a := 6) (b := (x5).toInt) (by decide) rfl c_1
    refine ok_bindI (ok_kX2_oddsIfMay _ _ _ hI_s_k (by omega) (by omega) (by omega) (by omega)) (fun r3 s2 hc_3 => ?_)
    have hI_s2_k : InvK s2.k := hc_3.1
    have hFc_s2_k : FrK [] s.k s2.k := hc_3.2.1
    have hF_s2_k : FrK [] s0.k s2.k := hF_s_k.trans hFc_s2_k (by decide)
    refine ok_ite (fun c_4 => ?_) (fun c_4 => ?_)
    · have c_4 := tn_le (a := (r3).toInt) (b := 0) rfl (by decide) c_4
      exact ok_kX2_oddsApart_47 s0 k9 M9 hk9 _ _ _ _ _ hI_s2_k hF_s2_k (by omega) (by omega) (by omega) (by omega) (by omega) (by omega) (by omega) (by omega)
    · have c_4 := tn_nle (a := (r3).toInt) (b := 0) rfl (by decide) c_4
      have a_5 := tn_mmin (x := x3) (y := r3) (a := (x3).toInt) (b := (r3).toInt) rfl rfl
      have a_6 := tn_mmax (x := x4) (y := r3) (a := (x4).toInt) (b := (r3).toInt) rfl rfl
      exact ok_kX2_oddsApart_47 s0 k9 M9 hk9 _ _ _ _ _ hI_s2_k hF_s2_k (by omega) (by omega) (by omega) (by omega) (by omega) (by omega) (by omega) (by omega)
theorem okL_kX2_oddsApart_9 (s0 : JS)  : ∀ (n : Nat) (s : JS) (x2 : Int32) (x3 : Int32) (x4 : Int32) (x5 : Int32), (6 - x5.toInt).toNat < n → InvK s.k → FrK [] s0.k s.k → 0 ≤ x2.toInt → x2.toInt ≤ 4 → 1 ≤ x3.toInt → x3.toInt ≤ 9 → 0 ≤ x4.toInt → 0 ≤ x5.toInt → x5.toInt ≤ 6 → Ok (kX2_oddsApart_9L  n s x2 x3 x4 x5) (Q_kX2_oddsApart s0) := by
  intro n
  induction n with
  | zero => intro s x2 x3 x4 x5 hn; omega
  | succ n ih =>
    intro s x2 x3 x4 x5 hn hI_s_k hF_s_k h_x2l h_x2u h_x3l h_x3u h_x4l h_x5l h_x5u 
    exact ok_kX2_oddsApart_9 s0 (kX2_oddsApart_9L  n) ((6 - x5.toInt).toNat) (fun zs zx2 zx3 zx4 zx5 g0 g1 g2 g3 g4 g5 g6 g7 g8  hm => ih zs zx2 zx3 zx4 zx5 (by omega) g0 g1 g2 g3 g4 g5 g6 g7 g8 ) s x2 x3 x4 x5 hI_s_k hF_s_k h_x2l h_x2u h_x3l h_x3u h_x4l h_x5l h_x5u (Nat.le_refl _)
set_option maxHeartbeats 1000000 in
theorem ok_kX2_oddsApartB (s0 : JS)  (s : JS) (x2 : Int32) (hI_s_k : InvK s.k) (hF_s_k : FrK [] s0.k s.k) (h_x2l : 0 ≤ x2.toInt) (h_x2u : x2.toInt ≤ 4)  : Ok (kX2_oddsApart  s x2) (Q_kX2_oddsApart s0) := by
  unfold kX2_oddsApart
  have l_9 : (9 : Int32).toInt = 9 := by decide
  have l_0 : (0 : Int32).toInt = 0 := by decide
  exact okL_kX2_oddsApart_9 s0  fu _ _ _ _ _ (by unfold fu; omega) hI_s_k hF_s_k (by omega) (by omega) (by decide) (by decide) (by decide) (by decide) (by decide) 
theorem ok_kX2_oddsApart (s : JS) (x2 : Int32) (hI_s_k : InvK s.k) (h_x2l : 0 ≤ x2.toInt) (h_x2u : x2.toInt ≤ 4) : Ok (kX2_oddsApart s x2) (Q_kX2_oddsApart s) := ok_kX2_oddsApartB s s x2 hI_s_k FrK.rfl h_x2l h_x2u
noncomputable abbrev Q_kX2_fillRow_near (s0 : JS) (y : Int32 × JS) : Prop := InvK y.2.k ∧ FrK [137] s0.k y.2.k ∧ 1 ≤ y.1.toInt ∧ y.1.toInt ≤ 216
set_option maxHeartbeats 1000000 in
theorem ok_kX2_fillRow_near_39 (s0 : JS) (k10 : JS → Int32 → Int32 → Int32 → Option (Int32 × JS)) (M10 : Nat) (hk10 : ∀ (s : JS) (x4 : Int32) (x5 : Int32) (x6 : Int32), InvK s.k → FrK [137] s0.k s.k → 0 ≤ x4.toInt → x4.toInt ≤ 3 → 1 ≤ x5.toInt → x5.toInt ≤ 216 → 0 ≤ x6.toInt → x6.toInt ≤ 3 → (x6.toInt ≤ 0 → x5.toInt ≤ 1) → (x6.toInt ≤ 1 → x5.toInt ≤ 6) → (x6.toInt ≤ 2 → x5.toInt ≤ 36) → (3 - x6.toInt).toNat < M10 → Ok (k10 s x4 x5 x6) (Q_kX2_fillRow_near s0)) (k20 : JS → Int32 → Int32 → Int32 → Int32 → Option (Int32 × JS)) (M20 : Nat) (hk20 : ∀ (s : JS) (x4 : Int32) (x5 : Int32) (x6 : Int32) (x7 : Int32), InvK s.k → FrK [137] s0.k s.k → 1 ≤ x4.toInt → x4.toInt ≤ 3 → 1 ≤ x5.toInt → x5.toInt ≤ 36 → 0 ≤ x6.toInt → x6.toInt ≤ 2 → -1 ≤ x7.toInt → x7.toInt ≤ 5 → (x6.toInt ≤ 0 → x5.toInt ≤ 1) → (x6.toInt ≤ 1 → x5.toInt ≤ 6) → (x6.toInt ≤ 2 → x5.toInt ≤ 36) → (3 - x6.toInt).toNat ≤ M10 → (x7.toInt - (-1)).toNat < M20 → Ok (k20 s x4 x5 x6 x7) (Q_kX2_fillRow_near s0)) (k39 : JS → Int32 → Int32 → Int32 → Int32 → Int32 → Int32 → Option (Int32 × JS)) (M39 : Nat) (hk39 : ∀ (s : JS) (x4 : Int32) (x5 : Int32) (x6 : Int32) (x7 : Int32) (x8 : Int32) (x9 : Int32), InvK s.k → FrK [137] s0.k s.k → 1 ≤ x4.toInt → x4.toInt ≤ 3 → 1 ≤ x5.toInt → x5.toInt ≤ 36 → 0 ≤ x6.toInt → x6.toInt ≤ 2 → 0 ≤ x7.toInt → x7.toInt ≤ 5 → 0 ≤ x9.toInt → x9.toInt ≤ 36 → (x6.toInt ≤ 0 → x5.toInt ≤ 1) → (x6.toInt ≤ 1 → x5.toInt ≤ 6) → (x6.toInt ≤ 2 → x5.toInt ≤ 36) → (3 - x6.toInt).toNat ≤ M10 → (x7.toInt - (-1)).toNat ≤ M20 → (36 - x9.toInt).toNat < M39 → Ok (k39 s x4 x5 x6 x7 x8 x9) (Q_kX2_fillRow_near s0)) (s : JS) (x4 : Int32) (x5 : Int32) (x6 : Int32) (x7 : Int32) (x8 : Int32) (x9 : Int32) (hI_s_k : InvK s.k) (hF_s_k : FrK [137] s0.k s.k) (h_x4l : 1 ≤ x4.toInt) (h_x4u : x4.toInt ≤ 3) (h_x5l : 1 ≤ x5.toInt) (h_x5u : x5.toInt ≤ 36) (h_x6l : 0 ≤ x6.toInt) (h_x6u : x6.toInt ≤ 2) (h_x7l : 0 ≤ x7.toInt) (h_x7u : x7.toInt ≤ 5) (h_x9l : 0 ≤ x9.toInt) (h_x9u : x9.toInt ≤ 36) (hx0 : (x6.toInt ≤ 0 → x5.toInt ≤ 1)) (hx1 : (x6.toInt ≤ 1 → x5.toInt ≤ 6)) (hx2 : (x6.toInt ≤ 2 → x5.toInt ≤ 36)) (hM10 : (3 - x6.toInt).toNat ≤ M10) (hM20 : (x7.toInt - (-1)).toNat ≤ M20) (hM39 : (36 - x9.toInt).toNat ≤ M39) : Ok (kX2_fillRow_near_39 k10 k20 k39 s x4 x5 x6 x7 x8 x9) (Q_kX2_fillRow_near s0) := by
  unfold kX2_fillRow_near_39
  rw [show x7 + (-1) = x7 - 1 from (Int32.sub_eq_add_neg x7 1).symm]
  refine ok_ite (fun c_1 => ?_) (fun c_1 => ?_)
  · have c_1 := tn_le (a := (x5).toInt) (b := (x9).toInt) rfl rfl c_1
    have a_2 : ((x7 - 1)).toInt = (x7).toInt - 1 := tn_sub rfl (by decide) (by omega) (by omega)
    exact hk20 _ _ _ _ _ hI_s_k hF_s_k (by first | (clear hx0 hx1 hx2; omega) | omega) (by first | (clear hx0 hx1 hx2; omega) | omega) (by first | (clear hx0 hx1 hx2; omega) | omega) (by first | (clear hx0 hx1 hx2; omega) | omega) (by first | (clear hx0 hx1 hx2; omega) | omega) (by first | (clear hx0 hx1 hx2; omega) | omega) (by first | (clear hx0 hx1 hx2; omega) | omega) (by first | (clear hx0 hx1 hx2; omega) | omega) (by omega) (by omega) (by omega) (by first | (clear hx0 hx1 hx2; omega) | omega) (by first | (clear hx0 hx1 hx2; omega) | omega)
  · have c_1 := tn_nle (a := (x5).toInt) (b := (x9).toInt) rfl rfl c_1
    refine ok_grd (vpb_ok (by omega) (by omega)) ?_
    have a_3 : 0 ≤ ((x7 * x5)).toInt ∧ ((x7 * x5)).toInt ≤ 180 := ti_mulr (a := 5) (b := 36) (by omega) (by omega) (by omega) (by omega) (by decide)
    have a_4 : (((x7 * x5) + x9)).toInt = ((x7 * x5)).toInt + (x9).toInt := tn_add rfl rfl (by omega) (by omega)
    refine ok_grd (vpb_ok (by omega) (by omega)) ?_
    refine ok_let (fun s4 hs4 => ?_)
    have hI_s4_k : InvK s4.k := by rw [← hs4]; exact hI_s_k.sfF (k := 37) rfl rfl
    have hF_s4_k : FrK [137] s0.k s4.k := by rw [← hs4]; exact hF_s_k.sf (k := 37) (by decide)
    have a_5 : ((x9 + 1)).toInt = (x9).toInt + 1 := tn_add rfl (by decide) (by omega) (by omega)
    exact hk39 _ _ _ _ _ _ _ hI_s4_k hF_s4_k (by first | (clear hx0 hx1 hx2; omega) | omega) (by first | (clear hx0 hx1 hx2; omega) | omega) (by first | (clear hx0 hx1 hx2; omega) | omega) (by first | (clear hx0 hx1 hx2; omega) | omega) (by first | (clear hx0 hx1 hx2; omega) | omega) (by first | (clear hx0 hx1 hx2; omega) | omega) (by first | (clear hx0 hx1 hx2; omega) | omega) (by first | (clear hx0 hx1 hx2; omega) | omega) (by first | (clear hx0 hx1 hx2; omega) | omega) (by first | (clear hx0 hx1 hx2; omega) | omega) (by omega) (by omega) (by omega) (by first | (clear hx0 hx1 hx2; omega) | omega) (by first | (clear hx0 hx1 hx2; omega) | omega) (by first | (clear hx0 hx1 hx2; omega) | omega)
theorem okL_kX2_fillRow_near_39 (s0 : JS) (k10 : JS → Int32 → Int32 → Int32 → Option (Int32 × JS)) (M10 : Nat) (hk10 : ∀ (s : JS) (x4 : Int32) (x5 : Int32) (x6 : Int32), InvK s.k → FrK [137] s0.k s.k → 0 ≤ x4.toInt → x4.toInt ≤ 3 → 1 ≤ x5.toInt → x5.toInt ≤ 216 → 0 ≤ x6.toInt → x6.toInt ≤ 3 → (x6.toInt ≤ 0 → x5.toInt ≤ 1) → (x6.toInt ≤ 1 → x5.toInt ≤ 6) → (x6.toInt ≤ 2 → x5.toInt ≤ 36) → (3 - x6.toInt).toNat < M10 → Ok (k10 s x4 x5 x6) (Q_kX2_fillRow_near s0)) (k20 : JS → Int32 → Int32 → Int32 → Int32 → Option (Int32 × JS)) (M20 : Nat) (hk20 : ∀ (s : JS) (x4 : Int32) (x5 : Int32) (x6 : Int32) (x7 : Int32), InvK s.k → FrK [137] s0.k s.k → 1 ≤ x4.toInt → x4.toInt ≤ 3 → 1 ≤ x5.toInt → x5.toInt ≤ 36 → 0 ≤ x6.toInt → x6.toInt ≤ 2 → -1 ≤ x7.toInt → x7.toInt ≤ 5 → (x6.toInt ≤ 0 → x5.toInt ≤ 1) → (x6.toInt ≤ 1 → x5.toInt ≤ 6) → (x6.toInt ≤ 2 → x5.toInt ≤ 36) → (3 - x6.toInt).toNat ≤ M10 → (x7.toInt - (-1)).toNat < M20 → Ok (k20 s x4 x5 x6 x7) (Q_kX2_fillRow_near s0)) : ∀ (n : Nat) (s : JS) (x4 : Int32) (x5 : Int32) (x6 : Int32) (x7 : Int32) (x8 : Int32) (x9 : Int32), (36 - x9.toInt).toNat < n → InvK s.k → FrK [137] s0.k s.k → 1 ≤ x4.toInt → x4.toInt ≤ 3 → 1 ≤ x5.toInt → x5.toInt ≤ 36 → 0 ≤ x6.toInt → x6.toInt ≤ 2 → 0 ≤ x7.toInt → x7.toInt ≤ 5 → 0 ≤ x9.toInt → x9.toInt ≤ 36 → (x6.toInt ≤ 0 → x5.toInt ≤ 1) → (x6.toInt ≤ 1 → x5.toInt ≤ 6) → (x6.toInt ≤ 2 → x5.toInt ≤ 36) → (3 - x6.toInt).toNat ≤ M10 → (x7.toInt - (-1)).toNat ≤ M20 → Ok (kX2_fillRow_near_39L k10 k20 n s x4 x5 x6 x7 x8 x9) (Q_kX2_fillRow_near s0) := by
  intro n
  induction n with
  | zero => intro s x4 x5 x6 x7 x8 x9 hn; omega
  | succ n ih =>
    intro s x4 x5 x6 x7 x8 x9 hn hI_s_k hF_s_k h_x4l h_x4u h_x5l h_x5u h_x6l h_x6u h_x7l h_x7u h_x9l h_x9u hx0 hx1 hx2 hM10 hM20
    exact ok_kX2_fillRow_near_39 s0 k10 M10 hk10 k20 M20 hk20 (kX2_fillRow_near_39L k10 k20 n) ((36 - x9.toInt).toNat) (fun zs zx4 zx5 zx6 zx7 zx8 zx9 g0 g1 g2 g3 g4 g5 g6 g7 g8 g9 g10 g11 g12 g13 g14 o10 o20 hm => ih zs zx4 zx5 zx6 zx7 zx8 zx9 (by omega) g0 g1 g2 g3 g4 g5 g6 g7 g8 g9 g10 g11 g12 g13 g14 o10 o20) s x4 x5 x6 x7 x8 x9 hI_s_k hF_s_k h_x4l h_x4u h_x5l h_x5u h_x6l h_x6u h_x7l h_x7u h_x9l h_x9u hx0 hx1 hx2 hM10 hM20 (Nat.le_refl _)
set_option maxHeartbeats 1000000 in
theorem ok_kX2_fillRow_near_20 (s0 : JS) (k10 : JS → Int32 → Int32 → Int32 → Option (Int32 × JS)) (M10 : Nat) (hk10 : ∀ (s : JS) (x4 : Int32) (x5 : Int32) (x6 : Int32), InvK s.k → FrK [137] s0.k s.k → 0 ≤ x4.toInt → x4.toInt ≤ 3 → 1 ≤ x5.toInt → x5.toInt ≤ 216 → 0 ≤ x6.toInt → x6.toInt ≤ 3 → (x6.toInt ≤ 0 → x5.toInt ≤ 1) → (x6.toInt ≤ 1 → x5.toInt ≤ 6) → (x6.toInt ≤ 2 → x5.toInt ≤ 36) → (3 - x6.toInt).toNat < M10 → Ok (k10 s x4 x5 x6) (Q_kX2_fillRow_near s0)) (k20 : JS → Int32 → Int32 → Int32 → Int32 → Option (Int32 × JS)) (M20 : Nat) (hk20 : ∀ (s : JS) (x4 : Int32) (x5 : Int32) (x6 : Int32) (x7 : Int32), InvK s.k → FrK [137] s0.k s.k → 1 ≤ x4.toInt → x4.toInt ≤ 3 → 1 ≤ x5.toInt → x5.toInt ≤ 36 → 0 ≤ x6.toInt → x6.toInt ≤ 2 → -1 ≤ x7.toInt → x7.toInt ≤ 5 → (x6.toInt ≤ 0 → x5.toInt ≤ 1) → (x6.toInt ≤ 1 → x5.toInt ≤ 6) → (x6.toInt ≤ 2 → x5.toInt ≤ 36) → (3 - x6.toInt).toNat ≤ M10 → (x7.toInt - (-1)).toNat < M20 → Ok (k20 s x4 x5 x6 x7) (Q_kX2_fillRow_near s0)) (s : JS) (x4 : Int32) (x5 : Int32) (x6 : Int32) (x7 : Int32) (hI_s_k : InvK s.k) (hF_s_k : FrK [137] s0.k s.k) (h_x4l : 1 ≤ x4.toInt) (h_x4u : x4.toInt ≤ 3) (h_x5l : 1 ≤ x5.toInt) (h_x5u : x5.toInt ≤ 36) (h_x6l : 0 ≤ x6.toInt) (h_x6u : x6.toInt ≤ 2) (h_x7l : -1 ≤ x7.toInt) (h_x7u : x7.toInt ≤ 5) (hx0 : (x6.toInt ≤ 0 → x5.toInt ≤ 1)) (hx1 : (x6.toInt ≤ 1 → x5.toInt ≤ 6)) (hx2 : (x6.toInt ≤ 2 → x5.toInt ≤ 36)) (hM10 : (3 - x6.toInt).toNat ≤ M10) (hM20 : (x7.toInt - (-1)).toNat ≤ M20) : Ok (kX2_fillRow_near_20 k10 k20 s x4 x5 x6 x7) (Q_kX2_fillRow_near s0) := by
  unfold kX2_fillRow_near_20
  refine ok_ite (fun c_1 => ?_) (fun c_1 => ?_)
  · have c_1 := tn_lt (a := (x7).toInt) (b := 0) rfl (by decide) c_1
    have a_2 : ((x5 * 6)).toInt = (x5).toInt * 6 := ti_mulc (c := 6) (by decide) (by omega) (by omega)
    have a_3 : ((x6 + 1)).toInt = (x6).toInt + 1 := tn_add rfl (by decide) (by omega) (by omega)
    exact hk10 _ _ _ _ hI_s_k hF_s_k (by first | (clear hx0 hx1 hx2; omega) | omega) (by first | (clear hx0 hx1 hx2; omega) | omega) (by first | (clear hx0 hx1 hx2; omega) | omega) (by first | (clear hx0 hx1 hx2; omega) | omega) (by first | (clear hx0 hx1 hx2; omega) | omega) (by first | (clear hx0 hx1 hx2; omega) | omega) (by omega) (by omega) (by omega) (by first | (clear hx0 hx1 hx2; omega) | omega)
  · have c_1 := tn_nlt (a := (x7).toInt) (b := 0) rfl (by decide) c_1
    refine ok_bindI (ok_kX2_oddsIfMay _ _ _ hI_s_k (by omega) (by omega) (by omega) (by omega)) (fun r3 s2 hc_4 => ?_)
    have hI_s2_k : InvK s2.k := hc_4.1
    have hFc_s2_k : FrK [] s.k s2.k := hc_4.2.1
    have hF_s2_k : FrK [137] s0.k s2.k := hF_s_k.trans hFc_s2_k (by decide)
    have l_0 : (0 : Int32).toInt = 0 := by decide
    exact okL_kX2_fillRow_near_39 s0 k10 M10 hk10 k20 M20 hk20 fu _ _ _ _ _ _ _ (by unfold fu; omega) hI_s2_k hF_s2_k (by first | (clear hx0 hx1 hx2; omega) | omega) (by first | (clear hx0 hx1 hx2; omega) | omega) (by first | (clear hx0 hx1 hx2; omega) | omega) (by first | (clear hx0 hx1 hx2; omega) | omega) (by first | (clear hx0 hx1 hx2; omega) | omega) (by first | (clear hx0 hx1 hx2; omega) | omega) (by first | (clear hx0 hx1 hx2; omega) | omega) (by first | (clear hx0 hx1 hx2; omega) | omega) (by decide) (by decide) (by omega) (by omega) (by omega) (by first | (clear hx0 hx1 hx2; omega) | omega) (by first | (clear hx0 hx1 hx2; omega) | omega)
theorem okL_kX2_fillRow_near_20 (s0 : JS) (k10 : JS → Int32 → Int32 → Int32 → Option (Int32 × JS)) (M10 : Nat) (hk10 : ∀ (s : JS) (x4 : Int32) (x5 : Int32) (x6 : Int32), InvK s.k → FrK [137] s0.k s.k → 0 ≤ x4.toInt → x4.toInt ≤ 3 → 1 ≤ x5.toInt → x5.toInt ≤ 216 → 0 ≤ x6.toInt → x6.toInt ≤ 3 → (x6.toInt ≤ 0 → x5.toInt ≤ 1) → (x6.toInt ≤ 1 → x5.toInt ≤ 6) → (x6.toInt ≤ 2 → x5.toInt ≤ 36) → (3 - x6.toInt).toNat < M10 → Ok (k10 s x4 x5 x6) (Q_kX2_fillRow_near s0)) : ∀ (n : Nat) (s : JS) (x4 : Int32) (x5 : Int32) (x6 : Int32) (x7 : Int32), (x7.toInt - (-1)).toNat < n → InvK s.k → FrK [137] s0.k s.k → 1 ≤ x4.toInt → x4.toInt ≤ 3 → 1 ≤ x5.toInt → x5.toInt ≤ 36 → 0 ≤ x6.toInt → x6.toInt ≤ 2 → -1 ≤ x7.toInt → x7.toInt ≤ 5 → (x6.toInt ≤ 0 → x5.toInt ≤ 1) → (x6.toInt ≤ 1 → x5.toInt ≤ 6) → (x6.toInt ≤ 2 → x5.toInt ≤ 36) → (3 - x6.toInt).toNat ≤ M10 → Ok (kX2_fillRow_near_20L k10 n s x4 x5 x6 x7) (Q_kX2_fillRow_near s0) := by
  intro n
  induction n with
  | zero => intro s x4 x5 x6 x7 hn; omega
  | succ n ih =>
    intro s x4 x5 x6 x7 hn hI_s_k hF_s_k h_x4l h_x4u h_x5l h_x5u h_x6l h_x6u h_x7l h_x7u hx0 hx1 hx2 hM10
    exact ok_kX2_fillRow_near_20 s0 k10 M10 hk10 (kX2_fillRow_near_20L k10 n) ((x7.toInt - (-1)).toNat) (fun zs zx4 zx5 zx6 zx7 g0 g1 g2 g3 g4 g5 g6 g7 g8 g9 g10 g11 g12 o10 hm => ih zs zx4 zx5 zx6 zx7 (by omega) g0 g1 g2 g3 g4 g5 g6 g7 g8 g9 g10 g11 g12 o10) s x4 x5 x6 x7 hI_s_k hF_s_k h_x4l h_x4u h_x5l h_x5u h_x6l h_x6u h_x7l h_x7u hx0 hx1 hx2 hM10 (Nat.le_refl _)
set_option maxHeartbeats 1000000 in
theorem ok_kX2_fillRow_near_10 (s0 : JS) (k10 : JS → Int32 → Int32 → Int32 → Option (Int32 × JS)) (M10 : Nat) (hk10 : ∀ (s : JS) (x4 : Int32) (x5 : Int32) (x6 : Int32), InvK s.k → FrK [137] s0.k s.k → 0 ≤ x4.toInt → x4.toInt ≤ 3 → 1 ≤ x5.toInt → x5.toInt ≤ 216 → 0 ≤ x6.toInt → x6.toInt ≤ 3 → (x6.toInt ≤ 0 → x5.toInt ≤ 1) → (x6.toInt ≤ 1 → x5.toInt ≤ 6) → (x6.toInt ≤ 2 → x5.toInt ≤ 36) → (3 - x6.toInt).toNat < M10 → Ok (k10 s x4 x5 x6) (Q_kX2_fillRow_near s0)) (s : JS) (x4 : Int32) (x5 : Int32) (x6 : Int32) (hI_s_k : InvK s.k) (hF_s_k : FrK [137] s0.k s.k) (h_x4l : 0 ≤ x4.toInt) (h_x4u : x4.toInt ≤ 3) (h_x5l : 1 ≤ x5.toInt) (h_x5u : x5.toInt ≤ 216) (h_x6l : 0 ≤ x6.toInt) (h_x6u : x6.toInt ≤ 3) (hx0 : (x6.toInt ≤ 0 → x5.toInt ≤ 1)) (hx1 : (x6.toInt ≤ 1 → x5.toInt ≤ 6)) (hx2 : (x6.toInt ≤ 2 → x5.toInt ≤ 36)) (hM10 : (3 - x6.toInt).toNat ≤ M10) : Ok (kX2_fillRow_near_10 k10 s x4 x5 x6) (Q_kX2_fillRow_near s0) := by
  unfold kX2_fillRow_near_10
  refine ok_ite (fun c_1 => ?_) (fun c_1 => ?_)
  · have c_1 := tn_le (a := (x4).toInt) (b := (x6).toInt) rfl rfl c_1
    exact ok_some ⟨hI_s_k, hF_s_k, by show 1 ≤ (x5).toInt; omega, by show (x5).toInt ≤ 216; omega⟩
  · have c_1 := tn_nle (a := (x4).toInt) (b := (x6).toInt) rfl rfl c_1
    have l_5 : (5 : Int32).toInt = 5 := by decide
    exact okL_kX2_fillRow_near_20 s0 k10 M10 hk10 fu _ _ _ _ _ (by unfold fu; omega) hI_s_k hF_s_k (by first | (clear hx0 hx1 hx2; omega) | omega) (by first | (clear hx0 hx1 hx2; omega) | omega) (by first | (clear hx0 hx1 hx2; omega) | omega) (by first | (clear hx0 hx1 hx2; omega) | omega) (by first | (clear hx0 hx1 hx2; omega) | omega) (by first | (clear hx0 hx1 hx2; omega) | omega) (by decide) (by decide) (by omega) (by omega) (by omega) (by first | (clear hx0 hx1 hx2; omega) | omega)
theorem okL_kX2_fillRow_near_10 (s0 : JS)  : ∀ (n : Nat) (s : JS) (x4 : Int32) (x5 : Int32) (x6 : Int32), (3 - x6.toInt).toNat < n → InvK s.k → FrK [137] s0.k s.k → 0 ≤ x4.toInt → x4.toInt ≤ 3 → 1 ≤ x5.toInt → x5.toInt ≤ 216 → 0 ≤ x6.toInt → x6.toInt ≤ 3 → (x6.toInt ≤ 0 → x5.toInt ≤ 1) → (x6.toInt ≤ 1 → x5.toInt ≤ 6) → (x6.toInt ≤ 2 → x5.toInt ≤ 36) → Ok (kX2_fillRow_near_10L  n s x4 x5 x6) (Q_kX2_fillRow_near s0) := by
  intro n
  induction n with
  | zero => intro s x4 x5 x6 hn; omega
  | succ n ih =>
    intro s x4 x5 x6 hn hI_s_k hF_s_k h_x4l h_x4u h_x5l h_x5u h_x6l h_x6u hx0 hx1 hx2 
    exact ok_kX2_fillRow_near_10 s0 (kX2_fillRow_near_10L  n) ((3 - x6.toInt).toNat) (fun zs zx4 zx5 zx6 g0 g1 g2 g3 g4 g5 g6 g7 g8 g9 g10  hm => ih zs zx4 zx5 zx6 (by omega) g0 g1 g2 g3 g4 g5 g6 g7 g8 g9 g10 ) s x4 x5 x6 hI_s_k hF_s_k h_x4l h_x4u h_x5l h_x5u h_x6l h_x6u hx0 hx1 hx2 (Nat.le_refl _)
set_option maxHeartbeats 1000000 in
theorem ok_kX2_fillRow_nearB (s0 : JS)  (s : JS) (x3 : Int32) (x4 : Int32) (hI_s_k : InvK s.k) (hF_s_k : FrK [137] s0.k s.k) (h_x3l : 0 ≤ x3.toInt) (h_x3u : x3.toInt ≤ 0) (h_x4l : 0 ≤ x4.toInt) (h_x4u : x4.toInt ≤ 3)  : Ok (kX2_fillRow_near  s x3 x4) (Q_kX2_fillRow_near s0) := by
  unfold kX2_fillRow_near
  refine ok_let (fun s1 hs1 => ?_)
  have hI_s1_k : InvK s1.k := by rw [← hs1]; exact hI_s_k.sfF (k := 37) rfl rfl
  have hF_s1_k : FrK [137] s0.k s1.k := by rw [← hs1]; exact hF_s_k.sf (k := 37) (by decide)
  have l_1 : (1 : Int32).toInt = 1 := by decide
  exact okL_kX2_fillRow_near_10 s0  fu _ _ _ _ (by unfold fu; omega) hI_s1_k hF_s1_k (by omega) (by omega) (by decide) (by decide) (by omega) (by omega) (by omega) (by omega) (by omega) 
theorem ok_kX2_fillRow_near (s : JS) (x3 : Int32) (x4 : Int32) (hI_s_k : InvK s.k) (h_x3l : 0 ≤ x3.toInt) (h_x3u : x3.toInt ≤ 0) (h_x4l : 0 ≤ x4.toInt) (h_x4u : x4.toInt ≤ 3) : Ok (kX2_fillRow_near s x3 x4) (Q_kX2_fillRow_near s) := ok_kX2_fillRow_nearB s s x3 x4 hI_s_k FrK.rfl h_x3l h_x3u h_x4l h_x4u
end
section
noncomputable abbrev Q_kX2_fillRow_far (s0 : JS) (y : Int32 × JS) : Prop := InvK y.2.k ∧ FrK [138] s0.k y.2.k ∧ 1 ≤ y.1.toInt ∧ y.1.toInt ≤ 36
set_option maxHeartbeats 1000000 in
theorem ok_kX2_fillRow_far_39 (s0 : JS) (k10 : JS → Int32 → Int32 → Int32 → Option (Int32 × JS)) (M10 : Nat) (hk10 : ∀ (s : JS) (x4 : Int32) (x5 : Int32) (x6 : Int32), InvK s.k → FrK [138] s0.k s.k → 0 ≤ x4.toInt → x4.toInt ≤ 5 → 1 ≤ x5.toInt → x5.toInt ≤ 36 → 3 ≤ x6.toInt → x6.toInt ≤ 5 → (x6.toInt ≤ 3 → x5.toInt ≤ 1) → (x6.toInt ≤ 4 → x5.toInt ≤ 6) → (5 - x6.toInt).toNat < M10 → Ok (k10 s x4 x5 x6) (Q_kX2_fillRow_far s0)) (k20 : JS → Int32 → Int32 → Int32 → Int32 → Option (Int32 × JS)) (M20 : Nat) (hk20 : ∀ (s : JS) (x4 : Int32) (x5 : Int32) (x6 : Int32) (x7 : Int32), InvK s.k → FrK [138] s0.k s.k → 4 ≤ x4.toInt → x4.toInt ≤ 5 → 1 ≤ x5.toInt → x5.toInt ≤ 6 → 3 ≤ x6.toInt → x6.toInt ≤ 4 → -1 ≤ x7.toInt → x7.toInt ≤ 5 → (x6.toInt ≤ 3 → x5.toInt ≤ 1) → (x6.toInt ≤ 4 → x5.toInt ≤ 6) → (5 - x6.toInt).toNat ≤ M10 → (x7.toInt - (-1)).toNat < M20 → Ok (k20 s x4 x5 x6 x7) (Q_kX2_fillRow_far s0)) (k39 : JS → Int32 → Int32 → Int32 → Int32 → Int32 → Int32 → Option (Int32 × JS)) (M39 : Nat) (hk39 : ∀ (s : JS) (x4 : Int32) (x5 : Int32) (x6 : Int32) (x7 : Int32) (x8 : Int32) (x9 : Int32), InvK s.k → FrK [138] s0.k s.k → 4 ≤ x4.toInt → x4.toInt ≤ 5 → 1 ≤ x5.toInt → x5.toInt ≤ 6 → 3 ≤ x6.toInt → x6.toInt ≤ 4 → 0 ≤ x7.toInt → x7.toInt ≤ 5 → 0 ≤ x9.toInt → x9.toInt ≤ 6 → (x6.toInt ≤ 3 → x5.toInt ≤ 1) → (x6.toInt ≤ 4 → x5.toInt ≤ 6) → (5 - x6.toInt).toNat ≤ M10 → (x7.toInt - (-1)).toNat ≤ M20 → (6 - x9.toInt).toNat < M39 → Ok (k39 s x4 x5 x6 x7 x8 x9) (Q_kX2_fillRow_far s0)) (s : JS) (x4 : Int32) (x5 : Int32) (x6 : Int32) (x7 : Int32) (x8 : Int32) (x9 : Int32) (hI_s_k : InvK s.k) (hF_s_k : FrK [138] s0.k s.k) (h_x4l : 4 ≤ x4.toInt) (h_x4u : x4.toInt ≤ 5) (h_x5l : 1 ≤ x5.toInt) (h_x5u : x5.toInt ≤ 6) (h_x6l : 3 ≤ x6.toInt) (h_x6u : x6.toInt ≤ 4) (h_x7l : 0 ≤ x7.toInt) (h_x7u : x7.toInt ≤ 5) (h_x9l : 0 ≤ x9.toInt) (h_x9u : x9.toInt ≤ 6) (hx0 : (x6.toInt ≤ 3 → x5.toInt ≤ 1)) (hx1 : (x6.toInt ≤ 4 → x5.toInt ≤ 6)) (hM10 : (5 - x6.toInt).toNat ≤ M10) (hM20 : (x7.toInt - (-1)).toNat ≤ M20) (hM39 : (6 - x9.toInt).toNat ≤ M39) : Ok (kX2_fillRow_far_39 k10 k20 k39 s x4 x5 x6 x7 x8 x9) (Q_kX2_fillRow_far s0) := by
  unfold kX2_fillRow_far_39
  rw [show x7 + (-1) = x7 - 1 from (Int32.sub_eq_add_neg x7 1).symm]
  refine ok_ite (fun c_1 => ?_) (fun c_1 => ?_)
  · have c_1 := tn_le (a := (x5).toInt) (b := (x9).toInt) rfl rfl c_1
    have a_2 : ((x7 - 1)).toInt = (x7).toInt - 1 := tn_sub rfl (by decide) (by omega) (by omega)
    exact hk20 _ _ _ _ _ hI_s_k hF_s_k (by first | (clear hx0 hx1; omega) | omega) (by first | (clear hx0 hx1; omega) | omega) (by first | (clear hx0 hx1; omega) | omega) (by first | (clear hx0 hx1; omega) | omega) (by first | (clear hx0 hx1; omega) | omega) (by first | (clear hx0 hx1; omega) | omega) (by first | (clear hx0 hx1; omega) | omega) (by first | (clear hx0 hx1; omega) | omega) (by omega) (by omega) (by first | (clear hx0 hx1; omega) | omega) (by first | (clear hx0 hx1; omega) | omega)
  · have c_1 := tn_nle (a := (x5).toInt) (b := (x9).toInt) rfl rfl c_1
    refine ok_grd (vpb_ok (by omega) (by omega)) ?_
    have a_3 : 0 ≤ ((x7 * x5)).toInt ∧ ((x7 * x5)).toInt ≤ 30 := ti_mulr (a := 5) (b := 6) (by omega) (by omega) (by omega) (by omega) (by decide)
    have a_4 : (((x7 * x5) + x9)).toInt = ((x7 * x5)).toInt + (x9).toInt := tn_add rfl rfl (by omega) (by omega)
    refine ok_grd (vpb_ok (by omega) (by omega)) ?_
    refine ok_let (fun s4 hs4 => ?_)
    have hI_s4_k : InvK s4.k := by rw [← hs4]; exact hI_s_k.sfF (k := 38) rfl rfl
    have hF_s4_k : FrK [138] s0.k s4.k := by rw [← hs4]; exact hF_s_k.sf (k := 38) (by decide)
    have a_5 : ((x9 + 1)).toInt = (x9).toInt + 1 := tn_add rfl (by decide) (by omega) (by omega)
    exact hk39 _ _ _ _ _ _ _ hI_s4_k hF_s4_k (by first | (clear hx0 hx1; omega) | omega) (by first | (clear hx0 hx1; omega) | omega) (by first | (clear hx0 hx1; omega) | omega) (by first | (clear hx0 hx1; omega) | omega) (by first | (clear hx0 hx1; omega) | omega) (by first | (clear hx0 hx1; omega) | omega) (by first | (clear hx0 hx1; omega) | omega) (by first | (clear hx0 hx1; omega) | omega) (by first | (clear hx0 hx1; omega) | omega) (by first | (clear hx0 hx1; omega) | omega) (by omega) (by omega) (by first | (clear hx0 hx1; omega) | omega) (by first | (clear hx0 hx1; omega) | omega) (by first | (clear hx0 hx1; omega) | omega)
theorem okL_kX2_fillRow_far_39 (s0 : JS) (k10 : JS → Int32 → Int32 → Int32 → Option (Int32 × JS)) (M10 : Nat) (hk10 : ∀ (s : JS) (x4 : Int32) (x5 : Int32) (x6 : Int32), InvK s.k → FrK [138] s0.k s.k → 0 ≤ x4.toInt → x4.toInt ≤ 5 → 1 ≤ x5.toInt → x5.toInt ≤ 36 → 3 ≤ x6.toInt → x6.toInt ≤ 5 → (x6.toInt ≤ 3 → x5.toInt ≤ 1) → (x6.toInt ≤ 4 → x5.toInt ≤ 6) → (5 - x6.toInt).toNat < M10 → Ok (k10 s x4 x5 x6) (Q_kX2_fillRow_far s0)) (k20 : JS → Int32 → Int32 → Int32 → Int32 → Option (Int32 × JS)) (M20 : Nat) (hk20 : ∀ (s : JS) (x4 : Int32) (x5 : Int32) (x6 : Int32) (x7 : Int32), InvK s.k → FrK [138] s0.k s.k → 4 ≤ x4.toInt → x4.toInt ≤ 5 → 1 ≤ x5.toInt → x5.toInt ≤ 6 → 3 ≤ x6.toInt → x6.toInt ≤ 4 → -1 ≤ x7.toInt → x7.toInt ≤ 5 → (x6.toInt ≤ 3 → x5.toInt ≤ 1) → (x6.toInt ≤ 4 → x5.toInt ≤ 6) → (5 - x6.toInt).toNat ≤ M10 → (x7.toInt - (-1)).toNat < M20 → Ok (k20 s x4 x5 x6 x7) (Q_kX2_fillRow_far s0)) : ∀ (n : Nat) (s : JS) (x4 : Int32) (x5 : Int32) (x6 : Int32) (x7 : Int32) (x8 : Int32) (x9 : Int32), (6 - x9.toInt).toNat < n → InvK s.k → FrK [138] s0.k s.k → 4 ≤ x4.toInt → x4.toInt ≤ 5 → 1 ≤ x5.toInt → x5.toInt ≤ 6 → 3 ≤ x6.toInt → x6.toInt ≤ 4 → 0 ≤ x7.toInt → x7.toInt ≤ 5 → 0 ≤ x9.toInt → x9.toInt ≤ 6 → (x6.toInt ≤ 3 → x5.toInt ≤ 1) → (x6.toInt ≤ 4 → x5.toInt ≤ 6) → (5 - x6.toInt).toNat ≤ M10 → (x7.toInt - (-1)).toNat ≤ M20 → Ok (kX2_fillRow_far_39L k10 k20 n s x4 x5 x6 x7 x8 x9) (Q_kX2_fillRow_far s0) := by
  intro n
  induction n with
  | zero => intro s x4 x5 x6 x7 x8 x9 hn; omega
  | succ n ih =>
    intro s x4 x5 x6 x7 x8 x9 hn hI_s_k hF_s_k h_x4l h_x4u h_x5l h_x5u h_x6l h_x6u h_x7l h_x7u h_x9l h_x9u hx0 hx1 hM10 hM20
    exact ok_kX2_fillRow_far_39 s0 k10 M10 hk10 k20 M20 hk20 (kX2_fillRow_far_39L k10 k20 n) ((6 - x9.toInt).toNat) (fun zs zx4 zx5 zx6 zx7 zx8 zx9 g0 g1 g2 g3 g4 g5 g6 g7 g8 g9 g10 g11 g12 g13 o10 o20 hm => ih zs zx4 zx5 zx6 zx7 zx8 zx9 (by omega) g0 g1 g2 g3 g4 g5 g6 g7 g8 g9 g10 g11 g12 g13 o10 o20) s x4 x5 x6 x7 x8 x9 hI_s_k hF_s_k h_x4l h_x4u h_x5l h_x5u h_x6l h_x6u h_x7l h_x7u h_x9l h_x9u hx0 hx1 hM10 hM20 (Nat.le_refl _)
set_option maxHeartbeats 1000000 in
theorem ok_kX2_fillRow_far_20 (s0 : JS) (k10 : JS → Int32 → Int32 → Int32 → Option (Int32 × JS)) (M10 : Nat) (hk10 : ∀ (s : JS) (x4 : Int32) (x5 : Int32) (x6 : Int32), InvK s.k → FrK [138] s0.k s.k → 0 ≤ x4.toInt → x4.toInt ≤ 5 → 1 ≤ x5.toInt → x5.toInt ≤ 36 → 3 ≤ x6.toInt → x6.toInt ≤ 5 → (x6.toInt ≤ 3 → x5.toInt ≤ 1) → (x6.toInt ≤ 4 → x5.toInt ≤ 6) → (5 - x6.toInt).toNat < M10 → Ok (k10 s x4 x5 x6) (Q_kX2_fillRow_far s0)) (k20 : JS → Int32 → Int32 → Int32 → Int32 → Option (Int32 × JS)) (M20 : Nat) (hk20 : ∀ (s : JS) (x4 : Int32) (x5 : Int32) (x6 : Int32) (x7 : Int32), InvK s.k → FrK [138] s0.k s.k → 4 ≤ x4.toInt → x4.toInt ≤ 5 → 1 ≤ x5.toInt → x5.toInt ≤ 6 → 3 ≤ x6.toInt → x6.toInt ≤ 4 → -1 ≤ x7.toInt → x7.toInt ≤ 5 → (x6.toInt ≤ 3 → x5.toInt ≤ 1) → (x6.toInt ≤ 4 → x5.toInt ≤ 6) → (5 - x6.toInt).toNat ≤ M10 → (x7.toInt - (-1)).toNat < M20 → Ok (k20 s x4 x5 x6 x7) (Q_kX2_fillRow_far s0)) (s : JS) (x4 : Int32) (x5 : Int32) (x6 : Int32) (x7 : Int32) (hI_s_k : InvK s.k) (hF_s_k : FrK [138] s0.k s.k) (h_x4l : 4 ≤ x4.toInt) (h_x4u : x4.toInt ≤ 5) (h_x5l : 1 ≤ x5.toInt) (h_x5u : x5.toInt ≤ 6) (h_x6l : 3 ≤ x6.toInt) (h_x6u : x6.toInt ≤ 4) (h_x7l : -1 ≤ x7.toInt) (h_x7u : x7.toInt ≤ 5) (hx0 : (x6.toInt ≤ 3 → x5.toInt ≤ 1)) (hx1 : (x6.toInt ≤ 4 → x5.toInt ≤ 6)) (hM10 : (5 - x6.toInt).toNat ≤ M10) (hM20 : (x7.toInt - (-1)).toNat ≤ M20) : Ok (kX2_fillRow_far_20 k10 k20 s x4 x5 x6 x7) (Q_kX2_fillRow_far s0) := by
  unfold kX2_fillRow_far_20
  refine ok_ite (fun c_1 => ?_) (fun c_1 => ?_)
  · have c_1 := tn_lt (a := (x7).toInt) (b := 0) rfl (by decide) c_1
    have a_2 : ((x5 * 6)).toInt = (x5).toInt * 6 := ti_mulc (c := 6) (by decide) (by omega) (by omega)
    have a_3 : ((x6 + 1)).toInt = (x6).toInt + 1 := tn_add rfl (by decide) (by omega) (by omega)
    exact hk10 _ _ _ _ hI_s_k hF_s_k (by first | (clear hx0 hx1; omega) | omega) (by first | (clear hx0 hx1; omega) | omega) (by first | (clear hx0 hx1; omega) | omega) (by first | (clear hx0 hx1; omega) | omega) (by first | (clear hx0 hx1; omega) | omega) (by first | (clear hx0 hx1; omega) | omega) (by omega) (by omega) (by first | (clear hx0 hx1; omega) | omega)
  · have c_1 := tn_nlt (a := (x7).toInt) (b := 0) rfl (by decide) c_1
    refine ok_bindI (ok_kX2_oddsIfMay _ _ _ hI_s_k (by omega) (by omega) (by omega) (by omega)) (fun r3 s2 hc_4 => ?_)
    have hI_s2_k : InvK s2.k := hc_4.1
    have hFc_s2_k : FrK [] s.k s2.k := hc_4.2.1
    have hF_s2_k : FrK [138] s0.k s2.k := hF_s_k.trans hFc_s2_k (by decide)
    have l_0 : (0 : Int32).toInt = 0 := by decide
    exact okL_kX2_fillRow_far_39 s0 k10 M10 hk10 k20 M20 hk20 fu _ _ _ _ _ _ _ (by unfold fu; omega) hI_s2_k hF_s2_k (by first | (clear hx0 hx1; omega) | omega) (by first | (clear hx0 hx1; omega) | omega) (by first | (clear hx0 hx1; omega) | omega) (by first | (clear hx0 hx1; omega) | omega) (by first | (clear hx0 hx1; omega) | omega) (by first | (clear hx0 hx1; omega) | omega) (by first | (clear hx0 hx1; omega) | omega) (by first | (clear hx0 hx1; omega) | omega) (by decide) (by decide) (by omega) (by omega) (by first | (clear hx0 hx1; omega) | omega) (by first | (clear hx0 hx1; omega) | omega)
theorem okL_kX2_fillRow_far_20 (s0 : JS) (k10 : JS → Int32 → Int32 → Int32 → Option (Int32 × JS)) (M10 : Nat) (hk10 : ∀ (s : JS) (x4 : Int32) (x5 : Int32) (x6 : Int32), InvK s.k → FrK [138] s0.k s.k → 0 ≤ x4.toInt → x4.toInt ≤ 5 → 1 ≤ x5.toInt → x5.toInt ≤ 36 → 3 ≤ x6.toInt → x6.toInt ≤ 5 → (x6.toInt ≤ 3 → x5.toInt ≤ 1) → (x6.toInt ≤ 4 → x5.toInt ≤ 6) → (5 - x6.toInt).toNat < M10 → Ok (k10 s x4 x5 x6) (Q_kX2_fillRow_far s0)) : ∀ (n : Nat) (s : JS) (x4 : Int32) (x5 : Int32) (x6 : Int32) (x7 : Int32), (x7.toInt - (-1)).toNat < n → InvK s.k → FrK [138] s0.k s.k → 4 ≤ x4.toInt → x4.toInt ≤ 5 → 1 ≤ x5.toInt → x5.toInt ≤ 6 → 3 ≤ x6.toInt → x6.toInt ≤ 4 → -1 ≤ x7.toInt → x7.toInt ≤ 5 → (x6.toInt ≤ 3 → x5.toInt ≤ 1) → (x6.toInt ≤ 4 → x5.toInt ≤ 6) → (5 - x6.toInt).toNat ≤ M10 → Ok (kX2_fillRow_far_20L k10 n s x4 x5 x6 x7) (Q_kX2_fillRow_far s0) := by
  intro n
  induction n with
  | zero => intro s x4 x5 x6 x7 hn; omega
  | succ n ih =>
    intro s x4 x5 x6 x7 hn hI_s_k hF_s_k h_x4l h_x4u h_x5l h_x5u h_x6l h_x6u h_x7l h_x7u hx0 hx1 hM10
    exact ok_kX2_fillRow_far_20 s0 k10 M10 hk10 (kX2_fillRow_far_20L k10 n) ((x7.toInt - (-1)).toNat) (fun zs zx4 zx5 zx6 zx7 g0 g1 g2 g3 g4 g5 g6 g7 g8 g9 g10 g11 o10 hm => ih zs zx4 zx5 zx6 zx7 (by omega) g0 g1 g2 g3 g4 g5 g6 g7 g8 g9 g10 g11 o10) s x4 x5 x6 x7 hI_s_k hF_s_k h_x4l h_x4u h_x5l h_x5u h_x6l h_x6u h_x7l h_x7u hx0 hx1 hM10 (Nat.le_refl _)
set_option maxHeartbeats 1000000 in
theorem ok_kX2_fillRow_far_10 (s0 : JS) (k10 : JS → Int32 → Int32 → Int32 → Option (Int32 × JS)) (M10 : Nat) (hk10 : ∀ (s : JS) (x4 : Int32) (x5 : Int32) (x6 : Int32), InvK s.k → FrK [138] s0.k s.k → 0 ≤ x4.toInt → x4.toInt ≤ 5 → 1 ≤ x5.toInt → x5.toInt ≤ 36 → 3 ≤ x6.toInt → x6.toInt ≤ 5 → (x6.toInt ≤ 3 → x5.toInt ≤ 1) → (x6.toInt ≤ 4 → x5.toInt ≤ 6) → (5 - x6.toInt).toNat < M10 → Ok (k10 s x4 x5 x6) (Q_kX2_fillRow_far s0)) (s : JS) (x4 : Int32) (x5 : Int32) (x6 : Int32) (hI_s_k : InvK s.k) (hF_s_k : FrK [138] s0.k s.k) (h_x4l : 0 ≤ x4.toInt) (h_x4u : x4.toInt ≤ 5) (h_x5l : 1 ≤ x5.toInt) (h_x5u : x5.toInt ≤ 36) (h_x6l : 3 ≤ x6.toInt) (h_x6u : x6.toInt ≤ 5) (hx0 : (x6.toInt ≤ 3 → x5.toInt ≤ 1)) (hx1 : (x6.toInt ≤ 4 → x5.toInt ≤ 6)) (hM10 : (5 - x6.toInt).toNat ≤ M10) : Ok (kX2_fillRow_far_10 k10 s x4 x5 x6) (Q_kX2_fillRow_far s0) := by
  unfold kX2_fillRow_far_10
  refine ok_ite (fun c_1 => ?_) (fun c_1 => ?_)
  · have c_1 := tn_le (a := (x4).toInt) (b := (x6).toInt) rfl rfl c_1
    exact ok_some ⟨hI_s_k, hF_s_k, by show 1 ≤ (x5).toInt; omega, by show (x5).toInt ≤ 36; omega⟩
  · have c_1 := tn_nle (a := (x4).toInt) (b := (x6).toInt) rfl rfl c_1
    have l_5 : (5 : Int32).toInt = 5 := by decide
    exact okL_kX2_fillRow_far_20 s0 k10 M10 hk10 fu _ _ _ _ _ (by unfold fu; omega) hI_s_k hF_s_k (by first | (clear hx0 hx1; omega) | omega) (by first | (clear hx0 hx1; omega) | omega) (by first | (clear hx0 hx1; omega) | omega) (by first | (clear hx0 hx1; omega) | omega) (by first | (clear hx0 hx1; omega) | omega) (by first | (clear hx0 hx1; omega) | omega) (by decide) (by decide) (by omega) (by omega) (by first | (clear hx0 hx1; omega) | omega)
theorem okL_kX2_fillRow_far_10 (s0 : JS)  : ∀ (n : Nat) (s : JS) (x4 : Int32) (x5 : Int32) (x6 : Int32), (5 - x6.toInt).toNat < n → InvK s.k → FrK [138] s0.k s.k → 0 ≤ x4.toInt → x4.toInt ≤ 5 → 1 ≤ x5.toInt → x5.toInt ≤ 36 → 3 ≤ x6.toInt → x6.toInt ≤ 5 → (x6.toInt ≤ 3 → x5.toInt ≤ 1) → (x6.toInt ≤ 4 → x5.toInt ≤ 6) → Ok (kX2_fillRow_far_10L  n s x4 x5 x6) (Q_kX2_fillRow_far s0) := by
  intro n
  induction n with
  | zero => intro s x4 x5 x6 hn; omega
  | succ n ih =>
    intro s x4 x5 x6 hn hI_s_k hF_s_k h_x4l h_x4u h_x5l h_x5u h_x6l h_x6u hx0 hx1 
    exact ok_kX2_fillRow_far_10 s0 (kX2_fillRow_far_10L  n) ((5 - x6.toInt).toNat) (fun zs zx4 zx5 zx6 g0 g1 g2 g3 g4 g5 g6 g7 g8 g9  hm => ih zs zx4 zx5 zx6 (by omega) g0 g1 g2 g3 g4 g5 g6 g7 g8 g9 ) s x4 x5 x6 hI_s_k hF_s_k h_x4l h_x4u h_x5l h_x5u h_x6l h_x6u hx0 hx1 (Nat.le_refl _)
set_option maxHeartbeats 1000000 in
theorem ok_kX2_fillRow_farB (s0 : JS)  (s : JS) (x3 : Int32) (x4 : Int32) (hI_s_k : InvK s.k) (hF_s_k : FrK [138] s0.k s.k) (h_x3l : 3 ≤ x3.toInt) (h_x3u : x3.toInt ≤ 3) (h_x4l : 0 ≤ x4.toInt) (h_x4u : x4.toInt ≤ 5)  : Ok (kX2_fillRow_far  s x3 x4) (Q_kX2_fillRow_far s0) := by
  unfold kX2_fillRow_far
  refine ok_let (fun s1 hs1 => ?_)
  have hI_s1_k : InvK s1.k := by rw [← hs1]; exact hI_s_k.sfF (k := 38) rfl rfl
  have hF_s1_k : FrK [138] s0.k s1.k := by rw [← hs1]; exact hF_s_k.sf (k := 38) (by decide)
  have l_1 : (1 : Int32).toInt = 1 := by decide
  exact okL_kX2_fillRow_far_10 s0  fu _ _ _ _ (by unfold fu; omega) hI_s1_k hF_s1_k (by omega) (by omega) (by decide) (by decide) (by omega) (by omega) (by omega) (by omega) 
theorem ok_kX2_fillRow_far (s : JS) (x3 : Int32) (x4 : Int32) (hI_s_k : InvK s.k) (h_x3l : 3 ≤ x3.toInt) (h_x3u : x3.toInt ≤ 3) (h_x4l : 0 ≤ x4.toInt) (h_x4u : x4.toInt ≤ 5) : Ok (kX2_fillRow_far s x3 x4) (Q_kX2_fillRow_far s) := ok_kX2_fillRow_farB s s x3 x4 hI_s_k FrK.rfl h_x3l h_x3u h_x4l h_x4u
noncomputable abbrev Q_kX2_fillNear (s0 : JS) (y : Int32 × JS) : Prop := InvK y.2.k ∧ FrK [137] s0.k y.2.k ∧ 1 ≤ y.1.toInt ∧ y.1.toInt ≤ 216
set_option maxHeartbeats 1000000 in
theorem ok_kX2_fillNearB (s0 : JS)  (s : JS) (hI_s_k : InvK s.k) (hF_s_k : FrK [137] s0.k s.k)  : Ok (kX2_fillNear  s) (Q_kX2_fillNear s0) := by
  unfold kX2_fillNear
  have a_1 : 0 ≤ (s.k.v 1).toInt ∧ (s.k.v 1).toInt ≤ 5 := hI_s_k.1 1
  have a_2 := tn_mmin (x := 3) (y := (s.k.v 1)) (a := 3) (b := ((s.k.v 1)).toInt) (by decide) rfl
  refine ok_bindI (ok_kX2_fillRow_near _ _ _ hI_s_k (by decide) (by decide) (by omega) (by omega)) (fun r2 s1 hc_3 => ?_)
  have hI_s1_k : InvK s1.k := hc_3.1
  have hFc_s1_k : FrK [137] s.k s1.k := hc_3.2.1
  have hF_s1_k : FrK [137] s0.k s1.k := hF_s_k.trans hFc_s1_k (by decide)
  have hl_r2 : 1 ≤ r2.toInt := hc_3.2.2.1
  have hu_r2 : r2.toInt ≤ 216 := hc_3.2.2.2
  exact ok_some ⟨hI_s1_k, hF_s1_k, by show 1 ≤ (r2).toInt; omega, by show (r2).toInt ≤ 216; omega⟩
theorem ok_kX2_fillNear (s : JS) (hI_s_k : InvK s.k) : Ok (kX2_fillNear s) (Q_kX2_fillNear s) := ok_kX2_fillNearB s s hI_s_k FrK.rfl
noncomputable abbrev Q_kX2_fillFar (s0 : JS) (y : Int32 × JS) : Prop := InvK y.2.k ∧ FrK [138] s0.k y.2.k ∧ 1 ≤ y.1.toInt ∧ y.1.toInt ≤ 36
set_option maxHeartbeats 1000000 in
theorem ok_kX2_fillFarB (s0 : JS)  (s : JS) (hI_s_k : InvK s.k) (hF_s_k : FrK [138] s0.k s.k)  : Ok (kX2_fillFar  s) (Q_kX2_fillFar s0) := by
  unfold kX2_fillFar
  have a_1 : 0 ≤ (s.k.v 1).toInt ∧ (s.k.v 1).toInt ≤ 5 := hI_s_k.1 1
  refine ok_bindI (ok_kX2_fillRow_far _ _ _ hI_s_k (by decide) (by decide) (by omega) (by omega)) (fun r2 s1 hc_2 => ?_)
  have hI_s1_k : InvK s1.k := hc_2.1
  have hFc_s1_k : FrK [138] s.k s1.k := hc_2.2.1
  have hF_s1_k : FrK [138] s0.k s1.k := hF_s_k.trans hFc_s1_k (by decide)
  have hl_r2 : 1 ≤ r2.toInt := hc_2.2.2.1
  have hu_r2 : r2.toInt ≤ 36 := hc_2.2.2.2
  exact ok_some ⟨hI_s1_k, hF_s1_k, by show 1 ≤ (r2).toInt; omega, by show (r2).toInt ≤ 36; omega⟩
theorem ok_kX2_fillFar (s : JS) (hI_s_k : InvK s.k) : Ok (kX2_fillFar s) (Q_kX2_fillFar s) := ok_kX2_fillFarB s s hI_s_k FrK.rfl
noncomputable abbrev Q_kX2_casesAheadOf (s0 : JS) (y : Int32 × JS) : Prop := InvK y.2.k ∧ FrK [137, 138] s0.k y.2.k ∧ -2147483648 ≤ y.1.toInt ∧ y.1.toInt ≤ 2147483647
set_option maxHeartbeats 1000000 in
theorem ok_kX2_casesAheadOf_78 (s0 : JS) (k23 : JS → Int32 → Int32 → Int32 → Int32 → Int32 → Int32 → Int32 → Option (Int32 × JS)) (M23 : Nat) (hk23 : ∀ (s : JS) (x2 : Int32) (x3 : Int32) (x4 : Int32) (x5 : Int32) (x6 : Int32) (x7 : Int32) (x8 : Int32), InvK s.k → FrK [137, 138] s0.k s.k → 0 ≤ x2.toInt → 1 ≤ x4.toInt → x4.toInt ≤ 216 → 1 ≤ x5.toInt → x5.toInt ≤ 36 → 0 ≤ x8.toInt → x8.toInt ≤ 36 → (36 - x8.toInt).toNat < M23 → Ok (k23 s x2 x3 x4 x5 x6 x7 x8) (Q_kX2_casesAheadOf s0)) (k33 : JS → Int32 → Int32 → Int32 → Int32 → Int32 → Int32 → Int32 → Int32 → Option (Int32 × JS)) (M33 : Nat) (hk33 : ∀ (s : JS) (x2 : Int32) (x3 : Int32) (x4 : Int32) (x5 : Int32) (x6 : Int32) (x7 : Int32) (x8 : Int32) (x9 : Int32), InvK s.k → FrK [137, 138] s0.k s.k → 0 ≤ x2.toInt → 1 ≤ x4.toInt → x4.toInt ≤ 216 → 1 ≤ x5.toInt → x5.toInt ≤ 36 → 0 ≤ x8.toInt → x8.toInt ≤ 35 → 0 ≤ x9.toInt → x9.toInt ≤ 216 → (36 - x8.toInt).toNat ≤ M23 → (216 - x9.toInt).toNat < M33 → Ok (k33 s x2 x3 x4 x5 x6 x7 x8 x9) (Q_kX2_casesAheadOf s0)) (s : JS) (x2 : Int32) (x3 : Int32) (x4 : Int32) (x5 : Int32) (x6 : Int32) (x7 : Int32) (x8 : Int32) (x9 : Int32) (hI_s_k : InvK s.k) (hF_s_k : FrK [137, 138] s0.k s.k) (h_x2l : 0 ≤ x2.toInt) (h_x4l : 1 ≤ x4.toInt) (h_x4u : x4.toInt ≤ 216) (h_x5l : 1 ≤ x5.toInt) (h_x5u : x5.toInt ≤ 36) (h_x8l : 0 ≤ x8.toInt) (h_x8u : x8.toInt ≤ 35) (h_x9l : 0 ≤ x9.toInt) (h_x9u : x9.toInt ≤ 215) (hM23 : (36 - x8.toInt).toNat ≤ M23) (hM33 : (216 - x9.toInt).toNat ≤ M33) : Ok (kX2_casesAheadOf_78 k23 k33 s x2 x3 x4 x5 x6 x7 x8 x9) (Q_kX2_casesAheadOf s0) := by
  unfold kX2_casesAheadOf_78
  have a_1 : ((x9 + 1)).toInt = (x9).toInt + 1 := tn_add rfl (by decide) (by omega) (by omega)
  exact hk33 _ _ _ _ _ _ _ _ _ hI_s_k hF_s_k (by omega) (by omega) (by omega) (by omega) (by omega) (by omega) (by omega) (by omega) (by omega) (by omega) (by omega)
set_option maxHeartbeats 1000000 in
theorem ok_kX2_casesAheadOf_75 (s0 : JS) (k23 : JS → Int32 → Int32 → Int32 → Int32 → Int32 → Int32 → Int32 → Option (Int32 × JS)) (M23 : Nat) (hk23 : ∀ (s : JS) (x2 : Int32) (x3 : Int32) (x4 : Int32) (x5 : Int32) (x6 : Int32) (x7 : Int32) (x8 : Int32), InvK s.k → FrK [137, 138] s0.k s.k → 0 ≤ x2.toInt → 1 ≤ x4.toInt → x4.toInt ≤ 216 → 1 ≤ x5.toInt → x5.toInt ≤ 36 → 0 ≤ x8.toInt → x8.toInt ≤ 36 → (36 - x8.toInt).toNat < M23 → Ok (k23 s x2 x3 x4 x5 x6 x7 x8) (Q_kX2_casesAheadOf s0)) (k33 : JS → Int32 → Int32 → Int32 → Int32 → Int32 → Int32 → Int32 → Int32 → Option (Int32 × JS)) (M33 : Nat) (hk33 : ∀ (s : JS) (x2 : Int32) (x3 : Int32) (x4 : Int32) (x5 : Int32) (x6 : Int32) (x7 : Int32) (x8 : Int32) (x9 : Int32), InvK s.k → FrK [137, 138] s0.k s.k → 0 ≤ x2.toInt → 1 ≤ x4.toInt → x4.toInt ≤ 216 → 1 ≤ x5.toInt → x5.toInt ≤ 36 → 0 ≤ x8.toInt → x8.toInt ≤ 35 → 0 ≤ x9.toInt → x9.toInt ≤ 216 → (36 - x8.toInt).toNat ≤ M23 → (216 - x9.toInt).toNat < M33 → Ok (k33 s x2 x3 x4 x5 x6 x7 x8 x9) (Q_kX2_casesAheadOf s0)) (s : JS) (x2 : Int32) (x3 : Int32) (x4 : Int32) (x5 : Int32) (x6 : Int32) (x7 : Int32) (x8 : Int32) (x9 : Int32) (hI_s_k : InvK s.k) (hF_s_k : FrK [137, 138] s0.k s.k) (h_x2l : 0 ≤ x2.toInt) (h_x4l : 1 ≤ x4.toInt) (h_x4u : x4.toInt ≤ 216) (h_x5l : 1 ≤ x5.toInt) (h_x5u : x5.toInt ≤ 36) (h_x8l : 0 ≤ x8.toInt) (h_x8u : x8.toInt ≤ 35) (h_x9l : 0 ≤ x9.toInt) (h_x9u : x9.toInt ≤ 215) (hM23 : (36 - x8.toInt).toNat ≤ M23) (hM33 : (216 - x9.toInt).toNat ≤ M33) : Ok (kX2_casesAheadOf_75 k23 k33 s x2 x3 x4 x5 x6 x7 x8 x9) (Q_kX2_casesAheadOf s0) := by
  unfold kX2_casesAheadOf_75
  exact ok_kX2_casesAheadOf_78 s0 k23 M23 hk23 k33 M33 hk33 _ _ _ _ _ _ _ _ _ hI_s_k hF_s_k (by omega) (by omega) (by omega) (by omega) (by omega) (by omega) (by omega) (by omega) (by omega) (by omega) (by omega)
set_option maxHeartbeats 1000000 in
theorem ok_kX2_casesAheadOf_33 (s0 : JS) (k23 : JS → Int32 → Int32 → Int32 → Int32 → Int32 → Int32 → Int32 → Option (Int32 × JS)) (M23 : Nat) (hk23 : ∀ (s : JS) (x2 : Int32) (x3 : Int32) (x4 : Int32) (x5 : Int32) (x6 : Int32) (x7 : Int32) (x8 : Int32), InvK s.k → FrK [137, 138] s0.k s.k → 0 ≤ x2.toInt → 1 ≤ x4.toInt → x4.toInt ≤ 216 → 1 ≤ x5.toInt → x5.toInt ≤ 36 → 0 ≤ x8.toInt → x8.toInt ≤ 36 → (36 - x8.toInt).toNat < M23 → Ok (k23 s x2 x3 x4 x5 x6 x7 x8) (Q_kX2_casesAheadOf s0)) (k33 : JS → Int32 → Int32 → Int32 → Int32 → Int32 → Int32 → Int32 → Int32 → Option (Int32 × JS)) (M33 : Nat) (hk33 : ∀ (s : JS) (x2 : Int32) (x3 : Int32) (x4 : Int32) (x5 : Int32) (x6 : Int32) (x7 : Int32) (x8 : Int32) (x9 : Int32), InvK s.k → FrK [137, 138] s0.k s.k → 0 ≤ x2.toInt → 1 ≤ x4.toInt → x4.toInt ≤ 216 → 1 ≤ x5.toInt → x5.toInt ≤ 36 → 0 ≤ x8.toInt → x8.toInt ≤ 35 → 0 ≤ x9.toInt → x9.toInt ≤ 216 → (36 - x8.toInt).toNat ≤ M23 → (216 - x9.toInt).toNat < M33 → Ok (k33 s x2 x3 x4 x5 x6 x7 x8 x9) (Q_kX2_casesAheadOf s0)) (s : JS) (x2 : Int32) (x3 : Int32) (x4 : Int32) (x5 : Int32) (x6 : Int32) (x7 : Int32) (x8 : Int32) (x9 : Int32) (hI_s_k : InvK s.k) (hF_s_k : FrK [137, 138] s0.k s.k) (h_x2l : 0 ≤ x2.toInt) (h_x4l : 1 ≤ x4.toInt) (h_x4u : x4.toInt ≤ 216) (h_x5l : 1 ≤ x5.toInt) (h_x5u : x5.toInt ≤ 36) (h_x8l : 0 ≤ x8.toInt) (h_x8u : x8.toInt ≤ 35) (h_x9l : 0 ≤ x9.toInt) (h_x9u : x9.toInt ≤ 216) (hM23 : (36 - x8.toInt).toNat ≤ M23) (hM33 : (216 - x9.toInt).toNat ≤ M33) : Ok (kX2_casesAheadOf_33 k23 k33 s x2 x3 x4 x5 x6 x7 x8 x9) (Q_kX2_casesAheadOf s0) := by
  unfold kX2_casesAheadOf_33
  refine ok_ite (fun c_1 => ?_) (fun c_1 => ?_)
  · have c_1 := tn_le (a := (x4).toInt) (b := (x9).toInt) rfl rfl c_1
    have a_2 : ((x8 + 1)).toInt = (x8).toInt + 1 := tn_add rfl (by decide) (by omega) (by omega)
    exact hk23 _ _ _ _ _ _ _ _ hI_s_k hF_s_k (by omega) (by omega) (by omega) (by omega) (by omega) (by omega) (by omega) (by omega)
  · have c_1 := tn_nle (a := (x4).toInt) (b := (x9).toInt) rfl rfl c_1
    refine ok_grd (vpb_ok (by omega) (by omega)) ?_
    refine ok_grd (vpb_ok (by omega) (by omega)) ?_
    refine ok_ite (fun c_3 => ?_) (fun c_3 => ?_)
    · have c_3 := tn_lt (a := (x3).toInt) (b := ((((s.k.f 38) (Int32.toNatClampNeg x8)) * ((s.k.f 37) (Int32.toNatClampNeg x9)))).toInt) rfl rfl c_3
      exact ok_kX2_casesAheadOf_75 s0 k23 M23 hk23 k33 M33 hk33 _ _ _ _ _ _ _ _ _ hI_s_k hF_s_k (by omega) (by omega) (by omega) (by omega) (by omega) (by omega) (by omega) (by omega) (by omega) (by omega) (by omega)
    · have c_3 := tn_nlt (a := (x3).toInt) (b := ((((s.k.f 38) (Int32.toNatClampNeg x8)) * ((s.k.f 37) (Int32.toNatClampNeg x9)))).toInt) rfl rfl c_3
      refine ok_ite (fun c_4 => ?_) (fun c_4 => ?_)
      · have c_4 := tn_eq (a := ((((s.k.f 38) (Int32.toNatClampNeg x8)) * ((s.k.f 37) (Int32.toNatClampNeg x9)))).toInt) (b := (x3).toInt) rfl rfl c_4
        refine ok_ite (fun c_5 => ?_) (fun c_5 => ?_)
        · have c_5 := tn_le (a := (x2).toInt) (b := (x7).toInt) rfl rfl c_5
          exact ok_kX2_casesAheadOf_78 s0 k23 M23 hk23 k33 M33 hk33 _ _ _ _ _ _ _ _ _ hI_s_k hF_s_k (by omega) (by omega) (by omega) (by omega) (by omega) (by omega) (by omega) (by omega) (by omega) (by omega) (by omega)
        · have c_5 := tn_nle (a := (x2).toInt) (b := (x7).toInt) rfl rfl c_5
          exact ok_kX2_casesAheadOf_75 s0 k23 M23 hk23 k33 M33 hk33 _ _ _ _ _ _ _ _ _ hI_s_k hF_s_k (by omega) (by omega) (by omega) (by omega) (by omega) (by omega) (by omega) (by omega) (by omega) (by omega) (by omega)
      · have c_4 := tn_ne (a := ((((s.k.f 38) (Int32.toNatClampNeg x8)) * ((s.k.f 37) (Int32.toNatClampNeg x9)))).toInt) (b := (x3).toInt) rfl rfl c_4
        exact ok_kX2_casesAheadOf_78 s0 k23 M23 hk23 k33 M33 hk33 _ _ _ _ _ _ _ _ _ hI_s_k hF_s_k (by omega) (by omega) (by omega) (by omega) (by omega) (by omega) (by omega) (by omega) (by omega) (by omega) (by omega)
theorem okL_kX2_casesAheadOf_33 (s0 : JS) (k23 : JS → Int32 → Int32 → Int32 → Int32 → Int32 → Int32 → Int32 → Option (Int32 × JS)) (M23 : Nat) (hk23 : ∀ (s : JS) (x2 : Int32) (x3 : Int32) (x4 : Int32) (x5 : Int32) (x6 : Int32) (x7 : Int32) (x8 : Int32), InvK s.k → FrK [137, 138] s0.k s.k → 0 ≤ x2.toInt → 1 ≤ x4.toInt → x4.toInt ≤ 216 → 1 ≤ x5.toInt → x5.toInt ≤ 36 → 0 ≤ x8.toInt → x8.toInt ≤ 36 → (36 - x8.toInt).toNat < M23 → Ok (k23 s x2 x3 x4 x5 x6 x7 x8) (Q_kX2_casesAheadOf s0)) : ∀ (n : Nat) (s : JS) (x2 : Int32) (x3 : Int32) (x4 : Int32) (x5 : Int32) (x6 : Int32) (x7 : Int32) (x8 : Int32) (x9 : Int32), (216 - x9.toInt).toNat < n → InvK s.k → FrK [137, 138] s0.k s.k → 0 ≤ x2.toInt → 1 ≤ x4.toInt → x4.toInt ≤ 216 → 1 ≤ x5.toInt → x5.toInt ≤ 36 → 0 ≤ x8.toInt → x8.toInt ≤ 35 → 0 ≤ x9.toInt → x9.toInt ≤ 216 → (36 - x8.toInt).toNat ≤ M23 → Ok (kX2_casesAheadOf_33L k23 n s x2 x3 x4 x5 x6 x7 x8 x9) (Q_kX2_casesAheadOf s0) := by
  intro n
  induction n with
  | zero => intro s x2 x3 x4 x5 x6 x7 x8 x9 hn; omega
  | succ n ih =>
    intro s x2 x3 x4 x5 x6 x7 x8 x9 hn hI_s_k hF_s_k h_x2l h_x4l h_x4u h_x5l h_x5u h_x8l h_x8u h_x9l h_x9u hM23
    exact ok_kX2_casesAheadOf_33 s0 k23 M23 hk23 (kX2_casesAheadOf_33L k23 n) ((216 - x9.toInt).toNat) (fun zs zx2 zx3 zx4 zx5 zx6 zx7 zx8 zx9 g0 g1 g2 g3 g4 g5 g6 g7 g8 g9 g10 o23 hm => ih zs zx2 zx3 zx4 zx5 zx6 zx7 zx8 zx9 (by omega) g0 g1 g2 g3 g4 g5 g6 g7 g8 g9 g10 o23) s x2 x3 x4 x5 x6 x7 x8 x9 hI_s_k hF_s_k h_x2l h_x4l h_x4u h_x5l h_x5u h_x8l h_x8u h_x9l h_x9u hM23 (Nat.le_refl _)
set_option maxHeartbeats 1000000 in
theorem ok_kX2_casesAheadOf_23 (s0 : JS) (k23 : JS → Int32 → Int32 → Int32 → Int32 → Int32 → Int32 → Int32 → Option (Int32 × JS)) (M23 : Nat) (hk23 : ∀ (s : JS) (x2 : Int32) (x3 : Int32) (x4 : Int32) (x5 : Int32) (x6 : Int32) (x7 : Int32) (x8 : Int32), InvK s.k → FrK [137, 138] s0.k s.k → 0 ≤ x2.toInt → 1 ≤ x4.toInt → x4.toInt ≤ 216 → 1 ≤ x5.toInt → x5.toInt ≤ 36 → 0 ≤ x8.toInt → x8.toInt ≤ 36 → (36 - x8.toInt).toNat < M23 → Ok (k23 s x2 x3 x4 x5 x6 x7 x8) (Q_kX2_casesAheadOf s0)) (s : JS) (x2 : Int32) (x3 : Int32) (x4 : Int32) (x5 : Int32) (x6 : Int32) (x7 : Int32) (x8 : Int32) (hI_s_k : InvK s.k) (hF_s_k : FrK [137, 138] s0.k s.k) (h_x2l : 0 ≤ x2.toInt) (h_x4l : 1 ≤ x4.toInt) (h_x4u : x4.toInt ≤ 216) (h_x5l : 1 ≤ x5.toInt) (h_x5u : x5.toInt ≤ 36) (h_x8l : 0 ≤ x8.toInt) (h_x8u : x8.toInt ≤ 36) (hM23 : (36 - x8.toInt).toNat ≤ M23) : Ok (kX2_casesAheadOf_23 k23 s x2 x3 x4 x5 x6 x7 x8) (Q_kX2_casesAheadOf s0) := by
  unfold kX2_casesAheadOf_23
  refine ok_ite (fun c_1 => ?_) (fun c_1 => ?_)
  · have c_1 := tn_le (a := (x5).toInt) (b := (x8).toInt) rfl rfl c_1
    exact ok_some ⟨hI_s_k, hF_s_k, (ti_rng _).1, (ti_rng _).2⟩
  · have c_1 := tn_nle (a := (x5).toInt) (b := (x8).toInt) rfl rfl c_1
    have l_0 : (0 : Int32).toInt = 0 := by decide
    exact okL_kX2_casesAheadOf_33 s0 k23 M23 hk23 fu _ _ _ _ _ _ _ _ _ (by unfold fu; omega) hI_s_k hF_s_k (by omega) (by omega) (by omega) (by omega) (by omega) (by omega) (by omega) (by decide) (by decide) (by omega)
theorem okL_kX2_casesAheadOf_23 (s0 : JS)  : ∀ (n : Nat) (s : JS) (x2 : Int32) (x3 : Int32) (x4 : Int32) (x5 : Int32) (x6 : Int32) (x7 : Int32) (x8 : Int32), (36 - x8.toInt).toNat < n → InvK s.k → FrK [137, 138] s0.k s.k → 0 ≤ x2.toInt → 1 ≤ x4.toInt → x4.toInt ≤ 216 → 1 ≤ x5.toInt → x5.toInt ≤ 36 → 0 ≤ x8.toInt → x8.toInt ≤ 36 → Ok (kX2_casesAheadOf_23L  n s x2 x3 x4 x5 x6 x7 x8) (Q_kX2_casesAheadOf s0) := by
  intro n
  induction n with
  | zero => intro s x2 x3 x4 x5 x6 x7 x8 hn; omega
  | succ n ih =>
    intro s x2 x3 x4 x5 x6 x7 x8 hn hI_s_k hF_s_k h_x2l h_x4l h_x4u h_x5l h_x5u h_x8l h_x8u 
    exact ok_kX2_casesAheadOf_23 s0 (kX2_casesAheadOf_23L  n) ((36 - x8.toInt).toNat) (fun zs zx2 zx3 zx4 zx5 zx6 zx7 zx8 g0 g1 g2 g3 g4 g5 g6 g7 g8  hm => ih zs zx2 zx3 zx4 zx5 zx6 zx7 zx8 (by omega) g0 g1 g2 g3 g4 g5 g6 g7 g8 ) s x2 x3 x4 x5 x6 x7 x8 hI_s_k hF_s_k h_x2l h_x4l h_x4u h_x5l h_x5u h_x8l h_x8u (Nat.le_refl _)
set_option maxHeartbeats 1000000 in
theorem ok_kX2_casesAheadOfB (s0 : JS)  (s : JS) (x2 : Int32) (x3 : Int32) (hI_s_k : InvK s.k) (hF_s_k : FrK [137, 138] s0.k s.k) (h_x2l : 0 ≤ x2.toInt)  : Ok (kX2_casesAheadOf  s x2 x3) (Q_kX2_casesAheadOf s0) := by
  unfold kX2_casesAheadOf
  refine ok_bindI (ok_kX2_fillNear _  hI_s_k) (fun r2 s1 hc_1 => ?_)
  have hI_s1_k : InvK s1.k := hc_1.1
  have hFc_s1_k : FrK [137] s.k s1.k := hc_1.2.1
  have hF_s1_k : FrK [137, 138] s0.k s1.k := hF_s_k.trans hFc_s1_k (by decide)
  have hl_r2 : 1 ≤ r2.toInt := hc_1.2.2.1
  have hu_r2 : r2.toInt ≤ 216 := hc_1.2.2.2
  refine ok_bindI (ok_kX2_fillFar _  hI_s1_k) (fun r4 s3 hc_2 => ?_)
  have hI_s3_k : InvK s3.k := hc_2.1
  have hFc_s3_k : FrK [138] s1.k s3.k := hc_2.2.1
  have hF_s3_k : FrK [137, 138] s0.k s3.k := hF_s1_k.trans hFc_s3_k (by decide)
  have hl_r4 : 1 ≤ r4.toInt := hc_2.2.2.1
  have hu_r4 : r4.toInt ≤ 36 := hc_2.2.2.2
  have l_0 : (0 : Int32).toInt = 0 := by decide
  exact okL_kX2_casesAheadOf_23 s0  fu _ _ _ _ _ _ _ _ (by unfold fu; omega) hI_s3_k hF_s3_k (by omega) (by omega) (by omega) (by omega) (by omega) (by decide) (by decide) 
theorem ok_kX2_casesAheadOf (s : JS) (x2 : Int32) (x3 : Int32) (hI_s_k : InvK s.k) (h_x2l : 0 ≤ x2.toInt) : Ok (kX2_casesAheadOf s x2 x3) (Q_kX2_casesAheadOf s) := ok_kX2_casesAheadOfB s s x2 x3 hI_s_k FrK.rfl h_x2l
noncomputable abbrev Q_kX2_caseAtRank (s0 : JS) (y : Int32 × JS) : Prop := InvK y.2.k ∧ FrK [137, 138, 139, 140] s0.k y.2.k ∧ -2147483648 ≤ y.1.toInt ∧ y.1.toInt ≤ 2147483647
set_option maxHeartbeats 1000000 in
theorem ok_kX2_caseAtRank_88 (s0 : JS) (k35 : JS → Int32 → Int32 → Int32 → Int32 → Int32 → Option (Int32 × JS)) (M35 : Nat) (hk35 : ∀ (s : JS) (x2 : Int32) (x3 : Int32) (x4 : Int32) (x5 : Int32) (x6 : Int32), InvK s.k → FrK [137, 138, 139, 140] s0.k s.k → 0 ≤ x2.toInt → x2.toInt ≤ 19 → 1 ≤ x3.toInt → x3.toInt ≤ 216 → 1 ≤ x4.toInt → x4.toInt ≤ 36 → 0 ≤ x6.toInt → x6.toInt ≤ 36 → (36 - x6.toInt).toNat < M35 → Ok (k35 s x2 x3 x4 x5 x6) (Q_kX2_caseAtRank s0)) (k45 : JS → Int32 → Int32 → Int32 → Int32 → Int32 → Int32 → Option (Int32 × JS)) (M45 : Nat) (hk45 : ∀ (s : JS) (x2 : Int32) (x3 : Int32) (x4 : Int32) (x5 : Int32) (x6 : Int32) (x7 : Int32), InvK s.k → FrK [137, 138, 139, 140] s0.k s.k → 0 ≤ x2.toInt → x2.toInt ≤ 19 → 1 ≤ x3.toInt → x3.toInt ≤ 216 → 1 ≤ x4.toInt → x4.toInt ≤ 36 → 0 ≤ x6.toInt → x6.toInt ≤ 35 → 0 ≤ x7.toInt → x7.toInt ≤ 216 → (36 - x6.toInt).toNat ≤ M35 → (216 - x7.toInt).toNat < M45 → Ok (k45 s x2 x3 x4 x5 x6 x7) (Q_kX2_caseAtRank s0)) (s : JS) (x2 : Int32) (x3 : Int32) (x4 : Int32) (x5 : Int32) (x6 : Int32) (x7 : Int32) (hI_s_k : InvK s.k) (hF_s_k : FrK [137, 138, 139, 140] s0.k s.k) (h_x2l : 0 ≤ x2.toInt) (h_x2u : x2.toInt ≤ 19) (h_x3l : 1 ≤ x3.toInt) (h_x3u : x3.toInt ≤ 216) (h_x4l : 1 ≤ x4.toInt) (h_x4u : x4.toInt ≤ 36) (h_x6l : 0 ≤ x6.toInt) (h_x6u : x6.toInt ≤ 35) (h_x7l : 0 ≤ x7.toInt) (h_x7u : x7.toInt ≤ 215) (hM35 : (36 - x6.toInt).toNat ≤ M35) (hM45 : (216 - x7.toInt).toNat ≤ M45) : Ok (kX2_caseAtRank_88 k35 k45 s x2 x3 x4 x5 x6 x7) (Q_kX2_caseAtRank s0) := by
  unfold kX2_caseAtRank_88
  have a_1 : ((x7 + 1)).toInt = (x7).toInt + 1 := tn_add rfl (by decide) (by omega) (by omega)
  exact hk45 _ _ _ _ _ _ _ hI_s_k hF_s_k (by omega) (by omega) (by omega) (by omega) (by omega) (by omega) (by omega) (by omega) (by omega) (by omega) (by omega) (by omega)
set_option maxHeartbeats 1000000 in
theorem ok_kX2_caseAtRank_45 (s0 : JS) (k35 : JS → Int32 → Int32 → Int32 → Int32 → Int32 → Option (Int32 × JS)) (M35 : Nat) (hk35 : ∀ (s : JS) (x2 : Int32) (x3 : Int32) (x4 : Int32) (x5 : Int32) (x6 : Int32), InvK s.k → FrK [137, 138, 139, 140] s0.k s.k → 0 ≤ x2.toInt → x2.toInt ≤ 19 → 1 ≤ x3.toInt → x3.toInt ≤ 216 → 1 ≤ x4.toInt → x4.toInt ≤ 36 → 0 ≤ x6.toInt → x6.toInt ≤ 36 → (36 - x6.toInt).toNat < M35 → Ok (k35 s x2 x3 x4 x5 x6) (Q_kX2_caseAtRank s0)) (k45 : JS → Int32 → Int32 → Int32 → Int32 → Int32 → Int32 → Option (Int32 × JS)) (M45 : Nat) (hk45 : ∀ (s : JS) (x2 : Int32) (x3 : Int32) (x4 : Int32) (x5 : Int32) (x6 : Int32) (x7 : Int32), InvK s.k → FrK [137, 138, 139, 140] s0.k s.k → 0 ≤ x2.toInt → x2.toInt ≤ 19 → 1 ≤ x3.toInt → x3.toInt ≤ 216 → 1 ≤ x4.toInt → x4.toInt ≤ 36 → 0 ≤ x6.toInt → x6.toInt ≤ 35 → 0 ≤ x7.toInt → x7.toInt ≤ 216 → (36 - x6.toInt).toNat ≤ M35 → (216 - x7.toInt).toNat < M45 → Ok (k45 s x2 x3 x4 x5 x6 x7) (Q_kX2_caseAtRank s0)) (s : JS) (x2 : Int32) (x3 : Int32) (x4 : Int32) (x5 : Int32) (x6 : Int32) (x7 : Int32) (hI_s_k : InvK s.k) (hF_s_k : FrK [137, 138, 139, 140] s0.k s.k) (h_x2l : 0 ≤ x2.toInt) (h_x2u : x2.toInt ≤ 19) (h_x3l : 1 ≤ x3.toInt) (h_x3u : x3.toInt ≤ 216) (h_x4l : 1 ≤ x4.toInt) (h_x4u : x4.toInt ≤ 36) (h_x6l : 0 ≤ x6.toInt) (h_x6u : x6.toInt ≤ 35) (h_x7l : 0 ≤ x7.toInt) (h_x7u : x7.toInt ≤ 216) (hM35 : (36 - x6.toInt).toNat ≤ M35) (hM45 : (216 - x7.toInt).toNat ≤ M45) : Ok (kX2_caseAtRank_45 k35 k45 s x2 x3 x4 x5 x6 x7) (Q_kX2_caseAtRank s0) := by
  unfold kX2_caseAtRank_45
  refine ok_ite (fun c_1 => ?_) (fun c_1 => ?_)
  · have c_1 := tn_le (a := (x3).toInt) (b := (x7).toInt) rfl rfl c_1
    have a_2 : ((x6 + 1)).toInt = (x6).toInt + 1 := tn_add rfl (by decide) (by omega) (by omega)
    exact hk35 _ _ _ _ _ _ hI_s_k hF_s_k (by omega) (by omega) (by omega) (by omega) (by omega) (by omega) (by omega) (by omega) (by omega)
  · have c_1 := tn_nle (a := (x3).toInt) (b := (x7).toInt) rfl rfl c_1
    refine ok_grd (vpb_ok (by omega) (by omega)) ?_
    refine ok_grd (vpb_ok (by omega) (by omega)) ?_
    refine ok_grd (vpb_ok (by omega) (by omega)) ?_
    refine ok_ite (fun c_3 => ?_) (fun c_3 => ?_)
    · have c_3 := tn_le (a := ((((s.k.f 38) (Int32.toNatClampNeg x6)) * ((s.k.f 37) (Int32.toNatClampNeg x7)))).toInt) (b := (((s.k.f 40) (Int32.toNatClampNeg x2))).toInt) rfl rfl c_3
      exact ok_kX2_caseAtRank_88 s0 k35 M35 hk35 k45 M45 hk45 _ _ _ _ _ _ _ hI_s_k hF_s_k (by omega) (by omega) (by omega) (by omega) (by omega) (by omega) (by omega) (by omega) (by omega) (by omega) (by omega) (by omega)
    · have c_3 := tn_nle (a := ((((s.k.f 38) (Int32.toNatClampNeg x6)) * ((s.k.f 37) (Int32.toNatClampNeg x7)))).toInt) (b := (((s.k.f 40) (Int32.toNatClampNeg x2))).toInt) rfl rfl c_3
      refine ok_bindP (ok_kX2_putOnTop _ _ _ _ hI_s_k (by omega) (by omega)) (fun s6 hc_4 => ?_)
      have hI_s6 : InvK s6 := hc_4.1
      have hFc_s6 : FrK [139, 140] s.k s6 := hc_4.2
      have hF_s6 : FrK [137, 138, 139, 140] s0.k s6 := hF_s_k.trans hFc_s6 (by decide)
      refine ok_let (fun s7 hs7 => ?_)
      have hI_s7_k : InvK s7.k := by rw [← hs7]; exact hI_s6
      have hF_s7_k : FrK [137, 138, 139, 140] s0.k s7.k := by rw [← hs7]; exact hF_s6
      exact ok_kX2_caseAtRank_88 s0 k35 M35 hk35 k45 M45 hk45 _ _ _ _ _ _ _ hI_s7_k hF_s7_k (by omega) (by omega) (by omega) (by omega) (by omega) (by omega) (by omega) (by omega) (by omega) (by omega) (by omega) (by omega)
theorem okL_kX2_caseAtRank_45 (s0 : JS) (k35 : JS → Int32 → Int32 → Int32 → Int32 → Int32 → Option (Int32 × JS)) (M35 : Nat) (hk35 : ∀ (s : JS) (x2 : Int32) (x3 : Int32) (x4 : Int32) (x5 : Int32) (x6 : Int32), InvK s.k → FrK [137, 138, 139, 140] s0.k s.k → 0 ≤ x2.toInt → x2.toInt ≤ 19 → 1 ≤ x3.toInt → x3.toInt ≤ 216 → 1 ≤ x4.toInt → x4.toInt ≤ 36 → 0 ≤ x6.toInt → x6.toInt ≤ 36 → (36 - x6.toInt).toNat < M35 → Ok (k35 s x2 x3 x4 x5 x6) (Q_kX2_caseAtRank s0)) : ∀ (n : Nat) (s : JS) (x2 : Int32) (x3 : Int32) (x4 : Int32) (x5 : Int32) (x6 : Int32) (x7 : Int32), (216 - x7.toInt).toNat < n → InvK s.k → FrK [137, 138, 139, 140] s0.k s.k → 0 ≤ x2.toInt → x2.toInt ≤ 19 → 1 ≤ x3.toInt → x3.toInt ≤ 216 → 1 ≤ x4.toInt → x4.toInt ≤ 36 → 0 ≤ x6.toInt → x6.toInt ≤ 35 → 0 ≤ x7.toInt → x7.toInt ≤ 216 → (36 - x6.toInt).toNat ≤ M35 → Ok (kX2_caseAtRank_45L k35 n s x2 x3 x4 x5 x6 x7) (Q_kX2_caseAtRank s0) := by
  intro n
  induction n with
  | zero => intro s x2 x3 x4 x5 x6 x7 hn; omega
  | succ n ih =>
    intro s x2 x3 x4 x5 x6 x7 hn hI_s_k hF_s_k h_x2l h_x2u h_x3l h_x3u h_x4l h_x4u h_x6l h_x6u h_x7l h_x7u hM35
    exact ok_kX2_caseAtRank_45 s0 k35 M35 hk35 (kX2_caseAtRank_45L k35 n) ((216 - x7.toInt).toNat) (fun zs zx2 zx3 zx4 zx5 zx6 zx7 g0 g1 g2 g3 g4 g5 g6 g7 g8 g9 g10 g11 o35 hm => ih zs zx2 zx3 zx4 zx5 zx6 zx7 (by omega) g0 g1 g2 g3 g4 g5 g6 g7 g8 g9 g10 g11 o35) s x2 x3 x4 x5 x6 x7 hI_s_k hF_s_k h_x2l h_x2u h_x3l h_x3u h_x4l h_x4u h_x6l h_x6u h_x7l h_x7u hM35 (Nat.le_refl _)
set_option maxHeartbeats 1000000 in
theorem ok_kX2_caseAtRank_35 (s0 : JS) (k35 : JS → Int32 → Int32 → Int32 → Int32 → Int32 → Option (Int32 × JS)) (M35 : Nat) (hk35 : ∀ (s : JS) (x2 : Int32) (x3 : Int32) (x4 : Int32) (x5 : Int32) (x6 : Int32), InvK s.k → FrK [137, 138, 139, 140] s0.k s.k → 0 ≤ x2.toInt → x2.toInt ≤ 19 → 1 ≤ x3.toInt → x3.toInt ≤ 216 → 1 ≤ x4.toInt → x4.toInt ≤ 36 → 0 ≤ x6.toInt → x6.toInt ≤ 36 → (36 - x6.toInt).toNat < M35 → Ok (k35 s x2 x3 x4 x5 x6) (Q_kX2_caseAtRank s0)) (s : JS) (x2 : Int32) (x3 : Int32) (x4 : Int32) (x5 : Int32) (x6 : Int32) (hI_s_k : InvK s.k) (hF_s_k : FrK [137, 138, 139, 140] s0.k s.k) (h_x2l : 0 ≤ x2.toInt) (h_x2u : x2.toInt ≤ 19) (h_x3l : 1 ≤ x3.toInt) (h_x3u : x3.toInt ≤ 216) (h_x4l : 1 ≤ x4.toInt) (h_x4u : x4.toInt ≤ 36) (h_x6l : 0 ≤ x6.toInt) (h_x6u : x6.toInt ≤ 36) (hM35 : (36 - x6.toInt).toNat ≤ M35) : Ok (kX2_caseAtRank_35 k35 s x2 x3 x4 x5 x6) (Q_kX2_caseAtRank s0) := by
  unfold kX2_caseAtRank_35
  refine ok_ite (fun c_1 => ?_) (fun c_1 => ?_)
  · have c_1 := tn_le (a := (x4).toInt) (b := (x6).toInt) rfl rfl c_1
    refine ok_grd (vpb_ok (by omega) (by omega)) ?_
    exact ok_some ⟨hI_s_k, hF_s_k, (ti_rng _).1, (ti_rng _).2⟩
  · have c_1 := tn_nle (a := (x4).toInt) (b := (x6).toInt) rfl rfl c_1
    have l_0 : (0 : Int32).toInt = 0 := by decide
    exact okL_kX2_caseAtRank_45 s0 k35 M35 hk35 fu _ _ _ _ _ _ _ (by unfold fu; omega) hI_s_k hF_s_k (by omega) (by omega) (by omega) (by omega) (by omega) (by omega) (by omega) (by omega) (by decide) (by decide) (by omega)
theorem okL_kX2_caseAtRank_35 (s0 : JS)  : ∀ (n : Nat) (s : JS) (x2 : Int32) (x3 : Int32) (x4 : Int32) (x5 : Int32) (x6 : Int32), (36 - x6.toInt).toNat < n → InvK s.k → FrK [137, 138, 139, 140] s0.k s.k → 0 ≤ x2.toInt → x2.toInt ≤ 19 → 1 ≤ x3.toInt → x3.toInt ≤ 216 → 1 ≤ x4.toInt → x4.toInt ≤ 36 → 0 ≤ x6.toInt → x6.toInt ≤ 36 → Ok (kX2_caseAtRank_35L  n s x2 x3 x4 x5 x6) (Q_kX2_caseAtRank s0) := by
  intro n
  induction n with
  | zero => intro s x2 x3 x4 x5 x6 hn; omega
  | succ n ih =>
    intro s x2 x3 x4 x5 x6 hn hI_s_k hF_s_k h_x2l h_x2u h_x3l h_x3u h_x4l h_x4u h_x6l h_x6u 
    exact ok_kX2_caseAtRank_35 s0 (kX2_caseAtRank_35L  n) ((36 - x6.toInt).toNat) (fun zs zx2 zx3 zx4 zx5 zx6 g0 g1 g2 g3 g4 g5 g6 g7 g8 g9  hm => ih zs zx2 zx3 zx4 zx5 zx6 (by omega) g0 g1 g2 g3 g4 g5 g6 g7 g8 g9 ) s x2 x3 x4 x5 x6 hI_s_k hF_s_k h_x2l h_x2u h_x3l h_x3u h_x4l h_x4u h_x6l h_x6u (Nat.le_refl _)
set_option maxHeartbeats 1000000 in
theorem ok_kX2_caseAtRankB (s0 : JS)  (s : JS) (x2 : Int32) (hI_s_k : InvK s.k) (hF_s_k : FrK [137, 138, 139, 140] s0.k s.k) (h_x2l : 0 ≤ x2.toInt) (h_x2u : x2.toInt ≤ 19)  : Ok (kX2_caseAtRank  s x2) (Q_kX2_caseAtRank s0) := by
  unfold kX2_caseAtRank
  refine ok_bindI (ok_kX2_fillNear _  hI_s_k) (fun r2 s1 hc_1 => ?_)
  have hI_s1_k : InvK s1.k := hc_1.1
  have hFc_s1_k : FrK [137] s.k s1.k := hc_1.2.1
  have hF_s1_k : FrK [137, 138, 139, 140] s0.k s1.k := hF_s_k.trans hFc_s1_k (by decide)
  have hl_r2 : 1 ≤ r2.toInt := hc_1.2.2.1
  have hu_r2 : r2.toInt ≤ 216 := hc_1.2.2.2
  refine ok_bindI (ok_kX2_fillFar _  hI_s1_k) (fun r4 s3 hc_2 => ?_)
  have hI_s3_k : InvK s3.k := hc_2.1
  have hFc_s3_k : FrK [138] s1.k s3.k := hc_2.2.1
  have hF_s3_k : FrK [137, 138, 139, 140] s0.k s3.k := hF_s1_k.trans hFc_s3_k (by decide)
  have hl_r4 : 1 ≤ r4.toInt := hc_2.2.2.1
  have hu_r4 : r4.toInt ≤ 36 := hc_2.2.2.2
  refine ok_bindP (ok_kJ7_fill_53178_20 _ _ (by decide) (by decide)) (fun s5 hc_3 => ?_)
  refine ok_let (fun s6 hs6 => ?_)
  have hI_s6_k : InvK s6.k := by rw [← hs6]; exact hI_s3_k.saF (k := 40) rfl rfl
  have hF_s6_k : FrK [137, 138, 139, 140] s0.k s6.k := by rw [← hs6]; exact hF_s3_k.sa (k := 40) (by decide)
  refine ok_bindP (ok_kJ7_fill_53178_20 _ _ (by decide) (by decide)) (fun s8 hc_4 => ?_)
  refine ok_let (fun s9 hs9 => ?_)
  have hI_s9_k : InvK s9.k := by rw [← hs9]; exact hI_s6_k.saF (k := 39) rfl rfl
  have hF_s9_k : FrK [137, 138, 139, 140] s0.k s9.k := by rw [← hs9]; exact hF_s6_k.sa (k := 39) (by decide)
  have l_0 : (0 : Int32).toInt = 0 := by decide
  exact okL_kX2_caseAtRank_35 s0  fu _ _ _ _ _ _ (by unfold fu; omega) hI_s9_k hF_s9_k (by omega) (by omega) (by omega) (by omega) (by omega) (by omega) (by decide) (by decide) 
theorem ok_kX2_caseAtRank (s : JS) (x2 : Int32) (hI_s_k : InvK s.k) (h_x2l : 0 ≤ x2.toInt) (h_x2u : x2.toInt ≤ 19) : Ok (kX2_caseAtRank s x2) (Q_kX2_caseAtRank s) := ok_kX2_caseAtRankB s s x2 hI_s_k FrK.rfl h_x2l h_x2u
noncomputable abbrev Q_kX2_unfind (s0 : JS) (y : JS) : Prop := InvK y.k ∧ FrK [] s0.k y.k
set_option maxHeartbeats 1000000 in
theorem ok_kX2_unfind_28 (s0 : JS) (k2 : JS → Int32 → Int32 → Option (JS)) (M2 : Nat) (hk2 : ∀ (s : JS) (x2 : Int32) (x3 : Int32), InvK s.k → FrK [] s0.k s.k → 0 ≤ x3.toInt → x3.toInt ≤ 5 → (5 - x3.toInt).toNat < M2 → Ok (k2 s x2 x3) (Q_kX2_unfind s0)) (s : JS) (x2 : Int32) (x3 : Int32) (hI_s_k : InvK s.k) (hF_s_k : FrK [] s0.k s.k) (h_x3l : 0 ≤ x3.toInt) (h_x3u : x3.toInt ≤ 4) (hM2 : (5 - x3.toInt).toNat ≤ M2) : Ok (kX2_unfind_28 k2 s x2 x3) (Q_kX2_unfind s0) := by
  unfold kX2_unfind_28
  have a_1 : ((x3 + 1)).toInt = (x3).toInt + 1 := tn_add rfl (by decide) (by omega) (by omega)
  exact hk2 _ _ _ hI_s_k hF_s_k (by omega) (by omega) (by omega)
set_option maxHeartbeats 1000000 in
theorem ok_kX2_unfind_2 (s0 : JS) (k2 : JS → Int32 → Int32 → Option (JS)) (M2 : Nat) (hk2 : ∀ (s : JS) (x2 : Int32) (x3 : Int32), InvK s.k → FrK [] s0.k s.k → 0 ≤ x3.toInt → x3.toInt ≤ 5 → (5 - x3.toInt).toNat < M2 → Ok (k2 s x2 x3) (Q_kX2_unfind s0)) (s : JS) (x2 : Int32) (x3 : Int32) (hI_s_k : InvK s.k) (hF_s_k : FrK [] s0.k s.k) (h_x3l : 0 ≤ x3.toInt) (h_x3u : x3.toInt ≤ 5) (hM2 : (5 - x3.toInt).toNat ≤ M2) : Ok (kX2_unfind_2 k2 s x2 x3) (Q_kX2_unfind s0) := by
  unfold kX2_unfind_2
  have a_1 : 0 ≤ (s.k.v 1).toInt ∧ (s.k.v 1).toInt ≤ 5 := hI_s_k.1 1
  refine ok_ite (fun c_2 => ?_) (fun c_2 => ?_)
  · have c_2 := tn_le (a := ((s.k.v 1)).toInt) (b := (x3).toInt) rfl rfl c_2
    exact ok_some ⟨hI_s_k, hF_s_k⟩
  · have c_2 := tn_nle (a := ((s.k.v 1)).toInt) (b := (x3).toInt) rfl rfl c_2
    refine ok_bindP (ok_kX10_has _ _ ) (fun r2 hc_3 => ?_)
    have hl_r2 : 0 ≤ r2.toInt := hc_3.1
    have hu_r2 : r2.toInt ≤ 1 := hc_3.2
    refine ok_ite (fun c_4 => ?_) (fun c_4 => ?_)
    · have c_4 := tn_eq (a := (r2).toInt) (b := 0) rfl (by decide) c_4
      exact ok_kX2_unfind_28 s0 k2 M2 hk2 _ _ _ hI_s_k hF_s_k (by omega) (by omega) (by omega)
    · have c_4 := tn_ne (a := (r2).toInt) (b := 0) rfl (by decide) c_4
      refine ok_grd (vpb_ok (by omega) (by omega)) ?_
      refine ok_let (fun s5 hs5 => ?_)
      have hI_s5_k : InvK s5.k := by rw [← hs5]; exact hI_s_k
      have hF_s5_k : FrK [] s0.k s5.k := by rw [← hs5]; exact hF_s_k
      exact ok_kX2_unfind_28 s0 k2 M2 hk2 _ _ _ hI_s5_k hF_s5_k (by omega) (by omega) (by omega)
theorem okL_kX2_unfind_2 (s0 : JS)  : ∀ (n : Nat) (s : JS) (x2 : Int32) (x3 : Int32), (5 - x3.toInt).toNat < n → InvK s.k → FrK [] s0.k s.k → 0 ≤ x3.toInt → x3.toInt ≤ 5 → Ok (kX2_unfind_2L  n s x2 x3) (Q_kX2_unfind s0) := by
  intro n
  induction n with
  | zero => intro s x2 x3 hn; omega
  | succ n ih =>
    intro s x2 x3 hn hI_s_k hF_s_k h_x3l h_x3u 
    exact ok_kX2_unfind_2 s0 (kX2_unfind_2L  n) ((5 - x3.toInt).toNat) (fun zs zx2 zx3 g0 g1 g2 g3  hm => ih zs zx2 zx3 (by omega) g0 g1 g2 g3 ) s x2 x3 hI_s_k hF_s_k h_x3l h_x3u (Nat.le_refl _)
set_option maxHeartbeats 1000000 in
theorem ok_kX2_unfindB (s0 : JS)  (s : JS) (x2 : Int32) (hI_s_k : InvK s.k) (hF_s_k : FrK [] s0.k s.k)  : Ok (kX2_unfind  s x2) (Q_kX2_unfind s0) := by
  unfold kX2_unfind
  have l_0 : (0 : Int32).toInt = 0 := by decide
  exact okL_kX2_unfind_2 s0  fu _ _ _ (by unfold fu; omega) hI_s_k hF_s_k (by decide) (by decide) 
theorem ok_kX2_unfind (s : JS) (x2 : Int32) (hI_s_k : InvK s.k) : Ok (kX2_unfind s x2) (Q_kX2_unfind s) := ok_kX2_unfindB s s x2 hI_s_k FrK.rfl
noncomputable abbrev Q_kX3_remember (s0 : PS) (y : PS) : Prop := InvG y.g
set_option maxHeartbeats 1000000 in
theorem ok_kX3_rememberB (s0 : PS)  (s : PS) (hI_s_g : InvG s.g)  : Ok (kX3_remember  s) (Q_kX3_remember s0) := by
  unfold kX3_remember
  have a_1 : 0 ≤ (s.g.v 3).toInt ∧ (s.g.v 3).toInt ≤ 39 := hI_s_g.1 3
  have a_2 : 0 ≤ (s.g.v 4).toInt ∧ (s.g.v 4).toInt ≤ 40 := hI_s_g.1 4
  have a_3 : (((s.g.v 3) + (s.g.v 4))).toInt = ((s.g.v 3)).toInt + ((s.g.v 4)).toInt := tn_add rfl rfl (by omega) (by omega)
  have a_4 : ((((s.g.v 3) + (s.g.v 4)) - ((s.g.v 3) + (s.g.v 4)) / 40 * 40)).toInt = (((s.g.v 3) + (s.g.v 4))).toInt % 40 := ti_remc (c := 40) (by decide) (by omega) (by decide)
  refine ok_grd (vpb_ok (by omega) (by omega)) ?_
  refine ok_bindP (ok_kX6_copyFrom _  ) (fun s2 hc_5 => ?_)
  refine ok_let (fun s3 hs3 => ?_)
  have hI_s3_g : InvG s3.g := by rw [← hs3]; exact hI_s_g
  have a_6 : (s3.g.v 4).toInt = (s.g.v 4).toInt := congrArg Int32.toInt (show s3.g.v 4 = s.g.v 4 by rw [← hs3]; rfl)
  refine ok_ite (fun c_7 => ?_) (fun c_7 => ?_)
  · have c_7 := tn_le (a := 40) (b := ((s3.g.v 4)).toInt) (by decide) rfl c_7
    refine ok_let (fun s6 hs6 => ?_)
    have a_8 : (s3.g.v 3).toInt = (s.g.v 3).toInt := congrArg Int32.toInt (show s3.g.v 3 = s.g.v 3 by rw [← hs3]; rfl)
    have a_9 : (((s3.g.v 3) + 1)).toInt = ((s3.g.v 3)).toInt + 1 := tn_add rfl (by decide) (by omega) (by omega)
    have a_10 : ((((s3.g.v 3) + 1) - ((s3.g.v 3) + 1) / 40 * 40)).toInt = (((s3.g.v 3) + 1)).toInt % 40 := ti_remc (c := 40) (by decide) (by omega) (by decide)
    have hI_s6_g : InvG s6.g := by rw [← hs6]; exact hI_s3_g.sv (k := 3) (show (0 : Int) ≤ ((((s3.g.v 3) + 1) - ((s3.g.v 3) + 1) / 40 * 40)).toInt by omega) (show ((((s3.g.v 3) + 1) - ((s3.g.v 3) + 1) / 40 * 40)).toInt ≤ (39 : Int) by omega)
    exact ok_some (hI_s6_g)
  · have c_7 := tn_nle (a := 40) (b := ((s3.g.v 4)).toInt) (by decide) rfl c_7
    refine ok_let (fun s8 hs8 => ?_)
    have a_11 : (((s3.g.v 4) + 1)).toInt = ((s3.g.v 4)).toInt + 1 := tn_add rfl (by decide) (by omega) (by omega)
    have hI_s8_g : InvG s8.g := by rw [← hs8]; exact hI_s3_g.sv (k := 4) (show (0 : Int) ≤ (((s3.g.v 4) + 1)).toInt by omega) (show (((s3.g.v 4) + 1)).toInt ≤ (40 : Int) by omega)
    exact ok_some (hI_s8_g)
theorem ok_kX3_remember (s : PS) (hI_s_g : InvG s.g) : Ok (kX3_remember s) (Q_kX3_remember s) := ok_kX3_rememberB s s hI_s_g
noncomputable abbrev Q_kX3_takeBack (s0 : PS) (y : Int32 × PS) : Prop := InvG y.2.g ∧ 0 ≤ y.1.toInt ∧ y.1.toInt ≤ 1
set_option maxHeartbeats 1000000 in
theorem ok_kX3_takeBackB (s0 : PS)  (s : PS) (hI_s_g : InvG s.g)  : Ok (kX3_takeBack  s) (Q_kX3_takeBack s0) := by
  unfold kX3_takeBack
  have a_1 : 0 ≤ (s.g.v 4).toInt ∧ (s.g.v 4).toInt ≤ 40 := hI_s_g.1 4
  refine ok_ite (fun c_2 => ?_) (fun c_2 => ?_)
  · have c_2 := tn_eq (a := ((s.g.v 4)).toInt) (b := 0) rfl (by decide) c_2
    exact ok_some ⟨hI_s_g, by show 0 ≤ (0 : Int32).toInt; decide, by show (0 : Int32).toInt ≤ 1; decide⟩
  · have c_2 := tn_ne (a := ((s.g.v 4)).toInt) (b := 0) rfl (by decide) c_2
    refine ok_let (fun s2 hs2 => ?_)
    have a_3 : (((s.g.v 4) - 1)).toInt = ((s.g.v 4)).toInt - 1 := tn_sub rfl (by decide) (by omega) (by omega)
    have hI_s2_g : InvG s2.g := by rw [← hs2]; exact hI_s_g.sv (k := 4) (show (0 : Int) ≤ (((s.g.v 4) - 1)).toInt by omega) (show (((s.g.v 4) - 1)).toInt ≤ (40 : Int) by omega)
    have a_4 : 0 ≤ (s.g.v 3).toInt ∧ (s.g.v 3).toInt ≤ 39 := hI_s_g.1 3
    have a_5 : (s2.g.v 3).toInt = (s.g.v 3).toInt := congrArg Int32.toInt (show s2.g.v 3 = s.g.v 3 by rw [← hs2]; rfl)
    have a_6 : (s2.g.v 4).toInt = (((s.g.v 4) - 1)).toInt := (congrArg Int32.toInt (show s2.g.v 4 = ((s.g.v 4) - 1) by rw [← hs2]; rfl)).trans rfl
    have a_7 : (((s2.g.v 3) + (s2.g.v 4))).toInt = ((s2.g.v 3)).toInt + ((s2.g.v 4)).toInt := tn_add rfl rfl (by omega) (by omega)
    have a_8 : ((((s2.g.v 3) + (s2.g.v 4)) - ((s2.g.v 3) + (s2.g.v 4)) / 40 * 40)).toInt = (((s2.g.v 3) + (s2.g.v 4))).toInt % 40 := ti_remc (c := 40) (by decide) (by omega) (by decide)
    refine ok_grd (vpb_ok (by omega) (by omega)) ?_
    refine ok_bindP (ok_kX6_copyFrom _  ) (fun s5 hc_9 => ?_)
    refine ok_let (fun s6 hs6 => ?_)
    have hI_s6_g : InvG s6.g := by rw [← hs6]; exact hI_s2_g
    exact ok_some ⟨hI_s6_g, by show 0 ≤ (1 : Int32).toInt; decide, by show (1 : Int32).toInt ≤ 1; decide⟩
theorem ok_kX3_takeBack (s : PS) (hI_s_g : InvG s.g) : Ok (kX3_takeBack s) (Q_kX3_takeBack s) := ok_kX3_takeBackB s s hI_s_g
noncomputable abbrev Q_kX3_keepIn (s0 : PS) (y : Int32 × PS) : Prop := InvG y.2.g ∧ 0 ≤ y.1.toInt ∧ y.1.toInt ≤ 1
set_option maxHeartbeats 1000000 in
theorem ok_kX3_keepInB (s0 : PS)  (s : PS) (x1 : Int32) (hI_s_g : InvG s.g)  : Ok (kX3_keepIn  s x1) (Q_kX3_keepIn s0) := by
  unfold kX3_keepIn
  refine ok_ite (fun c_1 => ?_) (fun c_1 => ?_)
  · have c_1 := tn_lt (a := (x1).toInt) (b := 0) rfl (by decide) c_1
    exact ok_some ⟨hI_s_g, by show 0 ≤ (0 : Int32).toInt; decide, by show (0 : Int32).toInt ≤ 1; decide⟩
  · have c_1 := tn_nlt (a := (x1).toInt) (b := 0) rfl (by decide) c_1
    refine ok_ite (fun c_2 => ?_) (fun c_2 => ?_)
    · have c_2 := tn_lt (a := (x1).toInt) (b := 3) rfl (by decide) c_2
      refine ok_grd (vpb_ok (by omega) (by omega)) ?_
      refine ok_bindP (ok_kX6_copyFrom _  ) (fun s4 hc_3 => ?_)
      refine ok_let (fun s5 hs5 => ?_)
      have hI_s5_g : InvG s5.g := by rw [← hs5]; exact hI_s_g
      refine ok_grd (vpb_ok (by omega) (by omega)) ?_
      refine ok_let (fun s8 hs8 => ?_)
      have hI_s8_g : InvG s8.g := by rw [← hs8]; exact hI_s5_g.sfF (k := 4) rfl rfl
      exact ok_some ⟨hI_s8_g, by show 0 ≤ (1 : Int32).toInt; decide, by show (1 : Int32).toInt ≤ 1; decide⟩
    · have c_2 := tn_nlt (a := (x1).toInt) (b := 3) rfl (by decide) c_2
      exact ok_some ⟨hI_s_g, by show 0 ≤ (0 : Int32).toInt; decide, by show (0 : Int32).toInt ≤ 1; decide⟩
theorem ok_kX3_keepIn (s : PS) (x1 : Int32) (hI_s_g : InvG s.g) : Ok (kX3_keepIn s x1) (Q_kX3_keepIn s) := ok_kX3_keepInB s s x1 hI_s_g
noncomputable abbrev Q_kX3_goOnFrom (s0 : PS) (y : Int32 × PS) : Prop := InvG y.2.g ∧ 0 ≤ y.1.toInt ∧ y.1.toInt ≤ 1
set_option maxHeartbeats 1000000 in
theorem ok_kX3_goOnFromB (s0 : PS)  (s : PS) (x1 : Int32) (hI_s_g : InvG s.g)  : Ok (kX3_goOnFrom  s x1) (Q_kX3_goOnFrom s0) := by
  unfold kX3_goOnFrom
  refine ok_ite (fun c_1 => ?_) (fun c_1 => ?_)
  · have c_1 := tn_lt (a := (x1).toInt) (b := 0) rfl (by decide) c_1
    exact ok_some ⟨hI_s_g, by show 0 ≤ (0 : Int32).toInt; decide, by show (0 : Int32).toInt ≤ 1; decide⟩
  · have c_1 := tn_nlt (a := (x1).toInt) (b := 0) rfl (by decide) c_1
    refine ok_ite (fun c_2 => ?_) (fun c_2 => ?_)
    · have c_2 := tn_le (a := 3) (b := (x1).toInt) (by decide) rfl c_2
      exact ok_some ⟨hI_s_g, by show 0 ≤ (0 : Int32).toInt; decide, by show (0 : Int32).toInt ≤ 1; decide⟩
    · have c_2 := tn_nle (a := 3) (b := (x1).toInt) (by decide) rfl c_2
      refine ok_grd (vpb_ok (by omega) (by omega)) ?_
      refine ok_ite (fun c_3 => ?_) (fun c_3 => ?_)
      · have c_3 := tn_eq (a := (((s.g.f 4) (Int32.toNatClampNeg x1))).toInt) (b := 0) rfl (by decide) c_3
        exact ok_some ⟨hI_s_g, by show 0 ≤ (0 : Int32).toInt; decide, by show (0 : Int32).toInt ≤ 1; decide⟩
      · have c_3 := tn_ne (a := (((s.g.f 4) (Int32.toNatClampNeg x1))).toInt) (b := 0) rfl (by decide) c_3
        refine ok_grd (vpb_ok (by omega) (by omega)) ?_
        refine ok_bindP (ok_kX6_copyFrom _  ) (fun s6 hc_4 => ?_)
        refine ok_let (fun s7 hs7 => ?_)
        have hI_s7_g : InvG s7.g := by rw [← hs7]; exact hI_s_g
        refine ok_let (fun s9 hs9 => ?_)
        have hI_s9_g : InvG s9.g := by rw [← hs9]; exact hI_s7_g.sv (k := 4) (show (0 : Int) ≤ (0 : Int32).toInt by decide) (show (0 : Int32).toInt ≤ (40 : Int) by decide)
        exact ok_some ⟨hI_s9_g, by show 0 ≤ (1 : Int32).toInt; decide, by show (1 : Int32).toInt ≤ 1; decide⟩
theorem ok_kX3_goOnFrom (s : PS) (x1 : Int32) (hI_s_g : InvG s.g) : Ok (kX3_goOnFrom s x1) (Q_kX3_goOnFrom s) := ok_kX3_goOnFromB s s x1 hI_s_g
noncomputable abbrev Q_kX4_readParty (s0 : KS) (y : KS) : Prop := InvK y ∧ FrK [9, 15, 16, 17, 18, 19, 119, 120, 129] s0 y
set_option maxHeartbeats 1000000 in
theorem ok_kX4_readParty_73 (s0 : KS)  (s : KS) (x1 : Int64) (hI_s : InvK s) (hF_s : FrK [9, 15, 16, 17, 18, 19, 119, 120, 129] s0 s) (h_v9u : (s.v 9).toInt ≤ 5)  : Ok (kX4_readParty_73  s x1) (Q_kX4_readParty s0) := by
  unfold kX4_readParty_73
  refine ok_bindP (ok_kX4_take _ _ hI_s) (fun s1 hc_1 => ?_)
  have hI_s1 : InvK s1 := hc_1.1
  have hFc_s1 : FrK [15, 16, 17] s s1 := hc_1.2
  have hF_s1 : FrK [9, 15, 16, 17, 18, 19, 119, 120, 129] s0 s1 := hF_s.trans hFc_s1 (by decide)
  have a_2 : 0 ≤ (s.v 9).toInt ∧ (s.v 9).toInt ≤ 6 := hI_s.1 9
  have a_3 : (s1.v 9).toInt = (s.v 9).toInt := congrArg Int32.toInt (hFc_s1.1 9 (by decide))
  refine ok_grd (vpb_ok (by omega) (by omega)) ?_
  refine ok_let (fun s3 hs3 => ?_)
  have hI_s3 : InvK s3 := by rw [← hs3]; exact hI_s1.sg
  have hF_s3 : FrK [9, 15, 16, 17, 18, 19, 119, 120, 129] s0 s3 := by rw [← hs3]; exact hF_s1.sg (k := 29) (by decide)
  refine ok_bindI (ok_kX4_takeInt _ _ hI_s3 (by decide) (by decide)) (fun r6 s5 hc_4 => ?_)
  have hI_s5 : InvK s5 := hc_4.1
  have hFc_s5 : FrK [15, 16, 17, 18, 19] s3 s5 := hc_4.2.1
  have hF_s5 : FrK [9, 15, 16, 17, 18, 19, 119, 120, 129] s0 s5 := hF_s3.trans hFc_s5 (by decide)
  have a_5 : (s3.v 9).toInt = (s1.v 9).toInt := congrArg Int32.toInt (show s3.v 9 = s1.v 9 by rw [← hs3]; rfl)
  refine ok_grd (vpb_ok (by omega) (by omega)) ?_
  refine ok_let (fun s8 hs8 => ?_)
  have hI_s8 : InvK s8 := by rw [← hs8]; exact hI_s5.sfF (k := 19) rfl rfl
  have hF_s8 : FrK [9, 15, 16, 17, 18, 19, 119, 120, 129] s0 s8 := by rw [← hs8]; exact hF_s5.sf (k := 19) (by decide)
  refine ok_bindI (ok_kX4_takeInt _ _ hI_s8 (by decide) (by decide)) (fun r11 s10 hc_6 => ?_)
  have hI_s10 : InvK s10 := hc_6.1
  have hFc_s10 : FrK [15, 16, 17, 18, 19] s8 s10 := hc_6.2.1
  have hF_s10 : FrK [9, 15, 16, 17, 18, 19, 119, 120, 129] s0 s10 := hF_s8.trans hFc_s10 (by decide)
  have a_7 : (s5.v 9).toInt = (s3.v 9).toInt := congrArg Int32.toInt (hFc_s5.1 9 (by decide))
  have a_8 : (s8.v 9).toInt = (s5.v 9).toInt := congrArg Int32.toInt (show s8.v 9 = s5.v 9 by rw [← hs8]; rfl)
  refine ok_grd (vpb_ok (by omega) (by omega)) ?_
  refine ok_let (fun s13 hs13 => ?_)
  have hI_s13 : InvK s13 := by rw [← hs13]; exact hI_s10.sfF (k := 20) rfl rfl
  have hF_s13 : FrK [9, 15, 16, 17, 18, 19, 119, 120, 129] s0 s13 := by rw [← hs13]; exact hF_s10.sf (k := 20) (by decide)
  refine ok_bindP (ok_kX4_take _ _ hI_s13) (fun s15 hc_9 => ?_)
  have hI_s15 : InvK s15 := hc_9.1
  have hFc_s15 : FrK [15, 16, 17] s13 s15 := hc_9.2
  have hF_s15 : FrK [9, 15, 16, 17, 18, 19, 119, 120, 129] s0 s15 := hF_s13.trans hFc_s15 (by decide)
  refine ok_let (fun s16 hs16 => ?_)
  have a_10 : (s10.v 9).toInt = (s8.v 9).toInt := congrArg Int32.toInt (hFc_s10.1 9 (by decide))
  have a_11 : (s13.v 9).toInt = (s10.v 9).toInt := congrArg Int32.toInt (show s13.v 9 = s10.v 9 by rw [← hs13]; rfl)
  have a_12 : (s15.v 9).toInt = (s13.v 9).toInt := congrArg Int32.toInt (hFc_s15.1 9 (by decide))
  have a_13 : (((s15.v 9) + 1)).toInt = ((s15.v 9)).toInt + 1 := tn_add rfl (by decide) (by omega) (by omega)
  have hI_s16 : InvK s16 := by rw [← hs16]; exact hI_s15.sv (k := 9) (show (0 : Int) ≤ (((s15.v 9) + 1)).toInt by omega) (show (((s15.v 9) + 1)).toInt ≤ (6 : Int) by omega)
  have hF_s16 : FrK [9, 15, 16, 17, 18, 19, 119, 120, 129] s0 s16 := by rw [← hs16]; exact hF_s15.sv (k := 9) (by decide)
  exact ok_some ⟨hI_s16, hF_s16⟩
set_option maxHeartbeats 1000000 in
theorem ok_kX4_readPartyB (s0 : KS)  (s : KS) (hI_s : InvK s) (hF_s : FrK [9, 15, 16, 17, 18, 19, 119, 120, 129] s0 s)  : Ok (kX4_readParty  s) (Q_kX4_readParty s0) := by
  unfold kX4_readParty
  have a_1 : 0 ≤ (s.v 9).toInt ∧ (s.v 9).toInt ≤ 6 := hI_s.1 9
  refine ok_ite (fun c_2 => ?_) (fun c_2 => ?_)
  · have c_2 := tn_lt (a := ((s.v 9)).toInt) (b := 6) rfl (by decide) c_2
    refine ok_bindP (ok_kX4_take _ _ hI_s) (fun s2 hc_3 => ?_)
    have hI_s2 : InvK s2 := hc_3.1
    have hFc_s2 : FrK [15, 16, 17] s s2 := hc_3.2
    have hF_s2 : FrK [9, 15, 16, 17, 18, 19, 119, 120, 129] s0 s2 := hF_s.trans hFc_s2 (by decide)
    have a_4 : 0 ≤ (s2.v 15).toInt ∧ (s2.v 15).toInt ≤ 400 := hI_s2.1 15
    refine ok_grd (vpb_ok (by omega) (by omega)) ?_
    refine ok_bindI (ok_kX4_isAt _ _ hI_s2) (fun r5 s4 hc_5 => ?_)
    have hI_s4 : InvK s4 := hc_5.1
    have hFc_s4 : FrK [] s2 s4 := hc_5.2.1
    have hF_s4 : FrK [9, 15, 16, 17, 18, 19, 119, 120, 129] s0 s4 := hF_s2.trans hFc_s4 (by decide)
    have hl_r5 : 0 ≤ r5.toInt := hc_5.2.2.1
    have hu_r5 : r5.toInt ≤ 1 := hc_5.2.2.2
    refine ok_ite (fun c_6 => ?_) (fun c_6 => ?_)
    · have c_6 := tn_eq (a := (r5).toInt) (b := 0) rfl (by decide) c_6
      have a_7 : (s2.v 9).toInt = (s.v 9).toInt := congrArg Int32.toInt (hFc_s2.1 9 (by decide))
      have a_8 : (s4.v 9).toInt = (s2.v 9).toInt := congrArg Int32.toInt (hFc_s4.1 9 (by decide))
      exact ok_kX4_readParty_73 s0  _ _ hI_s4 hF_s4 (by omega) 
    · have c_6 := tn_ne (a := (r5).toInt) (b := 0) rfl (by decide) c_6
      refine ok_bindI (ok_kX4_isTold _ _ hI_s4) (fun r8 s7 hc_9 => ?_)
      have hI_s7 : InvK s7 := hc_9.1
      have hFc_s7 : FrK [] s4 s7 := hc_9.2.1
      have hF_s7 : FrK [9, 15, 16, 17, 18, 19, 119, 120, 129] s0 s7 := hF_s4.trans hFc_s7 (by decide)
      have hl_r8 : 0 ≤ r8.toInt := hc_9.2.2.1
      have hu_r8 : r8.toInt ≤ 1 := hc_9.2.2.2
      refine ok_ite (fun c_10 => ?_) (fun c_10 => ?_)
      · have c_10 := tn_eq (a := (r8).toInt) (b := 0) rfl (by decide) c_10
        have a_11 : (s2.v 9).toInt = (s.v 9).toInt := congrArg Int32.toInt (hFc_s2.1 9 (by decide))
        have a_12 : (s4.v 9).toInt = (s2.v 9).toInt := congrArg Int32.toInt (hFc_s4.1 9 (by decide))
        have a_13 : (s7.v 9).toInt = (s4.v 9).toInt := congrArg Int32.toInt (hFc_s7.1 9 (by decide))
        exact ok_kX4_readParty_73 s0  _ _ hI_s7 hF_s7 (by omega) 
      · have c_10 := tn_ne (a := (r8).toInt) (b := 0) rfl (by decide) c_10
        have a_14 : (s4.v 15).toInt = (s2.v 15).toInt := congrArg Int32.toInt (hFc_s4.1 15 (by decide))
        have a_15 : (s7.v 15).toInt = (s4.v 15).toInt := congrArg Int32.toInt (hFc_s7.1 15 (by decide))
        refine ok_grd (vpb_ok (by omega) (by omega)) ?_
        refine ok_bindP (ok_kX4_failLater _ _ _ hI_s7 (by decide) (by decide)) (fun s11 hc_16 => ?_)
        have hI_s11 : InvK s11 := hc_16.1
        have hFc_s11 : FrK [18, 19] s7 s11 := hc_16.2
        have hF_s11 : FrK [9, 15, 16, 17, 18, 19, 119, 120, 129] s0 s11 := hF_s7.trans hFc_s11 (by decide)
        have a_17 : (s2.v 9).toInt = (s.v 9).toInt := congrArg Int32.toInt (hFc_s2.1 9 (by decide))
        have a_18 : (s4.v 9).toInt = (s2.v 9).toInt := congrArg Int32.toInt (hFc_s4.1 9 (by decide))
        have a_19 : (s7.v 9).toInt = (s4.v 9).toInt := congrArg Int32.toInt (hFc_s7.1 9 (by decide))
        have a_20 : (s11.v 9).toInt = (s7.v 9).toInt := congrArg Int32.toInt (hFc_s11.1 9 (by decide))
        exact ok_kX4_readParty_73 s0  _ _ hI_s11 hF_s11 (by omega) 
  · have c_2 := tn_nlt (a := ((s.v 9)).toInt) (b := 6) rfl (by decide) c_2
    refine ok_bindP (ok_kX4_fail _ _ hI_s (by decide) (by decide)) (fun s12 hc_21 => ?_)
    have hI_s12 : InvK s12 := hc_21.1
    have hFc_s12 : FrK [16, 17] s s12 := hc_21.2
    have hF_s12 : FrK [9, 15, 16, 17, 18, 19, 119, 120, 129] s0 s12 := hF_s.trans hFc_s12 (by decide)
    exact ok_some ⟨hI_s12, hF_s12⟩
theorem ok_kX4_readParty (s : KS) (hI_s : InvK s) : Ok (kX4_readParty s) (Q_kX4_readParty s) := ok_kX4_readPartyB s s hI_s FrK.rfl
noncomputable abbrev Q_kX4_readUnit (s0 : KS) (y : KS) : Prop := InvK y ∧ FrK [12, 15, 16, 17, 122] s0 y
theorem isAt_eq {s : KS} {k : Int32} (hI : InvK s) : kX4_isAt s k = some ((if s.v 16 = 0 ∧ s.f 32 (s.v 15).toNatClampNeg = k then 1 else 0), s) := by
  have ht : 0 ≤ (s.v 15).toInt ∧ (s.v 15).toInt ≤ 400 := hI.1 15
  unfold kX4_isAt
  by_cases h : s.v 16 = 0
  · rw [if_pos h, if_pos (vpb_ok (by omega) (by omega))]
    by_cases h2 : s.f 32 (s.v 15).toNatClampNeg = k
    · rw [if_pos h2, if_pos ⟨h, h2⟩]
    · rw [if_neg h2, if_neg (fun q => h2 q.2)]
  · rw [if_neg h, if_neg (fun q => h q.1)]
theorem ok_isAt {α : Type} {s : KS} {k : Int32} {K : Int32 → KS → Option α} {Q : α → Prop} (hI : InvK s) (h1 : (s.v 16 = 0 ∧ s.f 32 (s.v 15).toNatClampNeg = k) → Ok (K 1 s) Q) (h0 : ¬ (s.v 16 = 0 ∧ s.f 32 (s.v 15).toNatClampNeg = k) → Ok (K 0 s) Q) : Ok (bindI (kX4_isAt s k) K) Q := by
  rw [isAt_eq hI]
  by_cases h : s.v 16 = 0 ∧ s.f 32 (s.v 15).toNatClampNeg = k
  · rw [if_pos h]; exact h1 h
  · rw [if_neg h]; exact h0 h
theorem k_one : ¬ (1 : Int32) = 0 := by decide
theorem ok_kX4_readUnit_114 (R : KS → Int32 → Option KS) (D : Nat) (hR : ∀ (s : KS) (x1 : Int32), InvK s → 0 ≤ x1.toInt → x1.toInt ≤ 6 → (6 - x1.toInt).toNat < D → Ok (R s x1) (fun y => InvK y ∧ FrK [12, 15, 16, 17, 122] s y)) (s0 : KS) (s : KS) (x1 : Int32) (hI_s : InvK s) (hF_s : FrK [12, 15, 16, 17, 122] s0 s) (h_x1l : 0 ≤ x1.toInt) (h_x1u : (s.v 16 = 0 ∧ s.f 32 (s.v 15).toNatClampNeg = 40) → x1.toInt ≤ 5) (hD : (6 - x1.toInt).toNat ≤ D) : Ok (kX4_readUnit_114 R s x1) (Q_kX4_readUnit s0) := by
  unfold kX4_readUnit_114
  refine ok_isAt hI_s (fun h => ?_) (fun h => ?_)
  · show Ok (if (1 : Int32) = 0 then _ else _) _
    rw [if_neg k_one]
    have h5 := h_x1u h
    refine ok_bindP (ok_kX4_take _ _ hI_s) (fun s5 hc5 => ?_)
    have hF5 : FrK [12, 15, 16, 17, 122] s0 s5 := hF_s.trans hc5.2 (by decide)
    have a : (x1 + 1).toInt = x1.toInt + 1 := tn_add rfl (by decide) (by omega) (by omega)
    refine ok_bindP (hR _ _ hc5.1 (by omega) (by omega) (by omega)) (fun s6 hc6 => ?_)
    have hF6 : FrK [12, 15, 16, 17, 122] s0 s6 := hF5.trans hc6.2 (by decide)
    refine ok_bindP (ok_kX4_take _ _ hc6.1) (fun s7 hc7 => ?_)
    exact ok_some ⟨hc7.1, hF6.trans hc7.2 (by decide)⟩
  · show Ok (if (0 : Int32) = 0 then _ else _) _
    rw [if_pos rfl]
    refine ok_bindP (ok_kX4_fail _ _ hI_s (by decide) (by decide)) (fun s4 hc4 => ?_)
    exact ok_some ⟨hc4.1, hF_s.trans hc4.2 (by decide)⟩
theorem ok_kX4_readUnit_91 (R : KS → Int32 → Option KS) (D : Nat) (hR : ∀ (s : KS) (x1 : Int32), InvK s → 0 ≤ x1.toInt → x1.toInt ≤ 6 → (6 - x1.toInt).toNat < D → Ok (R s x1) (fun y => InvK y ∧ FrK [12, 15, 16, 17, 122] s y)) (s0 : KS) (s : KS) (x1 : Int32) (hI_s : InvK s) (hF_s : FrK [12, 15, 16, 17, 122] s0 s) (h_x1l : 0 ≤ x1.toInt) (h_x1u : x1.toInt ≤ 6) (hD : (6 - x1.toInt).toNat ≤ D) : Ok (kX4_readUnit_91 R s x1) (Q_kX4_readUnit s0) := by
  unfold kX4_readUnit_91
  refine ok_isAt hI_s (fun h => ?_) (fun h => ?_)
  · show Ok (if (1 : Int32) = 0 then _ else _) _
    rw [if_neg k_one]
    refine ok_ite (fun c => ?_) (fun c => ?_)
    · have c := tn_lt (b := 6) rfl (by decide) c
      exact ok_kX4_readUnit_114 R D hR s0 s x1 hI_s hF_s h_x1l (fun _ => by omega) hD
    · refine ok_bindP (ok_kX4_fail _ _ hI_s (by decide) (by decide)) (fun s4 hc4 => ?_)
      exact ok_some ⟨hc4.1, hF_s.trans hc4.2 (by decide)⟩
  · show Ok (if (0 : Int32) = 0 then _ else _) _
    rw [if_pos rfl]
    exact ok_kX4_readUnit_114 R D hR s0 s x1 hI_s hF_s h_x1l (fun q => absurd q h) hD
set_option maxHeartbeats 1000000 in
theorem ok_kX4_readUnitB (R : KS → Int32 → Option KS) (D : Nat) (hR : ∀ (s : KS) (x1 : Int32), InvK s → 0 ≤ x1.toInt → x1.toInt ≤ 6 → (6 - x1.toInt).toNat < D → Ok (R s x1) (fun y => InvK y ∧ FrK [12, 15, 16, 17, 122] s y)) (s0 : KS)  (s : KS) (x1 : Int32) (hI_s : InvK s) (hF_s : FrK [12, 15, 16, 17, 122] s0 s) (h_x1l : 0 ≤ x1.toInt) (h_x1u : x1.toInt ≤ 6) (hD : (6 - x1.toInt).toNat ≤ D)  : Ok (kX4_readUnit R  s x1) (Q_kX4_readUnit s0) := by
  unfold kX4_readUnit
  have a_1 : 0 ≤ (s.v 15).toInt ∧ (s.v 15).toInt ≤ 400 := hI_s.1 15
  refine ok_grd (vpb_ok (by omega) (by omega)) ?_
  refine ok_bindI (ok_kX4_isAt _ _ hI_s) (fun r3 s2 hc_2 => ?_)
  have hI_s2 : InvK s2 := hc_2.1
  have hFc_s2 : FrK [] s s2 := hc_2.2.1
  have hF_s2 : FrK [12, 15, 16, 17, 122] s0 s2 := hF_s.trans hFc_s2 (by decide)
  have hl_r3 : 0 ≤ r3.toInt := hc_2.2.2.1
  have hu_r3 : r3.toInt ≤ 1 := hc_2.2.2.2
  refine ok_ite (fun c_3 => ?_) (fun c_3 => ?_)
  · have c_3 := tn_eq (a := (r3).toInt) (b := 0) rfl (by decide) c_3
    refine ok_ite (fun c_4 => ?_) (fun c_4 => ?_)
    · have c_4 := tn_lt (a := ((((s.f 32) (Int32.toNatClampNeg (s.v 15))) - 266)).toInt) (b := 0) rfl (by decide) c_4
      exact ok_kX4_readUnit_91 R D hR s0  _ _ hI_s2 hF_s2 (by omega) (by omega) (by omega) 
    · have c_4 := tn_nlt (a := ((((s.f 32) (Int32.toNatClampNeg (s.v 15))) - 266)).toInt) (b := 0) rfl (by decide) c_4
      refine ok_ite (fun c_5 => ?_) (fun c_5 => ?_)
      · have c_5 := tn_le (a := 9) (b := ((((s.f 32) (Int32.toNatClampNeg (s.v 15))) - 266)).toInt) (by decide) rfl c_5
        exact ok_kX4_readUnit_91 R D hR s0  _ _ hI_s2 hF_s2 (by omega) (by omega) (by omega) 
      · have c_5 := tn_nle (a := 9) (b := ((((s.f 32) (Int32.toNatClampNeg (s.v 15))) - 266)).toInt) (by decide) rfl c_5
        refine ok_bindP (ok_kX1_putVar _ _ hI_s2 (by omega) (by omega)) (fun s7 hc_6 => ?_)
        have hI_s7 : InvK s7 := hc_6.1
        have hFc_s7 : FrK [12, 122] s2 s7 := hc_6.2
        have hF_s7 : FrK [12, 15, 16, 17, 122] s0 s7 := hF_s2.trans hFc_s7 (by decide)
        refine ok_bindP (ok_kX4_take _ _ hI_s7) (fun s8 hc_7 => ?_)
        have hI_s8 : InvK s8 := hc_7.1
        have hFc_s8 : FrK [15, 16, 17] s7 s8 := hc_7.2
        have hF_s8 : FrK [12, 15, 16, 17, 122] s0 s8 := hF_s7.trans hFc_s8 (by decide)
        exact ok_some ⟨hI_s8, hF_s8⟩
  · have c_3 := tn_ne (a := (r3).toInt) (b := 0) rfl (by decide) c_3
    have a_8 : (s2.v 15).toInt = (s.v 15).toInt := congrArg Int32.toInt (hFc_s2.1 15 (by decide))
    refine ok_grd (vpb_ok (by omega) (by omega)) ?_
    refine ok_bindP (ok_kX1_putNumber _ _ hI_s2) (fun s10 hc_9 => ?_)
    have hI_s10 : InvK s10 := hc_9.1
    have hFc_s10 : FrK [12, 122] s2 s10 := hc_9.2
    have hF_s10 : FrK [12, 15, 16, 17, 122] s0 s10 := hF_s2.trans hFc_s10 (by decide)
    refine ok_bindP (ok_kX4_take _ _ hI_s10) (fun s11 hc_10 => ?_)
    have hI_s11 : InvK s11 := hc_10.1
    have hFc_s11 : FrK [15, 16, 17] s10 s11 := hc_10.2
    have hF_s11 : FrK [12, 15, 16, 17, 122] s0 s11 := hF_s10.trans hFc_s11 (by decide)
    exact ok_some ⟨hI_s11, hF_s11⟩
theorem ok_kX4_readUnit (R : KS → Int32 → Option KS) (D : Nat) (hR : ∀ (s : KS) (x1 : Int32), InvK s → 0 ≤ x1.toInt → x1.toInt ≤ 6 → (6 - x1.toInt).toNat < D → Ok (R s x1) (fun y => InvK y ∧ FrK [12, 15, 16, 17, 122] s y)) (s : KS) (x1 : Int32) (hI_s : InvK s) (h_x1l : 0 ≤ x1.toInt) (h_x1u : x1.toInt ≤ 6) (hD : (6 - x1.toInt).toNat ≤ D) : Ok (kX4_readUnit R s x1) (Q_kX4_readUnit s) := ok_kX4_readUnitB R D hR s s x1 hI_s FrK.rfl h_x1l h_x1u hD
noncomputable abbrev Q_kX5_addUp (s0 : KS) (y : KS) : Prop := InvK y ∧ FrK [10, 117, 118] s0 y
set_option maxHeartbeats 1000000 in
theorem ok_kX5_addUp_75 (s0 : KS) (k7 : KS → Int32 → Option (KS)) (M7 : Nat) (hk7 : ∀ (s : KS) (x1 : Int32), InvK s → FrK [10, 117, 118] s0 s → 0 ≤ x1.toInt → x1.toInt ≤ 5 → (5 - x1.toInt).toNat < M7 → Ok (k7 s x1) (Q_kX5_addUp s0)) (k31 : KS → Int32 → Int32 → Option (KS)) (M31 : Nat) (hk31 : ∀ (s : KS) (x1 : Int32) (x2 : Int32), InvK s → FrK [10, 117, 118] s0 s → 0 ≤ x1.toInt → x1.toInt ≤ 4 → 0 ≤ x2.toInt → x2.toInt ≤ 6 → (5 - x1.toInt).toNat ≤ M7 → (6 - x2.toInt).toNat < M31 → Ok (k31 s x1 x2) (Q_kX5_addUp s0)) (s : KS) (x1 : Int32) (x2 : Int32) (t0 : Int32) (t1 : Int32) (t2 : Int32) (hI_s : InvK s) (hF_s : FrK [10, 117, 118] s0 s) (h_x1l : 0 ≤ x1.toInt) (h_x1u : x1.toInt ≤ 4) (h_x2l : 0 ≤ x2.toInt) (h_x2u : x2.toInt ≤ 5) (h_t2l : 0 ≤ t2.toInt) (h_t2u : t2.toInt ≤ 4) (hM7 : (5 - x1.toInt).toNat ≤ M7) (hM31 : (6 - x2.toInt).toNat ≤ M31) : Ok (kX5_addUp_75 k7 k31 s x1 x2 t0 t1 t2) (Q_kX5_addUp s0) := by
  unfold kX5_addUp_75
  refine ok_grd (vpb_ok (by omega) (by omega)) ?_
  refine ok_let (fun s2 hs2 => ?_)
  have hI_s2 : InvK s2 := by rw [← hs2]; exact hI_s.sfF (k := 18) rfl rfl
  have hF_s2 : FrK [10, 117, 118] s0 s2 := by rw [← hs2]; exact hF_s.sf (k := 18) (by decide)
  have a_1 : ((x2 + 1)).toInt = (x2).toInt + 1 := tn_add rfl (by decide) (by omega) (by omega)
  exact hk31 _ _ _ hI_s2 hF_s2 (by omega) (by omega) (by omega) (by omega) (by omega) (by omega)
set_option maxHeartbeats 1000000 in
theorem ok_kX5_addUp_31 (s0 : KS) (k7 : KS → Int32 → Option (KS)) (M7 : Nat) (hk7 : ∀ (s : KS) (x1 : Int32), InvK s → FrK [10, 117, 118] s0 s → 0 ≤ x1.toInt → x1.toInt ≤ 5 → (5 - x1.toInt).toNat < M7 → Ok (k7 s x1) (Q_kX5_addUp s0)) (k31 : KS → Int32 → Int32 → Option (KS)) (M31 : Nat) (hk31 : ∀ (s : KS) (x1 : Int32) (x2 : Int32), InvK s → FrK [10, 117, 118] s0 s → 0 ≤ x1.toInt → x1.toInt ≤ 4 → 0 ≤ x2.toInt → x2.toInt ≤ 6 → (5 - x1.toInt).toNat ≤ M7 → (6 - x2.toInt).toNat < M31 → Ok (k31 s x1 x2) (Q_kX5_addUp s0)) (s : KS) (x1 : Int32) (x2 : Int32) (hI_s : InvK s) (hF_s : FrK [10, 117, 118] s0 s) (h_x1l : 0 ≤ x1.toInt) (h_x1u : x1.toInt ≤ 4) (h_x2l : 0 ≤ x2.toInt) (h_x2u : x2.toInt ≤ 6) (hM7 : (5 - x1.toInt).toNat ≤ M7) (hM31 : (6 - x2.toInt).toNat ≤ M31) : Ok (kX5_addUp_31 k7 k31 s x1 x2) (Q_kX5_addUp s0) := by
  unfold kX5_addUp_31
  refine ok_ite (fun c_1 => ?_) (fun c_1 => ?_)
  · have c_1 := tn_le (a := 6) (b := (x2).toInt) (by decide) rfl c_1
    refine ok_let (fun s2 hs2 => ?_)
    have hI_s2 : InvK s2 := by rw [← hs2]; exact hI_s.svF (k := 10) rfl rfl
    have hF_s2 : FrK [10, 117, 118] s0 s2 := by rw [← hs2]; exact hF_s.sv (k := 10) (by decide)
    have a_2 : ((x1 + 1)).toInt = (x1).toInt + 1 := tn_add rfl (by decide) (by omega) (by omega)
    exact hk7 _ _ hI_s2 hF_s2 (by omega) (by omega) (by omega)
  · have c_1 := tn_nle (a := 6) (b := (x2).toInt) (by decide) rfl c_1
    refine ok_grd (vpb_ok (by omega) (by omega)) ?_
    refine ok_bindI (ok_kX5_oddsAt_d _ _ _ hI_s (by omega) (by omega) (by omega) (by omega)) (fun r6 s5 hc_3 => ?_)
    have hI_s5 : InvK s5 := hc_3.1
    have hFc_s5 : FrK [] s s5 := hc_3.2.1
    have hF_s5 : FrK [10, 117, 118] s0 s5 := hF_s.trans hFc_s5 (by decide)
    refine ok_grd (vpb_ok (by omega) (by omega)) ?_
    refine ok_let (fun s8 hs8 => ?_)
    have hI_s8 : InvK s8 := by rw [← hs8]; exact hI_s5.sfF (k := 17) rfl rfl
    have hF_s8 : FrK [10, 117, 118] s0 s8 := by rw [← hs8]; exact hF_s5.sf (k := 17) (by decide)
    refine ok_grd (vpb_ok (by omega) (by omega)) ?_
    refine ok_bindI (ok_kX5_oddsAt_d _ _ _ hI_s8 (by omega) (by omega) (by omega) (by omega)) (fun r12 s11 hc_4 => ?_)
    have hI_s11 : InvK s11 := hc_4.1
    have hFc_s11 : FrK [] s8 s11 := hc_4.2.1
    have hF_s11 : FrK [10, 117, 118] s0 s11 := hF_s8.trans hFc_s11 (by decide)
    refine ok_ite (fun c_5 => ?_) (fun c_5 => ?_)
    · have c_5 := tn_le (a := (r12).toInt) (b := 0) rfl (by decide) c_5
      have l_0 : (0 : Int32).toInt = 0 := by decide
      exact ok_kX5_addUp_75 s0 k7 M7 hk7 k31 M31 hk31 _ _ _ _ _ _ hI_s11 hF_s11 (by omega) (by omega) (by omega) (by omega) (by omega) (by omega) (by omega) (by omega)
    · have c_5 := tn_nle (a := (r12).toInt) (b := 0) rfl (by decide) c_5
      exact ok_kX5_addUp_75 s0 k7 M7 hk7 k31 M31 hk31 _ _ _ _ _ _ hI_s11 hF_s11 (by omega) (by omega) (by omega) (by omega) (by omega) (by omega) (by omega) (by omega)
theorem okL_kX5_addUp_31 (s0 : KS) (k7 : KS → Int32 → Option (KS)) (M7 : Nat) (hk7 : ∀ (s : KS) (x1 : Int32), InvK s → FrK [10, 117, 118] s0 s → 0 ≤ x1.toInt → x1.toInt ≤ 5 → (5 - x1.toInt).toNat < M7 → Ok (k7 s x1) (Q_kX5_addUp s0)) : ∀ (n : Nat) (s : KS) (x1 : Int32) (x2 : Int32), (6 - x2.toInt).toNat < n → InvK s → FrK [10, 117, 118] s0 s → 0 ≤ x1.toInt → x1.toInt ≤ 4 → 0 ≤ x2.toInt → x2.toInt ≤ 6 → (5 - x1.toInt).toNat ≤ M7 → Ok (kX5_addUp_31L k7 n s x1 x2) (Q_kX5_addUp s0) := by
  intro n
  induction n with
  | zero => intro s x1 x2 hn; omega
  | succ n ih =>
    intro s x1 x2 hn hI_s hF_s h_x1l h_x1u h_x2l h_x2u hM7
    exact ok_kX5_addUp_31 s0 k7 M7 hk7 (kX5_addUp_31L k7 n) ((6 - x2.toInt).toNat) (fun zs zx1 zx2 g0 g1 g2 g3 g4 g5 o7 hm => ih zs zx1 zx2 (by omega) g0 g1 g2 g3 g4 g5 o7) s x1 x2 hI_s hF_s h_x1l h_x1u h_x2l h_x2u hM7 (Nat.le_refl _)
set_option maxHeartbeats 1000000 in
theorem ok_kX5_addUp_7 (s0 : KS) (k7 : KS → Int32 → Option (KS)) (M7 : Nat) (hk7 : ∀ (s : KS) (x1 : Int32), InvK s → FrK [10, 117, 118] s0 s → 0 ≤ x1.toInt → x1.toInt ≤ 5 → (5 - x1.toInt).toNat < M7 → Ok (k7 s x1) (Q_kX5_addUp s0)) (s : KS) (x1 : Int32) (hI_s : InvK s) (hF_s : FrK [10, 117, 118] s0 s) (h_x1l : 0 ≤ x1.toInt) (h_x1u : x1.toInt ≤ 5) (hM7 : (5 - x1.toInt).toNat ≤ M7) : Ok (kX5_addUp_7 k7 s x1) (Q_kX5_addUp s0) := by
  unfold kX5_addUp_7
  have a_1 : 0 ≤ (s.v 8).toInt ∧ (s.v 8).toInt ≤ 5 := hI_s.1 8
  refine ok_ite (fun c_2 => ?_) (fun c_2 => ?_)
  · have c_2 := tn_le (a := ((s.v 8)).toInt) (b := (x1).toInt) rfl rfl c_2
    exact ok_some ⟨hI_s, hF_s⟩
  · have c_2 := tn_nle (a := ((s.v 8)).toInt) (b := (x1).toInt) rfl rfl c_2
    refine ok_grd (vpb_ok (by omega) (by omega)) ?_
    refine ok_let (fun s3 hs3 => ?_)
    have hI_s3 : InvK s3 := by rw [← hs3]; exact hI_s.sfF (k := 17) rfl rfl
    have hF_s3 : FrK [10, 117, 118] s0 s3 := by rw [← hs3]; exact hF_s.sf (k := 17) (by decide)
    refine ok_grd (vpb_ok (by omega) (by omega)) ?_
    refine ok_let (fun s6 hs6 => ?_)
    have hI_s6 : InvK s6 := by rw [← hs6]; exact hI_s3.sfF (k := 18) rfl rfl
    have hF_s6 : FrK [10, 117, 118] s0 s6 := by rw [← hs6]; exact hF_s3.sf (k := 18) (by decide)
    have l_0 : (0 : Int32).toInt = 0 := by decide
    exact okL_kX5_addUp_31 s0 k7 M7 hk7 fu _ _ _ (by unfold fu; omega) hI_s6 hF_s6 (by omega) (by omega) (by decide) (by decide) (by omega)
theorem okL_kX5_addUp_7 (s0 : KS)  : ∀ (n : Nat) (s : KS) (x1 : Int32), (5 - x1.toInt).toNat < n → InvK s → FrK [10, 117, 118] s0 s → 0 ≤ x1.toInt → x1.toInt ≤ 5 → Ok (kX5_addUp_7L  n s x1) (Q_kX5_addUp s0) := by
  intro n
  induction n with
  | zero => intro s x1 hn; omega
  | succ n ih =>
    intro s x1 hn hI_s hF_s h_x1l h_x1u 
    exact ok_kX5_addUp_7 s0 (kX5_addUp_7L  n) ((5 - x1.toInt).toNat) (fun zs zx1 g0 g1 g2 g3  hm => ih zs zx1 (by omega) g0 g1 g2 g3 ) s x1 hI_s hF_s h_x1l h_x1u (Nat.le_refl _)
set_option maxHeartbeats 1000000 in
theorem ok_kX5_addUpB (s0 : KS)  (s : KS) (hI_s : InvK s) (hF_s : FrK [10, 117, 118] s0 s)  : Ok (kX5_addUp  s) (Q_kX5_addUp s0) := by
  unfold kX5_addUp
  refine ok_let (fun s1 hs1 => ?_)
  have hI_s1 : InvK s1 := by rw [← hs1]; exact hI_s.svF (k := 10) rfl rfl
  have hF_s1 : FrK [10, 117, 118] s0 s1 := by rw [← hs1]; exact hF_s.sv (k := 10) (by decide)
  have l_0 : (0 : Int32).toInt = 0 := by decide
  exact okL_kX5_addUp_7 s0  fu _ _ (by unfold fu; omega) hI_s1 hF_s1 (by decide) (by decide) 
theorem ok_kX5_addUp (s : KS) (hI_s : InvK s) : Ok (kX5_addUp s) (Q_kX5_addUp s) := ok_kX5_addUpB s s hI_s FrK.rfl
end
section
noncomputable abbrev Q_kX6_startOver (s0 : SD) (y : SD) : Prop := True
set_option maxHeartbeats 1000000 in
theorem ok_kX6_startOverB (s0 : SD)  (s : SD)   : Ok (kX6_startOver  s) (Q_kX6_startOver s0) := by
  unfold kX6_startOver
  refine ok_bindP (ok_kJ7_fill_53178_5 _ _ (by decide) (by decide)) (fun s1 hc_1 => ?_)
  refine ok_let (fun s2 hs2 => ?_)
  refine ok_bindP (ok_kJ7_fill_53178_5 _ _ (by decide) (by decide)) (fun s4 hc_2 => ?_)
  refine ok_let (fun s5 hs5 => ?_)
  refine ok_bindP (ok_kJ7_fill_53178_5 _ _ (by decide) (by decide)) (fun s7 hc_3 => ?_)
  refine ok_let (fun s8 hs8 => ?_)
  refine ok_bindP (ok_kJ7_fill_53178_6 _ _ (by decide) (by decide)) (fun s10 hc_4 => ?_)
  refine ok_let (fun s11 hs11 => ?_)
  refine ok_bindP (ok_kJ7_fill_53178_6 _ _ (by decide) (by decide)) (fun s13 hc_5 => ?_)
  refine ok_let (fun s14 hs14 => ?_)
  refine ok_let (fun s16 hs16 => ?_)
  refine ok_let (fun s18 hs18 => ?_)
  exact ok_some (trivial)
theorem ok_kX6_startOver (s : SD)  : Ok (kX6_startOver s) (Q_kX6_startOver s) := ok_kX6_startOverB s s 
noncomputable abbrev Q_kX8_beliedBy (s0 : KS) (y : Int32 × KS) : Prop := InvK y.2 ∧ FrK [] s0 y.2 ∧ 0 ≤ y.1.toInt ∧ y.1.toInt ≤ 20
set_option maxHeartbeats 1000000 in
theorem ok_kX8_beliedBy_40 (s0 : KS) (k6 : KS → Int32 → Int32 → Int32 → Int32 → Int32 → Option (Int32 × KS)) (M6 : Nat) (hk6 : ∀ (s : KS) (x1 : Int32) (x2 : Int32) (x3 : Int32) (x4 : Int32) (x5 : Int32), InvK s → FrK [] s0 s → 0 ≤ x1.toInt → x1.toInt ≤ 4 → 0 ≤ x2.toInt → x2.toInt ≤ 5 → 0 ≤ x3.toInt → x3.toInt ≤ 20 → 0 ≤ x4.toInt → x4.toInt ≤ 20 → 0 ≤ x5.toInt → x5.toInt ≤ 20 → (x4.toInt ≤ x5.toInt) → (20 - x5.toInt).toNat < M6 → Ok (k6 s x1 x2 x3 x4 x5) (Q_kX8_beliedBy s0)) (s : KS) (x1 : Int32) (x2 : Int32) (x3 : Int32) (x4 : Int32) (x5 : Int32) (hI_s : InvK s) (hF_s : FrK [] s0 s) (h_x1l : 0 ≤ x1.toInt) (h_x1u : x1.toInt ≤ 4) (h_x2l : 0 ≤ x2.toInt) (h_x2u : x2.toInt ≤ 5) (h_x3l : 1 ≤ x3.toInt) (h_x3u : x3.toInt ≤ 20) (h_x4l : 0 ≤ x4.toInt) (h_x4u : x4.toInt ≤ 20) (h_x5l : 0 ≤ x5.toInt) (h_x5u : x5.toInt ≤ 19) (hx0 : (x4.toInt ≤ x5.toInt + 1)) (hM6 : (20 - x5.toInt).toNat ≤ M6) : Ok (kX8_beliedBy_40 k6 s x1 x2 x3 x4 x5) (Q_kX8_beliedBy s0) := by
  unfold kX8_beliedBy_40
  have a_1 : ((x5 + 1)).toInt = (x5).toInt + 1 := tn_add rfl (by decide) (by omega) (by omega)
  exact hk6 _ _ _ _ _ _ hI_s hF_s (by first | (clear hx0; omega) | omega) (by first | (clear hx0; omega) | omega) (by first | (clear hx0; omega) | omega) (by first | (clear hx0; omega) | omega) (by first | (clear hx0; omega) | omega) (by first | (clear hx0; omega) | omega) (by first | (clear hx0; omega) | omega) (by first | (clear hx0; omega) | omega) (by first | (clear hx0; omega) | omega) (by first | (clear hx0; omega) | omega) (by omega) (by first | (clear hx0; omega) | omega)
set_option maxHeartbeats 1000000 in
theorem ok_kX8_beliedBy_6 (s0 : KS) (k6 : KS → Int32 → Int32 → Int32 → Int32 → Int32 → Option (Int32 × KS)) (M6 : Nat) (hk6 : ∀ (s : KS) (x1 : Int32) (x2 : Int32) (x3 : Int32) (x4 : Int32) (x5 : Int32), InvK s → FrK [] s0 s → 0 ≤ x1.toInt → x1.toInt ≤ 4 → 0 ≤ x2.toInt → x2.toInt ≤ 5 → 0 ≤ x3.toInt → x3.toInt ≤ 20 → 0 ≤ x4.toInt → x4.toInt ≤ 20 → 0 ≤ x5.toInt → x5.toInt ≤ 20 → (x4.toInt ≤ x5.toInt) → (20 - x5.toInt).toNat < M6 → Ok (k6 s x1 x2 x3 x4 x5) (Q_kX8_beliedBy s0)) (s : KS) (x1 : Int32) (x2 : Int32) (x3 : Int32) (x4 : Int32) (x5 : Int32) (hI_s : InvK s) (hF_s : FrK [] s0 s) (h_x1l : 0 ≤ x1.toInt) (h_x1u : x1.toInt ≤ 4) (h_x2l : 0 ≤ x2.toInt) (h_x2u : x2.toInt ≤ 5) (h_x3l : 0 ≤ x3.toInt) (h_x3u : x3.toInt ≤ 20) (h_x4l : 0 ≤ x4.toInt) (h_x4u : x4.toInt ≤ 20) (h_x5l : 0 ≤ x5.toInt) (h_x5u : x5.toInt ≤ 20) (hx0 : (x4.toInt ≤ x5.toInt)) (hM6 : (20 - x5.toInt).toNat ≤ M6) : Ok (kX8_beliedBy_6 k6 s x1 x2 x3 x4 x5) (Q_kX8_beliedBy s0) := by
  unfold kX8_beliedBy_6
  refine ok_ite (fun c_1 => ?_) (fun c_1 => ?_)
  · have c_1 := tn_le (a := (x3).toInt) (b := (x5).toInt) rfl rfl c_1
    exact ok_some ⟨hI_s, hF_s, by show 0 ≤ (x4).toInt; omega, by show (x4).toInt ≤ 20; omega⟩
  · have c_1 := tn_nle (a := (x3).toInt) (b := (x5).toInt) rfl rfl c_1
    refine ok_grd (vpb_ok (by omega) (by omega)) ?_
    refine ok_ite (fun c_2 => ?_) (fun c_2 => ?_)
    · have c_2 := tn_eq (a := (((s.f 42) (Int32.toNatClampNeg x5))).toInt) (b := (x1).toInt) rfl rfl c_2
      refine ok_grd (vpb_ok (by omega) (by omega)) ?_
      refine ok_bindP (ok_kX10_has _ _ ) (fun r5 hc_3 => ?_)
      have hl_r5 : 0 ≤ r5.toInt := hc_3.1
      have hu_r5 : r5.toInt ≤ 1 := hc_3.2
      refine ok_ite (fun c_4 => ?_) (fun c_4 => ?_)
      · have c_4 := tn_eq (a := (r5).toInt) (b := 0) rfl (by decide) c_4
        have a_5 : ((x4 + 1)).toInt = (x4).toInt + 1 := tn_add rfl (by decide) (by omega) (by omega)
        exact ok_kX8_beliedBy_40 s0 k6 M6 hk6 _ _ _ _ _ _ hI_s hF_s (by first | (clear hx0; omega) | omega) (by first | (clear hx0; omega) | omega) (by first | (clear hx0; omega) | omega) (by first | (clear hx0; omega) | omega) (by first | (clear hx0; omega) | omega) (by first | (clear hx0; omega) | omega) (by first | (clear hx0; omega) | omega) (by first | (clear hx0; omega) | omega) (by first | (clear hx0; omega) | omega) (by first | (clear hx0; omega) | omega) (by omega) (by first | (clear hx0; omega) | omega)
      · have c_4 := tn_ne (a := (r5).toInt) (b := 0) rfl (by decide) c_4
        exact ok_kX8_beliedBy_40 s0 k6 M6 hk6 _ _ _ _ _ _ hI_s hF_s (by first | (clear hx0; omega) | omega) (by first | (clear hx0; omega) | omega) (by first | (clear hx0; omega) | omega) (by first | (clear hx0; omega) | omega) (by first | (clear hx0; omega) | omega) (by first | (clear hx0; omega) | omega) (by first | (clear hx0; omega) | omega) (by first | (clear hx0; omega) | omega) (by first | (clear hx0; omega) | omega) (by first | (clear hx0; omega) | omega) (by omega) (by first | (clear hx0; omega) | omega)
    · have c_2 := tn_ne (a := (((s.f 42) (Int32.toNatClampNeg x5))).toInt) (b := (x1).toInt) rfl rfl c_2
      exact ok_kX8_beliedBy_40 s0 k6 M6 hk6 _ _ _ _ _ _ hI_s hF_s (by first | (clear hx0; omega) | omega) (by first | (clear hx0; omega) | omega) (by first | (clear hx0; omega) | omega) (by first | (clear hx0; omega) | omega) (by first | (clear hx0; omega) | omega) (by first | (clear hx0; omega) | omega) (by first | (clear hx0; omega) | omega) (by first | (clear hx0; omega) | omega) (by first | (clear hx0; omega) | omega) (by first | (clear hx0; omega) | omega) (by omega) (by first | (clear hx0; omega) | omega)
theorem okL_kX8_beliedBy_6 (s0 : KS)  : ∀ (n : Nat) (s : KS) (x1 : Int32) (x2 : Int32) (x3 : Int32) (x4 : Int32) (x5 : Int32), (20 - x5.toInt).toNat < n → InvK s → FrK [] s0 s → 0 ≤ x1.toInt → x1.toInt ≤ 4 → 0 ≤ x2.toInt → x2.toInt ≤ 5 → 0 ≤ x3.toInt → x3.toInt ≤ 20 → 0 ≤ x4.toInt → x4.toInt ≤ 20 → 0 ≤ x5.toInt → x5.toInt ≤ 20 → (x4.toInt ≤ x5.toInt) → Ok (kX8_beliedBy_6L  n s x1 x2 x3 x4 x5) (Q_kX8_beliedBy s0) := by
  intro n
  induction n with
  | zero => intro s x1 x2 x3 x4 x5 hn; omega
  | succ n ih =>
    intro s x1 x2 x3 x4 x5 hn hI_s hF_s h_x1l h_x1u h_x2l h_x2u h_x3l h_x3u h_x4l h_x4u h_x5l h_x5u hx0 
    exact ok_kX8_beliedBy_6 s0 (kX8_beliedBy_6L  n) ((20 - x5.toInt).toNat) (fun zs zx1 zx2 zx3 zx4 zx5 g0 g1 g2 g3 g4 g5 g6 g7 g8 g9 g10 g11 g12  hm => ih zs zx1 zx2 zx3 zx4 zx5 (by omega) g0 g1 g2 g3 g4 g5 g6 g7 g8 g9 g10 g11 g12 ) s x1 x2 x3 x4 x5 hI_s hF_s h_x1l h_x1u h_x2l h_x2u h_x3l h_x3u h_x4l h_x4u h_x5l h_x5u hx0 (Nat.le_refl _)
set_option maxHeartbeats 1000000 in
theorem ok_kX8_beliedByB (s0 : KS)  (s : KS) (x1 : Int32) (x2 : Int32) (x3 : Int32) (hI_s : InvK s) (hF_s : FrK [] s0 s) (h_x1l : 0 ≤ x1.toInt) (h_x1u : x1.toInt ≤ 4) (h_x2l : 0 ≤ x2.toInt) (h_x2u : x2.toInt ≤ 5) (h_x3l : 0 ≤ x3.toInt) (h_x3u : x3.toInt ≤ 20)  : Ok (kX8_beliedBy  s x1 x2 x3) (Q_kX8_beliedBy s0) := by
  unfold kX8_beliedBy
  have l_0 : (0 : Int32).toInt = 0 := by decide
  exact okL_kX8_beliedBy_6 s0  fu _ _ _ _ _ _ (by unfold fu; omega) hI_s hF_s (by omega) (by omega) (by omega) (by omega) (by omega) (by omega) (by decide) (by decide) (by decide) (by decide) (by omega) 
theorem ok_kX8_beliedBy (s : KS) (x1 : Int32) (x2 : Int32) (x3 : Int32) (hI_s : InvK s) (h_x1l : 0 ≤ x1.toInt) (h_x1u : x1.toInt ≤ 4) (h_x2l : 0 ≤ x2.toInt) (h_x2u : x2.toInt ≤ 5) (h_x3l : 0 ≤ x3.toInt) (h_x3u : x3.toInt ≤ 20) : Ok (kX8_beliedBy s x1 x2 x3) (Q_kX8_beliedBy s) := ok_kX8_beliedByB s s x1 x2 x3 hI_s FrK.rfl h_x1l h_x1u h_x2l h_x2u h_x3l h_x3u
noncomputable abbrev Q_kX8_sortByLies (s0 : KS) (y : KS) : Prop := InvK y ∧ FrK [146] s0 y
set_option maxHeartbeats 1000000 in
theorem ok_kX8_sortByLies_62 (s0 : KS) (k17 : KS → Int32 → Int32 → Int32 → Option (KS)) (M17 : Nat) (hk17 : ∀ (s : KS) (x1 : Int32) (x2 : Int32) (x3 : Int32), InvK s → FrK [146] s0 s → -1 ≤ x1.toInt → x1.toInt ≤ 4 → 0 ≤ x2.toInt → x2.toInt ≤ 1 → 0 ≤ x3.toInt → x3.toInt ≤ 5 → (5 - x3.toInt).toNat < M17 → Ok (k17 s x1 x2 x3) (Q_kX8_sortByLies s0)) (s : KS) (x1 : Int32) (x2 : Int32) (x3 : Int32) (hI_s : InvK s) (hF_s : FrK [146] s0 s) (h_x1l : -1 ≤ x1.toInt) (h_x1u : x1.toInt ≤ 4) (h_x2l : 0 ≤ x2.toInt) (h_x2u : x2.toInt ≤ 1) (h_x3l : 0 ≤ x3.toInt) (h_x3u : x3.toInt ≤ 4) (hM17 : (5 - x3.toInt).toNat ≤ M17) : Ok (kX8_sortByLies_62 k17 s x1 x2 x3) (Q_kX8_sortByLies s0) := by
  unfold kX8_sortByLies_62
  have a_1 : ((x3 + 1)).toInt = (x3).toInt + 1 := tn_add rfl (by decide) (by omega) (by omega)
  exact hk17 _ _ _ _ hI_s hF_s (by omega) (by omega) (by omega) (by omega) (by omega) (by omega) (by omega)
set_option maxHeartbeats 1000000 in
theorem ok_kX8_sortByLies_36 (s0 : KS) (k17 : KS → Int32 → Int32 → Int32 → Option (KS)) (M17 : Nat) (hk17 : ∀ (s : KS) (x1 : Int32) (x2 : Int32) (x3 : Int32), InvK s → FrK [146] s0 s → -1 ≤ x1.toInt → x1.toInt ≤ 4 → 0 ≤ x2.toInt → x2.toInt ≤ 1 → 0 ≤ x3.toInt → x3.toInt ≤ 5 → (5 - x3.toInt).toNat < M17 → Ok (k17 s x1 x2 x3) (Q_kX8_sortByLies s0)) (k36 : KS → Int32 → Int32 → Int32 → Int32 → Option (KS)) (M36 : Nat) (hk36 : ∀ (s : KS) (x1 : Int32) (x2 : Int32) (x3 : Int32) (x4 : Int32), InvK s → FrK [146] s0 s → -1 ≤ x1.toInt → x1.toInt ≤ 4 → 0 ≤ x2.toInt → x2.toInt ≤ 1 → 0 ≤ x3.toInt → x3.toInt ≤ 4 → -1 ≤ x4.toInt → x4.toInt ≤ 3 → (5 - x3.toInt).toNat ≤ M17 → (x4.toInt - (-1)).toNat < M36 → Ok (k36 s x1 x2 x3 x4) (Q_kX8_sortByLies s0)) (s : KS) (x1 : Int32) (x2 : Int32) (x3 : Int32) (x4 : Int32) (hI_s : InvK s) (hF_s : FrK [146] s0 s) (h_x1l : -1 ≤ x1.toInt) (h_x1u : x1.toInt ≤ 4) (h_x2l : 0 ≤ x2.toInt) (h_x2u : x2.toInt ≤ 1) (h_x3l : 0 ≤ x3.toInt) (h_x3u : x3.toInt ≤ 4) (h_x4l : -1 ≤ x4.toInt) (h_x4u : x4.toInt ≤ 3) (hM17 : (5 - x3.toInt).toNat ≤ M17) (hM36 : (x4.toInt - (-1)).toNat ≤ M36) : Ok (kX8_sortByLies_36 k17 k36 s x1 x2 x3 x4) (Q_kX8_sortByLies s0) := by
  unfold kX8_sortByLies_36
  rw [show x4 + (-1) = x4 - 1 from (Int32.sub_eq_add_neg x4 1).symm]
  refine ok_ite (fun c_1 => ?_) (fun c_1 => ?_)
  · have c_1 := tn_lt (a := (x4).toInt) (b := 0) rfl (by decide) c_1
    exact ok_kX8_sortByLies_62 s0 k17 M17 hk17 _ _ _ _ hI_s hF_s (by omega) (by omega) (by omega) (by omega) (by omega) (by omega) (by omega)
  · have c_1 := tn_nlt (a := (x4).toInt) (b := 0) rfl (by decide) c_1
    refine ok_bindI (ok_kX8_withWave _ _ _ _ hI_s (by omega) (by omega) (by omega) (by omega) (by omega) (by omega)) (fun r3 s2 hc_2 => ?_)
    have hI_s2 : InvK s2 := hc_2.1
    have hFc_s2 : FrK [] s s2 := hc_2.2.1
    have hF_s2 : FrK [146] s0 s2 := hF_s.trans hFc_s2 (by decide)
    refine ok_grd (vpb_ok (by omega) (by omega)) ?_
    refine ok_let (fun s5 hs5 => ?_)
    have hI_s5 : InvK s5 := by rw [← hs5]; exact hI_s2.sfF (k := 46) rfl rfl
    have hF_s5 : FrK [146] s0 s5 := by rw [← hs5]; exact hF_s2.sf (k := 46) (by decide)
    have a_3 : ((x4 - 1)).toInt = (x4).toInt - 1 := tn_sub rfl (by decide) (by omega) (by omega)
    exact hk36 _ _ _ _ _ hI_s5 hF_s5 (by omega) (by omega) (by omega) (by omega) (by omega) (by omega) (by omega) (by omega) (by omega) (by omega)
theorem okL_kX8_sortByLies_36 (s0 : KS) (k17 : KS → Int32 → Int32 → Int32 → Option (KS)) (M17 : Nat) (hk17 : ∀ (s : KS) (x1 : Int32) (x2 : Int32) (x3 : Int32), InvK s → FrK [146] s0 s → -1 ≤ x1.toInt → x1.toInt ≤ 4 → 0 ≤ x2.toInt → x2.toInt ≤ 1 → 0 ≤ x3.toInt → x3.toInt ≤ 5 → (5 - x3.toInt).toNat < M17 → Ok (k17 s x1 x2 x3) (Q_kX8_sortByLies s0)) : ∀ (n : Nat) (s : KS) (x1 : Int32) (x2 : Int32) (x3 : Int32) (x4 : Int32), (x4.toInt - (-1)).toNat < n → InvK s → FrK [146] s0 s → -1 ≤ x1.toInt → x1.toInt ≤ 4 → 0 ≤ x2.toInt → x2.toInt ≤ 1 → 0 ≤ x3.toInt → x3.toInt ≤ 4 → -1 ≤ x4.toInt → x4.toInt ≤ 3 → (5 - x3.toInt).toNat ≤ M17 → Ok (kX8_sortByLies_36L k17 n s x1 x2 x3 x4) (Q_kX8_sortByLies s0) := by
  intro n
  induction n with
  | zero => intro s x1 x2 x3 x4 hn; omega
  | succ n ih =>
    intro s x1 x2 x3 x4 hn hI_s hF_s h_x1l h_x1u h_x2l h_x2u h_x3l h_x3u h_x4l h_x4u hM17
    exact ok_kX8_sortByLies_36 s0 k17 M17 hk17 (kX8_sortByLies_36L k17 n) ((x4.toInt - (-1)).toNat) (fun zs zx1 zx2 zx3 zx4 g0 g1 g2 g3 g4 g5 g6 g7 g8 g9 o17 hm => ih zs zx1 zx2 zx3 zx4 (by omega) g0 g1 g2 g3 g4 g5 g6 g7 g8 g9 o17) s x1 x2 x3 x4 hI_s hF_s h_x1l h_x1u h_x2l h_x2u h_x3l h_x3u h_x4l h_x4u hM17 (Nat.le_refl _)
set_option maxHeartbeats 1000000 in
theorem ok_kX8_sortByLies_17 (s0 : KS) (k17 : KS → Int32 → Int32 → Int32 → Option (KS)) (M17 : Nat) (hk17 : ∀ (s : KS) (x1 : Int32) (x2 : Int32) (x3 : Int32), InvK s → FrK [146] s0 s → -1 ≤ x1.toInt → x1.toInt ≤ 4 → 0 ≤ x2.toInt → x2.toInt ≤ 1 → 0 ≤ x3.toInt → x3.toInt ≤ 5 → (5 - x3.toInt).toNat < M17 → Ok (k17 s x1 x2 x3) (Q_kX8_sortByLies s0)) (s : KS) (x1 : Int32) (x2 : Int32) (x3 : Int32) (hI_s : InvK s) (hF_s : FrK [146] s0 s) (h_x1l : -1 ≤ x1.toInt) (h_x1u : x1.toInt ≤ 4) (h_x2l : 0 ≤ x2.toInt) (h_x2u : x2.toInt ≤ 1) (h_x3l : 0 ≤ x3.toInt) (h_x3u : x3.toInt ≤ 5) (hM17 : (5 - x3.toInt).toNat ≤ M17) : Ok (kX8_sortByLies_17 k17 s x1 x2 x3) (Q_kX8_sortByLies s0) := by
  unfold kX8_sortByLies_17
  have a_1 : 0 ≤ (s.v 1).toInt ∧ (s.v 1).toInt ≤ 5 := hI_s.1 1
  refine ok_ite (fun c_2 => ?_) (fun c_2 => ?_)
  · have c_2 := tn_le (a := ((s.v 1)).toInt) (b := (x3).toInt) rfl rfl c_2
    exact ok_some ⟨hI_s, hF_s⟩
  · have c_2 := tn_nle (a := ((s.v 1)).toInt) (b := (x3).toInt) rfl rfl c_2
    refine ok_ite (fun c_3 => ?_) (fun c_3 => ?_)
    · have c_3 := tn_eq (a := (x3).toInt) (b := (x1).toInt) rfl rfl c_3
      exact ok_kX8_sortByLies_62 s0 k17 M17 hk17 _ _ _ _ hI_s hF_s (by omega) (by omega) (by omega) (by omega) (by omega) (by omega) (by omega)
    · have c_3 := tn_ne (a := (x3).toInt) (b := (x1).toInt) rfl rfl c_3
      have l_3 : (3 : Int32).toInt = 3 := by decide
      exact okL_kX8_sortByLies_36 s0 k17 M17 hk17 fu _ _ _ _ _ (by unfold fu; omega) hI_s hF_s (by omega) (by omega) (by omega) (by omega) (by omega) (by omega) (by decide) (by decide) (by omega)
theorem okL_kX8_sortByLies_17 (s0 : KS)  : ∀ (n : Nat) (s : KS) (x1 : Int32) (x2 : Int32) (x3 : Int32), (5 - x3.toInt).toNat < n → InvK s → FrK [146] s0 s → -1 ≤ x1.toInt → x1.toInt ≤ 4 → 0 ≤ x2.toInt → x2.toInt ≤ 1 → 0 ≤ x3.toInt → x3.toInt ≤ 5 → Ok (kX8_sortByLies_17L  n s x1 x2 x3) (Q_kX8_sortByLies s0) := by
  intro n
  induction n with
  | zero => intro s x1 x2 x3 hn; omega
  | succ n ih =>
    intro s x1 x2 x3 hn hI_s hF_s h_x1l h_x1u h_x2l h_x2u h_x3l h_x3u 
    exact ok_kX8_sortByLies_17 s0 (kX8_sortByLies_17L  n) ((5 - x3.toInt).toNat) (fun zs zx1 zx2 zx3 g0 g1 g2 g3 g4 g5 g6 g7  hm => ih zs zx1 zx2 zx3 (by omega) g0 g1 g2 g3 g4 g5 g6 g7 ) s x1 x2 x3 hI_s hF_s h_x1l h_x1u h_x2l h_x2u h_x3l h_x3u (Nat.le_refl _)
set_option maxHeartbeats 1000000 in
theorem ok_kX8_sortByLiesB (s0 : KS)  (s : KS) (x1 : Int32) (x2 : Int32) (hI_s : InvK s) (hF_s : FrK [146] s0 s) (h_x1l : -1 ≤ x1.toInt) (h_x1u : x1.toInt ≤ 4) (h_x2l : 0 ≤ x2.toInt) (h_x2u : x2.toInt ≤ 1)  : Ok (kX8_sortByLies  s x1 x2) (Q_kX8_sortByLies s0) := by
  unfold kX8_sortByLies
  refine ok_bindP (ok_kJ7_fill_53178_4 _ _ (by decide) (by decide)) (fun s1 hc_1 => ?_)
  refine ok_let (fun s2 hs2 => ?_)
  have hI_s2 : InvK s2 := by rw [← hs2]; exact hI_s.saF (k := 46) rfl rfl
  have hF_s2 : FrK [146] s0 s2 := by rw [← hs2]; exact hF_s.sa (k := 46) (by decide)
  refine ok_let (fun s4 hs4 => ?_)
  have hI_s4 : InvK s4 := by rw [← hs4]; exact hI_s2.sfF (k := 46) rfl rfl
  have hF_s4 : FrK [146] s0 s4 := by rw [← hs4]; exact hF_s2.sf (k := 46) (by decide)
  have l_0 : (0 : Int32).toInt = 0 := by decide
  exact okL_kX8_sortByLies_17 s0  fu _ _ _ _ (by unfold fu; omega) hI_s4 hF_s4 (by omega) (by omega) (by omega) (by omega) (by decide) (by decide) 
theorem ok_kX8_sortByLies (s : KS) (x1 : Int32) (x2 : Int32) (hI_s : InvK s) (h_x1l : -1 ≤ x1.toInt) (h_x1u : x1.toInt ≤ 4) (h_x2l : 0 ≤ x2.toInt) (h_x2u : x2.toInt ≤ 1) : Ok (kX8_sortByLies s x1 x2) (Q_kX8_sortByLies s) := ok_kX8_sortByLiesB s s x1 x2 hI_s FrK.rfl h_x1l h_x1u h_x2l h_x2u
noncomputable abbrev Q_kX8_fitting (s0 : KS) (y : Int32 × KS) : Prop := InvK y.2 ∧ FrK [146] s0 y.2 ∧ -2147483648 ≤ y.1.toInt ∧ y.1.toInt ≤ 2147483647
set_option maxHeartbeats 1000000 in
theorem ok_kX8_fittingB (s0 : KS)  (s : KS) (x1 : Int32) (x2 : Int32) (hI_s : InvK s) (hF_s : FrK [146] s0 s) (h_x1l : 0 ≤ x1.toInt) (h_x1u : x1.toInt ≤ 3) (h_x2l : 0 ≤ x2.toInt) (h_x2u : x2.toInt ≤ 1)  : Ok (kX8_fitting  s x1 x2) (Q_kX8_fitting s0) := by
  unfold kX8_fitting
  refine ok_bindP (ok_kX8_sortByLies _ _ _ hI_s (by decide) (by decide) (by omega) (by omega)) (fun s1 hc_1 => ?_)
  have hI_s1 : InvK s1 := hc_1.1
  have hFc_s1 : FrK [146] s s1 := hc_1.2
  have hF_s1 : FrK [146] s0 s1 := hF_s.trans hFc_s1 (by decide)
  refine ok_bindI (ok_kX8_upTo _ _ hI_s1 (by omega) (by omega)) (fun r3 s2 hc_2 => ?_)
  have hI_s2 : InvK s2 := hc_2.1
  have hFc_s2 : FrK [] s1 s2 := hc_2.2.1
  have hF_s2 : FrK [146] s0 s2 := hF_s1.trans hFc_s2 (by decide)
  exact ok_some ⟨hI_s2, hF_s2, (ti_rng _).1, (ti_rng _).2⟩
theorem ok_kX8_fitting (s : KS) (x1 : Int32) (x2 : Int32) (hI_s : InvK s) (h_x1l : 0 ≤ x1.toInt) (h_x1u : x1.toInt ≤ 3) (h_x2l : 0 ≤ x2.toInt) (h_x2u : x2.toInt ≤ 1) : Ok (kX8_fitting s x1 x2) (Q_kX8_fitting s) := ok_kX8_fittingB s s x1 x2 hI_s FrK.rfl h_x1l h_x1u h_x2l h_x2u
noncomputable abbrev Q_kX8_liars (s0 : KS) (y : Int32 × KS) : Prop := InvK y.2 ∧ FrK [146] s0 y.2 ∧ -2147483648 ≤ y.1.toInt ∧ y.1.toInt ≤ 2147483647
set_option maxHeartbeats 1000000 in
theorem ok_kX8_liars_111 (s0 : KS) (k5 : KS → Int32 → Int32 → Int32 → Int32 → Option (Int32 × KS)) (M5 : Nat) (hk5 : ∀ (s : KS) (x1 : Int32) (x2 : Int32) (x3 : Int32) (x4 : Int32), InvK s → FrK [146] s0 s → 0 ≤ x1.toInt → x1.toInt ≤ 20 → 0 ≤ x2.toInt → x2.toInt ≤ 3 → 0 ≤ x4.toInt → x4.toInt ≤ 5 → (5 - x4.toInt).toNat < M5 → Ok (k5 s x1 x2 x3 x4) (Q_kX8_liars s0)) (k71 : KS → Int32 → Int32 → Int32 → Int32 → Int32 → Int32 → Option (Int32 × KS)) (M71 : Nat) (hk71 : ∀ (s : KS) (x1 : Int32) (x2 : Int32) (x3 : Int32) (x4 : Int32) (x5 : Int32) (x6 : Int32), InvK s → FrK [146] s0 s → 0 ≤ x1.toInt → x1.toInt ≤ 20 → 0 ≤ x2.toInt → x2.toInt ≤ 3 → 0 ≤ x4.toInt → x4.toInt ≤ 4 → 0 ≤ x6.toInt → x6.toInt ≤ 20 → (5 - x4.toInt).toNat ≤ M5 → (20 - x6.toInt).toNat < M71 → Ok (k71 s x1 x2 x3 x4 x5 x6) (Q_kX8_liars s0)) (s : KS) (x1 : Int32) (x2 : Int32) (x4 : Int32) (x5 : Int32) (x6 : Int32) (t0 : Int32) (t1 : Int32) (hI_s : InvK s) (hF_s : FrK [146] s0 s) (h_x1l : 1 ≤ x1.toInt) (h_x1u : x1.toInt ≤ 20) (h_x2l : 0 ≤ x2.toInt) (h_x2u : x2.toInt ≤ 3) (h_x4l : 0 ≤ x4.toInt) (h_x4u : x4.toInt ≤ 4) (h_x6l : 0 ≤ x6.toInt) (h_x6u : x6.toInt ≤ 19) (hM5 : (5 - x4.toInt).toNat ≤ M5) (hM71 : (20 - x6.toInt).toNat ≤ M71) : Ok (kX8_liars_111 k5 k71 s x1 x2 x4 x5 x6 t0 t1) (Q_kX8_liars s0) := by
  unfold kX8_liars_111
  have a_1 : ((x6 + 1)).toInt = (x6).toInt + 1 := tn_add rfl (by decide) (by omega) (by omega)
  exact hk71 _ _ _ _ _ _ _ hI_s hF_s (by omega) (by omega) (by omega) (by omega) (by omega) (by omega) (by omega) (by omega) (by omega) (by omega)
set_option maxHeartbeats 1000000 in
theorem ok_kX8_liars_110 (s0 : KS) (k5 : KS → Int32 → Int32 → Int32 → Int32 → Option (Int32 × KS)) (M5 : Nat) (hk5 : ∀ (s : KS) (x1 : Int32) (x2 : Int32) (x3 : Int32) (x4 : Int32), InvK s → FrK [146] s0 s → 0 ≤ x1.toInt → x1.toInt ≤ 20 → 0 ≤ x2.toInt → x2.toInt ≤ 3 → 0 ≤ x4.toInt → x4.toInt ≤ 5 → (5 - x4.toInt).toNat < M5 → Ok (k5 s x1 x2 x3 x4) (Q_kX8_liars s0)) (k71 : KS → Int32 → Int32 → Int32 → Int32 → Int32 → Int32 → Option (Int32 × KS)) (M71 : Nat) (hk71 : ∀ (s : KS) (x1 : Int32) (x2 : Int32) (x3 : Int32) (x4 : Int32) (x5 : Int32) (x6 : Int32), InvK s → FrK [146] s0 s → 0 ≤ x1.toInt → x1.toInt ≤ 20 → 0 ≤ x2.toInt → x2.toInt ≤ 3 → 0 ≤ x4.toInt → x4.toInt ≤ 4 → 0 ≤ x6.toInt → x6.toInt ≤ 20 → (5 - x4.toInt).toNat ≤ M5 → (20 - x6.toInt).toNat < M71 → Ok (k71 s x1 x2 x3 x4 x5 x6) (Q_kX8_liars s0)) (s : KS) (x1 : Int32) (x2 : Int32) (x4 : Int32) (x5 : Int32) (x6 : Int32) (t0 : Int32) (hI_s : InvK s) (hF_s : FrK [146] s0 s) (h_x1l : 1 ≤ x1.toInt) (h_x1u : x1.toInt ≤ 20) (h_x2l : 0 ≤ x2.toInt) (h_x2u : x2.toInt ≤ 3) (h_x4l : 0 ≤ x4.toInt) (h_x4u : x4.toInt ≤ 4) (h_x6l : 0 ≤ x6.toInt) (h_x6u : x6.toInt ≤ 19) (hM5 : (5 - x4.toInt).toNat ≤ M5) (hM71 : (20 - x6.toInt).toNat ≤ M71) : Ok (kX8_liars_110 k5 k71 s x1 x2 x4 x5 x6 t0) (Q_kX8_liars s0) := by
  unfold kX8_liars_110
  have l_0 : (0 : Int32).toInt = 0 := by decide
  exact ok_kX8_liars_111 s0 k5 M5 hk5 k71 M71 hk71 _ _ _ _ _ _ _ _ hI_s hF_s (by omega) (by omega) (by omega) (by omega) (by omega) (by omega) (by omega) (by omega) (by omega) (by omega)
set_option maxHeartbeats 1000000 in
theorem ok_kX8_liars_71 (s0 : KS) (k5 : KS → Int32 → Int32 → Int32 → Int32 → Option (Int32 × KS)) (M5 : Nat) (hk5 : ∀ (s : KS) (x1 : Int32) (x2 : Int32) (x3 : Int32) (x4 : Int32), InvK s → FrK [146] s0 s → 0 ≤ x1.toInt → x1.toInt ≤ 20 → 0 ≤ x2.toInt → x2.toInt ≤ 3 → 0 ≤ x4.toInt → x4.toInt ≤ 5 → (5 - x4.toInt).toNat < M5 → Ok (k5 s x1 x2 x3 x4) (Q_kX8_liars s0)) (k71 : KS → Int32 → Int32 → Int32 → Int32 → Int32 → Int32 → Option (Int32 × KS)) (M71 : Nat) (hk71 : ∀ (s : KS) (x1 : Int32) (x2 : Int32) (x3 : Int32) (x4 : Int32) (x5 : Int32) (x6 : Int32), InvK s → FrK [146] s0 s → 0 ≤ x1.toInt → x1.toInt ≤ 20 → 0 ≤ x2.toInt → x2.toInt ≤ 3 → 0 ≤ x4.toInt → x4.toInt ≤ 4 → 0 ≤ x6.toInt → x6.toInt ≤ 20 → (5 - x4.toInt).toNat ≤ M5 → (20 - x6.toInt).toNat < M71 → Ok (k71 s x1 x2 x3 x4 x5 x6) (Q_kX8_liars s0)) (s : KS) (x1 : Int32) (x2 : Int32) (x3 : Int32) (x4 : Int32) (x5 : Int32) (x6 : Int32) (hI_s : InvK s) (hF_s : FrK [146] s0 s) (h_x1l : 0 ≤ x1.toInt) (h_x1u : x1.toInt ≤ 20) (h_x2l : 0 ≤ x2.toInt) (h_x2u : x2.toInt ≤ 3) (h_x4l : 0 ≤ x4.toInt) (h_x4u : x4.toInt ≤ 4) (h_x6l : 0 ≤ x6.toInt) (h_x6u : x6.toInt ≤ 20) (hM5 : (5 - x4.toInt).toNat ≤ M5) (hM71 : (20 - x6.toInt).toNat ≤ M71) : Ok (kX8_liars_71 k5 k71 s x1 x2 x3 x4 x5 x6) (Q_kX8_liars s0) := by
  unfold kX8_liars_71
  refine ok_ite (fun c_1 => ?_) (fun c_1 => ?_)
  · have c_1 := tn_le (a := (x1).toInt) (b := (x6).toInt) rfl rfl c_1
    have a_2 : ((x4 + 1)).toInt = (x4).toInt + 1 := tn_add rfl (by decide) (by omega) (by omega)
    exact hk5 _ _ _ _ _ hI_s hF_s (by omega) (by omega) (by omega) (by omega) (by omega) (by omega) (by omega)
  · have c_1 := tn_nle (a := (x1).toInt) (b := (x6).toInt) rfl rfl c_1
    refine ok_grd (vpb_ok (by omega) (by omega)) ?_
    refine ok_ite (fun c_3 => ?_) (fun c_3 => ?_)
    · have c_3 := tn_eq (a := (((s.f 42) (Int32.toNatClampNeg x6))).toInt) (b := (x4).toInt) rfl rfl c_3
      refine ok_grd (vpb_ok (by omega) (by omega)) ?_
      refine ok_ite (fun c_4 => ?_) (fun c_4 => ?_)
      · have c_4 := tn_eq (a := ((((s.f 43) (Int32.toNatClampNeg x6)) &&& x5)).toInt) (b := 0) rfl (by decide) c_4
        exact ok_kX8_liars_111 s0 k5 M5 hk5 k71 M71 hk71 _ _ _ _ _ _ _ _ hI_s hF_s (by omega) (by omega) (by omega) (by omega) (by omega) (by omega) (by omega) (by omega) (by omega) (by omega)
      · have c_4 := tn_ne (a := ((((s.f 43) (Int32.toNatClampNeg x6)) &&& x5)).toInt) (b := 0) rfl (by decide) c_4
        exact ok_kX8_liars_110 s0 k5 M5 hk5 k71 M71 hk71 _ _ _ _ _ _ _ hI_s hF_s (by omega) (by omega) (by omega) (by omega) (by omega) (by omega) (by omega) (by omega) (by omega) (by omega)
    · have c_3 := tn_ne (a := (((s.f 42) (Int32.toNatClampNeg x6))).toInt) (b := (x4).toInt) rfl rfl c_3
      exact ok_kX8_liars_110 s0 k5 M5 hk5 k71 M71 hk71 _ _ _ _ _ _ _ hI_s hF_s (by omega) (by omega) (by omega) (by omega) (by omega) (by omega) (by omega) (by omega) (by omega) (by omega)
theorem okL_kX8_liars_71 (s0 : KS) (k5 : KS → Int32 → Int32 → Int32 → Int32 → Option (Int32 × KS)) (M5 : Nat) (hk5 : ∀ (s : KS) (x1 : Int32) (x2 : Int32) (x3 : Int32) (x4 : Int32), InvK s → FrK [146] s0 s → 0 ≤ x1.toInt → x1.toInt ≤ 20 → 0 ≤ x2.toInt → x2.toInt ≤ 3 → 0 ≤ x4.toInt → x4.toInt ≤ 5 → (5 - x4.toInt).toNat < M5 → Ok (k5 s x1 x2 x3 x4) (Q_kX8_liars s0)) : ∀ (n : Nat) (s : KS) (x1 : Int32) (x2 : Int32) (x3 : Int32) (x4 : Int32) (x5 : Int32) (x6 : Int32), (20 - x6.toInt).toNat < n → InvK s → FrK [146] s0 s → 0 ≤ x1.toInt → x1.toInt ≤ 20 → 0 ≤ x2.toInt → x2.toInt ≤ 3 → 0 ≤ x4.toInt → x4.toInt ≤ 4 → 0 ≤ x6.toInt → x6.toInt ≤ 20 → (5 - x4.toInt).toNat ≤ M5 → Ok (kX8_liars_71L k5 n s x1 x2 x3 x4 x5 x6) (Q_kX8_liars s0) := by
  intro n
  induction n with
  | zero => intro s x1 x2 x3 x4 x5 x6 hn; omega
  | succ n ih =>
    intro s x1 x2 x3 x4 x5 x6 hn hI_s hF_s h_x1l h_x1u h_x2l h_x2u h_x4l h_x4u h_x6l h_x6u hM5
    exact ok_kX8_liars_71 s0 k5 M5 hk5 (kX8_liars_71L k5 n) ((20 - x6.toInt).toNat) (fun zs zx1 zx2 zx3 zx4 zx5 zx6 g0 g1 g2 g3 g4 g5 g6 g7 g8 g9 o5 hm => ih zs zx1 zx2 zx3 zx4 zx5 zx6 (by omega) g0 g1 g2 g3 g4 g5 g6 g7 g8 g9 o5) s x1 x2 x3 x4 x5 x6 hI_s hF_s h_x1l h_x1u h_x2l h_x2u h_x4l h_x4u h_x6l h_x6u hM5 (Nat.le_refl _)
set_option maxHeartbeats 1000000 in
theorem ok_kX8_liars_59 (s0 : KS) (k5 : KS → Int32 → Int32 → Int32 → Int32 → Option (Int32 × KS)) (M5 : Nat) (hk5 : ∀ (s : KS) (x1 : Int32) (x2 : Int32) (x3 : Int32) (x4 : Int32), InvK s → FrK [146] s0 s → 0 ≤ x1.toInt → x1.toInt ≤ 20 → 0 ≤ x2.toInt → x2.toInt ≤ 3 → 0 ≤ x4.toInt → x4.toInt ≤ 5 → (5 - x4.toInt).toNat < M5 → Ok (k5 s x1 x2 x3 x4) (Q_kX8_liars s0)) (k30 : KS → Int32 → Int32 → Int32 → Int32 → Int32 → Int32 → Option (Int32 × KS)) (M30 : Nat) (hk30 : ∀ (s : KS) (x1 : Int32) (x2 : Int32) (x3 : Int32) (x4 : Int32) (x5 : Int32) (x6 : Int32), InvK s → FrK [146] s0 s → 0 ≤ x1.toInt → x1.toInt ≤ 20 → 0 ≤ x2.toInt → x2.toInt ≤ 3 → 0 ≤ x4.toInt → x4.toInt ≤ 4 → 0 ≤ x6.toInt → x6.toInt ≤ 6 → (5 - x4.toInt).toNat ≤ M5 → (6 - x6.toInt).toNat < M30 → Ok (k30 s x1 x2 x3 x4 x5 x6) (Q_kX8_liars s0)) (s : KS) (x1 : Int32) (x2 : Int32) (x3 : Int32) (x4 : Int32) (x6 : Int32) (t0 : Int32) (t1 : Int32) (hI_s : InvK s) (hF_s : FrK [146] s0 s) (h_x1l : 0 ≤ x1.toInt) (h_x1u : x1.toInt ≤ 20) (h_x2l : 0 ≤ x2.toInt) (h_x2u : x2.toInt ≤ 3) (h_x4l : 0 ≤ x4.toInt) (h_x4u : x4.toInt ≤ 4) (h_x6l : 0 ≤ x6.toInt) (h_x6u : x6.toInt ≤ 5) (hM5 : (5 - x4.toInt).toNat ≤ M5) (hM30 : (6 - x6.toInt).toNat ≤ M30) : Ok (kX8_liars_59 k5 k30 s x1 x2 x3 x4 x6 t0 t1) (Q_kX8_liars s0) := by
  unfold kX8_liars_59
  have a_1 : ((x6 + 1)).toInt = (x6).toInt + 1 := tn_add rfl (by decide) (by omega) (by omega)
  exact hk30 _ _ _ _ _ _ _ hI_s hF_s (by omega) (by omega) (by omega) (by omega) (by omega) (by omega) (by omega) (by omega) (by omega) (by omega)
set_option maxHeartbeats 1000000 in
theorem ok_kX8_liars_30 (s0 : KS) (k5 : KS → Int32 → Int32 → Int32 → Int32 → Option (Int32 × KS)) (M5 : Nat) (hk5 : ∀ (s : KS) (x1 : Int32) (x2 : Int32) (x3 : Int32) (x4 : Int32), InvK s → FrK [146] s0 s → 0 ≤ x1.toInt → x1.toInt ≤ 20 → 0 ≤ x2.toInt → x2.toInt ≤ 3 → 0 ≤ x4.toInt → x4.toInt ≤ 5 → (5 - x4.toInt).toNat < M5 → Ok (k5 s x1 x2 x3 x4) (Q_kX8_liars s0)) (k30 : KS → Int32 → Int32 → Int32 → Int32 → Int32 → Int32 → Option (Int32 × KS)) (M30 : Nat) (hk30 : ∀ (s : KS) (x1 : Int32) (x2 : Int32) (x3 : Int32) (x4 : Int32) (x5 : Int32) (x6 : Int32), InvK s → FrK [146] s0 s → 0 ≤ x1.toInt → x1.toInt ≤ 20 → 0 ≤ x2.toInt → x2.toInt ≤ 3 → 0 ≤ x4.toInt → x4.toInt ≤ 4 → 0 ≤ x6.toInt → x6.toInt ≤ 6 → (5 - x4.toInt).toNat ≤ M5 → (6 - x6.toInt).toNat < M30 → Ok (k30 s x1 x2 x3 x4 x5 x6) (Q_kX8_liars s0)) (s : KS) (x1 : Int32) (x2 : Int32) (x3 : Int32) (x4 : Int32) (x5 : Int32) (x6 : Int32) (hI_s : InvK s) (hF_s : FrK [146] s0 s) (h_x1l : 0 ≤ x1.toInt) (h_x1u : x1.toInt ≤ 20) (h_x2l : 0 ≤ x2.toInt) (h_x2u : x2.toInt ≤ 3) (h_x4l : 0 ≤ x4.toInt) (h_x4u : x4.toInt ≤ 4) (h_x6l : 0 ≤ x6.toInt) (h_x6u : x6.toInt ≤ 6) (hM5 : (5 - x4.toInt).toNat ≤ M5) (hM30 : (6 - x6.toInt).toNat ≤ M30) : Ok (kX8_liars_30 k5 k30 s x1 x2 x3 x4 x5 x6) (Q_kX8_liars s0) := by
  unfold kX8_liars_30
  refine ok_ite (fun c_1 => ?_) (fun c_1 => ?_)
  · have c_1 := tn_le (a := 6) (b := (x6).toInt) (by decide) rfl c_1
    have l_0 : (0 : Int32).toInt = 0 := by decide
    exact okL_kX8_liars_71 s0 k5 M5 hk5 fu _ _ _ _ _ _ _ (by unfold fu; omega) hI_s hF_s (by omega) (by omega) (by omega) (by omega) (by omega) (by omega) (by decide) (by decide) (by omega)
  · have c_1 := tn_nle (a := 6) (b := (x6).toInt) (by decide) rfl c_1
    refine ok_bindI (ok_kX8_fittingWith _ _ _ _ hI_s (by omega) (by omega) (by omega) (by omega) (by omega) (by omega)) (fun r3 s2 hc_2 => ?_)
    have hI_s2 : InvK s2 := hc_2.1
    have hFc_s2 : FrK [] s s2 := hc_2.2.1
    have hF_s2 : FrK [146] s0 s2 := hF_s.trans hFc_s2 (by decide)
    refine ok_ite (fun c_3 => ?_) (fun c_3 => ?_)
    · have c_3 := tn_le (a := (r3).toInt) (b := 0) rfl (by decide) c_3
      have l_0 : (0 : Int32).toInt = 0 := by decide
      exact ok_kX8_liars_59 s0 k5 M5 hk5 k30 M30 hk30 _ _ _ _ _ _ _ _ hI_s2 hF_s2 (by omega) (by omega) (by omega) (by omega) (by omega) (by omega) (by omega) (by omega) (by omega) (by omega)
    · have c_3 := tn_nle (a := (r3).toInt) (b := 0) rfl (by decide) c_3
      exact ok_kX8_liars_59 s0 k5 M5 hk5 k30 M30 hk30 _ _ _ _ _ _ _ _ hI_s2 hF_s2 (by omega) (by omega) (by omega) (by omega) (by omega) (by omega) (by omega) (by omega) (by omega) (by omega)
theorem okL_kX8_liars_30 (s0 : KS) (k5 : KS → Int32 → Int32 → Int32 → Int32 → Option (Int32 × KS)) (M5 : Nat) (hk5 : ∀ (s : KS) (x1 : Int32) (x2 : Int32) (x3 : Int32) (x4 : Int32), InvK s → FrK [146] s0 s → 0 ≤ x1.toInt → x1.toInt ≤ 20 → 0 ≤ x2.toInt → x2.toInt ≤ 3 → 0 ≤ x4.toInt → x4.toInt ≤ 5 → (5 - x4.toInt).toNat < M5 → Ok (k5 s x1 x2 x3 x4) (Q_kX8_liars s0)) : ∀ (n : Nat) (s : KS) (x1 : Int32) (x2 : Int32) (x3 : Int32) (x4 : Int32) (x5 : Int32) (x6 : Int32), (6 - x6.toInt).toNat < n → InvK s → FrK [146] s0 s → 0 ≤ x1.toInt → x1.toInt ≤ 20 → 0 ≤ x2.toInt → x2.toInt ≤ 3 → 0 ≤ x4.toInt → x4.toInt ≤ 4 → 0 ≤ x6.toInt → x6.toInt ≤ 6 → (5 - x4.toInt).toNat ≤ M5 → Ok (kX8_liars_30L k5 n s x1 x2 x3 x4 x5 x6) (Q_kX8_liars s0) := by
  intro n
  induction n with
  | zero => intro s x1 x2 x3 x4 x5 x6 hn; omega
  | succ n ih =>
    intro s x1 x2 x3 x4 x5 x6 hn hI_s hF_s h_x1l h_x1u h_x2l h_x2u h_x4l h_x4u h_x6l h_x6u hM5
    exact ok_kX8_liars_30 s0 k5 M5 hk5 (kX8_liars_30L k5 n) ((6 - x6.toInt).toNat) (fun zs zx1 zx2 zx3 zx4 zx5 zx6 g0 g1 g2 g3 g4 g5 g6 g7 g8 g9 o5 hm => ih zs zx1 zx2 zx3 zx4 zx5 zx6 (by omega) g0 g1 g2 g3 g4 g5 g6 g7 g8 g9 o5) s x1 x2 x3 x4 x5 x6 hI_s hF_s h_x1l h_x1u h_x2l h_x2u h_x4l h_x4u h_x6l h_x6u hM5 (Nat.le_refl _)
set_option maxHeartbeats 1000000 in
theorem ok_kX8_liars_5 (s0 : KS) (k5 : KS → Int32 → Int32 → Int32 → Int32 → Option (Int32 × KS)) (M5 : Nat) (hk5 : ∀ (s : KS) (x1 : Int32) (x2 : Int32) (x3 : Int32) (x4 : Int32), InvK s → FrK [146] s0 s → 0 ≤ x1.toInt → x1.toInt ≤ 20 → 0 ≤ x2.toInt → x2.toInt ≤ 3 → 0 ≤ x4.toInt → x4.toInt ≤ 5 → (5 - x4.toInt).toNat < M5 → Ok (k5 s x1 x2 x3 x4) (Q_kX8_liars s0)) (s : KS) (x1 : Int32) (x2 : Int32) (x3 : Int32) (x4 : Int32) (hI_s : InvK s) (hF_s : FrK [146] s0 s) (h_x1l : 0 ≤ x1.toInt) (h_x1u : x1.toInt ≤ 20) (h_x2l : 0 ≤ x2.toInt) (h_x2u : x2.toInt ≤ 3) (h_x4l : 0 ≤ x4.toInt) (h_x4u : x4.toInt ≤ 5) (hM5 : (5 - x4.toInt).toNat ≤ M5) : Ok (kX8_liars_5 k5 s x1 x2 x3 x4) (Q_kX8_liars s0) := by
  unfold kX8_liars_5
  have a_1 : 0 ≤ (s.v 1).toInt ∧ (s.v 1).toInt ≤ 5 := hI_s.1 1
  refine ok_ite (fun c_2 => ?_) (fun c_2 => ?_)
  · have c_2 := tn_le (a := ((s.v 1)).toInt) (b := (x4).toInt) rfl rfl c_2
    exact ok_some ⟨hI_s, hF_s, (ti_rng _).1, (ti_rng _).2⟩
  · have c_2 := tn_nle (a := ((s.v 1)).toInt) (b := (x4).toInt) rfl rfl c_2
    refine ok_bindP (ok_kX8_sortByLies _ _ _ hI_s (by omega) (by omega) (by decide) (by decide)) (fun s2 hc_3 => ?_)
    have hI_s2 : InvK s2 := hc_3.1
    have hFc_s2 : FrK [146] s s2 := hc_3.2
    have hF_s2 : FrK [146] s0 s2 := hF_s.trans hFc_s2 (by decide)
    have l_0 : (0 : Int32).toInt = 0 := by decide
    exact okL_kX8_liars_30 s0 k5 M5 hk5 fu _ _ _ _ _ _ _ (by unfold fu; omega) hI_s2 hF_s2 (by omega) (by omega) (by omega) (by omega) (by omega) (by omega) (by decide) (by decide) (by omega)
theorem okL_kX8_liars_5 (s0 : KS)  : ∀ (n : Nat) (s : KS) (x1 : Int32) (x2 : Int32) (x3 : Int32) (x4 : Int32), (5 - x4.toInt).toNat < n → InvK s → FrK [146] s0 s → 0 ≤ x1.toInt → x1.toInt ≤ 20 → 0 ≤ x2.toInt → x2.toInt ≤ 3 → 0 ≤ x4.toInt → x4.toInt ≤ 5 → Ok (kX8_liars_5L  n s x1 x2 x3 x4) (Q_kX8_liars s0) := by
  intro n
  induction n with
  | zero => intro s x1 x2 x3 x4 hn; omega
  | succ n ih =>
    intro s x1 x2 x3 x4 hn hI_s hF_s h_x1l h_x1u h_x2l h_x2u h_x4l h_x4u 
    exact ok_kX8_liars_5 s0 (kX8_liars_5L  n) ((5 - x4.toInt).toNat) (fun zs zx1 zx2 zx3 zx4 g0 g1 g2 g3 g4 g5 g6 g7  hm => ih zs zx1 zx2 zx3 zx4 (by omega) g0 g1 g2 g3 g4 g5 g6 g7 ) s x1 x2 x3 x4 hI_s hF_s h_x1l h_x1u h_x2l h_x2u h_x4l h_x4u (Nat.le_refl _)
set_option maxHeartbeats 1000000 in
theorem ok_kX8_liarsB (s0 : KS)  (s : KS) (x1 : Int32) (x2 : Int32) (hI_s : InvK s) (hF_s : FrK [146] s0 s) (h_x1l : 0 ≤ x1.toInt) (h_x1u : x1.toInt ≤ 20) (h_x2l : 0 ≤ x2.toInt) (h_x2u : x2.toInt ≤ 3)  : Ok (kX8_liars  s x1 x2) (Q_kX8_liars s0) := by
  unfold kX8_liars
  have l_0 : (0 : Int32).toInt = 0 := by decide
  exact okL_kX8_liars_5 s0  fu _ _ _ _ _ (by unfold fu; omega) hI_s hF_s (by omega) (by omega) (by omega) (by omega) (by decide) (by decide) 
theorem ok_kX8_liars (s : KS) (x1 : Int32) (x2 : Int32) (hI_s : InvK s) (h_x1l : 0 ≤ x1.toInt) (h_x1u : x1.toInt ≤ 20) (h_x2l : 0 ≤ x2.toInt) (h_x2u : x2.toInt ≤ 3) : Ok (kX8_liars s x1 x2) (Q_kX8_liars s) := ok_kX8_liarsB s s x1 x2 hI_s FrK.rfl h_x1l h_x1u h_x2l h_x2u
noncomputable abbrev Q_kX8_waveToAsk (s0 : KS) (y : Int32 × KS) : Prop := InvK y.2 ∧ FrK [146] s0 y.2 ∧ -2 ≤ y.1.toInt ∧ y.1.toInt ≤ 4
set_option maxHeartbeats 1000000 in
theorem ok_kX8_waveToAsk_85 (s0 : KS) (k8 : KS → Int32 → Int32 → Int32 → Int32 → Option (Int32 × KS)) (M8 : Nat) (hk8 : ∀ (s : KS) (x1 : Int32) (x2 : Int32) (x3 : Int32) (x4 : Int32), InvK s → FrK [146] s0 s → 0 ≤ x1.toInt → x1.toInt ≤ 3 → -2 ≤ x2.toInt → x2.toInt ≤ 4 → 0 ≤ x3.toInt → 0 ≤ x4.toInt → x4.toInt ≤ 5 → (5 - x4.toInt).toNat < M8 → Ok (k8 s x1 x2 x3 x4) (Q_kX8_waveToAsk s0)) (s : KS) (x1 : Int32) (x2 : Int32) (x3 : Int32) (x4 : Int32) (hI_s : InvK s) (hF_s : FrK [146] s0 s) (h_x1l : 0 ≤ x1.toInt) (h_x1u : x1.toInt ≤ 3) (h_x2l : -2 ≤ x2.toInt) (h_x2u : x2.toInt ≤ 4) (h_x3l : 0 ≤ x3.toInt) (h_x4l : 0 ≤ x4.toInt) (h_x4u : x4.toInt ≤ 4) (hM8 : (5 - x4.toInt).toNat ≤ M8) : Ok (kX8_waveToAsk_85 k8 s x1 x2 x3 x4) (Q_kX8_waveToAsk s0) := by
  unfold kX8_waveToAsk_85
  have a_1 : ((x4 + 1)).toInt = (x4).toInt + 1 := tn_add rfl (by decide) (by omega) (by omega)
  exact hk8 _ _ _ _ _ hI_s hF_s (by omega) (by omega) (by omega) (by omega) (by omega) (by omega) (by omega) (by omega)
set_option maxHeartbeats 1000000 in
theorem ok_kX8_waveToAsk_79 (s0 : KS) (k8 : KS → Int32 → Int32 → Int32 → Int32 → Option (Int32 × KS)) (M8 : Nat) (hk8 : ∀ (s : KS) (x1 : Int32) (x2 : Int32) (x3 : Int32) (x4 : Int32), InvK s → FrK [146] s0 s → 0 ≤ x1.toInt → x1.toInt ≤ 3 → -2 ≤ x2.toInt → x2.toInt ≤ 4 → 0 ≤ x3.toInt → 0 ≤ x4.toInt → x4.toInt ≤ 5 → (5 - x4.toInt).toNat < M8 → Ok (k8 s x1 x2 x3 x4) (Q_kX8_waveToAsk s0)) (s : KS) (x1 : Int32) (x4 : Int32) (x5 : Int32) (hI_s : InvK s) (hF_s : FrK [146] s0 s) (h_x1l : 0 ≤ x1.toInt) (h_x1u : x1.toInt ≤ 3) (h_x4l : 0 ≤ x4.toInt) (h_x4u : x4.toInt ≤ 4) (h_x5l : 1 ≤ x5.toInt) (hM8 : (5 - x4.toInt).toNat ≤ M8) : Ok (kX8_waveToAsk_79 k8 s x1 x4 x5) (Q_kX8_waveToAsk s0) := by
  unfold kX8_waveToAsk_79
  exact ok_kX8_waveToAsk_85 s0 k8 M8 hk8 _ _ _ _ _ hI_s hF_s (by omega) (by omega) (by omega) (by omega) (by omega) (by omega) (by omega) (by omega)
set_option maxHeartbeats 1000000 in
theorem ok_kX8_waveToAsk_33 (s0 : KS) (k8 : KS → Int32 → Int32 → Int32 → Int32 → Option (Int32 × KS)) (M8 : Nat) (hk8 : ∀ (s : KS) (x1 : Int32) (x2 : Int32) (x3 : Int32) (x4 : Int32), InvK s → FrK [146] s0 s → 0 ≤ x1.toInt → x1.toInt ≤ 3 → -2 ≤ x2.toInt → x2.toInt ≤ 4 → 0 ≤ x3.toInt → 0 ≤ x4.toInt → x4.toInt ≤ 5 → (5 - x4.toInt).toNat < M8 → Ok (k8 s x1 x2 x3 x4) (Q_kX8_waveToAsk s0)) (k33 : KS → Int32 → Int32 → Int32 → Int32 → Int32 → Int32 → Option (Int32 × KS)) (M33 : Nat) (hk33 : ∀ (s : KS) (x1 : Int32) (x2 : Int32) (x3 : Int32) (x4 : Int32) (x5 : Int32) (x6 : Int32), InvK s → FrK [146] s0 s → 0 ≤ x1.toInt → x1.toInt ≤ 3 → -2 ≤ x2.toInt → x2.toInt ≤ 4 → 0 ≤ x3.toInt → 0 ≤ x4.toInt → x4.toInt ≤ 4 → 0 ≤ x5.toInt → 0 ≤ x6.toInt → x6.toInt ≤ 6 → (5 - x4.toInt).toNat ≤ M8 → (6 - x6.toInt).toNat < M33 → Ok (k33 s x1 x2 x3 x4 x5 x6) (Q_kX8_waveToAsk s0)) (s : KS) (x1 : Int32) (x2 : Int32) (x3 : Int32) (x4 : Int32) (x5 : Int32) (x6 : Int32) (hI_s : InvK s) (hF_s : FrK [146] s0 s) (h_x1l : 0 ≤ x1.toInt) (h_x1u : x1.toInt ≤ 3) (h_x2l : -2 ≤ x2.toInt) (h_x2u : x2.toInt ≤ 4) (h_x3l : 0 ≤ x3.toInt) (h_x4l : 0 ≤ x4.toInt) (h_x4u : x4.toInt ≤ 4) (h_x5l : 0 ≤ x5.toInt) (h_x6l : 0 ≤ x6.toInt) (h_x6u : x6.toInt ≤ 6) (hM8 : (5 - x4.toInt).toNat ≤ M8) (hM33 : (6 - x6.toInt).toNat ≤ M33) : Ok (kX8_waveToAsk_33 k8 k33 s x1 x2 x3 x4 x5 x6) (Q_kX8_waveToAsk s0) := by
  unfold kX8_waveToAsk_33
  refine ok_ite (fun c_1 => ?_) (fun c_1 => ?_)
  · have c_1 := tn_le (a := 6) (b := (x6).toInt) (by decide) rfl c_1
    refine ok_ite (fun c_2 => ?_) (fun c_2 => ?_)
    · have c_2 := tn_le (a := (x5).toInt) (b := 0) rfl (by decide) c_2
      exact ok_kX8_waveToAsk_85 s0 k8 M8 hk8 _ _ _ _ _ hI_s hF_s (by omega) (by omega) (by omega) (by omega) (by omega) (by omega) (by omega) (by omega)
    · have c_2 := tn_nle (a := (x5).toInt) (b := 0) rfl (by decide) c_2
      refine ok_ite (fun c_3 => ?_) (fun c_3 => ?_)
      · have c_3 := tn_eq (a := (x2).toInt) (b := (-2)) rfl (by decide) c_3
        exact ok_kX8_waveToAsk_79 s0 k8 M8 hk8 _ _ _ _ hI_s hF_s (by omega) (by omega) (by omega) (by omega) (by omega) (by omega)
      · have c_3 := tn_ne (a := (x2).toInt) (b := (-2)) rfl (by decide) c_3
        refine ok_ite (fun c_4 => ?_) (fun c_4 => ?_)
        · have c_4 := tn_le (a := (x3).toInt) (b := (x5).toInt) rfl rfl c_4
          exact ok_kX8_waveToAsk_85 s0 k8 M8 hk8 _ _ _ _ _ hI_s hF_s (by omega) (by omega) (by omega) (by omega) (by omega) (by omega) (by omega) (by omega)
        · have c_4 := tn_nle (a := (x3).toInt) (b := (x5).toInt) rfl rfl c_4
          exact ok_kX8_waveToAsk_79 s0 k8 M8 hk8 _ _ _ _ hI_s hF_s (by omega) (by omega) (by omega) (by omega) (by omega) (by omega)
  · have c_1 := tn_nle (a := 6) (b := (x6).toInt) (by decide) rfl c_1
    refine ok_bindI (ok_kX8_fittingWith _ _ _ _ hI_s (by omega) (by omega) (by omega) (by omega) (by omega) (by omega)) (fun r6 s5 hc_5 => ?_)
    have hI_s5 : InvK s5 := hc_5.1
    have hFc_s5 : FrK [] s s5 := hc_5.2.1
    have hF_s5 : FrK [146] s0 s5 := hF_s.trans hFc_s5 (by decide)
    have a_6 := tn_mmax (x := x5) (y := r6) (a := (x5).toInt) (b := (r6).toInt) rfl rfl
    have a_7 : ((x6 + 1)).toInt = (x6).toInt + 1 := tn_add rfl (by decide) (by omega) (by omega)
    exact hk33 _ _ _ _ _ _ _ hI_s5 hF_s5 (by omega) (by omega) (by omega) (by omega) (by omega) (by omega) (by omega) (by omega) (by omega) (by omega) (by omega) (by omega)
theorem okL_kX8_waveToAsk_33 (s0 : KS) (k8 : KS → Int32 → Int32 → Int32 → Int32 → Option (Int32 × KS)) (M8 : Nat) (hk8 : ∀ (s : KS) (x1 : Int32) (x2 : Int32) (x3 : Int32) (x4 : Int32), InvK s → FrK [146] s0 s → 0 ≤ x1.toInt → x1.toInt ≤ 3 → -2 ≤ x2.toInt → x2.toInt ≤ 4 → 0 ≤ x3.toInt → 0 ≤ x4.toInt → x4.toInt ≤ 5 → (5 - x4.toInt).toNat < M8 → Ok (k8 s x1 x2 x3 x4) (Q_kX8_waveToAsk s0)) : ∀ (n : Nat) (s : KS) (x1 : Int32) (x2 : Int32) (x3 : Int32) (x4 : Int32) (x5 : Int32) (x6 : Int32), (6 - x6.toInt).toNat < n → InvK s → FrK [146] s0 s → 0 ≤ x1.toInt → x1.toInt ≤ 3 → -2 ≤ x2.toInt → x2.toInt ≤ 4 → 0 ≤ x3.toInt → 0 ≤ x4.toInt → x4.toInt ≤ 4 → 0 ≤ x5.toInt → 0 ≤ x6.toInt → x6.toInt ≤ 6 → (5 - x4.toInt).toNat ≤ M8 → Ok (kX8_waveToAsk_33L k8 n s x1 x2 x3 x4 x5 x6) (Q_kX8_waveToAsk s0) := by
  intro n
  induction n with
  | zero => intro s x1 x2 x3 x4 x5 x6 hn; omega
  | succ n ih =>
    intro s x1 x2 x3 x4 x5 x6 hn hI_s hF_s h_x1l h_x1u h_x2l h_x2u h_x3l h_x4l h_x4u h_x5l h_x6l h_x6u hM8
    exact ok_kX8_waveToAsk_33 s0 k8 M8 hk8 (kX8_waveToAsk_33L k8 n) ((6 - x6.toInt).toNat) (fun zs zx1 zx2 zx3 zx4 zx5 zx6 g0 g1 g2 g3 g4 g5 g6 g7 g8 g9 g10 g11 o8 hm => ih zs zx1 zx2 zx3 zx4 zx5 zx6 (by omega) g0 g1 g2 g3 g4 g5 g6 g7 g8 g9 g10 g11 o8) s x1 x2 x3 x4 x5 x6 hI_s hF_s h_x1l h_x1u h_x2l h_x2u h_x3l h_x4l h_x4u h_x5l h_x6l h_x6u hM8 (Nat.le_refl _)
set_option maxHeartbeats 1000000 in
theorem ok_kX8_waveToAsk_8 (s0 : KS) (k8 : KS → Int32 → Int32 → Int32 → Int32 → Option (Int32 × KS)) (M8 : Nat) (hk8 : ∀ (s : KS) (x1 : Int32) (x2 : Int32) (x3 : Int32) (x4 : Int32), InvK s → FrK [146] s0 s → 0 ≤ x1.toInt → x1.toInt ≤ 3 → -2 ≤ x2.toInt → x2.toInt ≤ 4 → 0 ≤ x3.toInt → 0 ≤ x4.toInt → x4.toInt ≤ 5 → (5 - x4.toInt).toNat < M8 → Ok (k8 s x1 x2 x3 x4) (Q_kX8_waveToAsk s0)) (s : KS) (x1 : Int32) (x2 : Int32) (x3 : Int32) (x4 : Int32) (hI_s : InvK s) (hF_s : FrK [146] s0 s) (h_x1l : 0 ≤ x1.toInt) (h_x1u : x1.toInt ≤ 3) (h_x2l : -2 ≤ x2.toInt) (h_x2u : x2.toInt ≤ 4) (h_x3l : 0 ≤ x3.toInt) (h_x4l : 0 ≤ x4.toInt) (h_x4u : x4.toInt ≤ 5) (hM8 : (5 - x4.toInt).toNat ≤ M8) : Ok (kX8_waveToAsk_8 k8 s x1 x2 x3 x4) (Q_kX8_waveToAsk s0) := by
  unfold kX8_waveToAsk_8
  have a_1 : 0 ≤ (s.v 1).toInt ∧ (s.v 1).toInt ≤ 5 := hI_s.1 1
  refine ok_ite (fun c_2 => ?_) (fun c_2 => ?_)
  · have c_2 := tn_le (a := ((s.v 1)).toInt) (b := (x4).toInt) rfl rfl c_2
    exact ok_some ⟨hI_s, hF_s, by show -2 ≤ (x2).toInt; omega, by show (x2).toInt ≤ 4; omega⟩
  · have c_2 := tn_nle (a := ((s.v 1)).toInt) (b := (x4).toInt) rfl rfl c_2
    refine ok_bindP (ok_kX8_sortByLies _ _ _ hI_s (by omega) (by omega) (by decide) (by decide)) (fun s2 hc_3 => ?_)
    have hI_s2 : InvK s2 := hc_3.1
    have hFc_s2 : FrK [146] s s2 := hc_3.2
    have hF_s2 : FrK [146] s0 s2 := hF_s.trans hFc_s2 (by decide)
    have l_0 : (0 : Int32).toInt = 0 := by decide
    exact okL_kX8_waveToAsk_33 s0 k8 M8 hk8 fu _ _ _ _ _ _ _ (by unfold fu; omega) hI_s2 hF_s2 (by omega) (by omega) (by omega) (by omega) (by omega) (by omega) (by omega) (by decide) (by decide) (by decide) (by omega)
theorem okL_kX8_waveToAsk_8 (s0 : KS)  : ∀ (n : Nat) (s : KS) (x1 : Int32) (x2 : Int32) (x3 : Int32) (x4 : Int32), (5 - x4.toInt).toNat < n → InvK s → FrK [146] s0 s → 0 ≤ x1.toInt → x1.toInt ≤ 3 → -2 ≤ x2.toInt → x2.toInt ≤ 4 → 0 ≤ x3.toInt → 0 ≤ x4.toInt → x4.toInt ≤ 5 → Ok (kX8_waveToAsk_8L  n s x1 x2 x3 x4) (Q_kX8_waveToAsk s0) := by
  intro n
  induction n with
  | zero => intro s x1 x2 x3 x4 hn; omega
  | succ n ih =>
    intro s x1 x2 x3 x4 hn hI_s hF_s h_x1l h_x1u h_x2l h_x2u h_x3l h_x4l h_x4u 
    exact ok_kX8_waveToAsk_8 s0 (kX8_waveToAsk_8L  n) ((5 - x4.toInt).toNat) (fun zs zx1 zx2 zx3 zx4 g0 g1 g2 g3 g4 g5 g6 g7 g8  hm => ih zs zx1 zx2 zx3 zx4 (by omega) g0 g1 g2 g3 g4 g5 g6 g7 g8 ) s x1 x2 x3 x4 hI_s hF_s h_x1l h_x1u h_x2l h_x2u h_x3l h_x4l h_x4u (Nat.le_refl _)
set_option maxHeartbeats 1000000 in
theorem ok_kX8_waveToAskB (s0 : KS)  (s : KS) (x1 : Int32) (hI_s : InvK s) (hF_s : FrK [146] s0 s) (h_x1l : 0 ≤ x1.toInt) (h_x1u : x1.toInt ≤ 3)  : Ok (kX8_waveToAsk  s x1) (Q_kX8_waveToAsk s0) := by
  unfold kX8_waveToAsk
  have l_m2 : ((-2) : Int32).toInt = -2 := by decide
  have l_0 : (0 : Int32).toInt = 0 := by decide
  exact okL_kX8_waveToAsk_8 s0  fu _ _ _ _ _ (by unfold fu; omega) hI_s hF_s (by omega) (by omega) (by decide) (by decide) (by decide) (by decide) (by decide) 
theorem ok_kX8_waveToAsk (s : KS) (x1 : Int32) (hI_s : InvK s) (h_x1l : 0 ≤ x1.toInt) (h_x1u : x1.toInt ≤ 3) : Ok (kX8_waveToAsk s x1) (Q_kX8_waveToAsk s) := ok_kX8_waveToAskB s s x1 hI_s FrK.rfl h_x1l h_x1u
noncomputable abbrev Q_kX9_splitOne (s0 : KS) (y : Int32 × KS) : Prop := InvK y.2 ∧ FrK [20] s0 y.2 ∧ -2147483648 ≤ y.1.toInt ∧ y.1.toInt ≤ 2147483647
set_option maxHeartbeats 1000000 in
theorem ok_kX9_splitOneB (s0 : KS)  (s : KS) (hI_s : InvK s) (hF_s : FrK [20] s0 s)  : Ok (kX9_splitOne  s) (Q_kX9_splitOne s0) := by
  unfold kX9_splitOne
  refine ok_let (fun s1 hs1 => ?_)
  have hI_s1 : InvK s1 := by rw [← hs1]; exact hI_s.su
  have hF_s1 : FrK [20] s0 s1 := by rw [← hs1]; exact hF_s.su
  have a_1 : 0 ≤ (s.v 20).toInt ∧ (s.v 20).toInt ≤ 2000 := hI_s.1 20
  have a_2 : (s1.v 20).toInt = (s.v 20).toInt := congrArg Int32.toInt (show s1.v 20 = s.v 20 by rw [← hs1]; rfl)
  refine ok_bindI (ok_kX7_byteAt _ _ hI_s1 (by omega) (by omega)) (fun r4 s3 hc_3 => ?_)
  have hI_s3 : InvK s3 := hc_3.1
  have hFc_s3 : FrK [] s1 s3 := hc_3.2.1
  have hF_s3 : FrK [20] s0 s3 := hF_s1.trans hFc_s3 (by decide)
  have a_4 : 0 ≤ (s.v 0).toInt ∧ (s.v 0).toInt ≤ 2000 := hI_s.1 0
  have a_5 : (s1.v 0).toInt = (s.v 0).toInt := congrArg Int32.toInt (show s1.v 0 = s.v 0 by rw [← hs1]; rfl)
  have hx0_r4 : (¬ r4.toInt = -1 → ((s1.v 20)).toInt < (s1.v 0).toInt) := hc_3.2.2.2.2
  refine ok_ite (fun c_6 => ?_) (fun c_6 => ?_)
  · have c_6 := tn_eq (a := (r4).toInt) (b := (-1)) rfl (by decide) c_6
    exact ok_some ⟨hI_s3, hF_s3, (ti_rng _).1, (ti_rng _).2⟩
  · have c_6 := tn_ne (a := (r4).toInt) (b := (-1)) rfl (by decide) c_6
    refine ok_bindP (ok_kX9_isLetter _ ) (fun r6 hc_7 => ?_)
    have hl_r6 : 0 ≤ r6.toInt := hc_7.1
    have hu_r6 : r6.toInt ≤ 1 := hc_7.2
    refine ok_ite (fun c_8 => ?_) (fun c_8 => ?_)
    · have c_8 := tn_eq (a := (r6).toInt) (b := 0) rfl (by decide) c_8
      refine ok_bindP (ok_kX9_isDigit _ ) (fun r8 hc_9 => ?_)
      have hl_r8 : 0 ≤ r8.toInt := hc_9.1
      have hu_r8 : r8.toInt ≤ 1 := hc_9.2
      refine ok_ite (fun c_10 => ?_) (fun c_10 => ?_)
      · have c_10 := tn_eq (a := (r8).toInt) (b := 0) rfl (by decide) c_10
        refine ok_let (fun s10 hs10 => ?_)
        have a_11 : (s3.v 20).toInt = (s1.v 20).toInt := congrArg Int32.toInt (hFc_s3.1 20 (by decide))
        have a_12 : (((s3.v 20) + 1)).toInt = ((s3.v 20)).toInt + 1 := tn_add rfl (by decide) (by omega) (by omega)
        have hI_s10 : InvK s10 := by rw [← hs10]; exact hI_s3.sv (k := 20) (show (0 : Int) ≤ (((s3.v 20) + 1)).toInt by omega) (show (((s3.v 20) + 1)).toInt ≤ (2000 : Int) by omega)
        have hF_s10 : FrK [20] s0 s10 := by rw [← hs10]; exact hF_s3.sv (k := 20) (by decide)
        refine ok_bindP (ok_kJ0_indexOf_0f7a4 _ ) (fun r12 hc_13 => ?_)
        have hl_r12 : -1 ≤ r12.toInt := hc_13.1
        have hu_r12 : r12.toInt ≤ 8 := hc_13.2
        refine ok_ite (fun c_14 => ?_) (fun c_14 => ?_)
        · have c_14 := tn_lt (a := (r12).toInt) (b := 0) rfl (by decide) c_14
          exact ok_some ⟨hI_s10, hF_s10, (ti_rng _).1, (ti_rng _).2⟩
        · have c_14 := tn_nlt (a := (r12).toInt) (b := 0) rfl (by decide) c_14
          exact ok_some ⟨hI_s10, hF_s10, (ti_rng _).1, (ti_rng _).2⟩
      · have c_10 := tn_ne (a := (r8).toInt) (b := 0) rfl (by decide) c_10
        refine ok_bindI (ok_kX9_splitDigits _  hI_s3) (fun r15 s14 hc_15 => ?_)
        have hI_s14 : InvK s14 := hc_15.1
        have hFc_s14 : FrK [20] s3 s14 := hc_15.2.1
        have hF_s14 : FrK [20] s0 s14 := hF_s3.trans hFc_s14 (by decide)
        have hl_r15 : 301 ≤ r15.toInt := hc_15.2.2.1
        have hu_r15 : r15.toInt ≤ 303 := hc_15.2.2.2
        exact ok_some ⟨hI_s14, hF_s14, (ti_rng _).1, (ti_rng _).2⟩
    · have c_8 := tn_ne (a := (r6).toInt) (b := 0) rfl (by decide) c_8
      refine ok_bindI (ok_kX9_splitLetters _  hI_s3) (fun r17 s16 hc_16 => ?_)
      have hI_s16 : InvK s16 := hc_16.1
      have hFc_s16 : FrK [20] s3 s16 := hc_16.2.1
      have hF_s16 : FrK [20] s0 s16 := hF_s3.trans hFc_s16 (by decide)
      have hl_r17 : 256 ≤ r17.toInt := hc_16.2.2.1
      have hu_r17 : r17.toInt ≤ 303 := hc_16.2.2.2
      exact ok_some ⟨hI_s16, hF_s16, (ti_rng _).1, (ti_rng _).2⟩
theorem ok_kX9_splitOne (s : KS) (hI_s : InvK s) : Ok (kX9_splitOne s) (Q_kX9_splitOne s) := ok_kX9_splitOneB s s hI_s FrK.rfl
noncomputable abbrev Q_kX10_odds (s0 : XS) (y : Int32 × XS) : Prop := InvK y.2.k ∧ FrK [] s0.k y.2.k ∧ InvG y.2.g ∧ -2147483648 ≤ y.1.toInt ∧ y.1.toInt ≤ 2147483647
set_option maxHeartbeats 1000000 in
theorem ok_kX10_oddsB (s0 : XS)  (s : XS) (x1 : Int32) (x2 : Int32) (hI_s_k : InvK s.k) (hF_s_k : FrK [] s0.k s.k) (hI_s_g : InvG s.g)  : Ok (kX10_odds  s x1 x2) (Q_kX10_odds s0) := by
  unfold kX10_odds
  refine ok_bindI (ok_kX5_hasWave _ _ hI_s_k) (fun r2 s1 hc_1 => ?_)
  have hI_s1 : InvK s1 := hc_1.1
  have hFc_s1 : FrK [] s.k s1 := hc_1.2.1
  have hF_s1 : FrK [] s0.k s1 := hF_s_k.trans hFc_s1 (by decide)
  have hl_r2 : 0 ≤ r2.toInt := hc_1.2.2.1
  have hu_r2 : r2.toInt ≤ 1 := hc_1.2.2.2.1
  have hx0_r2 : (¬ r2.toInt = 0 → 0 ≤ (x1).toInt ∧ (x1).toInt ≤ 4) := hc_1.2.2.2.2
  refine ok_let (fun s3 hs3 => ?_)
  have hI_s3_g : InvG s3.g := by rw [← hs3]; exact hI_s_g
  have hI_s3_k : InvK s3.k := by rw [← hs3]; exact hI_s1
  have hF_s3_k : FrK [] s0.k s3.k := by rw [← hs3]; exact hF_s1
  refine ok_ite (fun c_2 => ?_) (fun c_2 => ?_)
  · have c_2 := tn_eq (a := (r2).toInt) (b := 0) rfl (by decide) c_2
    exact ok_some ⟨hI_s3_k, hF_s3_k, hI_s3_g, (ti_rng _).1, (ti_rng _).2⟩
  · have c_2 := tn_ne (a := (r2).toInt) (b := 0) rfl (by decide) c_2
    refine ok_bindP (ok_kX10_isThing _ ) (fun r6 hc_3 => ?_)
    have hl_r6 : 0 ≤ r6.toInt := hc_3.1
    have hu_r6 : r6.toInt ≤ 1 := hc_3.2.1
    have hx0_r6 : (¬ r6.toInt = 0 → 0 ≤ (x2).toInt ∧ (x2).toInt ≤ 5) := hc_3.2.2
    refine ok_ite (fun c_4 => ?_) (fun c_4 => ?_)
    · have c_4 := tn_eq (a := (r6).toInt) (b := 0) rfl (by decide) c_4
      exact ok_some ⟨hI_s3_k, hF_s3_k, hI_s3_g, (ti_rng _).1, (ti_rng _).2⟩
    · have c_4 := tn_ne (a := (r6).toInt) (b := 0) rfl (by decide) c_4
      refine ok_bindI (ok_kX5_oddsAt _ _ _ hI_s3_k (by omega) (by omega) (by omega) (by omega)) (fun r9 s8 hc_5 => ?_)
      have hI_s8 : InvK s8 := hc_5.1
      have hFc_s8 : FrK [] s3.k s8 := hc_5.2.1
      have hF_s8 : FrK [] s0.k s8 := hF_s3_k.trans hFc_s8 (by decide)
      refine ok_let (fun s10 hs10 => ?_)
      have hI_s10_g : InvG s10.g := by rw [← hs10]; exact hI_s3_g
      have hI_s10_k : InvK s10.k := by rw [← hs10]; exact hI_s8
      have hF_s10_k : FrK [] s0.k s10.k := by rw [← hs10]; exact hF_s8
      exact ok_some ⟨hI_s10_k, hF_s10_k, hI_s10_g, (ti_rng _).1, (ti_rng _).2⟩
theorem ok_kX10_odds (s : XS) (x1 : Int32) (x2 : Int32) (hI_s_k : InvK s.k) (hI_s_g : InvG s.g) : Ok (kX10_odds s x1 x2) (Q_kX10_odds s) := ok_kX10_oddsB s s x1 x2 hI_s_k FrK.rfl hI_s_g
noncomputable abbrev Q_kX10_buoy (s0 : YS) (y : Int32 × YS) : Prop := InvK y.2.x.k ∧ FrK [] s0.x.k y.2.x.k ∧ InvG y.2.x.g ∧ 0 ≤ y.1.toInt ∧ y.1.toInt ≤ 1
set_option maxHeartbeats 1000000 in
theorem ok_kX10_buoyB (s0 : YS)  (s : YS) (x1 : Int32) (x2 : Int32) (x3 : Int32) (hI_s_x_k : InvK s.x.k) (hF_s_x_k : FrK [] s0.x.k s.x.k) (hI_s_x_g : InvG s.x.g)  : Ok (kX10_buoy  s x1 x2 x3) (Q_kX10_buoy s0) := by
  unfold kX10_buoy
  refine ok_bindI (ok_kX5_hasWave _ _ hI_s_x_k) (fun r2 s1 hc_1 => ?_)
  have hI_s1 : InvK s1 := hc_1.1
  have hFc_s1 : FrK [] s.x.k s1 := hc_1.2.1
  have hF_s1 : FrK [] s0.x.k s1 := hF_s_x_k.trans hFc_s1 (by decide)
  have hl_r2 : 0 ≤ r2.toInt := hc_1.2.2.1
  have hu_r2 : r2.toInt ≤ 1 := hc_1.2.2.2.1
  have hx0_r2 : (¬ r2.toInt = 0 → 0 ≤ (x1).toInt ∧ (x1).toInt ≤ 4) := hc_1.2.2.2.2
  refine ok_let (fun s3 hs3 => ?_)
  have hI_s3_x_k : InvK s3.x.k := by rw [← hs3]; exact hI_s1
  have hF_s3_x_k : FrK [] s0.x.k s3.x.k := by rw [← hs3]; exact hF_s1
  have hI_s3_x_g : InvG s3.x.g := by rw [← hs3]; exact hI_s_x_g
  refine ok_ite (fun c_2 => ?_) (fun c_2 => ?_)
  · have c_2 := tn_eq (a := (r2).toInt) (b := 0) rfl (by decide) c_2
    exact ok_some ⟨hI_s3_x_k, hF_s3_x_k, hI_s3_x_g, by show 0 ≤ (0 : Int32).toInt; decide, by show (0 : Int32).toInt ≤ 1; decide⟩
  · have c_2 := tn_ne (a := (r2).toInt) (b := 0) rfl (by decide) c_2
    refine ok_bindP (ok_kX10_isThing _ ) (fun r6 hc_3 => ?_)
    have hl_r6 : 0 ≤ r6.toInt := hc_3.1
    have hu_r6 : r6.toInt ≤ 1 := hc_3.2.1
    have hx0_r6 : (¬ r6.toInt = 0 → 0 ≤ (x2).toInt ∧ (x2).toInt ≤ 5) := hc_3.2.2
    refine ok_ite (fun c_4 => ?_) (fun c_4 => ?_)
    · have c_4 := tn_eq (a := (r6).toInt) (b := 0) rfl (by decide) c_4
      exact ok_some ⟨hI_s3_x_k, hF_s3_x_k, hI_s3_x_g, by show 0 ≤ (0 : Int32).toInt; decide, by show (0 : Int32).toInt ≤ 1; decide⟩
    · have c_4 := tn_ne (a := (r6).toInt) (b := 0) rfl (by decide) c_4
      refine ok_grd (vpb_ok (by omega) (by omega)) ?_
      refine ok_bindP (ok_kX10_has _ _ ) (fun r9 hc_5 => ?_)
      have hl_r9 : 0 ≤ r9.toInt := hc_5.1
      have hu_r9 : r9.toInt ≤ 1 := hc_5.2
      refine ok_ite (fun c_6 => ?_) (fun c_6 => ?_)
      · have c_6 := tn_eq (a := (r9).toInt) (b := (x3).toInt) rfl rfl c_6
        exact ok_some ⟨hI_s3_x_k, hF_s3_x_k, hI_s3_x_g, by show 0 ≤ (0 : Int32).toInt; decide, by show (0 : Int32).toInt ≤ 1; decide⟩
      · have c_6 := tn_ne (a := (r9).toInt) (b := (x3).toInt) rfl rfl c_6
        refine ok_bindP (ok_kX3_remember _  hI_s3_x_g) (fun s11 hc_7 => ?_)
        have hI_s11_g : InvG s11.g := hc_7
        refine ok_let (fun s12 hs12 => ?_)
        have hI_s12_x_k : InvK s12.x.k := by rw [← hs12]; exact hI_s3_x_k
        have hF_s12_x_k : FrK [] s0.x.k s12.x.k := by rw [← hs12]; exact hF_s3_x_k
        have hI_s12_x_g : InvG s12.x.g := by rw [← hs12]; exact hI_s11_g
        refine ok_grd (vpb_ok (by omega) (by omega)) ?_
        refine ok_grd (vpb_ok (by omega) (by omega)) ?_
        refine ok_let (fun s16 hs16 => ?_)
        have hI_s16_x_k : InvK s16.x.k := by rw [← hs16]; exact hI_s12_x_k
        have hF_s16_x_k : FrK [] s0.x.k s16.x.k := by rw [← hs16]; exact hF_s12_x_k
        have hI_s16_x_g : InvG s16.x.g := by rw [← hs16]; exact hI_s12_x_g
        exact ok_some ⟨hI_s16_x_k, hF_s16_x_k, hI_s16_x_g, by show 0 ≤ (1 : Int32).toInt; decide, by show (1 : Int32).toInt ≤ 1; decide⟩
theorem ok_kX10_buoy (s : YS) (x1 : Int32) (x2 : Int32) (x3 : Int32) (hI_s_x_k : InvK s.x.k) (hI_s_x_g : InvG s.x.g) : Ok (kX10_buoy s x1 x2 x3) (Q_kX10_buoy s) := ok_kX10_buoyB s s x1 x2 x3 hI_s_x_k FrK.rfl hI_s_x_g
noncomputable abbrev Q_kX10_fetch (s0 : YS) (y : Int32 × YS) : Prop := InvK y.2.x.k ∧ FrK [] s0.x.k y.2.x.k ∧ InvG y.2.x.g ∧ 0 ≤ y.1.toInt ∧ y.1.toInt ≤ 1
set_option maxHeartbeats 1000000 in
theorem ok_kX10_fetchB (s0 : YS)  (s : YS) (x1 : Int32) (hI_s_x_k : InvK s.x.k) (hF_s_x_k : FrK [] s0.x.k s.x.k) (hI_s_x_g : InvG s.x.g)  : Ok (kX10_fetch  s x1) (Q_kX10_fetch s0) := by
  unfold kX10_fetch
  refine ok_bindI (ok_kX5_hasParty _ _ hI_s_x_k) (fun r2 s1 hc_1 => ?_)
  have hI_s1 : InvK s1 := hc_1.1
  have hFc_s1 : FrK [] s.x.k s1 := hc_1.2.1
  have hF_s1 : FrK [] s0.x.k s1 := hF_s_x_k.trans hFc_s1 (by decide)
  have hl_r2 : 0 ≤ r2.toInt := hc_1.2.2.1
  have hu_r2 : r2.toInt ≤ 1 := hc_1.2.2.2.1
  have hx0_r2 : (¬ r2.toInt = 0 → 0 ≤ (x1).toInt ∧ (x1).toInt ≤ 5) := hc_1.2.2.2.2
  refine ok_let (fun s3 hs3 => ?_)
  have hI_s3_x_k : InvK s3.x.k := by rw [← hs3]; exact hI_s1
  have hF_s3_x_k : FrK [] s0.x.k s3.x.k := by rw [← hs3]; exact hF_s1
  have hI_s3_x_g : InvG s3.x.g := by rw [← hs3]; exact hI_s_x_g
  refine ok_ite (fun c_2 => ?_) (fun c_2 => ?_)
  · have c_2 := tn_eq (a := (r2).toInt) (b := 0) rfl (by decide) c_2
    exact ok_some ⟨hI_s3_x_k, hF_s3_x_k, hI_s3_x_g, by show 0 ≤ (0 : Int32).toInt; decide, by show (0 : Int32).toInt ≤ 1; decide⟩
  · have c_2 := tn_ne (a := (r2).toInt) (b := 0) rfl (by decide) c_2
    refine ok_grd (vpb_ok (by omega) (by omega)) ?_
    refine ok_ite (fun c_3 => ?_) (fun c_3 => ?_)
    · have c_3 := tn_eq (a := (((s3.x.n.f 3) (Int32.toNatClampNeg x1))).toInt) (b := 0) rfl (by decide) c_3
      exact ok_some ⟨hI_s3_x_k, hF_s3_x_k, hI_s3_x_g, by show 0 ≤ (0 : Int32).toInt; decide, by show (0 : Int32).toInt ≤ 1; decide⟩
    · have c_3 := tn_ne (a := (((s3.x.n.f 3) (Int32.toNatClampNeg x1))).toInt) (b := 0) rfl (by decide) c_3
      refine ok_bindP (ok_kX3_remember _  hI_s3_x_g) (fun s8 hc_4 => ?_)
      have hI_s8_g : InvG s8.g := hc_4
      refine ok_let (fun s9 hs9 => ?_)
      have hI_s9_x_k : InvK s9.x.k := by rw [← hs9]; exact hI_s3_x_k
      have hF_s9_x_k : FrK [] s0.x.k s9.x.k := by rw [← hs9]; exact hF_s3_x_k
      have hI_s9_x_g : InvG s9.x.g := by rw [← hs9]; exact hI_s8_g
      refine ok_grd (vpb_ok (by omega) (by omega)) ?_
      refine ok_let (fun s12 hs12 => ?_)
      have hI_s12_x_k : InvK s12.x.k := by rw [← hs12]; exact hI_s9_x_k
      have hF_s12_x_k : FrK [] s0.x.k s12.x.k := by rw [← hs12]; exact hF_s9_x_k
      have hI_s12_x_g : InvG s12.x.g := by rw [← hs12]; exact hI_s9_x_g
      exact ok_some ⟨hI_s12_x_k, hF_s12_x_k, hI_s12_x_g, by show 0 ≤ (1 : Int32).toInt; decide, by show (1 : Int32).toInt ≤ 1; decide⟩
theorem ok_kX10_fetch (s : YS) (x1 : Int32) (hI_s_x_k : InvK s.x.k) (hI_s_x_g : InvG s.x.g) : Ok (kX10_fetch s x1) (Q_kX10_fetch s) := ok_kX10_fetchB s s x1 hI_s_x_k FrK.rfl hI_s_x_g
noncomputable abbrev Q_kX10_undo (s0 : YS) (y : Int32 × YS) : Prop := InvK y.2.x.k ∧ FrK [] s0.x.k y.2.x.k ∧ InvG y.2.x.g ∧ 0 ≤ y.1.toInt ∧ y.1.toInt ≤ 1
set_option maxHeartbeats 1000000 in
theorem ok_kX10_undoB (s0 : YS)  (s : YS) (hI_s_x_k : InvK s.x.k) (hF_s_x_k : FrK [] s0.x.k s.x.k) (hI_s_x_g : InvG s.x.g)  : Ok (kX10_undo  s) (Q_kX10_undo s0) := by
  unfold kX10_undo
  refine ok_bindI (ok_kX3_takeBack _  hI_s_x_g) (fun r2 s1 hc_1 => ?_)
  have hI_s1_g : InvG s1.g := hc_1.1
  have hl_r2 : 0 ≤ r2.toInt := hc_1.2.1
  have hu_r2 : r2.toInt ≤ 1 := hc_1.2.2
  refine ok_let (fun s3 hs3 => ?_)
  have hI_s3_x_k : InvK s3.x.k := by rw [← hs3]; exact hI_s_x_k
  have hF_s3_x_k : FrK [] s0.x.k s3.x.k := by rw [← hs3]; exact hF_s_x_k
  have hI_s3_x_g : InvG s3.x.g := by rw [← hs3]; exact hI_s1_g
  refine ok_grd (ti_z01 (by omega) (by omega)) ?_
  exact ok_some ⟨hI_s3_x_k, hF_s3_x_k, hI_s3_x_g, by show 0 ≤ (r2).toInt; omega, by show (r2).toInt ≤ 1; omega⟩
theorem ok_kX10_undo (s : YS) (hI_s_x_k : InvK s.x.k) (hI_s_x_g : InvG s.x.g) : Ok (kX10_undo s) (Q_kX10_undo s) := ok_kX10_undoB s s hI_s_x_k FrK.rfl hI_s_x_g
noncomputable abbrev Q_kX10_cases (s0 : XS) (y : Int32 × XS) : Prop := InvK y.2.k ∧ FrK [] s0.k y.2.k ∧ InvG y.2.g ∧ -2147483648 ≤ y.1.toInt ∧ y.1.toInt ≤ 2147483647
set_option maxHeartbeats 1000000 in
theorem ok_kX10_casesB (s0 : XS)  (s : XS) (hI_s_k : InvK s.k) (hF_s_k : FrK [] s0.k s.k) (hI_s_g : InvG s.g)  : Ok (kX10_cases  s) (Q_kX10_cases s0) := by
  unfold kX10_cases
  refine ok_bindI (ok_kX2_caseCount _  hI_s_k) (fun r2 s1 hc_1 => ?_)
  have hI_s1_k : InvK s1.k := hc_1.1
  have hFc_s1_k : FrK [] s.k s1.k := hc_1.2.1
  have hF_s1_k : FrK [] s0.k s1.k := hF_s_k.trans hFc_s1_k (by decide)
  refine ok_let (fun s3 hs3 => ?_)
  have hI_s3_g : InvG s3.g := by rw [← hs3]; exact hI_s_g
  have hI_s3_k : InvK s3.k := by rw [← hs3]; exact hI_s1_k
  have hF_s3_k : FrK [] s0.k s3.k := by rw [← hs3]; exact hF_s1_k
  exact ok_some ⟨hI_s3_k, hF_s3_k, hI_s3_g, (ti_rng _).1, (ti_rng _).2⟩
theorem ok_kX10_cases (s : XS) (hI_s_k : InvK s.k) (hI_s_g : InvG s.g) : Ok (kX10_cases s) (Q_kX10_cases s) := ok_kX10_casesB s s hI_s_k FrK.rfl hI_s_g
noncomputable abbrev Q_kX10_chance (s0 : XS) (y : Int32 × XS) : Prop := InvK y.2.k ∧ FrK [] s0.k y.2.k ∧ InvG y.2.g ∧ -2147483648 ≤ y.1.toInt ∧ y.1.toInt ≤ 2147483647
set_option maxHeartbeats 1000000 in
theorem ok_kX10_chanceB (s0 : XS)  (s : XS) (x1 : Int32) (hI_s_k : InvK s.k) (hF_s_k : FrK [] s0.k s.k) (hI_s_g : InvG s.g)  : Ok (kX10_chance  s x1) (Q_kX10_chance s0) := by
  unfold kX10_chance
  refine ok_bindI (ok_kX5_hasGuess _ _ hI_s_k) (fun r2 s1 hc_1 => ?_)
  have hI_s1 : InvK s1 := hc_1.1
  have hFc_s1 : FrK [] s.k s1 := hc_1.2.1
  have hF_s1 : FrK [] s0.k s1 := hF_s_k.trans hFc_s1 (by decide)
  have hl_r2 : 0 ≤ r2.toInt := hc_1.2.2.1
  have hu_r2 : r2.toInt ≤ 1 := hc_1.2.2.2.1
  have hx0_r2 : (¬ r2.toInt = 0 → 0 ≤ (x1).toInt) := hc_1.2.2.2.2
  refine ok_let (fun s3 hs3 => ?_)
  have hI_s3_g : InvG s3.g := by rw [← hs3]; exact hI_s_g
  have hI_s3_k : InvK s3.k := by rw [← hs3]; exact hI_s1
  have hF_s3_k : FrK [] s0.k s3.k := by rw [← hs3]; exact hF_s1
  refine ok_ite (fun c_2 => ?_) (fun c_2 => ?_)
  · have c_2 := tn_eq (a := (r2).toInt) (b := 0) rfl (by decide) c_2
    exact ok_some ⟨hI_s3_k, hF_s3_k, hI_s3_g, (ti_rng _).1, (ti_rng _).2⟩
  · have c_2 := tn_ne (a := (r2).toInt) (b := 0) rfl (by decide) c_2
    refine ok_bindI (ok_kX2_oddsOf _ _ hI_s3_k (by omega)) (fun r7 s6 hc_3 => ?_)
    have hI_s6_k : InvK s6.k := hc_3.1
    have hFc_s6_k : FrK [] s3.k s6.k := hc_3.2.1
    have hF_s6_k : FrK [] s0.k s6.k := hF_s3_k.trans hFc_s6_k (by decide)
    refine ok_let (fun s8 hs8 => ?_)
    have hI_s8_g : InvG s8.g := by rw [← hs8]; exact hI_s3_g
    have hI_s8_k : InvK s8.k := by rw [← hs8]; exact hI_s6_k
    have hF_s8_k : FrK [] s0.k s8.k := by rw [← hs8]; exact hF_s6_k
    exact ok_some ⟨hI_s8_k, hF_s8_k, hI_s8_g, (ti_rng _).1, (ti_rng _).2⟩
theorem ok_kX10_chance (s : XS) (x1 : Int32) (hI_s_k : InvK s.k) (hI_s_g : InvG s.g) : Ok (kX10_chance s x1) (Q_kX10_chance s) := ok_kX10_chanceB s s x1 hI_s_k FrK.rfl hI_s_g
noncomputable abbrev Q_kX10_enough (s0 : XS) (y : Int32 × XS) : Prop := InvK y.2.k ∧ FrK [] s0.k y.2.k ∧ InvG y.2.g ∧ -2147483648 ≤ y.1.toInt ∧ y.1.toInt ≤ 2147483647
set_option maxHeartbeats 1000000 in
theorem ok_kX10_enoughB (s0 : XS)  (s : XS) (hI_s_k : InvK s.k) (hF_s_k : FrK [] s0.k s.k) (hI_s_g : InvG s.g)  : Ok (kX10_enough  s) (Q_kX10_enough s0) := by
  unfold kX10_enough
  refine ok_bindI (ok_kX2_caseCount _  hI_s_k) (fun r2 s1 hc_1 => ?_)
  have hI_s1_k : InvK s1.k := hc_1.1
  have hFc_s1_k : FrK [] s.k s1.k := hc_1.2.1
  have hF_s1_k : FrK [] s0.k s1.k := hF_s_k.trans hFc_s1_k (by decide)
  refine ok_let (fun s3 hs3 => ?_)
  have hI_s3_g : InvG s3.g := by rw [← hs3]; exact hI_s_g
  have hI_s3_k : InvK s3.k := by rw [← hs3]; exact hI_s1_k
  have hF_s3_k : FrK [] s0.k s3.k := by rw [← hs3]; exact hF_s1_k
  refine ok_ite (fun c_2 => ?_) (fun c_2 => ?_)
  · have c_2 := tn_eq (a := (r2).toInt) (b := 0) rfl (by decide) c_2
    exact ok_some ⟨hI_s3_k, hF_s3_k, hI_s3_g, (ti_rng _).1, (ti_rng _).2⟩
  · have c_2 := tn_ne (a := (r2).toInt) (b := 0) rfl (by decide) c_2
    refine ok_bindI (ok_kX2_goesAtMost _  hI_s3_k) (fun r7 s6 hc_3 => ?_)
    have hI_s6_k : InvK s6.k := hc_3.1
    have hFc_s6_k : FrK [] s3.k s6.k := hc_3.2.1
    have hF_s6_k : FrK [] s0.k s6.k := hF_s3_k.trans hFc_s6_k (by decide)
    refine ok_let (fun s8 hs8 => ?_)
    have hI_s8_g : InvG s8.g := by rw [← hs8]; exact hI_s3_g
    have hI_s8_k : InvK s8.k := by rw [← hs8]; exact hI_s6_k
    have hF_s8_k : FrK [] s0.k s8.k := by rw [← hs8]; exact hF_s6_k
    exact ok_some ⟨hI_s8_k, hF_s8_k, hI_s8_g, (ti_rng _).1, (ti_rng _).2⟩
theorem ok_kX10_enough (s : XS) (hI_s_k : InvK s.k) (hI_s_g : InvG s.g) : Ok (kX10_enough s) (Q_kX10_enough s) := ok_kX10_enoughB s s hI_s_k FrK.rfl hI_s_g
noncomputable abbrev Q_kX10_left (s0 : XS) (y : Int32 × XS) : Prop := InvK y.2.k ∧ FrK [] s0.k y.2.k ∧ InvG y.2.g ∧ -2147483648 ≤ y.1.toInt ∧ y.1.toInt ≤ 2147483647
set_option maxHeartbeats 1000000 in
theorem ok_kX10_leftB (s0 : XS)  (s : XS) (x1 : Int32) (hI_s_k : InvK s.k) (hF_s_k : FrK [] s0.k s.k) (hI_s_g : InvG s.g)  : Ok (kX10_left  s x1) (Q_kX10_left s0) := by
  unfold kX10_left
  refine ok_bindI (ok_kX5_hasGuess _ _ hI_s_k) (fun r2 s1 hc_1 => ?_)
  have hI_s1 : InvK s1 := hc_1.1
  have hFc_s1 : FrK [] s.k s1 := hc_1.2.1
  have hF_s1 : FrK [] s0.k s1 := hF_s_k.trans hFc_s1 (by decide)
  have hl_r2 : 0 ≤ r2.toInt := hc_1.2.2.1
  have hu_r2 : r2.toInt ≤ 1 := hc_1.2.2.2.1
  have hx0_r2 : (¬ r2.toInt = 0 → 0 ≤ (x1).toInt) := hc_1.2.2.2.2
  refine ok_let (fun s3 hs3 => ?_)
  have hI_s3_g : InvG s3.g := by rw [← hs3]; exact hI_s_g
  have hI_s3_k : InvK s3.k := by rw [← hs3]; exact hI_s1
  have hF_s3_k : FrK [] s0.k s3.k := by rw [← hs3]; exact hF_s1
  refine ok_ite (fun c_2 => ?_) (fun c_2 => ?_)
  · have c_2 := tn_eq (a := (r2).toInt) (b := 0) rfl (by decide) c_2
    exact ok_some ⟨hI_s3_k, hF_s3_k, hI_s3_g, (ti_rng _).1, (ti_rng _).2⟩
  · have c_2 := tn_ne (a := (r2).toInt) (b := 0) rfl (by decide) c_2
    refine ok_bindI (ok_kX2_caseCount _  hI_s3_k) (fun r7 s6 hc_3 => ?_)
    have hI_s6_k : InvK s6.k := hc_3.1
    have hFc_s6_k : FrK [] s3.k s6.k := hc_3.2.1
    have hF_s6_k : FrK [] s0.k s6.k := hF_s3_k.trans hFc_s6_k (by decide)
    refine ok_let (fun s8 hs8 => ?_)
    have hI_s8_g : InvG s8.g := by rw [← hs8]; exact hI_s3_g
    have hI_s8_k : InvK s8.k := by rw [← hs8]; exact hI_s6_k
    have hF_s8_k : FrK [] s0.k s8.k := by rw [← hs8]; exact hF_s6_k
    refine ok_ite (fun c_4 => ?_) (fun c_4 => ?_)
    · have c_4 := tn_eq (a := (r7).toInt) (b := 0) rfl (by decide) c_4
      exact ok_some ⟨hI_s8_k, hF_s8_k, hI_s8_g, (ti_rng _).1, (ti_rng _).2⟩
    · have c_4 := tn_ne (a := (r7).toInt) (b := 0) rfl (by decide) c_4
      refine ok_bindI (ok_kX2_leftBehind _ _ hI_s8_k) (fun r12 s11 hc_5 => ?_)
      have hI_s11_k : InvK s11.k := hc_5.1
      have hFc_s11_k : FrK [] s8.k s11.k := hc_5.2.1
      have hF_s11_k : FrK [] s0.k s11.k := hF_s8_k.trans hFc_s11_k (by decide)
      refine ok_let (fun s13 hs13 => ?_)
      have hI_s13_g : InvG s13.g := by rw [← hs13]; exact hI_s8_g
      have hI_s13_k : InvK s13.k := by rw [← hs13]; exact hI_s11_k
      have hF_s13_k : FrK [] s0.k s13.k := by rw [← hs13]; exact hF_s11_k
      exact ok_some ⟨hI_s13_k, hF_s13_k, hI_s13_g, (ti_rng _).1, (ti_rng _).2⟩
theorem ok_kX10_left (s : XS) (x1 : Int32) (hI_s_k : InvK s.k) (hI_s_g : InvG s.g) : Ok (kX10_left s x1) (Q_kX10_left s) := ok_kX10_leftB s s x1 hI_s_k FrK.rfl hI_s_g
noncomputable abbrev Q_kX10_wisest (s0 : XS) (y : Int32 × XS) : Prop := InvK y.2.k ∧ FrK [] s0.k y.2.k ∧ InvG y.2.g ∧ -2147483648 ≤ y.1.toInt ∧ y.1.toInt ≤ 2147483647
set_option maxHeartbeats 1000000 in
theorem ok_kX10_wisest_11 (s0 : XS)  (s : XS) (x1 : Int32) (hI_s_k : InvK s.k) (hF_s_k : FrK [] s0.k s.k) (hI_s_g : InvG s.g) (h_x1l : 0 ≤ x1.toInt) (h_x1u : x1.toInt ≤ 1)  : Ok (kX10_wisest_11  s x1) (Q_kX10_wisest s0) := by
  unfold kX10_wisest_11
  refine ok_bindI (ok_kX2_caseCount _  hI_s_k) (fun r2 s1 hc_1 => ?_)
  have hI_s1_k : InvK s1.k := hc_1.1
  have hFc_s1_k : FrK [] s.k s1.k := hc_1.2.1
  have hF_s1_k : FrK [] s0.k s1.k := hF_s_k.trans hFc_s1_k (by decide)
  refine ok_let (fun s3 hs3 => ?_)
  have hI_s3_g : InvG s3.g := by rw [← hs3]; exact hI_s_g
  have hI_s3_k : InvK s3.k := by rw [← hs3]; exact hI_s1_k
  have hF_s3_k : FrK [] s0.k s3.k := by rw [← hs3]; exact hF_s1_k
  refine ok_ite (fun c_2 => ?_) (fun c_2 => ?_)
  · have c_2 := tn_eq (a := (r2).toInt) (b := 0) rfl (by decide) c_2
    exact ok_some ⟨hI_s3_k, hF_s3_k, hI_s3_g, (ti_rng _).1, (ti_rng _).2⟩
  · have c_2 := tn_ne (a := (r2).toInt) (b := 0) rfl (by decide) c_2
    refine ok_bindI (ok_kX2_wisestGuess _  hI_s3_k) (fun r7 s6 hc_3 => ?_)
    have hI_s6_k : InvK s6.k := hc_3.1
    have hFc_s6_k : FrK [] s3.k s6.k := hc_3.2.1
    have hF_s6_k : FrK [] s0.k s6.k := hF_s3_k.trans hFc_s6_k (by decide)
    refine ok_let (fun s8 hs8 => ?_)
    have hI_s8_g : InvG s8.g := by rw [← hs8]; exact hI_s3_g
    have hI_s8_k : InvK s8.k := by rw [← hs8]; exact hI_s6_k
    have hF_s8_k : FrK [] s0.k s8.k := by rw [← hs8]; exact hF_s6_k
    refine ok_ite (fun c_4 => ?_) (fun c_4 => ?_)
    · have c_4 := tn_eq (a := (x1).toInt) (b := 0) rfl (by decide) c_4
      exact ok_some ⟨hI_s8_k, hF_s8_k, hI_s8_g, (ti_rng _).1, (ti_rng _).2⟩
    · have c_4 := tn_ne (a := (x1).toInt) (b := 0) rfl (by decide) c_4
      refine ok_bindI (ok_kX2_leftBehind _ _ hI_s8_k) (fun r12 s11 hc_5 => ?_)
      have hI_s11_k : InvK s11.k := hc_5.1
      have hFc_s11_k : FrK [] s8.k s11.k := hc_5.2.1
      have hF_s11_k : FrK [] s0.k s11.k := hF_s8_k.trans hFc_s11_k (by decide)
      refine ok_let (fun s13 hs13 => ?_)
      have hI_s13_g : InvG s13.g := by rw [← hs13]; exact hI_s8_g
      have hI_s13_k : InvK s13.k := by rw [← hs13]; exact hI_s11_k
      have hF_s13_k : FrK [] s0.k s13.k := by rw [← hs13]; exact hF_s11_k
      exact ok_some ⟨hI_s13_k, hF_s13_k, hI_s13_g, (ti_rng _).1, (ti_rng _).2⟩
set_option maxHeartbeats 1000000 in
theorem ok_kX10_wisestB (s0 : XS)  (s : XS) (x1 : Int32) (hI_s_k : InvK s.k) (hF_s_k : FrK [] s0.k s.k) (hI_s_g : InvG s.g)  : Ok (kX10_wisest  s x1) (Q_kX10_wisest s0) := by
  unfold kX10_wisest
  refine ok_ite (fun c_1 => ?_) (fun c_1 => ?_)
  · have c_1 := tn_eq (a := (x1).toInt) (b := 0) rfl (by decide) c_1
    exact ok_kX10_wisest_11 s0  _ _ hI_s_k hF_s_k hI_s_g (by omega) (by omega) 
  · have c_1 := tn_ne (a := (x1).toInt) (b := 0) rfl (by decide) c_1
    refine ok_ite (fun c_2 => ?_) (fun c_2 => ?_)
    · have c_2 := tn_eq (a := (x1).toInt) (b := 1) rfl (by decide) c_2
      exact ok_kX10_wisest_11 s0  _ _ hI_s_k hF_s_k hI_s_g (by omega) (by omega) 
    · have c_2 := tn_ne (a := (x1).toInt) (b := 1) rfl (by decide) c_2
      exact ok_some ⟨hI_s_k, hF_s_k, hI_s_g, (ti_rng _).1, (ti_rng _).2⟩
theorem ok_kX10_wisest (s : XS) (x1 : Int32) (hI_s_k : InvK s.k) (hI_s_g : InvG s.g) : Ok (kX10_wisest s x1) (Q_kX10_wisest s) := ok_kX10_wisestB s s x1 hI_s_k FrK.rfl hI_s_g
noncomputable abbrev Q_kX10_rank (s0 : XS) (y : Int32 × XS) : Prop := InvK y.2.k ∧ FrK [137, 138] s0.k y.2.k ∧ InvG y.2.g ∧ -2147483648 ≤ y.1.toInt ∧ y.1.toInt ≤ 2147483647
set_option maxHeartbeats 1000000 in
theorem ok_kX10_rankB (s0 : XS)  (s : XS) (x1 : Int32) (hI_s_k : InvK s.k) (hF_s_k : FrK [137, 138] s0.k s.k) (hI_s_g : InvG s.g)  : Ok (kX10_rank  s x1) (Q_kX10_rank s0) := by
  unfold kX10_rank
  refine ok_bindI (ok_kX5_hasGuess _ _ hI_s_k) (fun r2 s1 hc_1 => ?_)
  have hI_s1 : InvK s1 := hc_1.1
  have hFc_s1 : FrK [] s.k s1 := hc_1.2.1
  have hF_s1 : FrK [137, 138] s0.k s1 := hF_s_k.trans hFc_s1 (by decide)
  have hl_r2 : 0 ≤ r2.toInt := hc_1.2.2.1
  have hu_r2 : r2.toInt ≤ 1 := hc_1.2.2.2.1
  have hx0_r2 : (¬ r2.toInt = 0 → 0 ≤ (x1).toInt) := hc_1.2.2.2.2
  refine ok_let (fun s3 hs3 => ?_)
  have hI_s3_g : InvG s3.g := by rw [← hs3]; exact hI_s_g
  have hI_s3_k : InvK s3.k := by rw [← hs3]; exact hI_s1
  have hF_s3_k : FrK [137, 138] s0.k s3.k := by rw [← hs3]; exact hF_s1
  refine ok_ite (fun c_2 => ?_) (fun c_2 => ?_)
  · have c_2 := tn_eq (a := (r2).toInt) (b := 0) rfl (by decide) c_2
    exact ok_some ⟨hI_s3_k, hF_s3_k, hI_s3_g, (ti_rng _).1, (ti_rng _).2⟩
  · have c_2 := tn_ne (a := (r2).toInt) (b := 0) rfl (by decide) c_2
    refine ok_bindI (ok_kX2_oddsOf _ _ hI_s3_k (by omega)) (fun r7 s6 hc_3 => ?_)
    have hI_s6_k : InvK s6.k := hc_3.1
    have hFc_s6_k : FrK [] s3.k s6.k := hc_3.2.1
    have hF_s6_k : FrK [137, 138] s0.k s6.k := hF_s3_k.trans hFc_s6_k (by decide)
    refine ok_let (fun s8 hs8 => ?_)
    have hI_s8_g : InvG s8.g := by rw [← hs8]; exact hI_s3_g
    have hI_s8_k : InvK s8.k := by rw [← hs8]; exact hI_s6_k
    have hF_s8_k : FrK [137, 138] s0.k s8.k := by rw [← hs8]; exact hF_s6_k
    refine ok_ite (fun c_4 => ?_) (fun c_4 => ?_)
    · have c_4 := tn_eq (a := (r7).toInt) (b := 0) rfl (by decide) c_4
      exact ok_some ⟨hI_s8_k, hF_s8_k, hI_s8_g, (ti_rng _).1, (ti_rng _).2⟩
    · have c_4 := tn_ne (a := (r7).toInt) (b := 0) rfl (by decide) c_4
      refine ok_bindI (ok_kX2_casesAheadOf _ _ _ hI_s8_k (by omega)) (fun r12 s11 hc_5 => ?_)
      have hI_s11_k : InvK s11.k := hc_5.1
      have hFc_s11_k : FrK [137, 138] s8.k s11.k := hc_5.2.1
      have hF_s11_k : FrK [137, 138] s0.k s11.k := hF_s8_k.trans hFc_s11_k (by decide)
      refine ok_let (fun s13 hs13 => ?_)
      have hI_s13_g : InvG s13.g := by rw [← hs13]; exact hI_s8_g
      have hI_s13_k : InvK s13.k := by rw [← hs13]; exact hI_s11_k
      have hF_s13_k : FrK [137, 138] s0.k s13.k := by rw [← hs13]; exact hF_s11_k
      exact ok_some ⟨hI_s13_k, hF_s13_k, hI_s13_g, (ti_rng _).1, (ti_rng _).2⟩
theorem ok_kX10_rank (s : XS) (x1 : Int32) (hI_s_k : InvK s.k) (hI_s_g : InvG s.g) : Ok (kX10_rank s x1) (Q_kX10_rank s) := ok_kX10_rankB s s x1 hI_s_k FrK.rfl hI_s_g
end
section
noncomputable abbrev Q_kX10_ranked (s0 : XS) (y : Int32 × XS) : Prop := InvK y.2.k ∧ FrK [137, 138, 139, 140] s0.k y.2.k ∧ InvG y.2.g ∧ -2147483648 ≤ y.1.toInt ∧ y.1.toInt ≤ 2147483647
set_option maxHeartbeats 1000000 in
theorem ok_kX10_rankedB (s0 : XS)  (s : XS) (x1 : Int32) (hI_s_k : InvK s.k) (hF_s_k : FrK [137, 138, 139, 140] s0.k s.k) (hI_s_g : InvG s.g)  : Ok (kX10_ranked  s x1) (Q_kX10_ranked s0) := by
  unfold kX10_ranked
  refine ok_ite (fun c_1 => ?_) (fun c_1 => ?_)
  · have c_1 := tn_lt (a := (x1).toInt) (b := 0) rfl (by decide) c_1
    exact ok_some ⟨hI_s_k, hF_s_k, hI_s_g, (ti_rng _).1, (ti_rng _).2⟩
  · have c_1 := tn_nlt (a := (x1).toInt) (b := 0) rfl (by decide) c_1
    refine ok_ite (fun c_2 => ?_) (fun c_2 => ?_)
    · have c_2 := tn_lt (a := (x1).toInt) (b := 20) rfl (by decide) c_2
      refine ok_bindI (ok_kX2_caseAtRank _ _ hI_s_k (by omega) (by omega)) (fun r4 s3 hc_3 => ?_)
      have hI_s3_k : InvK s3.k := hc_3.1
      have hFc_s3_k : FrK [137, 138, 139, 140] s.k s3.k := hc_3.2.1
      have hF_s3_k : FrK [137, 138, 139, 140] s0.k s3.k := hF_s_k.trans hFc_s3_k (by decide)
      refine ok_let (fun s5 hs5 => ?_)
      have hI_s5_g : InvG s5.g := by rw [← hs5]; exact hI_s_g
      have hI_s5_k : InvK s5.k := by rw [← hs5]; exact hI_s3_k
      have hF_s5_k : FrK [137, 138, 139, 140] s0.k s5.k := by rw [← hs5]; exact hF_s3_k
      exact ok_some ⟨hI_s5_k, hF_s5_k, hI_s5_g, (ti_rng _).1, (ti_rng _).2⟩
    · have c_2 := tn_nlt (a := (x1).toInt) (b := 20) rfl (by decide) c_2
      exact ok_some ⟨hI_s_k, hF_s_k, hI_s_g, (ti_rng _).1, (ti_rng _).2⟩
theorem ok_kX10_ranked (s : XS) (x1 : Int32) (hI_s_k : InvK s.k) (hI_s_g : InvG s.g) : Ok (kX10_ranked s x1) (Q_kX10_ranked s) := ok_kX10_rankedB s s x1 hI_s_k FrK.rfl hI_s_g
noncomputable abbrev Q_kX10_alike (s0 : XS) (y : Int32 × XS) : Prop := InvK y.2.k ∧ FrK [] s0.k y.2.k ∧ InvG y.2.g ∧ -1 ≤ y.1.toInt ∧ y.1.toInt ≤ 5
set_option maxHeartbeats 1000000 in
theorem ok_kX10_alike_26 (s0 : XS) (k26 : XS → Int32 → Int32 → Int32 → Option (Int32 × XS)) (M26 : Nat) (hk26 : ∀ (s : XS) (x1 : Int32) (x2 : Int32) (x3 : Int32), InvK s.k → FrK [] s0.k s.k → InvG s.g → 0 ≤ x1.toInt → 0 ≤ x2.toInt → 0 ≤ x3.toInt → x3.toInt ≤ 5 → (5 - x3.toInt).toNat < M26 → Ok (k26 s x1 x2 x3) (Q_kX10_alike s0)) (s : XS) (x1 : Int32) (x2 : Int32) (x3 : Int32) (hI_s_k : InvK s.k) (hF_s_k : FrK [] s0.k s.k) (hI_s_g : InvG s.g) (h_x1l : 0 ≤ x1.toInt) (h_x2l : 0 ≤ x2.toInt) (h_x3l : 0 ≤ x3.toInt) (h_x3u : x3.toInt ≤ 5) (hM26 : (5 - x3.toInt).toNat ≤ M26) : Ok (kX10_alike_26 k26 s x1 x2 x3) (Q_kX10_alike s0) := by
  unfold kX10_alike_26
  have a_1 : 0 ≤ (s.k.v 1).toInt ∧ (s.k.v 1).toInt ≤ 5 := hI_s_k.1 1
  refine ok_ite (fun c_2 => ?_) (fun c_2 => ?_)
  · have c_2 := tn_le (a := ((s.k.v 1)).toInt) (b := (x3).toInt) rfl rfl c_2
    exact ok_some ⟨hI_s_k, hF_s_k, hI_s_g, by show -1 ≤ (x3).toInt; omega, by show (x3).toInt ≤ 5; omega⟩
  · have c_2 := tn_nle (a := ((s.k.v 1)).toInt) (b := (x3).toInt) rfl rfl c_2
    refine ok_bindP (ok_kX10_thingIn _ _ (by omega) (by omega)) (fun r2 hc_3 => ?_)
    have hx0_r2 : (0 ≤ (x1).toInt → 0 ≤ r2.toInt ∧ r2.toInt ≤ 5) := hc_3.2.2
    refine ok_bindP (ok_kX10_thingIn _ _ (by omega) (by omega)) (fun r3 hc_4 => ?_)
    have hx0_r3 : (0 ≤ (x2).toInt → 0 ≤ r3.toInt ∧ r3.toInt ≤ 5) := hc_4.2.2
    refine ok_ite (fun c_5 => ?_) (fun c_5 => ?_)
    · have c_5 := tn_eq (a := (r2).toInt) (b := (r3).toInt) rfl rfl c_5
      have a_6 : ((x3 + 1)).toInt = (x3).toInt + 1 := tn_add rfl (by decide) (by omega) (by omega)
      exact hk26 _ _ _ _ hI_s_k hF_s_k hI_s_g (by omega) (by omega) (by omega) (by omega) (by omega)
    · have c_5 := tn_ne (a := (r2).toInt) (b := (r3).toInt) rfl rfl c_5
      exact ok_some ⟨hI_s_k, hF_s_k, hI_s_g, by show -1 ≤ (x3).toInt; omega, by show (x3).toInt ≤ 5; omega⟩
theorem okL_kX10_alike_26 (s0 : XS)  : ∀ (n : Nat) (s : XS) (x1 : Int32) (x2 : Int32) (x3 : Int32), (5 - x3.toInt).toNat < n → InvK s.k → FrK [] s0.k s.k → InvG s.g → 0 ≤ x1.toInt → 0 ≤ x2.toInt → 0 ≤ x3.toInt → x3.toInt ≤ 5 → Ok (kX10_alike_26L  n s x1 x2 x3) (Q_kX10_alike s0) := by
  intro n
  induction n with
  | zero => intro s x1 x2 x3 hn; omega
  | succ n ih =>
    intro s x1 x2 x3 hn hI_s_k hF_s_k hI_s_g h_x1l h_x2l h_x3l h_x3u 
    exact ok_kX10_alike_26 s0 (kX10_alike_26L  n) ((5 - x3.toInt).toNat) (fun zs zx1 zx2 zx3 g0 g1 g2 g3 g4 g5 g6  hm => ih zs zx1 zx2 zx3 (by omega) g0 g1 g2 g3 g4 g5 g6 ) s x1 x2 x3 hI_s_k hF_s_k hI_s_g h_x1l h_x2l h_x3l h_x3u (Nat.le_refl _)
set_option maxHeartbeats 1000000 in
theorem ok_kX10_alikeB (s0 : XS)  (s : XS) (x1 : Int32) (x2 : Int32) (hI_s_k : InvK s.k) (hF_s_k : FrK [] s0.k s.k) (hI_s_g : InvG s.g)  : Ok (kX10_alike  s x1 x2) (Q_kX10_alike s0) := by
  unfold kX10_alike
  refine ok_bindI (ok_kX5_hasGuess _ _ hI_s_k) (fun r2 s1 hc_1 => ?_)
  have hI_s1 : InvK s1 := hc_1.1
  have hFc_s1 : FrK [] s.k s1 := hc_1.2.1
  have hF_s1 : FrK [] s0.k s1 := hF_s_k.trans hFc_s1 (by decide)
  have hl_r2 : 0 ≤ r2.toInt := hc_1.2.2.1
  have hu_r2 : r2.toInt ≤ 1 := hc_1.2.2.2.1
  have hx0_r2 : (¬ r2.toInt = 0 → 0 ≤ (x1).toInt) := hc_1.2.2.2.2
  refine ok_let (fun s3 hs3 => ?_)
  have hI_s3_g : InvG s3.g := by rw [← hs3]; exact hI_s_g
  have hI_s3_k : InvK s3.k := by rw [← hs3]; exact hI_s1
  have hF_s3_k : FrK [] s0.k s3.k := by rw [← hs3]; exact hF_s1
  refine ok_ite (fun c_2 => ?_) (fun c_2 => ?_)
  · have c_2 := tn_eq (a := (r2).toInt) (b := 0) rfl (by decide) c_2
    exact ok_some ⟨hI_s3_k, hF_s3_k, hI_s3_g, by show -1 ≤ ((-1) : Int32).toInt; decide, by show ((-1) : Int32).toInt ≤ 5; decide⟩
  · have c_2 := tn_ne (a := (r2).toInt) (b := 0) rfl (by decide) c_2
    refine ok_bindI (ok_kX5_hasGuess _ _ hI_s3_k) (fun r7 s6 hc_3 => ?_)
    have hI_s6 : InvK s6 := hc_3.1
    have hFc_s6 : FrK [] s3.k s6 := hc_3.2.1
    have hF_s6 : FrK [] s0.k s6 := hF_s3_k.trans hFc_s6 (by decide)
    have hl_r7 : 0 ≤ r7.toInt := hc_3.2.2.1
    have hu_r7 : r7.toInt ≤ 1 := hc_3.2.2.2.1
    have hx0_r7 : (¬ r7.toInt = 0 → 0 ≤ (x2).toInt) := hc_3.2.2.2.2
    refine ok_let (fun s8 hs8 => ?_)
    have hI_s8_g : InvG s8.g := by rw [← hs8]; exact hI_s3_g
    have hI_s8_k : InvK s8.k := by rw [← hs8]; exact hI_s6
    have hF_s8_k : FrK [] s0.k s8.k := by rw [← hs8]; exact hF_s6
    refine ok_ite (fun c_4 => ?_) (fun c_4 => ?_)
    · have c_4 := tn_eq (a := (r7).toInt) (b := 0) rfl (by decide) c_4
      exact ok_some ⟨hI_s8_k, hF_s8_k, hI_s8_g, by show -1 ≤ ((-1) : Int32).toInt; decide, by show ((-1) : Int32).toInt ≤ 5; decide⟩
    · have c_4 := tn_ne (a := (r7).toInt) (b := 0) rfl (by decide) c_4
      have l_0 : (0 : Int32).toInt = 0 := by decide
      exact okL_kX10_alike_26 s0  fu _ _ _ _ (by unfold fu; omega) hI_s8_k hF_s8_k hI_s8_g (by omega) (by omega) (by decide) (by decide) 
theorem ok_kX10_alike (s : XS) (x1 : Int32) (x2 : Int32) (hI_s_k : InvK s.k) (hI_s_g : InvG s.g) : Ok (kX10_alike s x1 x2) (Q_kX10_alike s) := ok_kX10_alikeB s s x1 x2 hI_s_k FrK.rfl hI_s_g
noncomputable abbrev Q_kX10_spread (s0 : XS) (y : Int32 × XS) : Prop := InvK y.2.k ∧ FrK [] s0.k y.2.k ∧ InvG y.2.g ∧ -1 ≤ y.1.toInt ∧ y.1.toInt ≤ 2147483647
set_option maxHeartbeats 1000000 in
theorem ok_kX10_spreadB (s0 : XS)  (s : XS) (x1 : Int32) (hI_s_k : InvK s.k) (hF_s_k : FrK [] s0.k s.k) (hI_s_g : InvG s.g)  : Ok (kX10_spread  s x1) (Q_kX10_spread s0) := by
  unfold kX10_spread
  refine ok_bindI (ok_kX5_hasWave _ _ hI_s_k) (fun r2 s1 hc_1 => ?_)
  have hI_s1 : InvK s1 := hc_1.1
  have hFc_s1 : FrK [] s.k s1 := hc_1.2.1
  have hF_s1 : FrK [] s0.k s1 := hF_s_k.trans hFc_s1 (by decide)
  have hl_r2 : 0 ≤ r2.toInt := hc_1.2.2.1
  have hu_r2 : r2.toInt ≤ 1 := hc_1.2.2.2.1
  have hx0_r2 : (¬ r2.toInt = 0 → 0 ≤ (x1).toInt ∧ (x1).toInt ≤ 4) := hc_1.2.2.2.2
  refine ok_let (fun s3 hs3 => ?_)
  have hI_s3_g : InvG s3.g := by rw [← hs3]; exact hI_s_g
  have hI_s3_k : InvK s3.k := by rw [← hs3]; exact hI_s1
  have hF_s3_k : FrK [] s0.k s3.k := by rw [← hs3]; exact hF_s1
  refine ok_ite (fun c_2 => ?_) (fun c_2 => ?_)
  · have c_2 := tn_eq (a := (r2).toInt) (b := 0) rfl (by decide) c_2
    exact ok_some ⟨hI_s3_k, hF_s3_k, hI_s3_g, by show -1 ≤ ((-1) : Int32).toInt; decide, (ti_rng _).2⟩
  · have c_2 := tn_ne (a := (r2).toInt) (b := 0) rfl (by decide) c_2
    refine ok_bindI (ok_kX2_oddsApart _ _ hI_s3_k (by omega) (by omega)) (fun r7 s6 hc_3 => ?_)
    have hI_s6_k : InvK s6.k := hc_3.1
    have hFc_s6_k : FrK [] s3.k s6.k := hc_3.2.1
    have hF_s6_k : FrK [] s0.k s6.k := hF_s3_k.trans hFc_s6_k (by decide)
    have hl_r7 : 0 ≤ r7.toInt := hc_3.2.2.1
    refine ok_let (fun s8 hs8 => ?_)
    have hI_s8_g : InvG s8.g := by rw [← hs8]; exact hI_s3_g
    have hI_s8_k : InvK s8.k := by rw [← hs8]; exact hI_s6_k
    have hF_s8_k : FrK [] s0.k s8.k := by rw [← hs8]; exact hF_s6_k
    exact ok_some ⟨hI_s8_k, hF_s8_k, hI_s8_g, by show -1 ≤ (r7).toInt; omega, (ti_rng _).2⟩
theorem ok_kX10_spread (s : XS) (x1 : Int32) (hI_s_k : InvK s.k) (hI_s_g : InvG s.g) : Ok (kX10_spread s x1) (Q_kX10_spread s) := ok_kX10_spreadB s s x1 hI_s_k FrK.rfl hI_s_g
noncomputable abbrev Q_kX10_open (s0 : XS) (y : Int32 × XS) : Prop := InvK y.2.k ∧ FrK [] s0.k y.2.k ∧ InvG y.2.g ∧ -2147483648 ≤ y.1.toInt ∧ y.1.toInt ≤ 2147483647
set_option maxHeartbeats 1000000 in
theorem ok_kX10_open_40 (s0 : XS) (k4 : XS → Int32 → Int32 → Option (Int32 × XS)) (M4 : Nat) (hk4 : ∀ (s : XS) (x1 : Int32) (x2 : Int32), InvK s.k → FrK [] s0.k s.k → InvG s.g → 0 ≤ x2.toInt → x2.toInt ≤ 5 → (5 - x2.toInt).toNat < M4 → Ok (k4 s x1 x2) (Q_kX10_open s0)) (s : XS) (x1 : Int32) (x2 : Int32) (hI_s_k : InvK s.k) (hF_s_k : FrK [] s0.k s.k) (hI_s_g : InvG s.g) (h_x2l : 0 ≤ x2.toInt) (h_x2u : x2.toInt ≤ 4) (hM4 : (5 - x2.toInt).toNat ≤ M4) : Ok (kX10_open_40 k4 s x1 x2) (Q_kX10_open s0) := by
  unfold kX10_open_40
  have a_1 : ((x2 + 1)).toInt = (x2).toInt + 1 := tn_add rfl (by decide) (by omega) (by omega)
  exact hk4 _ _ _ hI_s_k hF_s_k hI_s_g (by omega) (by omega) (by omega)
set_option maxHeartbeats 1000000 in
theorem ok_kX10_open_4 (s0 : XS) (k4 : XS → Int32 → Int32 → Option (Int32 × XS)) (M4 : Nat) (hk4 : ∀ (s : XS) (x1 : Int32) (x2 : Int32), InvK s.k → FrK [] s0.k s.k → InvG s.g → 0 ≤ x2.toInt → x2.toInt ≤ 5 → (5 - x2.toInt).toNat < M4 → Ok (k4 s x1 x2) (Q_kX10_open s0)) (s : XS) (x1 : Int32) (x2 : Int32) (hI_s_k : InvK s.k) (hF_s_k : FrK [] s0.k s.k) (hI_s_g : InvG s.g) (h_x2l : 0 ≤ x2.toInt) (h_x2u : x2.toInt ≤ 5) (hM4 : (5 - x2.toInt).toNat ≤ M4) : Ok (kX10_open_4 k4 s x1 x2) (Q_kX10_open s0) := by
  unfold kX10_open_4
  have a_1 : 0 ≤ (s.k.v 1).toInt ∧ (s.k.v 1).toInt ≤ 5 := hI_s_k.1 1
  refine ok_ite (fun c_2 => ?_) (fun c_2 => ?_)
  · have c_2 := tn_le (a := ((s.k.v 1)).toInt) (b := (x2).toInt) rfl rfl c_2
    exact ok_some ⟨hI_s_k, hF_s_k, hI_s_g, (ti_rng _).1, (ti_rng _).2⟩
  · have c_2 := tn_nle (a := ((s.k.v 1)).toInt) (b := (x2).toInt) rfl rfl c_2
    refine ok_bindI (ok_kX0_mayBe _ _ hI_s_k (by omega) (by omega)) (fun r3 s2 hc_3 => ?_)
    have hI_s2_k : InvK s2.k := hc_3.1
    have hFc_s2_k : FrK [] s.k s2.k := hc_3.2.1
    have hF_s2_k : FrK [] s0.k s2.k := hF_s_k.trans hFc_s2_k (by decide)
    refine ok_let (fun s4 hs4 => ?_)
    have hI_s4_g : InvG s4.g := by rw [← hs4]; exact hI_s_g
    have hI_s4_k : InvK s4.k := by rw [← hs4]; exact hI_s2_k
    have hF_s4_k : FrK [] s0.k s4.k := by rw [← hs4]; exact hF_s2_k
    refine ok_bindP (ok_kJ6_bitCount_0f7a4 _ ) (fun r6 hc_4 => ?_)
    refine ok_ite (fun c_5 => ?_) (fun c_5 => ?_)
    · have c_5 := tn_le (a := (r6).toInt) (b := 1) rfl (by decide) c_5
      exact ok_kX10_open_40 s0 k4 M4 hk4 _ _ _ hI_s4_k hF_s4_k hI_s4_g (by omega) (by omega) (by omega)
    · have c_5 := tn_nle (a := (r6).toInt) (b := 1) rfl (by decide) c_5
      exact ok_kX10_open_40 s0 k4 M4 hk4 _ _ _ hI_s4_k hF_s4_k hI_s4_g (by omega) (by omega) (by omega)
theorem okL_kX10_open_4 (s0 : XS)  : ∀ (n : Nat) (s : XS) (x1 : Int32) (x2 : Int32), (5 - x2.toInt).toNat < n → InvK s.k → FrK [] s0.k s.k → InvG s.g → 0 ≤ x2.toInt → x2.toInt ≤ 5 → Ok (kX10_open_4L  n s x1 x2) (Q_kX10_open s0) := by
  intro n
  induction n with
  | zero => intro s x1 x2 hn; omega
  | succ n ih =>
    intro s x1 x2 hn hI_s_k hF_s_k hI_s_g h_x2l h_x2u 
    exact ok_kX10_open_4 s0 (kX10_open_4L  n) ((5 - x2.toInt).toNat) (fun zs zx1 zx2 g0 g1 g2 g3 g4  hm => ih zs zx1 zx2 (by omega) g0 g1 g2 g3 g4 ) s x1 x2 hI_s_k hF_s_k hI_s_g h_x2l h_x2u (Nat.le_refl _)
set_option maxHeartbeats 1000000 in
theorem ok_kX10_openB (s0 : XS)  (s : XS) (hI_s_k : InvK s.k) (hF_s_k : FrK [] s0.k s.k) (hI_s_g : InvG s.g)  : Ok (kX10_open  s) (Q_kX10_open s0) := by
  unfold kX10_open
  have l_0 : (0 : Int32).toInt = 0 := by decide
  exact okL_kX10_open_4 s0  fu _ _ _ (by unfold fu; omega) hI_s_k hF_s_k hI_s_g (by decide) (by decide) 
theorem ok_kX10_open (s : XS) (hI_s_k : InvK s.k) (hI_s_g : InvG s.g) : Ok (kX10_open s) (Q_kX10_open s) := ok_kX10_openB s s hI_s_k FrK.rfl hI_s_g
noncomputable abbrev Q_kX10_hold (s0 : YS) (y : Int32 × YS) : Prop := InvK y.2.x.k ∧ FrK [] s0.x.k y.2.x.k ∧ InvG y.2.x.g ∧ 0 ≤ y.1.toInt ∧ y.1.toInt ≤ 1
set_option maxHeartbeats 1000000 in
theorem ok_kX10_holdB (s0 : YS)  (s : YS) (x1 : Int32) (hI_s_x_k : InvK s.x.k) (hF_s_x_k : FrK [] s0.x.k s.x.k) (hI_s_x_g : InvG s.x.g)  : Ok (kX10_hold  s x1) (Q_kX10_hold s0) := by
  unfold kX10_hold
  refine ok_bindI (ok_kX3_keepIn _ _ hI_s_x_g) (fun r2 s1 hc_1 => ?_)
  have hI_s1_g : InvG s1.g := hc_1.1
  have hl_r2 : 0 ≤ r2.toInt := hc_1.2.1
  have hu_r2 : r2.toInt ≤ 1 := hc_1.2.2
  refine ok_let (fun s3 hs3 => ?_)
  have hI_s3_x_k : InvK s3.x.k := by rw [← hs3]; exact hI_s_x_k
  have hF_s3_x_k : FrK [] s0.x.k s3.x.k := by rw [← hs3]; exact hF_s_x_k
  have hI_s3_x_g : InvG s3.x.g := by rw [← hs3]; exact hI_s1_g
  refine ok_grd (ti_z01 (by omega) (by omega)) ?_
  exact ok_some ⟨hI_s3_x_k, hF_s3_x_k, hI_s3_x_g, by show 0 ≤ (r2).toInt; omega, by show (r2).toInt ≤ 1; omega⟩
theorem ok_kX10_hold (s : YS) (x1 : Int32) (hI_s_x_k : InvK s.x.k) (hI_s_x_g : InvG s.x.g) : Ok (kX10_hold s x1) (Q_kX10_hold s) := ok_kX10_holdB s s x1 hI_s_x_k FrK.rfl hI_s_x_g
noncomputable abbrev Q_kX10_restore (s0 : YS) (y : Int32 × YS) : Prop := InvK y.2.x.k ∧ FrK [] s0.x.k y.2.x.k ∧ InvG y.2.x.g ∧ 0 ≤ y.1.toInt ∧ y.1.toInt ≤ 1
set_option maxHeartbeats 1000000 in
theorem ok_kX10_restoreB (s0 : YS)  (s : YS) (x1 : Int32) (hI_s_x_k : InvK s.x.k) (hF_s_x_k : FrK [] s0.x.k s.x.k) (hI_s_x_g : InvG s.x.g)  : Ok (kX10_restore  s x1) (Q_kX10_restore s0) := by
  unfold kX10_restore
  refine ok_bindI (ok_kX3_goOnFrom _ _ hI_s_x_g) (fun r2 s1 hc_1 => ?_)
  have hI_s1_g : InvG s1.g := hc_1.1
  have hl_r2 : 0 ≤ r2.toInt := hc_1.2.1
  have hu_r2 : r2.toInt ≤ 1 := hc_1.2.2
  refine ok_let (fun s3 hs3 => ?_)
  have hI_s3_x_k : InvK s3.x.k := by rw [← hs3]; exact hI_s_x_k
  have hF_s3_x_k : FrK [] s0.x.k s3.x.k := by rw [← hs3]; exact hF_s_x_k
  have hI_s3_x_g : InvG s3.x.g := by rw [← hs3]; exact hI_s1_g
  refine ok_grd (ti_z01 (by omega) (by omega)) ?_
  exact ok_some ⟨hI_s3_x_k, hF_s3_x_k, hI_s3_x_g, by show 0 ≤ (r2).toInt; omega, by show (r2).toInt ≤ 1; omega⟩
theorem ok_kX10_restore (s : YS) (x1 : Int32) (hI_s_x_k : InvK s.x.k) (hI_s_x_g : InvG s.x.g) : Ok (kX10_restore s x1) (Q_kX10_restore s) := ok_kX10_restoreB s s x1 hI_s_x_k FrK.rfl hI_s_x_g
noncomputable abbrev Q_kX10_buoysLying (s0 : XS) (y : Int32 × XS) : Prop := InvK y.2.k ∧ FrK [] s0.k y.2.k ∧ InvG y.2.g ∧ -2147483648 ≤ y.1.toInt ∧ y.1.toInt ≤ 2147483647
set_option maxHeartbeats 1000000 in
theorem ok_kX10_buoysLying_4 (s0 : XS) (k4 : XS → Int32 → Int32 → Option (Int32 × XS)) (M4 : Nat) (hk4 : ∀ (s : XS) (x1 : Int32) (x2 : Int32), InvK s.k → FrK [] s0.k s.k → InvG s.g → 0 ≤ x2.toInt → x2.toInt ≤ 5 → (5 - x2.toInt).toNat < M4 → Ok (k4 s x1 x2) (Q_kX10_buoysLying s0)) (s : XS) (x1 : Int32) (x2 : Int32) (hI_s_k : InvK s.k) (hF_s_k : FrK [] s0.k s.k) (hI_s_g : InvG s.g) (h_x2l : 0 ≤ x2.toInt) (h_x2u : x2.toInt ≤ 5) (hM4 : (5 - x2.toInt).toNat ≤ M4) : Ok (kX10_buoysLying_4 k4 s x1 x2) (Q_kX10_buoysLying s0) := by
  unfold kX10_buoysLying_4
  have a_1 : 0 ≤ (s.k.v 1).toInt ∧ (s.k.v 1).toInt ≤ 5 := hI_s_k.1 1
  refine ok_ite (fun c_2 => ?_) (fun c_2 => ?_)
  · have c_2 := tn_le (a := ((s.k.v 1)).toInt) (b := (x2).toInt) rfl rfl c_2
    exact ok_some ⟨hI_s_k, hF_s_k, hI_s_g, (ti_rng _).1, (ti_rng _).2⟩
  · have c_2 := tn_nle (a := ((s.k.v 1)).toInt) (b := (x2).toInt) rfl rfl c_2
    refine ok_grd (vpb_ok (by omega) (by omega)) ?_
    refine ok_bindP (ok_kJ6_bitCount_0f7a4 _ ) (fun r3 hc_3 => ?_)
    have a_4 : ((x2 + 1)).toInt = (x2).toInt + 1 := tn_add rfl (by decide) (by omega) (by omega)
    exact hk4 _ _ _ hI_s_k hF_s_k hI_s_g (by omega) (by omega) (by omega)
theorem okL_kX10_buoysLying_4 (s0 : XS)  : ∀ (n : Nat) (s : XS) (x1 : Int32) (x2 : Int32), (5 - x2.toInt).toNat < n → InvK s.k → FrK [] s0.k s.k → InvG s.g → 0 ≤ x2.toInt → x2.toInt ≤ 5 → Ok (kX10_buoysLying_4L  n s x1 x2) (Q_kX10_buoysLying s0) := by
  intro n
  induction n with
  | zero => intro s x1 x2 hn; omega
  | succ n ih =>
    intro s x1 x2 hn hI_s_k hF_s_k hI_s_g h_x2l h_x2u 
    exact ok_kX10_buoysLying_4 s0 (kX10_buoysLying_4L  n) ((5 - x2.toInt).toNat) (fun zs zx1 zx2 g0 g1 g2 g3 g4  hm => ih zs zx1 zx2 (by omega) g0 g1 g2 g3 g4 ) s x1 x2 hI_s_k hF_s_k hI_s_g h_x2l h_x2u (Nat.le_refl _)
set_option maxHeartbeats 1000000 in
theorem ok_kX10_buoysLyingB (s0 : XS)  (s : XS) (hI_s_k : InvK s.k) (hF_s_k : FrK [] s0.k s.k) (hI_s_g : InvG s.g)  : Ok (kX10_buoysLying  s) (Q_kX10_buoysLying s0) := by
  unfold kX10_buoysLying
  have l_0 : (0 : Int32).toInt = 0 := by decide
  exact okL_kX10_buoysLying_4 s0  fu _ _ _ (by unfold fu; omega) hI_s_k hF_s_k hI_s_g (by decide) (by decide) 
theorem ok_kX10_buoysLying (s : XS) (hI_s_k : InvK s.k) (hI_s_g : InvG s.g) : Ok (kX10_buoysLying s) (Q_kX10_buoysLying s) := ok_kX10_buoysLyingB s s hI_s_k FrK.rfl hI_s_g
noncomputable abbrev Q_kX10_lot (y : Int32) : Prop := -2147483648 ≤ y.toInt ∧ y.toInt ≤ 2147483647
set_option maxHeartbeats 1000000 in
theorem ok_kX10_lotB  (x0 : Int32) (x1 : Int32) (x2 : Int32)   : Ok (kX10_lot  x0 x1 x2) Q_kX10_lot := by
  unfold kX10_lot
  refine ok_ite (fun c_1 => ?_) (fun c_1 => ?_)
  · have c_1 := tn_lt (a := 0) (b := (x0).toInt) (by decide) rfl c_1
    refine ok_bindP (ok_kX10_stirred _ _ ) (fun r2 hc_2 => ?_)
    refine ok_bindP (ok_kX10_stirred _ _ ) (fun r3 hc_3 => ?_)
    refine ok_grd (fun h => by have := tn_eq rfl (b := 0) (by decide) h; omega) ?_
    exact ok_some ⟨(ti_rng _).1, (ti_rng _).2⟩
  · have c_1 := tn_nlt (a := 0) (b := (x0).toInt) (by decide) rfl c_1
    exact ok_some ⟨(ti_rng _).1, (ti_rng _).2⟩
theorem ok_kX10_lot (x0 : Int32) (x1 : Int32) (x2 : Int32)  : Ok (kX10_lot x0 x1 x2) Q_kX10_lot := ok_kX10_lotB x0 x1 x2 
noncomputable abbrev Q_kX1_clear (s0 : KS) (y : KS) : Prop := InvK y ∧ FrK [12, 13, 122, 123, 124, 125] s0 y
set_option maxHeartbeats 1000000 in
theorem ok_kX1_clearB (s0 : KS)  (s : KS) (hI_s : InvK s) (hF_s : FrK [12, 13, 122, 123, 124, 125] s0 s)  : Ok (kX1_clear  s) (Q_kX1_clear s0) := by
  unfold kX1_clear
  refine ok_let (fun s1 hs1 => ?_)
  have hI_s1 : InvK s1 := by rw [← hs1]; exact hI_s.sv (k := 12) (show (0 : Int) ≤ (0 : Int32).toInt by decide) (show (0 : Int32).toInt ≤ (404 : Int) by decide)
  have hF_s1 : FrK [12, 13, 122, 123, 124, 125] s0 s1 := by rw [← hs1]; exact hF_s.sv (k := 12) (by decide)
  refine ok_bindP (ok_kX1_begin _ _ hI_s1 (by decide) (by decide)) (fun s3 hc_1 => ?_)
  have hI_s3 : InvK s3 := hc_1.1
  have hFc_s3 : FrK [13, 124, 125] s1 s3 := hc_1.2
  have hF_s3 : FrK [12, 13, 122, 123, 124, 125] s0 s3 := hF_s1.trans hFc_s3 (by decide)
  refine ok_bindP (ok_kX1_putVar _ _ hI_s3 (by decide) (by decide)) (fun s4 hc_2 => ?_)
  have hI_s4 : InvK s4 := hc_2.1
  have hFc_s4 : FrK [12, 122] s3 s4 := hc_2.2
  have hF_s4 : FrK [12, 13, 122, 123, 124, 125] s0 s4 := hF_s3.trans hFc_s4 (by decide)
  refine ok_bindP (ok_kX1_endPart _  hI_s4) (fun s5 hc_3 => ?_)
  have hI_s5 : InvK s5 := hc_3.1
  have hFc_s5 : FrK [123, 125] s4 s5 := hc_3.2
  have hF_s5 : FrK [12, 13, 122, 123, 124, 125] s0 s5 := hF_s4.trans hFc_s5 (by decide)
  refine ok_bindP (ok_kX1_begin _ _ hI_s5 (by decide) (by decide)) (fun s6 hc_4 => ?_)
  have hI_s6 : InvK s6 := hc_4.1
  have hFc_s6 : FrK [13, 124, 125] s5 s6 := hc_4.2
  have hF_s6 : FrK [12, 13, 122, 123, 124, 125] s0 s6 := hF_s5.trans hFc_s6 (by decide)
  refine ok_bindP (ok_kX1_putNumber _ _ hI_s6) (fun s7 hc_5 => ?_)
  have hI_s7 : InvK s7 := hc_5.1
  have hFc_s7 : FrK [12, 122] s6 s7 := hc_5.2
  have hF_s7 : FrK [12, 13, 122, 123, 124, 125] s0 s7 := hF_s6.trans hFc_s7 (by decide)
  refine ok_bindP (ok_kX1_endPart _  hI_s7) (fun s8 hc_6 => ?_)
  have hI_s8 : InvK s8 := hc_6.1
  have hFc_s8 : FrK [123, 125] s7 s8 := hc_6.2
  have hF_s8 : FrK [12, 13, 122, 123, 124, 125] s0 s8 := hF_s7.trans hFc_s8 (by decide)
  refine ok_bindP (ok_kX1_begin _ _ hI_s8 (by decide) (by decide)) (fun s9 hc_7 => ?_)
  have hI_s9 : InvK s9 := hc_7.1
  have hFc_s9 : FrK [13, 124, 125] s8 s9 := hc_7.2
  have hF_s9 : FrK [12, 13, 122, 123, 124, 125] s0 s9 := hF_s8.trans hFc_s9 (by decide)
  refine ok_bindP (ok_kX1_putNumber _ _ hI_s9) (fun s10 hc_8 => ?_)
  have hI_s10 : InvK s10 := hc_8.1
  have hFc_s10 : FrK [12, 122] s9 s10 := hc_8.2
  have hF_s10 : FrK [12, 13, 122, 123, 124, 125] s0 s10 := hF_s9.trans hFc_s10 (by decide)
  refine ok_bindP (ok_kX1_endPart _  hI_s10) (fun s11 hc_9 => ?_)
  have hI_s11 : InvK s11 := hc_9.1
  have hFc_s11 : FrK [123, 125] s10 s11 := hc_9.2
  have hF_s11 : FrK [12, 13, 122, 123, 124, 125] s0 s11 := hF_s10.trans hFc_s11 (by decide)
  refine ok_bindP (ok_kX1_begin _ _ hI_s11 (by decide) (by decide)) (fun s12 hc_10 => ?_)
  have hI_s12 : InvK s12 := hc_10.1
  have hFc_s12 : FrK [13, 124, 125] s11 s12 := hc_10.2
  have hF_s12 : FrK [12, 13, 122, 123, 124, 125] s0 s12 := hF_s11.trans hFc_s12 (by decide)
  refine ok_bindP (ok_kX1_putNumber _ _ hI_s12) (fun s13 hc_11 => ?_)
  have hI_s13 : InvK s13 := hc_11.1
  have hFc_s13 : FrK [12, 122] s12 s13 := hc_11.2
  have hF_s13 : FrK [12, 13, 122, 123, 124, 125] s0 s13 := hF_s12.trans hFc_s13 (by decide)
  refine ok_bindP (ok_kX1_endPart _  hI_s13) (fun s14 hc_12 => ?_)
  have hI_s14 : InvK s14 := hc_12.1
  have hFc_s14 : FrK [123, 125] s13 s14 := hc_12.2
  have hF_s14 : FrK [12, 13, 122, 123, 124, 125] s0 s14 := hF_s13.trans hFc_s14 (by decide)
  exact ok_some ⟨hI_s14, hF_s14⟩
theorem ok_kX1_clear (s : KS) (hI_s : InvK s) : Ok (kX1_clear s) (Q_kX1_clear s) := ok_kX1_clearB s s hI_s FrK.rfl
noncomputable abbrev Q_kX1_valueOf (s0 : KS) (y : Int32 × KS) : Prop := InvK y.2 ∧ FrK [7, 114] s0 y.2 ∧ -2147483648 ≤ y.1.toInt ∧ y.1.toInt ≤ 2147483647
set_option maxHeartbeats 1000000 in
theorem ok_kX1_valueOf_77 (s0 : KS)  (s : KS) (x1 : Int32) (x3 : Int32) (hI_s : InvK s) (hF_s : FrK [7, 114] s0 s) (h_x1l : 0 ≤ x1.toInt) (h_x1u : x1.toInt ≤ 3) (h_x3l : -1 ≤ x3.toInt) (h_x3u : x3.toInt ≤ 12)  : Ok (kX1_valueOf_77  s x1 x3) (Q_kX1_valueOf s0) := by
  unfold kX1_valueOf_77
  refine ok_bindI (ok_kX1_partValue _ _ _ hI_s (by omega) (by omega) (by omega) (by omega)) (fun r2 s1 hc_1 => ?_)
  have hI_s1 : InvK s1 := hc_1.1
  have hFc_s1 : FrK [7, 114] s s1 := hc_1.2.1
  have hF_s1 : FrK [7, 114] s0 s1 := hF_s.trans hFc_s1 (by decide)
  refine ok_ite (fun c_2 => ?_) (fun c_2 => ?_)
  · have c_2 := tn_eq (a := ((s1.v 7)).toInt) (b := 0) rfl (by decide) c_2
    exact ok_some ⟨hI_s1, hF_s1, (ti_rng _).1, (ti_rng _).2⟩
  · have c_2 := tn_ne (a := ((s1.v 7)).toInt) (b := 0) rfl (by decide) c_2
    exact ok_some ⟨hI_s1, hF_s1, (ti_rng _).1, (ti_rng _).2⟩
set_option maxHeartbeats 1000000 in
theorem ok_kX1_valueOf_19 (s0 : KS) (k19 : KS → Int32 → Int32 → Int32 → Int32 → Option (Int32 × KS)) (M19 : Nat) (hk19 : ∀ (s : KS) (x1 : Int32) (x2 : Int32) (x3 : Int32) (x4 : Int32), InvK s → FrK [7, 114] s0 s → 0 ≤ x1.toInt → x1.toInt ≤ 3 → -1 ≤ x2.toInt → x2.toInt ≤ 12 → -1 ≤ x3.toInt → x3.toInt ≤ 12 → 0 ≤ x4.toInt → x4.toInt ≤ 12 → (12 - x4.toInt).toNat < M19 → Ok (k19 s x1 x2 x3 x4) (Q_kX1_valueOf s0)) (s : KS) (x1 : Int32) (x2 : Int32) (x3 : Int32) (x4 : Int32) (hI_s : InvK s) (hF_s : FrK [7, 114] s0 s) (h_x1l : 0 ≤ x1.toInt) (h_x1u : x1.toInt ≤ 3) (h_x2l : -1 ≤ x2.toInt) (h_x2u : x2.toInt ≤ 12) (h_x3l : -1 ≤ x3.toInt) (h_x3u : x3.toInt ≤ 12) (h_x4l : 0 ≤ x4.toInt) (h_x4u : x4.toInt ≤ 12) (hM19 : (12 - x4.toInt).toNat ≤ M19) : Ok (kX1_valueOf_19 k19 s x1 x2 x3 x4) (Q_kX1_valueOf s0) := by
  unfold kX1_valueOf_19
  have a_1 : ((x4 + 2)).toInt = (x4).toInt + 2 := tn_add rfl (by decide) (by omega) (by omega)
  refine ok_ite (fun c_2 => ?_) (fun c_2 => ?_)
  · have c_2 := tn_le (a := (x2).toInt) (b := ((x4 + 2)).toInt) rfl rfl c_2
    exact ok_kX1_valueOf_77 s0  _ _ _ hI_s hF_s (by omega) (by omega) (by omega) (by omega) 
  · have c_2 := tn_nle (a := (x2).toInt) (b := ((x4 + 2)).toInt) rfl rfl c_2
    refine ok_bindI (ok_kX1_partValue _ _ _ hI_s (by omega) (by omega) (by omega) (by omega)) (fun r3 s2 hc_3 => ?_)
    have hI_s2 : InvK s2 := hc_3.1
    have hFc_s2 : FrK [7, 114] s s2 := hc_3.2.1
    have hF_s2 : FrK [7, 114] s0 s2 := hF_s.trans hFc_s2 (by decide)
    have a_4 : ((x4 + 1)).toInt = (x4).toInt + 1 := tn_add rfl (by decide) (by omega) (by omega)
    refine ok_bindI (ok_kX1_partValue _ _ _ hI_s2 (by omega) (by omega) (by omega) (by omega)) (fun r5 s4 hc_5 => ?_)
    have hI_s4 : InvK s4 := hc_5.1
    have hFc_s4 : FrK [7, 114] s2 s4 := hc_5.2.1
    have hF_s4 : FrK [7, 114] s0 s4 := hF_s2.trans hFc_s4 (by decide)
    refine ok_ite (fun c_6 => ?_) (fun c_6 => ?_)
    · have c_6 := tn_eq (a := ((s4.v 7)).toInt) (b := 0) rfl (by decide) c_6
      refine ok_ite (fun c_7 => ?_) (fun c_7 => ?_)
      · have c_7 := tn_le (a := (r5).toInt) (b := (r3).toInt) rfl rfl c_7
        have a_8 : ((x4 + 3)).toInt = (x4).toInt + 3 := tn_add rfl (by decide) (by omega) (by omega)
        exact hk19 _ _ _ _ _ hI_s4 hF_s4 (by omega) (by omega) (by omega) (by omega) (by omega) (by omega) (by omega) (by omega) (by omega)
      · have c_7 := tn_nle (a := (r5).toInt) (b := (r3).toInt) rfl rfl c_7
        exact ok_kX1_valueOf_77 s0  _ _ _ hI_s4 hF_s4 (by omega) (by omega) (by omega) (by omega) 
    · have c_6 := tn_ne (a := ((s4.v 7)).toInt) (b := 0) rfl (by decide) c_6
      exact ok_some ⟨hI_s4, hF_s4, (ti_rng _).1, (ti_rng _).2⟩
theorem okL_kX1_valueOf_19 (s0 : KS)  : ∀ (n : Nat) (s : KS) (x1 : Int32) (x2 : Int32) (x3 : Int32) (x4 : Int32), (12 - x4.toInt).toNat < n → InvK s → FrK [7, 114] s0 s → 0 ≤ x1.toInt → x1.toInt ≤ 3 → -1 ≤ x2.toInt → x2.toInt ≤ 12 → -1 ≤ x3.toInt → x3.toInt ≤ 12 → 0 ≤ x4.toInt → x4.toInt ≤ 12 → Ok (kX1_valueOf_19L  n s x1 x2 x3 x4) (Q_kX1_valueOf s0) := by
  intro n
  induction n with
  | zero => intro s x1 x2 x3 x4 hn; omega
  | succ n ih =>
    intro s x1 x2 x3 x4 hn hI_s hF_s h_x1l h_x1u h_x2l h_x2u h_x3l h_x3u h_x4l h_x4u 
    exact ok_kX1_valueOf_19 s0 (kX1_valueOf_19L  n) ((12 - x4.toInt).toNat) (fun zs zx1 zx2 zx3 zx4 g0 g1 g2 g3 g4 g5 g6 g7 g8 g9  hm => ih zs zx1 zx2 zx3 zx4 (by omega) g0 g1 g2 g3 g4 g5 g6 g7 g8 g9 ) s x1 x2 x3 x4 hI_s hF_s h_x1l h_x1u h_x2l h_x2u h_x3l h_x3u h_x4l h_x4u (Nat.le_refl _)
set_option maxHeartbeats 1000000 in
theorem ok_kX1_valueOfB (s0 : KS)  (s : KS) (x1 : Int32) (hI_s : InvK s) (hF_s : FrK [7, 114] s0 s) (h_x1l : 0 ≤ x1.toInt) (h_x1u : x1.toInt ≤ 3)  : Ok (kX1_valueOf  s x1) (Q_kX1_valueOf s0) := by
  unfold kX1_valueOf
  refine ok_let (fun s1 hs1 => ?_)
  have hI_s1 : InvK s1 := by rw [← hs1]; exact hI_s.svF (k := 7) rfl rfl
  have hF_s1 : FrK [7, 114] s0 s1 := by rw [← hs1]; exact hF_s.sv (k := 7) (by decide)
  refine ok_grd (vpb_ok (by omega) (by omega)) ?_
  have a_1 : 0 ≤ (((s1.f 12) (Int32.toNatClampNeg x1))).toInt ∧ (((s1.f 12) (Int32.toNatClampNeg x1))).toInt ≤ 13 := hI_s1.2 12 _
  have a_2 : ((((s1.f 12) (Int32.toNatClampNeg x1)) - 1)).toInt = (((s1.f 12) (Int32.toNatClampNeg x1))).toInt - 1 := tn_sub rfl (by decide) (by omega) (by omega)
  have l_0 : (0 : Int32).toInt = 0 := by decide
  exact okL_kX1_valueOf_19 s0  fu _ _ _ _ _ (by unfold fu; omega) hI_s1 hF_s1 (by omega) (by omega) (by omega) (by omega) (by omega) (by omega) (by decide) (by decide) 
theorem ok_kX1_valueOf (s : KS) (x1 : Int32) (hI_s : InvK s) (h_x1l : 0 ≤ x1.toInt) (h_x1u : x1.toInt ≤ 3) : Ok (kX1_valueOf s x1) (Q_kX1_valueOf s) := ok_kX1_valueOfB s s x1 hI_s FrK.rfl h_x1l h_x1u
noncomputable abbrev Q_kX2_oddsOfAll (s0 : JS) (y : Int32 × JS) : Prop := InvK y.2.k ∧ FrK [] s0.k y.2.k ∧ -2147483648 ≤ y.1.toInt ∧ y.1.toInt ≤ 2147483647
set_option maxHeartbeats 1000000 in
theorem ok_kX2_oddsOfAll_61 (s0 : JS) (k5 : JS → Int32 → Int32 → Int32 → Option (Int32 × JS)) (M5 : Nat) (hk5 : ∀ (s : JS) (x2 : Int32) (x3 : Int32) (x4 : Int32), InvK s.k → FrK [] s0.k s.k → -1 ≤ x2.toInt → x2.toInt ≤ 4 → 0 ≤ x4.toInt → x4.toInt ≤ 5 → (5 - x4.toInt).toNat < M5 → Ok (k5 s x2 x3 x4) (Q_kX2_oddsOfAll s0)) (s : JS) (x2 : Int32) (x3 : Int32) (x4 : Int32) (hI_s_k : InvK s.k) (hF_s_k : FrK [] s0.k s.k) (h_x2l : -1 ≤ x2.toInt) (h_x2u : x2.toInt ≤ 4) (h_x4l : 0 ≤ x4.toInt) (h_x4u : x4.toInt ≤ 4) (hM5 : (5 - x4.toInt).toNat ≤ M5) : Ok (kX2_oddsOfAll_61 k5 s x2 x3 x4) (Q_kX2_oddsOfAll s0) := by
  unfold kX2_oddsOfAll_61
  have a_1 : ((x4 + 1)).toInt = (x4).toInt + 1 := tn_add rfl (by decide) (by omega) (by omega)
  exact hk5 _ _ _ _ hI_s_k hF_s_k (by omega) (by omega) (by omega) (by omega) (by omega)
set_option maxHeartbeats 1000000 in
theorem ok_kX2_oddsOfAll_29 (s0 : JS) (k5 : JS → Int32 → Int32 → Int32 → Option (Int32 × JS)) (M5 : Nat) (hk5 : ∀ (s : JS) (x2 : Int32) (x3 : Int32) (x4 : Int32), InvK s.k → FrK [] s0.k s.k → -1 ≤ x2.toInt → x2.toInt ≤ 4 → 0 ≤ x4.toInt → x4.toInt ≤ 5 → (5 - x4.toInt).toNat < M5 → Ok (k5 s x2 x3 x4) (Q_kX2_oddsOfAll s0)) (k29 : JS → Int32 → Int32 → Int32 → Int32 → Int32 → Option (Int32 × JS)) (M29 : Nat) (hk29 : ∀ (s : JS) (x2 : Int32) (x3 : Int32) (x4 : Int32) (x5 : Int32) (x6 : Int32), InvK s.k → FrK [] s0.k s.k → -1 ≤ x2.toInt → x2.toInt ≤ 4 → 0 ≤ x4.toInt → x4.toInt ≤ 4 → 0 ≤ x6.toInt → x6.toInt ≤ 6 → (5 - x4.toInt).toNat ≤ M5 → (6 - x6.toInt).toNat < M29 → Ok (k29 s x2 x3 x4 x5 x6) (Q_kX2_oddsOfAll s0)) (s : JS) (x2 : Int32) (x3 : Int32) (x4 : Int32) (x5 : Int32) (x6 : Int32) (hI_s_k : InvK s.k) (hF_s_k : FrK [] s0.k s.k) (h_x2l : -1 ≤ x2.toInt) (h_x2u : x2.toInt ≤ 4) (h_x4l : 0 ≤ x4.toInt) (h_x4u : x4.toInt ≤ 4) (h_x6l : 0 ≤ x6.toInt) (h_x6u : x6.toInt ≤ 6) (hM5 : (5 - x4.toInt).toNat ≤ M5) (hM29 : (6 - x6.toInt).toNat ≤ M29) : Ok (kX2_oddsOfAll_29 k5 k29 s x2 x3 x4 x5 x6) (Q_kX2_oddsOfAll s0) := by
  unfold kX2_oddsOfAll_29
  refine ok_ite (fun c_1 => ?_) (fun c_1 => ?_)
  · have c_1 := tn_le (a := 6) (b := (x6).toInt) (by decide) rfl c_1
    exact ok_kX2_oddsOfAll_61 s0 k5 M5 hk5 _ _ _ _ hI_s_k hF_s_k (by omega) (by omega) (by omega) (by omega) (by omega)
  · have c_1 := tn_nle (a := 6) (b := (x6).toInt) (by decide) rfl c_1
    refine ok_bindI (ok_kX2_oddsIfMay _ _ _ hI_s_k (by omega) (by omega) (by omega) (by omega)) (fun r3 s2 hc_2 => ?_)
    have hI_s2_k : InvK s2.k := hc_2.1
    have hFc_s2_k : FrK [] s.k s2.k := hc_2.2.1
    have hF_s2_k : FrK [] s0.k s2.k := hF_s_k.trans hFc_s2_k (by decide)
    have a_3 : ((x6 + 1)).toInt = (x6).toInt + 1 := tn_add rfl (by decide) (by omega) (by omega)
    exact hk29 _ _ _ _ _ _ hI_s2_k hF_s2_k (by omega) (by omega) (by omega) (by omega) (by omega) (by omega) (by omega) (by omega)
theorem okL_kX2_oddsOfAll_29 (s0 : JS) (k5 : JS → Int32 → Int32 → Int32 → Option (Int32 × JS)) (M5 : Nat) (hk5 : ∀ (s : JS) (x2 : Int32) (x3 : Int32) (x4 : Int32), InvK s.k → FrK [] s0.k s.k → -1 ≤ x2.toInt → x2.toInt ≤ 4 → 0 ≤ x4.toInt → x4.toInt ≤ 5 → (5 - x4.toInt).toNat < M5 → Ok (k5 s x2 x3 x4) (Q_kX2_oddsOfAll s0)) : ∀ (n : Nat) (s : JS) (x2 : Int32) (x3 : Int32) (x4 : Int32) (x5 : Int32) (x6 : Int32), (6 - x6.toInt).toNat < n → InvK s.k → FrK [] s0.k s.k → -1 ≤ x2.toInt → x2.toInt ≤ 4 → 0 ≤ x4.toInt → x4.toInt ≤ 4 → 0 ≤ x6.toInt → x6.toInt ≤ 6 → (5 - x4.toInt).toNat ≤ M5 → Ok (kX2_oddsOfAll_29L k5 n s x2 x3 x4 x5 x6) (Q_kX2_oddsOfAll s0) := by
  intro n
  induction n with
  | zero => intro s x2 x3 x4 x5 x6 hn; omega
  | succ n ih =>
    intro s x2 x3 x4 x5 x6 hn hI_s_k hF_s_k h_x2l h_x2u h_x4l h_x4u h_x6l h_x6u hM5
    exact ok_kX2_oddsOfAll_29 s0 k5 M5 hk5 (kX2_oddsOfAll_29L k5 n) ((6 - x6.toInt).toNat) (fun zs zx2 zx3 zx4 zx5 zx6 g0 g1 g2 g3 g4 g5 g6 g7 o5 hm => ih zs zx2 zx3 zx4 zx5 zx6 (by omega) g0 g1 g2 g3 g4 g5 g6 g7 o5) s x2 x3 x4 x5 x6 hI_s_k hF_s_k h_x2l h_x2u h_x4l h_x4u h_x6l h_x6u hM5 (Nat.le_refl _)
set_option maxHeartbeats 1000000 in
theorem ok_kX2_oddsOfAll_5 (s0 : JS) (k5 : JS → Int32 → Int32 → Int32 → Option (Int32 × JS)) (M5 : Nat) (hk5 : ∀ (s : JS) (x2 : Int32) (x3 : Int32) (x4 : Int32), InvK s.k → FrK [] s0.k s.k → -1 ≤ x2.toInt → x2.toInt ≤ 4 → 0 ≤ x4.toInt → x4.toInt ≤ 5 → (5 - x4.toInt).toNat < M5 → Ok (k5 s x2 x3 x4) (Q_kX2_oddsOfAll s0)) (s : JS) (x2 : Int32) (x3 : Int32) (x4 : Int32) (hI_s_k : InvK s.k) (hF_s_k : FrK [] s0.k s.k) (h_x2l : -1 ≤ x2.toInt) (h_x2u : x2.toInt ≤ 4) (h_x4l : 0 ≤ x4.toInt) (h_x4u : x4.toInt ≤ 5) (hM5 : (5 - x4.toInt).toNat ≤ M5) : Ok (kX2_oddsOfAll_5 k5 s x2 x3 x4) (Q_kX2_oddsOfAll s0) := by
  unfold kX2_oddsOfAll_5
  have a_1 : 0 ≤ (s.k.v 1).toInt ∧ (s.k.v 1).toInt ≤ 5 := hI_s_k.1 1
  refine ok_ite (fun c_2 => ?_) (fun c_2 => ?_)
  · have c_2 := tn_le (a := ((s.k.v 1)).toInt) (b := (x4).toInt) rfl rfl c_2
    exact ok_some ⟨hI_s_k, hF_s_k, (ti_rng _).1, (ti_rng _).2⟩
  · have c_2 := tn_nle (a := ((s.k.v 1)).toInt) (b := (x4).toInt) rfl rfl c_2
    refine ok_ite (fun c_3 => ?_) (fun c_3 => ?_)
    · have c_3 := tn_eq (a := (x4).toInt) (b := (x2).toInt) rfl rfl c_3
      exact ok_kX2_oddsOfAll_61 s0 k5 M5 hk5 _ _ _ _ hI_s_k hF_s_k (by omega) (by omega) (by omega) (by omega) (by omega)
    · have c_3 := tn_ne (a := (x4).toInt) (b := (x2).toInt) rfl rfl c_3
      have l_0 : (0 : Int32).toInt = 0 := by decide
      exact okL_kX2_oddsOfAll_29 s0 k5 M5 hk5 fu _ _ _ _ _ _ (by unfold fu; omega) hI_s_k hF_s_k (by omega) (by omega) (by omega) (by omega) (by decide) (by decide) (by omega)
theorem okL_kX2_oddsOfAll_5 (s0 : JS)  : ∀ (n : Nat) (s : JS) (x2 : Int32) (x3 : Int32) (x4 : Int32), (5 - x4.toInt).toNat < n → InvK s.k → FrK [] s0.k s.k → -1 ≤ x2.toInt → x2.toInt ≤ 4 → 0 ≤ x4.toInt → x4.toInt ≤ 5 → Ok (kX2_oddsOfAll_5L  n s x2 x3 x4) (Q_kX2_oddsOfAll s0) := by
  intro n
  induction n with
  | zero => intro s x2 x3 x4 hn; omega
  | succ n ih =>
    intro s x2 x3 x4 hn hI_s_k hF_s_k h_x2l h_x2u h_x4l h_x4u 
    exact ok_kX2_oddsOfAll_5 s0 (kX2_oddsOfAll_5L  n) ((5 - x4.toInt).toNat) (fun zs zx2 zx3 zx4 g0 g1 g2 g3 g4 g5  hm => ih zs zx2 zx3 zx4 (by omega) g0 g1 g2 g3 g4 g5 ) s x2 x3 x4 hI_s_k hF_s_k h_x2l h_x2u h_x4l h_x4u (Nat.le_refl _)
set_option maxHeartbeats 1000000 in
theorem ok_kX2_oddsOfAllB (s0 : JS)  (s : JS) (x2 : Int32) (hI_s_k : InvK s.k) (hF_s_k : FrK [] s0.k s.k) (h_x2l : -1 ≤ x2.toInt) (h_x2u : x2.toInt ≤ 4)  : Ok (kX2_oddsOfAll  s x2) (Q_kX2_oddsOfAll s0) := by
  unfold kX2_oddsOfAll
  have l_1 : (1 : Int32).toInt = 1 := by decide
  have l_0 : (0 : Int32).toInt = 0 := by decide
  exact okL_kX2_oddsOfAll_5 s0  fu _ _ _ _ (by unfold fu; omega) hI_s_k hF_s_k (by omega) (by omega) (by decide) (by decide) 
theorem ok_kX2_oddsOfAll (s : JS) (x2 : Int32) (hI_s_k : InvK s.k) (h_x2l : -1 ≤ x2.toInt) (h_x2u : x2.toInt ≤ 4) : Ok (kX2_oddsOfAll s x2) (Q_kX2_oddsOfAll s) := ok_kX2_oddsOfAllB s s x2 hI_s_k FrK.rfl h_x2l h_x2u
noncomputable abbrev Q_kX4_readProduct (s0 : KS) (y : KS) : Prop := InvK y ∧ FrK [12, 15, 16, 17, 122] s0 y
set_option maxHeartbeats 1000000 in
theorem ok_kX4_readProduct_32 (R : KS → Int32 → Option KS) (D : Nat) (hR : ∀ (s : KS) (x1 : Int32), InvK s → 0 ≤ x1.toInt → x1.toInt ≤ 6 → (6 - x1.toInt).toNat < D → Ok (R s x1) (fun y => InvK y ∧ FrK [12, 15, 16, 17, 122] s y)) (s0 : KS) (k7 : KS → Int32 → Int32 → Option (KS)) (M7 : Nat) (hk7 : ∀ (s : KS) (x1 : Int32) (x2 : Int32), InvK s → FrK [12, 15, 16, 17, 122] s0 s → 0 ≤ x1.toInt → x1.toInt ≤ 6 → 0 ≤ x2.toInt → x2.toInt ≤ 400 → (6 - x1.toInt).toNat ≤ D → (400 - x2.toInt).toNat < M7 → Ok (k7 s x1 x2) (Q_kX4_readProduct s0)) (s : KS) (x1 : Int32) (x2 : Int32) (hI_s : InvK s) (hF_s : FrK [12, 15, 16, 17, 122] s0 s) (h_x1l : 0 ≤ x1.toInt) (h_x1u : x1.toInt ≤ 6) (h_x2l : 0 ≤ x2.toInt) (h_x2u : x2.toInt ≤ 399) (hD : (6 - x1.toInt).toNat ≤ D) (hM7 : (400 - x2.toInt).toNat ≤ M7) : Ok (kX4_readProduct_32 R k7 s x1 x2) (Q_kX4_readProduct s0) := by
  unfold kX4_readProduct_32
  have a_1 : 0 ≤ (s.v 15).toInt ∧ (s.v 15).toInt ≤ 400 := hI_s.1 15
  refine ok_grd (vpb_ok (by omega) (by omega)) ?_
  refine ok_bindP (ok_kX4_take _ _ hI_s) (fun s2 hc_2 => ?_)
  have hI_s2 : InvK s2 := hc_2.1
  have hFc_s2 : FrK [15, 16, 17] s s2 := hc_2.2
  have hF_s2 : FrK [12, 15, 16, 17, 122] s0 s2 := hF_s.trans hFc_s2 (by decide)
  refine ok_bindP (ok_kX4_readUnit R D hR _ _ hI_s2 (by omega) (by omega) (by omega)) (fun s3 hc_3 => ?_)
  have hI_s3 : InvK s3 := hc_3.1
  have hFc_s3 : FrK [12, 15, 16, 17, 122] s2 s3 := hc_3.2
  have hF_s3 : FrK [12, 15, 16, 17, 122] s0 s3 := hF_s2.trans hFc_s3 (by decide)
  refine ok_bindP (ok_kX1_putSign _ _ hI_s3) (fun s4 hc_4 => ?_)
  have hI_s4 : InvK s4 := hc_4.1
  have hFc_s4 : FrK [12, 122] s3 s4 := hc_4.2
  have hF_s4 : FrK [12, 15, 16, 17, 122] s0 s4 := hF_s3.trans hFc_s4 (by decide)
  have a_5 : ((x2 + 1)).toInt = (x2).toInt + 1 := tn_add rfl (by decide) (by omega) (by omega)
  exact hk7 _ _ _ hI_s4 hF_s4 (by omega) (by omega) (by omega) (by omega) (by omega) (by omega)
set_option maxHeartbeats 1000000 in
theorem ok_kX4_readProduct_7 (R : KS → Int32 → Option KS) (D : Nat) (hR : ∀ (s : KS) (x1 : Int32), InvK s → 0 ≤ x1.toInt → x1.toInt ≤ 6 → (6 - x1.toInt).toNat < D → Ok (R s x1) (fun y => InvK y ∧ FrK [12, 15, 16, 17, 122] s y)) (s0 : KS) (k7 : KS → Int32 → Int32 → Option (KS)) (M7 : Nat) (hk7 : ∀ (s : KS) (x1 : Int32) (x2 : Int32), InvK s → FrK [12, 15, 16, 17, 122] s0 s → 0 ≤ x1.toInt → x1.toInt ≤ 6 → 0 ≤ x2.toInt → x2.toInt ≤ 400 → (6 - x1.toInt).toNat ≤ D → (400 - x2.toInt).toNat < M7 → Ok (k7 s x1 x2) (Q_kX4_readProduct s0)) (s : KS) (x1 : Int32) (x2 : Int32) (hI_s : InvK s) (hF_s : FrK [12, 15, 16, 17, 122] s0 s) (h_x1l : 0 ≤ x1.toInt) (h_x1u : x1.toInt ≤ 6) (h_x2l : 0 ≤ x2.toInt) (h_x2u : x2.toInt ≤ 400) (hD : (6 - x1.toInt).toNat ≤ D) (hM7 : (400 - x2.toInt).toNat ≤ M7) : Ok (kX4_readProduct_7 R k7 s x1 x2) (Q_kX4_readProduct s0) := by
  unfold kX4_readProduct_7
  refine ok_ite (fun c_1 => ?_) (fun c_1 => ?_)
  · have c_1 := tn_le (a := 400) (b := (x2).toInt) (by decide) rfl c_1
    exact ok_some ⟨hI_s, hF_s⟩
  · have c_1 := tn_nle (a := 400) (b := (x2).toInt) (by decide) rfl c_1
    refine ok_bindI (ok_kX4_isAt _ _ hI_s) (fun r3 s2 hc_2 => ?_)
    have hI_s2 : InvK s2 := hc_2.1
    have hFc_s2 : FrK [] s s2 := hc_2.2.1
    have hF_s2 : FrK [12, 15, 16, 17, 122] s0 s2 := hF_s.trans hFc_s2 (by decide)
    have hl_r3 : 0 ≤ r3.toInt := hc_2.2.2.1
    have hu_r3 : r3.toInt ≤ 1 := hc_2.2.2.2
    refine ok_ite (fun c_3 => ?_) (fun c_3 => ?_)
    · have c_3 := tn_eq (a := (r3).toInt) (b := 0) rfl (by decide) c_3
      refine ok_bindI (ok_kX4_isAt _ _ hI_s2) (fun r6 s5 hc_4 => ?_)
      have hI_s5 : InvK s5 := hc_4.1
      have hFc_s5 : FrK [] s2 s5 := hc_4.2.1
      have hF_s5 : FrK [12, 15, 16, 17, 122] s0 s5 := hF_s2.trans hFc_s5 (by decide)
      have hl_r6 : 0 ≤ r6.toInt := hc_4.2.2.1
      have hu_r6 : r6.toInt ≤ 1 := hc_4.2.2.2
      refine ok_ite (fun c_5 => ?_) (fun c_5 => ?_)
      · have c_5 := tn_eq (a := (r6).toInt) (b := 0) rfl (by decide) c_5
        exact ok_some ⟨hI_s5, hF_s5⟩
      · have c_5 := tn_ne (a := (r6).toInt) (b := 0) rfl (by decide) c_5
        exact ok_kX4_readProduct_32 R D hR s0 k7 M7 hk7 _ _ _ hI_s5 hF_s5 (by omega) (by omega) (by omega) (by omega) (by omega) (by omega)
    · have c_3 := tn_ne (a := (r3).toInt) (b := 0) rfl (by decide) c_3
      exact ok_kX4_readProduct_32 R D hR s0 k7 M7 hk7 _ _ _ hI_s2 hF_s2 (by omega) (by omega) (by omega) (by omega) (by omega) (by omega)
theorem okL_kX4_readProduct_7 (R : KS → Int32 → Option KS) (D : Nat) (hR : ∀ (s : KS) (x1 : Int32), InvK s → 0 ≤ x1.toInt → x1.toInt ≤ 6 → (6 - x1.toInt).toNat < D → Ok (R s x1) (fun y => InvK y ∧ FrK [12, 15, 16, 17, 122] s y)) (s0 : KS)  : ∀ (n : Nat) (s : KS) (x1 : Int32) (x2 : Int32), (400 - x2.toInt).toNat < n → InvK s → FrK [12, 15, 16, 17, 122] s0 s → 0 ≤ x1.toInt → x1.toInt ≤ 6 → 0 ≤ x2.toInt → x2.toInt ≤ 400 → (6 - x1.toInt).toNat ≤ D → Ok (kX4_readProduct_7L R  n s x1 x2) (Q_kX4_readProduct s0) := by
  intro n
  induction n with
  | zero => intro s x1 x2 hn; omega
  | succ n ih =>
    intro s x1 x2 hn hI_s hF_s h_x1l h_x1u h_x2l h_x2u hD 
    exact ok_kX4_readProduct_7 R D hR s0 (kX4_readProduct_7L R  n) ((400 - x2.toInt).toNat) (fun zs zx1 zx2 g0 g1 g2 g3 g4 g5 g6  hm => ih zs zx1 zx2 (by omega) g0 g1 g2 g3 g4 g5 g6 ) s x1 x2 hI_s hF_s h_x1l h_x1u h_x2l h_x2u hD (Nat.le_refl _)
set_option maxHeartbeats 1000000 in
theorem ok_kX4_readProductB (R : KS → Int32 → Option KS) (D : Nat) (hR : ∀ (s : KS) (x1 : Int32), InvK s → 0 ≤ x1.toInt → x1.toInt ≤ 6 → (6 - x1.toInt).toNat < D → Ok (R s x1) (fun y => InvK y ∧ FrK [12, 15, 16, 17, 122] s y)) (s0 : KS)  (s : KS) (x1 : Int32) (hI_s : InvK s) (hF_s : FrK [12, 15, 16, 17, 122] s0 s) (h_x1l : 0 ≤ x1.toInt) (h_x1u : x1.toInt ≤ 6) (hD : (6 - x1.toInt).toNat ≤ D)  : Ok (kX4_readProduct R  s x1) (Q_kX4_readProduct s0) := by
  unfold kX4_readProduct
  refine ok_bindP (ok_kX4_readUnit R D hR _ _ hI_s (by omega) (by omega) (by omega)) (fun s1 hc_1 => ?_)
  have hI_s1 : InvK s1 := hc_1.1
  have hFc_s1 : FrK [12, 15, 16, 17, 122] s s1 := hc_1.2
  have hF_s1 : FrK [12, 15, 16, 17, 122] s0 s1 := hF_s.trans hFc_s1 (by decide)
  have l_0 : (0 : Int32).toInt = 0 := by decide
  exact okL_kX4_readProduct_7 R D hR s0  fu _ _ _ (by unfold fu; omega) hI_s1 hF_s1 (by omega) (by omega) (by decide) (by decide) (by omega) 
theorem ok_kX4_readProduct (R : KS → Int32 → Option KS) (D : Nat) (hR : ∀ (s : KS) (x1 : Int32), InvK s → 0 ≤ x1.toInt → x1.toInt ≤ 6 → (6 - x1.toInt).toNat < D → Ok (R s x1) (fun y => InvK y ∧ FrK [12, 15, 16, 17, 122] s y)) (s : KS) (x1 : Int32) (hI_s : InvK s) (h_x1l : 0 ≤ x1.toInt) (h_x1u : x1.toInt ≤ 6) (hD : (6 - x1.toInt).toNat ≤ D) : Ok (kX4_readProduct R s x1) (Q_kX4_readProduct s) := ok_kX4_readProductB R D hR s s x1 hI_s FrK.rfl h_x1l h_x1u hD
noncomputable abbrev Q_kX5_clear (s0 : KS) (y : KS) : Prop := InvK y ∧ FrK [8, 9, 10, 11, 12, 13, 122, 123, 124, 125] s0 y
set_option maxHeartbeats 1000000 in
theorem ok_kX5_clearB (s0 : KS)  (s : KS) (hI_s : InvK s) (hF_s : FrK [8, 9, 10, 11, 12, 13, 122, 123, 124, 125] s0 s)  : Ok (kX5_clear  s) (Q_kX5_clear s0) := by
  unfold kX5_clear
  refine ok_let (fun s1 hs1 => ?_)
  have hI_s1 : InvK s1 := by rw [← hs1]; exact hI_s.sv (k := 8) (show (0 : Int) ≤ (0 : Int32).toInt by decide) (show (0 : Int32).toInt ≤ (5 : Int) by decide)
  have hF_s1 : FrK [8, 9, 10, 11, 12, 13, 122, 123, 124, 125] s0 s1 := by rw [← hs1]; exact hF_s.sv (k := 8) (by decide)
  refine ok_let (fun s3 hs3 => ?_)
  have hI_s3 : InvK s3 := by rw [← hs3]; exact hI_s1.sv (k := 9) (show (0 : Int) ≤ (0 : Int32).toInt by decide) (show (0 : Int32).toInt ≤ (6 : Int) by decide)
  have hF_s3 : FrK [8, 9, 10, 11, 12, 13, 122, 123, 124, 125] s0 s3 := by rw [← hs3]; exact hF_s1.sv (k := 9) (by decide)
  refine ok_let (fun s5 hs5 => ?_)
  have hI_s5 : InvK s5 := by rw [← hs5]; exact hI_s3.svF (k := 10) rfl rfl
  have hF_s5 : FrK [8, 9, 10, 11, 12, 13, 122, 123, 124, 125] s0 s5 := by rw [← hs5]; exact hF_s3.sv (k := 10) (by decide)
  refine ok_let (fun s7 hs7 => ?_)
  have hI_s7 : InvK s7 := by rw [← hs7]; exact hI_s5.svF (k := 11) rfl rfl
  have hF_s7 : FrK [8, 9, 10, 11, 12, 13, 122, 123, 124, 125] s0 s7 := by rw [← hs7]; exact hF_s5.sv (k := 11) (by decide)
  refine ok_bindP (ok_kX1_clear _  hI_s7) (fun s9 hc_1 => ?_)
  have hI_s9 : InvK s9 := hc_1.1
  have hFc_s9 : FrK [12, 13, 122, 123, 124, 125] s7 s9 := hc_1.2
  have hF_s9 : FrK [8, 9, 10, 11, 12, 13, 122, 123, 124, 125] s0 s9 := hF_s7.trans hFc_s9 (by decide)
  exact ok_some ⟨hI_s9, hF_s9⟩
theorem ok_kX5_clear (s : KS) (hI_s : InvK s) : Ok (kX5_clear s) (Q_kX5_clear s) := ok_kX5_clearB s s hI_s FrK.rfl
noncomputable abbrev Q_kX5_thingThere (s0 : KS) (y : Int32 × KS) : Prop := InvK y.2 ∧ FrK [] s0 y.2 ∧ 0 ≤ y.1.toInt ∧ y.1.toInt ≤ 5
set_option maxHeartbeats 1000000 in
theorem ok_kX5_thingThere_24 (s0 : KS) (k24 : KS → Int32 → Int32 → Int32 → Int32 → Option (Int32 × KS)) (M24 : Nat) (hk24 : ∀ (s : KS) (x1 : Int32) (x4 : Int32) (x5 : Int32) (x6 : Int32), InvK s → FrK [] s0 s → 0 ≤ x1.toInt → x1.toInt ≤ 4 → 0 ≤ x6.toInt → x6.toInt ≤ 6 → (6 - x6.toInt).toNat < M24 → Ok (k24 s x1 x4 x5 x6) (Q_kX5_thingThere s0)) (s : KS) (x1 : Int32) (x4 : Int32) (x5 : Int32) (x6 : Int32) (hI_s : InvK s) (hF_s : FrK [] s0 s) (h_x1l : 0 ≤ x1.toInt) (h_x1u : x1.toInt ≤ 4) (h_x6l : 0 ≤ x6.toInt) (h_x6u : x6.toInt ≤ 6) (hM24 : (6 - x6.toInt).toNat ≤ M24) : Ok (kX5_thingThere_24 k24 s x1 x4 x5 x6) (Q_kX5_thingThere s0) := by
  unfold kX5_thingThere_24
  refine ok_ite (fun c_1 => ?_) (fun c_1 => ?_)
  · have c_1 := tn_le (a := 6) (b := (x6).toInt) (by decide) rfl c_1
    exact ok_some ⟨hI_s, hF_s, by show 0 ≤ (5 : Int32).toInt; decide, by show (5 : Int32).toInt ≤ 5; decide⟩
  · have c_1 := tn_nle (a := 6) (b := (x6).toInt) (by decide) rfl c_1
    refine ok_bindI (ok_kX5_oddsAt _ _ _ hI_s (by omega) (by omega) (by omega) (by omega)) (fun r3 s2 hc_2 => ?_)
    have hI_s2 : InvK s2 := hc_2.1
    have hFc_s2 : FrK [] s s2 := hc_2.2.1
    have hF_s2 : FrK [] s0 s2 := hF_s.trans hFc_s2 (by decide)
    refine ok_ite (fun c_3 => ?_) (fun c_3 => ?_)
    · have c_3 := tn_le (a := ((x5 + r3)).toInt) (b := (x4).toInt) rfl rfl c_3
      have a_4 : ((x6 + 1)).toInt = (x6).toInt + 1 := tn_add rfl (by decide) (by omega) (by omega)
      exact hk24 _ _ _ _ _ hI_s2 hF_s2 (by omega) (by omega) (by omega) (by omega) (by omega)
    · have c_3 := tn_nle (a := ((x5 + r3)).toInt) (b := (x4).toInt) rfl rfl c_3
      exact ok_some ⟨hI_s2, hF_s2, by show 0 ≤ (x6).toInt; omega, by show (x6).toInt ≤ 5; omega⟩
theorem okL_kX5_thingThere_24 (s0 : KS)  : ∀ (n : Nat) (s : KS) (x1 : Int32) (x4 : Int32) (x5 : Int32) (x6 : Int32), (6 - x6.toInt).toNat < n → InvK s → FrK [] s0 s → 0 ≤ x1.toInt → x1.toInt ≤ 4 → 0 ≤ x6.toInt → x6.toInt ≤ 6 → Ok (kX5_thingThere_24L  n s x1 x4 x5 x6) (Q_kX5_thingThere s0) := by
  intro n
  induction n with
  | zero => intro s x1 x4 x5 x6 hn; omega
  | succ n ih =>
    intro s x1 x4 x5 x6 hn hI_s hF_s h_x1l h_x1u h_x6l h_x6u 
    exact ok_kX5_thingThere_24 s0 (kX5_thingThere_24L  n) ((6 - x6.toInt).toNat) (fun zs zx1 zx4 zx5 zx6 g0 g1 g2 g3 g4 g5  hm => ih zs zx1 zx4 zx5 zx6 (by omega) g0 g1 g2 g3 g4 g5 ) s x1 x4 x5 x6 hI_s hF_s h_x1l h_x1u h_x6l h_x6u (Nat.le_refl _)
set_option maxHeartbeats 1000000 in
theorem ok_kX5_thingThereB (s0 : KS)  (s : KS) (x1 : Int32) (x2 : Int32) (x3 : Int32) (hI_s : InvK s) (hF_s : FrK [] s0 s) (h_x1l : 0 ≤ x1.toInt) (h_x1u : x1.toInt ≤ 4)  : Ok (kX5_thingThere  s x1 x2 x3) (Q_kX5_thingThere s0) := by
  unfold kX5_thingThere
  refine ok_grd (vpb_ok (by omega) (by omega)) ?_
  refine ok_bindP (ok_kX10_lot _ _ _ ) (fun r2 hc_1 => ?_)
  have l_0 : (0 : Int32).toInt = 0 := by decide
  exact okL_kX5_thingThere_24 s0  fu _ _ _ _ _ (by unfold fu; omega) hI_s hF_s (by omega) (by omega) (by decide) (by decide) 
theorem ok_kX5_thingThere (s : KS) (x1 : Int32) (x2 : Int32) (x3 : Int32) (hI_s : InvK s) (h_x1l : 0 ≤ x1.toInt) (h_x1u : x1.toInt ≤ 4) : Ok (kX5_thingThere s x1 x2 x3) (Q_kX5_thingThere s) := ok_kX5_thingThereB s s x1 x2 x3 hI_s FrK.rfl h_x1l h_x1u
noncomputable abbrev Q_kX8_believe (s0 : JS) (y : JS) : Prop := InvK y.k ∧ FrK [144, 145] s0.k y.k
set_option maxHeartbeats 1000000 in
theorem ok_kX8_believe_73 (s0 : JS) (k2 : JS → Int32 → Int32 → Option (JS)) (M2 : Nat) (hk2 : ∀ (s : JS) (x2 : Int32) (x3 : Int32), InvK s.k → FrK [144, 145] s0.k s.k → 0 ≤ x2.toInt → x2.toInt ≤ 20 → 0 ≤ x3.toInt → x3.toInt ≤ 5 → (5 - x3.toInt).toNat < M2 → Ok (k2 s x2 x3) (Q_kX8_believe s0)) (k27 : JS → Int32 → Int32 → Int32 → Int32 → Option (JS)) (M27 : Nat) (hk27 : ∀ (s : JS) (x2 : Int32) (x3 : Int32) (x4 : Int32) (x5 : Int32), InvK s.k → FrK [144, 145] s0.k s.k → 0 ≤ x2.toInt → x2.toInt ≤ 20 → 0 ≤ x3.toInt → x3.toInt ≤ 4 → 0 ≤ x5.toInt → x5.toInt ≤ 6 → (5 - x3.toInt).toNat ≤ M2 → (6 - x5.toInt).toNat < M27 → Ok (k27 s x2 x3 x4 x5) (Q_kX8_believe s0)) (s : JS) (x2 : Int32) (x3 : Int32) (x4 : Int32) (x5 : Int32) (x6 : Int32) (t0 : Int32) (t1 : Int32) (hI_s_k : InvK s.k) (hF_s_k : FrK [144, 145] s0.k s.k) (h_x2l : 0 ≤ x2.toInt) (h_x2u : x2.toInt ≤ 20) (h_x3l : 0 ≤ x3.toInt) (h_x3u : x3.toInt ≤ 4) (h_x5l : 0 ≤ x5.toInt) (h_x5u : x5.toInt ≤ 5) (h_x6l : 0 ≤ x6.toInt) (h_x6u : x6.toInt ≤ 29) (h_t1l : 0 ≤ t1.toInt) (h_t1u : t1.toInt ≤ 29) (hM2 : (5 - x3.toInt).toNat ≤ M2) (hM27 : (6 - x5.toInt).toNat ≤ M27) : Ok (kX8_believe_73 k2 k27 s x2 x3 x4 x5 x6 t0 t1) (Q_kX8_believe s0) := by
  unfold kX8_believe_73
  refine ok_grd (vpb_ok (by omega) (by omega)) ?_
  refine ok_let (fun s2 hs2 => ?_)
  have hI_s2_k : InvK s2.k := by rw [← hs2]; exact hI_s_k.sfF (k := 44) rfl rfl
  have hF_s2_k : FrK [144, 145] s0.k s2.k := by rw [← hs2]; exact hF_s_k.sf (k := 44) (by decide)
  refine ok_bindI (ok_kX8_beliedBy _ _ _ _ hI_s2_k (by omega) (by omega) (by omega) (by omega) (by omega) (by omega)) (fun r5 s4 hc_1 => ?_)
  have hI_s4 : InvK s4 := hc_1.1
  have hFc_s4 : FrK [] s2.k s4 := hc_1.2.1
  have hF_s4 : FrK [144, 145] s0.k s4 := hF_s2_k.trans hFc_s4 (by decide)
  have hl_r5 : 0 ≤ r5.toInt := hc_1.2.2.1
  have hu_r5 : r5.toInt ≤ 20 := hc_1.2.2.2
  refine ok_let (fun s6 hs6 => ?_)
  have hI_s6_k : InvK s6.k := by rw [← hs6]; exact hI_s4
  have hF_s6_k : FrK [144, 145] s0.k s6.k := by rw [← hs6]; exact hF_s4
  refine ok_grd (vpb_ok (by omega) (by omega)) ?_
  refine ok_let (fun s9 hs9 => ?_)
  have hI_s9_k : InvK s9.k := by rw [← hs9]; exact hI_s6_k.sf (k := 45) (show (0 : Int) ≤ (r5).toInt by omega) (show (r5).toInt ≤ (20 : Int) by omega)
  have hF_s9_k : FrK [144, 145] s0.k s9.k := by rw [← hs9]; exact hF_s6_k.sf (k := 45) (by decide)
  have a_2 : ((x5 + 1)).toInt = (x5).toInt + 1 := tn_add rfl (by decide) (by omega) (by omega)
  exact hk27 _ _ _ _ _ hI_s9_k hF_s9_k (by omega) (by omega) (by omega) (by omega) (by omega) (by omega) (by omega) (by omega)
set_option maxHeartbeats 1000000 in
theorem ok_kX8_believe_27 (s0 : JS) (k2 : JS → Int32 → Int32 → Option (JS)) (M2 : Nat) (hk2 : ∀ (s : JS) (x2 : Int32) (x3 : Int32), InvK s.k → FrK [144, 145] s0.k s.k → 0 ≤ x2.toInt → x2.toInt ≤ 20 → 0 ≤ x3.toInt → x3.toInt ≤ 5 → (5 - x3.toInt).toNat < M2 → Ok (k2 s x2 x3) (Q_kX8_believe s0)) (k27 : JS → Int32 → Int32 → Int32 → Int32 → Option (JS)) (M27 : Nat) (hk27 : ∀ (s : JS) (x2 : Int32) (x3 : Int32) (x4 : Int32) (x5 : Int32), InvK s.k → FrK [144, 145] s0.k s.k → 0 ≤ x2.toInt → x2.toInt ≤ 20 → 0 ≤ x3.toInt → x3.toInt ≤ 4 → 0 ≤ x5.toInt → x5.toInt ≤ 6 → (5 - x3.toInt).toNat ≤ M2 → (6 - x5.toInt).toNat < M27 → Ok (k27 s x2 x3 x4 x5) (Q_kX8_believe s0)) (s : JS) (x2 : Int32) (x3 : Int32) (x4 : Int32) (x5 : Int32) (hI_s_k : InvK s.k) (hF_s_k : FrK [144, 145] s0.k s.k) (h_x2l : 0 ≤ x2.toInt) (h_x2u : x2.toInt ≤ 20) (h_x3l : 0 ≤ x3.toInt) (h_x3u : x3.toInt ≤ 4) (h_x5l : 0 ≤ x5.toInt) (h_x5u : x5.toInt ≤ 6) (hM2 : (5 - x3.toInt).toNat ≤ M2) (hM27 : (6 - x5.toInt).toNat ≤ M27) : Ok (kX8_believe_27 k2 k27 s x2 x3 x4 x5) (Q_kX8_believe s0) := by
  unfold kX8_believe_27
  refine ok_ite (fun c_1 => ?_) (fun c_1 => ?_)
  · have c_1 := tn_le (a := 6) (b := (x5).toInt) (by decide) rfl c_1
    have a_2 : ((x3 + 1)).toInt = (x3).toInt + 1 := tn_add rfl (by decide) (by omega) (by omega)
    exact hk2 _ _ _ hI_s_k hF_s_k (by omega) (by omega) (by omega) (by omega) (by omega)
  · have c_1 := tn_nle (a := 6) (b := (x5).toInt) (by decide) rfl c_1
    refine ok_bindP (ok_kX10_has _ _ ) (fun r2 hc_3 => ?_)
    have hl_r2 : 0 ≤ r2.toInt := hc_3.1
    have hu_r2 : r2.toInt ≤ 1 := hc_3.2
    refine ok_ite (fun c_4 => ?_) (fun c_4 => ?_)
    · have c_4 := tn_eq (a := (r2).toInt) (b := 0) rfl (by decide) c_4
      have a_5 : ((x3 * 6)).toInt = (x3).toInt * 6 := ti_mulc (c := 6) (by decide) (by omega) (by omega)
      have a_6 : (((x3 * 6) + x5)).toInt = ((x3 * 6)).toInt + (x5).toInt := tn_add rfl rfl (by omega) (by omega)
      have l_0 : (0 : Int32).toInt = 0 := by decide
      exact ok_kX8_believe_73 s0 k2 M2 hk2 k27 M27 hk27 _ _ _ _ _ _ _ _ hI_s_k hF_s_k (by omega) (by omega) (by omega) (by omega) (by omega) (by omega) (by omega) (by omega) (by omega) (by omega) (by omega) (by omega)
    · have c_4 := tn_ne (a := (r2).toInt) (b := 0) rfl (by decide) c_4
      refine ok_bindI (ok_kX5_oddsAt _ _ _ hI_s_k (by omega) (by omega) (by omega) (by omega)) (fun r5 s4 hc_7 => ?_)
      have hI_s4 : InvK s4 := hc_7.1
      have hFc_s4 : FrK [] s.k s4 := hc_7.2.1
      have hF_s4 : FrK [144, 145] s0.k s4 := hF_s_k.trans hFc_s4 (by decide)
      refine ok_let (fun s6 hs6 => ?_)
      have hI_s6_k : InvK s6.k := by rw [← hs6]; exact hI_s4
      have hF_s6_k : FrK [144, 145] s0.k s6.k := by rw [← hs6]; exact hF_s4
      have a_8 : ((x3 * 6)).toInt = (x3).toInt * 6 := ti_mulc (c := 6) (by decide) (by omega) (by omega)
      have a_9 : (((x3 * 6) + x5)).toInt = ((x3 * 6)).toInt + (x5).toInt := tn_add rfl rfl (by omega) (by omega)
      exact ok_kX8_believe_73 s0 k2 M2 hk2 k27 M27 hk27 _ _ _ _ _ _ _ _ hI_s6_k hF_s6_k (by omega) (by omega) (by omega) (by omega) (by omega) (by omega) (by omega) (by omega) (by omega) (by omega) (by omega) (by omega)
theorem okL_kX8_believe_27 (s0 : JS) (k2 : JS → Int32 → Int32 → Option (JS)) (M2 : Nat) (hk2 : ∀ (s : JS) (x2 : Int32) (x3 : Int32), InvK s.k → FrK [144, 145] s0.k s.k → 0 ≤ x2.toInt → x2.toInt ≤ 20 → 0 ≤ x3.toInt → x3.toInt ≤ 5 → (5 - x3.toInt).toNat < M2 → Ok (k2 s x2 x3) (Q_kX8_believe s0)) : ∀ (n : Nat) (s : JS) (x2 : Int32) (x3 : Int32) (x4 : Int32) (x5 : Int32), (6 - x5.toInt).toNat < n → InvK s.k → FrK [144, 145] s0.k s.k → 0 ≤ x2.toInt → x2.toInt ≤ 20 → 0 ≤ x3.toInt → x3.toInt ≤ 4 → 0 ≤ x5.toInt → x5.toInt ≤ 6 → (5 - x3.toInt).toNat ≤ M2 → Ok (kX8_believe_27L k2 n s x2 x3 x4 x5) (Q_kX8_believe s0) := by
  intro n
  induction n with
  | zero => intro s x2 x3 x4 x5 hn; omega
  | succ n ih =>
    intro s x2 x3 x4 x5 hn hI_s_k hF_s_k h_x2l h_x2u h_x3l h_x3u h_x5l h_x5u hM2
    exact ok_kX8_believe_27 s0 k2 M2 hk2 (kX8_believe_27L k2 n) ((6 - x5.toInt).toNat) (fun zs zx2 zx3 zx4 zx5 g0 g1 g2 g3 g4 g5 g6 g7 o2 hm => ih zs zx2 zx3 zx4 zx5 (by omega) g0 g1 g2 g3 g4 g5 g6 g7 o2) s x2 x3 x4 x5 hI_s_k hF_s_k h_x2l h_x2u h_x3l h_x3u h_x5l h_x5u hM2 (Nat.le_refl _)
set_option maxHeartbeats 1000000 in
theorem ok_kX8_believe_2 (s0 : JS) (k2 : JS → Int32 → Int32 → Option (JS)) (M2 : Nat) (hk2 : ∀ (s : JS) (x2 : Int32) (x3 : Int32), InvK s.k → FrK [144, 145] s0.k s.k → 0 ≤ x2.toInt → x2.toInt ≤ 20 → 0 ≤ x3.toInt → x3.toInt ≤ 5 → (5 - x3.toInt).toNat < M2 → Ok (k2 s x2 x3) (Q_kX8_believe s0)) (s : JS) (x2 : Int32) (x3 : Int32) (hI_s_k : InvK s.k) (hF_s_k : FrK [144, 145] s0.k s.k) (h_x2l : 0 ≤ x2.toInt) (h_x2u : x2.toInt ≤ 20) (h_x3l : 0 ≤ x3.toInt) (h_x3u : x3.toInt ≤ 5) (hM2 : (5 - x3.toInt).toNat ≤ M2) : Ok (kX8_believe_2 k2 s x2 x3) (Q_kX8_believe s0) := by
  unfold kX8_believe_2
  have a_1 : 0 ≤ (s.k.v 1).toInt ∧ (s.k.v 1).toInt ≤ 5 := hI_s_k.1 1
  refine ok_ite (fun c_2 => ?_) (fun c_2 => ?_)
  · have c_2 := tn_le (a := ((s.k.v 1)).toInt) (b := (x3).toInt) rfl rfl c_2
    exact ok_some ⟨hI_s_k, hF_s_k⟩
  · have c_2 := tn_nle (a := ((s.k.v 1)).toInt) (b := (x3).toInt) rfl rfl c_2
    refine ok_bindI (ok_kX0_mayBe _ _ hI_s_k (by omega) (by omega)) (fun r3 s2 hc_3 => ?_)
    have hI_s2_k : InvK s2.k := hc_3.1
    have hFc_s2_k : FrK [] s.k s2.k := hc_3.2.1
    have hF_s2_k : FrK [144, 145] s0.k s2.k := hF_s_k.trans hFc_s2_k (by decide)
    have l_0 : (0 : Int32).toInt = 0 := by decide
    exact okL_kX8_believe_27 s0 k2 M2 hk2 fu _ _ _ _ _ (by unfold fu; omega) hI_s2_k hF_s2_k (by omega) (by omega) (by omega) (by omega) (by decide) (by decide) (by omega)
theorem okL_kX8_believe_2 (s0 : JS)  : ∀ (n : Nat) (s : JS) (x2 : Int32) (x3 : Int32), (5 - x3.toInt).toNat < n → InvK s.k → FrK [144, 145] s0.k s.k → 0 ≤ x2.toInt → x2.toInt ≤ 20 → 0 ≤ x3.toInt → x3.toInt ≤ 5 → Ok (kX8_believe_2L  n s x2 x3) (Q_kX8_believe s0) := by
  intro n
  induction n with
  | zero => intro s x2 x3 hn; omega
  | succ n ih =>
    intro s x2 x3 hn hI_s_k hF_s_k h_x2l h_x2u h_x3l h_x3u 
    exact ok_kX8_believe_2 s0 (kX8_believe_2L  n) ((5 - x3.toInt).toNat) (fun zs zx2 zx3 g0 g1 g2 g3 g4 g5  hm => ih zs zx2 zx3 (by omega) g0 g1 g2 g3 g4 g5 ) s x2 x3 hI_s_k hF_s_k h_x2l h_x2u h_x3l h_x3u (Nat.le_refl _)
set_option maxHeartbeats 1000000 in
theorem ok_kX8_believeB (s0 : JS)  (s : JS) (x2 : Int32) (hI_s_k : InvK s.k) (hF_s_k : FrK [144, 145] s0.k s.k) (h_x2l : 0 ≤ x2.toInt) (h_x2u : x2.toInt ≤ 20)  : Ok (kX8_believe  s x2) (Q_kX8_believe s0) := by
  unfold kX8_believe
  have l_0 : (0 : Int32).toInt = 0 := by decide
  exact okL_kX8_believe_2 s0  fu _ _ _ (by unfold fu; omega) hI_s_k hF_s_k (by omega) (by omega) (by decide) (by decide) 
theorem ok_kX8_believe (s : JS) (x2 : Int32) (hI_s_k : InvK s.k) (h_x2l : 0 ≤ x2.toInt) (h_x2u : x2.toInt ≤ 20) : Ok (kX8_believe s x2) (Q_kX8_believe s) := ok_kX8_believeB s s x2 hI_s_k FrK.rfl h_x2l h_x2u
noncomputable abbrev Q_kX9_split (s0 : KS) (y : KS) : Prop := InvK y ∧ FrK [20, 132, 133, 134] s0 y
set_option maxHeartbeats 1000000 in
theorem ok_kX9_split_36 (s0 : KS) (k11 : KS → Int32 → Int32 → Option (KS)) (M11 : Nat) (hk11 : ∀ (s : KS) (x1 : Int32) (x2 : Int32), InvK s → FrK [20, 132, 133, 134] s0 s → 0 ≤ x2.toInt → x2.toInt ≤ 401 → (401 - x2.toInt).toNat < M11 → Ok (k11 s x1 x2) (Q_kX9_split s0)) (s : KS) (x2 : Int32) (hI_s : InvK s) (hF_s : FrK [20, 132, 133, 134] s0 s) (h_x2l : 0 ≤ x2.toInt) (h_x2u : x2.toInt ≤ 400) (hM11 : (401 - x2.toInt).toNat ≤ M11) : Ok (kX9_split_36 k11 s x2) (Q_kX9_split s0) := by
  unfold kX9_split_36
  refine ok_bindP (ok_kX9_skipBlanks _  hI_s) (fun s1 hc_1 => ?_)
  have hI_s1 : InvK s1 := hc_1.1
  have hFc_s1 : FrK [20] s s1 := hc_1.2
  have hF_s1 : FrK [20, 132, 133, 134] s0 s1 := hF_s.trans hFc_s1 (by decide)
  refine ok_grd (vpb_ok (by omega) (by omega)) ?_
  refine ok_let (fun s3 hs3 => ?_)
  have hI_s3 : InvK s3 := by rw [← hs3]; exact hI_s1.sfF (k := 33) rfl rfl
  have hF_s3 : FrK [20, 132, 133, 134] s0 s3 := by rw [← hs3]; exact hF_s1.sf (k := 33) (by decide)
  refine ok_bindI (ok_kX9_splitOne _  hI_s3) (fun r6 s5 hc_2 => ?_)
  have hI_s5 : InvK s5 := hc_2.1
  have hFc_s5 : FrK [20] s3 s5 := hc_2.2.1
  have hF_s5 : FrK [20, 132, 133, 134] s0 s5 := hF_s3.trans hFc_s5 (by decide)
  refine ok_grd (vpb_ok (by omega) (by omega)) ?_
  refine ok_let (fun s8 hs8 => ?_)
  have hI_s8 : InvK s8 := by rw [← hs8]; exact hI_s5.sfF (k := 32) rfl rfl
  have hF_s8 : FrK [20, 132, 133, 134] s0 s8 := by rw [← hs8]; exact hF_s5.sf (k := 32) (by decide)
  refine ok_grd (vpb_ok (by omega) (by omega)) ?_
  refine ok_let (fun s11 hs11 => ?_)
  have hI_s11 : InvK s11 := by rw [← hs11]; exact hI_s8.sg
  have hF_s11 : FrK [20, 132, 133, 134] s0 s11 := by rw [← hs11]; exact hF_s8.sg (k := 34) (by decide)
  have a_3 : ((x2 + 1)).toInt = (x2).toInt + 1 := tn_add rfl (by decide) (by omega) (by omega)
  exact hk11 _ _ _ hI_s11 hF_s11 (by omega) (by omega) (by omega)
set_option maxHeartbeats 1000000 in
theorem ok_kX9_split_11 (s0 : KS) (k11 : KS → Int32 → Int32 → Option (KS)) (M11 : Nat) (hk11 : ∀ (s : KS) (x1 : Int32) (x2 : Int32), InvK s → FrK [20, 132, 133, 134] s0 s → 0 ≤ x2.toInt → x2.toInt ≤ 401 → (401 - x2.toInt).toNat < M11 → Ok (k11 s x1 x2) (Q_kX9_split s0)) (s : KS) (x1 : Int32) (x2 : Int32) (hI_s : InvK s) (hF_s : FrK [20, 132, 133, 134] s0 s) (h_x2l : 0 ≤ x2.toInt) (h_x2u : x2.toInt ≤ 401) (hM11 : (401 - x2.toInt).toNat ≤ M11) : Ok (kX9_split_11 k11 s x1 x2) (Q_kX9_split s0) := by
  unfold kX9_split_11
  refine ok_ite (fun c_1 => ?_) (fun c_1 => ?_)
  · have c_1 := tn_lt (a := 400) (b := (x2).toInt) (by decide) rfl c_1
    exact ok_some ⟨hI_s, hF_s⟩
  · have c_1 := tn_nlt (a := 400) (b := (x2).toInt) (by decide) rfl c_1
    refine ok_ite (fun c_2 => ?_) (fun c_2 => ?_)
    · have c_2 := tn_eq (a := (x2).toInt) (b := 0) rfl (by decide) c_2
      exact ok_kX9_split_36 s0 k11 M11 hk11 _ _ hI_s hF_s (by omega) (by omega) (by omega)
    · have c_2 := tn_ne (a := (x2).toInt) (b := 0) rfl (by decide) c_2
      refine ok_ite (fun c_3 => ?_) (fun c_3 => ?_)
      · have c_3 := tn_eq (a := (x1).toInt) (b := 302) rfl (by decide) c_3
        exact ok_some ⟨hI_s, hF_s⟩
      · have c_3 := tn_ne (a := (x1).toInt) (b := 302) rfl (by decide) c_3
        refine ok_ite (fun c_4 => ?_) (fun c_4 => ?_)
        · have c_4 := tn_eq (a := (x1).toInt) (b := 303) rfl (by decide) c_4
          exact ok_some ⟨hI_s, hF_s⟩
        · have c_4 := tn_ne (a := (x1).toInt) (b := 303) rfl (by decide) c_4
          exact ok_kX9_split_36 s0 k11 M11 hk11 _ _ hI_s hF_s (by omega) (by omega) (by omega)
theorem okL_kX9_split_11 (s0 : KS)  : ∀ (n : Nat) (s : KS) (x1 : Int32) (x2 : Int32), (401 - x2.toInt).toNat < n → InvK s → FrK [20, 132, 133, 134] s0 s → 0 ≤ x2.toInt → x2.toInt ≤ 401 → Ok (kX9_split_11L  n s x1 x2) (Q_kX9_split s0) := by
  intro n
  induction n with
  | zero => intro s x1 x2 hn; omega
  | succ n ih =>
    intro s x1 x2 hn hI_s hF_s h_x2l h_x2u 
    exact ok_kX9_split_11 s0 (kX9_split_11L  n) ((401 - x2.toInt).toNat) (fun zs zx1 zx2 g0 g1 g2 g3  hm => ih zs zx1 zx2 (by omega) g0 g1 g2 g3 ) s x1 x2 hI_s hF_s h_x2l h_x2u (Nat.le_refl _)
set_option maxHeartbeats 1000000 in
theorem ok_kX9_splitB (s0 : KS)  (s : KS) (hI_s : InvK s) (hF_s : FrK [20, 132, 133, 134] s0 s)  : Ok (kX9_split  s) (Q_kX9_split s0) := by
  unfold kX9_split
  refine ok_let (fun s1 hs1 => ?_)
  have hI_s1 : InvK s1 := by rw [← hs1]; exact hI_s.sv (k := 20) (show (0 : Int) ≤ (0 : Int32).toInt by decide) (show (0 : Int32).toInt ≤ (2000 : Int) by decide)
  have hF_s1 : FrK [20, 132, 133, 134] s0 s1 := by rw [← hs1]; exact hF_s.sv (k := 20) (by decide)
  have l_303 : (303 : Int32).toInt = 303 := by decide
  have l_0 : (0 : Int32).toInt = 0 := by decide
  exact okL_kX9_split_11 s0  fu _ _ _ (by unfold fu; omega) hI_s1 hF_s1 (by decide) (by decide) 
theorem ok_kX9_split (s : KS) (hI_s : InvK s) : Ok (kX9_split s) (Q_kX9_split s) := ok_kX9_splitB s s hI_s FrK.rfl
noncomputable abbrev Q_kX10_all (s0 : XS) (y : Int32 × XS) : Prop := InvK y.2.k ∧ FrK [] s0.k y.2.k ∧ InvG y.2.g ∧ -2147483648 ≤ y.1.toInt ∧ y.1.toInt ≤ 2147483647
set_option maxHeartbeats 1000000 in
theorem ok_kX10_allB (s0 : XS)  (s : XS) (hI_s_k : InvK s.k) (hF_s_k : FrK [] s0.k s.k) (hI_s_g : InvG s.g)  : Ok (kX10_all  s) (Q_kX10_all s0) := by
  unfold kX10_all
  refine ok_bindI (ok_kX2_oddsOfAll _ _ hI_s_k (by decide) (by decide)) (fun r2 s1 hc_1 => ?_)
  have hI_s1_k : InvK s1.k := hc_1.1
  have hFc_s1_k : FrK [] s.k s1.k := hc_1.2.1
  have hF_s1_k : FrK [] s0.k s1.k := hF_s_k.trans hFc_s1_k (by decide)
  refine ok_let (fun s3 hs3 => ?_)
  have hI_s3_g : InvG s3.g := by rw [← hs3]; exact hI_s_g
  have hI_s3_k : InvK s3.k := by rw [← hs3]; exact hI_s1_k
  have hF_s3_k : FrK [] s0.k s3.k := by rw [← hs3]; exact hF_s1_k
  exact ok_some ⟨hI_s3_k, hF_s3_k, hI_s3_g, (ti_rng _).1, (ti_rng _).2⟩
theorem ok_kX10_all (s : XS) (hI_s_k : InvK s.k) (hI_s_g : InvG s.g) : Ok (kX10_all s) (Q_kX10_all s) := ok_kX10_allB s s hI_s_k FrK.rfl hI_s_g
noncomputable abbrev Q_kX10_share (s0 : XS) (y : Int32 × XS) : Prop := InvK y.2.k ∧ FrK [] s0.k y.2.k ∧ InvG y.2.g ∧ -2147483648 ≤ y.1.toInt ∧ y.1.toInt ≤ 2147483647
set_option maxHeartbeats 1000000 in
theorem ok_kX10_shareB (s0 : XS)  (s : XS) (x1 : Int32) (x2 : Int32) (hI_s_k : InvK s.k) (hF_s_k : FrK [] s0.k s.k) (hI_s_g : InvG s.g)  : Ok (kX10_share  s x1 x2) (Q_kX10_share s0) := by
  unfold kX10_share
  refine ok_bindI (ok_kX5_hasWave _ _ hI_s_k) (fun r2 s1 hc_1 => ?_)
  have hI_s1 : InvK s1 := hc_1.1
  have hFc_s1 : FrK [] s.k s1 := hc_1.2.1
  have hF_s1 : FrK [] s0.k s1 := hF_s_k.trans hFc_s1 (by decide)
  have hl_r2 : 0 ≤ r2.toInt := hc_1.2.2.1
  have hu_r2 : r2.toInt ≤ 1 := hc_1.2.2.2.1
  have hx0_r2 : (¬ r2.toInt = 0 → 0 ≤ (x1).toInt ∧ (x1).toInt ≤ 4) := hc_1.2.2.2.2
  refine ok_let (fun s3 hs3 => ?_)
  have hI_s3_g : InvG s3.g := by rw [← hs3]; exact hI_s_g
  have hI_s3_k : InvK s3.k := by rw [← hs3]; exact hI_s1
  have hF_s3_k : FrK [] s0.k s3.k := by rw [← hs3]; exact hF_s1
  refine ok_ite (fun c_2 => ?_) (fun c_2 => ?_)
  · have c_2 := tn_eq (a := (r2).toInt) (b := 0) rfl (by decide) c_2
    exact ok_some ⟨hI_s3_k, hF_s3_k, hI_s3_g, (ti_rng _).1, (ti_rng _).2⟩
  · have c_2 := tn_ne (a := (r2).toInt) (b := 0) rfl (by decide) c_2
    refine ok_bindP (ok_kX10_isThing _ ) (fun r6 hc_3 => ?_)
    have hl_r6 : 0 ≤ r6.toInt := hc_3.1
    have hu_r6 : r6.toInt ≤ 1 := hc_3.2.1
    have hx0_r6 : (¬ r6.toInt = 0 → 0 ≤ (x2).toInt ∧ (x2).toInt ≤ 5) := hc_3.2.2
    refine ok_ite (fun c_4 => ?_) (fun c_4 => ?_)
    · have c_4 := tn_eq (a := (r6).toInt) (b := 0) rfl (by decide) c_4
      exact ok_some ⟨hI_s3_k, hF_s3_k, hI_s3_g, (ti_rng _).1, (ti_rng _).2⟩
    · have c_4 := tn_ne (a := (r6).toInt) (b := 0) rfl (by decide) c_4
      refine ok_bindI (ok_kX0_mayBe _ _ hI_s3_k (by omega) (by omega)) (fun r9 s8 hc_5 => ?_)
      have hI_s8_k : InvK s8.k := hc_5.1
      have hFc_s8_k : FrK [] s3.k s8.k := hc_5.2.1
      have hF_s8_k : FrK [] s0.k s8.k := hF_s3_k.trans hFc_s8_k (by decide)
      refine ok_let (fun s10 hs10 => ?_)
      have hI_s10_g : InvG s10.g := by rw [← hs10]; exact hI_s3_g
      have hI_s10_k : InvK s10.k := by rw [← hs10]; exact hI_s8_k
      have hF_s10_k : FrK [] s0.k s10.k := by rw [← hs10]; exact hF_s8_k
      refine ok_bindP (ok_kX10_has _ _ ) (fun r12 hc_6 => ?_)
      have hl_r12 : 0 ≤ r12.toInt := hc_6.1
      have hu_r12 : r12.toInt ≤ 1 := hc_6.2
      refine ok_ite (fun c_7 => ?_) (fun c_7 => ?_)
      · have c_7 := tn_eq (a := (r12).toInt) (b := 0) rfl (by decide) c_7
        exact ok_some ⟨hI_s10_k, hF_s10_k, hI_s10_g, (ti_rng _).1, (ti_rng _).2⟩
      · have c_7 := tn_ne (a := (r12).toInt) (b := 0) rfl (by decide) c_7
        refine ok_bindI (ok_kX5_oddsAt _ _ _ hI_s10_k (by omega) (by omega) (by omega) (by omega)) (fun r15 s14 hc_8 => ?_)
        have hI_s14 : InvK s14 := hc_8.1
        have hFc_s14 : FrK [] s10.k s14 := hc_8.2.1
        have hF_s14 : FrK [] s0.k s14 := hF_s10_k.trans hFc_s14 (by decide)
        refine ok_let (fun s16 hs16 => ?_)
        have hI_s16_g : InvG s16.g := by rw [← hs16]; exact hI_s10_g
        have hI_s16_k : InvK s16.k := by rw [← hs16]; exact hI_s14
        have hF_s16_k : FrK [] s0.k s16.k := by rw [← hs16]; exact hF_s14
        refine ok_bindI (ok_kX2_oddsOfAll _ _ hI_s16_k (by omega) (by omega)) (fun r19 s18 hc_9 => ?_)
        have hI_s18_k : InvK s18.k := hc_9.1
        have hFc_s18_k : FrK [] s16.k s18.k := hc_9.2.1
        have hF_s18_k : FrK [] s0.k s18.k := hF_s16_k.trans hFc_s18_k (by decide)
        refine ok_let (fun s20 hs20 => ?_)
        have hI_s20_g : InvG s20.g := by rw [← hs20]; exact hI_s16_g
        have hI_s20_k : InvK s20.k := by rw [← hs20]; exact hI_s18_k
        have hF_s20_k : FrK [] s0.k s20.k := by rw [← hs20]; exact hF_s18_k
        exact ok_some ⟨hI_s20_k, hF_s20_k, hI_s20_g, (ti_rng _).1, (ti_rng _).2⟩
theorem ok_kX10_share (s : XS) (x1 : Int32) (x2 : Int32) (hI_s_k : InvK s.k) (hI_s_g : InvG s.g) : Ok (kX10_share s x1 x2) (Q_kX10_share s) := ok_kX10_shareB s s x1 x2 hI_s_k FrK.rfl hI_s_g
noncomputable abbrev Q_kX10_drawn (s0 : XS) (y : Int32 × XS) : Prop := InvK y.2.k ∧ FrK [] s0.k y.2.k ∧ InvG y.2.g ∧ -2147483648 ≤ y.1.toInt ∧ y.1.toInt ≤ 2147483647
set_option maxHeartbeats 1000000 in
theorem ok_kX10_drawn_29 (s0 : XS) (k29 : XS → Int32 → Int32 → Int32 → Int32 → Option (Int32 × XS)) (M29 : Nat) (hk29 : ∀ (s : XS) (x1 : Int32) (x2 : Int32) (x3 : Int32) (x4 : Int32), InvK s.k → FrK [] s0.k s.k → InvG s.g → 0 ≤ x1.toInt → x1.toInt ≤ 4 → 1 ≤ x2.toInt → x2.toInt ≤ 20 → 0 ≤ x4.toInt → x4.toInt ≤ 20 → (20 - x4.toInt).toNat < M29 → Ok (k29 s x1 x2 x3 x4) (Q_kX10_drawn s0)) (s : XS) (x1 : Int32) (x2 : Int32) (x3 : Int32) (x4 : Int32) (hI_s_k : InvK s.k) (hF_s_k : FrK [] s0.k s.k) (hI_s_g : InvG s.g) (h_x1l : 0 ≤ x1.toInt) (h_x1u : x1.toInt ≤ 4) (h_x2l : 1 ≤ x2.toInt) (h_x2u : x2.toInt ≤ 20) (h_x4l : 0 ≤ x4.toInt) (h_x4u : x4.toInt ≤ 20) (hM29 : (20 - x4.toInt).toNat ≤ M29) : Ok (kX10_drawn_29 k29 s x1 x2 x3 x4) (Q_kX10_drawn s0) := by
  unfold kX10_drawn_29
  refine ok_ite (fun c_1 => ?_) (fun c_1 => ?_)
  · have c_1 := tn_le (a := (x2).toInt) (b := (x4).toInt) rfl rfl c_1
    refine ok_bindP (ok_kJ6_bitCount_0f7a4 _ ) (fun r2 hc_2 => ?_)
    exact ok_some ⟨hI_s_k, hF_s_k, hI_s_g, (ti_rng _).1, (ti_rng _).2⟩
  · have c_1 := tn_nle (a := (x2).toInt) (b := (x4).toInt) rfl rfl c_1
    refine ok_grd (vpb_ok (by omega) (by omega)) ?_
    refine ok_bindI (ok_kX5_thingThere _ _ _ _ hI_s_k (by omega) (by omega)) (fun r5 s4 hc_3 => ?_)
    have hI_s4 : InvK s4 := hc_3.1
    have hFc_s4 : FrK [] s.k s4 := hc_3.2.1
    have hF_s4 : FrK [] s0.k s4 := hF_s_k.trans hFc_s4 (by decide)
    have hl_r5 : 0 ≤ r5.toInt := hc_3.2.2.1
    have hu_r5 : r5.toInt ≤ 5 := hc_3.2.2.2
    refine ok_let (fun s6 hs6 => ?_)
    have hI_s6_g : InvG s6.g := by rw [← hs6]; exact hI_s_g
    have hI_s6_k : InvK s6.k := by rw [← hs6]; exact hI_s4
    have hF_s6_k : FrK [] s0.k s6.k := by rw [← hs6]; exact hF_s4
    have a_4 : ((x4 + 1)).toInt = (x4).toInt + 1 := tn_add rfl (by decide) (by omega) (by omega)
    exact hk29 _ _ _ _ _ hI_s6_k hF_s6_k hI_s6_g (by omega) (by omega) (by omega) (by omega) (by omega) (by omega) (by omega)
theorem okL_kX10_drawn_29 (s0 : XS)  : ∀ (n : Nat) (s : XS) (x1 : Int32) (x2 : Int32) (x3 : Int32) (x4 : Int32), (20 - x4.toInt).toNat < n → InvK s.k → FrK [] s0.k s.k → InvG s.g → 0 ≤ x1.toInt → x1.toInt ≤ 4 → 1 ≤ x2.toInt → x2.toInt ≤ 20 → 0 ≤ x4.toInt → x4.toInt ≤ 20 → Ok (kX10_drawn_29L  n s x1 x2 x3 x4) (Q_kX10_drawn s0) := by
  intro n
  induction n with
  | zero => intro s x1 x2 x3 x4 hn; omega
  | succ n ih =>
    intro s x1 x2 x3 x4 hn hI_s_k hF_s_k hI_s_g h_x1l h_x1u h_x2l h_x2u h_x4l h_x4u 
    exact ok_kX10_drawn_29 s0 (kX10_drawn_29L  n) ((20 - x4.toInt).toNat) (fun zs zx1 zx2 zx3 zx4 g0 g1 g2 g3 g4 g5 g6 g7 g8  hm => ih zs zx1 zx2 zx3 zx4 (by omega) g0 g1 g2 g3 g4 g5 g6 g7 g8 ) s x1 x2 x3 x4 hI_s_k hF_s_k hI_s_g h_x1l h_x1u h_x2l h_x2u h_x4l h_x4u (Nat.le_refl _)
set_option maxHeartbeats 1000000 in
theorem ok_kX10_drawnB (s0 : XS)  (s : XS) (x1 : Int32) (x2 : Int32) (hI_s_k : InvK s.k) (hF_s_k : FrK [] s0.k s.k) (hI_s_g : InvG s.g)  : Ok (kX10_drawn  s x1 x2) (Q_kX10_drawn s0) := by
  unfold kX10_drawn
  refine ok_bindI (ok_kX5_hasWave _ _ hI_s_k) (fun r2 s1 hc_1 => ?_)
  have hI_s1 : InvK s1 := hc_1.1
  have hFc_s1 : FrK [] s.k s1 := hc_1.2.1
  have hF_s1 : FrK [] s0.k s1 := hF_s_k.trans hFc_s1 (by decide)
  have hl_r2 : 0 ≤ r2.toInt := hc_1.2.2.1
  have hu_r2 : r2.toInt ≤ 1 := hc_1.2.2.2.1
  have hx0_r2 : (¬ r2.toInt = 0 → 0 ≤ (x1).toInt ∧ (x1).toInt ≤ 4) := hc_1.2.2.2.2
  refine ok_let (fun s3 hs3 => ?_)
  have hI_s3_g : InvG s3.g := by rw [← hs3]; exact hI_s_g
  have hI_s3_k : InvK s3.k := by rw [← hs3]; exact hI_s1
  have hF_s3_k : FrK [] s0.k s3.k := by rw [← hs3]; exact hF_s1
  refine ok_ite (fun c_2 => ?_) (fun c_2 => ?_)
  · have c_2 := tn_eq (a := (r2).toInt) (b := 0) rfl (by decide) c_2
    exact ok_some ⟨hI_s3_k, hF_s3_k, hI_s3_g, (ti_rng _).1, (ti_rng _).2⟩
  · have c_2 := tn_ne (a := (r2).toInt) (b := 0) rfl (by decide) c_2
    refine ok_ite (fun c_3 => ?_) (fun c_3 => ?_)
    · have c_3 := tn_lt (a := (x2).toInt) (b := 1) rfl (by decide) c_3
      exact ok_some ⟨hI_s3_k, hF_s3_k, hI_s3_g, (ti_rng _).1, (ti_rng _).2⟩
    · have c_3 := tn_nlt (a := (x2).toInt) (b := 1) rfl (by decide) c_3
      refine ok_ite (fun c_4 => ?_) (fun c_4 => ?_)
      · have c_4 := tn_le (a := (x2).toInt) (b := 20) rfl (by decide) c_4
        have l_0 : (0 : Int32).toInt = 0 := by decide
        exact okL_kX10_drawn_29 s0  fu _ _ _ _ _ (by unfold fu; omega) hI_s3_k hF_s3_k hI_s3_g (by omega) (by omega) (by omega) (by omega) (by decide) (by decide) 
      · have c_4 := tn_nle (a := (x2).toInt) (b := 20) rfl (by decide) c_4
        exact ok_some ⟨hI_s3_k, hF_s3_k, hI_s3_g, (ti_rng _).1, (ti_rng _).2⟩
theorem ok_kX10_drawn (s : XS) (x1 : Int32) (x2 : Int32) (hI_s_k : InvK s.k) (hI_s_g : InvG s.g) : Ok (kX10_drawn s x1 x2) (Q_kX10_drawn s) := ok_kX10_drawnB s s x1 x2 hI_s_k FrK.rfl hI_s_g
end
section
noncomputable abbrev Q_kX10_fit (s0 : XS) (y : Int32 × XS) : Prop := InvK y.2.k ∧ FrK [144, 145, 146] s0.k y.2.k ∧ InvG y.2.g ∧ -2147483648 ≤ y.1.toInt ∧ y.1.toInt ≤ 2147483647
set_option maxHeartbeats 1000000 in
theorem ok_kX10_fit_50 (s0 : XS)  (s : XS) (t0 : Int32) (t1 : Int32) (hI_s_k : InvK s.k) (hF_s_k : FrK [144, 145, 146] s0.k s.k) (hI_s_g : InvG s.g) (h_t0l : 0 ≤ t0.toInt) (h_t0u : t0.toInt ≤ 1) (h_t1l : 0 ≤ t1.toInt) (h_t1u : t1.toInt ≤ 3)  : Ok (kX10_fit_50  s t0 t1) (Q_kX10_fit s0) := by
  unfold kX10_fit_50
  refine ok_bindI (ok_kX8_fitting _ _ _ hI_s_k (by omega) (by omega) (by omega) (by omega)) (fun r2 s1 hc_1 => ?_)
  have hI_s1 : InvK s1 := hc_1.1
  have hFc_s1 : FrK [146] s.k s1 := hc_1.2.1
  have hF_s1 : FrK [144, 145, 146] s0.k s1 := hF_s_k.trans hFc_s1 (by decide)
  refine ok_let (fun s3 hs3 => ?_)
  have hI_s3_g : InvG s3.g := by rw [← hs3]; exact hI_s_g
  have hI_s3_k : InvK s3.k := by rw [← hs3]; exact hI_s1
  have hF_s3_k : FrK [144, 145, 146] s0.k s3.k := by rw [← hs3]; exact hF_s1
  exact ok_some ⟨hI_s3_k, hF_s3_k, hI_s3_g, (ti_rng _).1, (ti_rng _).2⟩
set_option maxHeartbeats 1000000 in
theorem ok_kX10_fitB (s0 : XS)  (s : XS) (x1 : Int32) (x2 : Int32) (x3 : Int32) (hI_s_k : InvK s.k) (hF_s_k : FrK [144, 145, 146] s0.k s.k) (hI_s_g : InvG s.g)  : Ok (kX10_fit  s x1 x2 x3) (Q_kX10_fit s0) := by
  unfold kX10_fit
  refine ok_bindI (ok_kX8_areSuch _ _ _ hI_s_k) (fun r2 s1 hc_1 => ?_)
  have hI_s1 : InvK s1 := hc_1.1
  have hFc_s1 : FrK [] s.k s1 := hc_1.2.1
  have hF_s1 : FrK [144, 145, 146] s0.k s1 := hF_s_k.trans hFc_s1 (by decide)
  have hl_r2 : 0 ≤ r2.toInt := hc_1.2.2.1
  have hu_r2 : r2.toInt ≤ 1 := hc_1.2.2.2.1
  have hx0_r2 : (¬ r2.toInt = 0 → 0 ≤ (x1).toInt ∧ (x1).toInt ≤ 20 ∧ 0 ≤ (x2).toInt ∧ (x2).toInt ≤ 3) := hc_1.2.2.2.2
  refine ok_let (fun s3 hs3 => ?_)
  have hI_s3_g : InvG s3.g := by rw [← hs3]; exact hI_s_g
  have hI_s3_k : InvK s3.k := by rw [← hs3]; exact hI_s1
  have hF_s3_k : FrK [144, 145, 146] s0.k s3.k := by rw [← hs3]; exact hF_s1
  refine ok_ite (fun c_2 => ?_) (fun c_2 => ?_)
  · have c_2 := tn_eq (a := (r2).toInt) (b := 0) rfl (by decide) c_2
    exact ok_some ⟨hI_s3_k, hF_s3_k, hI_s3_g, (ti_rng _).1, (ti_rng _).2⟩
  · have c_2 := tn_ne (a := (r2).toInt) (b := 0) rfl (by decide) c_2
    refine ok_ite (fun c_3 => ?_) (fun c_3 => ?_)
    · have c_3 := tn_lt (a := (x3).toInt) (b := 0) rfl (by decide) c_3
      exact ok_some ⟨hI_s3_k, hF_s3_k, hI_s3_g, (ti_rng _).1, (ti_rng _).2⟩
    · have c_3 := tn_nlt (a := (x3).toInt) (b := 0) rfl (by decide) c_3
      refine ok_ite (fun c_4 => ?_) (fun c_4 => ?_)
      · have c_4 := tn_le (a := (x3).toInt) (b := 1) rfl (by decide) c_4
        refine ok_bindP (ok_kX8_believe _ _ hI_s3_k (by omega) (by omega)) (fun s8 hc_5 => ?_)
        have hI_s8_k : InvK s8.k := hc_5.1
        have hFc_s8_k : FrK [144, 145] s3.k s8.k := hc_5.2
        have hF_s8_k : FrK [144, 145, 146] s0.k s8.k := hF_s3_k.trans hFc_s8_k (by decide)
        refine ok_let (fun s9 hs9 => ?_)
        have hI_s9_g : InvG s9.g := by rw [← hs9]; exact hI_s3_g
        have hI_s9_k : InvK s9.k := by rw [← hs9]; exact hI_s8_k
        have hF_s9_k : FrK [144, 145, 146] s0.k s9.k := by rw [← hs9]; exact hF_s8_k
        refine ok_ite (fun c_6 => ?_) (fun c_6 => ?_)
        · have c_6 := tn_eq (a := (x3).toInt) (b := 1) rfl (by decide) c_6
          have l_1 : (1 : Int32).toInt = 1 := by decide
          exact ok_kX10_fit_50 s0  _ _ _ hI_s9_k hF_s9_k hI_s9_g (by decide) (by decide) (by omega) (by omega) 
        · have c_6 := tn_ne (a := (x3).toInt) (b := 1) rfl (by decide) c_6
          have l_0 : (0 : Int32).toInt = 0 := by decide
          exact ok_kX10_fit_50 s0  _ _ _ hI_s9_k hF_s9_k hI_s9_g (by decide) (by decide) (by omega) (by omega) 
      · have c_4 := tn_nle (a := (x3).toInt) (b := 1) rfl (by decide) c_4
        exact ok_some ⟨hI_s3_k, hF_s3_k, hI_s3_g, (ti_rng _).1, (ti_rng _).2⟩
theorem ok_kX10_fit (s : XS) (x1 : Int32) (x2 : Int32) (x3 : Int32) (hI_s_k : InvK s.k) (hI_s_g : InvG s.g) : Ok (kX10_fit s x1 x2 x3) (Q_kX10_fit s) := ok_kX10_fitB s s x1 x2 x3 hI_s_k FrK.rfl hI_s_g
noncomputable abbrev Q_kX10_lie (s0 : XS) (y : Int32 × XS) : Prop := InvK y.2.k ∧ FrK [144, 145, 146] s0.k y.2.k ∧ InvG y.2.g ∧ -2147483648 ≤ y.1.toInt ∧ y.1.toInt ≤ 2147483647
set_option maxHeartbeats 1000000 in
theorem ok_kX10_lieB (s0 : XS)  (s : XS) (x1 : Int32) (x2 : Int32) (hI_s_k : InvK s.k) (hF_s_k : FrK [144, 145, 146] s0.k s.k) (hI_s_g : InvG s.g)  : Ok (kX10_lie  s x1 x2) (Q_kX10_lie s0) := by
  unfold kX10_lie
  refine ok_bindI (ok_kX8_areSuch _ _ _ hI_s_k) (fun r2 s1 hc_1 => ?_)
  have hI_s1 : InvK s1 := hc_1.1
  have hFc_s1 : FrK [] s.k s1 := hc_1.2.1
  have hF_s1 : FrK [144, 145, 146] s0.k s1 := hF_s_k.trans hFc_s1 (by decide)
  have hl_r2 : 0 ≤ r2.toInt := hc_1.2.2.1
  have hu_r2 : r2.toInt ≤ 1 := hc_1.2.2.2.1
  have hx0_r2 : (¬ r2.toInt = 0 → 0 ≤ (x1).toInt ∧ (x1).toInt ≤ 20 ∧ 0 ≤ (x2).toInt ∧ (x2).toInt ≤ 3) := hc_1.2.2.2.2
  refine ok_let (fun s3 hs3 => ?_)
  have hI_s3_g : InvG s3.g := by rw [← hs3]; exact hI_s_g
  have hI_s3_k : InvK s3.k := by rw [← hs3]; exact hI_s1
  have hF_s3_k : FrK [144, 145, 146] s0.k s3.k := by rw [← hs3]; exact hF_s1
  refine ok_ite (fun c_2 => ?_) (fun c_2 => ?_)
  · have c_2 := tn_eq (a := (r2).toInt) (b := 0) rfl (by decide) c_2
    exact ok_some ⟨hI_s3_k, hF_s3_k, hI_s3_g, (ti_rng _).1, (ti_rng _).2⟩
  · have c_2 := tn_ne (a := (r2).toInt) (b := 0) rfl (by decide) c_2
    refine ok_bindP (ok_kX8_believe _ _ hI_s3_k (by omega) (by omega)) (fun s6 hc_3 => ?_)
    have hI_s6_k : InvK s6.k := hc_3.1
    have hFc_s6_k : FrK [144, 145] s3.k s6.k := hc_3.2
    have hF_s6_k : FrK [144, 145, 146] s0.k s6.k := hF_s3_k.trans hFc_s6_k (by decide)
    refine ok_let (fun s7 hs7 => ?_)
    have hI_s7_g : InvG s7.g := by rw [← hs7]; exact hI_s3_g
    have hI_s7_k : InvK s7.k := by rw [← hs7]; exact hI_s6_k
    have hF_s7_k : FrK [144, 145, 146] s0.k s7.k := by rw [← hs7]; exact hF_s6_k
    refine ok_bindI (ok_kX8_liars _ _ _ hI_s7_k (by omega) (by omega) (by omega) (by omega)) (fun r10 s9 hc_4 => ?_)
    have hI_s9 : InvK s9 := hc_4.1
    have hFc_s9 : FrK [146] s7.k s9 := hc_4.2.1
    have hF_s9 : FrK [144, 145, 146] s0.k s9 := hF_s7_k.trans hFc_s9 (by decide)
    refine ok_let (fun s11 hs11 => ?_)
    have hI_s11_g : InvG s11.g := by rw [← hs11]; exact hI_s7_g
    have hI_s11_k : InvK s11.k := by rw [← hs11]; exact hI_s9
    have hF_s11_k : FrK [144, 145, 146] s0.k s11.k := by rw [← hs11]; exact hF_s9
    exact ok_some ⟨hI_s11_k, hF_s11_k, hI_s11_g, (ti_rng _).1, (ti_rng _).2⟩
theorem ok_kX10_lie (s : XS) (x1 : Int32) (x2 : Int32) (hI_s_k : InvK s.k) (hI_s_g : InvG s.g) : Ok (kX10_lie s x1 x2) (Q_kX10_lie s) := ok_kX10_lieB s s x1 x2 hI_s_k FrK.rfl hI_s_g
noncomputable abbrev Q_kX10_ask (s0 : XS) (y : Int32 × XS) : Prop := InvK y.2.k ∧ FrK [144, 145, 146] s0.k y.2.k ∧ InvG y.2.g ∧ -2 ≤ y.1.toInt ∧ y.1.toInt ≤ 4
set_option maxHeartbeats 1000000 in
theorem ok_kX10_askB (s0 : XS)  (s : XS) (x1 : Int32) (x2 : Int32) (hI_s_k : InvK s.k) (hF_s_k : FrK [144, 145, 146] s0.k s.k) (hI_s_g : InvG s.g)  : Ok (kX10_ask  s x1 x2) (Q_kX10_ask s0) := by
  unfold kX10_ask
  refine ok_bindI (ok_kX8_areSuch _ _ _ hI_s_k) (fun r2 s1 hc_1 => ?_)
  have hI_s1 : InvK s1 := hc_1.1
  have hFc_s1 : FrK [] s.k s1 := hc_1.2.1
  have hF_s1 : FrK [144, 145, 146] s0.k s1 := hF_s_k.trans hFc_s1 (by decide)
  have hl_r2 : 0 ≤ r2.toInt := hc_1.2.2.1
  have hu_r2 : r2.toInt ≤ 1 := hc_1.2.2.2.1
  have hx0_r2 : (¬ r2.toInt = 0 → 0 ≤ (x1).toInt ∧ (x1).toInt ≤ 20 ∧ 0 ≤ (x2).toInt ∧ (x2).toInt ≤ 3) := hc_1.2.2.2.2
  refine ok_let (fun s3 hs3 => ?_)
  have hI_s3_g : InvG s3.g := by rw [← hs3]; exact hI_s_g
  have hI_s3_k : InvK s3.k := by rw [← hs3]; exact hI_s1
  have hF_s3_k : FrK [144, 145, 146] s0.k s3.k := by rw [← hs3]; exact hF_s1
  refine ok_ite (fun c_2 => ?_) (fun c_2 => ?_)
  · have c_2 := tn_eq (a := (r2).toInt) (b := 0) rfl (by decide) c_2
    exact ok_some ⟨hI_s3_k, hF_s3_k, hI_s3_g, by show -2 ≤ ((-1) : Int32).toInt; decide, by show ((-1) : Int32).toInt ≤ 4; decide⟩
  · have c_2 := tn_ne (a := (r2).toInt) (b := 0) rfl (by decide) c_2
    refine ok_bindP (ok_kX8_believe _ _ hI_s3_k (by omega) (by omega)) (fun s6 hc_3 => ?_)
    have hI_s6_k : InvK s6.k := hc_3.1
    have hFc_s6_k : FrK [144, 145] s3.k s6.k := hc_3.2
    have hF_s6_k : FrK [144, 145, 146] s0.k s6.k := hF_s3_k.trans hFc_s6_k (by decide)
    refine ok_let (fun s7 hs7 => ?_)
    have hI_s7_g : InvG s7.g := by rw [← hs7]; exact hI_s3_g
    have hI_s7_k : InvK s7.k := by rw [← hs7]; exact hI_s6_k
    have hF_s7_k : FrK [144, 145, 146] s0.k s7.k := by rw [← hs7]; exact hF_s6_k
    refine ok_bindI (ok_kX8_waveToAsk _ _ hI_s7_k (by omega) (by omega)) (fun r10 s9 hc_4 => ?_)
    have hI_s9 : InvK s9 := hc_4.1
    have hFc_s9 : FrK [146] s7.k s9 := hc_4.2.1
    have hF_s9 : FrK [144, 145, 146] s0.k s9 := hF_s7_k.trans hFc_s9 (by decide)
    have hl_r10 : -2 ≤ r10.toInt := hc_4.2.2.1
    have hu_r10 : r10.toInt ≤ 4 := hc_4.2.2.2
    refine ok_let (fun s11 hs11 => ?_)
    have hI_s11_g : InvG s11.g := by rw [← hs11]; exact hI_s7_g
    have hI_s11_k : InvK s11.k := by rw [← hs11]; exact hI_s9
    have hF_s11_k : FrK [144, 145, 146] s0.k s11.k := by rw [← hs11]; exact hF_s9
    exact ok_some ⟨hI_s11_k, hF_s11_k, hI_s11_g, by show -2 ≤ (r10).toInt; omega, by show (r10).toInt ≤ 4; omega⟩
theorem ok_kX10_ask (s : XS) (x1 : Int32) (x2 : Int32) (hI_s_k : InvK s.k) (hI_s_g : InvG s.g) : Ok (kX10_ask s x1 x2) (Q_kX10_ask s) := ok_kX10_askB s s x1 x2 hI_s_k FrK.rfl hI_s_g
noncomputable abbrev Q_kX0_thereNow (s0 : JS) (y : Int32 × JS) : Prop := InvK y.2.k ∧ FrK [] s0.k y.2.k ∧ 0 ≤ y.1.toInt ∧ y.1.toInt ≤ 5
set_option maxHeartbeats 1000000 in
theorem ok_kX0_thereNowB (s0 : JS)  (s : JS) (x2 : Int32) (hI_s_k : InvK s.k) (hF_s_k : FrK [] s0.k s.k) (h_x2l : 0 ≤ x2.toInt) (h_x2u : x2.toInt ≤ 4)  : Ok (kX0_thereNow  s x2) (Q_kX0_thereNow s0) := by
  unfold kX0_thereNow
  refine ok_grd (vpb_ok (by omega) (by omega)) ?_
  refine ok_bindI (ok_kX5_thingThere _ _ _ _ hI_s_k (by omega) (by omega)) (fun r3 s2 hc_1 => ?_)
  have hI_s2 : InvK s2 := hc_1.1
  have hFc_s2 : FrK [] s.k s2 := hc_1.2.1
  have hF_s2 : FrK [] s0.k s2 := hF_s_k.trans hFc_s2 (by decide)
  have hl_r3 : 0 ≤ r3.toInt := hc_1.2.2.1
  have hu_r3 : r3.toInt ≤ 5 := hc_1.2.2.2
  refine ok_let (fun s4 hs4 => ?_)
  have hI_s4_k : InvK s4.k := by rw [← hs4]; exact hI_s2
  have hF_s4_k : FrK [] s0.k s4.k := by rw [← hs4]; exact hF_s2
  exact ok_some ⟨hI_s4_k, hF_s4_k, by show 0 ≤ (r3).toInt; omega, by show (r3).toInt ≤ 5; omega⟩
theorem ok_kX0_thereNow (s : JS) (x2 : Int32) (hI_s_k : InvK s.k) (h_x2l : 0 ≤ x2.toInt) (h_x2u : x2.toInt ≤ 4) : Ok (kX0_thereNow s x2) (Q_kX0_thereNow s) := ok_kX0_thereNowB s s x2 hI_s_k FrK.rfl h_x2l h_x2u
noncomputable abbrev Q_kX0_guessThere (s0 : JS) (y : Int32 × JS) : Prop := InvK y.2.k ∧ FrK [] s0.k y.2.k ∧ -2147483648 ≤ y.1.toInt ∧ y.1.toInt ≤ 2147483647
set_option maxHeartbeats 1000000 in
theorem ok_kX0_guessThere_13 (s0 : JS) (k13 : JS → Int32 → Int32 → Int32 → Option (Int32 × JS)) (M13 : Nat) (hk13 : ∀ (s : JS) (x2 : Int32) (x3 : Int32) (x4 : Int32), InvK s.k → FrK [] s0.k s.k → -1 ≤ x4.toInt → x4.toInt ≤ 4 → (x4.toInt - (-1)).toNat < M13 → Ok (k13 s x2 x3 x4) (Q_kX0_guessThere s0)) (s : JS) (x2 : Int32) (x3 : Int32) (x4 : Int32) (hI_s_k : InvK s.k) (hF_s_k : FrK [] s0.k s.k) (h_x4l : -1 ≤ x4.toInt) (h_x4u : x4.toInt ≤ 4) (hM13 : (x4.toInt - (-1)).toNat ≤ M13) : Ok (kX0_guessThere_13 k13 s x2 x3 x4) (Q_kX0_guessThere s0) := by
  unfold kX0_guessThere_13
  rw [show x4 + (-1) = x4 - 1 from (Int32.sub_eq_add_neg x4 1).symm]
  refine ok_ite (fun c_1 => ?_) (fun c_1 => ?_)
  · have c_1 := tn_lt (a := (x4).toInt) (b := 0) rfl (by decide) c_1
    exact ok_some ⟨hI_s_k, hF_s_k, (ti_rng _).1, (ti_rng _).2⟩
  · have c_1 := tn_nlt (a := (x4).toInt) (b := 0) rfl (by decide) c_1
    refine ok_grd (vpb_ok (by omega) (by omega)) ?_
    refine ok_bindI (ok_kX5_thingThere _ _ _ _ hI_s_k (by omega) (by omega)) (fun r4 s3 hc_2 => ?_)
    have hI_s3 : InvK s3 := hc_2.1
    have hFc_s3 : FrK [] s.k s3 := hc_2.2.1
    have hF_s3 : FrK [] s0.k s3 := hF_s_k.trans hFc_s3 (by decide)
    have hl_r4 : 0 ≤ r4.toInt := hc_2.2.2.1
    have hu_r4 : r4.toInt ≤ 5 := hc_2.2.2.2
    refine ok_let (fun s5 hs5 => ?_)
    have hI_s5_k : InvK s5.k := by rw [← hs5]; exact hI_s3
    have hF_s5_k : FrK [] s0.k s5.k := by rw [← hs5]; exact hF_s3
    have a_3 : ((x4 - 1)).toInt = (x4).toInt - 1 := tn_sub rfl (by decide) (by omega) (by omega)
    exact hk13 _ _ _ _ hI_s5_k hF_s5_k (by omega) (by omega) (by omega)
theorem okL_kX0_guessThere_13 (s0 : JS)  : ∀ (n : Nat) (s : JS) (x2 : Int32) (x3 : Int32) (x4 : Int32), (x4.toInt - (-1)).toNat < n → InvK s.k → FrK [] s0.k s.k → -1 ≤ x4.toInt → x4.toInt ≤ 4 → Ok (kX0_guessThere_13L  n s x2 x3 x4) (Q_kX0_guessThere s0) := by
  intro n
  induction n with
  | zero => intro s x2 x3 x4 hn; omega
  | succ n ih =>
    intro s x2 x3 x4 hn hI_s_k hF_s_k h_x4l h_x4u 
    exact ok_kX0_guessThere_13 s0 (kX0_guessThere_13L  n) ((x4.toInt - (-1)).toNat) (fun zs zx2 zx3 zx4 g0 g1 g2 g3  hm => ih zs zx2 zx3 zx4 (by omega) g0 g1 g2 g3 ) s x2 x3 x4 hI_s_k hF_s_k h_x4l h_x4u (Nat.le_refl _)
set_option maxHeartbeats 1000000 in
theorem ok_kX0_guessThereB (s0 : JS)  (s : JS) (x2 : Int32) (hI_s_k : InvK s.k) (hF_s_k : FrK [] s0.k s.k)  : Ok (kX0_guessThere  s x2) (Q_kX0_guessThere s0) := by
  unfold kX0_guessThere
  have a_1 : 0 ≤ (s.k.v 1).toInt ∧ (s.k.v 1).toInt ≤ 5 := hI_s_k.1 1
  have a_2 : (((s.k.v 1) - 1)).toInt = ((s.k.v 1)).toInt - 1 := tn_sub rfl (by decide) (by omega) (by omega)
  have l_0 : (0 : Int32).toInt = 0 := by decide
  exact okL_kX0_guessThere_13 s0  fu _ _ _ _ (by unfold fu; omega) hI_s_k hF_s_k (by omega) (by omega) 
theorem ok_kX0_guessThere (s : JS) (x2 : Int32) (hI_s_k : InvK s.k) : Ok (kX0_guessThere s x2) (Q_kX0_guessThere s) := ok_kX0_guessThereB s s x2 hI_s_k FrK.rfl
noncomputable abbrev Q_kX0_needOf (s0 : JS) (y : Int32 × JS) : Prop := InvK y.2.k ∧ FrK [7, 113, 114] s0.k y.2.k ∧ 0 ≤ y.1.toInt ∧ y.1.toInt ≤ 100
set_option maxHeartbeats 1000000 in
theorem ok_kX0_needOfB (s0 : JS)  (s : JS) (x2 : Int32) (x3 : Int32) (x4 : Int32) (hI_s_k : InvK s.k) (hF_s_k : FrK [7, 113, 114] s0.k s.k) (h_x2l : 0 ≤ x2.toInt) (h_x2u : x2.toInt ≤ 5) (h_x3l : 0 ≤ x3.toInt) (h_x3u : x3.toInt ≤ 4) (h_x4l : 0 ≤ x4.toInt) (h_x4u : x4.toInt ≤ 5)  : Ok (kX0_needOf  s x2 x3 x4) (Q_kX0_needOf s0) := by
  unfold kX0_needOf
  refine ok_bindP (ok_kX0_clearVars _  hI_s_k) (fun s1 hc_1 => ?_)
  have hI_s1_k : InvK s1.k := hc_1.1
  have hFc_s1_k : FrK [113] s.k s1.k := hc_1.2
  have hF_s1_k : FrK [7, 113, 114] s0.k s1.k := hF_s_k.trans hFc_s1_k (by decide)
  refine ok_bindP (ok_kX0_setParty _ _ hI_s1_k (by omega) (by omega)) (fun s2 hc_2 => ?_)
  have hI_s2_k : InvK s2.k := hc_2.1
  have hFc_s2_k : FrK [113] s1.k s2.k := hc_2.2
  have hF_s2_k : FrK [7, 113, 114] s0.k s2.k := hF_s1_k.trans hFc_s2_k (by decide)
  refine ok_bindP (ok_kX0_setWave _ _ hI_s2_k (by omega) (by omega)) (fun s3 hc_3 => ?_)
  have hI_s3_k : InvK s3.k := hc_3.1
  have hFc_s3_k : FrK [113] s2.k s3.k := hc_3.2
  have hF_s3_k : FrK [7, 113, 114] s0.k s3.k := hF_s2_k.trans hFc_s3_k (by decide)
  refine ok_bindI (ok_kX5_oddsAt _ _ _ hI_s3_k (by omega) (by omega) (by omega) (by omega)) (fun r5 s4 hc_4 => ?_)
  have hI_s4 : InvK s4 := hc_4.1
  have hFc_s4 : FrK [] s3.k s4 := hc_4.2.1
  have hF_s4 : FrK [7, 113, 114] s0.k s4 := hF_s3_k.trans hFc_s4 (by decide)
  refine ok_let (fun s6 hs6 => ?_)
  have hI_s6_k : InvK s6.k := by rw [← hs6]; exact hI_s4
  have hF_s6_k : FrK [7, 113, 114] s0.k s6.k := by rw [← hs6]; exact hF_s4
  refine ok_let (fun s8 hs8 => ?_)
  have hI_s8_k : InvK s8.k := by rw [← hs8]; exact hI_s6_k.sfF (k := 13) rfl rfl
  have hF_s8_k : FrK [7, 113, 114] s0.k s8.k := by rw [← hs8]; exact hF_s6_k.sf (k := 13) (by decide)
  refine ok_bindI (ok_kX1_valueOf _ _ hI_s8_k (by decide) (by decide)) (fun r11 s10 hc_5 => ?_)
  have hI_s10 : InvK s10 := hc_5.1
  have hFc_s10 : FrK [7, 114] s8.k s10 := hc_5.2.1
  have hF_s10 : FrK [7, 113, 114] s0.k s10 := hF_s8_k.trans hFc_s10 (by decide)
  refine ok_let (fun s12 hs12 => ?_)
  have hI_s12_k : InvK s12.k := by rw [← hs12]; exact hI_s10
  have hF_s12_k : FrK [7, 113, 114] s0.k s12.k := by rw [← hs12]; exact hF_s10
  refine ok_bindP (ok_kX10_heldTo _ _ (by decide) (by decide)) (fun r14 hc_6 => ?_)
  have hl_r14 : 0 ≤ r14.toInt := hc_6.1
  have hu_r14 : r14.toInt ≤ 100 := hc_6.2
  exact ok_some ⟨hI_s12_k, hF_s12_k, by show 0 ≤ (r14).toInt; omega, by show (r14).toInt ≤ 100; omega⟩
theorem ok_kX0_needOf (s : JS) (x2 : Int32) (x3 : Int32) (x4 : Int32) (hI_s_k : InvK s.k) (h_x2l : 0 ≤ x2.toInt) (h_x2u : x2.toInt ≤ 5) (h_x3l : 0 ≤ x3.toInt) (h_x3u : x3.toInt ≤ 4) (h_x4l : 0 ≤ x4.toInt) (h_x4u : x4.toInt ≤ 5) : Ok (kX0_needOf s x2 x3 x4) (Q_kX0_needOf s) := ok_kX0_needOfB s s x2 x3 x4 hI_s_k FrK.rfl h_x2l h_x2u h_x3l h_x3u h_x4l h_x4u
noncomputable abbrev Q_kX0_isBearing (s0 : JS) (y : Int32 × JS) : Prop := InvK y.2.k ∧ FrK [7, 113, 114] s0.k y.2.k ∧ 0 ≤ y.1.toInt ∧ y.1.toInt ≤ 1
set_option maxHeartbeats 1000000 in
theorem ok_kX0_isBearingB (s0 : JS)  (s : JS) (x2 : Int32) (x3 : Int32) (x4 : Int32) (hI_s_k : InvK s.k) (hF_s_k : FrK [7, 113, 114] s0.k s.k) (h_x2l : 0 ≤ x2.toInt) (h_x2u : x2.toInt ≤ 5) (h_x3l : 0 ≤ x3.toInt) (h_x3u : x3.toInt ≤ 4) (h_x4l : 0 ≤ x4.toInt) (h_x4u : x4.toInt ≤ 5)  : Ok (kX0_isBearing  s x2 x3 x4) (Q_kX0_isBearing s0) := by
  unfold kX0_isBearing
  refine ok_bindI (ok_kX5_oddsAt _ _ _ hI_s_k (by omega) (by omega) (by omega) (by omega)) (fun r2 s1 hc_1 => ?_)
  have hI_s1 : InvK s1 := hc_1.1
  have hFc_s1 : FrK [] s.k s1 := hc_1.2.1
  have hF_s1 : FrK [7, 113, 114] s0.k s1 := hF_s_k.trans hFc_s1 (by decide)
  refine ok_let (fun s3 hs3 => ?_)
  have hI_s3_k : InvK s3.k := by rw [← hs3]; exact hI_s1
  have hF_s3_k : FrK [7, 113, 114] s0.k s3.k := by rw [← hs3]; exact hF_s1
  refine ok_bindI (ok_kX0_needOf _ _ _ _ hI_s3_k (by omega) (by omega) (by omega) (by omega) (by omega) (by omega)) (fun r6 s5 hc_2 => ?_)
  have hI_s5_k : InvK s5.k := hc_2.1
  have hFc_s5_k : FrK [7, 113, 114] s3.k s5.k := hc_2.2.1
  have hF_s5_k : FrK [7, 113, 114] s0.k s5.k := hF_s3_k.trans hFc_s5_k (by decide)
  have hl_r6 : 0 ≤ r6.toInt := hc_2.2.2.1
  have hu_r6 : r6.toInt ≤ 100 := hc_2.2.2.2
  refine ok_ite (fun c_3 => ?_) (fun c_3 => ?_)
  · have c_3 := tn_lt (a := (r2).toInt) (b := (r6).toInt) rfl rfl c_3
    exact ok_some ⟨hI_s5_k, hF_s5_k, by show 0 ≤ (0 : Int32).toInt; decide, by show (0 : Int32).toInt ≤ 1; decide⟩
  · have c_3 := tn_nlt (a := (r2).toInt) (b := (r6).toInt) rfl rfl c_3
    exact ok_some ⟨hI_s5_k, hF_s5_k, by show 0 ≤ (1 : Int32).toInt; decide, by show (1 : Int32).toInt ≤ 1; decide⟩
theorem ok_kX0_isBearing (s : JS) (x2 : Int32) (x3 : Int32) (x4 : Int32) (hI_s_k : InvK s.k) (h_x2l : 0 ≤ x2.toInt) (h_x2u : x2.toInt ≤ 5) (h_x3l : 0 ≤ x3.toInt) (h_x3u : x3.toInt ≤ 4) (h_x4l : 0 ≤ x4.toInt) (h_x4u : x4.toInt ≤ 5) : Ok (kX0_isBearing s x2 x3 x4) (Q_kX0_isBearing s) := ok_kX0_isBearingB s s x2 x3 x4 hI_s_k FrK.rfl h_x2l h_x2u h_x3l h_x3u h_x4l h_x4u
noncomputable abbrev Q_kX0_fareOf (s0 : JS) (y : Int32 × JS) : Prop := InvK y.2.k ∧ FrK [7, 113, 114] s0.k y.2.k ∧ 0 ≤ y.1.toInt ∧ y.1.toInt ≤ 100
set_option maxHeartbeats 1000000 in
theorem ok_kX0_fareOfB (s0 : JS)  (s : JS) (x2 : Int32) (hI_s_k : InvK s.k) (hF_s_k : FrK [7, 113, 114] s0.k s.k) (h_x2l : 0 ≤ x2.toInt) (h_x2u : x2.toInt ≤ 5)  : Ok (kX0_fareOf  s x2) (Q_kX0_fareOf s0) := by
  unfold kX0_fareOf
  refine ok_bindP (ok_kX0_clearVars _  hI_s_k) (fun s1 hc_1 => ?_)
  have hI_s1_k : InvK s1.k := hc_1.1
  have hFc_s1_k : FrK [113] s.k s1.k := hc_1.2
  have hF_s1_k : FrK [7, 113, 114] s0.k s1.k := hF_s_k.trans hFc_s1_k (by decide)
  refine ok_bindP (ok_kX0_setParty _ _ hI_s1_k (by omega) (by omega)) (fun s2 hc_2 => ?_)
  have hI_s2_k : InvK s2.k := hc_2.1
  have hFc_s2_k : FrK [113] s1.k s2.k := hc_2.2
  have hF_s2_k : FrK [7, 113, 114] s0.k s2.k := hF_s1_k.trans hFc_s2_k (by decide)
  refine ok_bindI (ok_kX1_valueOf _ _ hI_s2_k (by decide) (by decide)) (fun r4 s3 hc_3 => ?_)
  have hI_s3 : InvK s3 := hc_3.1
  have hFc_s3 : FrK [7, 114] s2.k s3 := hc_3.2.1
  have hF_s3 : FrK [7, 113, 114] s0.k s3 := hF_s2_k.trans hFc_s3 (by decide)
  refine ok_let (fun s5 hs5 => ?_)
  have hI_s5_k : InvK s5.k := by rw [← hs5]; exact hI_s3
  have hF_s5_k : FrK [7, 113, 114] s0.k s5.k := by rw [← hs5]; exact hF_s3
  refine ok_bindP (ok_kX10_heldTo _ _ (by decide) (by decide)) (fun r7 hc_4 => ?_)
  have hl_r7 : 0 ≤ r7.toInt := hc_4.1
  have hu_r7 : r7.toInt ≤ 100 := hc_4.2
  exact ok_some ⟨hI_s5_k, hF_s5_k, by show 0 ≤ (r7).toInt; omega, by show (r7).toInt ≤ 100; omega⟩
theorem ok_kX0_fareOf (s : JS) (x2 : Int32) (hI_s_k : InvK s.k) (h_x2l : 0 ≤ x2.toInt) (h_x2u : x2.toInt ≤ 5) : Ok (kX0_fareOf s x2) (Q_kX0_fareOf s) := ok_kX0_fareOfB s s x2 hI_s_k FrK.rfl h_x2l h_x2u
noncomputable abbrev Q_kX0_isDaring (s0 : JS) (y : Int32 × JS) : Prop := InvK y.2.k ∧ FrK [7, 113, 114] s0.k y.2.k ∧ 0 ≤ y.1.toInt ∧ y.1.toInt ≤ 1
set_option maxHeartbeats 1000000 in
theorem ok_kX0_isDaringB (s0 : JS)  (s : JS) (x2 : Int32) (hI_s_k : InvK s.k) (hF_s_k : FrK [7, 113, 114] s0.k s.k) (h_x2l : 0 ≤ x2.toInt) (h_x2u : x2.toInt ≤ 5)  : Ok (kX0_isDaring  s x2) (Q_kX0_isDaring s0) := by
  unfold kX0_isDaring
  refine ok_bindP (ok_kX0_clearVars _  hI_s_k) (fun s1 hc_1 => ?_)
  have hI_s1_k : InvK s1.k := hc_1.1
  have hFc_s1_k : FrK [113] s.k s1.k := hc_1.2
  have hF_s1_k : FrK [7, 113, 114] s0.k s1.k := hF_s_k.trans hFc_s1_k (by decide)
  refine ok_bindP (ok_kX0_setParty _ _ hI_s1_k (by omega) (by omega)) (fun s2 hc_2 => ?_)
  have hI_s2_k : InvK s2.k := hc_2.1
  have hFc_s2_k : FrK [113] s1.k s2.k := hc_2.2
  have hF_s2_k : FrK [7, 113, 114] s0.k s2.k := hF_s1_k.trans hFc_s2_k (by decide)
  refine ok_bindI (ok_kX1_valueOf _ _ hI_s2_k (by decide) (by decide)) (fun r4 s3 hc_3 => ?_)
  have hI_s3 : InvK s3 := hc_3.1
  have hFc_s3 : FrK [7, 114] s2.k s3 := hc_3.2.1
  have hF_s3 : FrK [7, 113, 114] s0.k s3 := hF_s2_k.trans hFc_s3 (by decide)
  refine ok_let (fun s5 hs5 => ?_)
  have hI_s5_k : InvK s5.k := by rw [← hs5]; exact hI_s3
  have hF_s5_k : FrK [7, 113, 114] s0.k s5.k := by rw [← hs5]; exact hF_s3
  refine ok_ite (fun c_4 => ?_) (fun c_4 => ?_)
  · have c_4 := tn_le (a := (r4).toInt) (b := 0) rfl (by decide) c_4
    exact ok_some ⟨hI_s5_k, hF_s5_k, by show 0 ≤ (0 : Int32).toInt; decide, by show (0 : Int32).toInt ≤ 1; decide⟩
  · have c_4 := tn_nle (a := (r4).toInt) (b := 0) rfl (by decide) c_4
    exact ok_some ⟨hI_s5_k, hF_s5_k, by show 0 ≤ (1 : Int32).toInt; decide, by show (1 : Int32).toInt ≤ 1; decide⟩
theorem ok_kX0_isDaring (s : JS) (x2 : Int32) (hI_s_k : InvK s.k) (h_x2l : 0 ≤ x2.toInt) (h_x2u : x2.toInt ≤ 5) : Ok (kX0_isDaring s x2) (Q_kX0_isDaring s) := ok_kX0_isDaringB s s x2 hI_s_k FrK.rfl h_x2l h_x2u
noncomputable abbrev Q_kX0_shiftsOf (s0 : JS) (y : Int32 × JS) : Prop := InvK y.2.k ∧ FrK [7, 113, 114] s0.k y.2.k ∧ 0 ≤ y.1.toInt ∧ y.1.toInt ≤ 100
set_option maxHeartbeats 1000000 in
theorem ok_kX0_shiftsOfB (s0 : JS)  (s : JS) (x2 : Int32) (hI_s_k : InvK s.k) (hF_s_k : FrK [7, 113, 114] s0.k s.k) (h_x2l : 0 ≤ x2.toInt) (h_x2u : x2.toInt ≤ 4)  : Ok (kX0_shiftsOf  s x2) (Q_kX0_shiftsOf s0) := by
  unfold kX0_shiftsOf
  refine ok_bindP (ok_kX0_clearVars _  hI_s_k) (fun s1 hc_1 => ?_)
  have hI_s1_k : InvK s1.k := hc_1.1
  have hFc_s1_k : FrK [113] s.k s1.k := hc_1.2
  have hF_s1_k : FrK [7, 113, 114] s0.k s1.k := hF_s_k.trans hFc_s1_k (by decide)
  refine ok_bindP (ok_kX0_setWave _ _ hI_s1_k (by omega) (by omega)) (fun s2 hc_2 => ?_)
  have hI_s2_k : InvK s2.k := hc_2.1
  have hFc_s2_k : FrK [113] s1.k s2.k := hc_2.2
  have hF_s2_k : FrK [7, 113, 114] s0.k s2.k := hF_s1_k.trans hFc_s2_k (by decide)
  refine ok_bindI (ok_kX1_valueOf _ _ hI_s2_k (by decide) (by decide)) (fun r4 s3 hc_3 => ?_)
  have hI_s3 : InvK s3 := hc_3.1
  have hFc_s3 : FrK [7, 114] s2.k s3 := hc_3.2.1
  have hF_s3 : FrK [7, 113, 114] s0.k s3 := hF_s2_k.trans hFc_s3 (by decide)
  refine ok_let (fun s5 hs5 => ?_)
  have hI_s5_k : InvK s5.k := by rw [← hs5]; exact hI_s3
  have hF_s5_k : FrK [7, 113, 114] s0.k s5.k := by rw [← hs5]; exact hF_s3
  refine ok_bindP (ok_kX10_heldTo _ _ (by decide) (by decide)) (fun r7 hc_4 => ?_)
  have hl_r7 : 0 ≤ r7.toInt := hc_4.1
  have hu_r7 : r7.toInt ≤ 100 := hc_4.2
  exact ok_some ⟨hI_s5_k, hF_s5_k, by show 0 ≤ (r7).toInt; omega, by show (r7).toInt ≤ 100; omega⟩
theorem ok_kX0_shiftsOf (s : JS) (x2 : Int32) (hI_s_k : InvK s.k) (h_x2l : 0 ≤ x2.toInt) (h_x2u : x2.toInt ≤ 4) : Ok (kX0_shiftsOf s x2) (Q_kX0_shiftsOf s) := ok_kX0_shiftsOfB s s x2 hI_s_k FrK.rfl h_x2l h_x2u
noncomputable abbrev Q_kX0_sendBy (s0 : JS) (y : Int32 × JS) : Prop := InvK y.2.k ∧ FrK [7, 113, 114] s0.k y.2.k ∧ -2147483648 ≤ y.1.toInt ∧ y.1.toInt ≤ 2147483647
set_option maxHeartbeats 1000000 in
theorem ok_kX0_sendBy_119 (s0 : JS)  (s : JS) (x2 : Int32) (x4 : Int32) (x5 : Int32) (hI_s_k : InvK s.k) (hF_s_k : FrK [7, 113, 114] s0.k s.k) (h_x2l : 0 ≤ x2.toInt) (h_x2u : x2.toInt ≤ 5) (h_x4l : 0 ≤ x4.toInt) (h_x4u : x4.toInt ≤ 2)  : Ok (kX0_sendBy_119  s x2 x4 x5) (Q_kX0_sendBy s0) := by
  unfold kX0_sendBy_119
  refine ok_grd (vpb_ok (by omega) (by omega)) ?_
  refine ok_let (fun s2 hs2 => ?_)
  have hI_s2_k : InvK s2.k := by rw [← hs2]; exact hI_s_k
  have hF_s2_k : FrK [7, 113, 114] s0.k s2.k := by rw [← hs2]; exact hF_s_k
  refine ok_grd (vpb_ok (by omega) (by omega)) ?_
  refine ok_grd (vpb_ok (by omega) (by omega)) ?_
  refine ok_let (fun s6 hs6 => ?_)
  have hI_s6_k : InvK s6.k := by rw [← hs6]; exact hI_s2_k
  have hF_s6_k : FrK [7, 113, 114] s0.k s6.k := by rw [← hs6]; exact hF_s2_k
  exact ok_some ⟨hI_s6_k, hF_s6_k, (ti_rng _).1, (ti_rng _).2⟩
set_option maxHeartbeats 1000000 in
theorem ok_kX0_sendBy_113 (s0 : JS) (k24 : JS → Int32 → Int32 → Int32 → Int32 → Int32 → Option (Int32 × JS)) (M24 : Nat) (hk24 : ∀ (s : JS) (x2 : Int32) (x3 : Int32) (x4 : Int32) (x5 : Int32) (x6 : Int32), InvK s.k → FrK [7, 113, 114] s0.k s.k → 0 ≤ x2.toInt → x2.toInt ≤ 5 → 0 ≤ x3.toInt → 0 ≤ x4.toInt → x4.toInt ≤ 2 → 0 ≤ x6.toInt → x6.toInt ≤ 5 → (5 - x6.toInt).toNat < M24 → Ok (k24 s x2 x3 x4 x5 x6) (Q_kX0_sendBy s0)) (s : JS) (x2 : Int32) (x3 : Int32) (x4 : Int32) (x5 : Int32) (x6 : Int32) (hI_s_k : InvK s.k) (hF_s_k : FrK [7, 113, 114] s0.k s.k) (h_x2l : 0 ≤ x2.toInt) (h_x2u : x2.toInt ≤ 5) (h_x3l : 0 ≤ x3.toInt) (h_x4l : 0 ≤ x4.toInt) (h_x4u : x4.toInt ≤ 2) (h_x6l : 0 ≤ x6.toInt) (h_x6u : x6.toInt ≤ 4) (hM24 : (5 - x6.toInt).toNat ≤ M24) : Ok (kX0_sendBy_113 k24 s x2 x3 x4 x5 x6) (Q_kX0_sendBy s0) := by
  unfold kX0_sendBy_113
  have a_1 : ((x6 + 1)).toInt = (x6).toInt + 1 := tn_add rfl (by decide) (by omega) (by omega)
  exact hk24 _ _ _ _ _ _ hI_s_k hF_s_k (by omega) (by omega) (by omega) (by omega) (by omega) (by omega) (by omega) (by omega)
set_option maxHeartbeats 1000000 in
theorem ok_kX0_sendBy_24 (s0 : JS) (k24 : JS → Int32 → Int32 → Int32 → Int32 → Int32 → Option (Int32 × JS)) (M24 : Nat) (hk24 : ∀ (s : JS) (x2 : Int32) (x3 : Int32) (x4 : Int32) (x5 : Int32) (x6 : Int32), InvK s.k → FrK [7, 113, 114] s0.k s.k → 0 ≤ x2.toInt → x2.toInt ≤ 5 → 0 ≤ x3.toInt → 0 ≤ x4.toInt → x4.toInt ≤ 2 → 0 ≤ x6.toInt → x6.toInt ≤ 5 → (5 - x6.toInt).toNat < M24 → Ok (k24 s x2 x3 x4 x5 x6) (Q_kX0_sendBy s0)) (s : JS) (x2 : Int32) (x3 : Int32) (x4 : Int32) (x5 : Int32) (x6 : Int32) (hI_s_k : InvK s.k) (hF_s_k : FrK [7, 113, 114] s0.k s.k) (h_x2l : 0 ≤ x2.toInt) (h_x2u : x2.toInt ≤ 5) (h_x3l : 0 ≤ x3.toInt) (h_x4l : 0 ≤ x4.toInt) (h_x4u : x4.toInt ≤ 2) (h_x6l : 0 ≤ x6.toInt) (h_x6u : x6.toInt ≤ 5) (hM24 : (5 - x6.toInt).toNat ≤ M24) : Ok (kX0_sendBy_24 k24 s x2 x3 x4 x5 x6) (Q_kX0_sendBy s0) := by
  unfold kX0_sendBy_24
  have a_1 : 0 ≤ (s.k.v 1).toInt ∧ (s.k.v 1).toInt ≤ 5 := hI_s_k.1 1
  refine ok_ite (fun c_2 => ?_) (fun c_2 => ?_)
  · have c_2 := tn_le (a := ((s.k.v 1)).toInt) (b := (x6).toInt) rfl rfl c_2
    exact ok_kX0_sendBy_119 s0  _ _ _ _ hI_s_k hF_s_k (by omega) (by omega) (by omega) (by omega) 
  · have c_2 := tn_nle (a := ((s.k.v 1)).toInt) (b := (x6).toInt) rfl rfl c_2
    refine ok_ite (fun c_3 => ?_) (fun c_3 => ?_)
    · have c_3 := tn_eq (a := (x4).toInt) (b := 2) rfl (by decide) c_3
      refine ok_bindP (ok_kX10_thingIn _ _ (by omega) (by omega)) (fun r3 hc_4 => ?_)
      have hx0_r3 : (0 ≤ (x3).toInt → 0 ≤ r3.toInt ∧ r3.toInt ≤ 5) := hc_4.2.2
      refine ok_bindI (ok_kX0_isBearing _ _ _ _ hI_s_k (by omega) (by omega) (by omega) (by omega) (by omega) (by omega)) (fun r5 s4 hc_5 => ?_)
      have hI_s4_k : InvK s4.k := hc_5.1
      have hFc_s4_k : FrK [7, 113, 114] s.k s4.k := hc_5.2.1
      have hF_s4_k : FrK [7, 113, 114] s0.k s4.k := hF_s_k.trans hFc_s4_k (by decide)
      have hl_r5 : 0 ≤ r5.toInt := hc_5.2.2.1
      have hu_r5 : r5.toInt ≤ 1 := hc_5.2.2.2
      refine ok_ite (fun c_6 => ?_) (fun c_6 => ?_)
      · have c_6 := tn_eq (a := (r5).toInt) (b := 0) rfl (by decide) c_6
        have l_1 : (1 : Int32).toInt = 1 := by decide
        exact ok_kX0_sendBy_113 s0 k24 M24 hk24 _ _ _ _ _ _ hI_s4_k hF_s4_k (by omega) (by omega) (by omega) (by decide) (by decide) (by omega) (by omega) (by omega)
      · have c_6 := tn_ne (a := (r5).toInt) (b := 0) rfl (by decide) c_6
        refine ok_bindI (ok_kX0_thereNow _ _ hI_s4_k (by omega) (by omega)) (fun r8 s7 hc_7 => ?_)
        have hI_s7_k : InvK s7.k := hc_7.1
        have hFc_s7_k : FrK [] s4.k s7.k := hc_7.2.1
        have hF_s7_k : FrK [7, 113, 114] s0.k s7.k := hF_s4_k.trans hFc_s7_k (by decide)
        have hl_r8 : 0 ≤ r8.toInt := hc_7.2.2.1
        have hu_r8 : r8.toInt ≤ 5 := hc_7.2.2.2
        refine ok_ite (fun c_8 => ?_) (fun c_8 => ?_)
        · have c_8 := tn_eq (a := (r3).toInt) (b := (r8).toInt) rfl rfl c_8
          refine ok_grd (vpb_ok (by omega) (by omega)) ?_
          refine ok_let (fun s11 hs11 => ?_)
          have hI_s11_k : InvK s11.k := by rw [← hs11]; exact hI_s7_k
          have hF_s11_k : FrK [7, 113, 114] s0.k s11.k := by rw [← hs11]; exact hF_s7_k
          exact ok_kX0_sendBy_113 s0 k24 M24 hk24 _ _ _ _ _ _ hI_s11_k hF_s11_k (by omega) (by omega) (by omega) (by omega) (by omega) (by omega) (by omega) (by omega)
        · have c_8 := tn_ne (a := (r3).toInt) (b := (r8).toInt) rfl rfl c_8
          refine ok_grd (vpb_ok (by omega) (by omega)) ?_
          refine ok_grd (vpb_ok (by omega) (by omega)) ?_
          refine ok_let (fun s15 hs15 => ?_)
          have hI_s15_k : InvK s15.k := by rw [← hs15]; exact hI_s7_k
          have hF_s15_k : FrK [7, 113, 114] s0.k s15.k := by rw [← hs15]; exact hF_s7_k
          have l_0 : (0 : Int32).toInt = 0 := by decide
          exact ok_kX0_sendBy_113 s0 k24 M24 hk24 _ _ _ _ _ _ hI_s15_k hF_s15_k (by omega) (by omega) (by omega) (by decide) (by decide) (by omega) (by omega) (by omega)
    · have c_3 := tn_ne (a := (x4).toInt) (b := 2) rfl (by decide) c_3
      exact ok_kX0_sendBy_119 s0  _ _ _ _ hI_s_k hF_s_k (by omega) (by omega) (by omega) (by omega) 
theorem okL_kX0_sendBy_24 (s0 : JS)  : ∀ (n : Nat) (s : JS) (x2 : Int32) (x3 : Int32) (x4 : Int32) (x5 : Int32) (x6 : Int32), (5 - x6.toInt).toNat < n → InvK s.k → FrK [7, 113, 114] s0.k s.k → 0 ≤ x2.toInt → x2.toInt ≤ 5 → 0 ≤ x3.toInt → 0 ≤ x4.toInt → x4.toInt ≤ 2 → 0 ≤ x6.toInt → x6.toInt ≤ 5 → Ok (kX0_sendBy_24L  n s x2 x3 x4 x5 x6) (Q_kX0_sendBy s0) := by
  intro n
  induction n with
  | zero => intro s x2 x3 x4 x5 x6 hn; omega
  | succ n ih =>
    intro s x2 x3 x4 x5 x6 hn hI_s_k hF_s_k h_x2l h_x2u h_x3l h_x4l h_x4u h_x6l h_x6u 
    exact ok_kX0_sendBy_24 s0 (kX0_sendBy_24L  n) ((5 - x6.toInt).toNat) (fun zs zx2 zx3 zx4 zx5 zx6 g0 g1 g2 g3 g4 g5 g6 g7 g8  hm => ih zs zx2 zx3 zx4 zx5 zx6 (by omega) g0 g1 g2 g3 g4 g5 g6 g7 g8 ) s x2 x3 x4 x5 x6 hI_s_k hF_s_k h_x2l h_x2u h_x3l h_x4l h_x4u h_x6l h_x6u (Nat.le_refl _)
set_option maxHeartbeats 1000000 in
theorem ok_kX0_sendByB (s0 : JS)  (s : JS) (x2 : Int32) (x3 : Int32) (hI_s_k : InvK s.k) (hF_s_k : FrK [7, 113, 114] s0.k s.k) (h_x2l : 0 ≤ x2.toInt) (h_x2u : x2.toInt ≤ 5) (h_x3l : 0 ≤ x3.toInt)  : Ok (kX0_sendBy  s x2 x3) (Q_kX0_sendBy s0) := by
  unfold kX0_sendBy
  refine ok_bindI (ok_kX0_fareOf _ _ hI_s_k (by omega) (by omega)) (fun r2 s1 hc_1 => ?_)
  have hI_s1_k : InvK s1.k := hc_1.1
  have hFc_s1_k : FrK [7, 113, 114] s.k s1.k := hc_1.2.1
  have hF_s1_k : FrK [7, 113, 114] s0.k s1.k := hF_s_k.trans hFc_s1_k (by decide)
  have hl_r2 : 0 ≤ r2.toInt := hc_1.2.2.1
  have hu_r2 : r2.toInt ≤ 100 := hc_1.2.2.2
  refine ok_let (fun s3 hs3 => ?_)
  have hI_s3_k : InvK s3.k := by rw [← hs3]; exact hI_s1_k
  have hF_s3_k : FrK [7, 113, 114] s0.k s3.k := by rw [← hs3]; exact hF_s1_k
  have l_2 : (2 : Int32).toInt = 2 := by decide
  have l_0 : (0 : Int32).toInt = 0 := by decide
  exact okL_kX0_sendBy_24 s0  fu _ _ _ _ _ _ (by unfold fu; omega) hI_s3_k hF_s3_k (by omega) (by omega) (by omega) (by decide) (by decide) (by decide) (by decide) 
theorem ok_kX0_sendBy (s : JS) (x2 : Int32) (x3 : Int32) (hI_s_k : InvK s.k) (h_x2l : 0 ≤ x2.toInt) (h_x2u : x2.toInt ≤ 5) (h_x3l : 0 ≤ x3.toInt) : Ok (kX0_sendBy s x2 x3) (Q_kX0_sendBy s) := ok_kX0_sendByB s s x2 x3 hI_s_k FrK.rfl h_x2l h_x2u h_x3l
noncomputable abbrev Q_kX0_passYearOver (s0 : JS) (y : JS) : Prop := InvK y.k ∧ FrK [7, 113, 114] s0.k y.k
set_option maxHeartbeats 1000000 in
theorem ok_kX0_passYearOverB (s0 : JS)  (s : JS) (x2 : Int32) (hI_s_k : InvK s.k) (hF_s_k : FrK [7, 113, 114] s0.k s.k) (h_x2l : 0 ≤ x2.toInt) (h_x2u : x2.toInt ≤ 4)  : Ok (kX0_passYearOver  s x2) (Q_kX0_passYearOver s0) := by
  unfold kX0_passYearOver
  refine ok_bindP (ok_kX10_lot _ _ _ ) (fun r1 hc_1 => ?_)
  refine ok_bindI (ok_kX0_shiftsOf _ _ hI_s_k (by omega) (by omega)) (fun r3 s2 hc_2 => ?_)
  have hI_s2_k : InvK s2.k := hc_2.1
  have hFc_s2_k : FrK [7, 113, 114] s.k s2.k := hc_2.2.1
  have hF_s2_k : FrK [7, 113, 114] s0.k s2.k := hF_s_k.trans hFc_s2_k (by decide)
  have hl_r3 : 0 ≤ r3.toInt := hc_2.2.2.1
  have hu_r3 : r3.toInt ≤ 100 := hc_2.2.2.2
  refine ok_ite (fun c_3 => ?_) (fun c_3 => ?_)
  · have c_3 := tn_le (a := (r3).toInt) (b := (r1).toInt) rfl rfl c_3
    exact ok_some ⟨hI_s2_k, hF_s2_k⟩
  · have c_3 := tn_nle (a := (r3).toInt) (b := (r1).toInt) rfl rfl c_3
    refine ok_grd (vpb_ok (by omega) (by omega)) ?_
    refine ok_grd (vpb_ok (by omega) (by omega)) ?_
    refine ok_let (fun s7 hs7 => ?_)
    have hI_s7_k : InvK s7.k := by rw [← hs7]; exact hI_s2_k
    have hF_s7_k : FrK [7, 113, 114] s0.k s7.k := by rw [← hs7]; exact hF_s2_k
    refine ok_grd (vpb_ok (by omega) (by omega)) ?_
    refine ok_let (fun s10 hs10 => ?_)
    have hI_s10_k : InvK s10.k := by rw [← hs10]; exact hI_s7_k
    have hF_s10_k : FrK [7, 113, 114] s0.k s10.k := by rw [← hs10]; exact hF_s7_k
    refine ok_grd (vpb_ok (by omega) (by omega)) ?_
    refine ok_let (fun s13 hs13 => ?_)
    have hI_s13_k : InvK s13.k := by rw [← hs13]; exact hI_s10_k
    have hF_s13_k : FrK [7, 113, 114] s0.k s13.k := by rw [← hs13]; exact hF_s10_k
    exact ok_some ⟨hI_s13_k, hF_s13_k⟩
theorem ok_kX0_passYearOver (s : JS) (x2 : Int32) (hI_s_k : InvK s.k) (h_x2l : 0 ≤ x2.toInt) (h_x2u : x2.toInt ≤ 4) : Ok (kX0_passYearOver s x2) (Q_kX0_passYearOver s) := ok_kX0_passYearOverB s s x2 hI_s_k FrK.rfl h_x2l h_x2u
noncomputable abbrev Q_kX2_bestThing (s0 : JS) (y : Int32 × JS) : Prop := InvK y.2.k ∧ FrK [7, 113, 114] s0.k y.2.k ∧ -1 ≤ y.1.toInt ∧ y.1.toInt ≤ 5
set_option maxHeartbeats 1000000 in
theorem ok_kX2_bestThing_63 (s0 : JS) (k9 : JS → Int32 → Int32 → Int32 → Int32 → Int32 → Option (Int32 × JS)) (M9 : Nat) (hk9 : ∀ (s : JS) (x2 : Int32) (x3 : Int32) (x4 : Int32) (x5 : Int32) (x6 : Int32), InvK s.k → FrK [7, 113, 114] s0.k s.k → -1 ≤ x2.toInt → x2.toInt ≤ 5 → 0 ≤ x3.toInt → x3.toInt ≤ 4 → -1 ≤ x4.toInt → x4.toInt ≤ 5 → 0 ≤ x5.toInt → 0 ≤ x6.toInt → x6.toInt ≤ 6 → (6 - x6.toInt).toNat < M9 → Ok (k9 s x2 x3 x4 x5 x6) (Q_kX2_bestThing s0)) (s : JS) (x2 : Int32) (x3 : Int32) (x4 : Int32) (x5 : Int32) (x6 : Int32) (hI_s_k : InvK s.k) (hF_s_k : FrK [7, 113, 114] s0.k s.k) (h_x2l : -1 ≤ x2.toInt) (h_x2u : x2.toInt ≤ 5) (h_x3l : 0 ≤ x3.toInt) (h_x3u : x3.toInt ≤ 4) (h_x4l : -1 ≤ x4.toInt) (h_x4u : x4.toInt ≤ 5) (h_x5l : 0 ≤ x5.toInt) (h_x6l : 0 ≤ x6.toInt) (h_x6u : x6.toInt ≤ 5) (hM9 : (6 - x6.toInt).toNat ≤ M9) : Ok (kX2_bestThing_63 k9 s x2 x3 x4 x5 x6) (Q_kX2_bestThing s0) := by
  unfold kX2_bestThing_63
  have a_1 : ((x6 + 1)).toInt = (x6).toInt + 1 := tn_add rfl (by decide) (by omega) (by omega)
  exact hk9 _ _ _ _ _ _ hI_s_k hF_s_k (by omega) (by omega) (by omega) (by omega) (by omega) (by omega) (by omega) (by omega) (by omega) (by omega)
set_option maxHeartbeats 1000000 in
theorem ok_kX2_bestThing_55 (s0 : JS) (k9 : JS → Int32 → Int32 → Int32 → Int32 → Int32 → Option (Int32 × JS)) (M9 : Nat) (hk9 : ∀ (s : JS) (x2 : Int32) (x3 : Int32) (x4 : Int32) (x5 : Int32) (x6 : Int32), InvK s.k → FrK [7, 113, 114] s0.k s.k → -1 ≤ x2.toInt → x2.toInt ≤ 5 → 0 ≤ x3.toInt → x3.toInt ≤ 4 → -1 ≤ x4.toInt → x4.toInt ≤ 5 → 0 ≤ x5.toInt → 0 ≤ x6.toInt → x6.toInt ≤ 6 → (6 - x6.toInt).toNat < M9 → Ok (k9 s x2 x3 x4 x5 x6) (Q_kX2_bestThing s0)) (s : JS) (x2 : Int32) (x3 : Int32) (x6 : Int32) (x7 : Int32) (hI_s_k : InvK s.k) (hF_s_k : FrK [7, 113, 114] s0.k s.k) (h_x2l : -1 ≤ x2.toInt) (h_x2u : x2.toInt ≤ 5) (h_x3l : 0 ≤ x3.toInt) (h_x3u : x3.toInt ≤ 4) (h_x6l : 0 ≤ x6.toInt) (h_x6u : x6.toInt ≤ 5) (h_x7l : 1 ≤ x7.toInt) (hM9 : (6 - x6.toInt).toNat ≤ M9) : Ok (kX2_bestThing_55 k9 s x2 x3 x6 x7) (Q_kX2_bestThing s0) := by
  unfold kX2_bestThing_55
  exact ok_kX2_bestThing_63 s0 k9 M9 hk9 _ _ _ _ _ _ hI_s_k hF_s_k (by omega) (by omega) (by omega) (by omega) (by omega) (by omega) (by omega) (by omega) (by omega) (by omega)
set_option maxHeartbeats 1000000 in
theorem ok_kX2_bestThing_9 (s0 : JS) (k9 : JS → Int32 → Int32 → Int32 → Int32 → Int32 → Option (Int32 × JS)) (M9 : Nat) (hk9 : ∀ (s : JS) (x2 : Int32) (x3 : Int32) (x4 : Int32) (x5 : Int32) (x6 : Int32), InvK s.k → FrK [7, 113, 114] s0.k s.k → -1 ≤ x2.toInt → x2.toInt ≤ 5 → 0 ≤ x3.toInt → x3.toInt ≤ 4 → -1 ≤ x4.toInt → x4.toInt ≤ 5 → 0 ≤ x5.toInt → 0 ≤ x6.toInt → x6.toInt ≤ 6 → (6 - x6.toInt).toNat < M9 → Ok (k9 s x2 x3 x4 x5 x6) (Q_kX2_bestThing s0)) (s : JS) (x2 : Int32) (x3 : Int32) (x4 : Int32) (x5 : Int32) (x6 : Int32) (hI_s_k : InvK s.k) (hF_s_k : FrK [7, 113, 114] s0.k s.k) (h_x2l : -1 ≤ x2.toInt) (h_x2u : x2.toInt ≤ 5) (h_x3l : 0 ≤ x3.toInt) (h_x3u : x3.toInt ≤ 4) (h_x4l : -1 ≤ x4.toInt) (h_x4u : x4.toInt ≤ 5) (h_x5l : 0 ≤ x5.toInt) (h_x6l : 0 ≤ x6.toInt) (h_x6u : x6.toInt ≤ 6) (hM9 : (6 - x6.toInt).toNat ≤ M9) : Ok (kX2_bestThing_9 k9 s x2 x3 x4 x5 x6) (Q_kX2_bestThing s0) := by
  unfold kX2_bestThing_9
  refine ok_ite (fun c_1 => ?_) (fun c_1 => ?_)
  · have c_1 := tn_le (a := 6) (b := (x6).toInt) (by decide) rfl c_1
    exact ok_some ⟨hI_s_k, hF_s_k, by show -1 ≤ (x4).toInt; omega, by show (x4).toInt ≤ 5; omega⟩
  · have c_1 := tn_nle (a := 6) (b := (x6).toInt) (by decide) rfl c_1
    refine ok_bindI (ok_kX2_oddsIfMay _ _ _ hI_s_k (by omega) (by omega) (by omega) (by omega)) (fun r3 s2 hc_2 => ?_)
    have hI_s2_k : InvK s2.k := hc_2.1
    have hFc_s2_k : FrK [] s.k s2.k := hc_2.2.1
    have hF_s2_k : FrK [7, 113, 114] s0.k s2.k := hF_s_k.trans hFc_s2_k (by decide)
    refine ok_ite (fun c_3 => ?_) (fun c_3 => ?_)
    · have c_3 := tn_le (a := (r3).toInt) (b := (x5).toInt) rfl rfl c_3
      exact ok_kX2_bestThing_63 s0 k9 M9 hk9 _ _ _ _ _ _ hI_s2_k hF_s2_k (by omega) (by omega) (by omega) (by omega) (by omega) (by omega) (by omega) (by omega) (by omega) (by omega)
    · have c_3 := tn_nle (a := (r3).toInt) (b := (x5).toInt) rfl rfl c_3
      refine ok_ite (fun c_4 => ?_) (fun c_4 => ?_)
      · have c_4 := tn_eq (a := (x2).toInt) (b := (-1)) rfl (by decide) c_4
        exact ok_kX2_bestThing_55 s0 k9 M9 hk9 _ _ _ _ _ hI_s2_k hF_s2_k (by omega) (by omega) (by omega) (by omega) (by omega) (by omega) (by omega) (by omega)
      · have c_4 := tn_ne (a := (x2).toInt) (b := (-1)) rfl (by decide) c_4
        refine ok_bindI (ok_kX0_needOf _ _ _ _ hI_s2_k (by omega) (by omega) (by omega) (by omega) (by omega) (by omega)) (fun r7 s6 hc_5 => ?_)
        have hI_s6_k : InvK s6.k := hc_5.1
        have hFc_s6_k : FrK [7, 113, 114] s2.k s6.k := hc_5.2.1
        have hF_s6_k : FrK [7, 113, 114] s0.k s6.k := hF_s2_k.trans hFc_s6_k (by decide)
        have hl_r7 : 0 ≤ r7.toInt := hc_5.2.2.1
        have hu_r7 : r7.toInt ≤ 100 := hc_5.2.2.2
        refine ok_ite (fun c_6 => ?_) (fun c_6 => ?_)
        · have c_6 := tn_lt (a := (r3).toInt) (b := (r7).toInt) rfl rfl c_6
          exact ok_kX2_bestThing_63 s0 k9 M9 hk9 _ _ _ _ _ _ hI_s6_k hF_s6_k (by omega) (by omega) (by omega) (by omega) (by omega) (by omega) (by omega) (by omega) (by omega) (by omega)
        · have c_6 := tn_nlt (a := (r3).toInt) (b := (r7).toInt) rfl rfl c_6
          exact ok_kX2_bestThing_55 s0 k9 M9 hk9 _ _ _ _ _ hI_s6_k hF_s6_k (by omega) (by omega) (by omega) (by omega) (by omega) (by omega) (by omega) (by omega)
theorem okL_kX2_bestThing_9 (s0 : JS)  : ∀ (n : Nat) (s : JS) (x2 : Int32) (x3 : Int32) (x4 : Int32) (x5 : Int32) (x6 : Int32), (6 - x6.toInt).toNat < n → InvK s.k → FrK [7, 113, 114] s0.k s.k → -1 ≤ x2.toInt → x2.toInt ≤ 5 → 0 ≤ x3.toInt → x3.toInt ≤ 4 → -1 ≤ x4.toInt → x4.toInt ≤ 5 → 0 ≤ x5.toInt → 0 ≤ x6.toInt → x6.toInt ≤ 6 → Ok (kX2_bestThing_9L  n s x2 x3 x4 x5 x6) (Q_kX2_bestThing s0) := by
  intro n
  induction n with
  | zero => intro s x2 x3 x4 x5 x6 hn; omega
  | succ n ih =>
    intro s x2 x3 x4 x5 x6 hn hI_s_k hF_s_k h_x2l h_x2u h_x3l h_x3u h_x4l h_x4u h_x5l h_x6l h_x6u 
    exact ok_kX2_bestThing_9 s0 (kX2_bestThing_9L  n) ((6 - x6.toInt).toNat) (fun zs zx2 zx3 zx4 zx5 zx6 g0 g1 g2 g3 g4 g5 g6 g7 g8 g9 g10  hm => ih zs zx2 zx3 zx4 zx5 zx6 (by omega) g0 g1 g2 g3 g4 g5 g6 g7 g8 g9 g10 ) s x2 x3 x4 x5 x6 hI_s_k hF_s_k h_x2l h_x2u h_x3l h_x3u h_x4l h_x4u h_x5l h_x6l h_x6u (Nat.le_refl _)
set_option maxHeartbeats 1000000 in
theorem ok_kX2_bestThingB (s0 : JS)  (s : JS) (x2 : Int32) (x3 : Int32) (hI_s_k : InvK s.k) (hF_s_k : FrK [7, 113, 114] s0.k s.k) (h_x2l : -1 ≤ x2.toInt) (h_x2u : x2.toInt ≤ 5) (h_x3l : 0 ≤ x3.toInt) (h_x3u : x3.toInt ≤ 4)  : Ok (kX2_bestThing  s x2 x3) (Q_kX2_bestThing s0) := by
  unfold kX2_bestThing
  have l_m1 : ((-1) : Int32).toInt = -1 := by decide
  have l_0 : (0 : Int32).toInt = 0 := by decide
  exact okL_kX2_bestThing_9 s0  fu _ _ _ _ _ _ (by unfold fu; omega) hI_s_k hF_s_k (by omega) (by omega) (by omega) (by omega) (by decide) (by decide) (by decide) (by decide) (by decide) 
theorem ok_kX2_bestThing (s : JS) (x2 : Int32) (x3 : Int32) (hI_s_k : InvK s.k) (h_x2l : -1 ≤ x2.toInt) (h_x2u : x2.toInt ≤ 5) (h_x3l : 0 ≤ x3.toInt) (h_x3u : x3.toInt ≤ 4) : Ok (kX2_bestThing s x2 x3) (Q_kX2_bestThing s) := ok_kX2_bestThingB s s x2 x3 hI_s_k FrK.rfl h_x2l h_x2u h_x3l h_x3u
noncomputable abbrev Q_kX2_borneOver (s0 : JS) (y : Int32 × JS) : Prop := InvK y.2.k ∧ FrK [7, 113, 114] s0.k y.2.k ∧ 0 ≤ y.1.toInt ∧ y.1.toInt ≤ 5
set_option maxHeartbeats 1000000 in
theorem ok_kX2_borneOver_3 (s0 : JS) (k3 : JS → Int32 → Int32 → Int32 → Option (Int32 × JS)) (M3 : Nat) (hk3 : ∀ (s : JS) (x2 : Int32) (x3 : Int32) (x4 : Int32), InvK s.k → FrK [7, 113, 114] s0.k s.k → 0 ≤ x2.toInt → x2.toInt ≤ 5 → 0 ≤ x3.toInt → 0 ≤ x4.toInt → x4.toInt ≤ 5 → (5 - x4.toInt).toNat < M3 → Ok (k3 s x2 x3 x4) (Q_kX2_borneOver s0)) (s : JS) (x2 : Int32) (x3 : Int32) (x4 : Int32) (hI_s_k : InvK s.k) (hF_s_k : FrK [7, 113, 114] s0.k s.k) (h_x2l : 0 ≤ x2.toInt) (h_x2u : x2.toInt ≤ 5) (h_x3l : 0 ≤ x3.toInt) (h_x4l : 0 ≤ x4.toInt) (h_x4u : x4.toInt ≤ 5) (hM3 : (5 - x4.toInt).toNat ≤ M3) : Ok (kX2_borneOver_3 k3 s x2 x3 x4) (Q_kX2_borneOver s0) := by
  unfold kX2_borneOver_3
  have a_1 : 0 ≤ (s.k.v 1).toInt ∧ (s.k.v 1).toInt ≤ 5 := hI_s_k.1 1
  refine ok_ite (fun c_2 => ?_) (fun c_2 => ?_)
  · have c_2 := tn_le (a := ((s.k.v 1)).toInt) (b := (x4).toInt) rfl rfl c_2
    exact ok_some ⟨hI_s_k, hF_s_k, by show 0 ≤ (x4).toInt; omega, by show (x4).toInt ≤ 5; omega⟩
  · have c_2 := tn_nle (a := ((s.k.v 1)).toInt) (b := (x4).toInt) rfl rfl c_2
    refine ok_bindP (ok_kX10_thingIn _ _ (by omega) (by omega)) (fun r2 hc_3 => ?_)
    have hx0_r2 : (0 ≤ (x3).toInt → 0 ≤ r2.toInt ∧ r2.toInt ≤ 5) := hc_3.2.2
    refine ok_bindI (ok_kX0_isBearing _ _ _ _ hI_s_k (by omega) (by omega) (by omega) (by omega) (by omega) (by omega)) (fun r4 s3 hc_4 => ?_)
    have hI_s3_k : InvK s3.k := hc_4.1
    have hFc_s3_k : FrK [7, 113, 114] s.k s3.k := hc_4.2.1
    have hF_s3_k : FrK [7, 113, 114] s0.k s3.k := hF_s_k.trans hFc_s3_k (by decide)
    have hl_r4 : 0 ≤ r4.toInt := hc_4.2.2.1
    have hu_r4 : r4.toInt ≤ 1 := hc_4.2.2.2
    refine ok_ite (fun c_5 => ?_) (fun c_5 => ?_)
    · have c_5 := tn_eq (a := (r4).toInt) (b := 0) rfl (by decide) c_5
      exact ok_some ⟨hI_s3_k, hF_s3_k, by show 0 ≤ (x4).toInt; omega, by show (x4).toInt ≤ 5; omega⟩
    · have c_5 := tn_ne (a := (r4).toInt) (b := 0) rfl (by decide) c_5
      have a_6 : ((x4 + 1)).toInt = (x4).toInt + 1 := tn_add rfl (by decide) (by omega) (by omega)
      exact hk3 _ _ _ _ hI_s3_k hF_s3_k (by omega) (by omega) (by omega) (by omega) (by omega) (by omega)
theorem okL_kX2_borneOver_3 (s0 : JS)  : ∀ (n : Nat) (s : JS) (x2 : Int32) (x3 : Int32) (x4 : Int32), (5 - x4.toInt).toNat < n → InvK s.k → FrK [7, 113, 114] s0.k s.k → 0 ≤ x2.toInt → x2.toInt ≤ 5 → 0 ≤ x3.toInt → 0 ≤ x4.toInt → x4.toInt ≤ 5 → Ok (kX2_borneOver_3L  n s x2 x3 x4) (Q_kX2_borneOver s0) := by
  intro n
  induction n with
  | zero => intro s x2 x3 x4 hn; omega
  | succ n ih =>
    intro s x2 x3 x4 hn hI_s_k hF_s_k h_x2l h_x2u h_x3l h_x4l h_x4u 
    exact ok_kX2_borneOver_3 s0 (kX2_borneOver_3L  n) ((5 - x4.toInt).toNat) (fun zs zx2 zx3 zx4 g0 g1 g2 g3 g4 g5 g6  hm => ih zs zx2 zx3 zx4 (by omega) g0 g1 g2 g3 g4 g5 g6 ) s x2 x3 x4 hI_s_k hF_s_k h_x2l h_x2u h_x3l h_x4l h_x4u (Nat.le_refl _)
set_option maxHeartbeats 1000000 in
theorem ok_kX2_borneOverB (s0 : JS)  (s : JS) (x2 : Int32) (x3 : Int32) (hI_s_k : InvK s.k) (hF_s_k : FrK [7, 113, 114] s0.k s.k) (h_x2l : 0 ≤ x2.toInt) (h_x2u : x2.toInt ≤ 5) (h_x3l : 0 ≤ x3.toInt)  : Ok (kX2_borneOver  s x2 x3) (Q_kX2_borneOver s0) := by
  unfold kX2_borneOver
  have l_0 : (0 : Int32).toInt = 0 := by decide
  exact okL_kX2_borneOver_3 s0  fu _ _ _ _ (by unfold fu; omega) hI_s_k hF_s_k (by omega) (by omega) (by omega) (by decide) (by decide) 
theorem ok_kX2_borneOver (s : JS) (x2 : Int32) (x3 : Int32) (hI_s_k : InvK s.k) (h_x2l : 0 ≤ x2.toInt) (h_x2u : x2.toInt ≤ 5) (h_x3l : 0 ≤ x3.toInt) : Ok (kX2_borneOver s x2 x3) (Q_kX2_borneOver s) := ok_kX2_borneOverB s s x2 x3 hI_s_k FrK.rfl h_x2l h_x2u h_x3l
noncomputable abbrev Q_kX4_readSum (s0 : KS) (y : KS) : Prop := InvK y ∧ FrK [12, 15, 16, 17, 122] s0 y
set_option maxHeartbeats 1000000 in
theorem ok_kX4_readSum_32 (R : KS → Int32 → Option KS) (D : Nat) (hR : ∀ (s : KS) (x1 : Int32), InvK s → 0 ≤ x1.toInt → x1.toInt ≤ 6 → (6 - x1.toInt).toNat < D → Ok (R s x1) (fun y => InvK y ∧ FrK [12, 15, 16, 17, 122] s y)) (s0 : KS) (k7 : KS → Int32 → Int32 → Option (KS)) (M7 : Nat) (hk7 : ∀ (s : KS) (x1 : Int32) (x2 : Int32), InvK s → FrK [12, 15, 16, 17, 122] s0 s → 0 ≤ x1.toInt → x1.toInt ≤ 6 → 0 ≤ x2.toInt → x2.toInt ≤ 400 → (6 - x1.toInt).toNat ≤ D → (400 - x2.toInt).toNat < M7 → Ok (k7 s x1 x2) (Q_kX4_readSum s0)) (s : KS) (x1 : Int32) (x2 : Int32) (hI_s : InvK s) (hF_s : FrK [12, 15, 16, 17, 122] s0 s) (h_x1l : 0 ≤ x1.toInt) (h_x1u : x1.toInt ≤ 6) (h_x2l : 0 ≤ x2.toInt) (h_x2u : x2.toInt ≤ 399) (hD : (6 - x1.toInt).toNat ≤ D) (hM7 : (400 - x2.toInt).toNat ≤ M7) : Ok (kX4_readSum_32 R k7 s x1 x2) (Q_kX4_readSum s0) := by
  unfold kX4_readSum_32
  have a_1 : 0 ≤ (s.v 15).toInt ∧ (s.v 15).toInt ≤ 400 := hI_s.1 15
  refine ok_grd (vpb_ok (by omega) (by omega)) ?_
  refine ok_bindP (ok_kX4_take _ _ hI_s) (fun s2 hc_2 => ?_)
  have hI_s2 : InvK s2 := hc_2.1
  have hFc_s2 : FrK [15, 16, 17] s s2 := hc_2.2
  have hF_s2 : FrK [12, 15, 16, 17, 122] s0 s2 := hF_s.trans hFc_s2 (by decide)
  refine ok_bindP (ok_kX4_readProduct R D hR _ _ hI_s2 (by omega) (by omega) (by omega)) (fun s3 hc_3 => ?_)
  have hI_s3 : InvK s3 := hc_3.1
  have hFc_s3 : FrK [12, 15, 16, 17, 122] s2 s3 := hc_3.2
  have hF_s3 : FrK [12, 15, 16, 17, 122] s0 s3 := hF_s2.trans hFc_s3 (by decide)
  refine ok_bindP (ok_kX1_putSign _ _ hI_s3) (fun s4 hc_4 => ?_)
  have hI_s4 : InvK s4 := hc_4.1
  have hFc_s4 : FrK [12, 122] s3 s4 := hc_4.2
  have hF_s4 : FrK [12, 15, 16, 17, 122] s0 s4 := hF_s3.trans hFc_s4 (by decide)
  have a_5 : ((x2 + 1)).toInt = (x2).toInt + 1 := tn_add rfl (by decide) (by omega) (by omega)
  exact hk7 _ _ _ hI_s4 hF_s4 (by omega) (by omega) (by omega) (by omega) (by omega) (by omega)
set_option maxHeartbeats 1000000 in
theorem ok_kX4_readSum_7 (R : KS → Int32 → Option KS) (D : Nat) (hR : ∀ (s : KS) (x1 : Int32), InvK s → 0 ≤ x1.toInt → x1.toInt ≤ 6 → (6 - x1.toInt).toNat < D → Ok (R s x1) (fun y => InvK y ∧ FrK [12, 15, 16, 17, 122] s y)) (s0 : KS) (k7 : KS → Int32 → Int32 → Option (KS)) (M7 : Nat) (hk7 : ∀ (s : KS) (x1 : Int32) (x2 : Int32), InvK s → FrK [12, 15, 16, 17, 122] s0 s → 0 ≤ x1.toInt → x1.toInt ≤ 6 → 0 ≤ x2.toInt → x2.toInt ≤ 400 → (6 - x1.toInt).toNat ≤ D → (400 - x2.toInt).toNat < M7 → Ok (k7 s x1 x2) (Q_kX4_readSum s0)) (s : KS) (x1 : Int32) (x2 : Int32) (hI_s : InvK s) (hF_s : FrK [12, 15, 16, 17, 122] s0 s) (h_x1l : 0 ≤ x1.toInt) (h_x1u : x1.toInt ≤ 6) (h_x2l : 0 ≤ x2.toInt) (h_x2u : x2.toInt ≤ 400) (hD : (6 - x1.toInt).toNat ≤ D) (hM7 : (400 - x2.toInt).toNat ≤ M7) : Ok (kX4_readSum_7 R k7 s x1 x2) (Q_kX4_readSum s0) := by
  unfold kX4_readSum_7
  refine ok_ite (fun c_1 => ?_) (fun c_1 => ?_)
  · have c_1 := tn_le (a := 400) (b := (x2).toInt) (by decide) rfl c_1
    exact ok_some ⟨hI_s, hF_s⟩
  · have c_1 := tn_nle (a := 400) (b := (x2).toInt) (by decide) rfl c_1
    refine ok_bindI (ok_kX4_isAt _ _ hI_s) (fun r3 s2 hc_2 => ?_)
    have hI_s2 : InvK s2 := hc_2.1
    have hFc_s2 : FrK [] s s2 := hc_2.2.1
    have hF_s2 : FrK [12, 15, 16, 17, 122] s0 s2 := hF_s.trans hFc_s2 (by decide)
    have hl_r3 : 0 ≤ r3.toInt := hc_2.2.2.1
    have hu_r3 : r3.toInt ≤ 1 := hc_2.2.2.2
    refine ok_ite (fun c_3 => ?_) (fun c_3 => ?_)
    · have c_3 := tn_eq (a := (r3).toInt) (b := 0) rfl (by decide) c_3
      refine ok_bindI (ok_kX4_isAt _ _ hI_s2) (fun r6 s5 hc_4 => ?_)
      have hI_s5 : InvK s5 := hc_4.1
      have hFc_s5 : FrK [] s2 s5 := hc_4.2.1
      have hF_s5 : FrK [12, 15, 16, 17, 122] s0 s5 := hF_s2.trans hFc_s5 (by decide)
      have hl_r6 : 0 ≤ r6.toInt := hc_4.2.2.1
      have hu_r6 : r6.toInt ≤ 1 := hc_4.2.2.2
      refine ok_ite (fun c_5 => ?_) (fun c_5 => ?_)
      · have c_5 := tn_eq (a := (r6).toInt) (b := 0) rfl (by decide) c_5
        exact ok_some ⟨hI_s5, hF_s5⟩
      · have c_5 := tn_ne (a := (r6).toInt) (b := 0) rfl (by decide) c_5
        exact ok_kX4_readSum_32 R D hR s0 k7 M7 hk7 _ _ _ hI_s5 hF_s5 (by omega) (by omega) (by omega) (by omega) (by omega) (by omega)
    · have c_3 := tn_ne (a := (r3).toInt) (b := 0) rfl (by decide) c_3
      exact ok_kX4_readSum_32 R D hR s0 k7 M7 hk7 _ _ _ hI_s2 hF_s2 (by omega) (by omega) (by omega) (by omega) (by omega) (by omega)
theorem okL_kX4_readSum_7 (R : KS → Int32 → Option KS) (D : Nat) (hR : ∀ (s : KS) (x1 : Int32), InvK s → 0 ≤ x1.toInt → x1.toInt ≤ 6 → (6 - x1.toInt).toNat < D → Ok (R s x1) (fun y => InvK y ∧ FrK [12, 15, 16, 17, 122] s y)) (s0 : KS)  : ∀ (n : Nat) (s : KS) (x1 : Int32) (x2 : Int32), (400 - x2.toInt).toNat < n → InvK s → FrK [12, 15, 16, 17, 122] s0 s → 0 ≤ x1.toInt → x1.toInt ≤ 6 → 0 ≤ x2.toInt → x2.toInt ≤ 400 → (6 - x1.toInt).toNat ≤ D → Ok (kX4_readSum_7L R  n s x1 x2) (Q_kX4_readSum s0) := by
  intro n
  induction n with
  | zero => intro s x1 x2 hn; omega
  | succ n ih =>
    intro s x1 x2 hn hI_s hF_s h_x1l h_x1u h_x2l h_x2u hD 
    exact ok_kX4_readSum_7 R D hR s0 (kX4_readSum_7L R  n) ((400 - x2.toInt).toNat) (fun zs zx1 zx2 g0 g1 g2 g3 g4 g5 g6  hm => ih zs zx1 zx2 (by omega) g0 g1 g2 g3 g4 g5 g6 ) s x1 x2 hI_s hF_s h_x1l h_x1u h_x2l h_x2u hD (Nat.le_refl _)
set_option maxHeartbeats 1000000 in
theorem ok_kX4_readSumB (R : KS → Int32 → Option KS) (D : Nat) (hR : ∀ (s : KS) (x1 : Int32), InvK s → 0 ≤ x1.toInt → x1.toInt ≤ 6 → (6 - x1.toInt).toNat < D → Ok (R s x1) (fun y => InvK y ∧ FrK [12, 15, 16, 17, 122] s y)) (s0 : KS)  (s : KS) (x1 : Int32) (hI_s : InvK s) (hF_s : FrK [12, 15, 16, 17, 122] s0 s) (h_x1l : 0 ≤ x1.toInt) (h_x1u : x1.toInt ≤ 6) (hD : (6 - x1.toInt).toNat ≤ D)  : Ok (kX4_readSum R  s x1) (Q_kX4_readSum s0) := by
  unfold kX4_readSum
  refine ok_bindP (ok_kX4_readProduct R D hR _ _ hI_s (by omega) (by omega) (by omega)) (fun s1 hc_1 => ?_)
  have hI_s1 : InvK s1 := hc_1.1
  have hFc_s1 : FrK [12, 15, 16, 17, 122] s s1 := hc_1.2
  have hF_s1 : FrK [12, 15, 16, 17, 122] s0 s1 := hF_s.trans hFc_s1 (by decide)
  have l_0 : (0 : Int32).toInt = 0 := by decide
  exact okL_kX4_readSum_7 R D hR s0  fu _ _ _ (by unfold fu; omega) hI_s1 hF_s1 (by omega) (by omega) (by decide) (by decide) (by omega) 
theorem ok_kX4_readSum (R : KS → Int32 → Option KS) (D : Nat) (hR : ∀ (s : KS) (x1 : Int32), InvK s → 0 ≤ x1.toInt → x1.toInt ≤ 6 → (6 - x1.toInt).toNat < D → Ok (R s x1) (fun y => InvK y ∧ FrK [12, 15, 16, 17, 122] s y)) (s : KS) (x1 : Int32) (hI_s : InvK s) (h_x1l : 0 ≤ x1.toInt) (h_x1u : x1.toInt ≤ 6) (hD : (6 - x1.toInt).toNat ≤ D) : Ok (kX4_readSum R s x1) (Q_kX4_readSum s) := ok_kX4_readSumB R D hR s s x1 hI_s FrK.rfl h_x1l h_x1u hD
theorem ok_kX4_readSumR : ∀ (n : Nat) (s : KS) (x1 : Int32), InvK s → 0 ≤ x1.toInt → x1.toInt ≤ 6 → (6 - x1.toInt).toNat < n → Ok (kX4_readSumR n s x1) (Q_kX4_readSum s) := by
  intro n
  induction n with
  | zero => intro s x1 _ _ _ h; omega
  | succ n ih => intro s x1 hI h0 h1 h; exact ok_kX4_readSum (kX4_readSumR n) n ih s x1 hI h0 h1 (by omega)
theorem ok_kX4_readSumR8 (s : KS) (x1 : Int32) (hI : InvK s) (h0 : 0 ≤ x1.toInt) (h1 : x1.toInt ≤ 0) : Ok (kX4_readSumR 8 s x1) (Q_kX4_readSum s) := ok_kX4_readSumR 8 s x1 hI h0 (by omega) (by omega)
noncomputable abbrev Q_kX10_wave (s0 : XS) (y : Int32 × XS) : Prop := InvK y.2.k ∧ FrK [7, 113, 114] s0.k y.2.k ∧ InvG y.2.g ∧ -2147483648 ≤ y.1.toInt ∧ y.1.toInt ≤ 2147483647
set_option maxHeartbeats 1000000 in
theorem ok_kX10_waveB (s0 : XS)  (s : XS) (x1 : Int32) (x2 : Int32) (hI_s_k : InvK s.k) (hF_s_k : FrK [7, 113, 114] s0.k s.k) (hI_s_g : InvG s.g)  : Ok (kX10_wave  s x1 x2) (Q_kX10_wave s0) := by
  unfold kX10_wave
  refine ok_bindI (ok_kX5_hasWave _ _ hI_s_k) (fun r2 s1 hc_1 => ?_)
  have hI_s1 : InvK s1 := hc_1.1
  have hFc_s1 : FrK [] s.k s1 := hc_1.2.1
  have hF_s1 : FrK [7, 113, 114] s0.k s1 := hF_s_k.trans hFc_s1 (by decide)
  have hl_r2 : 0 ≤ r2.toInt := hc_1.2.2.1
  have hu_r2 : r2.toInt ≤ 1 := hc_1.2.2.2.1
  have hx0_r2 : (¬ r2.toInt = 0 → 0 ≤ (x1).toInt ∧ (x1).toInt ≤ 4) := hc_1.2.2.2.2
  refine ok_let (fun s3 hs3 => ?_)
  have hI_s3_g : InvG s3.g := by rw [← hs3]; exact hI_s_g
  have hI_s3_k : InvK s3.k := by rw [← hs3]; exact hI_s1
  have hF_s3_k : FrK [7, 113, 114] s0.k s3.k := by rw [← hs3]; exact hF_s1
  refine ok_ite (fun c_2 => ?_) (fun c_2 => ?_)
  · have c_2 := tn_eq (a := (r2).toInt) (b := 0) rfl (by decide) c_2
    exact ok_some ⟨hI_s3_k, hF_s3_k, hI_s3_g, (ti_rng _).1, (ti_rng _).2⟩
  · have c_2 := tn_ne (a := (r2).toInt) (b := 0) rfl (by decide) c_2
    refine ok_ite (fun c_3 => ?_) (fun c_3 => ?_)
    · have c_3 := tn_eq (a := (x2).toInt) (b := 0) rfl (by decide) c_3
      refine ok_bindI (ok_kX0_mayBe _ _ hI_s3_k (by omega) (by omega)) (fun r8 s7 hc_4 => ?_)
      have hI_s7_k : InvK s7.k := hc_4.1
      have hFc_s7_k : FrK [] s3.k s7.k := hc_4.2.1
      have hF_s7_k : FrK [7, 113, 114] s0.k s7.k := hF_s3_k.trans hFc_s7_k (by decide)
      refine ok_let (fun s9 hs9 => ?_)
      have hI_s9_g : InvG s9.g := by rw [← hs9]; exact hI_s3_g
      have hI_s9_k : InvK s9.k := by rw [← hs9]; exact hI_s7_k
      have hF_s9_k : FrK [7, 113, 114] s0.k s9.k := by rw [← hs9]; exact hF_s7_k
      exact ok_some ⟨hI_s9_k, hF_s9_k, hI_s9_g, (ti_rng _).1, (ti_rng _).2⟩
    · have c_3 := tn_ne (a := (x2).toInt) (b := 0) rfl (by decide) c_3
      refine ok_ite (fun c_5 => ?_) (fun c_5 => ?_)
      · have c_5 := tn_eq (a := (x2).toInt) (b := 1) rfl (by decide) c_5
        refine ok_grd (vpb_ok (by omega) (by omega)) ?_
        refine ok_ite (fun c_6 => ?_) (fun c_6 => ?_)
        · have c_6 := tn_eq (a := (((s3.n.f 0) (Int32.toNatClampNeg x1))).toInt) (b := (-1)) rfl (by decide) c_6
          exact ok_some ⟨hI_s3_k, hF_s3_k, hI_s3_g, (ti_rng _).1, (ti_rng _).2⟩
        · have c_6 := tn_ne (a := (((s3.n.f 0) (Int32.toNatClampNeg x1))).toInt) (b := (-1)) rfl (by decide) c_6
          refine ok_grd (vpb_ok (by omega) (by omega)) ?_
          exact ok_some ⟨hI_s3_k, hF_s3_k, hI_s3_g, (ti_rng _).1, (ti_rng _).2⟩
      · have c_5 := tn_ne (a := (x2).toInt) (b := 1) rfl (by decide) c_5
        refine ok_ite (fun c_7 => ?_) (fun c_7 => ?_)
        · have c_7 := tn_eq (a := (x2).toInt) (b := 2) rfl (by decide) c_7
          refine ok_grd (vpb_ok (by omega) (by omega)) ?_
          exact ok_some ⟨hI_s3_k, hF_s3_k, hI_s3_g, (ti_rng _).1, (ti_rng _).2⟩
        · have c_7 := tn_ne (a := (x2).toInt) (b := 2) rfl (by decide) c_7
          refine ok_ite (fun c_8 => ?_) (fun c_8 => ?_)
          · have c_8 := tn_eq (a := (x2).toInt) (b := 3) rfl (by decide) c_8
            refine ok_grd (vpb_ok (by omega) (by omega)) ?_
            exact ok_some ⟨hI_s3_k, hF_s3_k, hI_s3_g, (ti_rng _).1, (ti_rng _).2⟩
          · have c_8 := tn_ne (a := (x2).toInt) (b := 3) rfl (by decide) c_8
            refine ok_ite (fun c_9 => ?_) (fun c_9 => ?_)
            · have c_9 := tn_eq (a := (x2).toInt) (b := 4) rfl (by decide) c_9
              refine ok_bindI (ok_kX0_thereNow _ _ hI_s3_k (by omega) (by omega)) (fun r21 s20 hc_10 => ?_)
              have hI_s20_k : InvK s20.k := hc_10.1
              have hFc_s20_k : FrK [] s3.k s20.k := hc_10.2.1
              have hF_s20_k : FrK [7, 113, 114] s0.k s20.k := hF_s3_k.trans hFc_s20_k (by decide)
              have hl_r21 : 0 ≤ r21.toInt := hc_10.2.2.1
              have hu_r21 : r21.toInt ≤ 5 := hc_10.2.2.2
              refine ok_let (fun s22 hs22 => ?_)
              have hI_s22_g : InvG s22.g := by rw [← hs22]; exact hI_s3_g
              have hI_s22_k : InvK s22.k := by rw [← hs22]; exact hI_s20_k
              have hF_s22_k : FrK [7, 113, 114] s0.k s22.k := by rw [← hs22]; exact hF_s20_k
              exact ok_some ⟨hI_s22_k, hF_s22_k, hI_s22_g, (ti_rng _).1, (ti_rng _).2⟩
            · have c_9 := tn_ne (a := (x2).toInt) (b := 4) rfl (by decide) c_9
              refine ok_ite (fun c_11 => ?_) (fun c_11 => ?_)
              · have c_11 := tn_eq (a := (x2).toInt) (b := 5) rfl (by decide) c_11
                refine ok_bindI (ok_kX0_shiftsOf _ _ hI_s3_k (by omega) (by omega)) (fun r26 s25 hc_12 => ?_)
                have hI_s25_k : InvK s25.k := hc_12.1
                have hFc_s25_k : FrK [7, 113, 114] s3.k s25.k := hc_12.2.1
                have hF_s25_k : FrK [7, 113, 114] s0.k s25.k := hF_s3_k.trans hFc_s25_k (by decide)
                have hl_r26 : 0 ≤ r26.toInt := hc_12.2.2.1
                have hu_r26 : r26.toInt ≤ 100 := hc_12.2.2.2
                refine ok_let (fun s27 hs27 => ?_)
                have hI_s27_g : InvG s27.g := by rw [← hs27]; exact hI_s3_g
                have hI_s27_k : InvK s27.k := by rw [← hs27]; exact hI_s25_k
                have hF_s27_k : FrK [7, 113, 114] s0.k s27.k := by rw [← hs27]; exact hF_s25_k
                exact ok_some ⟨hI_s27_k, hF_s27_k, hI_s27_g, (ti_rng _).1, (ti_rng _).2⟩
              · have c_11 := tn_ne (a := (x2).toInt) (b := 5) rfl (by decide) c_11
                exact ok_some ⟨hI_s3_k, hF_s3_k, hI_s3_g, (ti_rng _).1, (ti_rng _).2⟩
theorem ok_kX10_wave (s : XS) (x1 : Int32) (x2 : Int32) (hI_s_k : InvK s.k) (hI_s_g : InvG s.g) : Ok (kX10_wave s x1 x2) (Q_kX10_wave s) := ok_kX10_waveB s s x1 x2 hI_s_k FrK.rfl hI_s_g
noncomputable abbrev Q_kX10_party (s0 : XS) (y : Int32 × XS) : Prop := InvK y.2.k ∧ FrK [7, 113, 114] s0.k y.2.k ∧ InvG y.2.g ∧ -2147483648 ≤ y.1.toInt ∧ y.1.toInt ≤ 2147483647
set_option maxHeartbeats 1000000 in
theorem ok_kX10_partyB (s0 : XS)  (s : XS) (x1 : Int32) (x2 : Int32) (hI_s_k : InvK s.k) (hF_s_k : FrK [7, 113, 114] s0.k s.k) (hI_s_g : InvG s.g)  : Ok (kX10_party  s x1 x2) (Q_kX10_party s0) := by
  unfold kX10_party
  refine ok_bindI (ok_kX5_hasParty _ _ hI_s_k) (fun r2 s1 hc_1 => ?_)
  have hI_s1 : InvK s1 := hc_1.1
  have hFc_s1 : FrK [] s.k s1 := hc_1.2.1
  have hF_s1 : FrK [7, 113, 114] s0.k s1 := hF_s_k.trans hFc_s1 (by decide)
  have hl_r2 : 0 ≤ r2.toInt := hc_1.2.2.1
  have hu_r2 : r2.toInt ≤ 1 := hc_1.2.2.2.1
  have hx0_r2 : (¬ r2.toInt = 0 → 0 ≤ (x1).toInt ∧ (x1).toInt ≤ 5) := hc_1.2.2.2.2
  refine ok_let (fun s3 hs3 => ?_)
  have hI_s3_g : InvG s3.g := by rw [← hs3]; exact hI_s_g
  have hI_s3_k : InvK s3.k := by rw [← hs3]; exact hI_s1
  have hF_s3_k : FrK [7, 113, 114] s0.k s3.k := by rw [← hs3]; exact hF_s1
  refine ok_ite (fun c_2 => ?_) (fun c_2 => ?_)
  · have c_2 := tn_eq (a := (r2).toInt) (b := 0) rfl (by decide) c_2
    exact ok_some ⟨hI_s3_k, hF_s3_k, hI_s3_g, (ti_rng _).1, (ti_rng _).2⟩
  · have c_2 := tn_ne (a := (r2).toInt) (b := 0) rfl (by decide) c_2
    refine ok_ite (fun c_3 => ?_) (fun c_3 => ?_)
    · have c_3 := tn_eq (a := (x2).toInt) (b := 0) rfl (by decide) c_3
      refine ok_grd (vpb_ok (by omega) (by omega)) ?_
      exact ok_some ⟨hI_s3_k, hF_s3_k, hI_s3_g, (ti_rng _).1, (ti_rng _).2⟩
    · have c_3 := tn_ne (a := (x2).toInt) (b := 0) rfl (by decide) c_3
      refine ok_ite (fun c_4 => ?_) (fun c_4 => ?_)
      · have c_4 := tn_eq (a := (x2).toInt) (b := 1) rfl (by decide) c_4
        refine ok_grd (vpb_ok (by omega) (by omega)) ?_
        exact ok_some ⟨hI_s3_k, hF_s3_k, hI_s3_g, (ti_rng _).1, (ti_rng _).2⟩
      · have c_4 := tn_ne (a := (x2).toInt) (b := 1) rfl (by decide) c_4
        refine ok_ite (fun c_5 => ?_) (fun c_5 => ?_)
        · have c_5 := tn_eq (a := (x2).toInt) (b := 2) rfl (by decide) c_5
          refine ok_grd (vpb_ok (by omega) (by omega)) ?_
          exact ok_some ⟨hI_s3_k, hF_s3_k, hI_s3_g, (ti_rng _).1, (ti_rng _).2⟩
        · have c_5 := tn_ne (a := (x2).toInt) (b := 2) rfl (by decide) c_5
          refine ok_ite (fun c_6 => ?_) (fun c_6 => ?_)
          · have c_6 := tn_eq (a := (x2).toInt) (b := 3) rfl (by decide) c_6
            refine ok_grd (vpb_ok (by omega) (by omega)) ?_
            exact ok_some ⟨hI_s3_k, hF_s3_k, hI_s3_g, (ti_rng _).1, (ti_rng _).2⟩
          · have c_6 := tn_ne (a := (x2).toInt) (b := 3) rfl (by decide) c_6
            refine ok_ite (fun c_7 => ?_) (fun c_7 => ?_)
            · have c_7 := tn_eq (a := (x2).toInt) (b := 4) rfl (by decide) c_7
              refine ok_bindI (ok_kX0_fareOf _ _ hI_s3_k (by omega) (by omega)) (fun r16 s15 hc_8 => ?_)
              have hI_s15_k : InvK s15.k := hc_8.1
              have hFc_s15_k : FrK [7, 113, 114] s3.k s15.k := hc_8.2.1
              have hF_s15_k : FrK [7, 113, 114] s0.k s15.k := hF_s3_k.trans hFc_s15_k (by decide)
              have hl_r16 : 0 ≤ r16.toInt := hc_8.2.2.1
              have hu_r16 : r16.toInt ≤ 100 := hc_8.2.2.2
              refine ok_let (fun s17 hs17 => ?_)
              have hI_s17_g : InvG s17.g := by rw [← hs17]; exact hI_s3_g
              have hI_s17_k : InvK s17.k := by rw [← hs17]; exact hI_s15_k
              have hF_s17_k : FrK [7, 113, 114] s0.k s17.k := by rw [← hs17]; exact hF_s15_k
              exact ok_some ⟨hI_s17_k, hF_s17_k, hI_s17_g, (ti_rng _).1, (ti_rng _).2⟩
            · have c_7 := tn_ne (a := (x2).toInt) (b := 4) rfl (by decide) c_7
              refine ok_ite (fun c_9 => ?_) (fun c_9 => ?_)
              · have c_9 := tn_eq (a := (x2).toInt) (b := 5) rfl (by decide) c_9
                refine ok_bindI (ok_kX0_isDaring _ _ hI_s3_k (by omega) (by omega)) (fun r21 s20 hc_10 => ?_)
                have hI_s20_k : InvK s20.k := hc_10.1
                have hFc_s20_k : FrK [7, 113, 114] s3.k s20.k := hc_10.2.1
                have hF_s20_k : FrK [7, 113, 114] s0.k s20.k := hF_s3_k.trans hFc_s20_k (by decide)
                have hl_r21 : 0 ≤ r21.toInt := hc_10.2.2.1
                have hu_r21 : r21.toInt ≤ 1 := hc_10.2.2.2
                refine ok_let (fun s22 hs22 => ?_)
                have hI_s22_g : InvG s22.g := by rw [← hs22]; exact hI_s3_g
                have hI_s22_k : InvK s22.k := by rw [← hs22]; exact hI_s20_k
                have hF_s22_k : FrK [7, 113, 114] s0.k s22.k := by rw [← hs22]; exact hF_s20_k
                refine ok_ite (fun c_11 => ?_) (fun c_11 => ?_)
                · have c_11 := tn_eq (a := (r21).toInt) (b := 0) rfl (by decide) c_11
                  exact ok_some ⟨hI_s22_k, hF_s22_k, hI_s22_g, (ti_rng _).1, (ti_rng _).2⟩
                · have c_11 := tn_ne (a := (r21).toInt) (b := 0) rfl (by decide) c_11
                  exact ok_some ⟨hI_s22_k, hF_s22_k, hI_s22_g, (ti_rng _).1, (ti_rng _).2⟩
              · have c_9 := tn_ne (a := (x2).toInt) (b := 5) rfl (by decide) c_9
                exact ok_some ⟨hI_s3_k, hF_s3_k, hI_s3_g, (ti_rng _).1, (ti_rng _).2⟩
theorem ok_kX10_party (s : XS) (x1 : Int32) (x2 : Int32) (hI_s_k : InvK s.k) (hI_s_g : InvG s.g) : Ok (kX10_party s x1 x2) (Q_kX10_party s) := ok_kX10_partyB s s x1 x2 hI_s_k FrK.rfl hI_s_g
noncomputable abbrev Q_kX10_needs (s0 : XS) (y : Int32 × XS) : Prop := InvK y.2.k ∧ FrK [7, 113, 114] s0.k y.2.k ∧ InvG y.2.g ∧ -1 ≤ y.1.toInt ∧ y.1.toInt ≤ 100
set_option maxHeartbeats 1000000 in
theorem ok_kX10_needsB (s0 : XS)  (s : XS) (x1 : Int32) (x2 : Int32) (x3 : Int32) (hI_s_k : InvK s.k) (hF_s_k : FrK [7, 113, 114] s0.k s.k) (hI_s_g : InvG s.g)  : Ok (kX10_needs  s x1 x2 x3) (Q_kX10_needs s0) := by
  unfold kX10_needs
  refine ok_bindI (ok_kX5_hasParty _ _ hI_s_k) (fun r2 s1 hc_1 => ?_)
  have hI_s1 : InvK s1 := hc_1.1
  have hFc_s1 : FrK [] s.k s1 := hc_1.2.1
  have hF_s1 : FrK [7, 113, 114] s0.k s1 := hF_s_k.trans hFc_s1 (by decide)
  have hl_r2 : 0 ≤ r2.toInt := hc_1.2.2.1
  have hu_r2 : r2.toInt ≤ 1 := hc_1.2.2.2.1
  have hx0_r2 : (¬ r2.toInt = 0 → 0 ≤ (x1).toInt ∧ (x1).toInt ≤ 5) := hc_1.2.2.2.2
  refine ok_let (fun s3 hs3 => ?_)
  have hI_s3_g : InvG s3.g := by rw [← hs3]; exact hI_s_g
  have hI_s3_k : InvK s3.k := by rw [← hs3]; exact hI_s1
  have hF_s3_k : FrK [7, 113, 114] s0.k s3.k := by rw [← hs3]; exact hF_s1
  refine ok_ite (fun c_2 => ?_) (fun c_2 => ?_)
  · have c_2 := tn_eq (a := (r2).toInt) (b := 0) rfl (by decide) c_2
    exact ok_some ⟨hI_s3_k, hF_s3_k, hI_s3_g, by show -1 ≤ ((-1) : Int32).toInt; decide, by show ((-1) : Int32).toInt ≤ 100; decide⟩
  · have c_2 := tn_ne (a := (r2).toInt) (b := 0) rfl (by decide) c_2
    refine ok_bindI (ok_kX5_hasWave _ _ hI_s3_k) (fun r7 s6 hc_3 => ?_)
    have hI_s6 : InvK s6 := hc_3.1
    have hFc_s6 : FrK [] s3.k s6 := hc_3.2.1
    have hF_s6 : FrK [7, 113, 114] s0.k s6 := hF_s3_k.trans hFc_s6 (by decide)
    have hl_r7 : 0 ≤ r7.toInt := hc_3.2.2.1
    have hu_r7 : r7.toInt ≤ 1 := hc_3.2.2.2.1
    have hx0_r7 : (¬ r7.toInt = 0 → 0 ≤ (x2).toInt ∧ (x2).toInt ≤ 4) := hc_3.2.2.2.2
    refine ok_let (fun s8 hs8 => ?_)
    have hI_s8_g : InvG s8.g := by rw [← hs8]; exact hI_s3_g
    have hI_s8_k : InvK s8.k := by rw [← hs8]; exact hI_s6
    have hF_s8_k : FrK [7, 113, 114] s0.k s8.k := by rw [← hs8]; exact hF_s6
    refine ok_ite (fun c_4 => ?_) (fun c_4 => ?_)
    · have c_4 := tn_eq (a := (r7).toInt) (b := 0) rfl (by decide) c_4
      exact ok_some ⟨hI_s8_k, hF_s8_k, hI_s8_g, by show -1 ≤ ((-1) : Int32).toInt; decide, by show ((-1) : Int32).toInt ≤ 100; decide⟩
    · have c_4 := tn_ne (a := (r7).toInt) (b := 0) rfl (by decide) c_4
      refine ok_bindP (ok_kX10_isThing _ ) (fun r11 hc_5 => ?_)
      have hl_r11 : 0 ≤ r11.toInt := hc_5.1
      have hu_r11 : r11.toInt ≤ 1 := hc_5.2.1
      have hx0_r11 : (¬ r11.toInt = 0 → 0 ≤ (x3).toInt ∧ (x3).toInt ≤ 5) := hc_5.2.2
      refine ok_ite (fun c_6 => ?_) (fun c_6 => ?_)
      · have c_6 := tn_eq (a := (r11).toInt) (b := 0) rfl (by decide) c_6
        exact ok_some ⟨hI_s8_k, hF_s8_k, hI_s8_g, by show -1 ≤ ((-1) : Int32).toInt; decide, by show ((-1) : Int32).toInt ≤ 100; decide⟩
      · have c_6 := tn_ne (a := (r11).toInt) (b := 0) rfl (by decide) c_6
        refine ok_bindI (ok_kX0_needOf _ _ _ _ hI_s8_k (by omega) (by omega) (by omega) (by omega) (by omega) (by omega)) (fun r14 s13 hc_7 => ?_)
        have hI_s13_k : InvK s13.k := hc_7.1
        have hFc_s13_k : FrK [7, 113, 114] s8.k s13.k := hc_7.2.1
        have hF_s13_k : FrK [7, 113, 114] s0.k s13.k := hF_s8_k.trans hFc_s13_k (by decide)
        have hl_r14 : 0 ≤ r14.toInt := hc_7.2.2.1
        have hu_r14 : r14.toInt ≤ 100 := hc_7.2.2.2
        refine ok_let (fun s15 hs15 => ?_)
        have hI_s15_g : InvG s15.g := by rw [← hs15]; exact hI_s8_g
        have hI_s15_k : InvK s15.k := by rw [← hs15]; exact hI_s13_k
        have hF_s15_k : FrK [7, 113, 114] s0.k s15.k := by rw [← hs15]; exact hF_s13_k
        exact ok_some ⟨hI_s15_k, hF_s15_k, hI_s15_g, by show -1 ≤ (r14).toInt; omega, by show (r14).toInt ≤ 100; omega⟩
theorem ok_kX10_needs (s : XS) (x1 : Int32) (x2 : Int32) (x3 : Int32) (hI_s_k : InvK s.k) (hI_s_g : InvG s.g) : Ok (kX10_needs s x1 x2 x3) (Q_kX10_needs s) := ok_kX10_needsB s s x1 x2 x3 hI_s_k FrK.rfl hI_s_g
noncomputable abbrev Q_kX10_go (s0 : YS) (y : Int32 × YS) : Prop := InvK y.2.x.k ∧ FrK [7, 113, 114] s0.x.k y.2.x.k ∧ InvG y.2.x.g ∧ -2147483648 ≤ y.1.toInt ∧ y.1.toInt ≤ 2147483647
set_option maxHeartbeats 1000000 in
theorem ok_kX10_goB (s0 : YS)  (s : YS) (x1 : Int32) (x2 : Int32) (hI_s_x_k : InvK s.x.k) (hF_s_x_k : FrK [7, 113, 114] s0.x.k s.x.k) (hI_s_x_g : InvG s.x.g)  : Ok (kX10_go  s x1 x2) (Q_kX10_go s0) := by
  unfold kX10_go
  refine ok_bindI (ok_kX10_isHere _ _ hI_s_x_k hI_s_x_g) (fun r2 s1 hc_1 => ?_)
  have hI_s1_k : InvK s1.k := hc_1.1
  have hFc_s1_k : FrK [] s.x.k s1.k := hc_1.2.1
  have hF_s1_k : FrK [7, 113, 114] s0.x.k s1.k := hF_s_x_k.trans hFc_s1_k (by decide)
  have hI_s1_g : InvG s1.g := hc_1.2.2.1
  have hl_r2 : 0 ≤ r2.toInt := hc_1.2.2.2.1
  have hu_r2 : r2.toInt ≤ 1 := hc_1.2.2.2.2.1
  have hx0_r2 : (¬ r2.toInt = 0 → 0 ≤ (x1).toInt ∧ (x1).toInt ≤ 5) := hc_1.2.2.2.2.2
  refine ok_let (fun s3 hs3 => ?_)
  have hI_s3_x_k : InvK s3.x.k := by rw [← hs3]; exact hI_s1_k
  have hF_s3_x_k : FrK [7, 113, 114] s0.x.k s3.x.k := by rw [← hs3]; exact hF_s1_k
  have hI_s3_x_g : InvG s3.x.g := by rw [← hs3]; exact hI_s1_g
  refine ok_ite (fun c_2 => ?_) (fun c_2 => ?_)
  · have c_2 := tn_eq (a := (r2).toInt) (b := 0) rfl (by decide) c_2
    exact ok_some ⟨hI_s3_x_k, hF_s3_x_k, hI_s3_x_g, (ti_rng _).1, (ti_rng _).2⟩
  · have c_2 := tn_ne (a := (r2).toInt) (b := 0) rfl (by decide) c_2
    have a_3 : 0 ≤ (s.x.k.v 1).toInt ∧ (s.x.k.v 1).toInt ≤ 5 := hI_s_x_k.1 1
    have a_4 : (s1.k.v 1).toInt = (s.x.k.v 1).toInt := congrArg Int32.toInt (hFc_s1_k.1 1 (by decide))
    have a_5 : (s3.x.k.v 1).toInt = (s1.k.v 1).toInt := congrArg Int32.toInt (show s3.x.k.v 1 = s1.k.v 1 by rw [← hs3]; rfl)
    refine ok_ite (fun c_6 => ?_) (fun c_6 => ?_)
    · have c_6 := tn_eq (a := ((s3.x.k.v 1)).toInt) (b := 0) rfl (by decide) c_6
      exact ok_some ⟨hI_s3_x_k, hF_s3_x_k, hI_s3_x_g, (ti_rng _).1, (ti_rng _).2⟩
    · have c_6 := tn_ne (a := ((s3.x.k.v 1)).toInt) (b := 0) rfl (by decide) c_6
      refine ok_bindI (ok_kX5_hasGuess _ _ hI_s3_x_k) (fun r8 s7 hc_7 => ?_)
      have hI_s7 : InvK s7 := hc_7.1
      have hFc_s7 : FrK [] s3.x.k s7 := hc_7.2.1
      have hF_s7 : FrK [7, 113, 114] s0.x.k s7 := hF_s3_x_k.trans hFc_s7 (by decide)
      have hl_r8 : 0 ≤ r8.toInt := hc_7.2.2.1
      have hu_r8 : r8.toInt ≤ 1 := hc_7.2.2.2.1
      have hx0_r8 : (¬ r8.toInt = 0 → 0 ≤ (x2).toInt) := hc_7.2.2.2.2
      refine ok_let (fun s9 hs9 => ?_)
      have hI_s9_x_k : InvK s9.x.k := by rw [← hs9]; exact hI_s7
      have hF_s9_x_k : FrK [7, 113, 114] s0.x.k s9.x.k := by rw [← hs9]; exact hF_s7
      have hI_s9_x_g : InvG s9.x.g := by rw [← hs9]; exact hI_s3_x_g
      refine ok_ite (fun c_8 => ?_) (fun c_8 => ?_)
      · have c_8 := tn_eq (a := (r8).toInt) (b := 0) rfl (by decide) c_8
        exact ok_some ⟨hI_s9_x_k, hF_s9_x_k, hI_s9_x_g, (ti_rng _).1, (ti_rng _).2⟩
      · have c_8 := tn_ne (a := (r8).toInt) (b := 0) rfl (by decide) c_8
        refine ok_bindP (ok_kX3_remember _  hI_s9_x_g) (fun s12 hc_9 => ?_)
        have hI_s12_g : InvG s12.g := hc_9
        refine ok_let (fun s13 hs13 => ?_)
        have hI_s13_x_k : InvK s13.x.k := by rw [← hs13]; exact hI_s9_x_k
        have hF_s13_x_k : FrK [7, 113, 114] s0.x.k s13.x.k := by rw [← hs13]; exact hF_s9_x_k
        have hI_s13_x_g : InvG s13.x.g := by rw [← hs13]; exact hI_s12_g
        refine ok_bindI (ok_kX0_sendBy _ _ _ hI_s13_x_k (by omega) (by omega) (by omega)) (fun r16 s15 hc_10 => ?_)
        have hI_s15_k : InvK s15.k := hc_10.1
        have hFc_s15_k : FrK [7, 113, 114] s13.x.k s15.k := hc_10.2.1
        have hF_s15_k : FrK [7, 113, 114] s0.x.k s15.k := hF_s13_x_k.trans hFc_s15_k (by decide)
        refine ok_let (fun s17 hs17 => ?_)
        have hI_s17_x_k : InvK s17.x.k := by rw [← hs17]; exact hI_s15_k
        have hF_s17_x_k : FrK [7, 113, 114] s0.x.k s17.x.k := by rw [← hs17]; exact hF_s15_k
        have hI_s17_x_g : InvG s17.x.g := by rw [← hs17]; exact hI_s13_x_g
        exact ok_some ⟨hI_s17_x_k, hF_s17_x_k, hI_s17_x_g, (ti_rng _).1, (ti_rng _).2⟩
theorem ok_kX10_go (s : YS) (x1 : Int32) (x2 : Int32) (hI_s_x_k : InvK s.x.k) (hI_s_x_g : InvG s.x.g) : Ok (kX10_go s x1 x2) (Q_kX10_go s) := ok_kX10_goB s s x1 x2 hI_s_x_k FrK.rfl hI_s_x_g
end
section
noncomputable abbrev Q_kX10_bears (s0 : XS) (y : Int32 × XS) : Prop := InvK y.2.k ∧ FrK [7, 113, 114] s0.k y.2.k ∧ InvG y.2.g ∧ -1 ≤ y.1.toInt ∧ y.1.toInt ≤ 5
set_option maxHeartbeats 1000000 in
theorem ok_kX10_bearsB (s0 : XS)  (s : XS) (x1 : Int32) (x2 : Int32) (hI_s_k : InvK s.k) (hF_s_k : FrK [7, 113, 114] s0.k s.k) (hI_s_g : InvG s.g)  : Ok (kX10_bears  s x1 x2) (Q_kX10_bears s0) := by
  unfold kX10_bears
  refine ok_bindI (ok_kX5_hasParty _ _ hI_s_k) (fun r2 s1 hc_1 => ?_)
  have hI_s1 : InvK s1 := hc_1.1
  have hFc_s1 : FrK [] s.k s1 := hc_1.2.1
  have hF_s1 : FrK [7, 113, 114] s0.k s1 := hF_s_k.trans hFc_s1 (by decide)
  have hl_r2 : 0 ≤ r2.toInt := hc_1.2.2.1
  have hu_r2 : r2.toInt ≤ 1 := hc_1.2.2.2.1
  have hx0_r2 : (¬ r2.toInt = 0 → 0 ≤ (x1).toInt ∧ (x1).toInt ≤ 5) := hc_1.2.2.2.2
  refine ok_let (fun s3 hs3 => ?_)
  have hI_s3_g : InvG s3.g := by rw [← hs3]; exact hI_s_g
  have hI_s3_k : InvK s3.k := by rw [← hs3]; exact hI_s1
  have hF_s3_k : FrK [7, 113, 114] s0.k s3.k := by rw [← hs3]; exact hF_s1
  refine ok_ite (fun c_2 => ?_) (fun c_2 => ?_)
  · have c_2 := tn_eq (a := (r2).toInt) (b := 0) rfl (by decide) c_2
    exact ok_some ⟨hI_s3_k, hF_s3_k, hI_s3_g, by show -1 ≤ ((-1) : Int32).toInt; decide, by show ((-1) : Int32).toInt ≤ 5; decide⟩
  · have c_2 := tn_ne (a := (r2).toInt) (b := 0) rfl (by decide) c_2
    refine ok_bindI (ok_kX5_hasGuess _ _ hI_s3_k) (fun r7 s6 hc_3 => ?_)
    have hI_s6 : InvK s6 := hc_3.1
    have hFc_s6 : FrK [] s3.k s6 := hc_3.2.1
    have hF_s6 : FrK [7, 113, 114] s0.k s6 := hF_s3_k.trans hFc_s6 (by decide)
    have hl_r7 : 0 ≤ r7.toInt := hc_3.2.2.1
    have hu_r7 : r7.toInt ≤ 1 := hc_3.2.2.2.1
    have hx0_r7 : (¬ r7.toInt = 0 → 0 ≤ (x2).toInt) := hc_3.2.2.2.2
    refine ok_let (fun s8 hs8 => ?_)
    have hI_s8_g : InvG s8.g := by rw [← hs8]; exact hI_s3_g
    have hI_s8_k : InvK s8.k := by rw [← hs8]; exact hI_s6
    have hF_s8_k : FrK [7, 113, 114] s0.k s8.k := by rw [← hs8]; exact hF_s6
    refine ok_ite (fun c_4 => ?_) (fun c_4 => ?_)
    · have c_4 := tn_eq (a := (r7).toInt) (b := 0) rfl (by decide) c_4
      exact ok_some ⟨hI_s8_k, hF_s8_k, hI_s8_g, by show -1 ≤ ((-1) : Int32).toInt; decide, by show ((-1) : Int32).toInt ≤ 5; decide⟩
    · have c_4 := tn_ne (a := (r7).toInt) (b := 0) rfl (by decide) c_4
      refine ok_bindI (ok_kX2_borneOver _ _ _ hI_s8_k (by omega) (by omega) (by omega)) (fun r12 s11 hc_5 => ?_)
      have hI_s11_k : InvK s11.k := hc_5.1
      have hFc_s11_k : FrK [7, 113, 114] s8.k s11.k := hc_5.2.1
      have hF_s11_k : FrK [7, 113, 114] s0.k s11.k := hF_s8_k.trans hFc_s11_k (by decide)
      have hl_r12 : 0 ≤ r12.toInt := hc_5.2.2.1
      have hu_r12 : r12.toInt ≤ 5 := hc_5.2.2.2
      refine ok_let (fun s13 hs13 => ?_)
      have hI_s13_g : InvG s13.g := by rw [← hs13]; exact hI_s8_g
      have hI_s13_k : InvK s13.k := by rw [← hs13]; exact hI_s11_k
      have hF_s13_k : FrK [7, 113, 114] s0.k s13.k := by rw [← hs13]; exact hF_s11_k
      exact ok_some ⟨hI_s13_k, hF_s13_k, hI_s13_g, by show -1 ≤ (r12).toInt; omega, by show (r12).toInt ≤ 5; omega⟩
theorem ok_kX10_bears (s : XS) (x1 : Int32) (x2 : Int32) (hI_s_k : InvK s.k) (hI_s_g : InvG s.g) : Ok (kX10_bears s x1 x2) (Q_kX10_bears s) := ok_kX10_bearsB s s x1 x2 hI_s_k FrK.rfl hI_s_g
noncomputable abbrev Q_kX10_sunk (s0 : XS) (y : Int32 × XS) : Prop := InvK y.2.k ∧ FrK [7, 113, 114] s0.k y.2.k ∧ InvG y.2.g ∧ -2147483648 ≤ y.1.toInt ∧ y.1.toInt ≤ 2147483647
set_option maxHeartbeats 1000000 in
theorem ok_kX10_sunk_69 (s0 : XS) (k17 : XS → Int32 → Int32 → Int32 → Option (Int32 × XS)) (M17 : Nat) (hk17 : ∀ (s : XS) (x1 : Int32) (x2 : Int32) (x3 : Int32), InvK s.k → FrK [7, 113, 114] s0.k s.k → InvG s.g → 0 ≤ x1.toInt → 0 ≤ x3.toInt → x3.toInt ≤ 6 → (6 - x3.toInt).toNat < M17 → Ok (k17 s x1 x2 x3) (Q_kX10_sunk s0)) (s : XS) (x1 : Int32) (x2 : Int32) (x3 : Int32) (hI_s_k : InvK s.k) (hF_s_k : FrK [7, 113, 114] s0.k s.k) (hI_s_g : InvG s.g) (h_x1l : 0 ≤ x1.toInt) (h_x3l : 0 ≤ x3.toInt) (h_x3u : x3.toInt ≤ 5) (hM17 : (6 - x3.toInt).toNat ≤ M17) : Ok (kX10_sunk_69 k17 s x1 x2 x3) (Q_kX10_sunk s0) := by
  unfold kX10_sunk_69
  have a_1 : ((x3 + 1)).toInt = (x3).toInt + 1 := tn_add rfl (by decide) (by omega) (by omega)
  exact hk17 _ _ _ _ hI_s_k hF_s_k hI_s_g (by omega) (by omega) (by omega) (by omega)
set_option maxHeartbeats 1000000 in
theorem ok_kX10_sunk_17 (s0 : XS) (k17 : XS → Int32 → Int32 → Int32 → Option (Int32 × XS)) (M17 : Nat) (hk17 : ∀ (s : XS) (x1 : Int32) (x2 : Int32) (x3 : Int32), InvK s.k → FrK [7, 113, 114] s0.k s.k → InvG s.g → 0 ≤ x1.toInt → 0 ≤ x3.toInt → x3.toInt ≤ 6 → (6 - x3.toInt).toNat < M17 → Ok (k17 s x1 x2 x3) (Q_kX10_sunk s0)) (s : XS) (x1 : Int32) (x2 : Int32) (x3 : Int32) (hI_s_k : InvK s.k) (hF_s_k : FrK [7, 113, 114] s0.k s.k) (hI_s_g : InvG s.g) (h_x1l : 0 ≤ x1.toInt) (h_x3l : 0 ≤ x3.toInt) (h_x3u : x3.toInt ≤ 6) (hM17 : (6 - x3.toInt).toNat ≤ M17) : Ok (kX10_sunk_17 k17 s x1 x2 x3) (Q_kX10_sunk s0) := by
  unfold kX10_sunk_17
  have a_1 : 0 ≤ (s.k.v 2).toInt ∧ (s.k.v 2).toInt ≤ 6 := hI_s_k.1 2
  refine ok_ite (fun c_2 => ?_) (fun c_2 => ?_)
  · have c_2 := tn_le (a := ((s.k.v 2)).toInt) (b := (x3).toInt) rfl rfl c_2
    exact ok_some ⟨hI_s_k, hF_s_k, hI_s_g, (ti_rng _).1, (ti_rng _).2⟩
  · have c_2 := tn_nle (a := ((s.k.v 2)).toInt) (b := (x3).toInt) rfl rfl c_2
    refine ok_grd (vpb_ok (by omega) (by omega)) ?_
    refine ok_ite (fun c_3 => ?_) (fun c_3 => ?_)
    · have c_3 := tn_eq (a := (((s.n.f 3) (Int32.toNatClampNeg x3))).toInt) (b := 0) rfl (by decide) c_3
      refine ok_bindI (ok_kX2_borneOver _ _ _ hI_s_k (by omega) (by omega) (by omega)) (fun r5 s4 hc_4 => ?_)
      have hI_s4_k : InvK s4.k := hc_4.1
      have hFc_s4_k : FrK [7, 113, 114] s.k s4.k := hc_4.2.1
      have hF_s4_k : FrK [7, 113, 114] s0.k s4.k := hF_s_k.trans hFc_s4_k (by decide)
      have hl_r5 : 0 ≤ r5.toInt := hc_4.2.2.1
      have hu_r5 : r5.toInt ≤ 5 := hc_4.2.2.2
      refine ok_let (fun s6 hs6 => ?_)
      have hI_s6_g : InvG s6.g := by rw [← hs6]; exact hI_s_g
      have hI_s6_k : InvK s6.k := by rw [← hs6]; exact hI_s4_k
      have hF_s6_k : FrK [7, 113, 114] s0.k s6.k := by rw [← hs6]; exact hF_s4_k
      have a_5 : 0 ≤ (s.k.v 1).toInt ∧ (s.k.v 1).toInt ≤ 5 := hI_s_k.1 1
      have a_6 : (s4.k.v 1).toInt = (s.k.v 1).toInt := congrArg Int32.toInt (hFc_s4_k.1 1 (by decide))
      have a_7 : (s6.k.v 1).toInt = (s4.k.v 1).toInt := congrArg Int32.toInt (show s6.k.v 1 = s4.k.v 1 by rw [← hs6]; rfl)
      refine ok_ite (fun c_8 => ?_) (fun c_8 => ?_)
      · have c_8 := tn_le (a := ((s6.k.v 1)).toInt) (b := (r5).toInt) rfl rfl c_8
        exact ok_kX10_sunk_69 s0 k17 M17 hk17 _ _ _ _ hI_s6_k hF_s6_k hI_s6_g (by omega) (by omega) (by omega) (by omega)
      · have c_8 := tn_nle (a := ((s6.k.v 1)).toInt) (b := (r5).toInt) rfl rfl c_8
        exact ok_kX10_sunk_69 s0 k17 M17 hk17 _ _ _ _ hI_s6_k hF_s6_k hI_s6_g (by omega) (by omega) (by omega) (by omega)
    · have c_3 := tn_ne (a := (((s.n.f 3) (Int32.toNatClampNeg x3))).toInt) (b := 0) rfl (by decide) c_3
      exact ok_kX10_sunk_69 s0 k17 M17 hk17 _ _ _ _ hI_s_k hF_s_k hI_s_g (by omega) (by omega) (by omega) (by omega)
theorem okL_kX10_sunk_17 (s0 : XS)  : ∀ (n : Nat) (s : XS) (x1 : Int32) (x2 : Int32) (x3 : Int32), (6 - x3.toInt).toNat < n → InvK s.k → FrK [7, 113, 114] s0.k s.k → InvG s.g → 0 ≤ x1.toInt → 0 ≤ x3.toInt → x3.toInt ≤ 6 → Ok (kX10_sunk_17L  n s x1 x2 x3) (Q_kX10_sunk s0) := by
  intro n
  induction n with
  | zero => intro s x1 x2 x3 hn; omega
  | succ n ih =>
    intro s x1 x2 x3 hn hI_s_k hF_s_k hI_s_g h_x1l h_x3l h_x3u 
    exact ok_kX10_sunk_17 s0 (kX10_sunk_17L  n) ((6 - x3.toInt).toNat) (fun zs zx1 zx2 zx3 g0 g1 g2 g3 g4 g5  hm => ih zs zx1 zx2 zx3 (by omega) g0 g1 g2 g3 g4 g5 ) s x1 x2 x3 hI_s_k hF_s_k hI_s_g h_x1l h_x3l h_x3u (Nat.le_refl _)
set_option maxHeartbeats 1000000 in
theorem ok_kX10_sunkB (s0 : XS)  (s : XS) (x1 : Int32) (hI_s_k : InvK s.k) (hF_s_k : FrK [7, 113, 114] s0.k s.k) (hI_s_g : InvG s.g)  : Ok (kX10_sunk  s x1) (Q_kX10_sunk s0) := by
  unfold kX10_sunk
  refine ok_bindI (ok_kX5_hasGuess _ _ hI_s_k) (fun r2 s1 hc_1 => ?_)
  have hI_s1 : InvK s1 := hc_1.1
  have hFc_s1 : FrK [] s.k s1 := hc_1.2.1
  have hF_s1 : FrK [7, 113, 114] s0.k s1 := hF_s_k.trans hFc_s1 (by decide)
  have hl_r2 : 0 ≤ r2.toInt := hc_1.2.2.1
  have hu_r2 : r2.toInt ≤ 1 := hc_1.2.2.2.1
  have hx0_r2 : (¬ r2.toInt = 0 → 0 ≤ (x1).toInt) := hc_1.2.2.2.2
  refine ok_let (fun s3 hs3 => ?_)
  have hI_s3_g : InvG s3.g := by rw [← hs3]; exact hI_s_g
  have hI_s3_k : InvK s3.k := by rw [← hs3]; exact hI_s1
  have hF_s3_k : FrK [7, 113, 114] s0.k s3.k := by rw [← hs3]; exact hF_s1
  refine ok_ite (fun c_2 => ?_) (fun c_2 => ?_)
  · have c_2 := tn_eq (a := (r2).toInt) (b := 0) rfl (by decide) c_2
    exact ok_some ⟨hI_s3_k, hF_s3_k, hI_s3_g, (ti_rng _).1, (ti_rng _).2⟩
  · have c_2 := tn_ne (a := (r2).toInt) (b := 0) rfl (by decide) c_2
    have l_0 : (0 : Int32).toInt = 0 := by decide
    exact okL_kX10_sunk_17 s0  fu _ _ _ _ (by unfold fu; omega) hI_s3_k hF_s3_k hI_s3_g (by omega) (by decide) (by decide) 
theorem ok_kX10_sunk (s : XS) (x1 : Int32) (hI_s_k : InvK s.k) (hI_s_g : InvG s.g) : Ok (kX10_sunk s x1) (Q_kX10_sunk s) := ok_kX10_sunkB s s x1 hI_s_k FrK.rfl hI_s_g
noncomputable abbrev Q_kX10_dearest (s0 : XS) (y : Int32 × XS) : Prop := InvK y.2.k ∧ FrK [7, 113, 114] s0.k y.2.k ∧ InvG y.2.g ∧ -2 ≤ y.1.toInt ∧ y.1.toInt ≤ 100
set_option maxHeartbeats 1000000 in
theorem ok_kX10_dearest_59 (s0 : XS) (k20 : XS → Int32 → Int32 → Int32 → Int32 → Option (Int32 × XS)) (M20 : Nat) (hk20 : ∀ (s : XS) (x1 : Int32) (x2 : Int32) (x3 : Int32) (x4 : Int32), InvK s.k → FrK [7, 113, 114] s0.k s.k → InvG s.g → 0 ≤ x1.toInt → x1.toInt ≤ 1 → -2 ≤ x2.toInt → x2.toInt ≤ 5 → -2 ≤ x3.toInt → x3.toInt ≤ 100 → 0 ≤ x4.toInt → x4.toInt ≤ 6 → (6 - x4.toInt).toNat < M20 → Ok (k20 s x1 x2 x3 x4) (Q_kX10_dearest s0)) (s : XS) (x1 : Int32) (x2 : Int32) (x3 : Int32) (x4 : Int32) (hI_s_k : InvK s.k) (hF_s_k : FrK [7, 113, 114] s0.k s.k) (hI_s_g : InvG s.g) (h_x1l : 0 ≤ x1.toInt) (h_x1u : x1.toInt ≤ 1) (h_x2l : -2 ≤ x2.toInt) (h_x2u : x2.toInt ≤ 5) (h_x3l : 0 ≤ x3.toInt) (h_x3u : x3.toInt ≤ 100) (h_x4l : 0 ≤ x4.toInt) (h_x4u : x4.toInt ≤ 5) (hM20 : (6 - x4.toInt).toNat ≤ M20) : Ok (kX10_dearest_59 k20 s x1 x2 x3 x4) (Q_kX10_dearest s0) := by
  unfold kX10_dearest_59
  have a_1 : ((x4 + 1)).toInt = (x4).toInt + 1 := tn_add rfl (by decide) (by omega) (by omega)
  exact hk20 _ _ _ _ _ hI_s_k hF_s_k hI_s_g (by omega) (by omega) (by omega) (by omega) (by omega) (by omega) (by omega) (by omega) (by omega)
set_option maxHeartbeats 1000000 in
theorem ok_kX10_dearest_20 (s0 : XS) (k20 : XS → Int32 → Int32 → Int32 → Int32 → Option (Int32 × XS)) (M20 : Nat) (hk20 : ∀ (s : XS) (x1 : Int32) (x2 : Int32) (x3 : Int32) (x4 : Int32), InvK s.k → FrK [7, 113, 114] s0.k s.k → InvG s.g → 0 ≤ x1.toInt → x1.toInt ≤ 1 → -2 ≤ x2.toInt → x2.toInt ≤ 5 → -2 ≤ x3.toInt → x3.toInt ≤ 100 → 0 ≤ x4.toInt → x4.toInt ≤ 6 → (6 - x4.toInt).toNat < M20 → Ok (k20 s x1 x2 x3 x4) (Q_kX10_dearest s0)) (s : XS) (x1 : Int32) (x2 : Int32) (x3 : Int32) (x4 : Int32) (hI_s_k : InvK s.k) (hF_s_k : FrK [7, 113, 114] s0.k s.k) (hI_s_g : InvG s.g) (h_x1l : 0 ≤ x1.toInt) (h_x1u : x1.toInt ≤ 1) (h_x2l : -2 ≤ x2.toInt) (h_x2u : x2.toInt ≤ 5) (h_x3l : -2 ≤ x3.toInt) (h_x3u : x3.toInt ≤ 100) (h_x4l : 0 ≤ x4.toInt) (h_x4u : x4.toInt ≤ 6) (hM20 : (6 - x4.toInt).toNat ≤ M20) : Ok (kX10_dearest_20 k20 s x1 x2 x3 x4) (Q_kX10_dearest s0) := by
  unfold kX10_dearest_20
  have a_1 : 0 ≤ (s.k.v 2).toInt ∧ (s.k.v 2).toInt ≤ 6 := hI_s_k.1 2
  refine ok_ite (fun c_2 => ?_) (fun c_2 => ?_)
  · have c_2 := tn_le (a := ((s.k.v 2)).toInt) (b := (x4).toInt) rfl rfl c_2
    refine ok_ite (fun c_3 => ?_) (fun c_3 => ?_)
    · have c_3 := tn_eq (a := (x1).toInt) (b := 0) rfl (by decide) c_3
      exact ok_some ⟨hI_s_k, hF_s_k, hI_s_g, by show -2 ≤ (x2).toInt; omega, by show (x2).toInt ≤ 100; omega⟩
    · have c_3 := tn_ne (a := (x1).toInt) (b := 0) rfl (by decide) c_3
      exact ok_some ⟨hI_s_k, hF_s_k, hI_s_g, by show -2 ≤ (x3).toInt; omega, by show (x3).toInt ≤ 100; omega⟩
  · have c_2 := tn_nle (a := ((s.k.v 2)).toInt) (b := (x4).toInt) rfl rfl c_2
    refine ok_bindI (ok_kX0_fareOf _ _ hI_s_k (by omega) (by omega)) (fun r4 s3 hc_4 => ?_)
    have hI_s3_k : InvK s3.k := hc_4.1
    have hFc_s3_k : FrK [7, 113, 114] s.k s3.k := hc_4.2.1
    have hF_s3_k : FrK [7, 113, 114] s0.k s3.k := hF_s_k.trans hFc_s3_k (by decide)
    have hl_r4 : 0 ≤ r4.toInt := hc_4.2.2.1
    have hu_r4 : r4.toInt ≤ 100 := hc_4.2.2.2
    refine ok_let (fun s5 hs5 => ?_)
    have hI_s5_g : InvG s5.g := by rw [← hs5]; exact hI_s_g
    have hI_s5_k : InvK s5.k := by rw [← hs5]; exact hI_s3_k
    have hF_s5_k : FrK [7, 113, 114] s0.k s5.k := by rw [← hs5]; exact hF_s3_k
    refine ok_ite (fun c_5 => ?_) (fun c_5 => ?_)
    · have c_5 := tn_le (a := (r4).toInt) (b := (x3).toInt) rfl rfl c_5
      exact ok_kX10_dearest_59 s0 k20 M20 hk20 _ _ _ _ _ hI_s5_k hF_s5_k hI_s5_g (by omega) (by omega) (by omega) (by omega) (by omega) (by omega) (by omega) (by omega) (by omega)
    · have c_5 := tn_nle (a := (r4).toInt) (b := (x3).toInt) rfl rfl c_5
      exact ok_kX10_dearest_59 s0 k20 M20 hk20 _ _ _ _ _ hI_s5_k hF_s5_k hI_s5_g (by omega) (by omega) (by omega) (by omega) (by omega) (by omega) (by omega) (by omega) (by omega)
theorem okL_kX10_dearest_20 (s0 : XS)  : ∀ (n : Nat) (s : XS) (x1 : Int32) (x2 : Int32) (x3 : Int32) (x4 : Int32), (6 - x4.toInt).toNat < n → InvK s.k → FrK [7, 113, 114] s0.k s.k → InvG s.g → 0 ≤ x1.toInt → x1.toInt ≤ 1 → -2 ≤ x2.toInt → x2.toInt ≤ 5 → -2 ≤ x3.toInt → x3.toInt ≤ 100 → 0 ≤ x4.toInt → x4.toInt ≤ 6 → Ok (kX10_dearest_20L  n s x1 x2 x3 x4) (Q_kX10_dearest s0) := by
  intro n
  induction n with
  | zero => intro s x1 x2 x3 x4 hn; omega
  | succ n ih =>
    intro s x1 x2 x3 x4 hn hI_s_k hF_s_k hI_s_g h_x1l h_x1u h_x2l h_x2u h_x3l h_x3u h_x4l h_x4u 
    exact ok_kX10_dearest_20 s0 (kX10_dearest_20L  n) ((6 - x4.toInt).toNat) (fun zs zx1 zx2 zx3 zx4 g0 g1 g2 g3 g4 g5 g6 g7 g8 g9 g10  hm => ih zs zx1 zx2 zx3 zx4 (by omega) g0 g1 g2 g3 g4 g5 g6 g7 g8 g9 g10 ) s x1 x2 x3 x4 hI_s_k hF_s_k hI_s_g h_x1l h_x1u h_x2l h_x2u h_x3l h_x3u h_x4l h_x4u (Nat.le_refl _)
set_option maxHeartbeats 1000000 in
theorem ok_kX10_dearest_11 (s0 : XS)  (s : XS) (x1 : Int32) (hI_s_k : InvK s.k) (hF_s_k : FrK [7, 113, 114] s0.k s.k) (hI_s_g : InvG s.g) (h_x1l : 0 ≤ x1.toInt) (h_x1u : x1.toInt ≤ 1)  : Ok (kX10_dearest_11  s x1) (Q_kX10_dearest s0) := by
  unfold kX10_dearest_11
  have l_m2 : ((-2) : Int32).toInt = -2 := by decide
  have l_0 : (0 : Int32).toInt = 0 := by decide
  exact okL_kX10_dearest_20 s0  fu _ _ _ _ _ (by unfold fu; omega) hI_s_k hF_s_k hI_s_g (by omega) (by omega) (by decide) (by decide) (by decide) (by decide) (by decide) (by decide) 
set_option maxHeartbeats 1000000 in
theorem ok_kX10_dearestB (s0 : XS)  (s : XS) (x1 : Int32) (hI_s_k : InvK s.k) (hF_s_k : FrK [7, 113, 114] s0.k s.k) (hI_s_g : InvG s.g)  : Ok (kX10_dearest  s x1) (Q_kX10_dearest s0) := by
  unfold kX10_dearest
  refine ok_ite (fun c_1 => ?_) (fun c_1 => ?_)
  · have c_1 := tn_eq (a := (x1).toInt) (b := 0) rfl (by decide) c_1
    exact ok_kX10_dearest_11 s0  _ _ hI_s_k hF_s_k hI_s_g (by omega) (by omega) 
  · have c_1 := tn_ne (a := (x1).toInt) (b := 0) rfl (by decide) c_1
    refine ok_ite (fun c_2 => ?_) (fun c_2 => ?_)
    · have c_2 := tn_eq (a := (x1).toInt) (b := 1) rfl (by decide) c_2
      exact ok_kX10_dearest_11 s0  _ _ hI_s_k hF_s_k hI_s_g (by omega) (by omega) 
    · have c_2 := tn_ne (a := (x1).toInt) (b := 1) rfl (by decide) c_2
      exact ok_some ⟨hI_s_k, hF_s_k, hI_s_g, by show -2 ≤ ((-1) : Int32).toInt; decide, by show ((-1) : Int32).toInt ≤ 100; decide⟩
theorem ok_kX10_dearest (s : XS) (x1 : Int32) (hI_s_k : InvK s.k) (hI_s_g : InvG s.g) : Ok (kX10_dearest s x1) (Q_kX10_dearest s) := ok_kX10_dearestB s s x1 hI_s_k FrK.rfl hI_s_g
noncomputable abbrev Q_kX10_darers (s0 : XS) (y : Int32 × XS) : Prop := InvK y.2.k ∧ FrK [7, 113, 114] s0.k y.2.k ∧ InvG y.2.g ∧ -2147483648 ≤ y.1.toInt ∧ y.1.toInt ≤ 2147483647
set_option maxHeartbeats 1000000 in
theorem ok_kX10_darers_48 (s0 : XS) (k4 : XS → Int32 → Int32 → Option (Int32 × XS)) (M4 : Nat) (hk4 : ∀ (s : XS) (x1 : Int32) (x2 : Int32), InvK s.k → FrK [7, 113, 114] s0.k s.k → InvG s.g → 0 ≤ x2.toInt → x2.toInt ≤ 6 → (6 - x2.toInt).toNat < M4 → Ok (k4 s x1 x2) (Q_kX10_darers s0)) (s : XS) (x1 : Int32) (x2 : Int32) (hI_s_k : InvK s.k) (hF_s_k : FrK [7, 113, 114] s0.k s.k) (hI_s_g : InvG s.g) (h_x2l : 0 ≤ x2.toInt) (h_x2u : x2.toInt ≤ 5) (hM4 : (6 - x2.toInt).toNat ≤ M4) : Ok (kX10_darers_48 k4 s x1 x2) (Q_kX10_darers s0) := by
  unfold kX10_darers_48
  have a_1 : ((x2 + 1)).toInt = (x2).toInt + 1 := tn_add rfl (by decide) (by omega) (by omega)
  exact hk4 _ _ _ hI_s_k hF_s_k hI_s_g (by omega) (by omega) (by omega)
set_option maxHeartbeats 1000000 in
theorem ok_kX10_darers_4 (s0 : XS) (k4 : XS → Int32 → Int32 → Option (Int32 × XS)) (M4 : Nat) (hk4 : ∀ (s : XS) (x1 : Int32) (x2 : Int32), InvK s.k → FrK [7, 113, 114] s0.k s.k → InvG s.g → 0 ≤ x2.toInt → x2.toInt ≤ 6 → (6 - x2.toInt).toNat < M4 → Ok (k4 s x1 x2) (Q_kX10_darers s0)) (s : XS) (x1 : Int32) (x2 : Int32) (hI_s_k : InvK s.k) (hF_s_k : FrK [7, 113, 114] s0.k s.k) (hI_s_g : InvG s.g) (h_x2l : 0 ≤ x2.toInt) (h_x2u : x2.toInt ≤ 6) (hM4 : (6 - x2.toInt).toNat ≤ M4) : Ok (kX10_darers_4 k4 s x1 x2) (Q_kX10_darers s0) := by
  unfold kX10_darers_4
  have a_1 : 0 ≤ (s.k.v 2).toInt ∧ (s.k.v 2).toInt ≤ 6 := hI_s_k.1 2
  refine ok_ite (fun c_2 => ?_) (fun c_2 => ?_)
  · have c_2 := tn_le (a := ((s.k.v 2)).toInt) (b := (x2).toInt) rfl rfl c_2
    exact ok_some ⟨hI_s_k, hF_s_k, hI_s_g, (ti_rng _).1, (ti_rng _).2⟩
  · have c_2 := tn_nle (a := ((s.k.v 2)).toInt) (b := (x2).toInt) rfl rfl c_2
    refine ok_grd (vpb_ok (by omega) (by omega)) ?_
    refine ok_ite (fun c_3 => ?_) (fun c_3 => ?_)
    · have c_3 := tn_eq (a := (((s.n.f 3) (Int32.toNatClampNeg x2))).toInt) (b := 0) rfl (by decide) c_3
      refine ok_bindI (ok_kX0_isDaring _ _ hI_s_k (by omega) (by omega)) (fun r5 s4 hc_4 => ?_)
      have hI_s4_k : InvK s4.k := hc_4.1
      have hFc_s4_k : FrK [7, 113, 114] s.k s4.k := hc_4.2.1
      have hF_s4_k : FrK [7, 113, 114] s0.k s4.k := hF_s_k.trans hFc_s4_k (by decide)
      have hl_r5 : 0 ≤ r5.toInt := hc_4.2.2.1
      have hu_r5 : r5.toInt ≤ 1 := hc_4.2.2.2
      refine ok_let (fun s6 hs6 => ?_)
      have hI_s6_g : InvG s6.g := by rw [← hs6]; exact hI_s_g
      have hI_s6_k : InvK s6.k := by rw [← hs6]; exact hI_s4_k
      have hF_s6_k : FrK [7, 113, 114] s0.k s6.k := by rw [← hs6]; exact hF_s4_k
      refine ok_ite (fun c_5 => ?_) (fun c_5 => ?_)
      · have c_5 := tn_eq (a := (r5).toInt) (b := 0) rfl (by decide) c_5
        exact ok_kX10_darers_48 s0 k4 M4 hk4 _ _ _ hI_s6_k hF_s6_k hI_s6_g (by omega) (by omega) (by omega)
      · have c_5 := tn_ne (a := (r5).toInt) (b := 0) rfl (by decide) c_5
        exact ok_kX10_darers_48 s0 k4 M4 hk4 _ _ _ hI_s6_k hF_s6_k hI_s6_g (by omega) (by omega) (by omega)
    · have c_3 := tn_ne (a := (((s.n.f 3) (Int32.toNatClampNeg x2))).toInt) (b := 0) rfl (by decide) c_3
      exact ok_kX10_darers_48 s0 k4 M4 hk4 _ _ _ hI_s_k hF_s_k hI_s_g (by omega) (by omega) (by omega)
theorem okL_kX10_darers_4 (s0 : XS)  : ∀ (n : Nat) (s : XS) (x1 : Int32) (x2 : Int32), (6 - x2.toInt).toNat < n → InvK s.k → FrK [7, 113, 114] s0.k s.k → InvG s.g → 0 ≤ x2.toInt → x2.toInt ≤ 6 → Ok (kX10_darers_4L  n s x1 x2) (Q_kX10_darers s0) := by
  intro n
  induction n with
  | zero => intro s x1 x2 hn; omega
  | succ n ih =>
    intro s x1 x2 hn hI_s_k hF_s_k hI_s_g h_x2l h_x2u 
    exact ok_kX10_darers_4 s0 (kX10_darers_4L  n) ((6 - x2.toInt).toNat) (fun zs zx1 zx2 g0 g1 g2 g3 g4  hm => ih zs zx1 zx2 (by omega) g0 g1 g2 g3 g4 ) s x1 x2 hI_s_k hF_s_k hI_s_g h_x2l h_x2u (Nat.le_refl _)
set_option maxHeartbeats 1000000 in
theorem ok_kX10_darersB (s0 : XS)  (s : XS) (hI_s_k : InvK s.k) (hF_s_k : FrK [7, 113, 114] s0.k s.k) (hI_s_g : InvG s.g)  : Ok (kX10_darers  s) (Q_kX10_darers s0) := by
  unfold kX10_darers
  have l_0 : (0 : Int32).toInt = 0 := by decide
  exact okL_kX10_darers_4 s0  fu _ _ _ (by unfold fu; omega) hI_s_k hF_s_k hI_s_g (by decide) (by decide) 
theorem ok_kX10_darers (s : XS) (hI_s_k : InvK s.k) (hI_s_g : InvG s.g) : Ok (kX10_darers s) (Q_kX10_darers s) := ok_kX10_darersB s s hI_s_k FrK.rfl hI_s_g
noncomputable abbrev Q_kX10_year (s0 : XS) (y : Int32 × XS) : Prop := InvK y.2.k ∧ FrK [] s0.k y.2.k ∧ InvG y.2.g ∧ -2147483648 ≤ y.1.toInt ∧ y.1.toInt ≤ 2147483647
set_option maxHeartbeats 1000000 in
theorem ok_kX10_year_63 (s0 : XS) (k29 : XS → Int32 → Int32 → Int32 → Int32 → Option (Int32 × XS)) (M29 : Nat) (hk29 : ∀ (s : XS) (x1 : Int32) (x2 : Int32) (x3 : Int32) (x4 : Int32), InvK s.k → FrK [] s0.k s.k → InvG s.g → 0 ≤ x1.toInt → 1 ≤ x2.toInt → x2.toInt ≤ 20 → 0 ≤ x4.toInt → x4.toInt ≤ 20 → (20 - x4.toInt).toNat < M29 → Ok (k29 s x1 x2 x3 x4) (Q_kX10_year s0)) (s : XS) (x1 : Int32) (x2 : Int32) (x3 : Int32) (x4 : Int32) (hI_s_k : InvK s.k) (hF_s_k : FrK [] s0.k s.k) (hI_s_g : InvG s.g) (h_x1l : 0 ≤ x1.toInt) (h_x2l : 1 ≤ x2.toInt) (h_x2u : x2.toInt ≤ 20) (h_x4l : 0 ≤ x4.toInt) (h_x4u : x4.toInt ≤ 19) (hM29 : (20 - x4.toInt).toNat ≤ M29) : Ok (kX10_year_63 k29 s x1 x2 x3 x4) (Q_kX10_year s0) := by
  unfold kX10_year_63
  have a_1 : ((x4 + 1)).toInt = (x4).toInt + 1 := tn_add rfl (by decide) (by omega) (by omega)
  exact hk29 _ _ _ _ _ hI_s_k hF_s_k hI_s_g (by omega) (by omega) (by omega) (by omega) (by omega) (by omega)
set_option maxHeartbeats 1000000 in
theorem ok_kX10_year_29 (s0 : XS) (k29 : XS → Int32 → Int32 → Int32 → Int32 → Option (Int32 × XS)) (M29 : Nat) (hk29 : ∀ (s : XS) (x1 : Int32) (x2 : Int32) (x3 : Int32) (x4 : Int32), InvK s.k → FrK [] s0.k s.k → InvG s.g → 0 ≤ x1.toInt → 1 ≤ x2.toInt → x2.toInt ≤ 20 → 0 ≤ x4.toInt → x4.toInt ≤ 20 → (20 - x4.toInt).toNat < M29 → Ok (k29 s x1 x2 x3 x4) (Q_kX10_year s0)) (s : XS) (x1 : Int32) (x2 : Int32) (x3 : Int32) (x4 : Int32) (hI_s_k : InvK s.k) (hF_s_k : FrK [] s0.k s.k) (hI_s_g : InvG s.g) (h_x1l : 0 ≤ x1.toInt) (h_x2l : 1 ≤ x2.toInt) (h_x2u : x2.toInt ≤ 20) (h_x4l : 0 ≤ x4.toInt) (h_x4u : x4.toInt ≤ 20) (hM29 : (20 - x4.toInt).toNat ≤ M29) : Ok (kX10_year_29 k29 s x1 x2 x3 x4) (Q_kX10_year s0) := by
  unfold kX10_year_29
  refine ok_ite (fun c_1 => ?_) (fun c_1 => ?_)
  · have c_1 := tn_le (a := (x2).toInt) (b := (x4).toInt) rfl rfl c_1
    exact ok_some ⟨hI_s_k, hF_s_k, hI_s_g, (ti_rng _).1, (ti_rng _).2⟩
  · have c_1 := tn_nle (a := (x2).toInt) (b := (x4).toInt) rfl rfl c_1
    refine ok_bindI (ok_kX0_guessThere _ _ hI_s_k) (fun r3 s2 hc_2 => ?_)
    have hI_s2_k : InvK s2.k := hc_2.1
    have hFc_s2_k : FrK [] s.k s2.k := hc_2.2.1
    have hF_s2_k : FrK [] s0.k s2.k := hF_s_k.trans hFc_s2_k (by decide)
    refine ok_let (fun s4 hs4 => ?_)
    have hI_s4_g : InvG s4.g := by rw [← hs4]; exact hI_s_g
    have hI_s4_k : InvK s4.k := by rw [← hs4]; exact hI_s2_k
    have hF_s4_k : FrK [] s0.k s4.k := by rw [← hs4]; exact hF_s2_k
    refine ok_ite (fun c_3 => ?_) (fun c_3 => ?_)
    · have c_3 := tn_eq (a := (r3).toInt) (b := (x1).toInt) rfl rfl c_3
      exact ok_kX10_year_63 s0 k29 M29 hk29 _ _ _ _ _ hI_s4_k hF_s4_k hI_s4_g (by omega) (by omega) (by omega) (by omega) (by omega) (by omega)
    · have c_3 := tn_ne (a := (r3).toInt) (b := (x1).toInt) rfl rfl c_3
      exact ok_kX10_year_63 s0 k29 M29 hk29 _ _ _ _ _ hI_s4_k hF_s4_k hI_s4_g (by omega) (by omega) (by omega) (by omega) (by omega) (by omega)
theorem okL_kX10_year_29 (s0 : XS)  : ∀ (n : Nat) (s : XS) (x1 : Int32) (x2 : Int32) (x3 : Int32) (x4 : Int32), (20 - x4.toInt).toNat < n → InvK s.k → FrK [] s0.k s.k → InvG s.g → 0 ≤ x1.toInt → 1 ≤ x2.toInt → x2.toInt ≤ 20 → 0 ≤ x4.toInt → x4.toInt ≤ 20 → Ok (kX10_year_29L  n s x1 x2 x3 x4) (Q_kX10_year s0) := by
  intro n
  induction n with
  | zero => intro s x1 x2 x3 x4 hn; omega
  | succ n ih =>
    intro s x1 x2 x3 x4 hn hI_s_k hF_s_k hI_s_g h_x1l h_x2l h_x2u h_x4l h_x4u 
    exact ok_kX10_year_29 s0 (kX10_year_29L  n) ((20 - x4.toInt).toNat) (fun zs zx1 zx2 zx3 zx4 g0 g1 g2 g3 g4 g5 g6 g7  hm => ih zs zx1 zx2 zx3 zx4 (by omega) g0 g1 g2 g3 g4 g5 g6 g7 ) s x1 x2 x3 x4 hI_s_k hF_s_k hI_s_g h_x1l h_x2l h_x2u h_x4l h_x4u (Nat.le_refl _)
set_option maxHeartbeats 1000000 in
theorem ok_kX10_yearB (s0 : XS)  (s : XS) (x1 : Int32) (x2 : Int32) (hI_s_k : InvK s.k) (hF_s_k : FrK [] s0.k s.k) (hI_s_g : InvG s.g)  : Ok (kX10_year  s x1 x2) (Q_kX10_year s0) := by
  unfold kX10_year
  refine ok_bindI (ok_kX5_hasGuess _ _ hI_s_k) (fun r2 s1 hc_1 => ?_)
  have hI_s1 : InvK s1 := hc_1.1
  have hFc_s1 : FrK [] s.k s1 := hc_1.2.1
  have hF_s1 : FrK [] s0.k s1 := hF_s_k.trans hFc_s1 (by decide)
  have hl_r2 : 0 ≤ r2.toInt := hc_1.2.2.1
  have hu_r2 : r2.toInt ≤ 1 := hc_1.2.2.2.1
  have hx0_r2 : (¬ r2.toInt = 0 → 0 ≤ (x1).toInt) := hc_1.2.2.2.2
  refine ok_let (fun s3 hs3 => ?_)
  have hI_s3_g : InvG s3.g := by rw [← hs3]; exact hI_s_g
  have hI_s3_k : InvK s3.k := by rw [← hs3]; exact hI_s1
  have hF_s3_k : FrK [] s0.k s3.k := by rw [← hs3]; exact hF_s1
  refine ok_ite (fun c_2 => ?_) (fun c_2 => ?_)
  · have c_2 := tn_eq (a := (r2).toInt) (b := 0) rfl (by decide) c_2
    exact ok_some ⟨hI_s3_k, hF_s3_k, hI_s3_g, (ti_rng _).1, (ti_rng _).2⟩
  · have c_2 := tn_ne (a := (r2).toInt) (b := 0) rfl (by decide) c_2
    refine ok_ite (fun c_3 => ?_) (fun c_3 => ?_)
    · have c_3 := tn_lt (a := (x2).toInt) (b := 1) rfl (by decide) c_3
      exact ok_some ⟨hI_s3_k, hF_s3_k, hI_s3_g, (ti_rng _).1, (ti_rng _).2⟩
    · have c_3 := tn_nlt (a := (x2).toInt) (b := 1) rfl (by decide) c_3
      refine ok_ite (fun c_4 => ?_) (fun c_4 => ?_)
      · have c_4 := tn_le (a := (x2).toInt) (b := 20) rfl (by decide) c_4
        have l_0 : (0 : Int32).toInt = 0 := by decide
        exact okL_kX10_year_29 s0  fu _ _ _ _ _ (by unfold fu; omega) hI_s3_k hF_s3_k hI_s3_g (by omega) (by omega) (by omega) (by decide) (by decide) 
      · have c_4 := tn_nle (a := (x2).toInt) (b := 20) rfl (by decide) c_4
        exact ok_some ⟨hI_s3_k, hF_s3_k, hI_s3_g, (ti_rng _).1, (ti_rng _).2⟩
theorem ok_kX10_year (s : XS) (x1 : Int32) (x2 : Int32) (hI_s_k : InvK s.k) (hI_s_g : InvG s.g) : Ok (kX10_year s x1 x2) (Q_kX10_year s) := ok_kX10_yearB s s x1 x2 hI_s_k FrK.rfl hI_s_g
noncomputable abbrev Q_kX10_faresOfAllHere (s0 : XS) (y : Int32 × XS) : Prop := InvK y.2.k ∧ FrK [7, 113, 114] s0.k y.2.k ∧ InvG y.2.g ∧ -2147483648 ≤ y.1.toInt ∧ y.1.toInt ≤ 2147483647
set_option maxHeartbeats 1000000 in
theorem ok_kX10_faresOfAllHere_42 (s0 : XS) (k4 : XS → Int32 → Int32 → Option (Int32 × XS)) (M4 : Nat) (hk4 : ∀ (s : XS) (x1 : Int32) (x2 : Int32), InvK s.k → FrK [7, 113, 114] s0.k s.k → InvG s.g → 0 ≤ x2.toInt → x2.toInt ≤ 6 → (6 - x2.toInt).toNat < M4 → Ok (k4 s x1 x2) (Q_kX10_faresOfAllHere s0)) (s : XS) (x1 : Int32) (x2 : Int32) (hI_s_k : InvK s.k) (hF_s_k : FrK [7, 113, 114] s0.k s.k) (hI_s_g : InvG s.g) (h_x2l : 0 ≤ x2.toInt) (h_x2u : x2.toInt ≤ 5) (hM4 : (6 - x2.toInt).toNat ≤ M4) : Ok (kX10_faresOfAllHere_42 k4 s x1 x2) (Q_kX10_faresOfAllHere s0) := by
  unfold kX10_faresOfAllHere_42
  have a_1 : ((x2 + 1)).toInt = (x2).toInt + 1 := tn_add rfl (by decide) (by omega) (by omega)
  exact hk4 _ _ _ hI_s_k hF_s_k hI_s_g (by omega) (by omega) (by omega)
set_option maxHeartbeats 1000000 in
theorem ok_kX10_faresOfAllHere_4 (s0 : XS) (k4 : XS → Int32 → Int32 → Option (Int32 × XS)) (M4 : Nat) (hk4 : ∀ (s : XS) (x1 : Int32) (x2 : Int32), InvK s.k → FrK [7, 113, 114] s0.k s.k → InvG s.g → 0 ≤ x2.toInt → x2.toInt ≤ 6 → (6 - x2.toInt).toNat < M4 → Ok (k4 s x1 x2) (Q_kX10_faresOfAllHere s0)) (s : XS) (x1 : Int32) (x2 : Int32) (hI_s_k : InvK s.k) (hF_s_k : FrK [7, 113, 114] s0.k s.k) (hI_s_g : InvG s.g) (h_x2l : 0 ≤ x2.toInt) (h_x2u : x2.toInt ≤ 6) (hM4 : (6 - x2.toInt).toNat ≤ M4) : Ok (kX10_faresOfAllHere_4 k4 s x1 x2) (Q_kX10_faresOfAllHere s0) := by
  unfold kX10_faresOfAllHere_4
  have a_1 : 0 ≤ (s.k.v 2).toInt ∧ (s.k.v 2).toInt ≤ 6 := hI_s_k.1 2
  refine ok_ite (fun c_2 => ?_) (fun c_2 => ?_)
  · have c_2 := tn_le (a := ((s.k.v 2)).toInt) (b := (x2).toInt) rfl rfl c_2
    exact ok_some ⟨hI_s_k, hF_s_k, hI_s_g, (ti_rng _).1, (ti_rng _).2⟩
  · have c_2 := tn_nle (a := ((s.k.v 2)).toInt) (b := (x2).toInt) rfl rfl c_2
    refine ok_grd (vpb_ok (by omega) (by omega)) ?_
    refine ok_ite (fun c_3 => ?_) (fun c_3 => ?_)
    · have c_3 := tn_eq (a := (((s.n.f 3) (Int32.toNatClampNeg x2))).toInt) (b := 0) rfl (by decide) c_3
      refine ok_bindI (ok_kX0_fareOf _ _ hI_s_k (by omega) (by omega)) (fun r5 s4 hc_4 => ?_)
      have hI_s4_k : InvK s4.k := hc_4.1
      have hFc_s4_k : FrK [7, 113, 114] s.k s4.k := hc_4.2.1
      have hF_s4_k : FrK [7, 113, 114] s0.k s4.k := hF_s_k.trans hFc_s4_k (by decide)
      have hl_r5 : 0 ≤ r5.toInt := hc_4.2.2.1
      have hu_r5 : r5.toInt ≤ 100 := hc_4.2.2.2
      refine ok_let (fun s6 hs6 => ?_)
      have hI_s6_g : InvG s6.g := by rw [← hs6]; exact hI_s_g
      have hI_s6_k : InvK s6.k := by rw [← hs6]; exact hI_s4_k
      have hF_s6_k : FrK [7, 113, 114] s0.k s6.k := by rw [← hs6]; exact hF_s4_k
      exact ok_kX10_faresOfAllHere_42 s0 k4 M4 hk4 _ _ _ hI_s6_k hF_s6_k hI_s6_g (by omega) (by omega) (by omega)
    · have c_3 := tn_ne (a := (((s.n.f 3) (Int32.toNatClampNeg x2))).toInt) (b := 0) rfl (by decide) c_3
      exact ok_kX10_faresOfAllHere_42 s0 k4 M4 hk4 _ _ _ hI_s_k hF_s_k hI_s_g (by omega) (by omega) (by omega)
theorem okL_kX10_faresOfAllHere_4 (s0 : XS)  : ∀ (n : Nat) (s : XS) (x1 : Int32) (x2 : Int32), (6 - x2.toInt).toNat < n → InvK s.k → FrK [7, 113, 114] s0.k s.k → InvG s.g → 0 ≤ x2.toInt → x2.toInt ≤ 6 → Ok (kX10_faresOfAllHere_4L  n s x1 x2) (Q_kX10_faresOfAllHere s0) := by
  intro n
  induction n with
  | zero => intro s x1 x2 hn; omega
  | succ n ih =>
    intro s x1 x2 hn hI_s_k hF_s_k hI_s_g h_x2l h_x2u 
    exact ok_kX10_faresOfAllHere_4 s0 (kX10_faresOfAllHere_4L  n) ((6 - x2.toInt).toNat) (fun zs zx1 zx2 g0 g1 g2 g3 g4  hm => ih zs zx1 zx2 (by omega) g0 g1 g2 g3 g4 ) s x1 x2 hI_s_k hF_s_k hI_s_g h_x2l h_x2u (Nat.le_refl _)
set_option maxHeartbeats 1000000 in
theorem ok_kX10_faresOfAllHereB (s0 : XS)  (s : XS) (hI_s_k : InvK s.k) (hF_s_k : FrK [7, 113, 114] s0.k s.k) (hI_s_g : InvG s.g)  : Ok (kX10_faresOfAllHere  s) (Q_kX10_faresOfAllHere s0) := by
  unfold kX10_faresOfAllHere
  have l_0 : (0 : Int32).toInt = 0 := by decide
  exact okL_kX10_faresOfAllHere_4 s0  fu _ _ _ (by unfold fu; omega) hI_s_k hF_s_k hI_s_g (by decide) (by decide) 
theorem ok_kX10_faresOfAllHere (s : XS) (hI_s_k : InvK s.k) (hI_s_g : InvG s.g) : Ok (kX10_faresOfAllHere s) (Q_kX10_faresOfAllHere s) := ok_kX10_faresOfAllHereB s s hI_s_k FrK.rfl hI_s_g
noncomputable abbrev Q_kX0_passYears (s0 : JS) (y : JS) : Prop := InvK y.k ∧ FrK [7, 113, 114] s0.k y.k
set_option maxHeartbeats 1000000 in
theorem ok_kX0_passYears_10 (s0 : JS) (k2 : JS → Int32 → Int32 → Option (JS)) (M2 : Nat) (hk2 : ∀ (s : JS) (x2 : Int32) (x3 : Int32), InvK s.k → FrK [7, 113, 114] s0.k s.k → 0 ≤ x2.toInt → x2.toInt ≤ 40 → 0 ≤ x3.toInt → x3.toInt ≤ 40 → (40 - x3.toInt).toNat < M2 → Ok (k2 s x2 x3) (Q_kX0_passYears s0)) (k10 : JS → Int32 → Int32 → Int32 → Option (JS)) (M10 : Nat) (hk10 : ∀ (s : JS) (x2 : Int32) (x3 : Int32) (x4 : Int32), InvK s.k → FrK [7, 113, 114] s0.k s.k → 1 ≤ x2.toInt → x2.toInt ≤ 40 → 0 ≤ x3.toInt → x3.toInt ≤ 39 → 0 ≤ x4.toInt → x4.toInt ≤ 5 → (40 - x3.toInt).toNat ≤ M2 → (5 - x4.toInt).toNat < M10 → Ok (k10 s x2 x3 x4) (Q_kX0_passYears s0)) (s : JS) (x2 : Int32) (x3 : Int32) (x4 : Int32) (hI_s_k : InvK s.k) (hF_s_k : FrK [7, 113, 114] s0.k s.k) (h_x2l : 1 ≤ x2.toInt) (h_x2u : x2.toInt ≤ 40) (h_x3l : 0 ≤ x3.toInt) (h_x3u : x3.toInt ≤ 39) (h_x4l : 0 ≤ x4.toInt) (h_x4u : x4.toInt ≤ 5) (hM2 : (40 - x3.toInt).toNat ≤ M2) (hM10 : (5 - x4.toInt).toNat ≤ M10) : Ok (kX0_passYears_10 k2 k10 s x2 x3 x4) (Q_kX0_passYears s0) := by
  unfold kX0_passYears_10
  have a_1 : 0 ≤ (s.k.v 1).toInt ∧ (s.k.v 1).toInt ≤ 5 := hI_s_k.1 1
  refine ok_ite (fun c_2 => ?_) (fun c_2 => ?_)
  · have c_2 := tn_le (a := ((s.k.v 1)).toInt) (b := (x4).toInt) rfl rfl c_2
    refine ok_let (fun s2 hs2 => ?_)
    have hI_s2_k : InvK s2.k := by rw [← hs2]; exact hI_s_k
    have hF_s2_k : FrK [7, 113, 114] s0.k s2.k := by rw [← hs2]; exact hF_s_k
    have a_3 : ((x3 + 1)).toInt = (x3).toInt + 1 := tn_add rfl (by decide) (by omega) (by omega)
    exact hk2 _ _ _ hI_s2_k hF_s2_k (by omega) (by omega) (by omega) (by omega) (by omega)
  · have c_2 := tn_nle (a := ((s.k.v 1)).toInt) (b := (x4).toInt) rfl rfl c_2
    refine ok_bindP (ok_kX0_passYearOver _ _ hI_s_k (by omega) (by omega)) (fun s4 hc_4 => ?_)
    have hI_s4_k : InvK s4.k := hc_4.1
    have hFc_s4_k : FrK [7, 113, 114] s.k s4.k := hc_4.2
    have hF_s4_k : FrK [7, 113, 114] s0.k s4.k := hF_s_k.trans hFc_s4_k (by decide)
    have a_5 : ((x4 + 1)).toInt = (x4).toInt + 1 := tn_add rfl (by decide) (by omega) (by omega)
    exact hk10 _ _ _ _ hI_s4_k hF_s4_k (by omega) (by omega) (by omega) (by omega) (by omega) (by omega) (by omega) (by omega)
theorem okL_kX0_passYears_10 (s0 : JS) (k2 : JS → Int32 → Int32 → Option (JS)) (M2 : Nat) (hk2 : ∀ (s : JS) (x2 : Int32) (x3 : Int32), InvK s.k → FrK [7, 113, 114] s0.k s.k → 0 ≤ x2.toInt → x2.toInt ≤ 40 → 0 ≤ x3.toInt → x3.toInt ≤ 40 → (40 - x3.toInt).toNat < M2 → Ok (k2 s x2 x3) (Q_kX0_passYears s0)) : ∀ (n : Nat) (s : JS) (x2 : Int32) (x3 : Int32) (x4 : Int32), (5 - x4.toInt).toNat < n → InvK s.k → FrK [7, 113, 114] s0.k s.k → 1 ≤ x2.toInt → x2.toInt ≤ 40 → 0 ≤ x3.toInt → x3.toInt ≤ 39 → 0 ≤ x4.toInt → x4.toInt ≤ 5 → (40 - x3.toInt).toNat ≤ M2 → Ok (kX0_passYears_10L k2 n s x2 x3 x4) (Q_kX0_passYears s0) := by
  intro n
  induction n with
  | zero => intro s x2 x3 x4 hn; omega
  | succ n ih =>
    intro s x2 x3 x4 hn hI_s_k hF_s_k h_x2l h_x2u h_x3l h_x3u h_x4l h_x4u hM2
    exact ok_kX0_passYears_10 s0 k2 M2 hk2 (kX0_passYears_10L k2 n) ((5 - x4.toInt).toNat) (fun zs zx2 zx3 zx4 g0 g1 g2 g3 g4 g5 g6 g7 o2 hm => ih zs zx2 zx3 zx4 (by omega) g0 g1 g2 g3 g4 g5 g6 g7 o2) s x2 x3 x4 hI_s_k hF_s_k h_x2l h_x2u h_x3l h_x3u h_x4l h_x4u hM2 (Nat.le_refl _)
set_option maxHeartbeats 1000000 in
theorem ok_kX0_passYears_2 (s0 : JS) (k2 : JS → Int32 → Int32 → Option (JS)) (M2 : Nat) (hk2 : ∀ (s : JS) (x2 : Int32) (x3 : Int32), InvK s.k → FrK [7, 113, 114] s0.k s.k → 0 ≤ x2.toInt → x2.toInt ≤ 40 → 0 ≤ x3.toInt → x3.toInt ≤ 40 → (40 - x3.toInt).toNat < M2 → Ok (k2 s x2 x3) (Q_kX0_passYears s0)) (s : JS) (x2 : Int32) (x3 : Int32) (hI_s_k : InvK s.k) (hF_s_k : FrK [7, 113, 114] s0.k s.k) (h_x2l : 0 ≤ x2.toInt) (h_x2u : x2.toInt ≤ 40) (h_x3l : 0 ≤ x3.toInt) (h_x3u : x3.toInt ≤ 40) (hM2 : (40 - x3.toInt).toNat ≤ M2) : Ok (kX0_passYears_2 k2 s x2 x3) (Q_kX0_passYears s0) := by
  unfold kX0_passYears_2
  refine ok_ite (fun c_1 => ?_) (fun c_1 => ?_)
  · have c_1 := tn_le (a := (x2).toInt) (b := (x3).toInt) rfl rfl c_1
    exact ok_some ⟨hI_s_k, hF_s_k⟩
  · have c_1 := tn_nle (a := (x2).toInt) (b := (x3).toInt) rfl rfl c_1
    have l_0 : (0 : Int32).toInt = 0 := by decide
    exact okL_kX0_passYears_10 s0 k2 M2 hk2 fu _ _ _ _ (by unfold fu; omega) hI_s_k hF_s_k (by omega) (by omega) (by omega) (by omega) (by decide) (by decide) (by omega)
theorem okL_kX0_passYears_2 (s0 : JS)  : ∀ (n : Nat) (s : JS) (x2 : Int32) (x3 : Int32), (40 - x3.toInt).toNat < n → InvK s.k → FrK [7, 113, 114] s0.k s.k → 0 ≤ x2.toInt → x2.toInt ≤ 40 → 0 ≤ x3.toInt → x3.toInt ≤ 40 → Ok (kX0_passYears_2L  n s x2 x3) (Q_kX0_passYears s0) := by
  intro n
  induction n with
  | zero => intro s x2 x3 hn; omega
  | succ n ih =>
    intro s x2 x3 hn hI_s_k hF_s_k h_x2l h_x2u h_x3l h_x3u 
    exact ok_kX0_passYears_2 s0 (kX0_passYears_2L  n) ((40 - x3.toInt).toNat) (fun zs zx2 zx3 g0 g1 g2 g3 g4 g5  hm => ih zs zx2 zx3 (by omega) g0 g1 g2 g3 g4 g5 ) s x2 x3 hI_s_k hF_s_k h_x2l h_x2u h_x3l h_x3u (Nat.le_refl _)
set_option maxHeartbeats 1000000 in
theorem ok_kX0_passYearsB (s0 : JS)  (s : JS) (x2 : Int32) (hI_s_k : InvK s.k) (hF_s_k : FrK [7, 113, 114] s0.k s.k) (h_x2l : 0 ≤ x2.toInt) (h_x2u : x2.toInt ≤ 40)  : Ok (kX0_passYears  s x2) (Q_kX0_passYears s0) := by
  unfold kX0_passYears
  have l_0 : (0 : Int32).toInt = 0 := by decide
  exact okL_kX0_passYears_2 s0  fu _ _ _ (by unfold fu; omega) hI_s_k hF_s_k (by omega) (by omega) (by decide) (by decide) 
theorem ok_kX0_passYears (s : JS) (x2 : Int32) (hI_s_k : InvK s.k) (h_x2l : 0 ≤ x2.toInt) (h_x2u : x2.toInt ≤ 40) : Ok (kX0_passYears s x2) (Q_kX0_passYears s) := ok_kX0_passYearsB s s x2 hI_s_k FrK.rfl h_x2l h_x2u
noncomputable abbrev Q_kX2_bestGuess (s0 : JS) (y : Int32 × JS) : Prop := InvK y.2.k ∧ FrK [7, 113, 114] s0.k y.2.k ∧ -2 ≤ y.1.toInt ∧ y.1.toInt ≤ 7775 ∧ (¬ y.1.toInt = -2 → 0 ≤ y.1.toInt)
set_option maxHeartbeats 1000000 in
theorem ok_kX2_bestGuess_13 (s0 : JS) (k13 : JS → Int32 → Int32 → Int32 → Option (Int32 × JS)) (M13 : Nat) (hk13 : ∀ (s : JS) (x2 : Int32) (x3 : Int32) (x4 : Int32), InvK s.k → FrK [7, 113, 114] s0.k s.k → -1 ≤ x2.toInt → x2.toInt ≤ 5 → 0 ≤ x3.toInt → x3.toInt ≤ 7775 → -1 ≤ x4.toInt → x4.toInt ≤ 4 → (4 ≤ x4.toInt → x3.toInt ≤ 0) → (3 ≤ x4.toInt → x3.toInt ≤ 5) → (2 ≤ x4.toInt → x3.toInt ≤ 35) → (1 ≤ x4.toInt → x3.toInt ≤ 215) → (0 ≤ x4.toInt → x3.toInt ≤ 1295) → (x4.toInt - (-1)).toNat < M13 → Ok (k13 s x2 x3 x4) (Q_kX2_bestGuess s0)) (s : JS) (x2 : Int32) (x3 : Int32) (x4 : Int32) (hI_s_k : InvK s.k) (hF_s_k : FrK [7, 113, 114] s0.k s.k) (h_x2l : -1 ≤ x2.toInt) (h_x2u : x2.toInt ≤ 5) (h_x3l : 0 ≤ x3.toInt) (h_x3u : x3.toInt ≤ 7775) (h_x4l : -1 ≤ x4.toInt) (h_x4u : x4.toInt ≤ 4) (hx0 : (4 ≤ x4.toInt → x3.toInt ≤ 0)) (hx1 : (3 ≤ x4.toInt → x3.toInt ≤ 5)) (hx2 : (2 ≤ x4.toInt → x3.toInt ≤ 35)) (hx3 : (1 ≤ x4.toInt → x3.toInt ≤ 215)) (hx4 : (0 ≤ x4.toInt → x3.toInt ≤ 1295)) (hM13 : (x4.toInt - (-1)).toNat ≤ M13) : Ok (kX2_bestGuess_13 k13 s x2 x3 x4) (Q_kX2_bestGuess s0) := by
  unfold kX2_bestGuess_13
  rw [show x4 + (-1) = x4 - 1 from (Int32.sub_eq_add_neg x4 1).symm]
  refine ok_ite (fun c_1 => ?_) (fun c_1 => ?_)
  · have c_1 := tn_lt (a := (x4).toInt) (b := 0) rfl (by decide) c_1
    exact ok_some ⟨hI_s_k, hF_s_k, by show -2 ≤ (x3).toInt; omega, by show (x3).toInt ≤ 7775; omega, by show (¬ (x3).toInt = -2 → 0 ≤ (x3).toInt); omega⟩
  · have c_1 := tn_nlt (a := (x4).toInt) (b := 0) rfl (by decide) c_1
    refine ok_bindI (ok_kX2_bestThing _ _ _ hI_s_k (by omega) (by omega) (by omega) (by omega)) (fun r3 s2 hc_2 => ?_)
    have hI_s2_k : InvK s2.k := hc_2.1
    have hFc_s2_k : FrK [7, 113, 114] s.k s2.k := hc_2.2.1
    have hF_s2_k : FrK [7, 113, 114] s0.k s2.k := hF_s_k.trans hFc_s2_k (by decide)
    have hl_r3 : -1 ≤ r3.toInt := hc_2.2.2.1
    have hu_r3 : r3.toInt ≤ 5 := hc_2.2.2.2
    refine ok_ite (fun c_3 => ?_) (fun c_3 => ?_)
    · have c_3 := tn_eq (a := (r3).toInt) (b := (-1)) rfl (by decide) c_3
      exact ok_some ⟨hI_s2_k, hF_s2_k, by show -2 ≤ ((-2) : Int32).toInt; decide, by show ((-2) : Int32).toInt ≤ 7775; decide, by show (¬ ((-2) : Int32).toInt = -2 → 0 ≤ ((-2) : Int32).toInt); have l := (by decide : ((-2) : Int32).toInt = -2); omega⟩
    · have c_3 := tn_ne (a := (r3).toInt) (b := (-1)) rfl (by decide) c_3
      have a_4 : ((x3 * 6)).toInt = (x3).toInt * 6 := ti_mulc (c := 6) (by decide) (by omega) (by omega)
      have a_5 : (((x3 * 6) + r3)).toInt = ((x3 * 6)).toInt + (r3).toInt := tn_add rfl rfl (by omega) (by omega)
      have a_6 : ((x4 - 1)).toInt = (x4).toInt - 1 := tn_sub rfl (by decide) (by omega) (by omega)
      exact hk13 _ _ _ _ hI_s2_k hF_s2_k (by first | (clear hx0 hx1 hx2 hx3 hx4; omega) | omega) (by first | (clear hx0 hx1 hx2 hx3 hx4; omega) | omega) (by first | (clear hx0 hx1 hx2 hx3 hx4; omega) | omega) (by first | (clear hx0 hx1 hx2 hx3 hx4; omega) | omega) (by first | (clear hx0 hx1 hx2 hx3 hx4; omega) | omega) (by first | (clear hx0 hx1 hx2 hx3 hx4; omega) | omega) (by omega) (by omega) (by omega) (by omega) (by omega) (by first | (clear hx0 hx1 hx2 hx3 hx4; omega) | omega)
theorem okL_kX2_bestGuess_13 (s0 : JS)  : ∀ (n : Nat) (s : JS) (x2 : Int32) (x3 : Int32) (x4 : Int32), (x4.toInt - (-1)).toNat < n → InvK s.k → FrK [7, 113, 114] s0.k s.k → -1 ≤ x2.toInt → x2.toInt ≤ 5 → 0 ≤ x3.toInt → x3.toInt ≤ 7775 → -1 ≤ x4.toInt → x4.toInt ≤ 4 → (4 ≤ x4.toInt → x3.toInt ≤ 0) → (3 ≤ x4.toInt → x3.toInt ≤ 5) → (2 ≤ x4.toInt → x3.toInt ≤ 35) → (1 ≤ x4.toInt → x3.toInt ≤ 215) → (0 ≤ x4.toInt → x3.toInt ≤ 1295) → Ok (kX2_bestGuess_13L  n s x2 x3 x4) (Q_kX2_bestGuess s0) := by
  intro n
  induction n with
  | zero => intro s x2 x3 x4 hn; omega
  | succ n ih =>
    intro s x2 x3 x4 hn hI_s_k hF_s_k h_x2l h_x2u h_x3l h_x3u h_x4l h_x4u hx0 hx1 hx2 hx3 hx4 
    exact ok_kX2_bestGuess_13 s0 (kX2_bestGuess_13L  n) ((x4.toInt - (-1)).toNat) (fun zs zx2 zx3 zx4 g0 g1 g2 g3 g4 g5 g6 g7 g8 g9 g10 g11 g12  hm => ih zs zx2 zx3 zx4 (by omega) g0 g1 g2 g3 g4 g5 g6 g7 g8 g9 g10 g11 g12 ) s x2 x3 x4 hI_s_k hF_s_k h_x2l h_x2u h_x3l h_x3u h_x4l h_x4u hx0 hx1 hx2 hx3 hx4 (Nat.le_refl _)
set_option maxHeartbeats 1000000 in
theorem ok_kX2_bestGuessB (s0 : JS)  (s : JS) (x2 : Int32) (hI_s_k : InvK s.k) (hF_s_k : FrK [7, 113, 114] s0.k s.k) (h_x2l : -1 ≤ x2.toInt) (h_x2u : x2.toInt ≤ 5)  : Ok (kX2_bestGuess  s x2) (Q_kX2_bestGuess s0) := by
  unfold kX2_bestGuess
  have a_1 : 0 ≤ (s.k.v 1).toInt ∧ (s.k.v 1).toInt ≤ 5 := hI_s_k.1 1
  have a_2 : (((s.k.v 1) - 1)).toInt = ((s.k.v 1)).toInt - 1 := tn_sub rfl (by decide) (by omega) (by omega)
  have l_0 : (0 : Int32).toInt = 0 := by decide
  exact okL_kX2_bestGuess_13 s0  fu _ _ _ _ (by unfold fu; omega) hI_s_k hF_s_k (by omega) (by omega) (by decide) (by decide) (by omega) (by omega) (by omega) (by omega) (by omega) (by omega) (by omega) 
theorem ok_kX2_bestGuess (s : JS) (x2 : Int32) (hI_s_k : InvK s.k) (h_x2l : -1 ≤ x2.toInt) (h_x2u : x2.toInt ≤ 5) : Ok (kX2_bestGuess s x2) (Q_kX2_bestGuess s) := ok_kX2_bestGuessB s s x2 hI_s_k FrK.rfl h_x2l h_x2u
noncomputable abbrev Q_kX2_oddsOverWithin (s0 : JS) (y : Int32 × JS) : Prop := InvK y.2.k ∧ FrK [7, 113, 114] s0.k y.2.k ∧ -2147483648 ≤ y.1.toInt ∧ y.1.toInt ≤ 2147483647
set_option maxHeartbeats 1000000 in
theorem ok_kX2_oddsOverWithin_158 (R : JS → Int32 → Int32 → Option (Int32 × JS)) (D : Nat) (hR : ∀ (s : JS) (x2 x3 : Int32), InvK s.k → 0 ≤ x2.toInt → x2.toInt ≤ 5 → 0 ≤ x3.toInt → x3.toInt ≤ 8 → x3.toInt.toNat < D → Ok (R s x2 x3) (fun y => InvK y.2.k ∧ FrK [7, 113, 114] s.k y.2.k ∧ -2147483648 ≤ y.1.toInt ∧ y.1.toInt ≤ 2147483647)) (s0 : JS) (k55 : JS → Int32 → Int32 → Int32 → Int32 → Int32 → Int32 → Option (Int32 × JS)) (M55 : Nat) (hk55 : ∀ (s : JS) (x2 : Int32) (x3 : Int32) (x4 : Int32) (x5 : Int32) (x6 : Int32) (x7 : Int32), InvK s.k → FrK [7, 113, 114] s0.k s.k → 0 ≤ x2.toInt → x2.toInt ≤ 5 → 2 ≤ x3.toInt → x3.toInt ≤ 8 → 0 ≤ x4.toInt → x4.toInt ≤ 7775 → 0 ≤ x7.toInt → x7.toInt ≤ 5 → x3.toInt.toNat ≤ D → (5 - x7.toInt).toNat < M55 → Ok (k55 s x2 x3 x4 x5 x6 x7) (Q_kX2_oddsOverWithin s0)) (s : JS) (x2 : Int32) (x3 : Int32) (x4 : Int32) (x5 : Int32) (x6 : Int32) (x7 : Int32) (hI_s_k : InvK s.k) (hF_s_k : FrK [7, 113, 114] s0.k s.k) (h_x2l : 0 ≤ x2.toInt) (h_x2u : x2.toInt ≤ 5) (h_x3l : 2 ≤ x3.toInt) (h_x3u : x3.toInt ≤ 8) (h_x4l : 0 ≤ x4.toInt) (h_x4u : x4.toInt ≤ 7775) (h_x7l : 0 ≤ x7.toInt) (h_x7u : x7.toInt ≤ 4) (hD : x3.toInt.toNat ≤ D) (hM55 : (5 - x7.toInt).toNat ≤ M55) : Ok (kX2_oddsOverWithin_158 R k55 s x2 x3 x4 x5 x6 x7) (Q_kX2_oddsOverWithin s0) := by
  unfold kX2_oddsOverWithin_158
  have a_1 : ((x7 + 1)).toInt = (x7).toInt + 1 := tn_add rfl (by decide) (by omega) (by omega)
  exact hk55 _ _ _ _ _ _ _ hI_s_k hF_s_k (by omega) (by omega) (by omega) (by omega) (by omega) (by omega) (by omega) (by omega) (by omega) (by omega)
set_option maxHeartbeats 1000000 in
theorem ok_kX2_oddsOverWithin_129 (R : JS → Int32 → Int32 → Option (Int32 × JS)) (D : Nat) (hR : ∀ (s : JS) (x2 x3 : Int32), InvK s.k → 0 ≤ x2.toInt → x2.toInt ≤ 5 → 0 ≤ x3.toInt → x3.toInt ≤ 8 → x3.toInt.toNat < D → Ok (R s x2 x3) (fun y => InvK y.2.k ∧ FrK [7, 113, 114] s.k y.2.k ∧ -2147483648 ≤ y.1.toInt ∧ y.1.toInt ≤ 2147483647)) (s0 : JS) (k55 : JS → Int32 → Int32 → Int32 → Int32 → Int32 → Int32 → Option (Int32 × JS)) (M55 : Nat) (hk55 : ∀ (s : JS) (x2 : Int32) (x3 : Int32) (x4 : Int32) (x5 : Int32) (x6 : Int32) (x7 : Int32), InvK s.k → FrK [7, 113, 114] s0.k s.k → 0 ≤ x2.toInt → x2.toInt ≤ 5 → 2 ≤ x3.toInt → x3.toInt ≤ 8 → 0 ≤ x4.toInt → x4.toInt ≤ 7775 → 0 ≤ x7.toInt → x7.toInt ≤ 5 → x3.toInt.toNat ≤ D → (5 - x7.toInt).toNat < M55 → Ok (k55 s x2 x3 x4 x5 x6 x7) (Q_kX2_oddsOverWithin s0)) (s : JS) (x2 : Int32) (x3 : Int32) (x4 : Int32) (x5 : Int32) (x6 : Int32) (x7 : Int32) (x8 : Int32) (hI_s_k : InvK s.k) (hF_s_k : FrK [7, 113, 114] s0.k s.k) (h_x2l : 0 ≤ x2.toInt) (h_x2u : x2.toInt ≤ 5) (h_x3l : 2 ≤ x3.toInt) (h_x3u : x3.toInt ≤ 8) (h_x4l : 0 ≤ x4.toInt) (h_x4u : x4.toInt ≤ 7775) (h_x7l : 0 ≤ x7.toInt) (h_x7u : x7.toInt ≤ 4) (h_x8l : 0 ≤ x8.toInt) (h_x8u : x8.toInt ≤ 5) (hD : x3.toInt.toNat ≤ D) (hM55 : (5 - x7.toInt).toNat ≤ M55) : Ok (kX2_oddsOverWithin_129 R k55 s x2 x3 x4 x5 x6 x7 x8) (Q_kX2_oddsOverWithin s0) := by
  unfold kX2_oddsOverWithin_129
  refine ok_grd (vpb_ok (by omega) (by omega)) ?_
  refine ok_ite (fun c_1 => ?_) (fun c_1 => ?_)
  · have c_1 := tn_eq (a := (((s.d.f 0) (Int32.toNatClampNeg x7))).toInt) (b := (-1)) rfl (by decide) c_1
    refine ok_grd (vpb_ok (by omega) (by omega)) ?_
    refine ok_let (fun s4 hs4 => ?_)
    have hI_s4_k : InvK s4.k := by rw [← hs4]; exact hI_s_k
    have hF_s4_k : FrK [7, 113, 114] s0.k s4.k := by rw [← hs4]; exact hF_s_k
    exact ok_kX2_oddsOverWithin_158 R D hR s0 k55 M55 hk55 _ _ _ _ _ _ _ hI_s4_k hF_s4_k (by omega) (by omega) (by omega) (by omega) (by omega) (by omega) (by omega) (by omega) (by omega) (by omega)
  · have c_1 := tn_ne (a := (((s.d.f 0) (Int32.toNatClampNeg x7))).toInt) (b := (-1)) rfl (by decide) c_1
    exact ok_kX2_oddsOverWithin_158 R D hR s0 k55 M55 hk55 _ _ _ _ _ _ _ hI_s_k hF_s_k (by omega) (by omega) (by omega) (by omega) (by omega) (by omega) (by omega) (by omega) (by omega) (by omega)
set_option maxHeartbeats 1000000 in
theorem ok_kX2_oddsOverWithin_55 (R : JS → Int32 → Int32 → Option (Int32 × JS)) (D : Nat) (hR : ∀ (s : JS) (x2 x3 : Int32), InvK s.k → 0 ≤ x2.toInt → x2.toInt ≤ 5 → 0 ≤ x3.toInt → x3.toInt ≤ 8 → x3.toInt.toNat < D → Ok (R s x2 x3) (fun y => InvK y.2.k ∧ FrK [7, 113, 114] s.k y.2.k ∧ -2147483648 ≤ y.1.toInt ∧ y.1.toInt ≤ 2147483647)) (s0 : JS) (k55 : JS → Int32 → Int32 → Int32 → Int32 → Int32 → Int32 → Option (Int32 × JS)) (M55 : Nat) (hk55 : ∀ (s : JS) (x2 : Int32) (x3 : Int32) (x4 : Int32) (x5 : Int32) (x6 : Int32) (x7 : Int32), InvK s.k → FrK [7, 113, 114] s0.k s.k → 0 ≤ x2.toInt → x2.toInt ≤ 5 → 2 ≤ x3.toInt → x3.toInt ≤ 8 → 0 ≤ x4.toInt → x4.toInt ≤ 7775 → 0 ≤ x7.toInt → x7.toInt ≤ 5 → x3.toInt.toNat ≤ D → (5 - x7.toInt).toNat < M55 → Ok (k55 s x2 x3 x4 x5 x6 x7) (Q_kX2_oddsOverWithin s0)) (s : JS) (x2 : Int32) (x3 : Int32) (x4 : Int32) (x5 : Int32) (x6 : Int32) (x7 : Int32) (hI_s_k : InvK s.k) (hF_s_k : FrK [7, 113, 114] s0.k s.k) (h_x2l : 0 ≤ x2.toInt) (h_x2u : x2.toInt ≤ 5) (h_x3l : 2 ≤ x3.toInt) (h_x3u : x3.toInt ≤ 8) (h_x4l : 0 ≤ x4.toInt) (h_x4u : x4.toInt ≤ 7775) (h_x7l : 0 ≤ x7.toInt) (h_x7u : x7.toInt ≤ 5) (hD : x3.toInt.toNat ≤ D) (hM55 : (5 - x7.toInt).toNat ≤ M55) : Ok (kX2_oddsOverWithin_55 R k55 s x2 x3 x4 x5 x6 x7) (Q_kX2_oddsOverWithin s0) := by
  unfold kX2_oddsOverWithin_55
  have a_1 : 0 ≤ (s.k.v 1).toInt ∧ (s.k.v 1).toInt ≤ 5 := hI_s_k.1 1
  refine ok_ite (fun c_2 => ?_) (fun c_2 => ?_)
  · have c_2 := tn_le (a := ((s.k.v 1)).toInt) (b := (x7).toInt) rfl rfl c_2
    refine ok_bindP (ok_kX2_unfind _ _ hI_s_k) (fun s2 hc_3 => ?_)
    have hI_s2_k : InvK s2.k := hc_3.1
    have hFc_s2_k : FrK [] s.k s2.k := hc_3.2
    have hF_s2_k : FrK [7, 113, 114] s0.k s2.k := hF_s_k.trans hFc_s2_k (by decide)
    refine ok_grd (vpb_ok (by omega) (by omega)) ?_
    refine ok_grd (vpb_ok (by omega) (by omega)) ?_
    refine ok_let (fun s5 hs5 => ?_)
    have hI_s5_k : InvK s5.k := by rw [← hs5]; exact hI_s2_k
    have hF_s5_k : FrK [7, 113, 114] s0.k s5.k := by rw [← hs5]; exact hF_s2_k
    exact ok_some ⟨hI_s5_k, hF_s5_k, (ti_rng _).1, (ti_rng _).2⟩
  · have c_2 := tn_nle (a := ((s.k.v 1)).toInt) (b := (x7).toInt) rfl rfl c_2
    refine ok_bindP (ok_kX10_thingIn _ _ (by omega) (by omega)) (fun r7 hc_4 => ?_)
    have hx0_r7 : (0 ≤ (x4).toInt → 0 ≤ r7.toInt ∧ r7.toInt ≤ 5) := hc_4.2.2
    refine ok_bindI (ok_kX2_mayCount _ _ hI_s_k (by omega) (by omega)) (fun r9 s8 hc_5 => ?_)
    have hI_s8_k : InvK s8.k := hc_5.1
    have hFc_s8_k : FrK [] s.k s8.k := hc_5.2.1
    have hF_s8_k : FrK [7, 113, 114] s0.k s8.k := hF_s_k.trans hFc_s8_k (by decide)
    refine ok_ite (fun c_6 => ?_) (fun c_6 => ?_)
    · have c_6 := tn_le (a := (r9).toInt) (b := 1) rfl (by decide) c_6
      exact ok_kX2_oddsOverWithin_129 R D hR s0 k55 M55 hk55 _ _ _ _ _ _ _ _ hI_s8_k hF_s8_k (by omega) (by omega) (by omega) (by omega) (by omega) (by omega) (by omega) (by omega) (by omega) (by omega) (by omega) (by omega)
    · have c_6 := tn_nle (a := (r9).toInt) (b := 1) rfl (by decide) c_6
      refine ok_grd (vpb_ok (by omega) (by omega)) ?_
      refine ok_grd (vpb_ok (by omega) (by omega)) ?_
      refine ok_let (fun s13 hs13 => ?_)
      have hI_s13_k : InvK s13.k := by rw [← hs13]; exact hI_s8_k
      have hF_s13_k : FrK [7, 113, 114] s0.k s13.k := by rw [← hs13]; exact hF_s8_k
      have a_7 : ((x3 - 1)).toInt = (x3).toInt - 1 := tn_sub rfl (by decide) (by omega) (by omega)
      refine ok_bindI (hR _ _ _ hI_s13_k (by omega) (by omega) (by omega) (by omega) (by omega)) (fun r16 s15 hc_8 => ?_)
      have hI_s15_k : InvK s15.k := hc_8.1
      have hFc_s15_k : FrK [7, 113, 114] s13.k s15.k := hc_8.2.1
      have hF_s15_k : FrK [7, 113, 114] s0.k s15.k := hF_s13_k.trans hFc_s15_k (by decide)
      refine ok_grd (vpb_ok (by omega) (by omega)) ?_
      refine ok_grd (vpb_ok (by omega) (by omega)) ?_
      refine ok_let (fun s19 hs19 => ?_)
      have hI_s19_k : InvK s19.k := by rw [← hs19]; exact hI_s15_k
      have hF_s19_k : FrK [7, 113, 114] s0.k s19.k := by rw [← hs19]; exact hF_s15_k
      exact ok_kX2_oddsOverWithin_129 R D hR s0 k55 M55 hk55 _ _ _ _ _ _ _ _ hI_s19_k hF_s19_k (by omega) (by omega) (by omega) (by omega) (by omega) (by omega) (by omega) (by omega) (by omega) (by omega) (by omega) (by omega)
theorem okL_kX2_oddsOverWithin_55 (R : JS → Int32 → Int32 → Option (Int32 × JS)) (D : Nat) (hR : ∀ (s : JS) (x2 x3 : Int32), InvK s.k → 0 ≤ x2.toInt → x2.toInt ≤ 5 → 0 ≤ x3.toInt → x3.toInt ≤ 8 → x3.toInt.toNat < D → Ok (R s x2 x3) (fun y => InvK y.2.k ∧ FrK [7, 113, 114] s.k y.2.k ∧ -2147483648 ≤ y.1.toInt ∧ y.1.toInt ≤ 2147483647)) (s0 : JS)  : ∀ (n : Nat) (s : JS) (x2 : Int32) (x3 : Int32) (x4 : Int32) (x5 : Int32) (x6 : Int32) (x7 : Int32), (5 - x7.toInt).toNat < n → InvK s.k → FrK [7, 113, 114] s0.k s.k → 0 ≤ x2.toInt → x2.toInt ≤ 5 → 2 ≤ x3.toInt → x3.toInt ≤ 8 → 0 ≤ x4.toInt → x4.toInt ≤ 7775 → 0 ≤ x7.toInt → x7.toInt ≤ 5 → x3.toInt.toNat ≤ D → Ok (kX2_oddsOverWithin_55L R  n s x2 x3 x4 x5 x6 x7) (Q_kX2_oddsOverWithin s0) := by
  intro n
  induction n with
  | zero => intro s x2 x3 x4 x5 x6 x7 hn; omega
  | succ n ih =>
    intro s x2 x3 x4 x5 x6 x7 hn hI_s_k hF_s_k h_x2l h_x2u h_x3l h_x3u h_x4l h_x4u h_x7l h_x7u hD 
    exact ok_kX2_oddsOverWithin_55 R D hR s0 (kX2_oddsOverWithin_55L R  n) ((5 - x7.toInt).toNat) (fun zs zx2 zx3 zx4 zx5 zx6 zx7 g0 g1 g2 g3 g4 g5 g6 g7 g8 g9 g10  hm => ih zs zx2 zx3 zx4 zx5 zx6 zx7 (by omega) g0 g1 g2 g3 g4 g5 g6 g7 g8 g9 g10 ) s x2 x3 x4 x5 x6 x7 hI_s_k hF_s_k h_x2l h_x2u h_x3l h_x3u h_x4l h_x4u h_x7l h_x7u hD (Nat.le_refl _)
set_option maxHeartbeats 1000000 in
theorem ok_kX2_oddsOverWithinB (R : JS → Int32 → Int32 → Option (Int32 × JS)) (D : Nat) (hR : ∀ (s : JS) (x2 x3 : Int32), InvK s.k → 0 ≤ x2.toInt → x2.toInt ≤ 5 → 0 ≤ x3.toInt → x3.toInt ≤ 8 → x3.toInt.toNat < D → Ok (R s x2 x3) (fun y => InvK y.2.k ∧ FrK [7, 113, 114] s.k y.2.k ∧ -2147483648 ≤ y.1.toInt ∧ y.1.toInt ≤ 2147483647)) (s0 : JS)  (s : JS) (x2 : Int32) (x3 : Int32) (hI_s_k : InvK s.k) (hF_s_k : FrK [7, 113, 114] s0.k s.k) (h_x2l : 0 ≤ x2.toInt) (h_x2u : x2.toInt ≤ 5) (h_x3l : 0 ≤ x3.toInt) (h_x3u : x3.toInt ≤ 8) (hD : x3.toInt.toNat ≤ D)  : Ok (kX2_oddsOverWithin R  s x2 x3) (Q_kX2_oddsOverWithin s0) := by
  unfold kX2_oddsOverWithin
  refine ok_bindI (ok_kX2_bestGuess _ _ hI_s_k (by omega) (by omega)) (fun r2 s1 hc_1 => ?_)
  have hI_s1_k : InvK s1.k := hc_1.1
  have hFc_s1_k : FrK [7, 113, 114] s.k s1.k := hc_1.2.1
  have hF_s1_k : FrK [7, 113, 114] s0.k s1.k := hF_s_k.trans hFc_s1_k (by decide)
  have hl_r2 : -2 ≤ r2.toInt := hc_1.2.2.1
  have hu_r2 : r2.toInt ≤ 7775 := hc_1.2.2.2.1
  have hx0_r2 : (¬ r2.toInt = -2 → 0 ≤ r2.toInt) := hc_1.2.2.2.2
  refine ok_ite (fun c_2 => ?_) (fun c_2 => ?_)
  · have c_2 := tn_eq (a := (r2).toInt) (b := (-2)) rfl (by decide) c_2
    exact ok_some ⟨hI_s1_k, hF_s1_k, (ti_rng _).1, (ti_rng _).2⟩
  · have c_2 := tn_ne (a := (r2).toInt) (b := (-2)) rfl (by decide) c_2
    refine ok_ite (fun c_3 => ?_) (fun c_3 => ?_)
    · have c_3 := tn_le (a := 1) (b := (x3).toInt) (by decide) rfl c_3
      refine ok_bindI (ok_kX2_oddsOf _ _ hI_s1_k (by omega)) (fun r6 s5 hc_4 => ?_)
      have hI_s5_k : InvK s5.k := hc_4.1
      have hFc_s5_k : FrK [] s1.k s5.k := hc_4.2.1
      have hF_s5_k : FrK [7, 113, 114] s0.k s5.k := hF_s1_k.trans hFc_s5_k (by decide)
      refine ok_ite (fun c_5 => ?_) (fun c_5 => ?_)
      · have c_5 := tn_eq (a := (x3).toInt) (b := 1) rfl (by decide) c_5
        exact ok_some ⟨hI_s5_k, hF_s5_k, (ti_rng _).1, (ti_rng _).2⟩
      · have c_5 := tn_ne (a := (x3).toInt) (b := 1) rfl (by decide) c_5
        refine ok_grd (vpb_ok (by omega) (by omega)) ?_
        refine ok_grd (vpb_ok (by omega) (by omega)) ?_
        refine ok_let (fun s10 hs10 => ?_)
        have hI_s10_k : InvK s10.k := by rw [← hs10]; exact hI_s5_k
        have hF_s10_k : FrK [7, 113, 114] s0.k s10.k := by rw [← hs10]; exact hF_s5_k
        have l_0 : (0 : Int32).toInt = 0 := by decide
        exact okL_kX2_oddsOverWithin_55 R D hR s0  fu _ _ _ _ _ _ _ (by unfold fu; omega) hI_s10_k hF_s10_k (by omega) (by omega) (by omega) (by omega) (by omega) (by omega) (by decide) (by decide) (by omega) 
    · have c_3 := tn_nle (a := 1) (b := (x3).toInt) (by decide) rfl c_3
      exact ok_some ⟨hI_s1_k, hF_s1_k, (ti_rng _).1, (ti_rng _).2⟩
theorem ok_kX2_oddsOverWithin (R : JS → Int32 → Int32 → Option (Int32 × JS)) (D : Nat) (hR : ∀ (s : JS) (x2 x3 : Int32), InvK s.k → 0 ≤ x2.toInt → x2.toInt ≤ 5 → 0 ≤ x3.toInt → x3.toInt ≤ 8 → x3.toInt.toNat < D → Ok (R s x2 x3) (fun y => InvK y.2.k ∧ FrK [7, 113, 114] s.k y.2.k ∧ -2147483648 ≤ y.1.toInt ∧ y.1.toInt ≤ 2147483647)) (s : JS) (x2 : Int32) (x3 : Int32) (hI_s_k : InvK s.k) (h_x2l : 0 ≤ x2.toInt) (h_x2u : x2.toInt ≤ 5) (h_x3l : 0 ≤ x3.toInt) (h_x3u : x3.toInt ≤ 8) (hD : x3.toInt.toNat ≤ D) : Ok (kX2_oddsOverWithin R s x2 x3) (Q_kX2_oddsOverWithin s) := ok_kX2_oddsOverWithinB R D hR s s x2 x3 hI_s_k FrK.rfl h_x2l h_x2u h_x3l h_x3u hD
theorem ok_kX2_oddsOverWithinR : ∀ (n : Nat) (s : JS) (x2 x3 : Int32), InvK s.k → 0 ≤ x2.toInt → x2.toInt ≤ 5 → 0 ≤ x3.toInt → x3.toInt ≤ 8 → x3.toInt.toNat < n → Ok (kX2_oddsOverWithinR n s x2 x3) (Q_kX2_oddsOverWithin s) := by
  intro n
  induction n with
  | zero => intro s x2 x3 _ _ _ _ _ h; omega
  | succ n ih => intro s x2 x3 hI h0 h1 h2 h3 h; exact ok_kX2_oddsOverWithin (kX2_oddsOverWithinR n) n ih s x2 x3 hI h0 h1 h2 h3 (by omega)
theorem ok_kX2_oddsOverWithinR9 (s : JS) (x2 x3 : Int32) (hI : InvK s.k) (h0 : 0 ≤ x2.toInt) (h1 : x2.toInt ≤ 5) (h2 : 1 ≤ x3.toInt) (h3 : x3.toInt ≤ 8) : Ok (kX2_oddsOverWithinR 9 s x2 x3) (Q_kX2_oddsOverWithin s) := ok_kX2_oddsOverWithinR 9 s x2 x3 hI h0 h1 (by omega) h3 (by omega)
noncomputable abbrev Q_kX4_readPart (s0 : KS) (y : KS) : Prop := InvK y ∧ FrK [12, 15, 16, 17, 122, 123, 125] s0 y
set_option maxHeartbeats 1000000 in
theorem ok_kX4_readPartB (s0 : KS)  (s : KS) (x1 : Int32) (hI_s : InvK s) (hF_s : FrK [12, 15, 16, 17, 122, 123, 125] s0 s) (h_x1l : 59 ≤ x1.toInt) (h_x1u : x1.toInt ≤ 265)  : Ok (kX4_readPart  s x1) (Q_kX4_readPart s0) := by
  unfold kX4_readPart
  refine ok_bindP (ok_kX4_readSumR8 _ _ hI_s (by decide) (by decide)) (fun s1 hc_1 => ?_)
  have hI_s1 : InvK s1 := hc_1.1
  have hFc_s1 : FrK [12, 15, 16, 17, 122] s s1 := hc_1.2
  have hF_s1 : FrK [12, 15, 16, 17, 122, 123, 125] s0 s1 := hF_s.trans hFc_s1 (by decide)
  refine ok_bindP (ok_kX1_endPart _  hI_s1) (fun s2 hc_2 => ?_)
  have hI_s2 : InvK s2 := hc_2.1
  have hFc_s2 : FrK [123, 125] s1 s2 := hc_2.2
  have hF_s2 : FrK [12, 15, 16, 17, 122, 123, 125] s0 s2 := hF_s1.trans hFc_s2 (by decide)
  refine ok_bindP (ok_kX4_take _ _ hI_s2) (fun s3 hc_3 => ?_)
  have hI_s3 : InvK s3 := hc_3.1
  have hFc_s3 : FrK [15, 16, 17] s2 s3 := hc_3.2
  have hF_s3 : FrK [12, 15, 16, 17, 122, 123, 125] s0 s3 := hF_s2.trans hFc_s3 (by decide)
  exact ok_some ⟨hI_s3, hF_s3⟩
theorem ok_kX4_readPart (s : KS) (x1 : Int32) (hI_s : InvK s) (h_x1l : 59 ≤ x1.toInt) (h_x1u : x1.toInt ≤ 265) : Ok (kX4_readPart s x1) (Q_kX4_readPart s) := ok_kX4_readPartB s s x1 hI_s FrK.rfl h_x1l h_x1u
noncomputable abbrev Q_kX10_years (s0 : YS) (y : Int32 × YS) : Prop := InvK y.2.x.k ∧ FrK [7, 113, 114] s0.x.k y.2.x.k ∧ InvG y.2.x.g ∧ -2147483648 ≤ y.1.toInt ∧ y.1.toInt ≤ 2147483647
set_option maxHeartbeats 1000000 in
theorem ok_kX10_yearsB (s0 : YS)  (s : YS) (x1 : Int32) (hI_s_x_k : InvK s.x.k) (hF_s_x_k : FrK [7, 113, 114] s0.x.k s.x.k) (hI_s_x_g : InvG s.x.g)  : Ok (kX10_years  s x1) (Q_kX10_years s0) := by
  unfold kX10_years
  refine ok_ite (fun c_1 => ?_) (fun c_1 => ?_)
  · have c_1 := tn_lt (a := (x1).toInt) (b := 0) rfl (by decide) c_1
    exact ok_some ⟨hI_s_x_k, hF_s_x_k, hI_s_x_g, (ti_rng _).1, (ti_rng _).2⟩
  · have c_1 := tn_nlt (a := (x1).toInt) (b := 0) rfl (by decide) c_1
    refine ok_ite (fun c_2 => ?_) (fun c_2 => ?_)
    · have c_2 := tn_le (a := (x1).toInt) (b := 40) rfl (by decide) c_2
      refine ok_ite (fun c_3 => ?_) (fun c_3 => ?_)
      · have c_3 := tn_le (a := (x1).toInt) (b := 0) rfl (by decide) c_3
        exact ok_some ⟨hI_s_x_k, hF_s_x_k, hI_s_x_g, (ti_rng _).1, (ti_rng _).2⟩
      · have c_3 := tn_nle (a := (x1).toInt) (b := 0) rfl (by decide) c_3
        refine ok_bindP (ok_kX3_remember _  hI_s_x_g) (fun s4 hc_4 => ?_)
        have hI_s4_g : InvG s4.g := hc_4
        refine ok_let (fun s5 hs5 => ?_)
        have hI_s5_x_k : InvK s5.x.k := by rw [← hs5]; exact hI_s_x_k
        have hF_s5_x_k : FrK [7, 113, 114] s0.x.k s5.x.k := by rw [← hs5]; exact hF_s_x_k
        have hI_s5_x_g : InvG s5.x.g := by rw [← hs5]; exact hI_s4_g
        refine ok_bindP (ok_kX0_passYears _ _ hI_s5_x_k (by omega) (by omega)) (fun s7 hc_5 => ?_)
        have hI_s7_k : InvK s7.k := hc_5.1
        have hFc_s7_k : FrK [7, 113, 114] s5.x.k s7.k := hc_5.2
        have hF_s7_k : FrK [7, 113, 114] s0.x.k s7.k := hF_s5_x_k.trans hFc_s7_k (by decide)
        refine ok_let (fun s8 hs8 => ?_)
        have hI_s8_x_k : InvK s8.x.k := by rw [← hs8]; exact hI_s7_k
        have hF_s8_x_k : FrK [7, 113, 114] s0.x.k s8.x.k := by rw [← hs8]; exact hF_s7_k
        have hI_s8_x_g : InvG s8.x.g := by rw [← hs8]; exact hI_s5_x_g
        exact ok_some ⟨hI_s8_x_k, hF_s8_x_k, hI_s8_x_g, (ti_rng _).1, (ti_rng _).2⟩
    · have c_2 := tn_nle (a := (x1).toInt) (b := 40) rfl (by decide) c_2
      exact ok_some ⟨hI_s_x_k, hF_s_x_k, hI_s_x_g, (ti_rng _).1, (ti_rng _).2⟩
theorem ok_kX10_years (s : YS) (x1 : Int32) (hI_s_x_k : InvK s.x.k) (hI_s_x_g : InvG s.x.g) : Ok (kX10_years s x1) (Q_kX10_years s) := ok_kX10_yearsB s s x1 hI_s_x_k FrK.rfl hI_s_x_g
noncomputable abbrev Q_kX10_likeliest (s0 : XS) (y : Int32 × XS) : Prop := InvK y.2.k ∧ FrK [7, 113, 114] s0.k y.2.k ∧ InvG y.2.g ∧ -2 ≤ y.1.toInt ∧ y.1.toInt ≤ 7775
set_option maxHeartbeats 1000000 in
theorem ok_kX10_likeliestB (s0 : XS)  (s : XS) (hI_s_k : InvK s.k) (hF_s_k : FrK [7, 113, 114] s0.k s.k) (hI_s_g : InvG s.g)  : Ok (kX10_likeliest  s) (Q_kX10_likeliest s0) := by
  unfold kX10_likeliest
  refine ok_bindI (ok_kX2_bestGuess _ _ hI_s_k (by decide) (by decide)) (fun r2 s1 hc_1 => ?_)
  have hI_s1_k : InvK s1.k := hc_1.1
  have hFc_s1_k : FrK [7, 113, 114] s.k s1.k := hc_1.2.1
  have hF_s1_k : FrK [7, 113, 114] s0.k s1.k := hF_s_k.trans hFc_s1_k (by decide)
  have hl_r2 : -2 ≤ r2.toInt := hc_1.2.2.1
  have hu_r2 : r2.toInt ≤ 7775 := hc_1.2.2.2.1
  have hx0_r2 : (¬ r2.toInt = -2 → 0 ≤ r2.toInt) := hc_1.2.2.2.2
  refine ok_let (fun s3 hs3 => ?_)
  have hI_s3_g : InvG s3.g := by rw [← hs3]; exact hI_s_g
  have hI_s3_k : InvK s3.k := by rw [← hs3]; exact hI_s1_k
  have hF_s3_k : FrK [7, 113, 114] s0.k s3.k := by rw [← hs3]; exact hF_s1_k
  exact ok_some ⟨hI_s3_k, hF_s3_k, hI_s3_g, by show -2 ≤ (r2).toInt; omega, by show (r2).toInt ≤ 7775; omega⟩
theorem ok_kX10_likeliest (s : XS) (hI_s_k : InvK s.k) (hI_s_g : InvG s.g) : Ok (kX10_likeliest s) (Q_kX10_likeliest s) := ok_kX10_likeliestB s s hI_s_k FrK.rfl hI_s_g
noncomputable abbrev Q_kX10_safest (s0 : XS) (y : Int32 × XS) : Prop := InvK y.2.k ∧ FrK [7, 113, 114] s0.k y.2.k ∧ InvG y.2.g ∧ -2 ≤ y.1.toInt ∧ y.1.toInt ≤ 7775
set_option maxHeartbeats 1000000 in
theorem ok_kX10_safestB (s0 : XS)  (s : XS) (x1 : Int32) (hI_s_k : InvK s.k) (hF_s_k : FrK [7, 113, 114] s0.k s.k) (hI_s_g : InvG s.g)  : Ok (kX10_safest  s x1) (Q_kX10_safest s0) := by
  unfold kX10_safest
  refine ok_bindI (ok_kX5_hasParty _ _ hI_s_k) (fun r2 s1 hc_1 => ?_)
  have hI_s1 : InvK s1 := hc_1.1
  have hFc_s1 : FrK [] s.k s1 := hc_1.2.1
  have hF_s1 : FrK [7, 113, 114] s0.k s1 := hF_s_k.trans hFc_s1 (by decide)
  have hl_r2 : 0 ≤ r2.toInt := hc_1.2.2.1
  have hu_r2 : r2.toInt ≤ 1 := hc_1.2.2.2.1
  have hx0_r2 : (¬ r2.toInt = 0 → 0 ≤ (x1).toInt ∧ (x1).toInt ≤ 5) := hc_1.2.2.2.2
  refine ok_let (fun s3 hs3 => ?_)
  have hI_s3_g : InvG s3.g := by rw [← hs3]; exact hI_s_g
  have hI_s3_k : InvK s3.k := by rw [← hs3]; exact hI_s1
  have hF_s3_k : FrK [7, 113, 114] s0.k s3.k := by rw [← hs3]; exact hF_s1
  refine ok_ite (fun c_2 => ?_) (fun c_2 => ?_)
  · have c_2 := tn_eq (a := (r2).toInt) (b := 0) rfl (by decide) c_2
    exact ok_some ⟨hI_s3_k, hF_s3_k, hI_s3_g, by show -2 ≤ ((-1) : Int32).toInt; decide, by show ((-1) : Int32).toInt ≤ 7775; decide⟩
  · have c_2 := tn_ne (a := (r2).toInt) (b := 0) rfl (by decide) c_2
    refine ok_bindI (ok_kX2_bestGuess _ _ hI_s3_k (by omega) (by omega)) (fun r7 s6 hc_3 => ?_)
    have hI_s6_k : InvK s6.k := hc_3.1
    have hFc_s6_k : FrK [7, 113, 114] s3.k s6.k := hc_3.2.1
    have hF_s6_k : FrK [7, 113, 114] s0.k s6.k := hF_s3_k.trans hFc_s6_k (by decide)
    have hl_r7 : -2 ≤ r7.toInt := hc_3.2.2.1
    have hu_r7 : r7.toInt ≤ 7775 := hc_3.2.2.2.1
    have hx0_r7 : (¬ r7.toInt = -2 → 0 ≤ r7.toInt) := hc_3.2.2.2.2
    refine ok_let (fun s8 hs8 => ?_)
    have hI_s8_g : InvG s8.g := by rw [← hs8]; exact hI_s3_g
    have hI_s8_k : InvK s8.k := by rw [← hs8]; exact hI_s6_k
    have hF_s8_k : FrK [7, 113, 114] s0.k s8.k := by rw [← hs8]; exact hF_s6_k
    exact ok_some ⟨hI_s8_k, hF_s8_k, hI_s8_g, by show -2 ≤ (r7).toInt; omega, by show (r7).toInt ≤ 7775; omega⟩
theorem ok_kX10_safest (s : XS) (x1 : Int32) (hI_s_k : InvK s.k) (hI_s_g : InvG s.g) : Ok (kX10_safest s x1) (Q_kX10_safest s) := ok_kX10_safestB s s x1 hI_s_k FrK.rfl hI_s_g
noncomputable abbrev Q_kX10_sure (s0 : XS) (y : Int32 × XS) : Prop := InvK y.2.k ∧ FrK [7, 113, 114] s0.k y.2.k ∧ InvG y.2.g ∧ -2147483648 ≤ y.1.toInt ∧ y.1.toInt ≤ 2147483647
set_option maxHeartbeats 1000000 in
theorem ok_kX10_sureB (s0 : XS)  (s : XS) (x1 : Int32) (x2 : Int32) (hI_s_k : InvK s.k) (hF_s_k : FrK [7, 113, 114] s0.k s.k) (hI_s_g : InvG s.g)  : Ok (kX10_sure  s x1 x2) (Q_kX10_sure s0) := by
  unfold kX10_sure
  refine ok_bindI (ok_kX10_isHere _ _ hI_s_k hI_s_g) (fun r2 s1 hc_1 => ?_)
  have hI_s1_k : InvK s1.k := hc_1.1
  have hFc_s1_k : FrK [] s.k s1.k := hc_1.2.1
  have hF_s1_k : FrK [7, 113, 114] s0.k s1.k := hF_s_k.trans hFc_s1_k (by decide)
  have hI_s1_g : InvG s1.g := hc_1.2.2.1
  have hl_r2 : 0 ≤ r2.toInt := hc_1.2.2.2.1
  have hu_r2 : r2.toInt ≤ 1 := hc_1.2.2.2.2.1
  have hx0_r2 : (¬ r2.toInt = 0 → 0 ≤ (x1).toInt ∧ (x1).toInt ≤ 5) := hc_1.2.2.2.2.2
  refine ok_ite (fun c_2 => ?_) (fun c_2 => ?_)
  · have c_2 := tn_eq (a := (r2).toInt) (b := 0) rfl (by decide) c_2
    exact ok_some ⟨hI_s1_k, hF_s1_k, hI_s1_g, (ti_rng _).1, (ti_rng _).2⟩
  · have c_2 := tn_ne (a := (r2).toInt) (b := 0) rfl (by decide) c_2
    have a_3 : 0 ≤ (s.k.v 1).toInt ∧ (s.k.v 1).toInt ≤ 5 := hI_s_k.1 1
    have a_4 : (s1.k.v 1).toInt = (s.k.v 1).toInt := congrArg Int32.toInt (hFc_s1_k.1 1 (by decide))
    refine ok_ite (fun c_5 => ?_) (fun c_5 => ?_)
    · have c_5 := tn_eq (a := ((s1.k.v 1)).toInt) (b := 0) rfl (by decide) c_5
      exact ok_some ⟨hI_s1_k, hF_s1_k, hI_s1_g, (ti_rng _).1, (ti_rng _).2⟩
    · have c_5 := tn_ne (a := ((s1.k.v 1)).toInt) (b := 0) rfl (by decide) c_5
      refine ok_ite (fun c_6 => ?_) (fun c_6 => ?_)
      · have c_6 := tn_lt (a := (x2).toInt) (b := 1) rfl (by decide) c_6
        exact ok_some ⟨hI_s1_k, hF_s1_k, hI_s1_g, (ti_rng _).1, (ti_rng _).2⟩
      · have c_6 := tn_nlt (a := (x2).toInt) (b := 1) rfl (by decide) c_6
        refine ok_ite (fun c_7 => ?_) (fun c_7 => ?_)
        · have c_7 := tn_le (a := (x2).toInt) (b := 8) rfl (by decide) c_7
          refine ok_bindP (ok_kX6_copyFrom _  ) (fun s7 hc_8 => ?_)
          refine ok_let (fun s8 hs8 => ?_)
          have hI_s8_g : InvG s8.g := by rw [← hs8]; exact hI_s1_g
          have hI_s8_k : InvK s8.k := by rw [← hs8]; exact hI_s1_k
          have hF_s8_k : FrK [7, 113, 114] s0.k s8.k := by rw [← hs8]; exact hF_s1_k
          refine ok_bindI (ok_kX2_oddsOverWithinR9 _ _ _ hI_s8_k (by omega) (by omega) (by omega) (by omega)) (fun r11 s10 hc_9 => ?_)
          have hI_s10_k : InvK s10.k := hc_9.1
          have hFc_s10_k : FrK [7, 113, 114] s8.k s10.k := hc_9.2.1
          have hF_s10_k : FrK [7, 113, 114] s0.k s10.k := hF_s8_k.trans hFc_s10_k (by decide)
          refine ok_let (fun s12 hs12 => ?_)
          have hI_s12_g : InvG s12.g := by rw [← hs12]; exact hI_s8_g
          have hI_s12_k : InvK s12.k := by rw [← hs12]; exact hI_s10_k
          have hF_s12_k : FrK [7, 113, 114] s0.k s12.k := by rw [← hs12]; exact hF_s10_k
          exact ok_some ⟨hI_s12_k, hF_s12_k, hI_s12_g, (ti_rng _).1, (ti_rng _).2⟩
        · have c_7 := tn_nle (a := (x2).toInt) (b := 8) rfl (by decide) c_7
          exact ok_some ⟨hI_s1_k, hF_s1_k, hI_s1_g, (ti_rng _).1, (ti_rng _).2⟩
theorem ok_kX10_sure (s : XS) (x1 : Int32) (x2 : Int32) (hI_s_k : InvK s.k) (hI_s_g : InvG s.g) : Ok (kX10_sure s x1 x2) (Q_kX10_sure s) := ok_kX10_sureB s s x1 x2 hI_s_k FrK.rfl hI_s_g
noncomputable abbrev Q_kX10_stuck (s0 : XS) (y : Int32 × XS) : Prop := InvK y.2.k ∧ FrK [7, 113, 114] s0.k y.2.k ∧ InvG y.2.g ∧ -2147483648 ≤ y.1.toInt ∧ y.1.toInt ≤ 2147483647
set_option maxHeartbeats 1000000 in
theorem ok_kX10_stuck_50 (s0 : XS) (k4 : XS → Int32 → Int32 → Option (Int32 × XS)) (M4 : Nat) (hk4 : ∀ (s : XS) (x1 : Int32) (x2 : Int32), InvK s.k → FrK [7, 113, 114] s0.k s.k → InvG s.g → 0 ≤ x2.toInt → x2.toInt ≤ 6 → (6 - x2.toInt).toNat < M4 → Ok (k4 s x1 x2) (Q_kX10_stuck s0)) (s : XS) (x1 : Int32) (x2 : Int32) (hI_s_k : InvK s.k) (hF_s_k : FrK [7, 113, 114] s0.k s.k) (hI_s_g : InvG s.g) (h_x2l : 0 ≤ x2.toInt) (h_x2u : x2.toInt ≤ 5) (hM4 : (6 - x2.toInt).toNat ≤ M4) : Ok (kX10_stuck_50 k4 s x1 x2) (Q_kX10_stuck s0) := by
  unfold kX10_stuck_50
  have a_1 : ((x2 + 1)).toInt = (x2).toInt + 1 := tn_add rfl (by decide) (by omega) (by omega)
  exact hk4 _ _ _ hI_s_k hF_s_k hI_s_g (by omega) (by omega) (by omega)
set_option maxHeartbeats 1000000 in
theorem ok_kX10_stuck_4 (s0 : XS) (k4 : XS → Int32 → Int32 → Option (Int32 × XS)) (M4 : Nat) (hk4 : ∀ (s : XS) (x1 : Int32) (x2 : Int32), InvK s.k → FrK [7, 113, 114] s0.k s.k → InvG s.g → 0 ≤ x2.toInt → x2.toInt ≤ 6 → (6 - x2.toInt).toNat < M4 → Ok (k4 s x1 x2) (Q_kX10_stuck s0)) (s : XS) (x1 : Int32) (x2 : Int32) (hI_s_k : InvK s.k) (hF_s_k : FrK [7, 113, 114] s0.k s.k) (hI_s_g : InvG s.g) (h_x2l : 0 ≤ x2.toInt) (h_x2u : x2.toInt ≤ 6) (hM4 : (6 - x2.toInt).toNat ≤ M4) : Ok (kX10_stuck_4 k4 s x1 x2) (Q_kX10_stuck s0) := by
  unfold kX10_stuck_4
  have a_1 : 0 ≤ (s.k.v 2).toInt ∧ (s.k.v 2).toInt ≤ 6 := hI_s_k.1 2
  refine ok_ite (fun c_2 => ?_) (fun c_2 => ?_)
  · have c_2 := tn_le (a := ((s.k.v 2)).toInt) (b := (x2).toInt) rfl rfl c_2
    exact ok_some ⟨hI_s_k, hF_s_k, hI_s_g, (ti_rng _).1, (ti_rng _).2⟩
  · have c_2 := tn_nle (a := ((s.k.v 2)).toInt) (b := (x2).toInt) rfl rfl c_2
    refine ok_grd (vpb_ok (by omega) (by omega)) ?_
    refine ok_ite (fun c_3 => ?_) (fun c_3 => ?_)
    · have c_3 := tn_eq (a := (((s.n.f 3) (Int32.toNatClampNeg x2))).toInt) (b := 0) rfl (by decide) c_3
      refine ok_bindI (ok_kX2_bestGuess _ _ hI_s_k (by omega) (by omega)) (fun r5 s4 hc_4 => ?_)
      have hI_s4_k : InvK s4.k := hc_4.1
      have hFc_s4_k : FrK [7, 113, 114] s.k s4.k := hc_4.2.1
      have hF_s4_k : FrK [7, 113, 114] s0.k s4.k := hF_s_k.trans hFc_s4_k (by decide)
      have hl_r5 : -2 ≤ r5.toInt := hc_4.2.2.1
      have hu_r5 : r5.toInt ≤ 7775 := hc_4.2.2.2.1
      have hx0_r5 : (¬ r5.toInt = -2 → 0 ≤ r5.toInt) := hc_4.2.2.2.2
      refine ok_let (fun s6 hs6 => ?_)
      have hI_s6_g : InvG s6.g := by rw [← hs6]; exact hI_s_g
      have hI_s6_k : InvK s6.k := by rw [← hs6]; exact hI_s4_k
      have hF_s6_k : FrK [7, 113, 114] s0.k s6.k := by rw [← hs6]; exact hF_s4_k
      refine ok_ite (fun c_5 => ?_) (fun c_5 => ?_)
      · have c_5 := tn_eq (a := (r5).toInt) (b := (-2)) rfl (by decide) c_5
        exact ok_kX10_stuck_50 s0 k4 M4 hk4 _ _ _ hI_s6_k hF_s6_k hI_s6_g (by omega) (by omega) (by omega)
      · have c_5 := tn_ne (a := (r5).toInt) (b := (-2)) rfl (by decide) c_5
        exact ok_kX10_stuck_50 s0 k4 M4 hk4 _ _ _ hI_s6_k hF_s6_k hI_s6_g (by omega) (by omega) (by omega)
    · have c_3 := tn_ne (a := (((s.n.f 3) (Int32.toNatClampNeg x2))).toInt) (b := 0) rfl (by decide) c_3
      exact ok_kX10_stuck_50 s0 k4 M4 hk4 _ _ _ hI_s_k hF_s_k hI_s_g (by omega) (by omega) (by omega)
theorem okL_kX10_stuck_4 (s0 : XS)  : ∀ (n : Nat) (s : XS) (x1 : Int32) (x2 : Int32), (6 - x2.toInt).toNat < n → InvK s.k → FrK [7, 113, 114] s0.k s.k → InvG s.g → 0 ≤ x2.toInt → x2.toInt ≤ 6 → Ok (kX10_stuck_4L  n s x1 x2) (Q_kX10_stuck s0) := by
  intro n
  induction n with
  | zero => intro s x1 x2 hn; omega
  | succ n ih =>
    intro s x1 x2 hn hI_s_k hF_s_k hI_s_g h_x2l h_x2u 
    exact ok_kX10_stuck_4 s0 (kX10_stuck_4L  n) ((6 - x2.toInt).toNat) (fun zs zx1 zx2 g0 g1 g2 g3 g4  hm => ih zs zx1 zx2 (by omega) g0 g1 g2 g3 g4 ) s x1 x2 hI_s_k hF_s_k hI_s_g h_x2l h_x2u (Nat.le_refl _)
set_option maxHeartbeats 1000000 in
theorem ok_kX10_stuckB (s0 : XS)  (s : XS) (hI_s_k : InvK s.k) (hF_s_k : FrK [7, 113, 114] s0.k s.k) (hI_s_g : InvG s.g)  : Ok (kX10_stuck  s) (Q_kX10_stuck s0) := by
  unfold kX10_stuck
  have l_0 : (0 : Int32).toInt = 0 := by decide
  exact okL_kX10_stuck_4 s0  fu _ _ _ (by unfold fu; omega) hI_s_k hF_s_k hI_s_g (by decide) (by decide) 
theorem ok_kX10_stuck (s : XS) (hI_s_k : InvK s.k) (hI_s_g : InvG s.g) : Ok (kX10_stuck s) (Q_kX10_stuck s) := ok_kX10_stuckB s s hI_s_k FrK.rfl hI_s_g
end
section
noncomputable abbrev Q_kX10_chosen (s0 : XS) (y : Int32 × XS) : Prop := InvK y.2.k ∧ FrK [7, 113, 114] s0.k y.2.k ∧ InvG y.2.g ∧ -2 ≤ y.1.toInt ∧ y.1.toInt ≤ 5
set_option maxHeartbeats 1000000 in
theorem ok_kX10_chosen_86 (s0 : XS) (k7 : XS → Int32 → Int32 → Int32 → Option (Int32 × XS)) (M7 : Nat) (hk7 : ∀ (s : XS) (x1 : Int32) (x2 : Int32) (x3 : Int32), InvK s.k → FrK [7, 113, 114] s0.k s.k → InvG s.g → -2 ≤ x1.toInt → x1.toInt ≤ 5 → 0 ≤ x2.toInt → 0 ≤ x3.toInt → x3.toInt ≤ 6 → (6 - x3.toInt).toNat < M7 → Ok (k7 s x1 x2 x3) (Q_kX10_chosen s0)) (s : XS) (x1 : Int32) (x2 : Int32) (x3 : Int32) (hI_s_k : InvK s.k) (hF_s_k : FrK [7, 113, 114] s0.k s.k) (hI_s_g : InvG s.g) (h_x1l : -2 ≤ x1.toInt) (h_x1u : x1.toInt ≤ 5) (h_x2l : 0 ≤ x2.toInt) (h_x3l : 0 ≤ x3.toInt) (h_x3u : x3.toInt ≤ 5) (hM7 : (6 - x3.toInt).toNat ≤ M7) : Ok (kX10_chosen_86 k7 s x1 x2 x3) (Q_kX10_chosen s0) := by
  unfold kX10_chosen_86
  have a_1 : ((x3 + 1)).toInt = (x3).toInt + 1 := tn_add rfl (by decide) (by omega) (by omega)
  exact hk7 _ _ _ _ hI_s_k hF_s_k hI_s_g (by omega) (by omega) (by omega) (by omega) (by omega) (by omega)
set_option maxHeartbeats 1000000 in
theorem ok_kX10_chosen_73 (s0 : XS) (k7 : XS → Int32 → Int32 → Int32 → Option (Int32 × XS)) (M7 : Nat) (hk7 : ∀ (s : XS) (x1 : Int32) (x2 : Int32) (x3 : Int32), InvK s.k → FrK [7, 113, 114] s0.k s.k → InvG s.g → -2 ≤ x1.toInt → x1.toInt ≤ 5 → 0 ≤ x2.toInt → 0 ≤ x3.toInt → x3.toInt ≤ 6 → (6 - x3.toInt).toNat < M7 → Ok (k7 s x1 x2 x3) (Q_kX10_chosen s0)) (s : XS) (x1 : Int32) (x2 : Int32) (x3 : Int32) (t0 : Int32) (hI_s_k : InvK s.k) (hF_s_k : FrK [7, 113, 114] s0.k s.k) (hI_s_g : InvG s.g) (h_x1l : -2 ≤ x1.toInt) (h_x1u : x1.toInt ≤ 5) (h_x2l : 0 ≤ x2.toInt) (h_x3l : 0 ≤ x3.toInt) (h_x3u : x3.toInt ≤ 5) (hM7 : (6 - x3.toInt).toNat ≤ M7) : Ok (kX10_chosen_73 k7 s x1 x2 x3 t0) (Q_kX10_chosen s0) := by
  unfold kX10_chosen_73
  refine ok_ite (fun c_1 => ?_) (fun c_1 => ?_)
  · have c_1 := tn_le (a := (t0).toInt) (b := (x2).toInt) rfl rfl c_1
    exact ok_kX10_chosen_86 s0 k7 M7 hk7 _ _ _ _ hI_s_k hF_s_k hI_s_g (by omega) (by omega) (by omega) (by omega) (by omega) (by omega)
  · have c_1 := tn_nle (a := (t0).toInt) (b := (x2).toInt) rfl rfl c_1
    exact ok_kX10_chosen_86 s0 k7 M7 hk7 _ _ _ _ hI_s_k hF_s_k hI_s_g (by omega) (by omega) (by omega) (by omega) (by omega) (by omega)
set_option maxHeartbeats 1000000 in
theorem ok_kX10_chosen_47 (s0 : XS) (k7 : XS → Int32 → Int32 → Int32 → Option (Int32 × XS)) (M7 : Nat) (hk7 : ∀ (s : XS) (x1 : Int32) (x2 : Int32) (x3 : Int32), InvK s.k → FrK [7, 113, 114] s0.k s.k → InvG s.g → -2 ≤ x1.toInt → x1.toInt ≤ 5 → 0 ≤ x2.toInt → 0 ≤ x3.toInt → x3.toInt ≤ 6 → (6 - x3.toInt).toNat < M7 → Ok (k7 s x1 x2 x3) (Q_kX10_chosen s0)) (s : XS) (x1 : Int32) (x2 : Int32) (x3 : Int32) (t0 : Int32) (hI_s_k : InvK s.k) (hF_s_k : FrK [7, 113, 114] s0.k s.k) (hI_s_g : InvG s.g) (h_x1l : -2 ≤ x1.toInt) (h_x1u : x1.toInt ≤ 5) (h_x2l : 0 ≤ x2.toInt) (h_x3l : 0 ≤ x3.toInt) (h_x3u : x3.toInt ≤ 5) (h_t0l : -2 ≤ t0.toInt) (h_t0u : t0.toInt ≤ 7775) (hx0 : (¬ t0.toInt = -2 → 0 ≤ t0.toInt)) (hM7 : (6 - x3.toInt).toNat ≤ M7) : Ok (kX10_chosen_47 k7 s x1 x2 x3 t0) (Q_kX10_chosen s0) := by
  unfold kX10_chosen_47
  refine ok_ite (fun c_1 => ?_) (fun c_1 => ?_)
  · have c_1 := tn_eq (a := (t0).toInt) (b := (-2)) rfl (by decide) c_1
    have l_0 : (0 : Int32).toInt = 0 := by decide
    exact ok_kX10_chosen_73 s0 k7 M7 hk7 _ _ _ _ _ hI_s_k hF_s_k hI_s_g (by first | (clear hx0; omega) | omega) (by first | (clear hx0; omega) | omega) (by first | (clear hx0; omega) | omega) (by first | (clear hx0; omega) | omega) (by first | (clear hx0; omega) | omega) (by first | (clear hx0; omega) | omega)
  · have c_1 := tn_ne (a := (t0).toInt) (b := (-2)) rfl (by decide) c_1
    refine ok_bindI (ok_kX2_oddsOf _ _ hI_s_k (by omega)) (fun r3 s2 hc_2 => ?_)
    have hI_s2_k : InvK s2.k := hc_2.1
    have hFc_s2_k : FrK [] s.k s2.k := hc_2.2.1
    have hF_s2_k : FrK [7, 113, 114] s0.k s2.k := hF_s_k.trans hFc_s2_k (by decide)
    refine ok_let (fun s4 hs4 => ?_)
    have hI_s4_g : InvG s4.g := by rw [← hs4]; exact hI_s_g
    have hI_s4_k : InvK s4.k := by rw [← hs4]; exact hI_s2_k
    have hF_s4_k : FrK [7, 113, 114] s0.k s4.k := by rw [← hs4]; exact hF_s2_k
    exact ok_kX10_chosen_73 s0 k7 M7 hk7 _ _ _ _ _ hI_s4_k hF_s4_k hI_s4_g (by first | (clear hx0; omega) | omega) (by first | (clear hx0; omega) | omega) (by first | (clear hx0; omega) | omega) (by first | (clear hx0; omega) | omega) (by first | (clear hx0; omega) | omega) (by first | (clear hx0; omega) | omega)
set_option maxHeartbeats 1000000 in
theorem ok_kX10_chosen_7 (s0 : XS) (k7 : XS → Int32 → Int32 → Int32 → Option (Int32 × XS)) (M7 : Nat) (hk7 : ∀ (s : XS) (x1 : Int32) (x2 : Int32) (x3 : Int32), InvK s.k → FrK [7, 113, 114] s0.k s.k → InvG s.g → -2 ≤ x1.toInt → x1.toInt ≤ 5 → 0 ≤ x2.toInt → 0 ≤ x3.toInt → x3.toInt ≤ 6 → (6 - x3.toInt).toNat < M7 → Ok (k7 s x1 x2 x3) (Q_kX10_chosen s0)) (s : XS) (x1 : Int32) (x2 : Int32) (x3 : Int32) (hI_s_k : InvK s.k) (hF_s_k : FrK [7, 113, 114] s0.k s.k) (hI_s_g : InvG s.g) (h_x1l : -2 ≤ x1.toInt) (h_x1u : x1.toInt ≤ 5) (h_x2l : 0 ≤ x2.toInt) (h_x3l : 0 ≤ x3.toInt) (h_x3u : x3.toInt ≤ 6) (hM7 : (6 - x3.toInt).toNat ≤ M7) : Ok (kX10_chosen_7 k7 s x1 x2 x3) (Q_kX10_chosen s0) := by
  unfold kX10_chosen_7
  have a_1 : 0 ≤ (s.k.v 2).toInt ∧ (s.k.v 2).toInt ≤ 6 := hI_s_k.1 2
  refine ok_ite (fun c_2 => ?_) (fun c_2 => ?_)
  · have c_2 := tn_le (a := ((s.k.v 2)).toInt) (b := (x3).toInt) rfl rfl c_2
    exact ok_some ⟨hI_s_k, hF_s_k, hI_s_g, by show -2 ≤ (x1).toInt; omega, by show (x1).toInt ≤ 5; omega⟩
  · have c_2 := tn_nle (a := ((s.k.v 2)).toInt) (b := (x3).toInt) rfl rfl c_2
    refine ok_grd (vpb_ok (by omega) (by omega)) ?_
    refine ok_ite (fun c_3 => ?_) (fun c_3 => ?_)
    · have c_3 := tn_eq (a := (((s.n.f 3) (Int32.toNatClampNeg x3))).toInt) (b := 0) rfl (by decide) c_3
      refine ok_bindI (ok_kX2_bestGuess _ _ hI_s_k (by omega) (by omega)) (fun r5 s4 hc_4 => ?_)
      have hI_s4_k : InvK s4.k := hc_4.1
      have hFc_s4_k : FrK [7, 113, 114] s.k s4.k := hc_4.2.1
      have hF_s4_k : FrK [7, 113, 114] s0.k s4.k := hF_s_k.trans hFc_s4_k (by decide)
      have hl_r5 : -2 ≤ r5.toInt := hc_4.2.2.1
      have hu_r5 : r5.toInt ≤ 7775 := hc_4.2.2.2.1
      have hx0_r5 : (¬ r5.toInt = -2 → 0 ≤ r5.toInt) := hc_4.2.2.2.2
      refine ok_let (fun s6 hs6 => ?_)
      have hI_s6_g : InvG s6.g := by rw [← hs6]; exact hI_s_g
      have hI_s6_k : InvK s6.k := by rw [← hs6]; exact hI_s4_k
      have hF_s6_k : FrK [7, 113, 114] s0.k s6.k := by rw [← hs6]; exact hF_s4_k
      exact ok_kX10_chosen_47 s0 k7 M7 hk7 _ _ _ _ _ hI_s6_k hF_s6_k hI_s6_g (by omega) (by omega) (by omega) (by omega) (by omega) (by omega) (by omega) (by omega) (by omega)
    · have c_3 := tn_ne (a := (((s.n.f 3) (Int32.toNatClampNeg x3))).toInt) (b := 0) rfl (by decide) c_3
      have l_m2 : ((-2) : Int32).toInt = -2 := by decide
      exact ok_kX10_chosen_47 s0 k7 M7 hk7 _ _ _ _ _ hI_s_k hF_s_k hI_s_g (by omega) (by omega) (by omega) (by omega) (by omega) (by decide) (by decide) (by omega) (by omega)
theorem okL_kX10_chosen_7 (s0 : XS)  : ∀ (n : Nat) (s : XS) (x1 : Int32) (x2 : Int32) (x3 : Int32), (6 - x3.toInt).toNat < n → InvK s.k → FrK [7, 113, 114] s0.k s.k → InvG s.g → -2 ≤ x1.toInt → x1.toInt ≤ 5 → 0 ≤ x2.toInt → 0 ≤ x3.toInt → x3.toInt ≤ 6 → Ok (kX10_chosen_7L  n s x1 x2 x3) (Q_kX10_chosen s0) := by
  intro n
  induction n with
  | zero => intro s x1 x2 x3 hn; omega
  | succ n ih =>
    intro s x1 x2 x3 hn hI_s_k hF_s_k hI_s_g h_x1l h_x1u h_x2l h_x3l h_x3u 
    exact ok_kX10_chosen_7 s0 (kX10_chosen_7L  n) ((6 - x3.toInt).toNat) (fun zs zx1 zx2 zx3 g0 g1 g2 g3 g4 g5 g6 g7  hm => ih zs zx1 zx2 zx3 (by omega) g0 g1 g2 g3 g4 g5 g6 g7 ) s x1 x2 x3 hI_s_k hF_s_k hI_s_g h_x1l h_x1u h_x2l h_x3l h_x3u (Nat.le_refl _)
set_option maxHeartbeats 1000000 in
theorem ok_kX10_chosenB (s0 : XS)  (s : XS) (hI_s_k : InvK s.k) (hF_s_k : FrK [7, 113, 114] s0.k s.k) (hI_s_g : InvG s.g)  : Ok (kX10_chosen  s) (Q_kX10_chosen s0) := by
  unfold kX10_chosen
  have l_m2 : ((-2) : Int32).toInt = -2 := by decide
  have l_0 : (0 : Int32).toInt = 0 := by decide
  exact okL_kX10_chosen_7 s0  fu _ _ _ _ (by unfold fu; omega) hI_s_k hF_s_k hI_s_g (by decide) (by decide) (by decide) (by decide) (by decide) 
theorem ok_kX10_chosen (s : XS) (hI_s_k : InvK s.k) (hI_s_g : InvG s.g) : Ok (kX10_chosen s) (Q_kX10_chosen s) := ok_kX10_chosenB s s hI_s_k FrK.rfl hI_s_g
noncomputable abbrev Q_kX10_allGo (s0 : XS) (y : Int32 × XS) : Prop := InvK y.2.k ∧ FrK [7, 113, 114] s0.k y.2.k ∧ InvG y.2.g ∧ -2147483648 ≤ y.1.toInt ∧ y.1.toInt ≤ 2147483647
set_option maxHeartbeats 1000000 in
theorem ok_kX10_allGo_136 (s0 : XS)  (s : XS) (t0 : Int32) (hI_s_k : InvK s.k) (hF_s_k : FrK [7, 113, 114] s0.k s.k) (hI_s_g : InvG s.g) (h_t0l : 1 ≤ t0.toInt) (h_t0u : t0.toInt ≤ 2)  : Ok (kX10_allGo_136  s t0) (Q_kX10_allGo s0) := by
  unfold kX10_allGo_136
  refine ok_bindI (ok_kX10_partiesThatAre_t _ _ hI_s_k hI_s_g (by omega) (by omega)) (fun r2 s1 hc_1 => ?_)
  have hI_s1_k : InvK s1.k := hc_1.1
  have hFc_s1_k : FrK [] s.k s1.k := hc_1.2.1
  have hF_s1_k : FrK [7, 113, 114] s0.k s1.k := hF_s_k.trans hFc_s1_k (by decide)
  have hI_s1_g : InvG s1.g := hc_1.2.2.1
  refine ok_bindP (ok_kJ6_bitCount_0f7a4 _ ) (fun r3 hc_2 => ?_)
  exact ok_some ⟨hI_s1_k, hF_s1_k, hI_s1_g, (ti_rng _).1, (ti_rng _).2⟩
set_option maxHeartbeats 1000000 in
theorem ok_kX10_allGo_95 (s0 : XS) (k24 : XS → Int32 → Int32 → Option (Int32 × XS)) (M24 : Nat) (hk24 : ∀ (s : XS) (x1 : Int32) (x2 : Int32), InvK s.k → FrK [7, 113, 114] s0.k s.k → InvG s.g → 0 ≤ x1.toInt → x1.toInt ≤ 2 → 0 ≤ x2.toInt → x2.toInt ≤ 6 → (6 - x2.toInt).toNat < M24 → Ok (k24 s x1 x2) (Q_kX10_allGo s0)) (s : XS) (x1 : Int32) (x2 : Int32) (hI_s_k : InvK s.k) (hF_s_k : FrK [7, 113, 114] s0.k s.k) (hI_s_g : InvG s.g) (h_x1l : 0 ≤ x1.toInt) (h_x1u : x1.toInt ≤ 2) (h_x2l : 0 ≤ x2.toInt) (h_x2u : x2.toInt ≤ 5) (hM24 : (6 - x2.toInt).toNat ≤ M24) : Ok (kX10_allGo_95 k24 s x1 x2) (Q_kX10_allGo s0) := by
  unfold kX10_allGo_95
  have a_1 : ((x2 + 1)).toInt = (x2).toInt + 1 := tn_add rfl (by decide) (by omega) (by omega)
  exact hk24 _ _ _ hI_s_k hF_s_k hI_s_g (by omega) (by omega) (by omega) (by omega) (by omega)
set_option maxHeartbeats 1000000 in
theorem ok_kX10_allGo_24 (s0 : XS) (k24 : XS → Int32 → Int32 → Option (Int32 × XS)) (M24 : Nat) (hk24 : ∀ (s : XS) (x1 : Int32) (x2 : Int32), InvK s.k → FrK [7, 113, 114] s0.k s.k → InvG s.g → 0 ≤ x1.toInt → x1.toInt ≤ 2 → 0 ≤ x2.toInt → x2.toInt ≤ 6 → (6 - x2.toInt).toNat < M24 → Ok (k24 s x1 x2) (Q_kX10_allGo s0)) (s : XS) (x1 : Int32) (x2 : Int32) (hI_s_k : InvK s.k) (hF_s_k : FrK [7, 113, 114] s0.k s.k) (hI_s_g : InvG s.g) (h_x1l : 0 ≤ x1.toInt) (h_x1u : x1.toInt ≤ 2) (h_x2l : 0 ≤ x2.toInt) (h_x2u : x2.toInt ≤ 6) (hM24 : (6 - x2.toInt).toNat ≤ M24) : Ok (kX10_allGo_24 k24 s x1 x2) (Q_kX10_allGo s0) := by
  unfold kX10_allGo_24
  have a_1 : 0 ≤ (s.k.v 2).toInt ∧ (s.k.v 2).toInt ≤ 6 := hI_s_k.1 2
  refine ok_ite (fun c_2 => ?_) (fun c_2 => ?_)
  · have c_2 := tn_le (a := ((s.k.v 2)).toInt) (b := (x2).toInt) rfl rfl c_2
    refine ok_ite (fun c_3 => ?_) (fun c_3 => ?_)
    · have c_3 := tn_eq (a := (x1).toInt) (b := 2) rfl (by decide) c_3
      exact ok_some ⟨hI_s_k, hF_s_k, hI_s_g, (ti_rng _).1, (ti_rng _).2⟩
    · have c_3 := tn_ne (a := (x1).toInt) (b := 2) rfl (by decide) c_3
      refine ok_ite (fun c_4 => ?_) (fun c_4 => ?_)
      · have c_4 := tn_eq (a := (x1).toInt) (b := 0) rfl (by decide) c_4
        have l_2 : (2 : Int32).toInt = 2 := by decide
        exact ok_kX10_allGo_136 s0  _ _ hI_s_k hF_s_k hI_s_g (by decide) (by decide) 
      · have c_4 := tn_ne (a := (x1).toInt) (b := 0) rfl (by decide) c_4
        have l_1 : (1 : Int32).toInt = 1 := by decide
        exact ok_kX10_allGo_136 s0  _ _ hI_s_k hF_s_k hI_s_g (by decide) (by decide) 
  · have c_2 := tn_nle (a := ((s.k.v 2)).toInt) (b := (x2).toInt) rfl rfl c_2
    refine ok_grd (vpb_ok (by omega) (by omega)) ?_
    refine ok_ite (fun c_5 => ?_) (fun c_5 => ?_)
    · have c_5 := tn_eq (a := (((s.t.f 3) (Int32.toNatClampNeg x2))).toInt) (b := 0) rfl (by decide) c_5
      refine ok_bindI (ok_kX0_isDaring _ _ hI_s_k (by omega) (by omega)) (fun r7 s6 hc_6 => ?_)
      have hI_s6_k : InvK s6.k := hc_6.1
      have hFc_s6_k : FrK [7, 113, 114] s.k s6.k := hc_6.2.1
      have hF_s6_k : FrK [7, 113, 114] s0.k s6.k := hF_s_k.trans hFc_s6_k (by decide)
      have hl_r7 : 0 ≤ r7.toInt := hc_6.2.2.1
      have hu_r7 : r7.toInt ≤ 1 := hc_6.2.2.2
      refine ok_let (fun s8 hs8 => ?_)
      have hI_s8_g : InvG s8.g := by rw [← hs8]; exact hI_s_g
      have hI_s8_k : InvK s8.k := by rw [← hs8]; exact hI_s6_k
      have hF_s8_k : FrK [7, 113, 114] s0.k s8.k := by rw [← hs8]; exact hF_s6_k
      refine ok_ite (fun c_7 => ?_) (fun c_7 => ?_)
      · have c_7 := tn_eq (a := (r7).toInt) (b := 0) rfl (by decide) c_7
        exact ok_kX10_allGo_95 s0 k24 M24 hk24 _ _ _ hI_s8_k hF_s8_k hI_s8_g (by omega) (by omega) (by omega) (by omega) (by omega)
      · have c_7 := tn_ne (a := (r7).toInt) (b := 0) rfl (by decide) c_7
        refine ok_bindI (ok_kX2_bestGuess _ _ hI_s8_k (by omega) (by omega)) (fun r12 s11 hc_8 => ?_)
        have hI_s11_k : InvK s11.k := hc_8.1
        have hFc_s11_k : FrK [7, 113, 114] s8.k s11.k := hc_8.2.1
        have hF_s11_k : FrK [7, 113, 114] s0.k s11.k := hF_s8_k.trans hFc_s11_k (by decide)
        have hl_r12 : -2 ≤ r12.toInt := hc_8.2.2.1
        have hu_r12 : r12.toInt ≤ 7775 := hc_8.2.2.2.1
        have hx0_r12 : (¬ r12.toInt = -2 → 0 ≤ r12.toInt) := hc_8.2.2.2.2
        refine ok_let (fun s13 hs13 => ?_)
        have hI_s13_g : InvG s13.g := by rw [← hs13]; exact hI_s8_g
        have hI_s13_k : InvK s13.k := by rw [← hs13]; exact hI_s11_k
        have hF_s13_k : FrK [7, 113, 114] s0.k s13.k := by rw [← hs13]; exact hF_s11_k
        refine ok_ite (fun c_9 => ?_) (fun c_9 => ?_)
        · have c_9 := tn_eq (a := (r12).toInt) (b := (-2)) rfl (by decide) c_9
          exact ok_kX10_allGo_95 s0 k24 M24 hk24 _ _ _ hI_s13_k hF_s13_k hI_s13_g (by omega) (by omega) (by omega) (by omega) (by omega)
        · have c_9 := tn_ne (a := (r12).toInt) (b := (-2)) rfl (by decide) c_9
          refine ok_bindI (ok_kX0_sendBy _ _ _ hI_s13_k (by omega) (by omega) (by omega)) (fun r17 s16 hc_10 => ?_)
          have hI_s16_k : InvK s16.k := hc_10.1
          have hFc_s16_k : FrK [7, 113, 114] s13.k s16.k := hc_10.2.1
          have hF_s16_k : FrK [7, 113, 114] s0.k s16.k := hF_s13_k.trans hFc_s16_k (by decide)
          refine ok_let (fun s18 hs18 => ?_)
          have hI_s18_g : InvG s18.g := by rw [← hs18]; exact hI_s13_g
          have hI_s18_k : InvK s18.k := by rw [← hs18]; exact hI_s16_k
          have hF_s18_k : FrK [7, 113, 114] s0.k s18.k := by rw [← hs18]; exact hF_s16_k
          exact ok_kX10_allGo_95 s0 k24 M24 hk24 _ _ _ hI_s18_k hF_s18_k hI_s18_g (by omega) (by omega) (by omega) (by omega) (by omega)
    · have c_5 := tn_ne (a := (((s.t.f 3) (Int32.toNatClampNeg x2))).toInt) (b := 0) rfl (by decide) c_5
      exact ok_kX10_allGo_95 s0 k24 M24 hk24 _ _ _ hI_s_k hF_s_k hI_s_g (by omega) (by omega) (by omega) (by omega) (by omega)
theorem okL_kX10_allGo_24 (s0 : XS)  : ∀ (n : Nat) (s : XS) (x1 : Int32) (x2 : Int32), (6 - x2.toInt).toNat < n → InvK s.k → FrK [7, 113, 114] s0.k s.k → InvG s.g → 0 ≤ x1.toInt → x1.toInt ≤ 2 → 0 ≤ x2.toInt → x2.toInt ≤ 6 → Ok (kX10_allGo_24L  n s x1 x2) (Q_kX10_allGo s0) := by
  intro n
  induction n with
  | zero => intro s x1 x2 hn; omega
  | succ n ih =>
    intro s x1 x2 hn hI_s_k hF_s_k hI_s_g h_x1l h_x1u h_x2l h_x2u 
    exact ok_kX10_allGo_24 s0 (kX10_allGo_24L  n) ((6 - x2.toInt).toNat) (fun zs zx1 zx2 g0 g1 g2 g3 g4 g5 g6  hm => ih zs zx1 zx2 (by omega) g0 g1 g2 g3 g4 g5 g6 ) s x1 x2 hI_s_k hF_s_k hI_s_g h_x1l h_x1u h_x2l h_x2u (Nat.le_refl _)
set_option maxHeartbeats 1000000 in
theorem ok_kX10_allGoB (s0 : XS)  (s : XS) (x1 : Int32) (hI_s_k : InvK s.k) (hF_s_k : FrK [7, 113, 114] s0.k s.k) (hI_s_g : InvG s.g)  : Ok (kX10_allGo  s x1) (Q_kX10_allGo s0) := by
  unfold kX10_allGo
  refine ok_ite (fun c_1 => ?_) (fun c_1 => ?_)
  · have c_1 := tn_lt (a := (x1).toInt) (b := 0) rfl (by decide) c_1
    exact ok_some ⟨hI_s_k, hF_s_k, hI_s_g, (ti_rng _).1, (ti_rng _).2⟩
  · have c_1 := tn_nlt (a := (x1).toInt) (b := 0) rfl (by decide) c_1
    refine ok_ite (fun c_2 => ?_) (fun c_2 => ?_)
    · have c_2 := tn_le (a := (x1).toInt) (b := 2) rfl (by decide) c_2
      refine ok_bindP (ok_kX6_copyFrom _  ) (fun s3 hc_3 => ?_)
      refine ok_let (fun s4 hs4 => ?_)
      have hI_s4_g : InvG s4.g := by rw [← hs4]; exact hI_s_g
      have hI_s4_k : InvK s4.k := by rw [← hs4]; exact hI_s_k
      have hF_s4_k : FrK [7, 113, 114] s0.k s4.k := by rw [← hs4]; exact hF_s_k
      have l_0 : (0 : Int32).toInt = 0 := by decide
      exact okL_kX10_allGo_24 s0  fu _ _ _ (by unfold fu; omega) hI_s4_k hF_s4_k hI_s4_g (by omega) (by omega) (by decide) (by decide) 
    · have c_2 := tn_nle (a := (x1).toInt) (b := 2) rfl (by decide) c_2
      exact ok_some ⟨hI_s_k, hF_s_k, hI_s_g, (ti_rng _).1, (ti_rng _).2⟩
theorem ok_kX10_allGo (s : XS) (x1 : Int32) (hI_s_k : InvK s.k) (hI_s_g : InvG s.g) : Ok (kX10_allGo s x1) (Q_kX10_allGo s) := ok_kX10_allGoB s s x1 hI_s_k FrK.rfl hI_s_g
noncomputable abbrev Q_kX10_then (s0 : XS) (y : Int32 × XS) : Prop := InvK y.2.k ∧ FrK [7, 113, 114] s0.k y.2.k ∧ InvG y.2.g ∧ -2147483648 ≤ y.1.toInt ∧ y.1.toInt ≤ 2147483647
set_option maxHeartbeats 1000000 in
theorem ok_kX10_thenB (s0 : XS)  (s : XS) (x1 : Int32) (x2 : Int32) (x3 : Int32) (hI_s_k : InvK s.k) (hF_s_k : FrK [7, 113, 114] s0.k s.k) (hI_s_g : InvG s.g)  : Ok (kX10_then  s x1 x2 x3) (Q_kX10_then s0) := by
  unfold kX10_then
  refine ok_bindI (ok_kX5_hasWave _ _ hI_s_k) (fun r2 s1 hc_1 => ?_)
  have hI_s1 : InvK s1 := hc_1.1
  have hFc_s1 : FrK [] s.k s1 := hc_1.2.1
  have hF_s1 : FrK [7, 113, 114] s0.k s1 := hF_s_k.trans hFc_s1 (by decide)
  have hl_r2 : 0 ≤ r2.toInt := hc_1.2.2.1
  have hu_r2 : r2.toInt ≤ 1 := hc_1.2.2.2.1
  have hx0_r2 : (¬ r2.toInt = 0 → 0 ≤ (x1).toInt ∧ (x1).toInt ≤ 4) := hc_1.2.2.2.2
  refine ok_let (fun s3 hs3 => ?_)
  have hI_s3_g : InvG s3.g := by rw [← hs3]; exact hI_s_g
  have hI_s3_k : InvK s3.k := by rw [← hs3]; exact hI_s1
  have hF_s3_k : FrK [7, 113, 114] s0.k s3.k := by rw [← hs3]; exact hF_s1
  refine ok_ite (fun c_2 => ?_) (fun c_2 => ?_)
  · have c_2 := tn_eq (a := (r2).toInt) (b := 0) rfl (by decide) c_2
    exact ok_some ⟨hI_s3_k, hF_s3_k, hI_s3_g, (ti_rng _).1, (ti_rng _).2⟩
  · have c_2 := tn_ne (a := (r2).toInt) (b := 0) rfl (by decide) c_2
    refine ok_ite (fun c_3 => ?_) (fun c_3 => ?_)
    · have c_3 := tn_lt (a := (x2).toInt) (b := 0) rfl (by decide) c_3
      exact ok_some ⟨hI_s3_k, hF_s3_k, hI_s3_g, (ti_rng _).1, (ti_rng _).2⟩
    · have c_3 := tn_nlt (a := (x2).toInt) (b := 0) rfl (by decide) c_3
      refine ok_ite (fun c_4 => ?_) (fun c_4 => ?_)
      · have c_4 := tn_le (a := (x2).toInt) (b := 40) rfl (by decide) c_4
        refine ok_bindP (ok_kX6_copyFrom _  ) (fun s8 hc_5 => ?_)
        refine ok_let (fun s9 hs9 => ?_)
        have hI_s9_g : InvG s9.g := by rw [← hs9]; exact hI_s3_g
        have hI_s9_k : InvK s9.k := by rw [← hs9]; exact hI_s3_k
        have hF_s9_k : FrK [7, 113, 114] s0.k s9.k := by rw [← hs9]; exact hF_s3_k
        refine ok_bindP (ok_kX0_passYears _ _ hI_s9_k (by omega) (by omega)) (fun s11 hc_6 => ?_)
        have hI_s11_k : InvK s11.k := hc_6.1
        have hFc_s11_k : FrK [7, 113, 114] s9.k s11.k := hc_6.2
        have hF_s11_k : FrK [7, 113, 114] s0.k s11.k := hF_s9_k.trans hFc_s11_k (by decide)
        refine ok_let (fun s12 hs12 => ?_)
        have hI_s12_g : InvG s12.g := by rw [← hs12]; exact hI_s9_g
        have hI_s12_k : InvK s12.k := by rw [← hs12]; exact hI_s11_k
        have hF_s12_k : FrK [7, 113, 114] s0.k s12.k := by rw [← hs12]; exact hF_s11_k
        refine ok_ite (fun c_7 => ?_) (fun c_7 => ?_)
        · have c_7 := tn_eq (a := (x3).toInt) (b := 0) rfl (by decide) c_7
          refine ok_bindI (ok_kX0_mayBe _ _ hI_s12_k (by omega) (by omega)) (fun r16 s15 hc_8 => ?_)
          have hI_s15_k : InvK s15.k := hc_8.1
          have hFc_s15_k : FrK [] s12.k s15.k := hc_8.2.1
          have hF_s15_k : FrK [7, 113, 114] s0.k s15.k := hF_s12_k.trans hFc_s15_k (by decide)
          refine ok_let (fun s17 hs17 => ?_)
          have hI_s17_g : InvG s17.g := by rw [← hs17]; exact hI_s12_g
          have hI_s17_k : InvK s17.k := by rw [← hs17]; exact hI_s15_k
          have hF_s17_k : FrK [7, 113, 114] s0.k s17.k := by rw [← hs17]; exact hF_s15_k
          exact ok_some ⟨hI_s17_k, hF_s17_k, hI_s17_g, (ti_rng _).1, (ti_rng _).2⟩
        · have c_7 := tn_ne (a := (x3).toInt) (b := 0) rfl (by decide) c_7
          refine ok_ite (fun c_9 => ?_) (fun c_9 => ?_)
          · have c_9 := tn_eq (a := (x3).toInt) (b := 1) rfl (by decide) c_9
            refine ok_grd (vpb_ok (by omega) (by omega)) ?_
            exact ok_some ⟨hI_s12_k, hF_s12_k, hI_s12_g, (ti_rng _).1, (ti_rng _).2⟩
          · have c_9 := tn_ne (a := (x3).toInt) (b := 1) rfl (by decide) c_9
            refine ok_ite (fun c_10 => ?_) (fun c_10 => ?_)
            · have c_10 := tn_eq (a := (x3).toInt) (b := 2) rfl (by decide) c_10
              refine ok_bindI (ok_kX0_thereNow _ _ hI_s12_k (by omega) (by omega)) (fun r23 s22 hc_11 => ?_)
              have hI_s22_k : InvK s22.k := hc_11.1
              have hFc_s22_k : FrK [] s12.k s22.k := hc_11.2.1
              have hF_s22_k : FrK [7, 113, 114] s0.k s22.k := hF_s12_k.trans hFc_s22_k (by decide)
              have hl_r23 : 0 ≤ r23.toInt := hc_11.2.2.1
              have hu_r23 : r23.toInt ≤ 5 := hc_11.2.2.2
              refine ok_let (fun s24 hs24 => ?_)
              have hI_s24_g : InvG s24.g := by rw [← hs24]; exact hI_s12_g
              have hI_s24_k : InvK s24.k := by rw [← hs24]; exact hI_s22_k
              have hF_s24_k : FrK [7, 113, 114] s0.k s24.k := by rw [← hs24]; exact hF_s22_k
              exact ok_some ⟨hI_s24_k, hF_s24_k, hI_s24_g, (ti_rng _).1, (ti_rng _).2⟩
            · have c_10 := tn_ne (a := (x3).toInt) (b := 2) rfl (by decide) c_10
              exact ok_some ⟨hI_s12_k, hF_s12_k, hI_s12_g, (ti_rng _).1, (ti_rng _).2⟩
      · have c_4 := tn_nle (a := (x2).toInt) (b := 40) rfl (by decide) c_4
        exact ok_some ⟨hI_s3_k, hF_s3_k, hI_s3_g, (ti_rng _).1, (ti_rng _).2⟩
theorem ok_kX10_then (s : XS) (x1 : Int32) (x2 : Int32) (x3 : Int32) (hI_s_k : InvK s.k) (hI_s_g : InvG s.g) : Ok (kX10_then s x1 x2 x3) (Q_kX10_then s) := ok_kX10_thenB s s x1 x2 x3 hI_s_k FrK.rfl hI_s_g
noncomputable abbrev Q_kX10_next (s0 : XS) (y : Int32 × XS) : Prop := InvK y.2.k ∧ FrK [7, 113, 114] s0.k y.2.k ∧ InvG y.2.g ∧ -2 ≤ y.1.toInt ∧ y.1.toInt ≤ 40
set_option maxHeartbeats 1000000 in
theorem ok_kX10_next_26 (s0 : XS) (k26 : XS → Int32 → Int32 → Option (Int32 × XS)) (M26 : Nat) (hk26 : ∀ (s : XS) (x1 : Int32) (x2 : Int32), InvK s.k → FrK [7, 113, 114] s0.k s.k → InvG s.g → 0 ≤ x1.toInt → x1.toInt ≤ 4 → 1 ≤ x2.toInt → x2.toInt ≤ 41 → (41 - x2.toInt).toNat < M26 → Ok (k26 s x1 x2) (Q_kX10_next s0)) (s : XS) (x1 : Int32) (x2 : Int32) (hI_s_k : InvK s.k) (hF_s_k : FrK [7, 113, 114] s0.k s.k) (hI_s_g : InvG s.g) (h_x1l : 0 ≤ x1.toInt) (h_x1u : x1.toInt ≤ 4) (h_x2l : 1 ≤ x2.toInt) (h_x2u : x2.toInt ≤ 41) (hM26 : (41 - x2.toInt).toNat ≤ M26) : Ok (kX10_next_26 k26 s x1 x2) (Q_kX10_next s0) := by
  unfold kX10_next_26
  refine ok_ite (fun c_1 => ?_) (fun c_1 => ?_)
  · have c_1 := tn_lt (a := 40) (b := (x2).toInt) (by decide) rfl c_1
    exact ok_some ⟨hI_s_k, hF_s_k, hI_s_g, by show -2 ≤ ((-2) : Int32).toInt; decide, by show ((-2) : Int32).toInt ≤ 40; decide⟩
  · have c_1 := tn_nlt (a := 40) (b := (x2).toInt) (by decide) rfl c_1
    refine ok_bindP (ok_kX0_passYears _ _ hI_s_k (by decide) (by decide)) (fun s2 hc_2 => ?_)
    have hI_s2_k : InvK s2.k := hc_2.1
    have hFc_s2_k : FrK [7, 113, 114] s.k s2.k := hc_2.2
    have hF_s2_k : FrK [7, 113, 114] s0.k s2.k := hF_s_k.trans hFc_s2_k (by decide)
    refine ok_let (fun s3 hs3 => ?_)
    have hI_s3_g : InvG s3.g := by rw [← hs3]; exact hI_s_g
    have hI_s3_k : InvK s3.k := by rw [← hs3]; exact hI_s2_k
    have hF_s3_k : FrK [7, 113, 114] s0.k s3.k := by rw [← hs3]; exact hF_s2_k
    refine ok_grd (vpb_ok (by omega) (by omega)) ?_
    refine ok_grd (vpb_ok (by omega) (by omega)) ?_
    refine ok_ite (fun c_3 => ?_) (fun c_3 => ?_)
    · have c_3 := tn_eq (a := (((s3.t.f 2) (Int32.toNatClampNeg x1))).toInt) (b := (((s3.n.f 2) (Int32.toNatClampNeg x1))).toInt) rfl rfl c_3
      have a_4 : ((x2 + 1)).toInt = (x2).toInt + 1 := tn_add rfl (by decide) (by omega) (by omega)
      exact hk26 _ _ _ hI_s3_k hF_s3_k hI_s3_g (by omega) (by omega) (by omega) (by omega) (by omega)
    · have c_3 := tn_ne (a := (((s3.t.f 2) (Int32.toNatClampNeg x1))).toInt) (b := (((s3.n.f 2) (Int32.toNatClampNeg x1))).toInt) rfl rfl c_3
      exact ok_some ⟨hI_s3_k, hF_s3_k, hI_s3_g, by show -2 ≤ (x2).toInt; omega, by show (x2).toInt ≤ 40; omega⟩
theorem okL_kX10_next_26 (s0 : XS)  : ∀ (n : Nat) (s : XS) (x1 : Int32) (x2 : Int32), (41 - x2.toInt).toNat < n → InvK s.k → FrK [7, 113, 114] s0.k s.k → InvG s.g → 0 ≤ x1.toInt → x1.toInt ≤ 4 → 1 ≤ x2.toInt → x2.toInt ≤ 41 → Ok (kX10_next_26L  n s x1 x2) (Q_kX10_next s0) := by
  intro n
  induction n with
  | zero => intro s x1 x2 hn; omega
  | succ n ih =>
    intro s x1 x2 hn hI_s_k hF_s_k hI_s_g h_x1l h_x1u h_x2l h_x2u 
    exact ok_kX10_next_26 s0 (kX10_next_26L  n) ((41 - x2.toInt).toNat) (fun zs zx1 zx2 g0 g1 g2 g3 g4 g5 g6  hm => ih zs zx1 zx2 (by omega) g0 g1 g2 g3 g4 g5 g6 ) s x1 x2 hI_s_k hF_s_k hI_s_g h_x1l h_x1u h_x2l h_x2u (Nat.le_refl _)
set_option maxHeartbeats 1000000 in
theorem ok_kX10_nextB (s0 : XS)  (s : XS) (x1 : Int32) (hI_s_k : InvK s.k) (hF_s_k : FrK [7, 113, 114] s0.k s.k) (hI_s_g : InvG s.g)  : Ok (kX10_next  s x1) (Q_kX10_next s0) := by
  unfold kX10_next
  refine ok_bindI (ok_kX5_hasWave _ _ hI_s_k) (fun r2 s1 hc_1 => ?_)
  have hI_s1 : InvK s1 := hc_1.1
  have hFc_s1 : FrK [] s.k s1 := hc_1.2.1
  have hF_s1 : FrK [7, 113, 114] s0.k s1 := hF_s_k.trans hFc_s1 (by decide)
  have hl_r2 : 0 ≤ r2.toInt := hc_1.2.2.1
  have hu_r2 : r2.toInt ≤ 1 := hc_1.2.2.2.1
  have hx0_r2 : (¬ r2.toInt = 0 → 0 ≤ (x1).toInt ∧ (x1).toInt ≤ 4) := hc_1.2.2.2.2
  refine ok_let (fun s3 hs3 => ?_)
  have hI_s3_g : InvG s3.g := by rw [← hs3]; exact hI_s_g
  have hI_s3_k : InvK s3.k := by rw [← hs3]; exact hI_s1
  have hF_s3_k : FrK [7, 113, 114] s0.k s3.k := by rw [← hs3]; exact hF_s1
  refine ok_ite (fun c_2 => ?_) (fun c_2 => ?_)
  · have c_2 := tn_eq (a := (r2).toInt) (b := 0) rfl (by decide) c_2
    exact ok_some ⟨hI_s3_k, hF_s3_k, hI_s3_g, by show -2 ≤ ((-1) : Int32).toInt; decide, by show ((-1) : Int32).toInt ≤ 40; decide⟩
  · have c_2 := tn_ne (a := (r2).toInt) (b := 0) rfl (by decide) c_2
    refine ok_bindP (ok_kX6_copyFrom _  ) (fun s6 hc_3 => ?_)
    refine ok_let (fun s7 hs7 => ?_)
    have hI_s7_g : InvG s7.g := by rw [← hs7]; exact hI_s3_g
    have hI_s7_k : InvK s7.k := by rw [← hs7]; exact hI_s3_k
    have hF_s7_k : FrK [7, 113, 114] s0.k s7.k := by rw [← hs7]; exact hF_s3_k
    have l_1 : (1 : Int32).toInt = 1 := by decide
    exact okL_kX10_next_26 s0  fu _ _ _ (by unfold fu; omega) hI_s7_k hF_s7_k hI_s7_g (by omega) (by omega) (by decide) (by decide) 
theorem ok_kX10_next (s : XS) (x1 : Int32) (hI_s_k : InvK s.k) (hI_s_g : InvG s.g) : Ok (kX10_next s x1) (Q_kX10_next s) := ok_kX10_nextB s s x1 hI_s_k FrK.rfl hI_s_g
noncomputable abbrev Q_kX10_count (s0 : XS) (y : Int32 × XS) : Prop := InvK y.2.k ∧ FrK [7, 113, 114] s0.k y.2.k ∧ InvG y.2.g ∧ -2147483648 ≤ y.1.toInt ∧ y.1.toInt ≤ 2147483647
set_option maxHeartbeats 1000000 in
theorem ok_kX10_countB (s0 : XS)  (s : XS) (x1 : Int32) (hI_s_k : InvK s.k) (hF_s_k : FrK [7, 113, 114] s0.k s.k) (hI_s_g : InvG s.g)  : Ok (kX10_count  s x1) (Q_kX10_count s0) := by
  unfold kX10_count
  refine ok_ite (fun c_1 => ?_) (fun c_1 => ?_)
  · have c_1 := tn_eq (a := (x1).toInt) (b := 0) rfl (by decide) c_1
    have a_2 : 0 ≤ (s.k.v 1).toInt ∧ (s.k.v 1).toInt ≤ 5 := hI_s_k.1 1
    exact ok_some ⟨hI_s_k, hF_s_k, hI_s_g, (ti_rng _).1, (ti_rng _).2⟩
  · have c_1 := tn_ne (a := (x1).toInt) (b := 0) rfl (by decide) c_1
    refine ok_ite (fun c_3 => ?_) (fun c_3 => ?_)
    · have c_3 := tn_eq (a := (x1).toInt) (b := 1) rfl (by decide) c_3
      have a_4 : 0 ≤ (s.k.v 2).toInt ∧ (s.k.v 2).toInt ≤ 6 := hI_s_k.1 2
      exact ok_some ⟨hI_s_k, hF_s_k, hI_s_g, (ti_rng _).1, (ti_rng _).2⟩
    · have c_3 := tn_ne (a := (x1).toInt) (b := 1) rfl (by decide) c_3
      refine ok_ite (fun c_5 => ?_) (fun c_5 => ?_)
      · have c_5 := tn_eq (a := (x1).toInt) (b := 2) rfl (by decide) c_5
        exact ok_some ⟨hI_s_k, hF_s_k, hI_s_g, (ti_rng _).1, (ti_rng _).2⟩
      · have c_5 := tn_ne (a := (x1).toInt) (b := 2) rfl (by decide) c_5
        refine ok_ite (fun c_6 => ?_) (fun c_6 => ?_)
        · have c_6 := tn_eq (a := (x1).toInt) (b := 3) rfl (by decide) c_6
          exact ok_some ⟨hI_s_k, hF_s_k, hI_s_g, (ti_rng _).1, (ti_rng _).2⟩
        · have c_6 := tn_ne (a := (x1).toInt) (b := 3) rfl (by decide) c_6
          refine ok_ite (fun c_7 => ?_) (fun c_7 => ?_)
          · have c_7 := tn_eq (a := (x1).toInt) (b := 4) rfl (by decide) c_7
            refine ok_bindI (ok_kX10_partiesThatAre _ _ hI_s_k hI_s_g (by decide) (by decide)) (fun r7 s6 hc_8 => ?_)
            have hI_s6_k : InvK s6.k := hc_8.1
            have hFc_s6_k : FrK [] s.k s6.k := hc_8.2.1
            have hF_s6_k : FrK [7, 113, 114] s0.k s6.k := hF_s_k.trans hFc_s6_k (by decide)
            have hI_s6_g : InvG s6.g := hc_8.2.2.1
            exact ok_some ⟨hI_s6_k, hF_s6_k, hI_s6_g, (ti_rng _).1, (ti_rng _).2⟩
          · have c_7 := tn_ne (a := (x1).toInt) (b := 4) rfl (by decide) c_7
            refine ok_ite (fun c_9 => ?_) (fun c_9 => ?_)
            · have c_9 := tn_eq (a := (x1).toInt) (b := 5) rfl (by decide) c_9
              refine ok_bindI (ok_kX10_partiesThatAre _ _ hI_s_k hI_s_g (by decide) (by decide)) (fun r10 s9 hc_10 => ?_)
              have hI_s9_k : InvK s9.k := hc_10.1
              have hFc_s9_k : FrK [] s.k s9.k := hc_10.2.1
              have hF_s9_k : FrK [7, 113, 114] s0.k s9.k := hF_s_k.trans hFc_s9_k (by decide)
              have hI_s9_g : InvG s9.g := hc_10.2.2.1
              exact ok_some ⟨hI_s9_k, hF_s9_k, hI_s9_g, (ti_rng _).1, (ti_rng _).2⟩
            · have c_9 := tn_ne (a := (x1).toInt) (b := 5) rfl (by decide) c_9
              refine ok_ite (fun c_11 => ?_) (fun c_11 => ?_)
              · have c_11 := tn_eq (a := (x1).toInt) (b := 6) rfl (by decide) c_11
                refine ok_bindI (ok_kX10_partiesThatAre _ _ hI_s_k hI_s_g (by decide) (by decide)) (fun r13 s12 hc_12 => ?_)
                have hI_s12_k : InvK s12.k := hc_12.1
                have hFc_s12_k : FrK [] s.k s12.k := hc_12.2.1
                have hF_s12_k : FrK [7, 113, 114] s0.k s12.k := hF_s_k.trans hFc_s12_k (by decide)
                have hI_s12_g : InvG s12.g := hc_12.2.2.1
                exact ok_some ⟨hI_s12_k, hF_s12_k, hI_s12_g, (ti_rng _).1, (ti_rng _).2⟩
              · have c_11 := tn_ne (a := (x1).toInt) (b := 6) rfl (by decide) c_11
                refine ok_ite (fun c_13 => ?_) (fun c_13 => ?_)
                · have c_13 := tn_eq (a := (x1).toInt) (b := 7) rfl (by decide) c_13
                  refine ok_bindI (ok_kX10_sumOf_6 _  ) (fun r16 s15 hc_14 => ?_)
                  refine ok_let (fun s17 hs17 => ?_)
                  have hI_s17_k : InvK s17.k := by rw [← hs17]; exact hI_s_k
                  have hF_s17_k : FrK [7, 113, 114] s0.k s17.k := by rw [← hs17]; exact hF_s_k
                  have hI_s17_g : InvG s17.g := by rw [← hs17]; exact hI_s_g
                  exact ok_some ⟨hI_s17_k, hF_s17_k, hI_s17_g, (ti_rng _).1, (ti_rng _).2⟩
                · have c_13 := tn_ne (a := (x1).toInt) (b := 7) rfl (by decide) c_13
                  refine ok_ite (fun c_15 => ?_) (fun c_15 => ?_)
                  · have c_15 := tn_eq (a := (x1).toInt) (b := 8) rfl (by decide) c_15
                    have a_16 : 0 ≤ (s.k.v 0).toInt ∧ (s.k.v 0).toInt ≤ 2000 := hI_s_k.1 0
                    exact ok_some ⟨hI_s_k, hF_s_k, hI_s_g, (ti_rng _).1, (ti_rng _).2⟩
                  · have c_15 := tn_ne (a := (x1).toInt) (b := 8) rfl (by decide) c_15
                    refine ok_ite (fun c_17 => ?_) (fun c_17 => ?_)
                    · have c_17 := tn_eq (a := (x1).toInt) (b := 9) rfl (by decide) c_17
                      have a_18 : 0 ≤ (s.g.v 4).toInt ∧ (s.g.v 4).toInt ≤ 40 := hI_s_g.1 4
                      exact ok_some ⟨hI_s_k, hF_s_k, hI_s_g, (ti_rng _).1, (ti_rng _).2⟩
                    · have c_17 := tn_ne (a := (x1).toInt) (b := 9) rfl (by decide) c_17
                      refine ok_ite (fun c_19 => ?_) (fun c_19 => ?_)
                      · have c_19 := tn_eq (a := (x1).toInt) (b := 10) rfl (by decide) c_19
                        have a_20 : 0 ≤ (s.k.v 21).toInt ∧ (s.k.v 21).toInt ≤ 20 := hI_s_k.1 21
                        exact ok_some ⟨hI_s_k, hF_s_k, hI_s_g, (ti_rng _).1, (ti_rng _).2⟩
                      · have c_19 := tn_ne (a := (x1).toInt) (b := 10) rfl (by decide) c_19
                        refine ok_ite (fun c_21 => ?_) (fun c_21 => ?_)
                        · have c_21 := tn_eq (a := (x1).toInt) (b := 11) rfl (by decide) c_21
                          refine ok_bindI (ok_kX3_slotsHeld _  hI_s_g) (fun r24 s23 hc_22 => ?_)
                          have hI_s23 : InvG s23 := hc_22.1
                          refine ok_let (fun s25 hs25 => ?_)
                          have hI_s25_g : InvG s25.g := by rw [← hs25]; exact hI_s23
                          have hI_s25_k : InvK s25.k := by rw [← hs25]; exact hI_s_k
                          have hF_s25_k : FrK [7, 113, 114] s0.k s25.k := by rw [← hs25]; exact hF_s_k
                          exact ok_some ⟨hI_s25_k, hF_s25_k, hI_s25_g, (ti_rng _).1, (ti_rng _).2⟩
                        · have c_21 := tn_ne (a := (x1).toInt) (b := 11) rfl (by decide) c_21
                          refine ok_ite (fun c_23 => ?_) (fun c_23 => ?_)
                          · have c_23 := tn_eq (a := (x1).toInt) (b := 12) rfl (by decide) c_23
                            refine ok_bindI (ok_kX10_buoysLying _  hI_s_k hI_s_g) (fun r29 s28 hc_24 => ?_)
                            have hI_s28_k : InvK s28.k := hc_24.1
                            have hFc_s28_k : FrK [] s.k s28.k := hc_24.2.1
                            have hF_s28_k : FrK [7, 113, 114] s0.k s28.k := hF_s_k.trans hFc_s28_k (by decide)
                            have hI_s28_g : InvG s28.g := hc_24.2.2.1
                            exact ok_some ⟨hI_s28_k, hF_s28_k, hI_s28_g, (ti_rng _).1, (ti_rng _).2⟩
                          · have c_23 := tn_ne (a := (x1).toInt) (b := 12) rfl (by decide) c_23
                            refine ok_ite (fun c_25 => ?_) (fun c_25 => ?_)
                            · have c_25 := tn_eq (a := (x1).toInt) (b := 13) rfl (by decide) c_25
                              refine ok_bindI (ok_kX10_wavesFound _  hI_s_k hI_s_g) (fun r32 s31 hc_26 => ?_)
                              have hI_s31_k : InvK s31.k := hc_26.1
                              have hFc_s31_k : FrK [] s.k s31.k := hc_26.2.1
                              have hF_s31_k : FrK [7, 113, 114] s0.k s31.k := hF_s_k.trans hFc_s31_k (by decide)
                              have hI_s31_g : InvG s31.g := hc_26.2.2.1
                              exact ok_some ⟨hI_s31_k, hF_s31_k, hI_s31_g, (ti_rng _).1, (ti_rng _).2⟩
                            · have c_25 := tn_ne (a := (x1).toInt) (b := 13) rfl (by decide) c_25
                              refine ok_ite (fun c_27 => ?_) (fun c_27 => ?_)
                              · have c_27 := tn_eq (a := (x1).toInt) (b := 14) rfl (by decide) c_27
                                exact ok_some ⟨hI_s_k, hF_s_k, hI_s_g, (ti_rng _).1, (ti_rng _).2⟩
                              · have c_27 := tn_ne (a := (x1).toInt) (b := 14) rfl (by decide) c_27
                                refine ok_ite (fun c_28 => ?_) (fun c_28 => ?_)
                                · have c_28 := tn_eq (a := (x1).toInt) (b := 15) rfl (by decide) c_28
                                  refine ok_bindI (ok_kX0_guessThere _ _ hI_s_k) (fun r36 s35 hc_29 => ?_)
                                  have hI_s35_k : InvK s35.k := hc_29.1
                                  have hFc_s35_k : FrK [] s.k s35.k := hc_29.2.1
                                  have hF_s35_k : FrK [7, 113, 114] s0.k s35.k := hF_s_k.trans hFc_s35_k (by decide)
                                  refine ok_let (fun s37 hs37 => ?_)
                                  have hI_s37_g : InvG s37.g := by rw [← hs37]; exact hI_s_g
                                  have hI_s37_k : InvK s37.k := by rw [← hs37]; exact hI_s35_k
                                  have hF_s37_k : FrK [7, 113, 114] s0.k s37.k := by rw [← hs37]; exact hF_s35_k
                                  exact ok_some ⟨hI_s37_k, hF_s37_k, hI_s37_g, (ti_rng _).1, (ti_rng _).2⟩
                                · have c_28 := tn_ne (a := (x1).toInt) (b := 15) rfl (by decide) c_28
                                  refine ok_ite (fun c_30 => ?_) (fun c_30 => ?_)
                                  · have c_30 := tn_eq (a := (x1).toInt) (b := 16) rfl (by decide) c_30
                                    refine ok_bindI (ok_kX10_sumOf_5 _  ) (fun r41 s40 hc_31 => ?_)
                                    refine ok_let (fun s42 hs42 => ?_)
                                    have hI_s42_k : InvK s42.k := by rw [← hs42]; exact hI_s_k
                                    have hF_s42_k : FrK [7, 113, 114] s0.k s42.k := by rw [← hs42]; exact hF_s_k
                                    have hI_s42_g : InvG s42.g := by rw [← hs42]; exact hI_s_g
                                    exact ok_some ⟨hI_s42_k, hF_s42_k, hI_s42_g, (ti_rng _).1, (ti_rng _).2⟩
                                  · have c_30 := tn_ne (a := (x1).toInt) (b := 16) rfl (by decide) c_30
                                    refine ok_ite (fun c_32 => ?_) (fun c_32 => ?_)
                                    · have c_32 := tn_eq (a := (x1).toInt) (b := 17) rfl (by decide) c_32
                                      refine ok_bindI (ok_kX10_wavesWithNothing _  hI_s_k hI_s_g) (fun r46 s45 hc_33 => ?_)
                                      have hI_s45_k : InvK s45.k := hc_33.1
                                      have hFc_s45_k : FrK [] s.k s45.k := hc_33.2.1
                                      have hF_s45_k : FrK [7, 113, 114] s0.k s45.k := hF_s_k.trans hFc_s45_k (by decide)
                                      have hI_s45_g : InvG s45.g := hc_33.2.2.1
                                      exact ok_some ⟨hI_s45_k, hF_s45_k, hI_s45_g, (ti_rng _).1, (ti_rng _).2⟩
                                    · have c_32 := tn_ne (a := (x1).toInt) (b := 17) rfl (by decide) c_32
                                      refine ok_ite (fun c_34 => ?_) (fun c_34 => ?_)
                                      · have c_34 := tn_eq (a := (x1).toInt) (b := 18) rfl (by decide) c_34
                                        refine ok_bindI (ok_kX10_faresOfAllHere _  hI_s_k hI_s_g) (fun r49 s48 hc_35 => ?_)
                                        have hI_s48_k : InvK s48.k := hc_35.1
                                        have hFc_s48_k : FrK [7, 113, 114] s.k s48.k := hc_35.2.1
                                        have hF_s48_k : FrK [7, 113, 114] s0.k s48.k := hF_s_k.trans hFc_s48_k (by decide)
                                        have hI_s48_g : InvG s48.g := hc_35.2.2.1
                                        exact ok_some ⟨hI_s48_k, hF_s48_k, hI_s48_g, (ti_rng _).1, (ti_rng _).2⟩
                                      · have c_34 := tn_ne (a := (x1).toInt) (b := 18) rfl (by decide) c_34
                                        exact ok_some ⟨hI_s_k, hF_s_k, hI_s_g, (ti_rng _).1, (ti_rng _).2⟩
theorem ok_kX10_count (s : XS) (x1 : Int32) (hI_s_k : InvK s.k) (hI_s_g : InvG s.g) : Ok (kX10_count s x1) (Q_kX10_count s) := ok_kX10_countB s s x1 hI_s_k FrK.rfl hI_s_g
noncomputable abbrev Q_kX4_readLaw (s0 : KS) (y : KS) : Prop := InvK y ∧ FrK [12, 13, 15, 16, 17, 122, 123, 124, 125] s0 y
set_option maxHeartbeats 1000000 in
theorem ok_kX4_readLaw_77 (s0 : KS)  (s : KS) (hI_s : InvK s) (hF_s : FrK [12, 13, 15, 16, 17, 122, 123, 124, 125] s0 s)  : Ok (kX4_readLaw_77  s) (Q_kX4_readLaw s0) := by
  unfold kX4_readLaw_77
  refine ok_bindP (ok_kX4_readPart _ _ hI_s (by decide) (by decide)) (fun s1 hc_1 => ?_)
  have hI_s1 : InvK s1 := hc_1.1
  have hFc_s1 : FrK [12, 15, 16, 17, 122, 123, 125] s s1 := hc_1.2
  have hF_s1 : FrK [12, 13, 15, 16, 17, 122, 123, 124, 125] s0 s1 := hF_s.trans hFc_s1 (by decide)
  exact ok_some ⟨hI_s1, hF_s1⟩
set_option maxHeartbeats 1000000 in
theorem ok_kX4_readLaw_44 (s0 : KS) (k19 : KS → Int32 → Option (KS)) (M19 : Nat) (hk19 : ∀ (s : KS) (x2 : Int32), InvK s → FrK [12, 13, 15, 16, 17, 122, 123, 124, 125] s0 s → 0 ≤ x2.toInt → x2.toInt ≤ 5 → (5 - x2.toInt).toNat < M19 → Ok (k19 s x2) (Q_kX4_readLaw s0)) (s : KS) (x2 : Int32) (hI_s : InvK s) (hF_s : FrK [12, 13, 15, 16, 17, 122, 123, 124, 125] s0 s) (h_x2l : 0 ≤ x2.toInt) (h_x2u : x2.toInt ≤ 4) (hM19 : (5 - x2.toInt).toNat ≤ M19) : Ok (kX4_readLaw_44 k19 s x2) (Q_kX4_readLaw s0) := by
  unfold kX4_readLaw_44
  refine ok_bindP (ok_kX4_take _ _ hI_s) (fun s1 hc_1 => ?_)
  have hI_s1 : InvK s1 := hc_1.1
  have hFc_s1 : FrK [15, 16, 17] s s1 := hc_1.2
  have hF_s1 : FrK [12, 13, 15, 16, 17, 122, 123, 124, 125] s0 s1 := hF_s.trans hFc_s1 (by decide)
  refine ok_bindP (ok_kX4_readPart _ _ hI_s1 (by decide) (by decide)) (fun s2 hc_2 => ?_)
  have hI_s2 : InvK s2 := hc_2.1
  have hFc_s2 : FrK [12, 15, 16, 17, 122, 123, 125] s1 s2 := hc_2.2
  have hF_s2 : FrK [12, 13, 15, 16, 17, 122, 123, 124, 125] s0 s2 := hF_s1.trans hFc_s2 (by decide)
  refine ok_bindP (ok_kX4_readPart _ _ hI_s2 (by decide) (by decide)) (fun s3 hc_3 => ?_)
  have hI_s3 : InvK s3 := hc_3.1
  have hFc_s3 : FrK [12, 15, 16, 17, 122, 123, 125] s2 s3 := hc_3.2
  have hF_s3 : FrK [12, 13, 15, 16, 17, 122, 123, 124, 125] s0 s3 := hF_s2.trans hFc_s3 (by decide)
  refine ok_bindP (ok_kX4_readPart _ _ hI_s3 (by decide) (by decide)) (fun s4 hc_4 => ?_)
  have hI_s4 : InvK s4 := hc_4.1
  have hFc_s4 : FrK [12, 15, 16, 17, 122, 123, 125] s3 s4 := hc_4.2
  have hF_s4 : FrK [12, 13, 15, 16, 17, 122, 123, 124, 125] s0 s4 := hF_s3.trans hFc_s4 (by decide)
  have a_5 : ((x2 + 1)).toInt = (x2).toInt + 1 := tn_add rfl (by decide) (by omega) (by omega)
  exact hk19 _ _ hI_s4 hF_s4 (by omega) (by omega) (by omega)
set_option maxHeartbeats 1000000 in
theorem ok_kX4_readLaw_19 (s0 : KS) (k19 : KS → Int32 → Option (KS)) (M19 : Nat) (hk19 : ∀ (s : KS) (x2 : Int32), InvK s → FrK [12, 13, 15, 16, 17, 122, 123, 124, 125] s0 s → 0 ≤ x2.toInt → x2.toInt ≤ 5 → (5 - x2.toInt).toNat < M19 → Ok (k19 s x2) (Q_kX4_readLaw s0)) (s : KS) (x2 : Int32) (hI_s : InvK s) (hF_s : FrK [12, 13, 15, 16, 17, 122, 123, 124, 125] s0 s) (h_x2l : 0 ≤ x2.toInt) (h_x2u : x2.toInt ≤ 5) (hM19 : (5 - x2.toInt).toNat ≤ M19) : Ok (kX4_readLaw_19 k19 s x2) (Q_kX4_readLaw s0) := by
  unfold kX4_readLaw_19
  refine ok_ite (fun c_1 => ?_) (fun c_1 => ?_)
  · have c_1 := tn_lt (a := 4) (b := (x2).toInt) (by decide) rfl c_1
    exact ok_kX4_readLaw_77 s0  _ hI_s hF_s 
  · have c_1 := tn_nlt (a := 4) (b := (x2).toInt) (by decide) rfl c_1
    refine ok_bindI (ok_kX4_isAt _ _ hI_s) (fun r3 s2 hc_2 => ?_)
    have hI_s2 : InvK s2 := hc_2.1
    have hFc_s2 : FrK [] s s2 := hc_2.2.1
    have hF_s2 : FrK [12, 13, 15, 16, 17, 122, 123, 124, 125] s0 s2 := hF_s.trans hFc_s2 (by decide)
    have hl_r3 : 0 ≤ r3.toInt := hc_2.2.2.1
    have hu_r3 : r3.toInt ≤ 1 := hc_2.2.2.2
    refine ok_ite (fun c_3 => ?_) (fun c_3 => ?_)
    · have c_3 := tn_eq (a := (r3).toInt) (b := 0) rfl (by decide) c_3
      exact ok_kX4_readLaw_77 s0  _ hI_s2 hF_s2 
    · have c_3 := tn_ne (a := (r3).toInt) (b := 0) rfl (by decide) c_3
      refine ok_ite (fun c_4 => ?_) (fun c_4 => ?_)
      · have c_4 := tn_eq (a := (x2).toInt) (b := 4) rfl (by decide) c_4
        refine ok_bindP (ok_kX4_fail _ _ hI_s2 (by decide) (by decide)) (fun s6 hc_5 => ?_)
        have hI_s6 : InvK s6 := hc_5.1
        have hFc_s6 : FrK [16, 17] s2 s6 := hc_5.2
        have hF_s6 : FrK [12, 13, 15, 16, 17, 122, 123, 124, 125] s0 s6 := hF_s2.trans hFc_s6 (by decide)
        exact ok_kX4_readLaw_44 s0 k19 M19 hk19 _ _ hI_s6 hF_s6 (by omega) (by omega) (by omega)
      · have c_4 := tn_ne (a := (x2).toInt) (b := 4) rfl (by decide) c_4
        exact ok_kX4_readLaw_44 s0 k19 M19 hk19 _ _ hI_s2 hF_s2 (by omega) (by omega) (by omega)
theorem okL_kX4_readLaw_19 (s0 : KS)  : ∀ (n : Nat) (s : KS) (x2 : Int32), (5 - x2.toInt).toNat < n → InvK s → FrK [12, 13, 15, 16, 17, 122, 123, 124, 125] s0 s → 0 ≤ x2.toInt → x2.toInt ≤ 5 → Ok (kX4_readLaw_19L  n s x2) (Q_kX4_readLaw s0) := by
  intro n
  induction n with
  | zero => intro s x2 hn; omega
  | succ n ih =>
    intro s x2 hn hI_s hF_s h_x2l h_x2u 
    exact ok_kX4_readLaw_19 s0 (kX4_readLaw_19L  n) ((5 - x2.toInt).toNat) (fun zs zx2 g0 g1 g2 g3  hm => ih zs zx2 (by omega) g0 g1 g2 g3 ) s x2 hI_s hF_s h_x2l h_x2u (Nat.le_refl _)
set_option maxHeartbeats 1000000 in
theorem ok_kX4_readLawB (s0 : KS)  (s : KS) (x1 : Int32) (hI_s : InvK s) (hF_s : FrK [12, 13, 15, 16, 17, 122, 123, 124, 125] s0 s) (h_x1l : 0 ≤ x1.toInt) (h_x1u : x1.toInt ≤ 3)  : Ok (kX4_readLaw  s x1) (Q_kX4_readLaw s0) := by
  unfold kX4_readLaw
  refine ok_bindP (ok_kX4_take _ _ hI_s) (fun s1 hc_1 => ?_)
  have hI_s1 : InvK s1 := hc_1.1
  have hFc_s1 : FrK [15, 16, 17] s s1 := hc_1.2
  have hF_s1 : FrK [12, 13, 15, 16, 17, 122, 123, 124, 125] s0 s1 := hF_s.trans hFc_s1 (by decide)
  refine ok_bindP (ok_kX1_begin _ _ hI_s1 (by omega) (by omega)) (fun s2 hc_2 => ?_)
  have hI_s2 : InvK s2 := hc_2.1
  have hFc_s2 : FrK [13, 124, 125] s1 s2 := hc_2.2
  have hF_s2 : FrK [12, 13, 15, 16, 17, 122, 123, 124, 125] s0 s2 := hF_s1.trans hFc_s2 (by decide)
  have l_0 : (0 : Int32).toInt = 0 := by decide
  exact okL_kX4_readLaw_19 s0  fu _ _ (by unfold fu; omega) hI_s2 hF_s2 (by decide) (by decide) 
theorem ok_kX4_readLaw (s : KS) (x1 : Int32) (hI_s : InvK s) (h_x1l : 0 ≤ x1.toInt) (h_x1u : x1.toInt ≤ 3) : Ok (kX4_readLaw s x1) (Q_kX4_readLaw s) := ok_kX4_readLawB s s x1 hI_s FrK.rfl h_x1l h_x1u
noncomputable abbrev Q_kX4_readTell (s0 : KS) (y : KS) : Prop := InvK y ∧ FrK [8, 9, 11, 12, 13, 15, 16, 17, 18, 19, 116, 119, 120, 122, 123, 124, 125, 129] s0 y
set_option maxHeartbeats 1000000 in
theorem ok_kX4_readTell_106 (s0 : KS)  (s : KS) (hI_s : InvK s) (hF_s : FrK [8, 9, 11, 12, 13, 15, 16, 17, 18, 19, 116, 119, 120, 122, 123, 124, 125, 129] s0 s)  : Ok (kX4_readTell_106  s) (Q_kX4_readTell s0) := by
  unfold kX4_readTell_106
  refine ok_bindP (ok_kX4_fail _ _ hI_s (by decide) (by decide)) (fun s1 hc_1 => ?_)
  have hI_s1 : InvK s1 := hc_1.1
  have hFc_s1 : FrK [16, 17] s s1 := hc_1.2
  have hF_s1 : FrK [8, 9, 11, 12, 13, 15, 16, 17, 18, 19, 116, 119, 120, 122, 123, 124, 125, 129] s0 s1 := hF_s.trans hFc_s1 (by decide)
  exact ok_some ⟨hI_s1, hF_s1⟩
set_option maxHeartbeats 1000000 in
theorem ok_kX4_readTellB (s0 : KS)  (s : KS) (hI_s : InvK s) (hF_s : FrK [8, 9, 11, 12, 13, 15, 16, 17, 18, 19, 116, 119, 120, 122, 123, 124, 125, 129] s0 s)  : Ok (kX4_readTell  s) (Q_kX4_readTell s0) := by
  unfold kX4_readTell
  have a_1 : 0 ≤ (s.v 15).toInt ∧ (s.v 15).toInt ≤ 400 := hI_s.1 15
  refine ok_grd (vpb_ok (by omega) (by omega)) ?_
  refine ok_ite (fun c_2 => ?_) (fun c_2 => ?_)
  · have c_2 := tn_eq (a := (((s.f 32) (Int32.toNatClampNeg (s.v 15)))).toInt) (b := 256) rfl (by decide) c_2
    refine ok_bindP (ok_kX4_readWave _  hI_s) (fun s16 hc_3 => ?_)
    have hI_s16 : InvK s16 := hc_3.1
    have hFc_s16 : FrK [8, 15, 16, 17, 18, 19, 116] s s16 := hc_3.2
    have hF_s16 : FrK [8, 9, 11, 12, 13, 15, 16, 17, 18, 19, 116, 119, 120, 122, 123, 124, 125, 129] s0 s16 := hF_s.trans hFc_s16 (by decide)
    exact ok_some ⟨hI_s16, hF_s16⟩
  · have c_2 := tn_ne (a := (((s.f 32) (Int32.toNatClampNeg (s.v 15)))).toInt) (b := 256) rfl (by decide) c_2
    refine ok_ite (fun c_4 => ?_) (fun c_4 => ?_)
    · have c_4 := tn_eq (a := (((s.f 32) (Int32.toNatClampNeg (s.v 15)))).toInt) (b := 257) rfl (by decide) c_4
      refine ok_bindP (ok_kX4_readParty _  hI_s) (fun s15 hc_5 => ?_)
      have hI_s15 : InvK s15 := hc_5.1
      have hFc_s15 : FrK [9, 15, 16, 17, 18, 19, 119, 120, 129] s s15 := hc_5.2
      have hF_s15 : FrK [8, 9, 11, 12, 13, 15, 16, 17, 18, 19, 116, 119, 120, 122, 123, 124, 125, 129] s0 s15 := hF_s.trans hFc_s15 (by decide)
      exact ok_some ⟨hI_s15, hF_s15⟩
    · have c_4 := tn_ne (a := (((s.f 32) (Int32.toNatClampNeg (s.v 15)))).toInt) (b := 257) rfl (by decide) c_4
      refine ok_ite (fun c_6 => ?_) (fun c_6 => ?_)
      · have c_6 := tn_eq (a := (((s.f 32) (Int32.toNatClampNeg (s.v 15)))).toInt) (b := 262) rfl (by decide) c_6
        refine ok_bindP (ok_kX4_take _ _ hI_s) (fun s9 hc_7 => ?_)
        have hI_s9 : InvK s9 := hc_7.1
        have hFc_s9 : FrK [15, 16, 17] s s9 := hc_7.2
        have hF_s9 : FrK [8, 9, 11, 12, 13, 15, 16, 17, 18, 19, 116, 119, 120, 122, 123, 124, 125, 129] s0 s9 := hF_s.trans hFc_s9 (by decide)
        refine ok_bindI (ok_kX4_takeInt _ _ hI_s9 (by decide) (by decide)) (fun r11 s10 hc_8 => ?_)
        have hI_s10 : InvK s10 := hc_8.1
        have hFc_s10 : FrK [15, 16, 17, 18, 19] s9 s10 := hc_8.2.1
        have hF_s10 : FrK [8, 9, 11, 12, 13, 15, 16, 17, 18, 19, 116, 119, 120, 122, 123, 124, 125, 129] s0 s10 := hF_s9.trans hFc_s10 (by decide)
        refine ok_let (fun s12 hs12 => ?_)
        have hI_s12 : InvK s12 := by rw [← hs12]; exact hI_s10.svF (k := 11) rfl rfl
        have hF_s12 : FrK [8, 9, 11, 12, 13, 15, 16, 17, 18, 19, 116, 119, 120, 122, 123, 124, 125, 129] s0 s12 := by rw [← hs12]; exact hF_s10.sv (k := 11) (by decide)
        refine ok_bindP (ok_kX4_take _ _ hI_s12) (fun s14 hc_9 => ?_)
        have hI_s14 : InvK s14 := hc_9.1
        have hFc_s14 : FrK [15, 16, 17] s12 s14 := hc_9.2
        have hF_s14 : FrK [8, 9, 11, 12, 13, 15, 16, 17, 18, 19, 116, 119, 120, 122, 123, 124, 125, 129] s0 s14 := hF_s12.trans hFc_s14 (by decide)
        exact ok_some ⟨hI_s14, hF_s14⟩
      · have c_6 := tn_ne (a := (((s.f 32) (Int32.toNatClampNeg (s.v 15)))).toInt) (b := 262) rfl (by decide) c_6
        refine ok_ite (fun c_10 => ?_) (fun c_10 => ?_)
        · have c_10 := tn_lt (a := ((((s.f 32) (Int32.toNatClampNeg (s.v 15))) - 258)).toInt) (b := 0) rfl (by decide) c_10
          exact ok_kX4_readTell_106 s0  _ hI_s hF_s 
        · have c_10 := tn_nlt (a := ((((s.f 32) (Int32.toNatClampNeg (s.v 15))) - 258)).toInt) (b := 0) rfl (by decide) c_10
          refine ok_ite (fun c_11 => ?_) (fun c_11 => ?_)
          · have c_11 := tn_le (a := 4) (b := ((((s.f 32) (Int32.toNatClampNeg (s.v 15))) - 258)).toInt) (by decide) rfl c_11
            exact ok_kX4_readTell_106 s0  _ hI_s hF_s 
          · have c_11 := tn_nle (a := 4) (b := ((((s.f 32) (Int32.toNatClampNeg (s.v 15))) - 258)).toInt) (by decide) rfl c_11
            refine ok_bindP (ok_kX4_take _ _ hI_s) (fun s7 hc_12 => ?_)
            have hI_s7 : InvK s7 := hc_12.1
            have hFc_s7 : FrK [15, 16, 17] s s7 := hc_12.2
            have hF_s7 : FrK [8, 9, 11, 12, 13, 15, 16, 17, 18, 19, 116, 119, 120, 122, 123, 124, 125, 129] s0 s7 := hF_s.trans hFc_s7 (by decide)
            refine ok_bindP (ok_kX4_readLaw _ _ hI_s7 (by omega) (by omega)) (fun s8 hc_13 => ?_)
            have hI_s8 : InvK s8 := hc_13.1
            have hFc_s8 : FrK [12, 13, 15, 16, 17, 122, 123, 124, 125] s7 s8 := hc_13.2
            have hF_s8 : FrK [8, 9, 11, 12, 13, 15, 16, 17, 18, 19, 116, 119, 120, 122, 123, 124, 125, 129] s0 s8 := hF_s7.trans hFc_s8 (by decide)
            exact ok_some ⟨hI_s8, hF_s8⟩
theorem ok_kX4_readTell (s : KS) (hI_s : InvK s) : Ok (kX4_readTell s) (Q_kX4_readTell s) := ok_kX4_readTellB s s hI_s FrK.rfl
noncomputable abbrev Q_kX4_readTape (s0 : KS) (y : Int32 × KS) : Prop := InvK y.2 ∧ FrK [8, 9, 10, 11, 12, 13, 15, 16, 17, 18, 19, 20, 116, 117, 118, 119, 120, 122, 123, 124, 125, 129, 132, 133, 134] s0 y.2 ∧ -2147483648 ≤ y.1.toInt ∧ y.1.toInt ≤ 2147483647
set_option maxHeartbeats 1000000 in
theorem ok_kX4_readTape_98 (s0 : KS)  (s : KS) (hI_s : InvK s) (hF_s : FrK [8, 9, 10, 11, 12, 13, 15, 16, 17, 18, 19, 20, 116, 117, 118, 119, 120, 122, 123, 124, 125, 129, 132, 133, 134] s0 s)  : Ok (kX4_readTape_98  s) (Q_kX4_readTape s0) := by
  unfold kX4_readTape_98
  refine ok_ite (fun c_1 => ?_) (fun c_1 => ?_)
  · have c_1 := tn_eq (a := ((s.v 16)).toInt) (b := 0) rfl (by decide) c_1
    refine ok_bindP (ok_kX5_addUp _  hI_s) (fun s2 hc_2 => ?_)
    have hI_s2 : InvK s2 := hc_2.1
    have hFc_s2 : FrK [10, 117, 118] s s2 := hc_2.2
    have hF_s2 : FrK [8, 9, 10, 11, 12, 13, 15, 16, 17, 18, 19, 20, 116, 117, 118, 119, 120, 122, 123, 124, 125, 129, 132, 133, 134] s0 s2 := hF_s.trans hFc_s2 (by decide)
    have a_3 : (s2.v 16).toInt = (s.v 16).toInt := congrArg Int32.toInt (hFc_s2.1 16 (by decide))
    exact ok_some ⟨hI_s2, hF_s2, (ti_rng _).1, (ti_rng _).2⟩
  · have c_1 := tn_ne (a := ((s.v 16)).toInt) (b := 0) rfl (by decide) c_1
    exact ok_some ⟨hI_s, hF_s, (ti_rng _).1, (ti_rng _).2⟩
set_option maxHeartbeats 1000000 in
theorem ok_kX4_readTape_75 (s0 : KS)  (s : KS) (hI_s : InvK s) (hF_s : FrK [8, 9, 10, 11, 12, 13, 15, 16, 17, 18, 19, 20, 116, 117, 118, 119, 120, 122, 123, 124, 125, 129, 132, 133, 134] s0 s)  : Ok (kX4_readTape_75  s) (Q_kX4_readTape s0) := by
  unfold kX4_readTape_75
  refine ok_ite (fun c_1 => ?_) (fun c_1 => ?_)
  · have c_1 := tn_eq (a := ((s.v 16)).toInt) (b := 0) rfl (by decide) c_1
    refine ok_let (fun s2 hs2 => ?_)
    have hI_s2 : InvK s2 := by rw [← hs2]; exact hI_s.svF (k := 16) rfl rfl
    have hF_s2 : FrK [8, 9, 10, 11, 12, 13, 15, 16, 17, 18, 19, 20, 116, 117, 118, 119, 120, 122, 123, 124, 125, 129, 132, 133, 134] s0 s2 := by rw [← hs2]; exact hF_s.sv (k := 16) (by decide)
    refine ok_let (fun s4 hs4 => ?_)
    have a_2 : (s2.v 19).toInt = (s.v 19).toInt := congrArg Int32.toInt (show s2.v 19 = s.v 19 by rw [← hs2]; rfl)
    have hI_s4 : InvK s4 := by rw [← hs4]; exact hI_s2.svF (k := 17) rfl rfl
    have hF_s4 : FrK [8, 9, 10, 11, 12, 13, 15, 16, 17, 18, 19, 20, 116, 117, 118, 119, 120, 122, 123, 124, 125, 129, 132, 133, 134] s0 s4 := by rw [← hs4]; exact hF_s2.sv (k := 17) (by decide)
    exact ok_kX4_readTape_98 s0  _ hI_s4 hF_s4 
  · have c_1 := tn_ne (a := ((s.v 16)).toInt) (b := 0) rfl (by decide) c_1
    exact ok_kX4_readTape_98 s0  _ hI_s hF_s 
set_option maxHeartbeats 1000000 in
theorem ok_kX4_readTape_41 (s0 : KS) (k41 : KS → Int32 → Option (Int32 × KS)) (M41 : Nat) (hk41 : ∀ (s : KS) (x1 : Int32), InvK s → FrK [8, 9, 10, 11, 12, 13, 15, 16, 17, 18, 19, 20, 116, 117, 118, 119, 120, 122, 123, 124, 125, 129, 132, 133, 134] s0 s → 0 ≤ x1.toInt → x1.toInt ≤ 401 → (401 - x1.toInt).toNat < M41 → Ok (k41 s x1) (Q_kX4_readTape s0)) (s : KS) (x1 : Int32) (hI_s : InvK s) (hF_s : FrK [8, 9, 10, 11, 12, 13, 15, 16, 17, 18, 19, 20, 116, 117, 118, 119, 120, 122, 123, 124, 125, 129, 132, 133, 134] s0 s) (h_x1l : 0 ≤ x1.toInt) (h_x1u : x1.toInt ≤ 401) (hM41 : (401 - x1.toInt).toNat ≤ M41) : Ok (kX4_readTape_41 k41 s x1) (Q_kX4_readTape s0) := by
  unfold kX4_readTape_41
  refine ok_ite (fun c_1 => ?_) (fun c_1 => ?_)
  · have c_1 := tn_lt (a := 400) (b := (x1).toInt) (by decide) rfl c_1
    exact ok_kX4_readTape_75 s0  _ hI_s hF_s 
  · have c_1 := tn_nlt (a := 400) (b := (x1).toInt) (by decide) rfl c_1
    refine ok_ite (fun c_2 => ?_) (fun c_2 => ?_)
    · have c_2 := tn_eq (a := ((s.v 16)).toInt) (b := 0) rfl (by decide) c_2
      refine ok_bindI (ok_kX4_isAt _ _ hI_s) (fun r4 s3 hc_3 => ?_)
      have hI_s3 : InvK s3 := hc_3.1
      have hFc_s3 : FrK [] s s3 := hc_3.2.1
      have hF_s3 : FrK [8, 9, 10, 11, 12, 13, 15, 16, 17, 18, 19, 20, 116, 117, 118, 119, 120, 122, 123, 124, 125, 129, 132, 133, 134] s0 s3 := hF_s.trans hFc_s3 (by decide)
      have hl_r4 : 0 ≤ r4.toInt := hc_3.2.2.1
      have hu_r4 : r4.toInt ≤ 1 := hc_3.2.2.2
      refine ok_ite (fun c_4 => ?_) (fun c_4 => ?_)
      · have c_4 := tn_eq (a := (r4).toInt) (b := 0) rfl (by decide) c_4
        refine ok_bindP (ok_kX4_readTell _  hI_s3) (fun s6 hc_5 => ?_)
        have hI_s6 : InvK s6 := hc_5.1
        have hFc_s6 : FrK [8, 9, 11, 12, 13, 15, 16, 17, 18, 19, 116, 119, 120, 122, 123, 124, 125, 129] s3 s6 := hc_5.2
        have hF_s6 : FrK [8, 9, 10, 11, 12, 13, 15, 16, 17, 18, 19, 20, 116, 117, 118, 119, 120, 122, 123, 124, 125, 129, 132, 133, 134] s0 s6 := hF_s3.trans hFc_s6 (by decide)
        have a_6 : ((x1 + 1)).toInt = (x1).toInt + 1 := tn_add rfl (by decide) (by omega) (by omega)
        exact hk41 _ _ hI_s6 hF_s6 (by omega) (by omega) (by omega)
      · have c_4 := tn_ne (a := (r4).toInt) (b := 0) rfl (by decide) c_4
        exact ok_kX4_readTape_75 s0  _ hI_s3 hF_s3 
    · have c_2 := tn_ne (a := ((s.v 16)).toInt) (b := 0) rfl (by decide) c_2
      exact ok_kX4_readTape_75 s0  _ hI_s hF_s 
theorem okL_kX4_readTape_41 (s0 : KS)  : ∀ (n : Nat) (s : KS) (x1 : Int32), (401 - x1.toInt).toNat < n → InvK s → FrK [8, 9, 10, 11, 12, 13, 15, 16, 17, 18, 19, 20, 116, 117, 118, 119, 120, 122, 123, 124, 125, 129, 132, 133, 134] s0 s → 0 ≤ x1.toInt → x1.toInt ≤ 401 → Ok (kX4_readTape_41L  n s x1) (Q_kX4_readTape s0) := by
  intro n
  induction n with
  | zero => intro s x1 hn; omega
  | succ n ih =>
    intro s x1 hn hI_s hF_s h_x1l h_x1u 
    exact ok_kX4_readTape_41 s0 (kX4_readTape_41L  n) ((401 - x1.toInt).toNat) (fun zs zx1 g0 g1 g2 g3  hm => ih zs zx1 (by omega) g0 g1 g2 g3 ) s x1 hI_s hF_s h_x1l h_x1u (Nat.le_refl _)
set_option maxHeartbeats 1000000 in
theorem ok_kX4_readTapeB (s0 : KS)  (s : KS) (hI_s : InvK s) (hF_s : FrK [8, 9, 10, 11, 12, 13, 15, 16, 17, 18, 19, 20, 116, 117, 118, 119, 120, 122, 123, 124, 125, 129, 132, 133, 134] s0 s)  : Ok (kX4_readTape  s) (Q_kX4_readTape s0) := by
  unfold kX4_readTape
  refine ok_bindP (ok_kX5_clear _  hI_s) (fun s1 hc_1 => ?_)
  have hI_s1 : InvK s1 := hc_1.1
  have hFc_s1 : FrK [8, 9, 10, 11, 12, 13, 122, 123, 124, 125] s s1 := hc_1.2
  have hF_s1 : FrK [8, 9, 10, 11, 12, 13, 15, 16, 17, 18, 19, 20, 116, 117, 118, 119, 120, 122, 123, 124, 125, 129, 132, 133, 134] s0 s1 := hF_s.trans hFc_s1 (by decide)
  refine ok_let (fun s2 hs2 => ?_)
  have hI_s2 : InvK s2 := by rw [← hs2]; exact hI_s1.sv (k := 15) (show (0 : Int) ≤ (0 : Int32).toInt by decide) (show (0 : Int32).toInt ≤ (400 : Int) by decide)
  have hF_s2 : FrK [8, 9, 10, 11, 12, 13, 15, 16, 17, 18, 19, 20, 116, 117, 118, 119, 120, 122, 123, 124, 125, 129, 132, 133, 134] s0 s2 := by rw [← hs2]; exact hF_s1.sv (k := 15) (by decide)
  refine ok_let (fun s4 hs4 => ?_)
  have hI_s4 : InvK s4 := by rw [← hs4]; exact hI_s2.svF (k := 16) rfl rfl
  have hF_s4 : FrK [8, 9, 10, 11, 12, 13, 15, 16, 17, 18, 19, 20, 116, 117, 118, 119, 120, 122, 123, 124, 125, 129, 132, 133, 134] s0 s4 := by rw [← hs4]; exact hF_s2.sv (k := 16) (by decide)
  refine ok_let (fun s6 hs6 => ?_)
  have hI_s6 : InvK s6 := by rw [← hs6]; exact hI_s4.svF (k := 17) rfl rfl
  have hF_s6 : FrK [8, 9, 10, 11, 12, 13, 15, 16, 17, 18, 19, 20, 116, 117, 118, 119, 120, 122, 123, 124, 125, 129, 132, 133, 134] s0 s6 := by rw [← hs6]; exact hF_s4.sv (k := 17) (by decide)
  refine ok_let (fun s8 hs8 => ?_)
  have hI_s8 : InvK s8 := by rw [← hs8]; exact hI_s6.svF (k := 18) rfl rfl
  have hF_s8 : FrK [8, 9, 10, 11, 12, 13, 15, 16, 17, 18, 19, 20, 116, 117, 118, 119, 120, 122, 123, 124, 125, 129, 132, 133, 134] s0 s8 := by rw [← hs8]; exact hF_s6.sv (k := 18) (by decide)
  refine ok_let (fun s10 hs10 => ?_)
  have hI_s10 : InvK s10 := by rw [← hs10]; exact hI_s8.svF (k := 19) rfl rfl
  have hF_s10 : FrK [8, 9, 10, 11, 12, 13, 15, 16, 17, 18, 19, 20, 116, 117, 118, 119, 120, 122, 123, 124, 125, 129, 132, 133, 134] s0 s10 := by rw [← hs10]; exact hF_s8.sv (k := 19) (by decide)
  refine ok_bindP (ok_kX9_split _  hI_s10) (fun s12 hc_2 => ?_)
  have hI_s12 : InvK s12 := hc_2.1
  have hFc_s12 : FrK [20, 132, 133, 134] s10 s12 := hc_2.2
  have hF_s12 : FrK [8, 9, 10, 11, 12, 13, 15, 16, 17, 18, 19, 20, 116, 117, 118, 119, 120, 122, 123, 124, 125, 129, 132, 133, 134] s0 s12 := hF_s10.trans hFc_s12 (by decide)
  have l_0 : (0 : Int32).toInt = 0 := by decide
  exact okL_kX4_readTape_41 s0  fu _ _ (by unfold fu; omega) hI_s12 hF_s12 (by decide) (by decide) 
theorem ok_kX4_readTape (s : KS) (hI_s : InvK s) : Ok (kX4_readTape s) (Q_kX4_readTape s) := ok_kX4_readTapeB s s hI_s FrK.rfl
noncomputable abbrev Q_kX10_read (s0 : XS) (y : Int32 × XS) : Prop := InvK y.2.k ∧ FrK [0, 1, 2, 3, 4, 5, 8, 9, 10, 11, 12, 13, 15, 16, 17, 18, 19, 20, 21, 103, 104, 105, 106, 107, 109, 110, 111, 112, 116, 117, 118, 119, 120, 122, 123, 124, 125, 129, 132, 133, 134] s0.k y.2.k ∧ InvG y.2.g ∧ -2147483648 ≤ y.1.toInt ∧ y.1.toInt ≤ 2147483647
set_option maxHeartbeats 1000000 in
theorem ok_kX10_readB (s0 : XS)  (s : XS) (hI_s_k : InvK s.k) (hF_s_k : FrK [0, 1, 2, 3, 4, 5, 8, 9, 10, 11, 12, 13, 15, 16, 17, 18, 19, 20, 21, 103, 104, 105, 106, 107, 109, 110, 111, 112, 116, 117, 118, 119, 120, 122, 123, 124, 125, 129, 132, 133, 134] s0.k s.k) (hI_s_g : InvG s.g)  : Ok (kX10_read  s) (Q_kX10_read s0) := by
  unfold kX10_read
  refine ok_bindI (ok_kX4_readTape _  hI_s_k) (fun r2 s1 hc_1 => ?_)
  have hI_s1 : InvK s1 := hc_1.1
  have hFc_s1 : FrK [8, 9, 10, 11, 12, 13, 15, 16, 17, 18, 19, 20, 116, 117, 118, 119, 120, 122, 123, 124, 125, 129, 132, 133, 134] s.k s1 := hc_1.2.1
  have hF_s1 : FrK [0, 1, 2, 3, 4, 5, 8, 9, 10, 11, 12, 13, 15, 16, 17, 18, 19, 20, 21, 103, 104, 105, 106, 107, 109, 110, 111, 112, 116, 117, 118, 119, 120, 122, 123, 124, 125, 129, 132, 133, 134] s0.k s1 := hF_s_k.trans hFc_s1 (by decide)
  refine ok_let (fun s3 hs3 => ?_)
  have hI_s3_g : InvG s3.g := by rw [← hs3]; exact hI_s_g
  have hI_s3_k : InvK s3.k := by rw [← hs3]; exact hI_s1
  have hF_s3_k : FrK [0, 1, 2, 3, 4, 5, 8, 9, 10, 11, 12, 13, 15, 16, 17, 18, 19, 20, 21, 103, 104, 105, 106, 107, 109, 110, 111, 112, 116, 117, 118, 119, 120, 122, 123, 124, 125, 129, 132, 133, 134] s0.k s3.k := by rw [← hs3]; exact hF_s1
  refine ok_let (fun s5 hs5 => ?_)
  have hI_s5_k : InvK s5.k := by rw [← hs5]; exact hI_s3_k.sv (k := 0) (show (0 : Int) ≤ (0 : Int32).toInt by decide) (show (0 : Int32).toInt ≤ (2000 : Int) by decide)
  have hF_s5_k : FrK [0, 1, 2, 3, 4, 5, 8, 9, 10, 11, 12, 13, 15, 16, 17, 18, 19, 20, 21, 103, 104, 105, 106, 107, 109, 110, 111, 112, 116, 117, 118, 119, 120, 122, 123, 124, 125, 129, 132, 133, 134] s0.k s5.k := by rw [← hs5]; exact hF_s3_k.sv (k := 0) (by decide)
  have hI_s5_g : InvG s5.g := by rw [← hs5]; exact hI_s3_g
  refine ok_ite (fun c_2 => ?_) (fun c_2 => ?_)
  · have c_2 := tn_eq (a := (r2).toInt) (b := 0) rfl (by decide) c_2
    refine ok_bindP (ok_kX5_copyFrom _  hI_s5_k) (fun s8 hc_3 => ?_)
    have hI_s8 : InvK s8 := hc_3.1
    have hFc_s8 : FrK [1, 2, 3, 4, 5, 103, 104, 105, 106, 107, 109, 110, 111, 112] s5.k s8 := hc_3.2
    have hF_s8 : FrK [0, 1, 2, 3, 4, 5, 8, 9, 10, 11, 12, 13, 15, 16, 17, 18, 19, 20, 21, 103, 104, 105, 106, 107, 109, 110, 111, 112, 116, 117, 118, 119, 120, 122, 123, 124, 125, 129, 132, 133, 134] s0.k s8 := hF_s5_k.trans hFc_s8 (by decide)
    refine ok_let (fun s9 hs9 => ?_)
    have hI_s9_g : InvG s9.g := by rw [← hs9]; exact hI_s5_g
    have hI_s9_k : InvK s9.k := by rw [← hs9]; exact hI_s8
    have hF_s9_k : FrK [0, 1, 2, 3, 4, 5, 8, 9, 10, 11, 12, 13, 15, 16, 17, 18, 19, 20, 21, 103, 104, 105, 106, 107, 109, 110, 111, 112, 116, 117, 118, 119, 120, 122, 123, 124, 125, 129, 132, 133, 134] s0.k s9.k := by rw [← hs9]; exact hF_s8
    refine ok_bindP (ok_kX6_startOver _  ) (fun s11 hc_4 => ?_)
    refine ok_let (fun s12 hs12 => ?_)
    have hI_s12_g : InvG s12.g := by rw [← hs12]; exact hI_s9_g
    have hI_s12_k : InvK s12.k := by rw [← hs12]; exact hI_s9_k
    have hF_s12_k : FrK [0, 1, 2, 3, 4, 5, 8, 9, 10, 11, 12, 13, 15, 16, 17, 18, 19, 20, 21, 103, 104, 105, 106, 107, 109, 110, 111, 112, 116, 117, 118, 119, 120, 122, 123, 124, 125, 129, 132, 133, 134] s0.k s12.k := by rw [← hs12]; exact hF_s9_k
    refine ok_bindP (ok_kX3_forgetAll _  hI_s12_g) (fun s14 hc_5 => ?_)
    have hI_s14 : InvG s14 := hc_5
    refine ok_let (fun s15 hs15 => ?_)
    have hI_s15_g : InvG s15.g := by rw [← hs15]; exact hI_s14
    have hI_s15_k : InvK s15.k := by rw [← hs15]; exact hI_s12_k
    have hF_s15_k : FrK [0, 1, 2, 3, 4, 5, 8, 9, 10, 11, 12, 13, 15, 16, 17, 18, 19, 20, 21, 103, 104, 105, 106, 107, 109, 110, 111, 112, 116, 117, 118, 119, 120, 122, 123, 124, 125, 129, 132, 133, 134] s0.k s15.k := by rw [← hs15]; exact hF_s12_k
    refine ok_let (fun s17 hs17 => ?_)
    have hI_s17_k : InvK s17.k := by rw [← hs17]; exact hI_s15_k.sv (k := 21) (show (0 : Int) ≤ (0 : Int32).toInt by decide) (show (0 : Int32).toInt ≤ (20 : Int) by decide)
    have hF_s17_k : FrK [0, 1, 2, 3, 4, 5, 8, 9, 10, 11, 12, 13, 15, 16, 17, 18, 19, 20, 21, 103, 104, 105, 106, 107, 109, 110, 111, 112, 116, 117, 118, 119, 120, 122, 123, 124, 125, 129, 132, 133, 134] s0.k s17.k := by rw [← hs17]; exact hF_s15_k.sv (k := 21) (by decide)
    have hI_s17_g : InvG s17.g := by rw [← hs17]; exact hI_s15_g
    exact ok_some ⟨hI_s17_k, hF_s17_k, hI_s17_g, (ti_rng _).1, (ti_rng _).2⟩
  · have c_2 := tn_ne (a := (r2).toInt) (b := 0) rfl (by decide) c_2
    exact ok_some ⟨hI_s5_k, hF_s5_k, hI_s5_g, (ti_rng _).1, (ti_rng _).2⟩
theorem ok_kX10_read (s : XS) (hI_s_k : InvK s.k) (hI_s_g : InvG s.g) : Ok (kX10_read s) (Q_kX10_read s) := ok_kX10_readB s s hI_s_k FrK.rfl hI_s_g
end
