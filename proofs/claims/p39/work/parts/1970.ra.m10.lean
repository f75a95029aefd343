section
/-! ===== two worlds between calls: what may be there ===== -/
noncomputable def six6 : Nat → Int32
  | 0 => 1
  | n + 1 => six6 n * 6
theorem six_val : (six6 0).toInt = 1 ∧ (six6 1).toInt = 6 ∧ (six6 2).toInt = 36 ∧ (six6 3).toInt = 216 ∧ (six6 4).toInt = 1296 ∧ (six6 5).toInt = 7776 := by decide
/-- a small number as an int -/
theorem ofnat_int {n : Nat} (h : n < 2147483648) : (Int32.ofNat n).toInt = (n : Int) := by
  exact Int32.toInt_ofNat_of_lt (by omega)
theorem eq_ofnat {x : Int32} {n : Nat} (h : x.toInt = (n : Int)) : x = Int32.ofNat n := by
  have r := ti_rng x
  exact Int32.toInt_inj.mp (h.trans (ofnat_int (by omega)).symm)
theorem all_small {P : Int32 → Prop} {N : Nat} (hN : N < 2147483648) (h : ∀ n, n < N → P (Int32.ofNat n)) {x : Int32} (h0 : 0 ≤ x.toInt) (h1 : x.toInt < (N : Int)) : P x := by
  have e : x = Int32.ofNat x.toInt.toNat := eq_ofnat (by omega)
  rw [e]
  exact h _ (by omega)
theorem or_and {x y c : Int32} : (x ||| y) &&& c = (x &&& c) ||| (y &&& c) := Int32.toBitVec_inj.mp (by
  show (x.toBitVec ||| y.toBitVec) &&& c.toBitVec = (x.toBitVec &&& c.toBitVec) ||| (y.toBitVec &&& c.toBitVec)
  exact BitVec.and_or_distrib_right)
/-- the bits that are counted -/
noncomputable def bsum (x : Int32) : Int32 := (((((0 + ((x >>> ((0 : Int32) &&& 31)) &&& 1)) + ((x >>> (((0 : Int32) + 1) &&& 31)) &&& 1)) + ((x >>> (((0 : Int32) + 1 + 1) &&& 31)) &&& 1)) + ((x >>> (((0 : Int32) + 1 + 1 + 1) &&& 31)) &&& 1)) + ((x >>> (((0 : Int32) + 1 + 1 + 1 + 1) &&& 31)) &&& 1)) + ((x >>> (((0 : Int32) + 1 + 1 + 1 + 1 + 1) &&& 31)) &&& 1)
theorem r_bits_eq (x : Int32) : r_bits x = some (bsum x) := by
  unfold r_bits
  show r_bits_4 (r_bits_4L 19999) x 0 0 = _
  unfold r_bits_4
  rw [if_neg (by decide)]
  show r_bits_4 (r_bits_4L 19998) x _ (0 + 1) = _
  unfold r_bits_4
  rw [if_neg (by decide)]
  show r_bits_4 (r_bits_4L 19997) x _ (0 + 1 + 1) = _
  unfold r_bits_4
  rw [if_neg (by decide)]
  show r_bits_4 (r_bits_4L 19996) x _ (0 + 1 + 1 + 1) = _
  unfold r_bits_4
  rw [if_neg (by decide)]
  show r_bits_4 (r_bits_4L 19995) x _ (0 + 1 + 1 + 1 + 1) = _
  unfold r_bits_4
  rw [if_neg (by decide)]
  show r_bits_4 (r_bits_4L 19994) x _ (0 + 1 + 1 + 1 + 1 + 1) = _
  unfold r_bits_4
  rw [if_neg (by decide)]
  show r_bits_4 (r_bits_4L 19993) x _ (0 + 1 + 1 + 1 + 1 + 1 + 1) = _
  unfold r_bits_4
  rw [if_pos (by decide)]
  rfl
noncomputable def bcount (x : Int32) : Int32 := match kJ6_bitCount_0f7a4 x with
  | some r => r
  | none => 0
theorem k_bits_eq (x : Int32) : kJ6_bitCount_0f7a4 x = some (bcount x) := rfl
theorem bits_small : ∀ n, n < 64 → bcount (Int32.ofNat n) = bsum (Int32.ofNat n) ∧ 0 ≤ (bsum (Int32.ofNat n)).toInt ∧ (bsum (Int32.ofNat n)).toInt ≤ 6 := by decide +kernel
theorem bits_same {x : Int32} (h0 : 0 ≤ x.toInt) (h1 : x.toInt ≤ 63) : bcount x = bsum x ∧ 0 ≤ (bsum x).toInt ∧ (bsum x).toInt ≤ 6 :=
  all_small (P := fun x => bcount x = bsum x ∧ 0 ≤ (bsum x).toInt ∧ (bsum x).toInt ≤ 6) (N := 64) (by omega) bits_small h0 (by omega)
/-- a standing of the class beside a row of the reference -/
noncomputable def FoR (a b : Int32) : Prop := (a = -1 ∧ b = -2) ∨ (a = b ∧ 0 ≤ b.toInt ∧ b.toInt ≤ 5)
noncomputable def SR (d : SD) (f : Nat → Int32) : Prop := (∀ w, w < 5 → FoR (d.f 0 w) (f (5 + w)) ∧ d.f 1 w = f w ∧ (0 ≤ (f w).toInt ∧ (f w).toInt ≤ 63) ∧ d.f 2 w = f (10 + w)) ∧ (∀ p, p < 6 → d.f 3 p = f (15 + p) ∧ d.f 4 p = f (21 + p)) ∧ d.v 5 = f 27 ∧ d.v 6 = f 28
/-- the part of it that a wave's own questions look at -/
noncomputable def SRw (d : SD) (f : Nat → Int32) (w : Nat) : Prop := FoR (d.f 0 w) (f (5 + w)) ∧ d.f 1 w = f w ∧ 0 ≤ (f w).toInt ∧ (f w).toInt ≤ 63
theorem SR.at {d : SD} {f : Nat → Int32} {w : Nat} (h : SR d f) (hw : w < 5) : SRw d f w := ⟨(h.1 w hw).1, (h.1 w hw).2.1, (h.1 w hw).2.2.1⟩
/-- sums and likely things of a wave, by its odds from b on -/
noncomputable def lkv (o v : Int32) : Int32 := if o ≤ 0 then 0 else 1 <<< (v &&& 31)
noncomputable def lks (f : Nat → Int32) (b : Nat) : Nat → Int32
  | 0 => 0
  | j + 1 => lks f b j ||| lkv (f (b + j)) (Int32.ofNat j)
noncomputable def sms (f : Nat → Int32) (b : Nat) : Nat → Int32
  | 0 => 0
  | j + 1 => sms f b j + f (b + j)
/-- what the reference gathers -/
noncomputable def mays (f : Nat → Int32) (b : Nat) (u : Int32) : Nat → Int32
  | 0 => 0
  | j + 1 => if f (b + j) ≤ 0 then mays f b u j else if ((u >>> ((Int32.ofNat j) &&& 31)) &&& 1) = 0 then mays f b u j ||| ((1 : Int32) <<< ((Int32.ofNat j) &&& 31)) else mays f b u j
theorem lk_one : ∀ j, j < 6 → ∀ n, n < 64 → ((1 : Int32) <<< ((Int32.ofNat j) &&& 31)) &&& ((Int32.ofNat n) ^^^ (-1 : Int32)) = if (((Int32.ofNat n) >>> ((Int32.ofNat j) &&& 31)) &&& 1) = 0 then 1 <<< ((Int32.ofNat j) &&& 31) else (0 : Int32) := by decide +kernel
theorem or_zero32 (x : Int32) : x ||| 0 = x := Int32.toBitVec_inj.mp (by
  show x.toBitVec ||| 0#32 = x.toBitVec
  exact BitVec.or_zero)
theorem zero_and32 (x : Int32) : 0 &&& x = 0 := Int32.toBitVec_inj.mp (by
  show 0#32 &&& x.toBitVec = 0#32
  exact BitVec.zero_and)
theorem may_fold {f : Nat → Int32} {b : Nat} {u : Int32} (h0 : 0 ≤ u.toInt) (h1 : u.toInt ≤ 63) : ∀ j, j ≤ 6 → lks f b j &&& (u ^^^ (-1 : Int32)) = mays f b u j := by
  intro j
  induction j with
  | zero => intro _; exact zero_and32 _
  | succ j ih =>
    intro hj
    show (lks f b j ||| lkv (f (b + j)) (Int32.ofNat j)) &&& (u ^^^ (-1 : Int32)) = if f (b + j) ≤ 0 then mays f b u j else if ((u >>> ((Int32.ofNat j) &&& 31)) &&& 1) = 0 then mays f b u j ||| ((1 : Int32) <<< ((Int32.ofNat j) &&& 31)) else mays f b u j
    rw [or_and, ih (by omega)]
    unfold lkv
    by_cases c : f (b + j) ≤ 0
    · rw [if_pos c, if_pos c, zero_and32, or_zero32]
    · rw [if_neg c, if_neg c]
      have q := all_small (P := fun u => ((1 : Int32) <<< ((Int32.ofNat j) &&& 31)) &&& (u ^^^ (-1 : Int32)) = if ((u >>> ((Int32.ofNat j) &&& 31)) &&& 1) = 0 then 1 <<< ((Int32.ofNat j) &&& 31) else (0 : Int32)) (N := 64) (by omega) (lk_one j (by omega)) h0 (by omega)
      have q : ((1 : Int32) <<< ((Int32.ofNat j) &&& 31)) &&& (u ^^^ (-1 : Int32)) = if ((u >>> ((Int32.ofNat j) &&& 31)) &&& 1) = 0 then 1 <<< ((Int32.ofNat j) &&& 31) else (0 : Int32) := q
      rw [q]
      by_cases e : ((u >>> ((Int32.ofNat j) &&& 31)) &&& 1) = 0
      · rw [if_pos e, if_pos e]
      · rw [if_neg e, if_neg e, or_zero32]
theorem or_small {x y : Int32} (hx0 : 0 ≤ x.toInt) (hx : x.toInt ≤ 63) (hy0 : 0 ≤ y.toInt) (hy : y.toInt ≤ 63) : 0 ≤ (x ||| y).toInt ∧ (x ||| y).toInt ≤ 63 := by
  have ex : x.toInt = (x.toBitVec.toNat : Int) := by
    have c := BitVec.toInt_eq_toNat_cond x.toBitVec
    have e : x.toInt = x.toBitVec.toInt := rfl
    have l := x.toBitVec.isLt
    rw [e] at hx0 hx ⊢
    rw [c] at hx0 hx ⊢
    split at hx0 <;> omega
  have ey : y.toInt = (y.toBitVec.toNat : Int) := by
    have c := BitVec.toInt_eq_toNat_cond y.toBitVec
    have e : y.toInt = y.toBitVec.toInt := rfl
    have l := y.toBitVec.isLt
    rw [e] at hy0 hy ⊢
    rw [c] at hy0 hy ⊢
    split at hy0 <;> omega
  have h : (x ||| y).toBitVec.toNat < 2 ^ 6 := by
    show (x.toBitVec ||| y.toBitVec).toNat < 2 ^ 6
    rw [BitVec.toNat_or]
    exact Nat.or_lt_two_pow (by omega) (by omega)
  have e : (x ||| y).toInt = ((x ||| y).toBitVec.toNat : Int) := by
    show (x ||| y).toBitVec.toInt = _
    rw [BitVec.toInt_eq_toNat_of_lt (by omega)]
  omega
theorem one_shl : ∀ j, j < 6 → 0 ≤ ((1 : Int32) <<< ((Int32.ofNat j) &&& 31)).toInt ∧ ((1 : Int32) <<< ((Int32.ofNat j) &&& 31)).toInt ≤ 63 := by decide +kernel
theorem mays_small {f : Nat → Int32} {b : Nat} {u : Int32} : ∀ j, j ≤ 6 → 0 ≤ (mays f b u j).toInt ∧ (mays f b u j).toInt ≤ 63 := by
  intro j
  induction j with
  | zero =>
    intro _
    show 0 ≤ (0 : Int32).toInt ∧ (0 : Int32).toInt ≤ 63
    decide
  | succ j ih =>
    intro hj
    have i := ih (by omega)
    have o := one_shl j (by omega)
    show 0 ≤ (if f (b + j) ≤ 0 then mays f b u j else if ((u >>> ((Int32.ofNat j) &&& 31)) &&& 1) = 0 then mays f b u j ||| ((1 : Int32) <<< ((Int32.ofNat j) &&& 31)) else mays f b u j).toInt ∧ (if f (b + j) ≤ 0 then mays f b u j else if ((u >>> ((Int32.ofNat j) &&& 31)) &&& 1) = 0 then mays f b u j ||| ((1 : Int32) <<< ((Int32.ofNat j) &&& 31)) else mays f b u j).toInt ≤ 63
    by_cases c : f (b + j) ≤ 0
    · rw [if_pos c]; exact i
    · rw [if_neg c]
      by_cases e : ((u >>> ((Int32.ofNat j) &&& 31)) &&& 1) = 0
      · rw [if_pos e]; exact or_small i.1 i.2 o.1 o.2
      · rw [if_neg e]; exact i
/-- what a text tells, on both sides -/
noncomputable def SO (k : KS) (z : RS) : Prop := (k.v 1 = z.f 20 (z.v 18).toNatClampNeg ∧ k.v 2 = z.f 23 (z.v 18).toNatClampNeg ∧ k.v 4 = z.f 26 (z.v 18).toNatClampNeg ∧ k.v 3 = six6 (k.v 1).toNatClampNeg) ∧ (∀ j, j < 6 → z.f 46 j = six6 j) ∧ OD7 k z ∧ (∀ p : Nat, (p : Int) < (k.v 2).toInt → k.f 6 p = z.f 24 (6 * (z.v 18).toNatClampNeg + p) ∧ k.f 7 p = z.f 25 (6 * (z.v 18).toNatClampNeg + p)) ∧ (∀ w : Nat, (w : Int) < (k.v 1).toInt → k.f 4 w = sms (k.f 3) (6 * w) 6 ∧ k.f 5 w = lks (k.f 3) (6 * w) 6) ∧ LAWF (z.v 18).toNatClampNeg (k.f 9) (k.f 10) (k.f 11) (k.f 12) z
noncomputable def MB (k : KS) (d : SD) (w : Nat) : Int32 := if d.f 0 w = -1 then (k.f 5 w) &&& ((d.f 1 w) ^^^ (-1 : Int32)) else 1 <<< ((d.f 0 w) &&& 31)
theorem k_may {s : JS} {x : Int32} {w : Nat} (hx : x.toInt = (w : Int)) (hw : w < 5) : kX0_mayBe s x = some (MB s.k s.d w, s) := by
  have ec : x.toNatClampNeg = w := clamp_of_int hx
  have hv : vpb x 5 = true := vpb_ok (by omega) (by omega)
  unfold kX0_mayBe MB
  rw [ec, if_pos hv, if_pos hv, if_pos hv, if_pos hv]
  by_cases c : s.d.f 0 w = -1
  · rw [if_pos c, if_pos c]
  · rw [if_neg c, if_neg c]
theorem r_odds_inv {z z' : RS} {x1 x2 r : Int32} {l w v : Nat} (hl : (z.v 18).toInt = (l : Int)) (hl1 : l ≤ 1) (h1 : x1.toInt = (w : Int)) (hw : w < 5) (h2 : x2.toInt = (v : Int)) (hv : v < 6) (h : r_oddsAt z x1 x2 = some (r, z')) : z' = z ∧ r = z.f 21 (30 * l + (6 * w + v)) := by
  unfold r_oddsAt at h
  replace h := guard_inv h
  obtain ⟨_, h⟩ := h
  have m2 : (30 * (z.v 18)).toInt = (z.v 18).toInt * 30 := ti_cmul (c := 30) (by decide) (by omega) (by omega)
  have m3 : (6 * x1).toInt = x1.toInt * 6 := ti_cmul (c := 6) (by decide) (by omega) (by omega)
  have m4 : ((30 * (z.v 18)) + (6 * x1)).toInt = (30 * (z.v 18)).toInt + (6 * x1).toInt := ti_add (by omega) (by omega)
  have i2 : (((30 * (z.v 18)) + (6 * x1)) + x2).toInt = ((30 * l + (6 * w + v) : Nat) : Int) := by
    rw [ti_add (by omega) (by omega)]
    omega
  rw [clamp_of_int i2] at h
  cases h
  exact ⟨rfl, rfl⟩
theorem k_odds {k : KS} {x1 x2 : Int32} {w v : Nat} (h1 : x1.toInt = (w : Int)) (hw : w < 5) (h2 : x2.toInt = (v : Int)) (hv : v < 6) : kX5_oddsAt k x1 x2 = some (k.f 3 (6 * w + v), k) := by
  have m1 : (x1 * 6).toInt = x1.toInt * 6 := ti_mulc (c := 6) (by decide) (by omega) (by omega)
  have i1 : ((x1 * 6) + x2).toInt = ((6 * w + v : Nat) : Int) := by
    rw [ti_add (by omega) (by omega)]
    omega
  unfold kX5_oddsAt
  rw [if_pos (vpb_ok (by omega) (by omega)), clamp_of_int i1]
theorem r_mayL {z z' : RS} {r x1 : Int32} {l w : Nat} (hl : (z.v 18).toInt = (l : Int)) (hl1 : l ≤ 1) (h1 : x1.toInt = (w : Int)) (hw : w < 5) : ∀ (n : Nat) (x2 x3 : Int32) (j : Nat), x3.toInt = (j : Int) → j ≤ 6 → x2 = mays (z.f 21) (30 * l + 6 * w) (z.f 44 w) j → r_mayAt_26L n z x1 x2 x3 = some (r, z') → z' = z ∧ r = mays (z.f 21) (30 * l + 6 * w) (z.f 44 w) 6 := by
  intro n
  induction n with
  | zero => intro x2 x3 j _ _ _ h; exact none_ne h
  | succ n ih =>
    intro x2 x3 j h3 hj h2 h
    replace h : r_mayAt_26 (r_mayAt_26L n) z x1 x2 x3 = some (r, z') := h
    unfold r_mayAt_26 r_mayAt_60 at h
    by_cases c : 6 ≤ x3
    · have c' := tn_le (a := 6) (by decide) rfl c
      have ej : j = 6 := by omega
      rw [if_pos c] at h
      have e : r = x2 ∧ z' = z := by cases h; exact ⟨rfl, rfl⟩
      exact ⟨e.2, by rw [e.1, h2, ej]⟩
    · have c' := tn_nle (a := 6) (by decide) rfl c
      rw [if_neg c] at h
      replace h := bindI_inv h
      obtain ⟨q, z2, hq, h⟩ := h
      obtain ⟨ez, eq⟩ := r_odds_inv hl hl1 h1 hw h3 (by omega) hq
      subst ez
      have a3 : (x3 + 1).toInt = ((j + 1 : Nat) : Int) := by
        rw [tn_add h3 (by decide : (1 : Int32).toInt = 1) (by omega) (by omega)]
        omega
      have e3 : x3 = Int32.ofNat j := eq_ofnat h3
      have eb : 30 * l + (6 * w + j) = 30 * l + 6 * w + j := by omega
      rw [eb] at eq
      have hm : mays (z2.f 21) (30 * l + 6 * w) (z2.f 44 w) (j + 1) = if z2.f 21 (30 * l + 6 * w + j) ≤ 0 then mays (z2.f 21) (30 * l + 6 * w) (z2.f 44 w) j else if (((z2.f 44 w) >>> ((Int32.ofNat j) &&& 31)) &&& 1) = 0 then mays (z2.f 21) (30 * l + 6 * w) (z2.f 44 w) j ||| ((1 : Int32) <<< ((Int32.ofNat j) &&& 31)) else mays (z2.f 21) (30 * l + 6 * w) (z2.f 44 w) j := rfl
      rw [← eq, ← e3] at hm
      by_cases c1 : q ≤ 0
      · rw [if_pos c1] at h hm
        exact ih x2 (x3 + 1) (j + 1) a3 (by omega) (by rw [h2, hm]) h
      · rw [if_neg c1] at h hm
        replace h := guard_inv h
        obtain ⟨_, h⟩ := h
        rw [clamp_of_int h1] at h
        by_cases c2 : (((z2.f 44 w) >>> (x3 &&& 31)) &&& 1) = 0
        · rw [if_pos c2] at h hm
          exact ih _ (x3 + 1) (j + 1) a3 (by omega) (by rw [h2, hm]) h
        · rw [if_neg c2] at h hm
          exact ih x2 (x3 + 1) (j + 1) a3 (by omega) (by rw [h2, hm]) h
/-- the odds of both sides, number by number -/
theorem od_eq {k : KS} {z : RS} {l w v : Nat} (h : OD7 k z) (hl : (z.v 18).toInt = (l : Int)) (hw : (w : Int) < (k.v 1).toInt) (hv : v < 6) : k.f 3 (6 * w + v) = z.f 21 (30 * l + 6 * w + v) := by
  have q := h (6 * w + v) (by omega)
  rw [clamp_of_int hl] at q
  rw [q]
  exact congrArg (z.f 21) (by omega)
theorem mays_cg {f g : Nat → Int32} {a b : Nat} {u : Int32} : ∀ j, (∀ v, v < j → f (a + v) = g (b + v)) → mays f a u j = mays g b u j := by
  intro j
  induction j with
  | zero => intro _; rfl
  | succ j ih =>
    intro h
    show (if f (a + j) ≤ 0 then mays f a u j else if ((u >>> ((Int32.ofNat j) &&& 31)) &&& 1) = 0 then mays f a u j ||| ((1 : Int32) <<< ((Int32.ofNat j) &&& 31)) else mays f a u j) = if g (b + j) ≤ 0 then mays g b u j else if ((u >>> ((Int32.ofNat j) &&& 31)) &&& 1) = 0 then mays g b u j ||| ((1 : Int32) <<< ((Int32.ofNat j) &&& 31)) else mays g b u j
    rw [h j (by omega), ih (fun v hv => h v (by omega))]
theorem sms_cg {f g : Nat → Int32} {a b : Nat} : ∀ j, (∀ v, v < j → f (a + v) = g (b + v)) → sms f a j = sms g b j := by
  intro j
  induction j with
  | zero => intro _; rfl
  | succ j ih =>
    intro h
    show sms f a j + f (a + j) = sms g b j + g (b + j)
    rw [h j (by omega), ih (fun v hv => h v (by omega))]
theorem shl_found : ∀ n, n < 6 → 0 ≤ ((1 : Int32) <<< ((Int32.ofNat n) &&& 31)).toInt ∧ ((1 : Int32) <<< ((Int32.ofNat n) &&& 31)).toInt ≤ 63 := one_shl
/-- what may be there is the same, and six6 bits -/
theorem may_same {k : KS} {d : SD} {z z' : RS} {x r : Int32} {w : Nat} (hS : SO k z) (hR : SRw d (z.f 44) w) (hI : InvR z) (hK : InvK k) (hx : x.toInt = (w : Int)) (hw : (w : Int) < (k.v 1).toInt) (h : r_mayAt z x = some (r, z')) : z' = z ∧ r = MB k d w := by
  have bw : 0 ≤ (k.v 1).toInt ∧ (k.v 1).toInt ≤ 5 := hK.1 1
  have bl : 0 ≤ (z.v 18).toInt ∧ (z.v 18).toInt ≤ 1 := hI.1 18
  obtain ⟨l, hl⟩ : ∃ l : Nat, (z.v 18).toInt = (l : Int) := ⟨(z.v 18).toInt.toNat, by omega⟩
  obtain ⟨hF, hB, hB2⟩ := hR
  have a5 : (5 + x).toInt = ((5 + w : Nat) : Int) := by
    rw [tn_add (by decide : (5 : Int32).toInt = 5) hx (by omega) (by omega)]
    omega
  unfold r_mayAt at h
  replace h := guard_inv h
  obtain ⟨_, h⟩ := h
  rw [clamp_of_int a5] at h
  unfold MB
  rcases hF with ⟨f1, f2⟩ | ⟨f1, f2, f3⟩
  · rw [if_pos f1]
    rw [if_pos (by rw [f2]; decide)] at h
    obtain ⟨e1, e2⟩ := r_mayL hl (by omega) hx (by omega) fu 0 0 0 (by decide) (by omega) rfl h
    refine ⟨e1, ?_⟩
    rw [e2, (hS.2.2.2.2.1 w hw).2, hB, may_fold hB2.1 hB2.2 6 (by omega)]
    exact (mays_cg 6 (fun v hv => od_eq hS.2.2.1 hl hw hv)).symm
  · have n1 : ¬ d.f 0 w = -1 := fun q => by
      rw [← f1, q] at f2
      exact absurd f2 (by decide)
    have n2 : ¬ z.f 44 (5 + w) < 0 := fun q => by
      have := tn_lt (b := 0) rfl (by decide) q
      omega
    rw [if_neg n1]
    rw [if_neg n2] at h
    replace h := guard_inv h
    obtain ⟨_, h⟩ := h
    have e : r = 1 <<< ((z.f 44 (5 + w)) &&& 31) ∧ z' = z := by cases h; exact ⟨rfl, rfl⟩
    exact ⟨e.2, by rw [e.1, f1]⟩
theorem MB_small {k : KS} {d : SD} {z : RS} {w : Nat} (hS : SO k z) (hR : SRw d (z.f 44) w) (hK : InvK k) (hw : (w : Int) < (k.v 1).toInt) : 0 ≤ (MB k d w).toInt ∧ (MB k d w).toInt ≤ 63 := by
  have bw : 0 ≤ (k.v 1).toInt ∧ (k.v 1).toInt ≤ 5 := hK.1 1
  obtain ⟨hF, hB, hB2⟩ := hR
  unfold MB
  rcases hF with ⟨f1, f2⟩ | ⟨f1, f2, f3⟩
  · rw [if_pos f1, (hS.2.2.2.2.1 w hw).2, hB, may_fold hB2.1 hB2.2 6 (by omega)]
    exact mays_small 6 (by omega)
  · have n1 : ¬ d.f 0 w = -1 := fun q => by
      rw [← f1, q] at f2
      exact absurd f2 (by decide)
    rw [if_neg n1, f1]
    exact all_small (P := fun x => 0 ≤ ((1 : Int32) <<< (x &&& 31)).toInt ∧ ((1 : Int32) <<< (x &&& 31)).toInt ≤ 63) (N := 6) (by omega) shl_found f2 (by omega)
end
section
/-! ===== what is there ===== -/
theorem sms_int {f : Nat → Int32} {b : Nat} : ∀ j, j ≤ 6 → (∀ v, v < j → 0 ≤ (f (b + v)).toInt ∧ (f (b + v)).toInt ≤ 9) → (sms f b j).toInt = psum f b j ∧ 0 ≤ psum f b j ∧ psum f b j ≤ 9 * (j : Int) := by
  intro j
  induction j with
  | zero => intro _ _; exact ⟨by show (0 : Int32).toInt = (0 : Int); decide, Int.le_refl _, Int.le_refl _⟩
  | succ j ih =>
    intro hj h
    obtain ⟨i1, i2, i3⟩ := ih (by omega) (fun v hv => h v (by omega))
    have q := h j (by omega)
    have e : psum f b (j + 1) = psum f b j + (f (b + j)).toInt := rfl
    refine ⟨?_, by omega, by omega⟩
    show (sms f b j + f (b + j)).toInt = _
    rw [ti_add (by omega) (by omega), i1]
    rfl
theorem lot_same {z z' : RS} {n sd wh r1 r2 : Int32} (hn : 0 < n.toInt) (hs : sd = z.v 45) (h1 : kX10_lot n sd wh = some r1) (h2 : r_lotOf z wh n = some (r2, z')) : r1 = r2 ∧ z' = z ∧ 0 ≤ r1.toInt ∧ r1.toInt < n.toInt := by
  unfold kX10_lot kX10_stirred at h1
  unfold r_lotOf r_mixed at h2
  rw [if_pos (Int32.lt_iff_toInt_lt.mpr (by rw [show (0 : Int32).toInt = 0 from by decide]; exact hn))] at h1
  rw [bindP_some, bindP_some] at h1 h2
  replace h1 := guard_inv h1
  obtain ⟨n0, h1⟩ := h1
  replace h2 := guard_inv h2
  obtain ⟨_, h2⟩ := h2
  have u : ∀ x : Int32, 0 ≤ (ushr x 1).toInt := ti_ushr1
  rw [hs] at h1
  generalize (((((((z.v 45) ^^^ 173) * 1103515245) + 12345) ^^^ (ushr ((((z.v 45) ^^^ 173) * 1103515245) + 12345) 15)) ^^^ wh) * 1103515245) + 12345 = y at h1 h2
  have b := ti_remb (u (y ^^^ ushr y 15)) hn
  have e1 : r1 = (ushr (y ^^^ ushr y 15) 1) - (ushr (y ^^^ ushr y 15) 1) / n * n := by cases h1; rfl
  have e2 : r2 = (ushr (y ^^^ ushr y 15) 1) - (ushr (y ^^^ ushr y 15) 1) / n * n ∧ z' = z := by cases h2; exact ⟨rfl, rfl⟩
  rw [e1, e2.1, e2.2]
  exact ⟨rfl, rfl, b.1, b.2⟩
/-- the odds of a wave as Big has them -/
theorem od_big {k : KS} {z : RS} {l w : Nat} (hB : Big z) (hS : SO k z) (hl : (z.v 18).toInt = (l : Int)) (hw : (w : Int) < (k.v 1).toInt) : (∀ v, v < 6 → 0 ≤ (k.f 3 (6 * w + v)).toInt ∧ (k.f 3 (6 * w + v)).toInt ≤ 9) ∧ 0 < psum (k.f 3) (6 * w) 6 ∧ (sms (k.f 3) (6 * w) 6).toInt = psum (k.f 3) (6 * w) 6 := by
  have e1 := hS.1.1
  have o := hB.2.1 w (by rw [← e1]; exact hw)
  rw [clamp_of_int hl] at o
  have r : ∀ v, v < 6 → 0 ≤ (k.f 3 (6 * w + v)).toInt ∧ (k.f 3 (6 * w + v)).toInt ≤ 9 := fun v hv => by
    rw [od_eq hS.2.2.1 hl hw hv]
    exact o.1 v hv
  have p : ∀ j, j ≤ 6 → psum (k.f 3) (6 * w) j = psum (z.f 21) (30 * l + 6 * w) j := by
    intro j
    induction j with
    | zero => intro _; rfl
    | succ j ih =>
      intro hj
      show psum (k.f 3) (6 * w) j + (k.f 3 (6 * w + j)).toInt = psum (z.f 21) (30 * l + 6 * w) j + (z.f 21 (30 * l + 6 * w + j)).toInt
      rw [ih (by omega), od_eq hS.2.2.1 hl hw (by omega : j < 6)]
  exact ⟨r, by rw [p 6 (by omega)]; exact o.2, (sms_int 6 (by omega) r).1⟩
/-- from the j-th thing on, with what the things ahead have -/
theorem thereL {k k' : KS} {z z' : RS} {x1 lt r1 r2 : Int32} {l w : Nat} (hB : Big z) (hS : SO k z) (hl : (z.v 18).toInt = (l : Int)) (hl1 : l ≤ 1) (h1 : x1.toInt = (w : Int)) (hw : (w : Int) < (k.v 1).toInt) (hw5 : w < 5) (hlt : lt.toInt < psum (k.f 3) (6 * w) 6) (hlt0 : 0 ≤ lt.toInt) : ∀ (n m : Nat) (x5 x6 y2 y4 : Int32) (j : Nat), j < 6 → x6.toInt = (j : Int) → y4 = x6 → x5.toInt = psum (k.f 3) (6 * w) j → psum (k.f 3) (6 * w) j ≤ lt.toInt → y2.toInt = psum (k.f 3) (6 * w) (j + 1) → kX5_thingThere_24L n k x1 lt x5 x6 = some (r1, k') → r_thereAt_55L m z x1 y2 lt y4 = some (r2, z') → r1 = r2 ∧ k' = k ∧ z' = z ∧ ∃ v : Nat, v < 6 ∧ r1 = Int32.ofNat v ∧ 0 < (k.f 3 (6 * w + v)).toInt := by
  obtain ⟨rg, _, _⟩ := od_big hB hS hl hw
  intro n
  induction n with
  | zero => intro m x5 x6 y2 y4 j _ _ _ _ _ _ h; exact none_ne h
  | succ n ih =>
    intro m x5 x6 y2 y4 j hj h6 hy h5 hle h2 hs hz
    replace hs : kX5_thingThere_24 (kX5_thingThere_24L n) k x1 lt x5 x6 = some (r1, k') := hs
    cases m with
    | zero => exact none_ne hz
    | succ m =>
    replace hz : r_thereAt_55 (r_thereAt_55L m) z x1 y2 lt y4 = some (r2, z') := hz
    unfold kX5_thingThere_24 at hs
    unfold r_thereAt_55 at hz
    have n6 : ¬ 6 ≤ x6 := fun q => by
      have := tn_le (a := 6) (by decide) rfl q
      omega
    rw [if_neg n6, k_odds h1 hw5 h6 hj, bindI_some] at hs
    have pj := sms_int (f := k.f 3) (b := 6 * w) j (by omega) (fun v hv => rg v (by omega))
    have oj := rg j hj
    have ps : psum (k.f 3) (6 * w) (j + 1) = psum (k.f 3) (6 * w) j + (k.f 3 (6 * w + j)).toInt := rfl
    have a5 : (x5 + k.f 3 (6 * w + j)).toInt = psum (k.f 3) (6 * w) (j + 1) := by
      rw [ti_add (by omega) (by omega), h5, ps]
    by_cases c : lt < y2
    · have c' := ti_lt c
      rw [if_pos c] at hz
      rw [if_neg (fun q => by have := ti_le q; omega)] at hs
      have e1 : r1 = x6 ∧ k' = k := by cases hs; exact ⟨rfl, rfl⟩
      have e2 : r2 = y4 ∧ z' = z := by cases hz; exact ⟨rfl, rfl⟩
      refine ⟨by rw [e1.1, e2.1, hy], e1.2, e2.2, j, hj, by rw [e1.1]; exact eq_ofnat h6, by omega⟩
    · have c' := ti_nlt c
      rw [if_neg c] at hz
      rw [if_pos (Int32.le_iff_toInt_le.mpr (by omega))] at hs
      have j5 : j < 5 := by
        rcases (show j < 5 ∨ j = 5 by omega) with q | q
        · exact q
        · subst q
          have e6 : psum (k.f 3) (6 * w) (5 + 1) = psum (k.f 3) (6 * w) 6 := rfl
          omega
      replace hz := bindI_inv hz
      obtain ⟨q, z2, hq, hz⟩ := hz
      have a6 : (x6 + 1).toInt = ((j + 1 : Nat) : Int) := by
        rw [tn_add h6 (by decide : (1 : Int32).toInt = 1) (by omega) (by omega)]
        omega
      rw [hy] at hq hz
      obtain ⟨ez, eq⟩ := r_odds_inv hl hl1 h1 hw5 a6 (by omega) hq
      subst ez
      have eo : q = k.f 3 (6 * w + (j + 1)) := by
        rw [eq, od_eq hS.2.2.1 hl hw (by omega : j + 1 < 6)]
        exact congrArg (z2.f 21) (by omega)
      have ps2 : psum (k.f 3) (6 * w) (j + 1 + 1) = psum (k.f 3) (6 * w) (j + 1) + (k.f 3 (6 * w + (j + 1))).toInt := rfl
      have oj2 := rg (j + 1) (by omega)
      have a2 : (y2 + q).toInt = psum (k.f 3) (6 * w) (j + 1 + 1) := by
        rw [eo, ti_add (by omega) (by omega), h2, ps2]
      exact ih m (x5 + k.f 3 (6 * w + j)) (x6 + 1) (y2 + q) (x6 + 1) (j + 1) (by omega) a6 rfl a5 (by omega) a2 hs hz
theorem r_thereL {z z' : RS} {r x1 : Int32} {l w : Nat} (hl : (z.v 18).toInt = (l : Int)) (hl1 : l ≤ 1) (h1 : x1.toInt = (w : Int)) (hw : w < 5) : ∀ (n : Nat) (x2 x3 : Int32) (j : Nat), x3.toInt = (j : Int) → j ≤ 6 → x2 = sms (z.f 21) (30 * l + 6 * w) j → r_thereAt_4L n z x1 x2 x3 = some (r, z') → ∃ lt, r_lotOf z ((8 * (z.f 44 (10 + w))) + x1) (sms (z.f 21) (30 * l + 6 * w) 6) = some (lt, z) ∧ r_thereAt_55L fu z x1 (z.f 21 (30 * l + 6 * w)) lt 0 = some (r, z') := by
  intro n
  induction n with
  | zero => intro x2 x3 j _ _ _ h; exact none_ne h
  | succ n ih =>
    intro x2 x3 j h3 hj h2 h
    replace h : r_thereAt_4 (r_thereAt_4L n) z x1 x2 x3 = some (r, z') := h
    unfold r_thereAt_4 at h
    by_cases c : 6 ≤ x3
    · have c' := tn_le (a := 6) (by decide) rfl c
      have ej : j = 6 := by omega
      rw [if_pos c] at h
      replace h := guard_inv h
      obtain ⟨_, h⟩ := h
      have a10 : (10 + x1).toInt = ((10 + w : Nat) : Int) := by
        rw [tn_add (by decide : (10 : Int32).toInt = 10) h1 (by omega) (by omega)]
        omega
      rw [clamp_of_int a10, h2, ej] at h
      replace h := bindI_inv h
      obtain ⟨lt, z3, hl3, h⟩ := h
      have e3 : z3 = z := by
        unfold r_lotOf r_mixed at hl3
        rw [bindP_some, bindP_some] at hl3
        replace hl3 := guard_inv hl3
        obtain ⟨_, hl3⟩ := hl3
        cases hl3
        rfl
      subst e3
      replace h := bindI_inv h
      obtain ⟨q, z5, hq, h⟩ := h
      obtain ⟨e5, eq⟩ := r_odds_inv hl hl1 h1 hw (x2 := 0) (v := 0) (by decide) (by omega) hq
      subst e5
      rw [eq] at h
      exact ⟨lt, hl3, h⟩
    · have c' := tn_nle (a := 6) (by decide) rfl c
      rw [if_neg c] at h
      replace h := bindI_inv h
      obtain ⟨q, z2, hq, h⟩ := h
      obtain ⟨ez, eq⟩ := r_odds_inv hl hl1 h1 hw h3 (by omega) hq
      subst ez
      have a3 : (x3 + 1).toInt = ((j + 1 : Nat) : Int) := by
        rw [tn_add h3 (by decide : (1 : Int32).toInt = 1) (by omega) (by omega)]
        omega
      refine ih (x2 + q) (x3 + 1) (j + 1) a3 (by omega) ?_ h
      show x2 + q = sms (z2.f 21) (30 * l + 6 * w) j + z2.f 21 (30 * l + 6 * w + j)
      rw [h2, eq]
      exact congrArg (fun i => sms (z2.f 21) (30 * l + 6 * w) j + z2.f 21 i) (by omega)
/-- the thing that is there, by a seed and by how often the wave has shifted -/
theorem there_same {k k' : KS} {z z' : RS} {x xs sd r1 r2 : Int32} {w : Nat} (hB : Big z) (hS : SO k z) (hI : InvR z) (hK : InvK k) (hx : x.toInt = (w : Int)) (hw : (w : Int) < (k.v 1).toInt) (hsh : xs = z.f 44 (10 + w)) (hsd : sd = z.v 45) (h1 : kX5_thingThere k x xs sd = some (r1, k')) (h2 : r_thereAt z x = some (r2, z')) : r1 = r2 ∧ k' = k ∧ z' = z ∧ ∃ v : Nat, v < 6 ∧ r1 = Int32.ofNat v ∧ 0 < (k.f 3 (6 * w + v)).toInt := by
  have bw : 0 ≤ (k.v 1).toInt ∧ (k.v 1).toInt ≤ 5 := hK.1 1
  have bl : 0 ≤ (z.v 18).toInt ∧ (z.v 18).toInt ≤ 1 := hI.1 18
  obtain ⟨l, hl⟩ : ∃ l : Nat, (z.v 18).toInt = (l : Int) := ⟨(z.v 18).toInt.toNat, by omega⟩
  obtain ⟨rg, p0, sp⟩ := od_big hB hS hl hw
  unfold kX5_thingThere at h1
  replace h1 := guard_inv h1
  obtain ⟨_, h1⟩ := h1
  replace h1 := bindP_inv h1
  obtain ⟨lt1, q1, h1⟩ := h1
  unfold r_thereAt at h2
  obtain ⟨lt2, q2, h2⟩ := r_thereL hl (by omega) hx (by omega) fu 0 0 0 (by decide) (by omega) rfl h2
  have es : sms (z.f 21) (30 * l + 6 * w) 6 = sms (k.f 3) (6 * w) 6 := (sms_cg 6 (fun v hv => od_eq hS.2.2.1 hl hw hv)).symm
  rw [clamp_of_int hx, (hS.2.2.2.2.1 w hw).1, hsh] at q1
  rw [es] at q2
  obtain ⟨e1, _, b1, b2⟩ := lot_same (by rw [sp]; exact p0) hsd q1 q2
  subst e1
  have e0 : z.f 21 (30 * l + 6 * w) = k.f 3 (6 * w) := (od_eq hS.2.2.1 hl hw (by omega : 0 < 6)).symm
  rw [e0] at h2
  exact thereL hB hS hl (by omega) hx hw (by omega) (by omega) b1 fu fu 0 0 _ 0 0 (by omega) (by decide) rfl (by show (0 : Int32).toInt = (0 : Int); decide) b1 (by show _ = (0 : Int) + (k.f 3 (6 * w + 0)).toInt; rw [Int.zero_add]; rfl) h1 h2
end
section
/-! ===== needs, fares, who dares, what shifts ===== -/
/-- the two worlds while something is asked: what the text tells, a standing beside the row -/
noncomputable def JR (s : JS) (z : RS) : Prop := SO s.k z ∧ SR s.d (z.f 44) ∧ Big z ∧ InvR z ∧ InvK s.k ∧ z.v 45 = z.f 26 (z.v 18).toNatClampNeg
theorem VarEq.put {s : KS} {z : RS} {j : Nat} {a b : Int32} (h : VarEq s z) (e : a = b) : VarEq (s.sf 13 j a) (z.sf 40 j b) := by
  intro i hi
  have e1 : (s.sf 13 j a).f 13 i = if i = j then a else s.f 13 i := ksf_at
  have e2 : (z.sf 40 j b).f 40 i = if i = j then b else z.f 40 i := rsf_at
  rw [e1, e2, e, h i hi]
theorem fill9 {x1 : Int32} {s' : Nat → Int32} : ∀ (n : Nat) (s : Nat → Int32) (x2 : Int32) (j : Nat), x2.toInt = (j : Int) → j ≤ 9 → kJ7_fill_53178_9_5L n s x1 x2 9 = some s' → (∀ i, j ≤ i → i < 9 → s' i = x1) ∧ (∀ i, (i < j ∨ 9 ≤ i) → s' i = s i) := by
  intro n
  induction n with
  | zero => intro s x2 j _ _ h; exact none_ne h
  | succ n ih =>
    intro s x2 j h2 hj h
    replace h : kJ7_fill_53178_9_5 (kJ7_fill_53178_9_5L n) s x1 x2 9 = some s' := h
    unfold kJ7_fill_53178_9_5 at h
    by_cases c : 9 ≤ x2
    · have c' := tn_le (a := 9) (by decide) rfl c
      rw [if_pos c] at h
      cases h
      exact ⟨fun i h1 h2 => by omega, fun i _ => rfl⟩
    · have c' := tn_nle (a := 9) (by decide) rfl c
      rw [if_neg c] at h
      replace h := guard_inv h
      obtain ⟨_, h⟩ := h
      replace h := letS_inv h
      obtain ⟨s3, d3, h⟩ := h
      rw [clamp_of_int h2] at d3
      have a2 : (x2 + 1).toInt = ((j + 1 : Nat) : Int) := by
        rw [tn_add h2 (by decide : (1 : Int32).toInt = 1) (by omega) (by omega)]
        omega
      obtain ⟨q1, q2⟩ := ih s3 (x2 + 1) (j + 1) a2 (by omega) h
      refine ⟨fun i h1 h2 => ?_, fun i hi => ?_⟩
      · by_cases e : i = j
        · rw [q2 i (by omega), ← d3, e]
          exact upd_same
        · exact q1 i (by omega) h2
      · rw [q2 i (by omega), ← d3]
        exact upd_ne (by omega)
theorem ksa_at {s : KS} {k : Nat} {x : Nat → Int32} : (s.sa k x).f k = x := by
  show va_up s.f k x k = x
  exact va_up_self _ _ _
theorem clearVars_eq {s s' : JS} (h : kX0_clearVars s = some s') : s'.d = s.d ∧ FrK [113] s.k s'.k ∧ ∀ i, i < 9 → s'.k.f 13 i = if i = 5 then s.d.v 5 else 0 := by
  unfold kX0_clearVars at h
  replace h := bindP_inv h
  obtain ⟨s1, h1, h⟩ := h
  replace h := letS_inv h
  obtain ⟨s2, d2, h⟩ := h
  replace h := letS_inv h
  obtain ⟨s4, d4, h⟩ := h
  cases h
  unfold kJ7_fill_53178_9 at h1
  obtain ⟨q1, _⟩ := fill9 fu _ 0 0 (by decide) (by omega) h1
  have e2 : s2.d = s.d := by rw [← d2]; rfl
  refine ⟨by rw [← d4]; exact e2, ?_, fun i hi => ?_⟩
  · rw [← d4, ← d2]
    show FrK [113] s.k ((s.k.sa 13 s1).sf 13 5 _)
    exact (FrK.rfl.sa (k := 13) (by decide)).sf (k := 13) (by decide)
  · have e : s'.k.f 13 i = if i = 5 then s2.d.v 5 else s2.k.f 13 i := by
      rw [← d4]
      exact ksf_at
    have e3 : s2.k.f 13 = s1 := by
      rw [← d2]
      exact ksa_at
    rw [e, e2, e3, q1 i (by omega) hi]
/-- what the reference does behind its zeros -/
noncomputable def looksT (s : RS) (x1 : Int32) : Option RS := (letS (s.sf 40 5 (s.f 44 27)) fun s2 => (if 0 ≤ x1 then (if vpb ((6 * (s2.v 18)) + x1) 12 then (letS (s2.sf 40 2 (s2.f 24 (Int32.toNatClampNeg ((6 * (s2.v 18)) + x1)))) fun s6 => (if vpb ((6 * (s6.v 18)) + x1) 12 then (letS (s6.sf 40 3 (s6.f 25 (Int32.toNatClampNeg ((6 * (s6.v 18)) + x1)))) fun s9 => (letS (s9.sf 40 6 x1) fun s11 => (if vpb (21 + x1) 29 then (letS (s11.sf 40 8 (s11.f 44 (Int32.toNatClampNeg (21 + x1)))) fun s14 => (some s14)) else none))) else none)) else none) else (some s2)))
theorem looksL {x1 : Int32} {z' : RS} : ∀ (n : Nat) (z : RS) (x2 : Int32) (j : Nat), x2.toInt = (j : Int) → j ≤ 9 → r_looks_2L n z x1 x2 = some z' → ∃ y, looksT y x1 = some z' ∧ FrR [140] z y ∧ (∀ i, j ≤ i → i < 9 → y.f 40 i = 0) ∧ (∀ i, i < j → y.f 40 i = z.f 40 i) := by
  intro n
  induction n with
  | zero => intro z x2 j _ _ h; exact none_ne h
  | succ n ih =>
    intro z x2 j h2 hj h
    replace h : r_looks_2 (r_looks_2L n) z x1 x2 = some z' := h
    unfold r_looks_2 at h
    by_cases c : 9 ≤ x2
    · have c' := tn_le (a := 9) (by decide) rfl c
      rw [if_pos c] at h
      exact ⟨z, h, FrR.rfl, fun i h1 h2 => by omega, fun i _ => rfl⟩
    · have c' := tn_nle (a := 9) (by decide) rfl c
      rw [if_neg c] at h
      replace h := guard_inv h
      obtain ⟨_, h⟩ := h
      replace h := letS_inv h
      obtain ⟨z3, d3, h⟩ := h
      rw [clamp_of_int h2] at d3
      have a2 : (x2 + 1).toInt = ((j + 1 : Nat) : Int) := by
        rw [tn_add h2 (by decide : (1 : Int32).toInt = 1) (by omega) (by omega)]
        omega
      obtain ⟨y, q0, qF, q1, q2⟩ := ih z3 (x2 + 1) (j + 1) a2 (by omega) h
      have f3 : ∀ i, z3.f 40 i = if i = j then 0 else z.f 40 i := fun i => by
        rw [← d3]
        exact rsf_at
      refine ⟨y, q0, FrR.trans (t := z3) (by rw [← d3]; exact FrR.rfl.sf (by decide)) qF (by decide), fun i h1 h2 => ?_, fun i hi => ?_⟩
      · by_cases e : i = j
        · rw [q2 i (by omega), f3, if_pos e]
        · exact q1 i (by omega) h2
      · rw [q2 i (by omega), f3, if_neg (by omega)]
/-- with no party: the year alone -/
theorem vars_none {s s1 : JS} {z z1 : RS} (hy : s.d.v 5 = z.f 44 27) (h1 : kX0_clearVars s = some s1) (h2 : r_looks z (-1) = some z1) : VarEq s1.k z1 ∧ s1.d = s.d ∧ FrK [113] s.k s1.k ∧ FrR [140] z z1 := by
  obtain ⟨e1, K1, v1⟩ := clearVars_eq h1
  unfold r_looks at h2
  obtain ⟨y, q0, qF, q1, _⟩ := looksL fu z 0 0 (by decide) (by omega) h2
  unfold looksT at q0
  replace q0 := letS_inv q0
  obtain ⟨y2, d2, q0⟩ := q0
  rw [if_neg (by decide)] at q0
  cases q0
  have f44 : y.f 44 = z.f 44 := (qF.2 44 (by decide)).1
  refine ⟨fun i hi => ?_, e1, K1, qF.trans (t := y) (u := z1) (W' := [140]) (by rw [← d2]; exact FrR.rfl.sf (by decide)) (by decide)⟩
  have e2 : z1.f 40 i = if i = 5 then y.f 44 27 else y.f 40 i := by
    rw [← d2]
    exact rsf_at
  rw [v1 i hi, e2, f44, q1 i (by omega) hi, hy]
/-- with a party -/
theorem vars_party {s s1 s2 : JS} {z z1 : RS} {x : Int32} {p : Nat} (hS : SO s.k z) (hI : InvR z) (hK : InvK s.k) (hy : s.d.v 5 = z.f 44 27) (hg : s.d.f 4 p = z.f 44 (21 + p)) (hx : x.toInt = (p : Int)) (hp : (p : Int) < (s.k.v 2).toInt) (h1 : kX0_clearVars s = some s1) (h2 : kX0_setParty s1 x = some s2) (h3 : r_looks z x = some z1) : VarEq s2.k z1 ∧ s2.d = s.d ∧ FrK [113] s.k s2.k ∧ FrR [140] z z1 := by
  have bp : 0 ≤ (s.k.v 2).toInt ∧ (s.k.v 2).toInt ≤ 6 := hK.1 2
  have bl : 0 ≤ (z.v 18).toInt ∧ (z.v 18).toInt ≤ 1 := hI.1 18
  obtain ⟨l, hl⟩ : ∃ l : Nat, (z.v 18).toInt = (l : Int) := ⟨(z.v 18).toInt.toNat, by omega⟩
  obtain ⟨e1, K1, v1⟩ := clearVars_eq h1
  unfold r_looks at h3
  obtain ⟨y, q0, qF, q1, _⟩ := looksL fu z 0 0 (by decide) (by omega) h3
  unfold looksT at q0
  replace q0 := letS_inv q0
  obtain ⟨y2, d2, q0⟩ := q0
  have x0 : (0 : Int32) ≤ x := Int32.le_iff_toInt_le.mpr (by rw [show (0 : Int32).toInt = 0 from by decide]; omega)
  rw [if_pos x0] at q0
  replace q0 := guard_inv q0
  obtain ⟨_, q0⟩ := q0
  replace q0 := letS_inv q0
  obtain ⟨y6, d6, q0⟩ := q0
  replace q0 := guard_inv q0
  obtain ⟨_, q0⟩ := q0
  replace q0 := letS_inv q0
  obtain ⟨y9, d9, q0⟩ := q0
  replace q0 := letS_inv q0
  obtain ⟨y11, d11, q0⟩ := q0
  replace q0 := guard_inv q0
  obtain ⟨_, q0⟩ := q0
  replace q0 := letS_inv q0
  obtain ⟨y14, d14, q0⟩ := q0
  cases q0
  have f44 : y.f 44 = z.f 44 := (qF.2 44 (by decide)).1
  have y18 : y.v 18 = z.v 18 := qF.1 18 (by decide)
  have m1 : (6 * (z.v 18)).toInt = (z.v 18).toInt * 6 := ti_cmul (c := 6) (by decide) (by omega) (by omega)
  have m2 : ((6 * (z.v 18)) + x).toInt = ((6 * l + p : Nat) : Int) := by
    rw [ti_add (by omega) (by omega)]
    omega
  have ei := clamp_of_int m2
  have a21 : (21 + x).toInt = ((21 + p : Nat) : Int) := by
    rw [tn_add (by decide : (21 : Int32).toInt = 21) hx (by omega) (by omega)]
    omega
  unfold kX0_setParty at h2
  replace h2 := guard_inv h2
  obtain ⟨_, h2⟩ := h2
  replace h2 := letS_inv h2
  obtain ⟨t2, c2, h2⟩ := h2
  replace h2 := guard_inv h2
  obtain ⟨_, h2⟩ := h2
  replace h2 := letS_inv h2
  obtain ⟨t5, c5, h2⟩ := h2
  replace h2 := letS_inv h2
  obtain ⟨t7, c7, h2⟩ := h2
  replace h2 := guard_inv h2
  obtain ⟨_, h2⟩ := h2
  replace h2 := letS_inv h2
  obtain ⟨t10, c10, h2⟩ := h2
  cases h2
  have ec := clamp_of_int hx
  have V2 : VarEq s1.k y2 := by
    intro i hi
    have e2 : y2.f 40 i = if i = 5 then y.f 44 27 else y.f 40 i := by
      rw [← d2]
      exact rsf_at
    rw [v1 i hi, e2, f44, q1 i (by omega) hi, hy]
  have hp2 := hS.2.2.2.1 p hp
  rw [clamp_of_int hl] at hp2
  have k6 : s1.k.f 6 = s.k.f 6 := (K1.2 6 (by decide)).1
  have k7 : s1.k.f 7 = s.k.f 7 := (K1.2 7 (by decide)).1
  have y218 : y2.v 18 = z.v 18 := by rw [← d2]; exact y18
  have y224 : y2.f 24 = z.f 24 := by rw [← d2]; exact (qF.2 24 (by decide)).1
  have y225 : y2.f 25 = z.f 25 := by rw [← d2]; exact (qF.2 25 (by decide)).1
  have y244 : y2.f 44 = z.f 44 := by rw [← d2]; exact f44
  have V6 : VarEq t2.k y6 := by
    rw [← c2, ← d6]
    refine V2.put ?_
    rw [ec, k6, y218, ei, y224]
    exact hp2.1
  have t2k7 : t2.k.f 7 = s.k.f 7 := by rw [← c2]; exact k7
  have y618 : y6.v 18 = z.v 18 := by rw [← d6]; exact y218
  have y625 : y6.f 25 = z.f 25 := by rw [← d6]; exact y225
  have V9 : VarEq t5.k y9 := by
    rw [← c5, ← d9]
    refine V6.put ?_
    rw [ec, t2k7, y618, ei, y625]
    exact hp2.2
  have V11 : VarEq t7.k y11 := by
    rw [← c7, ← d11]
    exact V9.put rfl
  have t7d : t7.d = s.d := by rw [← c7, ← c5, ← c2]; exact e1
  have y1144 : y11.f 44 = z.f 44 := by rw [← d11, ← d9, ← d6]; exact y244
  refine ⟨?_, ?_, ?_, ?_⟩
  · rw [← c10, ← d14]
    refine V11.put ?_
    rw [ec, t7d, clamp_of_int a21, y1144]
    exact hg
  · rw [← c10]
    exact t7d
  · rw [← c10, ← c7, ← c5, ← c2]
    exact (((K1.sf (k := 13) (by decide)).sf (k := 13) (by decide)).sf (k := 13) (by decide)).sf (k := 13) (by decide)
  · rw [← d14, ← d11, ← d9, ← d6, ← d2]
    exact ((((qF.sf (k := 40) (by decide)).sf (k := 40) (by decide)).sf (k := 40) (by decide)).sf (k := 40) (by decide)).sf (k := 40) (by decide)
theorem MB_cg {k k' : KS} {d d' : SD} {w : Nat} (e1 : k'.f 5 = k.f 5) (e2 : d' = d) : MB k' d' w = MB k d w := by
  unfold MB
  rw [e1, e2]
theorem SO.fr {k k' : KS} {z z' : RS} {W W' : List Nat} (h : SO k z) (K : FrK W k k') (G : FrR W' z z') (hW : (1 ∉ W ∧ 2 ∉ W ∧ 3 ∉ W ∧ 4 ∉ W) ∧ (103 ∉ W ∧ 104 ∉ W ∧ 105 ∉ W ∧ 106 ∉ W ∧ 107 ∉ W) ∧ (109 ∉ W ∧ 110 ∉ W ∧ 111 ∉ W ∧ 112 ∉ W)) (hW' : (18 ∉ W' ∧ 120 ∉ W' ∧ 121 ∉ W' ∧ 123 ∉ W' ∧ 124 ∉ W' ∧ 125 ∉ W' ∧ 126 ∉ W' ∧ 146 ∉ W') ∧ ((127 ∉ W' ∧ 128 ∉ W') ∧ (130 ∉ W' ∧ 131 ∉ W' ∧ 132 ∉ W' ∧ 133 ∉ W' ∧ 134 ∉ W') ∧ 136 ∉ W' ∧ 137 ∉ W')) : SO k' z' := by
  obtain ⟨⟨w1, w2, w3, w4⟩, ⟨w5, w6, w7, w8, w9⟩, w10, w11, w12, w13⟩ := hW
  obtain ⟨⟨u1, u2, u3, u4, u5, u6, u7, u8⟩, u9⟩ := hW'
  obtain ⟨a1, a2, a3, a4, a5, a6⟩ := h
  unfold SO OD7
  rw [K.1 1 w1, K.1 2 w2, K.1 3 w3, K.1 4 w4, (K.2 3 w5).1, (K.2 4 w6).1, (K.2 5 w7).1, (K.2 6 w8).1, (K.2 7 w9).1, (K.2 9 w10).1, (K.2 10 w11).1, (K.2 11 w12).1, (K.2 12 w13).1, G.1 18 u1, (G.2 20 u2).1, (G.2 21 u3).1, (G.2 23 u4).1, (G.2 24 u5).1, (G.2 25 u6).1, (G.2 26 u7).1, (G.2 46 u8).1]
  exact ⟨a1, a2, a3, a4, a5, a6.fr G u9⟩
/-- over a wave -/
theorem vars_wave {s s2 : JS} {z z2 : RS} {x : Int32} {w : Nat} (hV : VarEq s.k z) (hS : SO s.k z) (hR : SRw s.d (z.f 44) w) (hI : InvR z) (hK : InvK s.k) (hx : x.toInt = (w : Int)) (hw : (w : Int) < (s.k.v 1).toInt) (h1 : kX0_setWave s x = some s2) (h2 : r_looksOver z x = some z2) : VarEq s2.k z2 ∧ s2.d = s.d ∧ FrK [113] s.k s2.k ∧ FrR [140] z z2 := by
  have bw : 0 ≤ (s.k.v 1).toInt ∧ (s.k.v 1).toInt ≤ 5 := hK.1 1
  unfold kX0_setWave at h1
  unfold r_looksOver at h2
  replace h1 := letS_inv h1
  obtain ⟨s1, c1, h1⟩ := h1
  replace h2 := letS_inv h2
  obtain ⟨z1, d1, h2⟩ := h2
  have V1 : VarEq s1.k z1 := by
    rw [← c1, ← d1]
    exact hV.put rfl
  have K1 : FrK [113] s.k s1.k := by rw [← c1]; exact FrK.rfl.sf (k := 13) (by decide)
  have G1 : FrR [140] z z1 := by rw [← d1]; exact FrR.rfl.sf (k := 40) (by decide)
  have e1 : s1.d = s.d := by rw [← c1]; rfl
  have S1 : SO s1.k z1 := hS.fr K1 G1 (by decide) (by decide)
  have R1 : SRw s1.d (z1.f 44) w := by rw [e1, (G1.2 44 (by decide)).1]; exact hR
  have I1 : InvR z1 := by rw [← d1]; exact hI.sfF (k := 40) rfl rfl
  have Ik1 : InvK s1.k := by rw [← c1]; exact hK.sfF (k := 13) rfl rfl
  have hw1 : (w : Int) < (s1.k.v 1).toInt := by rw [K1.1 1 (by decide)]; exact hw
  rw [k_may hx (by omega), bindI_some, k_bits_eq, bindP_some] at h1
  replace h2 := bindI_inv h2
  obtain ⟨q, z3, hq, h2⟩ := h2
  obtain ⟨ez, eq⟩ := may_same S1 R1 I1 Ik1 hx hw1 hq
  subst ez
  rw [r_bits_eq, bindP_some] at h2
  replace h1 := letS_inv h1
  obtain ⟨s6, c6, h1⟩ := h1
  replace h2 := letS_inv h2
  obtain ⟨z6, d6, h2⟩ := h2
  replace h1 := guard_inv h1
  obtain ⟨_, h1⟩ := h1
  replace h2 := guard_inv h2
  obtain ⟨_, h2⟩ := h2
  have sm := MB_small S1 R1 Ik1 hw1
  have V6 : VarEq s6.k z6 := by
    rw [← c6, ← d6]
    refine V1.put ?_
    rw [eq]
    exact (bits_same sm.1 sm.2).1
  rw [k_bits_eq, bindP_some] at h1
  rw [r_bits_eq, bindP_some] at h2
  replace h1 := letS_inv h1
  obtain ⟨s10, c10, h1⟩ := h1
  replace h2 := letS_inv h2
  obtain ⟨z10, d10, h2⟩ := h2
  cases h1
  cases h2
  have e6 : s6.d = s.d := by rw [← c6]; exact e1
  have f44 : z6.f 44 = z.f 44 := by rw [← d6]; exact (G1.2 44 (by decide)).1
  obtain ⟨_, hb1, hb2⟩ := hR
  refine ⟨?_, by rw [← c10]; exact e6, ?_, ?_⟩
  · rw [← c10, ← d10]
    refine V6.put ?_
    rw [clamp_of_int hx, e6, f44, hb1]
    exact (bits_same hb2.1 hb2.2).1
  · rw [← c10, ← c6]
    exact (K1.sf (k := 13) (by decide)).sf (k := 13) (by decide)
  · rw [← d10, ← d6]
    exact (G1.sf (k := 40) (by decide)).sf (k := 40) (by decide)
theorem held_same {m x r1 r2 : Int32} (hm : 0 ≤ m.toInt) (h1 : kX10_heldTo m x = some r1) (h2 : r_within x 0 m = some r2) : r1 = r2 := by
  unfold kX10_heldTo at h1
  unfold r_within at h2
  have e1 : r1 = mmax 0 (mmin m x) := by cases h1; rfl
  rw [e1]
  have z0 : (0 : Int32).toInt = 0 := by decide
  have q := ti_mmin m x
  have q2 := ti_mmax 0 (mmin m x)
  by_cases c : 0 ≤ x
  · have c' := tn_le z0 rfl c
    rw [if_pos c] at h2
    by_cases d : x ≤ m
    · have d' := ti_le d
      rw [if_pos d] at h2
      cases h2
      exact Int32.toInt_inj.mp (by omega)
    · have d' := ti_nle d
      rw [if_neg d] at h2
      cases h2
      exact Int32.toInt_inj.mp (by omega)
  · have c' := tn_nle z0 rfl c
    rw [if_neg c] at h2
    cases h2
    exact Int32.toInt_inj.mp (by omega)
/-- a law is asked, the variables being set -/
theorem law_ask {k k' : KS} {z z' : RS} {x1 xp r1 r2 : Int32} {cl : Nat} (hS : SO k z) (hI : InvR z) (hV : VarEq k z) (e1 : x1.toInt = (cl : Int)) (hcl : cl < 4) (hp : xp = dfv cl (z.f 40)) (h1 : kX1_valueOf k x1 = some (r1, k')) (h2 : r_lawTells z x1 xp = some (r2, z')) : r1 = r2 ∧ FrK [7, 114] k k' ∧ FrR [42, 141] z z' := by
  have bl : 0 ≤ (z.v 18).toInt ∧ (z.v 18).toInt ≤ 1 := hI.1 18
  obtain ⟨l, hl⟩ : ∃ l : Nat, (z.v 18).toInt = (l : Int) := ⟨(z.v 18).toInt.toNat, by omega⟩
  have hL := hS.2.2.2.2.2 cl hcl
  rw [clamp_of_int hl] at hL
  have hL2 := hL.keep (hib' := 260) (fun _ _ => rfl) (fun _ _ _ => rfl) rfl rfl (fun _ _ _ => rfl) (fun _ _ _ => ⟨rfl, rfl, rfl, rfl, rfl⟩) rfl rfl (Int.le_refl _) (Int.le_refl _) (by omega)
  exact law_same hL2 hl (by omega) e1 hcl hV hp h1 h2
/-- what a query leaves: the standing, and of the rest all but the scratch -/
noncomputable abbrev WSK : List Nat := [7, 113, 114]
noncomputable abbrev WSZ : List Nat := [42, 140, 141]
noncomputable def KeptJ (s s' : JS) (z z' : RS) : Prop := s'.d = s.d ∧ FrK WSK s.k s'.k ∧ FrR WSZ z z'
theorem KeptJ.rfl {s : JS} {z : RS} : KeptJ s s z z := ⟨Eq.refl _, FrK.rfl, FrR.rfl⟩
theorem KeptJ.trans {s t u : JS} {x y z : RS} (h : KeptJ s t x y) (h2 : KeptJ t u y z) : KeptJ s u x z := ⟨h2.1.trans h.1, h.2.1.trans h2.2.1 (fun _ q => q), h.2.2.trans h2.2.2 (fun _ q => q)⟩
theorem KeptJ.jr {s s' : JS} {z z' : RS} (h : KeptJ s s' z z') (hJ : JR s z) (hK : InvK s'.k) (hI : InvR z') : JR s' z' := by
  obtain ⟨e, K, G⟩ := h
  obtain ⟨a1, a2, a3, a4, a5, a6⟩ := hJ
  refine ⟨a1.fr K G (by decide) (by decide), by rw [e, (G.2 44 (by decide)).1]; exact a2, a3.fr G (by decide), hI, hK, ?_⟩
  rw [G.1 45 (by decide), G.1 18 (by decide), (G.2 26 (by decide)).1]
  exact a6
/-- what a party's needs over a wave look at -/
noncomputable def NRw (s : JS) (z : RS) (p w : Nat) : Prop := SO s.k z ∧ InvR z ∧ InvK s.k ∧ s.d.v 5 = z.f 44 27 ∧ s.d.f 4 p = z.f 44 (21 + p) ∧ SRw s.d (z.f 44) w
theorem JR.nr {s : JS} {z : RS} {p w : Nat} (h : JR s z) (hp : p < 6) (hw : w < 5) : NRw s z p w := ⟨h.1, h.2.2.2.1, h.2.2.2.2.1, h.2.1.2.2.1, (h.2.1.2.1 p hp).2, h.2.1.at hw⟩
theorem need_same {s s' : JS} {z z' : RS} {x1 x2 x3 r1 r2 : Int32} {p w v : Nat} (hN : NRw s z p w) (e1 : x1.toInt = (p : Int)) (hp : (p : Int) < (s.k.v 2).toInt) (e2 : x2.toInt = (w : Int)) (hw : (w : Int) < (s.k.v 1).toInt) (e3 : x3.toInt = (v : Int)) (hv : v < 6) (h1 : kX0_needOf s x1 x2 x3 = some (r1, s')) (h2 : r_needsOf z x1 x2 x3 = some (r2, z')) : r1 = r2 ∧ KeptJ s s' z z' := by
  obtain ⟨hS, hI, hK, hy, hg, hR⟩ := hN
  have bw : 0 ≤ (s.k.v 1).toInt ∧ (s.k.v 1).toInt ≤ 5 := hK.1 1
  have bl : 0 ≤ (z.v 18).toInt ∧ (z.v 18).toInt ≤ 1 := hI.1 18
  obtain ⟨l, hl⟩ : ∃ l : Nat, (z.v 18).toInt = (l : Int) := ⟨(z.v 18).toInt.toNat, by omega⟩
  unfold kX0_needOf at h1
  unfold r_needsOf at h2
  replace h1 := bindP_inv h1
  obtain ⟨s1, p1, h1⟩ := h1
  replace h1 := bindP_inv h1
  obtain ⟨s2, p2, h1⟩ := h1
  replace h1 := bindP_inv h1
  obtain ⟨s3, p3, h1⟩ := h1
  replace h2 := bindP_inv h2
  obtain ⟨z1, q1, h2⟩ := h2
  replace h2 := bindP_inv h2
  obtain ⟨z2, q2, h2⟩ := h2
  obtain ⟨V2, d2, K2, G1⟩ := vars_party hS hI hK hy hg e1 hp p1 p2 q1
  have S2 : SO s2.k z1 := hS.fr K2 G1 (by decide) (by decide)
  have R2 : SRw s2.d (z1.f 44) w := by rw [d2, (G1.2 44 (by decide)).1]; exact hR
  obtain ⟨y1, f1, i1, _⟩ := ok_kX0_clearVars s hK
  rw [p1] at f1
  cases f1
  have x1b : x1.toInt ≤ 5 := by
    have : (s.k.v 2).toInt ≤ 6 := (hK.1 2).2
    omega
  obtain ⟨y2, f2, i2, _⟩ := ok_kX0_setParty s1 x1 i1 (by omega) (by omega)
  rw [p2] at f2
  cases f2
  obtain ⟨w1, g1, j1, _⟩ := ok_r_looks z x1 hI (by omega) (by omega)
  rw [q1] at g1
  cases g1
  have hw2 : (w : Int) < (s2.k.v 1).toInt := by rw [K2.1 1 (by decide)]; exact hw
  obtain ⟨V3, d3, K3, G2⟩ := vars_wave V2 S2 R2 j1 i2 e2 hw2 p3 q2
  have K23 : FrK [113] s.k s3.k := K2.trans K3 (by decide)
  have G12 : FrR [140] z z2 := G1.trans G2 (by decide)
  have S3 : SO s3.k z2 := hS.fr K23 G12 (by decide) (by decide)
  rw [k_odds e2 (by omega) e3 hv, bindI_some] at h1
  replace h1 := letS_inv h1
  obtain ⟨s6, c6, h1⟩ := h1
  replace h1 := letS_inv h1
  obtain ⟨s8, c8, h1⟩ := h1
  replace h1 := bindI_inv h1
  obtain ⟨r11, k10, p11, h1⟩ := h1
  replace h1 := letS_inv h1
  obtain ⟨s12, c12, h1⟩ := h1
  replace h1 := bindP_inv h1
  obtain ⟨r14, p14, h1⟩ := h1
  replace h2 := bindI_inv h2
  obtain ⟨o4, z3, q4, h2⟩ := h2
  have hl2 : (z2.v 18).toInt = (l : Int) := by rw [G12.1 18 (by decide)]; exact hl
  obtain ⟨ez, eo⟩ := r_odds_inv hl2 (by omega) e2 (by omega) e3 hv q4
  subst ez
  replace h2 := letS_inv h2
  obtain ⟨z5, d5, h2⟩ := h2
  replace h2 := bindI_inv h2
  obtain ⟨r8, z7, q8, h2⟩ := h2
  replace h2 := bindP_inv h2
  obtain ⟨r9, q9, h2⟩ := h2
  have eod : s3.k.f 3 (6 * w + v) = o4 := by
    have hw3 : (w : Int) < (s3.k.v 1).toInt := by rw [K23.1 1 (by decide)]; exact hw
    rw [od_eq S3.2.2.1 hl2 hw3 hv, eo]
    exact congrArg (z3.f 21) (by omega)
  have k6 : s6 = s3 := by rw [← c6]; rfl
  have V8 : VarEq s8.k z5 := by
    rw [← c8, ← d5, k6]
    exact V3.put eod
  have K8 : FrK [113] s.k s8.k := by
    rw [← c8, k6]
    exact K23.sf (k := 13) (by decide)
  have G5 : FrR [140] z z5 := by
    rw [← d5]
    exact G12.sf (k := 40) (by decide)
  have S8 : SO s8.k z5 := hS.fr K8 G5 (by decide) (by decide)
  have d8 : s8.d = s.d := by
    rw [← c8, k6]
    exact d3.trans d2
  obtain ⟨w2, g2, j2, _⟩ := ok_r_looksOver z1 x2 j1 (by omega) (by omega)
  rw [q2] at g2
  cases g2
  have I5 : InvR z5 := by rw [← d5]; exact j2.sfF (k := 40) rfl rfl
  obtain ⟨er, K10, G7⟩ := law_ask (cl := 0) S8 I5 V8 (by decide) (by omega) (by unfold dfv; rw [if_pos rfl]) p11 q8
  subst er
  have e14 := held_same (m := 9) (by decide) p14 q9
  have a1 : r1 = r14 ∧ s' = s12 := by cases h1; exact ⟨rfl, rfl⟩
  have a2 : r2 = r9 ∧ z' = z7 := by cases h2; exact ⟨rfl, rfl⟩
  refine ⟨by rw [a1.1, a2.1, e14], ?_, ?_, ?_⟩
  · rw [a1.2, ← c12]
    exact d8
  · rw [a1.2, ← c12]
    exact (FrK.rfl.trans K8 (by decide)).trans K10 (by decide)
  · rw [a2.2]
    exact (FrR.rfl.trans G5 (by decide)).trans G7 (by decide)
end
section
/-! ===== fares, who dares, what shifts, what bears ===== -/
theorem fare_same {s s' : JS} {z z' : RS} {x r1 r2 : Int32} {p : Nat} (hJ : JR s z) (e1 : x.toInt = (p : Int)) (hp : (p : Int) < (s.k.v 2).toInt) (h1 : kX0_fareOf s x = some (r1, s')) (h2 : r_faresOf z x = some (r2, z')) : r1 = r2 ∧ KeptJ s s' z z' := by
  have bp : 0 ≤ (s.k.v 2).toInt ∧ (s.k.v 2).toInt ≤ 6 := hJ.2.2.2.2.1.1 2
  unfold kX0_fareOf at h1
  unfold r_faresOf at h2
  replace h1 := bindP_inv h1
  obtain ⟨s1, p1, h1⟩ := h1
  replace h1 := bindP_inv h1
  obtain ⟨s2, p2, h1⟩ := h1
  replace h1 := bindI_inv h1
  obtain ⟨r4, k3, p4, h1⟩ := h1
  replace h1 := letS_inv h1
  obtain ⟨s5, c5, h1⟩ := h1
  replace h1 := bindP_inv h1
  obtain ⟨r7, p7, h1⟩ := h1
  replace h2 := bindP_inv h2
  obtain ⟨z1, q1, h2⟩ := h2
  replace h2 := bindI_inv h2
  obtain ⟨r3, z2, q3, h2⟩ := h2
  replace h2 := bindP_inv h2
  obtain ⟨t4, q4, h2⟩ := h2
  obtain ⟨V2, d2, K2, G1⟩ := vars_party hJ.1 hJ.2.2.2.1 hJ.2.2.2.2.1 hJ.2.1.2.2.1 (hJ.2.1.2.1 p (by omega)).2 e1 hp p1 p2 q1
  have S2 : SO s2.k z1 := hJ.1.fr K2 G1 (by decide) (by decide)
  obtain ⟨w1, g1, j1, _⟩ := ok_r_looks z x hJ.2.2.2.1 (by omega) (by omega)
  rw [q1] at g1
  cases g1
  obtain ⟨er, K3, G2⟩ := law_ask (cl := 1) S2 j1 V2 (by decide) (by omega) (by unfold dfv; rw [if_neg (by decide), if_neg (by decide)]) p4 q3
  subst er
  have e7 := held_same (m := 99) (by decide) p7 q4
  have a1 : r1 = r7 ∧ s' = s5 := by cases h1; exact ⟨rfl, rfl⟩
  have a2 : r2 = t4 ∧ z' = z2 := by cases h2; exact ⟨rfl, rfl⟩
  refine ⟨by rw [a1.1, a2.1, e7], ?_, ?_, ?_⟩
  · rw [a1.2, ← c5]
    exact d2
  · rw [a1.2, ← c5]
    exact (FrK.rfl.trans K2 (by decide)).trans K3 (by decide)
  · rw [a2.2]
    exact (FrR.rfl.trans G1 (by decide)).trans G2 (by decide)
theorem dare_same {s s' : JS} {z z' : RS} {x r1 r2 : Int32} {p : Nat} (hJ : JR s z) (e1 : x.toInt = (p : Int)) (hp : (p : Int) < (s.k.v 2).toInt) (h1 : kX0_isDaring s x = some (r1, s')) (h2 : r_doesDare z x = some (r2, z')) : r1 = r2 ∧ KeptJ s s' z z' := by
  have bp : 0 ≤ (s.k.v 2).toInt ∧ (s.k.v 2).toInt ≤ 6 := hJ.2.2.2.2.1.1 2
  unfold kX0_isDaring at h1
  unfold r_doesDare at h2
  replace h1 := bindP_inv h1
  obtain ⟨s1, p1, h1⟩ := h1
  replace h1 := bindP_inv h1
  obtain ⟨s2, p2, h1⟩ := h1
  replace h1 := bindI_inv h1
  obtain ⟨r4, k3, p4, h1⟩ := h1
  replace h1 := letS_inv h1
  obtain ⟨s5, c5, h1⟩ := h1
  replace h2 := bindP_inv h2
  obtain ⟨z1, q1, h2⟩ := h2
  replace h2 := bindI_inv h2
  obtain ⟨r3, z2, q3, h2⟩ := h2
  obtain ⟨V2, d2, K2, G1⟩ := vars_party hJ.1 hJ.2.2.2.1 hJ.2.2.2.2.1 hJ.2.1.2.2.1 (hJ.2.1.2.1 p (by omega)).2 e1 hp p1 p2 q1
  have S2 : SO s2.k z1 := hJ.1.fr K2 G1 (by decide) (by decide)
  obtain ⟨w1, g1, j1, _⟩ := ok_r_looks z x hJ.2.2.2.1 (by omega) (by omega)
  rw [q1] at g1
  cases g1
  obtain ⟨er, K3, G2⟩ := law_ask (cl := 2) S2 j1 V2 (by decide) (by omega) (by unfold dfv; rw [if_neg (by decide), if_neg (by decide)]) p4 q3
  subst er
  have a : r1 = r2 ∧ s' = s5 ∧ z' = z2 := by
    by_cases c : r4 ≤ 0
    · rw [if_pos c] at h1 h2
      cases h1
      cases h2
      exact ⟨rfl, rfl, rfl⟩
    · rw [if_neg c] at h1 h2
      cases h1
      cases h2
      exact ⟨rfl, rfl, rfl⟩
  refine ⟨a.1, ?_, ?_, ?_⟩
  · rw [a.2.1, ← c5]
    exact d2
  · rw [a.2.1, ← c5]
    exact (FrK.rfl.trans K2 (by decide)).trans K3 (by decide)
  · rw [a.2.2]
    exact (FrR.rfl.trans G1 (by decide)).trans G2 (by decide)
theorem shift_same {s s' : JS} {z z' : RS} {x r1 r2 : Int32} {w : Nat} (hS : SO s.k z) (hI : InvR z) (hK : InvK s.k) (hy : s.d.v 5 = z.f 44 27) (hR : SRw s.d (z.f 44) w) (e1 : x.toInt = (w : Int)) (hw : (w : Int) < (s.k.v 1).toInt) (h1 : kX0_shiftsOf s x = some (r1, s')) (h2 : r_shiftsOf z x = some (r2, z')) : r1 = r2 ∧ KeptJ s s' z z' := by
  have bw : 0 ≤ (s.k.v 1).toInt ∧ (s.k.v 1).toInt ≤ 5 := hK.1 1
  unfold kX0_shiftsOf at h1
  unfold r_shiftsOf at h2
  replace h1 := bindP_inv h1
  obtain ⟨s1, p1, h1⟩ := h1
  replace h1 := bindP_inv h1
  obtain ⟨s2, p2, h1⟩ := h1
  replace h1 := bindI_inv h1
  obtain ⟨r4, k3, p4, h1⟩ := h1
  replace h1 := letS_inv h1
  obtain ⟨s5, c5, h1⟩ := h1
  replace h1 := bindP_inv h1
  obtain ⟨r7, p7, h1⟩ := h1
  replace h2 := bindP_inv h2
  obtain ⟨z1, q1, h2⟩ := h2
  replace h2 := bindP_inv h2
  obtain ⟨z2, q2, h2⟩ := h2
  replace h2 := bindI_inv h2
  obtain ⟨t4, z3, q4, h2⟩ := h2
  replace h2 := bindP_inv h2
  obtain ⟨t5, q5, h2⟩ := h2
  obtain ⟨V1, d1, K1, G1⟩ := vars_none hy p1 q1
  have S1 : SO s1.k z1 := hS.fr K1 G1 (by decide) (by decide)
  have R1 : SRw s1.d (z1.f 44) w := by rw [d1, (G1.2 44 (by decide)).1]; exact hR
  obtain ⟨y1, f1, i1, _⟩ := ok_kX0_clearVars s hK
  rw [p1] at f1
  cases f1
  obtain ⟨w1, g1, j1, _⟩ := ok_r_looks z (-1) hI (by decide) (by decide)
  rw [q1] at g1
  cases g1
  have hw1 : (w : Int) < (s1.k.v 1).toInt := by rw [K1.1 1 (by decide)]; exact hw
  obtain ⟨V2, d2, K2, G2⟩ := vars_wave V1 S1 R1 j1 i1 e1 hw1 p2 q2
  obtain ⟨w2, g2, j2, _⟩ := ok_r_looksOver z1 x j1 (by omega) (by omega)
  rw [q2] at g2
  cases g2
  have K12 : FrK [113] s.k s2.k := K1.trans K2 (by decide)
  have G12 : FrR [140] z z2 := G1.trans G2 (by decide)
  have S2 : SO s2.k z2 := hS.fr K12 G12 (by decide) (by decide)
  obtain ⟨er, K3, G3⟩ := law_ask (cl := 3) S2 j2 V2 (by decide) (by omega) (by unfold dfv; rw [if_neg (by decide), if_pos rfl]) p4 q4
  subst er
  have e7 := held_same (m := 100) (by decide) p7 q5
  have a1 : r1 = r7 ∧ s' = s5 := by cases h1; exact ⟨rfl, rfl⟩
  have a2 : r2 = t5 ∧ z' = z3 := by cases h2; exact ⟨rfl, rfl⟩
  refine ⟨by rw [a1.1, a2.1, e7], ?_, ?_, ?_⟩
  · rw [a1.2, ← c5]
    exact d2.trans d1
  · rw [a1.2, ← c5]
    exact (FrK.rfl.trans K12 (by decide)).trans K3 (by decide)
  · rw [a2.2]
    exact (FrR.rfl.trans G12 (by decide)).trans G3 (by decide)
/-! the things of a guess -/
noncomputable def tg (g w : Nat) : Nat := g / 6 ^ w % 6
theorem tg_lt (g w : Nat) : tg g w < 6 := Nat.mod_lt _ (by omega)
theorem k_thingL {x1 r : Int32} {w : Nat} (h1 : x1.toInt = (w : Int)) (hw : w ≤ 5) : ∀ (n : Nat) (x2 x3 : Int32) (j m : Nat), x3.toInt = (j : Int) → j ≤ w → x2.toInt = (m : Int) → kX10_thingIn_4L n x1 x2 x3 = some r → r.toInt = ((m / 6 ^ (w - j) % 6 : Nat) : Int) := by
  intro n
  induction n with
  | zero => intro x2 x3 j m _ _ _ h; exact none_ne h
  | succ n ih =>
    intro x2 x3 j m h3 hj h2 h
    replace h : kX10_thingIn_4 (kX10_thingIn_4L n) x1 x2 x3 = some r := h
    unfold kX10_thingIn_4 at h
    by_cases c : x1 ≤ x3
    · have c' := ti_le c
      have ej : w - j = 0 := by omega
      rw [if_pos c] at h
      have e : r = x2 - x2 / 6 * 6 := by cases h; rfl
      rw [e, ej, ti_remc (c := 6) (by decide) (by omega) (by omega), h2]
      simp
    · have c' := ti_nle c
      rw [if_neg c] at h
      have a3 : (x3 + 1).toInt = ((j + 1 : Nat) : Int) := by
        rw [tn_add h3 (by decide : (1 : Int32).toInt = 1) (by omega) (by omega)]
        omega
      have a2 : (x2 / 6).toInt = ((m / 6 : Nat) : Int) := by
        rw [ti_divc (c := 6) (by decide) (by omega) (by omega), h2]
        omega
      have r1 := ih (x2 / 6) (x3 + 1) (j + 1) (m / 6) a3 (by omega) a2 h
      rw [r1]
      have e1 : w - j = (w - (j + 1)) + 1 := by omega
      rw [e1, Nat.pow_succ, Nat.mul_comm, ← Nat.div_div_eq_div_mul]
theorem k_thing {x0 x1 r : Int32} {g w : Nat} (h0 : x0.toInt = (g : Int)) (h1 : x1.toInt = (w : Int)) (hw : w ≤ 5) (h : kX10_thingIn x0 x1 = some r) : r.toInt = (tg g w : Int) := by
  unfold kX10_thingIn at h
  have q := k_thingL h1 hw fu x0 0 0 g (by decide) (by omega) h0 h
  rw [Nat.sub_zero] at q
  exact q
theorem six_pow (w : Nat) (h : w ≤ 5) : (six6 w).toInt = ((6 ^ w : Nat) : Int) := by
  rcases (show w = 0 ∨ w = 1 ∨ w = 2 ∨ w = 3 ∨ w = 4 ∨ w = 5 by omega) with e | e | e | e | e | e <;> (rw [e]; decide)
theorem r_thing {z z' : RS} {x1 x2 r : Int32} {g w : Nat} (h6 : ∀ j, j < 6 → z.f 46 j = six6 j) (h0 : x1.toInt = (g : Int)) (h1 : x2.toInt = (w : Int)) (hw : w ≤ 5) (h : r_thingAt z x1 x2 = some (r, z')) : z' = z ∧ r.toInt = (tg g w : Int) := by
  unfold r_thingAt at h
  replace h := guard_inv h
  obtain ⟨_, h⟩ := h
  replace h := guard_inv h
  obtain ⟨_, h⟩ := h
  rw [clamp_of_int h1, h6 w (by omega)] at h
  have e : r = (x1 / six6 w) - (x1 / six6 w) / 6 * 6 ∧ z' = z := by cases h; exact ⟨rfl, rfl⟩
  refine ⟨e.2, ?_⟩
  have sp := six_pow w hw
  have pp : 0 < 6 ^ w := Nat.pow_pos (by omega)
  have a : (x1 / six6 w).toInt = ((g / 6 ^ w : Nat) : Int) := by
    rw [ti_div (by omega) (by omega), h0, sp]
    exact (Int.natCast_ediv g (6 ^ w)).symm
  have a0 : 0 ≤ (x1 / six6 w).toInt := by rw [a]; exact Int.natCast_nonneg _
  rw [e.1, ti_remc (c := 6) (by decide) a0 (by omega), a]
  unfold tg
  generalize g / 6 ^ w = m
  omega
theorem bear_same {s s' : JS} {z z' : RS} {x1 x2 x3 r1 r2 : Int32} {p w v : Nat} (hN : NRw s z p w) (e1 : x1.toInt = (p : Int)) (hp : (p : Int) < (s.k.v 2).toInt) (e2 : x2.toInt = (w : Int)) (hw : (w : Int) < (s.k.v 1).toInt) (e3 : x3.toInt = (v : Int)) (hv : v < 6) (h1 : kX0_isBearing s x1 x2 x3 = some (r1, s')) (h2 : r_doesBear z x1 x2 x3 = some (r2, z')) : r1 = r2 ∧ KeptJ s s' z z' := by
  have bw : 0 ≤ (s.k.v 1).toInt ∧ (s.k.v 1).toInt ≤ 5 := hN.2.2.1.1 1
  have bl : 0 ≤ (z.v 18).toInt ∧ (z.v 18).toInt ≤ 1 := hN.2.1.1 18
  obtain ⟨l, hl⟩ : ∃ l : Nat, (z.v 18).toInt = (l : Int) := ⟨(z.v 18).toInt.toNat, by omega⟩
  unfold kX0_isBearing at h1
  unfold r_doesBear at h2
  rw [k_odds e2 (by omega) e3 hv, bindI_some] at h1
  replace h1 := letS_inv h1
  obtain ⟨s3, c3, h1⟩ := h1
  replace h1 := bindI_inv h1
  obtain ⟨r6, s5, p6, h1⟩ := h1
  replace h2 := bindI_inv h2
  obtain ⟨o2, z1, q2, h2⟩ := h2
  obtain ⟨ez, eo⟩ := r_odds_inv hl (by omega) e2 (by omega) e3 hv q2
  subst ez
  replace h2 := bindI_inv h2
  obtain ⟨r4, z3, q4, h2⟩ := h2
  have es3 : s3 = s := by rw [← c3]; rfl
  rw [es3] at p6
  obtain ⟨er, kp⟩ := need_same hN e1 hp e2 hw e3 hv p6 q4
  subst er
  have eod : s.k.f 3 (6 * w + v) = o2 := by
    rw [od_eq hN.1.2.2.1 hl hw hv, eo]
    exact congrArg (z1.f 21) (by omega)
  rw [eod] at h1
  by_cases c : o2 < r6
  · rw [if_pos c] at h1 h2
    cases h1
    cases h2
    exact ⟨rfl, kp⟩
  · rw [if_neg c] at h1 h2
    cases h1
    cases h2
    exact ⟨rfl, kp⟩
/-- a query's end: the two worlds again -/
theorem KeptJ.on {s s' : JS} {z z' : RS} (h : KeptJ s s' z z') (hJ : JR s z) : InvK s'.k → InvR z' → JR s' z' := fun a b => h.jr hJ a b
theorem need_jr {s s' : JS} {z z' : RS} {x1 x2 x3 r1 r2 : Int32} {p w v : Nat} (hJ : JR s z) (e1 : x1.toInt = (p : Int)) (hp : (p : Int) < (s.k.v 2).toInt) (e2 : x2.toInt = (w : Int)) (hw : (w : Int) < (s.k.v 1).toInt) (e3 : x3.toInt = (v : Int)) (hv : v < 6) (h1 : kX0_needOf s x1 x2 x3 = some (r1, s')) (h2 : r_needsOf z x1 x2 x3 = some (r2, z')) : JR s' z' := by
  have bw : 0 ≤ (s.k.v 1).toInt ∧ (s.k.v 1).toInt ≤ 5 := hJ.2.2.2.2.1.1 1
  have bp : 0 ≤ (s.k.v 2).toInt ∧ (s.k.v 2).toInt ≤ 6 := hJ.2.2.2.2.1.1 2
  obtain ⟨y, f, i, _⟩ := ok_kX0_needOf s x1 x2 x3 hJ.2.2.2.2.1 (by omega) (by omega) (by omega) (by omega) (by omega) (by omega)
  rw [h1] at f
  cases f
  obtain ⟨u, g, j, _⟩ := ok_r_needsOf z x1 x2 x3 hJ.2.2.2.1 hJ.2.2.1 (by omega) (by omega) (by omega) (by omega) (by omega) (by omega)
  rw [h2] at g
  cases g
  exact (need_same (hJ.nr (by omega) (by omega)) e1 hp e2 hw e3 hv h1 h2).2.jr hJ i j
theorem bear_jr {s s' : JS} {z z' : RS} {x1 x2 x3 r1 r2 : Int32} {p w v : Nat} (hJ : JR s z) (e1 : x1.toInt = (p : Int)) (hp : (p : Int) < (s.k.v 2).toInt) (e2 : x2.toInt = (w : Int)) (hw : (w : Int) < (s.k.v 1).toInt) (e3 : x3.toInt = (v : Int)) (hv : v < 6) (h1 : kX0_isBearing s x1 x2 x3 = some (r1, s')) (h2 : r_doesBear z x1 x2 x3 = some (r2, z')) : JR s' z' := by
  have bw : 0 ≤ (s.k.v 1).toInt ∧ (s.k.v 1).toInt ≤ 5 := hJ.2.2.2.2.1.1 1
  have bp : 0 ≤ (s.k.v 2).toInt ∧ (s.k.v 2).toInt ≤ 6 := hJ.2.2.2.2.1.1 2
  obtain ⟨y, f, i, _⟩ := ok_kX0_isBearing s x1 x2 x3 hJ.2.2.2.2.1 (by omega) (by omega) (by omega) (by omega) (by omega) (by omega)
  rw [h1] at f
  cases f
  obtain ⟨u, g, j, _⟩ := ok_r_doesBear z x1 x2 x3 hJ.2.2.2.1 hJ.2.2.1 (by omega) (by omega) (by omega) (by omega) (by omega) (by omega)
  rw [h2] at g
  cases g
  exact (bear_same (hJ.nr (by omega) (by omega)) e1 hp e2 hw e3 hv h1 h2).2.jr hJ i j
/-- over how many waves a guess bears a party -/
theorem borneL {x1 x2 r1 r2 : Int32} {p g : Nat} {s' : JS} {z' : RS} (e1 : x1.toInt = (p : Int)) (e2 : x2.toInt = (g : Int)) {s0 : JS} {z0 : RS} : ∀ (n m : Nat) (s : JS) (z : RS) (x : Int32) (j : Nat), JR s z → KeptJ s0 s z0 z → (p : Int) < (s.k.v 2).toInt → x.toInt = (j : Int) → (j : Int) ≤ (s.k.v 1).toInt → kX2_borneOver_3L n s x1 x2 x = some (r1, s') → r_bearsBy_2L m z x1 x2 x = some (r2, z') → r1 = r2 ∧ KeptJ s0 s' z0 z' ∧ JR s' z' := by
  intro n
  induction n with
  | zero => intro m s z x j _ _ _ _ _ h; exact none_ne h
  | succ n ih =>
    intro m s z x j hJ hk hp ex hj hs hz
    replace hs : kX2_borneOver_3 (kX2_borneOver_3L n) s x1 x2 x = some (r1, s') := hs
    cases m with
    | zero => exact none_ne hz
    | succ m =>
    replace hz : r_bearsBy_2 (r_bearsBy_2L m) z x1 x2 x = some (r2, z') := hz
    have bw : 0 ≤ (s.k.v 1).toInt ∧ (s.k.v 1).toInt ≤ 5 := hJ.2.2.2.2.1.1 1
    have bp : (s.k.v 2).toInt ≤ 6 := (hJ.2.2.2.2.1.1 2).2
    unfold kX2_borneOver_3 at hs
    unfold r_bearsBy_2 at hz
    replace hz := guard_inv hz
    obtain ⟨_, hz⟩ := hz
    rw [← hJ.1.1.1] at hz
    by_cases c : s.k.v 1 ≤ x
    · rw [if_pos c] at hs hz
      have a1 : r1 = x ∧ s' = s := by cases hs; exact ⟨rfl, rfl⟩
      have a2 : r2 = x ∧ z' = z := by cases hz; exact ⟨rfl, rfl⟩
      rw [a1.1, a2.1, a1.2, a2.2]
      exact ⟨rfl, hk, hJ⟩
    · have c' := ti_nle c
      rw [if_neg c] at hs hz
      replace hs := bindP_inv hs
      obtain ⟨t1, u1, hs⟩ := hs
      replace hs := bindI_inv hs
      obtain ⟨t4, s3, u4, hs⟩ := hs
      replace hz := bindI_inv hz
      obtain ⟨y4, z3, w4, hz⟩ := hz
      replace hz := bindI_inv hz
      obtain ⟨y6, z5, w6, hz⟩ := hz
      have q1 := k_thing e2 ex (by omega) u1
      obtain ⟨ez, q2⟩ := r_thing hJ.1.2.1 e2 ex (by omega) w4
      subst ez
      have et : t1 = y4 := Int32.toInt_inj.mp (q1.trans q2.symm)
      subst et
      obtain ⟨er, kp⟩ := bear_same (hJ.nr (by omega) (by omega)) e1 hp ex (by omega) q1 (tg_lt g j) u4 w6
      have J5 := bear_jr hJ e1 hp ex (by omega) q1 (tg_lt g j) u4 w6
      subst er
      by_cases d : t4 = 0
      · rw [if_pos d] at hs hz
        have a1 : r1 = x ∧ s' = s3 := by cases hs; exact ⟨rfl, rfl⟩
        have a2 : r2 = x ∧ z' = z5 := by cases hz; exact ⟨rfl, rfl⟩
        rw [a1.1, a2.1, a1.2, a2.2]
        exact ⟨rfl, hk.trans kp, J5⟩
      · rw [if_neg d] at hs hz
        have a : (x + 1).toInt = ((j + 1 : Nat) : Int) := by
          rw [tn_add ex (by decide : (1 : Int32).toInt = 1) (by omega) (by omega)]
          omega
        exact ih m s3 z5 (x + 1) (j + 1) J5 (hk.trans kp) (by rw [kp.2.1.1 2 (by decide)]; exact hp) a (by rw [kp.2.1.1 1 (by decide)]; omega) hs hz
theorem borne_same {s s' : JS} {z z' : RS} {x1 x2 r1 r2 : Int32} {p g : Nat} (hJ : JR s z) (e1 : x1.toInt = (p : Int)) (hp : (p : Int) < (s.k.v 2).toInt) (e2 : x2.toInt = (g : Int)) (h1 : kX2_borneOver s x1 x2 = some (r1, s')) (h2 : r_bearsBy z x1 x2 = some (r2, z')) : r1 = r2 ∧ KeptJ s s' z z' ∧ JR s' z' := by
  have bw : 0 ≤ (s.k.v 1).toInt ∧ (s.k.v 1).toInt ≤ 5 := hJ.2.2.2.2.1.1 1
  unfold kX2_borneOver at h1
  unfold r_bearsBy at h2
  exact borneL e1 e2 fu fu s z 0 0 hJ KeptJ.rfl hp (by decide) (by omega) h1 h2
end
section
/-! ===== numbers made of things ===== -/
noncomputable def dsum (D : Nat → Nat) : Nat → Nat
  | 0 => 0
  | n + 1 => dsum D n + 6 ^ n * D n
noncomputable def hsum (D : Nat → Nat) : Nat → Nat → Nat
  | _, 0 => 0
  | j, m + 1 => D j + 6 * hsum D (j + 1) m
theorem dsum_lt {D : Nat → Nat} : ∀ n, (∀ w, w < n → D w < 6) → dsum D n < 6 ^ n := by
  intro n
  induction n with
  | zero => intro _; exact Nat.lt_of_lt_of_le Nat.zero_lt_one (Nat.le_refl _)
  | succ n ih =>
    intro h
    have i := ih (fun w hw => h w (by omega))
    have d := h n (by omega)
    have e : 6 ^ (n + 1) = 6 ^ n * 6 := Nat.pow_succ _ _
    have q : 6 ^ n * D n ≤ 6 ^ n * 5 := Nat.mul_le_mul_left _ (by omega)
    show dsum D n + 6 ^ n * D n < 6 ^ (n + 1)
    rw [e]
    omega
theorem tg_dsum {D : Nat → Nat} : ∀ n, (∀ w, w < n → D w < 6) → ∀ w, w < n → tg (dsum D n) w = D w := by
  intro n
  induction n with
  | zero => intro _ w hw; omega
  | succ n ih =>
    intro h w hw
    have i := ih (fun w hw => h w (by omega))
    have l := dsum_lt n (fun w hw => h w (by omega))
    have pp : 0 < 6 ^ n := Nat.pow_pos (by omega)
    unfold tg
    show (dsum D n + 6 ^ n * D n) / 6 ^ w % 6 = D w
    by_cases e : w = n
    · subst e
      rw [Nat.add_mul_div_left _ _ pp, Nat.div_eq_of_lt l, Nat.zero_add]
      exact Nat.mod_eq_of_lt (h w (by omega))
    · obtain ⟨m, em⟩ : ∃ m, n = w + 1 + m := ⟨n - (w + 1), by omega⟩
      have pw : 0 < 6 ^ w := Nat.pow_pos (by omega)
      have e6 : 6 ^ n * D n = 6 ^ w * (6 * (6 ^ m * D n)) := by
        rw [em, Nat.pow_add, Nat.pow_add, Nat.pow_one, Nat.mul_assoc, Nat.mul_assoc]
      rw [e6, Nat.add_mul_div_left _ _ pw, Nat.add_mul_mod_self_left]
      exact i w (by omega)
theorem hsum_dsum {D : Nat → Nat} : ∀ m j, dsum D (j + m) = dsum D j + 6 ^ j * hsum D j m := by
  intro m
  induction m with
  | zero => intro j; rfl
  | succ m ih =>
    intro j
    have e : j + (m + 1) = (j + 1) + m := by omega
    rw [e, ih (j + 1)]
    show dsum D j + 6 ^ j * D j + 6 ^ (j + 1) * hsum D (j + 1) m = dsum D j + 6 ^ j * (D j + 6 * hsum D (j + 1) m)
    rw [Nat.mul_add, Nat.pow_succ, Nat.mul_assoc, Nat.add_assoc]
theorem hsum_lt {D : Nat → Nat} : ∀ m j, (∀ w, j ≤ w → w < j + m → D w < 6) → hsum D j m < 6 ^ m := by
  intro m
  induction m with
  | zero => intro j _; exact Nat.lt_of_lt_of_le Nat.zero_lt_one (Nat.le_refl _)
  | succ m ih =>
    intro j h
    have i := ih (j + 1) (fun w h1 h2 => h w (by omega) (by omega))
    have d := h j (by omega) (by omega)
    have e : 6 ^ (m + 1) = 6 ^ m * 6 := Nat.pow_succ _ _
    show D j + 6 * hsum D (j + 1) m < 6 ^ (m + 1)
    rw [e]
    omega
/-- the thing that the reference finds over a wave -/
noncomputable def Dw (z : RS) (w : Nat) : Nat := match r_thereAt z (Int32.ofNat w) with
  | some (r, _) => r.toInt.toNat
  | none => 0
theorem Dw_of {z z' : RS} {x r : Int32} {w : Nat} (hx : x.toInt = (w : Int)) (h : r_thereAt z x = some (r, z')) : Dw z w = r.toInt.toNat := by
  unfold Dw
  rw [← eq_ofnat hx, h]
theorem Dw_inv {z z' : RS} {x r : Int32} {w : Nat} (hI : InvR z) (hB : Big z) (hx : x.toInt = (w : Int)) (hw : (w : Int) < wv z) (hw5 : w < 5) (h : r_thereAt z x = some (r, z')) : z' = z ∧ r.toInt = (Dw z w : Int) ∧ Dw z w < 6 := by
  obtain ⟨y, f, _, F, r0, r5⟩ := ok_r_thereAt z x hI hB (by omega) (by omega) (by omega)
  rw [h] at f
  cases f
  have e := Dw_of hx h
  have r0 : 0 ≤ r.toInt := r0
  have r5 : r.toInt ≤ 5 := r5
  exact ⟨FrR.eq F, by omega, by omega⟩
theorem Dw_lt {z : RS} {w : Nat} (hI : InvR z) (hB : Big z) (hw : (w : Int) < wv z) (hw5 : w < 5) : Dw z w < 6 := by
  obtain ⟨y, f, _, F, r0, r5⟩ := ok_r_thereAt z (Int32.ofNat w) hI hB (by rw [ofnat_int (by omega)]; omega) (by rw [ofnat_int (by omega)]; omega) (by rw [ofnat_int (by omega)]; omega)
  have e := Dw_of (ofnat_int (by omega)) f
  omega
theorem mul_six {r : Int32} (j : Nat) (hj : j ≤ 5) (h0 : 0 ≤ r.toInt) (h5 : r.toInt ≤ 5) : (six6 j * r).toInt = ((6 ^ j : Nat) : Int) * r.toInt := by
  rcases (show j = 0 ∨ j = 1 ∨ j = 2 ∨ j = 3 ∨ j = 4 ∨ j = 5 by omega) with e | e | e | e | e | e <;> subst e
  · rw [ti_cmul (c := 1) (by decide) (by omega) (by omega), Int.mul_comm]; rfl
  · rw [ti_cmul (c := 6) (by decide) (by omega) (by omega), Int.mul_comm]; rfl
  · rw [ti_cmul (c := 36) (by decide) (by omega) (by omega), Int.mul_comm]; rfl
  · rw [ti_cmul (c := 216) (by decide) (by omega) (by omega), Int.mul_comm]; rfl
  · rw [ti_cmul (c := 1296) (by decide) (by omega) (by omega), Int.mul_comm]; rfl
  · rw [ti_cmul (c := 7776) (by decide) (by omega) (by omega), Int.mul_comm]; rfl
theorem pow_le (w : Nat) (h : w ≤ 5) : 6 ^ w ≤ 7776 := by
  rcases (show w = 0 ∨ w = 1 ∨ w = 2 ∨ w = 3 ∨ w = 4 ∨ w = 5 by omega) with e | e | e | e | e | e <;> (rw [e]; decide)
theorem r_numberL {z z' : RS} {r : Int32} {n : Nat} (hI : InvR z) (hB : Big z) (h6 : ∀ j, j < 6 → z.f 46 j = six6 j) (hn : wv z = (n : Int)) (hn5 : n ≤ 5) : ∀ (m : Nat) (x1 x2 : Int32) (j : Nat), x2.toInt = (j : Int) → j ≤ n → x1.toInt = (dsum (Dw z) j : Int) → r_thereNumber_4L m z x1 x2 = some (r, z') → z' = z ∧ r.toInt = (dsum (Dw z) n : Int) := by
  intro m
  induction m with
  | zero => intro x1 x2 j _ _ _ h; exact none_ne h
  | succ m ih =>
    intro x1 x2 j h2 hj h1 h
    replace h : r_thereNumber_4 (r_thereNumber_4L m) z x1 x2 = some (r, z') := h
    unfold r_thereNumber_4 at h
    replace h := guard_inv h
    obtain ⟨_, h⟩ := h
    have hwv : (z.f 20 (z.v 18).toNatClampNeg).toInt = (n : Int) := hn
    by_cases c : z.f 20 (z.v 18).toNatClampNeg ≤ x2
    · have c' := ti_le c
      have ej : j = n := by omega
      rw [if_pos c] at h
      have e : r = x1 ∧ z' = z := by cases h; exact ⟨rfl, rfl⟩
      rw [e.1, e.2, ← ej]
      exact ⟨rfl, h1⟩
    · have c' := ti_nle c
      rw [if_neg c] at h
      replace h := guard_inv h
      obtain ⟨_, h⟩ := h
      replace h := bindI_inv h
      obtain ⟨q, z4, hq, h⟩ := h
      obtain ⟨ez, eq, lt⟩ := Dw_inv hI hB h2 (by omega) (by omega) hq
      subst ez
      rw [clamp_of_int h2, h6 j (by omega)] at h
      have a2 : (x2 + 1).toInt = ((j + 1 : Nat) : Int) := by
        rw [tn_add h2 (by decide : (1 : Int32).toInt = 1) (by omega) (by omega)]
        omega
      have ms := mul_six j (by omega) (by omega : 0 ≤ q.toInt) (by omega)
      have dl := dsum_lt (D := Dw z4) j (fun w hw => Dw_lt hI hB (by omega) (by omega))
      have pl := pow_le j (by omega)
      have e1 : ((6 ^ j : Nat) : Int) * q.toInt = ((6 ^ j * Dw z4 j : Nat) : Int) := by
        rw [eq, Int.natCast_mul]
      have ub : 6 ^ j * Dw z4 j ≤ 7776 * 5 := Nat.mul_le_mul pl (by omega)
      refine ih (x1 + six6 j * q) (x2 + 1) (j + 1) a2 (by omega) ?_ h
      show (x1 + six6 j * q).toInt = ((dsum (Dw z4) j + 6 ^ j * Dw z4 j : Nat) : Int)
      rw [ti_add (by omega) (by omega), ms, e1, h1]
      omega
theorem r_number {z z' : RS} {r : Int32} {n : Nat} (hI : InvR z) (hB : Big z) (h6 : ∀ j, j < 6 → z.f 46 j = six6 j) (hn : wv z = (n : Int)) (hn5 : n ≤ 5) (h : r_thereNumber z = some (r, z')) : z' = z ∧ r.toInt = (dsum (Dw z) n : Int) := by
  unfold r_thereNumber at h
  exact r_numberL hI hB h6 hn hn5 fu 0 0 0 (by decide) (by omega) (by show (0 : Int32).toInt = ((0 : Nat) : Int); decide) h
/-- the class's number, from the last wave down -/
theorem k_numberL {k : KS} {d : SD} {z : RS} {s' : JS} {sd r : Int32} {n : Nat} (hS : SO k z) (hI : InvR z) (hK : InvK k) (hB : Big z) (hn : (k.v 1).toInt = (n : Int)) (hsh : ∀ w, w < 5 → d.f 2 w = z.f 44 (10 + w)) (hsd : sd = z.v 45) : ∀ (m : Nat) (x3 x4 : Int32) (j : Nat), j ≤ n → x4.toInt = (j : Int) - 1 → x3.toInt = (hsum (Dw z) j (n - j) : Int) → kX0_guessThere_13L m (JS.mk k d) sd x3 x4 = some (r, s') → s' = JS.mk k d ∧ r.toInt = (dsum (Dw z) n : Int) := by
  have bw : 0 ≤ (k.v 1).toInt ∧ (k.v 1).toInt ≤ 5 := hK.1 1
  have hwv : wv z = (n : Int) := by
    unfold wv
    rw [← hS.1.1]
    exact hn
  intro m
  induction m with
  | zero => intro x3 x4 j _ _ _ h; exact none_ne h
  | succ m ih =>
    intro x3 x4 j hj h4 h3 h
    replace h : kX0_guessThere_13 (kX0_guessThere_13L m) (JS.mk k d) sd x3 x4 = some (r, s') := h
    unfold kX0_guessThere_13 at h
    by_cases c : x4 < 0
    · have c' := tn_lt (b := 0) rfl (by decide) c
      have ej : j = 0 := by omega
      rw [if_pos c] at h
      have e : r = x3 ∧ s' = JS.mk k d := by cases h; exact ⟨rfl, rfl⟩
      refine ⟨e.2, ?_⟩
      rw [e.1, h3, ej]
      have q := hsum_dsum (D := Dw z) n 0
      rw [Nat.zero_add] at q
      have q : dsum (Dw z) n = 0 + 1 * hsum (Dw z) 0 n := q
      rw [q, Nat.sub_zero]
      omega
    · have c' := tn_nlt (b := 0) rfl (by decide) c
      rw [if_neg c] at h
      replace h := guard_inv h
      obtain ⟨_, h⟩ := h
      obtain ⟨i, ei⟩ : ∃ i, j = i + 1 := ⟨j - 1, by omega⟩
      subst ei
      have e4 : x4.toInt = (i : Int) := by omega
      replace h := bindI_inv h
      obtain ⟨q, k3, hq, h⟩ := h
      replace h := letS_inv h
      obtain ⟨s5, c5, h⟩ := h
      obtain ⟨⟨y2, z2⟩, f2, _⟩ := ok_r_thereAt z x4 hI hB (by omega) (by omega) (by omega)
      replace hq : kX5_thingThere k x4 (d.f 2 x4.toNatClampNeg) sd = some (q, k3) := hq
      rw [clamp_of_int e4] at hq
      obtain ⟨er, ek, ez, _⟩ := there_same hB hS hI hK e4 (by omega) (hsh i (by omega)) hsd hq f2
      obtain ⟨_, eq, lt⟩ := Dw_inv hI hB e4 (by omega) (by omega) f2
      have es5 : s5 = JS.mk k d := by rw [← c5, ek]; rfl
      subst es5
      have a4 : (x4 + (-1)).toInt = x4.toInt + (-1) := tn_add rfl (by decide) (by omega) (by omega)
      generalize x4 + (-1) = y4 at a4 h
      have hl := hsum_lt (D := Dw z) (n - (i + 1)) (i + 1) (fun w h1 h2 => Dw_lt hI hB (by omega) (by omega))
      have pl := pow_le (n - (i + 1)) (by omega)
      have m6 : (x3 * 6).toInt = x3.toInt * 6 := ti_mulc (c := 6) (by decide) (by omega) (by omega)
      have ns : n - i = (n - (i + 1)) + 1 := by omega
      refine ih ((x3 * 6) + q) y4 i (by omega) (by omega) ?_ h
      have eh : hsum (Dw z) i (n - i) = Dw z i + 6 * hsum (Dw z) (i + 1) (n - (i + 1)) := by rw [ns]; rfl
      have eqq : q.toInt = (Dw z i : Int) := by rw [er]; exact eq
      rw [eh, ti_add (by omega) (by omega), m6, h3, eqq]
      omega
end
section
/-! ===== a standing and its row, cell by cell ===== -/
theorem sdf_at {s : SD} {k i j : Nat} {x : Int32} : (s.sf k i x).f k j = if j = i then x else s.f k j := by
  show va_up s.f k (upd (s.f k) i x) k j = _
  unfold va_up
  rw [if_pos rfl]
  rfl
theorem SR.set0 {d : SD} {f f' : Nat → Int32} {w : Nat} {x y : Int32} (h : SR d f) (hw : w < 5) (hx : FoR x y) (hf : ∀ i, f' i = if i = 5 + w then y else f i) : SR (d.sf 0 w x) f' := by
  obtain ⟨a, b, c, e⟩ := h
  refine ⟨fun u hu => ?_, fun p hp => ?_, ?_, ?_⟩
  · obtain ⟨a1, a2, a3, a4⟩ := a u hu
    have q : (d.sf 0 w x).f 0 u = if u = w then x else d.f 0 u := sdf_at
    rw [hf u, if_neg (by omega), hf (10 + u), if_neg (by omega), hf (5 + u), q]
    by_cases e : u = w
    · rw [if_pos e, if_pos (by omega)]; exact ⟨hx, a2, a3, a4⟩
    · rw [if_neg e, if_neg (by omega)]; exact ⟨a1, a2, a3, a4⟩
  · rw [hf (15 + p), if_neg (by omega), hf (21 + p), if_neg (by omega)]; exact b p hp
  · rw [hf 27, if_neg (by omega)]; exact c
  · rw [hf 28, if_neg (by omega)]; exact e
theorem SR.set1 {d : SD} {f f' : Nat → Int32} {w : Nat} {x y : Int32} (h : SR d f) (hw : w < 5) (hx : x = y) (h0 : 0 ≤ y.toInt) (h1 : y.toInt ≤ 63) (hf : ∀ i, f' i = if i = w then y else f i) : SR (d.sf 1 w x) f' := by
  obtain ⟨a, b, c, e⟩ := h
  refine ⟨fun u hu => ?_, fun p hp => ?_, ?_, ?_⟩
  · obtain ⟨a1, a2, a3, a4⟩ := a u hu
    have q : (d.sf 1 w x).f 1 u = if u = w then x else d.f 1 u := sdf_at
    rw [hf (5 + u), if_neg (by omega), hf (10 + u), if_neg (by omega), hf u, q]
    by_cases e : u = w
    · rw [if_pos e, if_pos (by omega)]; exact ⟨a1, hx, ⟨h0, h1⟩, a4⟩
    · rw [if_neg e, if_neg (by omega)]; exact ⟨a1, a2, a3, a4⟩
  · rw [hf (15 + p), if_neg (by omega), hf (21 + p), if_neg (by omega)]; exact b p hp
  · rw [hf 27, if_neg (by omega)]; exact c
  · rw [hf 28, if_neg (by omega)]; exact e
theorem SR.set2 {d : SD} {f f' : Nat → Int32} {w : Nat} {x y : Int32} (h : SR d f) (hw : w < 5) (hx : x = y) (hf : ∀ i, f' i = if i = 10 + w then y else f i) : SR (d.sf 2 w x) f' := by
  obtain ⟨a, b, c, e⟩ := h
  refine ⟨fun u hu => ?_, fun p hp => ?_, ?_, ?_⟩
  · obtain ⟨a1, a2, a3, a4⟩ := a u hu
    have q : (d.sf 2 w x).f 2 u = if u = w then x else d.f 2 u := sdf_at
    rw [hf (5 + u), if_neg (by omega), hf u, if_neg (by omega), hf (10 + u), q]
    by_cases e : u = w
    · rw [if_pos e, if_pos (by omega)]; exact ⟨a1, a2, a3, hx⟩
    · rw [if_neg e, if_neg (by omega)]; exact ⟨a1, a2, a3, a4⟩
  · rw [hf (15 + p), if_neg (by omega), hf (21 + p), if_neg (by omega)]; exact b p hp
  · rw [hf 27, if_neg (by omega)]; exact c
  · rw [hf 28, if_neg (by omega)]; exact e
theorem SR.set3 {d : SD} {f f' : Nat → Int32} {p : Nat} {x y : Int32} (h : SR d f) (hp : p < 6) (hx : x = y) (hf : ∀ i, f' i = if i = 15 + p then y else f i) : SR (d.sf 3 p x) f' := by
  obtain ⟨a, b, c, e⟩ := h
  refine ⟨fun u hu => ?_, fun q hq => ?_, ?_, ?_⟩
  · rw [hf (5 + u), if_neg (by omega), hf u, if_neg (by omega), hf (10 + u), if_neg (by omega)]; exact a u hu
  · obtain ⟨b1, b2⟩ := b q hq
    have s : (d.sf 3 p x).f 3 q = if q = p then x else d.f 3 q := sdf_at
    rw [hf (21 + q), if_neg (by omega), hf (15 + q), s]
    by_cases e : q = p
    · rw [if_pos e, if_pos (by omega)]; exact ⟨hx, b2⟩
    · rw [if_neg e, if_neg (by omega)]; exact ⟨b1, b2⟩
  · rw [hf 27, if_neg (by omega)]; exact c
  · rw [hf 28, if_neg (by omega)]; exact e
theorem SR.set4 {d : SD} {f f' : Nat → Int32} {p : Nat} {x y : Int32} (h : SR d f) (hp : p < 6) (hx : x = y) (hf : ∀ i, f' i = if i = 21 + p then y else f i) : SR (d.sf 4 p x) f' := by
  obtain ⟨a, b, c, e⟩ := h
  refine ⟨fun u hu => ?_, fun q hq => ?_, ?_, ?_⟩
  · rw [hf (5 + u), if_neg (by omega), hf u, if_neg (by omega), hf (10 + u), if_neg (by omega)]; exact a u hu
  · obtain ⟨b1, b2⟩ := b q hq
    have s : (d.sf 4 p x).f 4 q = if q = p then x else d.f 4 q := sdf_at
    rw [hf (15 + q), if_neg (by omega), hf (21 + q), s]
    by_cases e : q = p
    · rw [if_pos e, if_pos (by omega)]; exact ⟨b1, hx⟩
    · rw [if_neg e, if_neg (by omega)]; exact ⟨b1, b2⟩
  · rw [hf 27, if_neg (by omega)]; exact c
  · rw [hf 28, if_neg (by omega)]; exact e
theorem SR.setv5 {d : SD} {f f' : Nat → Int32} {x y : Int32} (h : SR d f) (hx : x = y) (hf : ∀ i, f' i = if i = 27 then y else f i) : SR (d.sv 5 x) f' := by
  obtain ⟨a, b, c, e⟩ := h
  refine ⟨fun u hu => ?_, fun q hq => ?_, ?_, ?_⟩
  · rw [hf (5 + u), if_neg (by omega), hf u, if_neg (by omega), hf (10 + u), if_neg (by omega)]; exact a u hu
  · rw [hf (15 + q), if_neg (by omega), hf (21 + q), if_neg (by omega)]; exact b q hq
  · rw [hf 27, if_pos rfl]; exact hx
  · rw [hf 28, if_neg (by omega)]; exact e
theorem SR.setv6 {d : SD} {f f' : Nat → Int32} {x y : Int32} (h : SR d f) (hx : x = y) (hf : ∀ i, f' i = if i = 28 then y else f i) : SR (d.sv 6 x) f' := by
  obtain ⟨a, b, c, e⟩ := h
  refine ⟨fun u hu => ?_, fun q hq => ?_, ?_, ?_⟩
  · rw [hf (5 + u), if_neg (by omega), hf u, if_neg (by omega), hf (10 + u), if_neg (by omega)]; exact a u hu
  · rw [hf (15 + q), if_neg (by omega), hf (21 + q), if_neg (by omega)]; exact b q hq
  · rw [hf 27, if_neg (by omega)]; exact c
  · rw [hf 28, if_pos rfl]; exact hx
theorem r44_at {z t : RS} {i : Nat} {x : Int32} (h : z.sf 44 i x = t) : ∀ j, t.f 44 j = if j = i then x else z.f 44 j := fun j => by
  rw [← h]
  exact rsf_at
/-- what is found has odds -/
noncomputable def FO (k : KS) (d : SD) : Prop := ∀ w v : Nat, (w : Int) < (k.v 1).toInt → (d.f 0 w).toInt = (v : Int) → 0 < (k.f 3 (6 * w + v)).toInt
/-- over how many waves the reference says that a guess bears, wave by wave -/
theorem bears_inv {x1 x2 rb : Int32} {g n : Nat} {z' : RS} (h10 : 0 ≤ x1.toInt) (h15 : x1.toInt ≤ 5) (e2 : x2.toInt = (g : Int)) (hn5 : n ≤ 5) {z0 : RS} (h6 : ∀ j, j < 6 → z0.f 46 j = six6 j) (hn : wv z0 = (n : Int)) (hB0 : Big z0) : ∀ (m : Nat) (z : RS) (x : Int32) (j : Nat), FrR WSZ z0 z → InvR z → x.toInt = (j : Int) → j ≤ n → r_bearsBy_2L m z x1 x2 x = some (rb, z') → ∃ B : Nat, rb.toInt = (B : Int) ∧ j ≤ B ∧ B ≤ n ∧ FrR WSZ z0 z' ∧ InvR z' ∧ (∀ i, j ≤ i → i ≤ B → i < n → ∃ zi zi' ri, FrR WSZ z0 zi ∧ InvR zi ∧ r_doesBear zi x1 (Int32.ofNat i) (Int32.ofNat (tg g i)) = some (ri, zi') ∧ (i < B → ¬ ri = 0) ∧ (i = B → ri = 0)) := by
  intro m
  induction m with
  | zero => intro z x j _ _ _ _ h; exact none_ne h
  | succ m ih =>
    intro z x j F I ex hj h
    replace h : r_bearsBy_2 (r_bearsBy_2L m) z x1 x2 x = some (rb, z') := h
    have hwz : (z.f 20 (z.v 18).toNatClampNeg).toInt = (n : Int) := by
      rw [(F.2 20 (by decide)).1, F.1 18 (by decide)]
      exact hn
    unfold r_bearsBy_2 at h
    replace h := guard_inv h
    obtain ⟨_, h⟩ := h
    by_cases c : z.f 20 (z.v 18).toNatClampNeg ≤ x
    · have c' := ti_le c
      rw [if_pos c] at h
      have a : rb = x ∧ z' = z := by cases h; exact ⟨rfl, rfl⟩
      rw [a.1, a.2]
      exact ⟨j, ex, by omega, hj, F, I, fun i h1 h2 h3 => by omega⟩
    · have c' := ti_nle c
      rw [if_neg c] at h
      replace h := bindI_inv h
      obtain ⟨y4, z3, w4, h⟩ := h
      replace h := bindI_inv h
      obtain ⟨y6, z5, w6, h⟩ := h
      have h6z : ∀ j, j < 6 → z.f 46 j = six6 j := by
        rw [(F.2 46 (by decide)).1]
        exact h6
      obtain ⟨ez, q2⟩ := r_thing h6z e2 ex (by omega) w4
      subst ez
      have tl := tg_lt g j
      obtain ⟨u, gu, Iu, Fu, u0, u1⟩ := ok_r_doesBear z3 x1 x y4 I (hB0.fr F (by decide)) h10 h15 (by omega) (by omega) (by omega) (by omega)
      rw [w6] at gu
      cases gu
      have F5 : FrR WSZ z0 z5 := F.trans Fu (fun _ q => q)
      have me : r_doesBear z3 x1 (Int32.ofNat j) (Int32.ofNat (tg g j)) = some (y6, z5) := by
        rw [← eq_ofnat ex, ← eq_ofnat q2]
        exact w6
      by_cases d : y6 = 0
      · rw [if_pos d] at h
        have a : rb = x ∧ z' = z5 := by cases h; exact ⟨rfl, rfl⟩
        rw [a.1, a.2]
        refine ⟨j, ex, by omega, hj, F5, Iu, fun i h1 h2 h3 => ?_⟩
        obtain rfl : i = j := by omega
        exact ⟨z3, z5, y6, F, I, me, fun q => by omega, fun _ => d⟩
      · rw [if_neg d] at h
        have a : (x + 1).toInt = ((j + 1 : Nat) : Int) := by
          rw [tn_add ex (by decide : (1 : Int32).toInt = 1) (by omega) (by omega)]
          omega
        obtain ⟨B, b1, b2, b3, b4, b5, b6⟩ := ih z5 (x + 1) (j + 1) F5 Iu a (by omega) h
        refine ⟨B, b1, by omega, b3, b4, b5, fun i h1 h2 h3 => ?_⟩
        by_cases e : i = j
        · subst e
          exact ⟨z3, z5, y6, F, I, me, fun _ => d, fun q => by omega⟩
        · exact b6 i (by omega) h2 h3
theorem sd_comm {d : SD} {a b i j : Nat} {x y : Int32} (h : ¬ a = b) : (d.sf a i x).sf b j y = (d.sf b j y).sf a i x := by
  have h' : ¬ b = a := fun q => h q.symm
  show ((d.1, va_up (va_up d.2 a (upd (d.2 a) i x)) b (upd (va_up d.2 a (upd (d.2 a) i x) b) j y)) : SD) = (d.1, va_up (va_up d.2 b (upd (d.2 b) j y)) a (upd (va_up d.2 b (upd (d.2 b) j y) a) i x))
  rw [va_up_ne _ _ h', va_up_ne _ _ h]
  refine congrArg (fun f => ((d.1, f) : SD)) (funext (fun k => ?_))
  by_cases e1 : k = a
  · have n1 : ¬ k = b := fun q => h (e1.symm.trans q)
    rw [va_up_ne _ _ n1, e1, va_up_self, va_up_self]
  · rw [va_up_ne (va_up d.2 b (upd (d.2 b) j y)) _ e1]
    by_cases e2 : k = b
    · rw [e2, va_up_self, va_up_self]
    · rw [va_up_ne _ _ e2, va_up_ne _ _ e2, va_up_ne _ _ e1]
theorem send_end {s s' : JS} {x2 x3 x4 x5 x6 r : Int32} (n : Nat) (hx : ¬ x4 = 2) (h : kX0_sendBy_24L n s x2 x3 x4 x5 x6 = some (r, s')) : kX0_sendBy_119 s x2 x4 x5 = some (r, s') := by
  cases n with
  | zero => exact none_ne h
  | succ n =>
    replace h : kX0_sendBy_24 (kX0_sendBy_24L n) s x2 x3 x4 x5 x6 = some (r, s') := h
    unfold kX0_sendBy_24 at h
    by_cases c : s.k.v 1 ≤ x6
    · rw [if_pos c] at h; exact h
    · rw [if_neg c, if_neg hx] at h; exact h
theorem send_119 {s s' : JS} {x2 x4 x5 r : Int32} {p : Nat} (e2 : x2.toInt = (p : Int)) (h : kX0_sendBy_119 s x2 x4 x5 = some (r, s')) : r = x5 ∧ s'.k = s.k ∧ s'.d = (s.d.sf 4 p ((s.d.f 4 p) + 1)).sf 3 p x4 := by
  unfold kX0_sendBy_119 at h
  rw [clamp_of_int e2] at h
  replace h := guard_inv h
  obtain ⟨_, h⟩ := h
  replace h := letS_inv h
  obtain ⟨s2, d2, h⟩ := h
  replace h := guard_inv h
  obtain ⟨_, h⟩ := h
  replace h := guard_inv h
  obtain ⟨_, h⟩ := h
  replace h := letS_inv h
  obtain ⟨s6, d6, h⟩ := h
  cases h
  exact ⟨rfl, by rw [← d6, ← d2]; rfl, by rw [sd_comm (by decide), ← d6, ← d2]; rfl⟩
end
section
/-! ===== a party goes ===== -/
/-- where a party stands on both sides while it goes: the reference has counted the go already -/
noncomputable def SGo (s : JS) (z : RS) (p : Nat) : Prop := SR (s.d.sf 4 p ((s.d.f 4 p) + 1)) (z.f 44)
theorem send_row {x1 x2 x3 xb r1 r2 : Int32} {p g n B : Nat} {s0 s' : JS} {z0 z' : RS} (e1 : x1.toInt = (p : Int)) (hp6 : p < 6) (e2 : x2.toInt = (g : Int)) (e3 : x3.toInt = (dsum (Dw z0) n : Int)) (eb : xb.toInt = (B : Int)) (hBn : B ≤ n) (hn5 : n ≤ 5)
    (hS0 : SO s0.k z0) (hR0 : SR s0.d (z0.f 44)) (hI0 : InvR z0) (hB0 : Big z0) (hK0 : InvK s0.k) (hn : (s0.k.v 1).toInt = (n : Int)) (hp : (p : Int) < (s0.k.v 2).toInt) (h45 : s0.k.v 4 = z0.v 45) (hst : s0.d.f 3 p = 0)
    (hbr : ∀ i, i ≤ B → i < n → ∃ zi zi' ri, FrR WSZ z0 zi ∧ InvR zi ∧ r_doesBear zi x1 (Int32.ofNat i) (Int32.ofNat (tg g i)) = some (ri, zi') ∧ (i < B → ¬ ri = 0) ∧ (i = B → ri = 0)) :
    ∀ (m m2 : Nat) (s : JS) (z : RS) (x : Int32) (j : Nat), x.toInt = (j : Int) → j ≤ B → FrK WSK s0.k s.k → InvK s.k → FrR (144 :: WSZ) z0 z → SGo s z p → FO s.k s.d → (s.d.f 4 p = z0.f 44 (21 + p) ∧ s.d.v 5 = z0.f 44 27 ∧ s.d.f 3 p = 0 ∧ (∀ w, s.d.f 2 w = s0.d.f 2 w)) → (∀ i, j ≤ i → i < 5 → z.f 44 i = z0.f 44 i ∧ z.f 44 (5 + i) = z0.f 44 (5 + i)) → kX0_sendBy_24L m s x1 x2 2 x x = some (r1, s') → r_goesBy_39L m2 z x1 x2 x3 xb x = some (r2, z') → r1 = r2 ∧ FrK WSK s0.k s'.k ∧ FrR (144 :: WSZ) z0 z' ∧ SR s'.d (z'.f 44) ∧ FO s'.k s'.d := by
  have hwv : wv z0 = (n : Int) := by
    unfold wv
    rw [← hS0.1.1]
    exact hn
  have h60 := hS0.2.1
  intro m
  induction m with
  | zero => intro m2 s z x j _ _ _ _ _ _ _ _ _ h; exact none_ne h
  | succ m ih =>
    intro m2 s z x j ex hj K I F hG hF hD hrow hs hz
    replace hs : kX0_sendBy_24 (kX0_sendBy_24L m) s x1 x2 2 x x = some (r1, s') := hs
    cases m2 with
    | zero => exact none_ne hz
    | succ m2 =>
    replace hz : r_goesBy_39 (r_goesBy_39L m2) z x1 x2 x3 xb x = some (r2, z') := hz
    have hwk : (s.k.v 1).toInt = (n : Int) := by rw [K.1 1 (by decide)]; exact hn
    have ez20 : z.f 20 (z.v 18).toNatClampNeg = s.k.v 1 := by
      rw [(F.2 20 (by decide)).1, F.1 18 (by decide), K.1 1 (by decide)]
      exact hS0.1.1.symm
    have h6z : ∀ j, j < 6 → z.f 46 j = six6 j := by
      rw [(F.2 46 (by decide)).1]
      exact h60
    have a15 : (15 + x1).toInt = ((15 + p : Nat) : Int) := by
      rw [tn_add (by decide : (15 : Int32).toInt = 15) e1 (by omega) (by omega)]
      omega
    have c15 := clamp_of_int a15
    unfold kX0_sendBy_24 at hs
    unfold r_goesBy_39 at hz
    replace hz := guard_inv hz
    obtain ⟨_, hz⟩ := hz
    rw [ez20] at hz
    by_cases c : s.k.v 1 ≤ x
    · -- it is over
      have c' := ti_le c
      rw [if_pos c] at hs hz
      replace hz := guard_inv hz
      obtain ⟨_, hz⟩ := hz
      replace hz := letS_inv hz
      obtain ⟨z4, g4, hz⟩ := hz
      replace hz := guard_inv hz
      obtain ⟨_, hz⟩ := hz
      obtain ⟨q1, q2, q3⟩ := send_119 e1 hs
      rw [c15] at g4
      have f4 := r44_at g4
      have e20 : z4.f 20 (z4.v 18).toNatClampNeg = s.k.v 1 := by rw [← g4]; exact ez20
      have a2 : r2 = z4.f 20 (z4.v 18).toNatClampNeg ∧ z' = z4 := by cases hz; exact ⟨rfl, rfl⟩
      have exv : x = s.k.v 1 := Int32.toInt_inj.mp (by omega)
      refine ⟨by rw [q1, a2.1, e20, exv], by rw [q2]; exact K, ?_, ?_, ?_⟩
      · rw [a2.2, ← g4]
        exact F.sf (by decide)
      · rw [q3, a2.2]
        exact SR.set3 (d := s.d.sf 4 p ((s.d.f 4 p) + 1)) hG hp6 rfl f4
      · rw [q2, q3]
        exact hF
    · have c' := ti_nle c
      rw [if_neg c, if_pos rfl] at hs
      rw [if_neg c] at hz
      replace hs := bindP_inv hs
      obtain ⟨t, ut, hs⟩ := hs
      replace hs := bindI_inv hs
      obtain ⟨b5, s4, u5, hs⟩ := hs
      replace hz := bindI_inv hz
      obtain ⟨y8, z7, w8, hz⟩ := hz
      have q1 := k_thing e2 ex (by omega) ut
      obtain ⟨ez, q2⟩ := r_thing h6z e2 ex (by omega) w8
      subst ez
      have et : t = y8 := Int32.toInt_inj.mp (q1.trans q2.symm)
      subst et
      have tl := tg_lt g j
      -- what bears
      obtain ⟨zi, zi', ri, Fi, Ii, hri, hi1, hi0⟩ := hbr j hj (by omega)
      rw [← eq_ofnat ex, ← eq_ofnat q1] at hri
      have hw0 := hrow j (by omega) (by omega)
      have hwG := hG.at (w := j) (by omega)
      have NRi : NRw s zi p j := by
        refine ⟨hS0.fr K Fi (by decide) (by decide), Ii, I, ?_, ?_, ?_⟩
        · rw [(Fi.2 44 (by decide)).1]; exact hD.2.1
        · rw [(Fi.2 44 (by decide)).1]; exact hD.1
        · rw [(Fi.2 44 (by decide)).1]
          obtain ⟨k1, k2, k3⟩ := hwG
          rw [hw0.1, hw0.2] at *
          exact ⟨k1, k2, k3⟩
      obtain ⟨er, kp⟩ := bear_same NRi e1 (by rw [K.1 2 (by decide)]; exact hp) ex (by omega) q1 tl u5 hri
      obtain ⟨y, fy, I4, _⟩ := ok_kX0_isBearing s x1 x t I (by omega) (by omega) (by omega) (by omega) (by omega) (by omega)
      rw [u5] at fy
      cases fy
      have d4 : s4.d = s.d := kp.1
      have K4 : FrK WSK s0.k s4.k := K.trans kp.2.1 (fun _ q => q)
      have G4 : SGo s4 z7 p := by unfold SGo; rw [d4]; exact hG
      have F4 : FO s4.k s4.d := by
        unfold FO
        rw [d4, kp.2.1.1 1 (by decide), (kp.2.1.2 3 (by decide)).1]
        exact hF
      unfold kX0_sendBy_113 at hs
      by_cases cb : x = xb
      · -- it sinks
        have jB : j = B := by
          have := ti_eq cb
          omega
        rw [if_pos cb] at hz
        rw [if_pos (er.trans (hi0 jB))] at hs
        obtain ⟨q3, q4, q5⟩ := send_119 e1 (send_end m (by decide) hs)
        replace hz := guard_inv hz
        obtain ⟨_, hz⟩ := hz
        replace hz := letS_inv hz
        obtain ⟨z21, g21, hz⟩ := hz
        rw [c15] at g21
        have f21 := r44_at g21
        have a2 : r2 = x ∧ z' = z21 := by cases hz; exact ⟨rfl, rfl⟩
        refine ⟨by rw [q3, a2.1], by rw [q4]; exact K4, ?_, ?_, ?_⟩
        · rw [a2.2, ← g21]
          exact F.sf (by decide)
        · rw [q5, a2.2]
          exact SR.set3 (d := s4.d.sf 4 p ((s4.d.f 4 p) + 1)) G4 hp6 rfl f21
        · rw [q4, q5]
          exact F4
      · have jB : j < B := by
          rcases (show j < B ∨ j = B by omega) with q | q
          · exact q
          · exact absurd (Int32.toInt_inj.mp (by omega)) cb
        rw [if_neg cb] at hz
        rw [if_neg (by rw [er]; exact hi1 jB)] at hs
        replace hs := bindI_inv hs
        obtain ⟨b8, s7, u8, hs⟩ := hs
        replace hz := bindI_inv hz
        obtain ⟨y11, z10, w11, hz⟩ := hz
        obtain ⟨ez2, q11⟩ := r_thing h6z e3 ex (by omega) w11
        subst ez2
        rw [tg_dsum n (fun w hw => Dw_lt hI0 hB0 (by omega) (by omega)) j (by omega)] at q11
        -- what is there
        unfold kX0_thereNow at u8
        replace u8 := guard_inv u8
        obtain ⟨_, u8⟩ := u8
        replace u8 := bindI_inv u8
        obtain ⟨b3, k2, u3, u8⟩ := u8
        replace u8 := letS_inv u8
        obtain ⟨s8, c8, u8⟩ := u8
        have e8 : b8 = b3 ∧ s7 = s8 := by cases u8; exact ⟨rfl, rfl⟩
        obtain ⟨⟨y2, z2⟩, f2, _⟩ := ok_r_thereAt z0 x hI0 hB0 (by omega) (by omega) (by omega)
        have S4 : SO s4.k z0 := hS0.fr K4 (FrR.rfl (W := [])) (by decide) (by decide)
        rw [clamp_of_int ex, d4, hD.2.2.2] at u3
        obtain ⟨er2, ek2, _, v, hv6, ev, hov⟩ := there_same hB0 S4 hI0 I4 ex (by rw [K4.1 1 (by decide)]; omega) ((hR0.1 j (by omega)).2.2.2) (by rw [K4.1 4 (by decide)]; exact h45) u3 f2
        obtain ⟨_, eD, _⟩ := Dw_inv hI0 hB0 ex (by omega) (by omega) f2
        have e811 : b8 = y11 := Int32.toInt_inj.mp (by rw [e8.1, er2, eD, q11])
        have es7 : s7 = s4 := by rw [e8.2, ← c8, ek2]; rfl
        subst es7
        by_cases ct : t = y11
        · -- so it is
          rw [if_pos ct] at hz
          rw [if_pos (ct.trans e811.symm)] at hs
          replace hs := guard_inv hs
          obtain ⟨_, hs⟩ := hs
          replace hs := letS_inv hs
          obtain ⟨s11, c11, hs⟩ := hs
          replace hz := guard_inv hz
          obtain ⟨_, hz⟩ := hz
          replace hz := letS_inv hz
          obtain ⟨z14, g14, hz⟩ := hz
          have a5 : (5 + x).toInt = ((5 + j : Nat) : Int) := by
            rw [tn_add (by decide : (5 : Int32).toInt = 5) ex (by omega) (by omega)]
            omega
          rw [clamp_of_int a5] at g14
          rw [clamp_of_int ex] at c11
          have f14 := r44_at g14
          have d11 : s11.d = s7.d.sf 0 j t := by rw [← c11]; rfl
          have k11 : s11.k = s7.k := by rw [← c11]; rfl
          have a1 : (x + 1).toInt = ((j + 1 : Nat) : Int) := by
            rw [tn_add ex (by decide : (1 : Int32).toInt = 1) (by omega) (by omega)]
            omega
          refine ih m2 s11 z14 (x + 1) (j + 1) a1 (by omega) (by rw [k11]; exact K4) (by rw [k11]; exact I4) (by rw [← g14]; exact F.sf (by decide)) ?_ ?_ ?_ ?_ hs hz
          · unfold SGo
            rw [d11, sd_comm (by decide)]
            exact SR.set0 (d := s7.d.sf 4 p ((s7.d.f 4 p) + 1)) G4 (by omega) (Or.inr ⟨rfl, by omega, by omega⟩) f14
          · intro w v' hw hv'
            rw [k11] at hw ⊢
            rw [d11] at hv'
            have q : (s7.d.sf 0 j t).f 0 w = if w = j then t else s7.d.f 0 w := sdf_at
            rw [q] at hv'
            by_cases ew : w = j
            · rw [if_pos ew] at hv'
              have ev2 : t = Int32.ofNat v := by rw [ct, ← e811, e8.1, ev]
              have : v' = v := by
                rw [ev2, ofnat_int (by omega)] at hv'
                omega
              rw [this, ew]
              exact hov
            · rw [if_neg ew] at hv'
              exact F4 w v' hw hv'
          · rw [d11]
            refine ⟨?_, ?_, ?_, fun w => ?_⟩
            · show s7.d.f 4 p = _
              rw [d4]; exact hD.1
            · show s7.d.v 5 = _
              rw [d4]; exact hD.2.1
            · show s7.d.f 3 p = 0
              rw [d4]; exact hD.2.2.1
            · show s7.d.f 2 w = _
              rw [d4]; exact hD.2.2.2 w
          · intro i h1 h2
            rw [f14 i, if_neg (by omega), f14 (5 + i), if_neg (by omega)]
            exact hrow i (by omega) h2
        · -- it is let down
          rw [if_neg ct] at hz
          rw [if_neg (fun q => ct (q.trans e811))] at hs
          replace hs := guard_inv hs
          obtain ⟨_, hs⟩ := hs
          replace hs := guard_inv hs
          obtain ⟨_, hs⟩ := hs
          replace hs := letS_inv hs
          obtain ⟨s15, c15', hs⟩ := hs
          obtain ⟨q3, q4, q5⟩ := send_119 e1 (send_end m (by decide) hs)
          replace hz := guard_inv hz
          obtain ⟨_, hz⟩ := hz
          replace hz := guard_inv hz
          obtain ⟨_, hz⟩ := hz
          replace hz := letS_inv hz
          obtain ⟨z18, g18, hz⟩ := hz
          rw [clamp_of_int ex] at g18 c15'
          have f18 := r44_at g18
          have a2 : r2 = x ∧ z' = z18 := by cases hz; exact ⟨rfl, rfl⟩
          have k15 : s15.k = s7.k := by rw [← c15']; rfl
          have d15 : s15.d = s7.d.sf 1 j ((s7.d.f 1 j) ||| (1 <<< (t &&& 31))) := by rw [← c15']; rfl
          obtain ⟨_, hb2, hb3, hb4⟩ := G4.at (w := j) (by omega)
          have hb2 : s7.d.f 1 j = z10.f 44 j := hb2
          have sh := all_small (P := fun x => 0 ≤ ((1 : Int32) <<< (x &&& 31)).toInt ∧ ((1 : Int32) <<< (x &&& 31)).toInt ≤ 63) (N := 6) (by omega) shl_found (x := t) (by omega) (by omega)
          have orb := or_small hb3 hb4 sh.1 sh.2
          refine ⟨by rw [q3, a2.1], by rw [q4, k15]; exact K4, ?_, ?_, ?_⟩
          · rw [a2.2, ← g18]
            exact F.sf (by decide)
          · rw [q5, a2.2, d15, sd_comm (by decide : ¬ 1 = 4)]
            have S1 : SR ((s7.d.sf 4 p ((s7.d.f 4 p) + 1)).sf 1 j ((s7.d.f 1 j) ||| (1 <<< (t &&& 31)))) (z18.f 44) := SR.set1 G4 (by omega) (by rw [hb2]) orb.1 orb.2 f18
            have e3p : z18.f 44 (15 + p) = 0 := by
              have := (S1.2.1 p hp6).1
              rw [← this]
              show s7.d.f 3 p = 0
              rw [d4]
              exact hD.2.2.1
            exact SR.set3 (p := p) (x := 0) (y := 0) S1 hp6 rfl (fun i => by
              by_cases ei : i = 15 + p
              · rw [if_pos ei, ei, e3p]
              · rw [if_neg ei])
          · rw [q4, q5, k15, d15]
            exact F4
/-- a party goes by a guess, the standing beside the row -/
theorem send_same {s s' : JS} {z z1 z2 : RS} {x1 x2 xt r1 r2 : Int32} {p g : Nat} (hJ : JR s z) (hF : FO s.k s.d) (e1 : x1.toInt = (p : Int)) (hp : (p : Int) < (s.k.v 2).toInt) (e2 : x2.toInt = (g : Int)) (hg : g ≤ 194400) (hst : s.d.f 3 p = 0) (ht : r_thereNumber z = some (xt, z1)) (h1 : kX0_sendBy s x1 x2 = some (r1, s')) (h2 : r_goesBy z1 x1 x2 xt = some (r2, z2)) : r1 = r2 ∧ FrK WSK s.k s'.k ∧ FrR (144 :: WSZ) z z2 ∧ SR s'.d (z2.f 44) ∧ FO s'.k s'.d := by
  obtain ⟨hS, hR, hB, hI, hK, h45⟩ := id hJ
  have bw : 0 ≤ (s.k.v 1).toInt ∧ (s.k.v 1).toInt ≤ 5 := hK.1 1
  have bp : 0 ≤ (s.k.v 2).toInt ∧ (s.k.v 2).toInt ≤ 6 := hK.1 2
  obtain ⟨n, hn⟩ : ∃ n : Nat, (s.k.v 1).toInt = (n : Int) := ⟨(s.k.v 1).toInt.toNat, by omega⟩
  have hwv : wv z = (n : Int) := by
    unfold wv
    rw [← hS.1.1]
    exact hn
  obtain ⟨ez, e3⟩ := r_number hI hB hS.2.1 hwv (by omega) ht
  subst ez
  unfold kX0_sendBy at h1
  replace h1 := bindI_inv h1
  obtain ⟨f2, s1, p2, h1⟩ := h1
  replace h1 := letS_inv h1
  obtain ⟨s3, c3, h1⟩ := h1
  unfold r_goesBy at h2
  replace h2 := bindI_inv h2
  obtain ⟨rb, zb, w2, h2⟩ := h2
  replace h2 := bindI_inv h2
  obtain ⟨f4, zf, w4, h2⟩ := h2
  replace h2 := letS_inv h2
  obtain ⟨z5, g5, h2⟩ := h2
  replace h2 := guard_inv h2
  obtain ⟨_, h2⟩ := h2
  replace h2 := guard_inv h2
  obtain ⟨_, h2⟩ := h2
  replace h2 := letS_inv h2
  obtain ⟨z9, g9, h2⟩ := h2
  unfold r_bearsBy at w2
  obtain ⟨B, b1, _, b3, b4, b5, b6⟩ := bears_inv (z0 := z1) (n := n) (by omega) (by omega) e2 (by omega) hS.2.1 hwv hB fu z1 0 0 FrR.rfl hI (by decide) (by omega) w2
  have Jb : JR s zb := KeptJ.jr ⟨rfl, FrK.rfl, b4⟩ hJ hK b5
  obtain ⟨ef, kp⟩ := fare_same Jb e1 hp p2 w4
  subst ef
  obtain ⟨y, fy, I1, _⟩ := ok_kX0_fareOf s x1 hK (by omega) (by omega)
  rw [p2] at fy
  cases fy
  have a21 : (21 + x1).toInt = ((21 + p : Nat) : Int) := by
    rw [tn_add (by decide : (21 : Int32).toInt = 21) e1 (by omega) (by omega)]
    omega
  rw [clamp_of_int a21] at g9
  have q5 := r44_at g5
  have q9 := r44_at g9
  have zf44 : zf.f 44 = z1.f 44 := by rw [(kp.2.2.2 44 (by decide)).1, (b4.2 44 (by decide)).1]
  have zb44 : zb.f 44 = z1.f 44 := (b4.2 44 (by decide)).1
  have d3 : s3.d = s.d.sv 6 ((s.d.v 6) + f2) := by rw [← c3]; show s1.d.sv 6 _ = _; rw [kp.1]
  have k3 : s3.k = s1.k := by rw [← c3]; rfl
  have K3 : FrK WSK s.k s3.k := by rw [k3]; exact kp.2.1
  have F9 : FrR (144 :: WSZ) z1 z9 := by
    rw [← g9, ← g5]
    exact ((((FrR.rfl.trans b4 (by decide)).trans kp.2.2 (by decide)).sf (k := 44) (by decide)).sf (k := 44) (by decide))
  have S5 : SR s3.d (z5.f 44) := by
    rw [d3]
    refine SR.setv6 (y := (zb.f 44 28) + f2) hR (by rw [zb44, hR.2.2.2]) (fun i => ?_)
    rw [q5 i, zf44]
  have g21 : z5.f 44 (21 + p) = s3.d.f 4 p := ((S5.2.1 p (by omega)).2).symm
  have G9 : SGo s3 z9 p := by
    unfold SGo
    exact SR.set4 S5 (by omega) (by rw [g21]) q9
  have hF3 : FO s3.k s3.d := by
    unfold FO
    rw [k3, d3, kp.2.1.1 1 (by decide), (kp.2.1.2 3 (by decide)).1]
    exact hF
  refine send_row (s0 := s) (z0 := z1) (n := n) (B := B) e1 (by omega) e2 e3 b1 b3 (by omega) hS hR hI hB hK hn hp (by rw [hS.1.2.2.1, h45]) hst (fun i h1 h2 => b6 i (by omega) h1 h2) fu fu s3 z9 0 0 (by decide) (by omega) K3 (by rw [k3]; exact I1) F9 G9 hF3 ?_ (fun i h1 h2 => ?_) h1 h2
  · rw [d3]
    exact ⟨(hR.2.1 p (by omega)).2, hR.2.2.1, hst, fun w => rfl⟩
  · rw [q9 i, if_neg (by omega), q5 i, if_neg (by omega), q9 (5 + i), if_neg (by omega), q5 (5 + i), if_neg (by omega), zf44]
    exact ⟨rfl, rfl⟩
end
section
/-! ===== years go by ===== -/
noncomputable abbrev WYZ : List Nat := [42, 140, 141, 147]
theorem year_first {n : Nat} {z' z0 : RS} (hn : wv z0 = (n : Int)) (hn5 : n ≤ 5) (hB0 : Big z0) : ∀ (m : Nat) (z : RS) (x : Int32) (j : Nat), FrR WYZ z0 z → InvR z → x.toInt = (j : Int) → j ≤ n → r_yearGoes_2L m z x = some z' → ∃ y, r_yearGoes_64L fu y 0 = some z' ∧ FrR WYZ z0 y ∧ InvR y ∧ (∀ i, i < j → y.f 47 i = z.f 47 i) ∧ (∀ i, j ≤ i → i < n → ∃ zi zi' r4 r6, FrR WYZ z0 zi ∧ InvR zi ∧ r_lotOf zi (((8 * (zi.f 44 27)) + 1000000) + Int32.ofNat i) 100 = some (r4, zi) ∧ r_shiftsOf zi (Int32.ofNat i) = some (r6, zi') ∧ (y.f 47 i = 0 ↔ r6 ≤ r4)) := by
  intro m
  induction m with
  | zero => intro z x j _ _ _ _ h; exact none_ne h
  | succ m ih =>
    intro z x j F I ex hj h
    replace h : r_yearGoes_2 (r_yearGoes_2L m) z x = some z' := h
    have hwz : (z.f 20 (z.v 18).toNatClampNeg).toInt = (n : Int) := by
      rw [(F.2 20 (by decide)).1, F.1 18 (by decide)]
      exact hn
    unfold r_yearGoes_2 at h
    replace h := guard_inv h
    obtain ⟨_, h⟩ := h
    by_cases c : z.f 20 (z.v 18).toNatClampNeg ≤ x
    · have c' := ti_le c
      rw [if_pos c] at h
      exact ⟨z, h, F, I, fun _ _ => rfl, fun i h1 h2 => by omega⟩
    · have c' := ti_nle c
      rw [if_neg c] at h
      replace h := bindI_inv h
      obtain ⟨r4, z3, w4, h⟩ := h
      have ez : z3 = z := by
        unfold r_lotOf r_mixed at w4
        rw [bindP_some, bindP_some] at w4
        replace w4 := guard_inv w4
        obtain ⟨_, w4⟩ := w4
        cases w4
        rfl
      subst ez
      replace h := bindI_inv h
      obtain ⟨r6, z5, w6, h⟩ := h
      obtain ⟨u, gu, Iu, Fu, _⟩ := ok_r_shiftsOf z3 x I (hB0.fr F (by decide)) (by omega) (by omega)
      rw [w6] at gu
      cases gu
      have Fu : FrR [42, 140, 141] z3 z5 := Fu
      have a : (x + 1).toInt = ((j + 1 : Nat) : Int) := by
        rw [tn_add ex (by decide : (1 : Int32).toInt = 1) (by omega) (by omega)]
        omega
      have go : ∀ t0 : Int32, (vp_nar .boolean t0 = 0 ↔ r6 ≤ r4) → r_yearGoes_55 (r_yearGoes_2L m) z5 x t0 x = some z' → ∃ y, r_yearGoes_64L fu y 0 = some z' ∧ FrR WYZ z0 y ∧ InvR y ∧ (∀ i, i < j → y.f 47 i = z3.f 47 i) ∧ (∀ i, j ≤ i → i < n → ∃ zi zi' r4 r6, FrR WYZ z0 zi ∧ InvR zi ∧ r_lotOf zi (((8 * (zi.f 44 27)) + 1000000) + Int32.ofNat i) 100 = some (r4, zi) ∧ r_shiftsOf zi (Int32.ofNat i) = some (r6, zi') ∧ (y.f 47 i = 0 ↔ r6 ≤ r4)) := by
        intro t0 ht h
        unfold r_yearGoes_55 at h
        replace h := guard_inv h
        obtain ⟨_, h⟩ := h
        replace h := letS_inv h
        obtain ⟨z2, d2, h⟩ := h
        rw [clamp_of_int ex] at d2
        have f2 : ∀ i, z2.f 47 i = if i = j then vp_nar .boolean t0 else z5.f 47 i := fun i => by
          rw [← d2]
          exact rsf_at
        have F2 : FrR WYZ z0 z2 := by
          rw [← d2]
          exact (F.trans Fu (by decide)).sf (k := 47) (by decide)
        have I2 : InvR z2 := by rw [← d2]; exact Iu.sfF (k := 47) rfl rfl
        obtain ⟨y, y1, y2, y3, y4, y5⟩ := ih z2 (x + 1) (j + 1) F2 I2 a (by omega) h
        refine ⟨y, y1, y2, y3, fun i hi => ?_, fun i h1 h2 => ?_⟩
        · rw [y4 i (by omega), f2, if_neg (by omega), (Fu.2 47 (by decide)).1]
        · by_cases e : i = j
          · subst e
            refine ⟨z3, z5, r4, r6, F, I, ?_, ?_, ?_⟩
            · rw [← eq_ofnat ex]; exact w4
            · rw [← eq_ofnat ex]; exact w6
            · rw [y4 i (by omega), f2, if_pos rfl]
              exact ht
          · exact y5 i (by omega) h2
      by_cases d : r6 ≤ r4
      · rw [if_pos d] at h
        exact go 0 ⟨fun _ => d, fun _ => nar01.1⟩ h
      · rw [if_neg d] at h
        exact go 1 ⟨fun q => absurd q nar01.2, fun q => absurd q d⟩ h
theorem year_row {x2 x3 : Int32} {n : Nat} {s0 s' : JS} {z0 y0 z' : RS} {k2 : JS → Int32 → Int32 → Option JS} (hS0 : SO s0.k z0) (hB0 : Big z0) (hn : (s0.k.v 1).toInt = (n : Int)) (hn5 : n ≤ 5) (h45 : s0.k.v 4 = z0.v 45)
    (hfs : ∀ i, i < n → ∃ zi zi' r4 r6, FrR WYZ z0 zi ∧ InvR zi ∧ r_lotOf zi (((8 * (zi.f 44 27)) + 1000000) + Int32.ofNat i) 100 = some (r4, zi) ∧ r_shiftsOf zi (Int32.ofNat i) = some (r6, zi') ∧ (y0.f 47 i = 0 ↔ r6 ≤ r4)) :
    ∀ (m m2 : Nat) (s : JS) (y : RS) (x : Int32) (j : Nat), x.toInt = (j : Int) → j ≤ n → FrK WSK s0.k s.k → InvK s.k → FrR (144 :: WYZ) z0 y → y.f 47 = y0.f 47 → SR s.d (y.f 44) → FO s.k s.d → y.f 44 27 = z0.f 44 27 → (∀ i, j ≤ i → i < 5 → y.f 44 i = z0.f 44 i ∧ y.f 44 (5 + i) = z0.f 44 (5 + i)) → kX0_passYears_10L k2 m s x2 x3 x = some s' → r_yearGoes_64L m2 y x = some z' → ∃ t, k2 t x2 (x3 + 1) = some s' ∧ FrK WSK s0.k t.k ∧ InvK t.k ∧ FrR (144 :: WYZ) z0 z' ∧ SR t.d (z'.f 44) ∧ FO t.k t.d := by
  intro m
  induction m with
  | zero => intro m2 s y x j _ _ _ _ _ _ _ _ _ _ h; exact none_ne h
  | succ m ih =>
    intro m2 s y x j ex hj K I F h47 hR hF h27 hrow hs hz
    replace hs : kX0_passYears_10 k2 (kX0_passYears_10L k2 m) s x2 x3 x = some s' := hs
    cases m2 with
    | zero => exact none_ne hz
    | succ m2 =>
    replace hz : r_yearGoes_64 (r_yearGoes_64L m2) y x = some z' := hz
    have hwk : (s.k.v 1).toInt = (n : Int) := by rw [K.1 1 (by decide)]; exact hn
    have ey20 : y.f 20 (y.v 18).toNatClampNeg = s.k.v 1 := by
      rw [(F.2 20 (by decide)).1, F.1 18 (by decide), K.1 1 (by decide)]
      exact hS0.1.1.symm
    have hy5 : s.d.v 5 = z0.f 44 27 := by rw [hR.2.2.1, h27]
    unfold kX0_passYears_10 at hs
    unfold r_yearGoes_64 at hz
    replace hz := guard_inv hz
    obtain ⟨_, hz⟩ := hz
    rw [ey20] at hz
    by_cases c : s.k.v 1 ≤ x
    · rw [if_pos c] at hs hz
      replace hs := letS_inv hs
      obtain ⟨s2, c2, hs⟩ := hs
      replace hz := letS_inv hz
      obtain ⟨z3, g3, hz⟩ := hz
      cases hz
      have f3 := r44_at g3
      have d2 : s2.d = s.d.sv 5 ((s.d.v 5) + 1) := by rw [← c2]; rfl
      have k2' : s2.k = s.k := by rw [← c2]; rfl
      refine ⟨s2, hs, by rw [k2']; exact K, by rw [k2']; exact I, by rw [← g3]; exact F.sf (by decide), ?_, ?_⟩
      · rw [d2]
        exact SR.setv5 hR (by rw [hR.2.2.1]) f3
      · unfold FO
        rw [k2', d2]
        exact hF
    · have c' := ti_nle c
      rw [if_neg c] at hs hz
      replace hs := bindP_inv hs
      obtain ⟨s4, u4, hs⟩ := hs
      replace hz := guard_inv hz
      obtain ⟨_, hz⟩ := hz
      rw [clamp_of_int ex, h47] at hz
      obtain ⟨zi, zi', r4, r6, Fi, Ii, hl4, hs6, hbit⟩ := hfs j (by omega)
      rw [← eq_ofnat ex] at hl4 hs6
      unfold kX0_passYearOver at u4
      replace u4 := bindP_inv u4
      obtain ⟨q1, l1, u4⟩ := u4
      replace u4 := bindI_inv u4
      obtain ⟨q3, s2, u3, u4⟩ := u4
      have i44 : zi.f 44 = z0.f 44 := (Fi.2 44 (by decide)).1
      rw [hy5] at l1
      rw [i44] at hl4
      obtain ⟨el, _, _, _⟩ := lot_same (n := 100) (by decide) (by rw [K.1 4 (by decide), h45, Fi.1 45 (by decide)]) l1 hl4
      subst el
      have hw0 := hrow j (by omega) (by omega)
      have Ri : SRw s.d (zi.f 44) j := by
        rw [i44]
        have q := hR.at (w := j) (by omega)
        unfold SRw at q ⊢
        rw [← hw0.1, ← hw0.2]
        exact q
      have Si : SO s.k zi := hS0.fr K Fi (by decide) (by decide)
      obtain ⟨es, kp⟩ := shift_same Si Ii I (by rw [i44]; exact hy5) Ri ex (by omega) u3 hs6
      subst es
      obtain ⟨w, fw, I2, _⟩ := ok_kX0_shiftsOf s x I (by omega) (by omega)
      rw [u3] at fw
      cases fw
      have K2 : FrK WSK s0.k s2.k := K.trans kp.2.1 (fun _ q => q)
      have a : (x + 1).toInt = ((j + 1 : Nat) : Int) := by
        rw [tn_add ex (by decide : (1 : Int32).toInt = 1) (by omega) (by omega)]
        omega
      have F2 : FO s2.k s2.d := by
        unfold FO
        rw [kp.1, kp.2.1.1 1 (by decide), (kp.2.1.2 3 (by decide)).1]
        exact hF
      unfold r_yearGoes_119 at hz
      by_cases d : q3 ≤ q1
      · rw [if_pos d] at u4
        rw [if_pos (hbit.mpr d)] at hz
        cases u4
        exact ih m2 s4 y (x + 1) (j + 1) a (by omega) K2 I2 F h47 (by rw [kp.1]; exact hR) F2 h27 (fun i h1 h2 => hrow i (by omega) h2) hs hz
      · rw [if_neg d] at u4
        rw [if_neg (fun q => d (hbit.mp q))] at hz
        rw [clamp_of_int ex] at u4
        replace u4 := guard_inv u4
        obtain ⟨_, u4⟩ := u4
        replace u4 := guard_inv u4
        obtain ⟨_, u4⟩ := u4
        replace u4 := letS_inv u4
        obtain ⟨s7, c7, u4⟩ := u4
        replace u4 := guard_inv u4
        obtain ⟨_, u4⟩ := u4
        replace u4 := letS_inv u4
        obtain ⟨s10, c10, u4⟩ := u4
        replace u4 := guard_inv u4
        obtain ⟨_, u4⟩ := u4
        replace u4 := letS_inv u4
        obtain ⟨s13, c13, u4⟩ := u4
        cases u4
        replace hz := guard_inv hz
        obtain ⟨_, hz⟩ := hz
        replace hz := letS_inv hz
        obtain ⟨z8, g8, hz⟩ := hz
        replace hz := guard_inv hz
        obtain ⟨_, hz⟩ := hz
        replace hz := letS_inv hz
        obtain ⟨z11, g11, hz⟩ := hz
        replace hz := guard_inv hz
        obtain ⟨_, hz⟩ := hz
        replace hz := guard_inv hz
        obtain ⟨_, hz⟩ := hz
        replace hz := letS_inv hz
        obtain ⟨z15, g15, hz⟩ := hz
        have a5 : (5 + x).toInt = ((5 + j : Nat) : Int) := by
          rw [tn_add (by decide : (5 : Int32).toInt = 5) ex (by omega) (by omega)]
          omega
        have a10 : (10 + x).toInt = ((10 + j : Nat) : Int) := by
          rw [tn_add (by decide : (10 : Int32).toInt = 10) ex (by omega) (by omega)]
          omega
        rw [clamp_of_int a5] at g11
        rw [clamp_of_int a10] at g15
        have f8 := r44_at g8
        have f11 := r44_at g11
        have f15 := r44_at g15
        have d4 : s4.d = ((s2.d.sf 2 j ((s2.d.f 2 j) + 1)).sf 0 j (-1)).sf 1 j 0 := by rw [← c13, ← c10, ← c7]; rfl
        have k4 : s4.k = s2.k := by rw [← c13, ← c10, ← c7]; rfl
        have R8 : SR (s2.d.sf 1 j 0) (z8.f 44) := SR.set1 (by rw [kp.1]; exact hR) (by omega) rfl (by decide) (by decide) f8
        have R11 : SR ((s2.d.sf 1 j 0).sf 0 j (-1)) (z11.f 44) := SR.set0 R8 (by omega) (Or.inl ⟨rfl, rfl⟩) f11
        have R15 : SR (((s2.d.sf 1 j 0).sf 0 j (-1)).sf 2 j ((s2.d.f 2 j) + 1)) (z15.f 44) := by
          refine SR.set2 R11 (by omega) ?_ f15
          have q := (R11.1 j (by omega)).2.2.2
          have q : s2.d.f 2 j = z11.f 44 (10 + j) := q
          rw [q]
        have d4' : s4.d = ((s2.d.sf 1 j 0).sf 0 j (-1)).sf 2 j ((s2.d.f 2 j) + 1) := by
          rw [d4, sd_comm (d := s2.d) (by decide : ¬ 2 = 0), sd_comm (by decide : ¬ 2 = 1), sd_comm (d := s2.d) (by decide : ¬ 0 = 1)]
        refine ih m2 s4 z15 (x + 1) (j + 1) a (by omega) (by rw [k4]; exact K2) (by rw [k4]; exact I2) ?_ ?_ (by rw [d4']; exact R15) ?_ ?_ (fun i h1 h2 => ?_) hs hz
        · rw [← g15, ← g11, ← g8]
          exact ((F.sf (k := 44) (by decide)).sf (k := 44) (by decide)).sf (k := 44) (by decide)
        · rw [← g15, ← g11, ← g8]
          exact h47
        · intro w v hw hv
          rw [k4] at hw ⊢
          rw [d4'] at hv
          have q : (((s2.d.sf 1 j 0).sf 0 j (-1)).sf 2 j ((s2.d.f 2 j) + 1)).f 0 w = if w = j then -1 else s2.d.f 0 w := sdf_at (s := s2.d.sf 1 j 0) (k := 0) (i := j) (j := w) (x := -1)
          rw [q] at hv
          by_cases ew : w = j
          · rw [if_pos ew, show (-1 : Int32).toInt = -1 from by decide] at hv
            omega
          · rw [if_neg ew] at hv
            exact F2 w v hw hv
        · rw [f15 27, if_neg (by omega), f11 27, if_neg (by omega), f8 27, if_neg (by omega)]
          exact h27
        · rw [f15 i, if_neg (by omega), f11 i, if_neg (by omega), f8 i, if_neg (by omega), f15 (5 + i), if_neg (by omega), f11 (5 + i), if_neg (by omega), f8 (5 + i), if_neg (by omega)]
          exact hrow i (by omega) h2
/-- one year -/
theorem year_one {x2 x3 : Int32} {s s' : JS} {z z' : RS} {k2 : JS → Int32 → Int32 → Option JS} (hJ : JR s z) (hF : FO s.k s.d) (h1 : kX0_passYears_10L k2 fu s x2 x3 0 = some s') (h2 : r_yearGoes z = some z') : ∃ t, k2 t x2 (x3 + 1) = some s' ∧ FrK WSK s.k t.k ∧ FrR (144 :: WYZ) z z' ∧ JR t z' ∧ FO t.k t.d := by
  obtain ⟨hS, hR, hB, hI, hK, h45⟩ := id hJ
  have bw : 0 ≤ (s.k.v 1).toInt ∧ (s.k.v 1).toInt ≤ 5 := hK.1 1
  obtain ⟨n, hn⟩ : ∃ n : Nat, (s.k.v 1).toInt = (n : Int) := ⟨(s.k.v 1).toInt.toNat, by omega⟩
  have hwv : wv z = (n : Int) := by
    unfold wv
    rw [← hS.1.1]
    exact hn
  obtain ⟨w, fw, Iw, Fw⟩ := ok_r_yearGoes z hI hB
  rw [h2] at fw
  cases fw
  unfold r_yearGoes at h2
  obtain ⟨y, y1, y2, y3, _, y5⟩ := year_first hwv (by omega) hB fu z 0 0 FrR.rfl hI (by decide) (by omega) h2
  have y44 : y.f 44 = z.f 44 := (y2.2 44 (by decide)).1
  obtain ⟨t, t1, t2, t3, t4, t5, t6⟩ := year_row (s0 := s) (z0 := z) (y0 := y) hS hB hn (by omega) (by rw [hS.1.2.2.1, h45]) (fun i hi => y5 i (by omega) hi) fu fu s y 0 0 (by decide) (by omega) FrK.rfl hK (FrR.rfl.trans y2 (by decide)) rfl (by rw [y44]; exact hR) hF (by rw [y44]) (fun i _ _ => by rw [y44]; exact ⟨rfl, rfl⟩) h1 y1
  refine ⟨t, t1, t2, t4, ⟨hS.fr t2 t4 (by decide) (by decide), t5, hB.fr t4 (by decide), Iw, t3, ?_⟩, t6⟩
  rw [t4.1 45 (by decide), t4.1 18 (by decide), (t4.2 26 (by decide)).1]
  exact h45
theorem yearsL {x : Int32} {s0 s' : JS} {z0 z' : RS} : ∀ (m m2 : Nat) (s : JS) (z : RS) (x3 : Int32), JR s z → FO s.k s.d → FrK WSK s0.k s.k → FrR (144 :: WYZ) z0 z → kX0_passYears_2L m s x x3 = some s' → r_yearsGo_2L m2 z x x3 = some z' → FrK WSK s0.k s'.k ∧ FrR (144 :: WYZ) z0 z' ∧ JR s' z' ∧ FO s'.k s'.d := by
  intro m
  induction m with
  | zero => intro m2 s z x3 _ _ _ _ h; exact none_ne h
  | succ m ih =>
    intro m2 s z x3 hJ hF K F h1 h2
    replace h1 : kX0_passYears_2 (kX0_passYears_2L m) s x x3 = some s' := h1
    cases m2 with
    | zero => exact none_ne h2
    | succ m2 =>
    replace h2 : r_yearsGo_2 (r_yearsGo_2L m2) z x x3 = some z' := h2
    unfold kX0_passYears_2 at h1
    unfold r_yearsGo_2 at h2
    by_cases c : x ≤ x3
    · rw [if_pos c] at h1 h2
      cases h1
      cases h2
      exact ⟨K, F, hJ, hF⟩
    · rw [if_neg c] at h1 h2
      replace h2 := bindP_inv h2
      obtain ⟨z2, w2, h2⟩ := h2
      obtain ⟨t, t1, t2, t3, t4, t5⟩ := year_one hJ hF h1 w2
      exact ih m2 t z2 (x3 + 1) t4 t5 (K.trans t2 (fun _ q => q)) (F.trans t3 (fun _ q => q)) t1 h2
theorem years_same {x : Int32} {s s' : JS} {z z' : RS} (hJ : JR s z) (hF : FO s.k s.d) (h1 : kX0_passYears s x = some s') (h2 : r_yearsGo z x = some z') : FrK WSK s.k s'.k ∧ FrR (144 :: WYZ) z z' ∧ JR s' z' ∧ FO s'.k s'.d := by
  unfold kX0_passYears at h1
  unfold r_yearsGo at h2
  exact yearsL fu fu s z 0 hJ hF FrK.rfl FrR.rfl h1 h2
end
section
/-! ===== what holds between two calls ===== -/
theorem SR.cg {d d' : SD} {f f' : Nat → Int32} (h : SR d f) (hd : ∀ k i, d'.f k i = d.f k i) (hv : ∀ k, d'.v k = d.v k) (hf : ∀ i, i < 29 → f' i = f i) : SR d' f' := by
  obtain ⟨a, b, c, e⟩ := h
  refine ⟨fun u hu => ?_, fun p hp => ?_, ?_, ?_⟩
  · rw [hd, hd, hd, hf (5 + u) (by omega), hf u (by omega), hf (10 + u) (by omega)]
    exact a u hu
  · rw [hd, hd, hf (15 + p) (by omega), hf (21 + p) (by omega)]
    exact b p hp
  · rw [hv, hf 27 (by omega)]
    exact c
  · rw [hv, hf 28 (by omega)]
    exact e
theorem SR.cgf {d : SD} {f f' : Nat → Int32} (h : SR d f) (hf : ∀ i, i < 29 → f' i = f i) : SR d f' := h.cg (fun _ _ => rfl) (fun _ => rfl) hf
/-- a standing that agrees with another where they are looked at -/
noncomputable def SDq (d e : SD) : Prop := (∀ i, i < 5 → d.f 0 i = e.f 0 i ∧ d.f 1 i = e.f 1 i ∧ d.f 2 i = e.f 2 i) ∧ (∀ i, i < 6 → d.f 3 i = e.f 3 i ∧ d.f 4 i = e.f 4 i) ∧ d.v 5 = e.v 5 ∧ d.v 6 = e.v 6
theorem SR.q {d e : SD} {f : Nat → Int32} (h : SR e f) (hq : SDq d e) : SR d f := by
  obtain ⟨a, b, c, g⟩ := h
  obtain ⟨q1, q2, q3, q4⟩ := hq
  refine ⟨fun u hu => ?_, fun p hp => ?_, by rw [q3]; exact c, by rw [q4]; exact g⟩
  · rw [(q1 u hu).1, (q1 u hu).2.1, (q1 u hu).2.2]
    exact a u hu
  · rw [(q2 p hp).1, (q2 p hp).2]
    exact b p hp
theorem FO.q {k : KS} {d e : SD} (h : FO k e) (hK : InvK k) (hq : SDq d e) : FO k d := by
  intro w v hw hv
  have bw : 0 ≤ (k.v 1).toInt ∧ (k.v 1).toInt ≤ 5 := hK.1 1
  rw [(hq.1 w (by omega)).1] at hv
  exact h w v hw hv
theorem FO.fr {k k' : KS} {d : SD} {W : List Nat} (h : FO k d) (K : FrK W k k') (hW : 1 ∉ W ∧ 103 ∉ W) : FO k' d := by
  unfold FO
  rw [K.1 1 hW.1, (K.2 3 hW.2).1]
  exact h
theorem cpy_lt {f g : Nat → Int32} {n i : Nat} (h : i < n) : va_cpy f g 0 0 n i = f i := by
  unfold va_cpy
  rw [if_pos ⟨Nat.zero_le _, by omega⟩, Nat.zero_add, Nat.sub_zero]
theorem sda_at {s : SD} {k : Nat} {x : Nat → Int32} : (s.sa k x).f k = x := by
  show va_up s.f k x k = x
  exact va_up_self _ _ _
/-- one standing is copied from another -/
theorem copyFrom_eq {s s' : DS} (h : kX6_copyFrom s = some s') : s'.e = s.e ∧ SDq s'.d s.e := by
  unfold kX6_copyFrom at h
  replace h := letS_inv h
  obtain ⟨s1, d1, h⟩ := h
  replace h := letS_inv h
  obtain ⟨s3, d3, h⟩ := h
  replace h := letS_inv h
  obtain ⟨s5, d5, h⟩ := h
  replace h := letS_inv h
  obtain ⟨s7, d7, h⟩ := h
  replace h := letS_inv h
  obtain ⟨s9, d9, h⟩ := h
  replace h := letS_inv h
  obtain ⟨s11, d11, h⟩ := h
  replace h := letS_inv h
  obtain ⟨s13, d13, h⟩ := h
  cases h
  have e1 : s1.e = s.e := by rw [← d1]; rfl
  have e3 : s3.e = s.e := by rw [← d3]; exact e1
  have e5 : s5.e = s.e := by rw [← d5]; exact e3
  have e7 : s7.e = s.e := by rw [← d7]; exact e5
  have e9 : s9.e = s.e := by rw [← d9]; exact e7
  have e11 : s11.e = s.e := by rw [← d11]; exact e9
  have f0 : s'.d.f 0 = va_cpy (s.e.f 0) (s.d.f 0) 0 0 5 := by
    rw [← d13, ← d11, ← d9, ← d7, ← d5, ← d3]
    show s1.d.f 0 = _
    rw [← d1]
    exact sda_at
  have f1 : s'.d.f 1 = va_cpy (s1.e.f 1) (s1.d.f 1) 0 0 5 := by
    rw [← d13, ← d11, ← d9, ← d7, ← d5]
    show s3.d.f 1 = _
    rw [← d3]
    exact sda_at
  have f2 : s'.d.f 2 = va_cpy (s3.e.f 2) (s3.d.f 2) 0 0 5 := by
    rw [← d13, ← d11, ← d9, ← d7]
    show s5.d.f 2 = _
    rw [← d5]
    exact sda_at
  have f3 : s'.d.f 3 = va_cpy (s5.e.f 3) (s5.d.f 3) 0 0 6 := by
    rw [← d13, ← d11, ← d9]
    show s7.d.f 3 = _
    rw [← d7]
    exact sda_at
  have f4 : s'.d.f 4 = va_cpy (s7.e.f 4) (s7.d.f 4) 0 0 6 := by
    rw [← d13, ← d11]
    show s9.d.f 4 = _
    rw [← d9]
    exact sda_at
  refine ⟨by rw [← d13]; exact e11, fun i hi => ⟨?_, ?_, ?_⟩, fun i hi => ⟨?_, ?_⟩, ?_, ?_⟩
  · rw [f0, cpy_lt hi]
  · rw [f1, cpy_lt hi, e1]
  · rw [f2, cpy_lt hi, e3]
  · rw [f3, cpy_lt hi, e5]
  · rw [f4, cpy_lt hi, e7]
  · rw [← d13]
    show s11.d.v 5 = _
    rw [← d11, ← e9]
    rfl
  · rw [← d13, ← e11]
    rfl
/-- the reference's row is the standing that it keeps -/
theorem copiesL {z' : RS} : ∀ (n : Nat) (z : RS) (x : Int32) (j : Nat), x.toInt = (j : Int) → j ≤ 29 → r_copies_2L n z x = some z' → (∀ i, j ≤ i → i < 29 → z'.f 44 i = z.f 43 i) ∧ (∀ i, i < j → z'.f 44 i = z.f 44 i) ∧ z'.v 45 = z.f 26 (z.v 18).toNatClampNeg := by
  intro n
  induction n with
  | zero => intro z x j _ _ h; exact none_ne h
  | succ n ih =>
    intro z x j ex hj h
    replace h : r_copies_2 (r_copies_2L n) z x = some z' := h
    unfold r_copies_2 at h
    by_cases c : 29 ≤ x
    · have c' := tn_le (a := 29) (by decide) rfl c
      rw [if_pos c] at h
      replace h := guard_inv h
      obtain ⟨_, h⟩ := h
      replace h := letS_inv h
      obtain ⟨z3, d3, h⟩ := h
      cases h
      rw [← d3]
      exact ⟨fun i h1 h2 => by omega, fun i _ => rfl, rfl⟩
    · have c' := tn_nle (a := 29) (by decide) rfl c
      rw [if_neg c] at h
      replace h := guard_inv h
      obtain ⟨_, h⟩ := h
      replace h := guard_inv h
      obtain ⟨_, h⟩ := h
      replace h := letS_inv h
      obtain ⟨z7, d7, h⟩ := h
      rw [clamp_of_int ex] at d7
      have f7 := r44_at d7
      have a : (x + 1).toInt = ((j + 1 : Nat) : Int) := by
        rw [tn_add ex (by decide : (1 : Int32).toInt = 1) (by omega) (by omega)]
        omega
      obtain ⟨q1, q2, q3⟩ := ih z7 (x + 1) (j + 1) a (by omega) h
      have f43 : z7.f 43 = z.f 43 := by rw [← d7]; rfl
      refine ⟨fun i h1 h2 => ?_, fun i hi => ?_, ?_⟩
      · by_cases e : i = j
        · rw [q2 i (by omega), f7, if_pos e, e]
        · rw [q1 i (by omega) h2, f43]
      · rw [q2 i (by omega), f7, if_neg (by omega)]
      · rw [q3, ← d7]
        rfl
noncomputable def HIS (y : YS) (z : RS) : Prop := y.x.g.v 4 = z.v 48 ∧ (0 ≤ (y.x.g.v 3).toInt ∧ (y.x.g.v 3).toInt ≤ 39) ∧ (∀ i : Nat, (i : Int) < (z.v 48).toInt → SR (y.r (((y.x.g.v 3).toNatClampNeg + i) % 40)) (fun j => z.f 49 (29 * i + j)) ∧ FO y.x.k (y.r (((y.x.g.v 3).toNatClampNeg + i) % 40)))
noncomputable def SLT (y : YS) (z : RS) : Prop := ∀ s : Nat, s < 3 → y.x.g.f 4 s = z.f 56 s ∧ (¬ z.f 56 s = 0 → SR (y.r (40 + s)) (fun j => z.f 57 (29 * s + j)) ∧ FO y.x.k (y.r (40 + s)))
noncomputable def TEL (k : KS) (z : RS) : Prop := ∀ i : Nat, (i : Int) < (k.v 21).toInt → k.f 42 i = z.f 52 i ∧ 0 ≤ (k.f 42 i).toInt ∧ (k.f 42 i).toInt < (k.v 1).toInt ∧ (1 ≤ (z.f 53 i).toInt ∧ (z.f 53 i).toInt ≤ 63) ∧ ((z.f 54 i = 1 ∧ k.f 43 i = z.f 53 i) ∨ (z.f 54 i = 0 ∧ k.f 43 i = 63 &&& ((z.f 53 i) ^^^ (-1))))
noncomputable def REL (y : YS) (z : RS) : Prop := SO y.x.k z ∧ (SR y.x.n (z.f 43) ∧ FO y.x.k y.x.n) ∧ HIS y z ∧ SLT y z ∧ TEL y.x.k z
/-- while something is asked of what goes on -/
theorem REL.jr {y : YS} {z z1 : RS} (h : REL y z) (hK : InvK y.x.k) (hI : InvR z) (hB : Big z) (h1 : r_copies z = some z1) : JR (JS.mk y.x.k y.x.n) z1 ∧ FrR [45, 144] z z1 := by
  obtain ⟨w, fw, Iw, Fw⟩ := ok_r_copies z hI
  rw [h1] at fw
  cases fw
  have Fw : FrR [45, 144] z z1 := Fw
  unfold r_copies at h1
  obtain ⟨q1, _, q3⟩ := copiesL fu z 0 0 (by decide) (by omega) h1
  refine ⟨⟨h.1.fr FrK.rfl Fw (W := []) (by decide) (by decide), h.2.1.1.cgf (fun i hi => q1 i (by omega) hi), hB.fr Fw (by decide), Iw, hK, ?_⟩, Fw⟩
  rw [q3, Fw.1 18 (by decide), (Fw.2 26 (by decide)).1]
/-- what no query touches -/
theorem REL.keep {y : YS} {x' : XS} {z z' : RS} {W W' : List Nat} (h : REL y z) (eg : x'.g = y.x.g) (en : x'.n = y.x.n) (K : FrK W y.x.k x'.k) (G : FrR W' z z') (hW : ((1 ∉ W ∧ 2 ∉ W ∧ 3 ∉ W ∧ 4 ∉ W) ∧ (103 ∉ W ∧ 104 ∉ W ∧ 105 ∉ W ∧ 106 ∉ W ∧ 107 ∉ W) ∧ (109 ∉ W ∧ 110 ∉ W ∧ 111 ∉ W ∧ 112 ∉ W)) ∧ 21 ∉ W ∧ 142 ∉ W ∧ 143 ∉ W) (hW' : ((18 ∉ W' ∧ 120 ∉ W' ∧ 121 ∉ W' ∧ 123 ∉ W' ∧ 124 ∉ W' ∧ 125 ∉ W' ∧ 126 ∉ W' ∧ 146 ∉ W') ∧ ((127 ∉ W' ∧ 128 ∉ W') ∧ (130 ∉ W' ∧ 131 ∉ W' ∧ 132 ∉ W' ∧ 133 ∉ W' ∧ 134 ∉ W') ∧ 136 ∉ W' ∧ 137 ∉ W')) ∧ (48 ∉ W' ∧ 143 ∉ W' ∧ 149 ∉ W' ∧ 152 ∉ W' ∧ 153 ∉ W' ∧ 154 ∉ W' ∧ 156 ∉ W' ∧ 157 ∉ W')) : REL (YS.mk x' y.r) z' := by
  obtain ⟨a1, ⟨a2, a3⟩, a4, a5, a6⟩ := h
  obtain ⟨w0, w21, w42, w43⟩ := hW
  obtain ⟨u0, u48, u43, u49, u52, u53, u54, u56, u57⟩ := hW'
  have fo : ∀ d, FO y.x.k d → FO x'.k d := fun d q => q.fr K ⟨w0.1.1, w0.2.1.1⟩
  refine ⟨a1.fr K G w0 u0, ⟨?_, ?_⟩, ?_, ?_, ?_⟩
  · show SR x'.n _
    rw [en, (G.2 43 u43).1]
    exact a2
  · show FO x'.k x'.n
    rw [en]
    exact fo _ a3
  · unfold HIS
    show x'.g.v 4 = z'.v 48 ∧ (0 ≤ (x'.g.v 3).toInt ∧ (x'.g.v 3).toInt ≤ 39) ∧ (∀ i : Nat, (i : Int) < (z'.v 48).toInt → SR (y.r (((x'.g.v 3).toNatClampNeg + i) % 40)) (fun j => z'.f 49 (29 * i + j)) ∧ FO x'.k (y.r (((x'.g.v 3).toNatClampNeg + i) % 40)))
    rw [eg, G.1 48 u48, (G.2 49 u49).1]
    exact ⟨a4.1, a4.2.1, fun i hi => ⟨(a4.2.2 i hi).1, fo _ (a4.2.2 i hi).2⟩⟩
  · intro s hs
    show x'.g.f 4 s = z'.f 56 s ∧ (¬ z'.f 56 s = 0 → SR (y.r (40 + s)) (fun j => z'.f 57 (29 * s + j)) ∧ FO x'.k (y.r (40 + s)))
    rw [eg, (G.2 56 u56).1, (G.2 57 u57).1]
    exact ⟨(a5 s hs).1, fun q => ⟨((a5 s hs).2 q).1, fo _ ((a5 s hs).2 q).2⟩⟩
  · show TEL x'.k z'
    unfold TEL
    rw [K.1 21 w21, K.1 1 w0.1.1, (K.2 42 w42).1, (K.2 43 w43).1, (G.2 52 u52).1, (G.2 53 u53).1, (G.2 54 u54).1]
    exact a6
end
section
/-! ===== the queries that look at one thing ===== -/
theorem kp_yes {s : KS} {x : Int32} (h0 : 0 ≤ x.toInt) (h1 : x.toInt < (s.v 2).toInt) : kX5_hasParty s x = some (1, s) := by
  unfold kX5_hasParty
  have n1 : ¬ x < 0 := fun q => by
    have := tn_lt (b := 0) rfl (by decide) q
    omega
  have n2 : ¬ s.v 2 ≤ x := fun q => by
    have := ti_le q
    omega
  rw [if_neg n1, if_neg n2]
theorem kp_no {s : KS} {x : Int32} (h : ¬ (0 ≤ x.toInt ∧ x.toInt < (s.v 2).toInt)) : kX5_hasParty s x = some (0, s) := by
  unfold kX5_hasParty
  by_cases c : x < 0
  · rw [if_pos c]
  · have c' := tn_nlt (b := 0) rfl (by decide) c
    have n2 : s.v 2 ≤ x := Int32.le_iff_toInt_le.mpr (by omega)
    rw [if_neg c, if_pos n2]
theorem r_in_yes {x a b : Int32} (h0 : a.toInt ≤ x.toInt) (h1 : x.toInt ≤ b.toInt) : r_in x a b = some 1 := by
  unfold r_in
  rw [if_neg (fun q => by have := ti_lt q; omega), if_neg (fun q => by have := ti_lt q; omega)]
theorem r_in_no {x a b : Int32} (h : ¬ (a.toInt ≤ x.toInt ∧ x.toInt ≤ b.toInt)) : r_in x a b = some 0 := by
  unfold r_in
  by_cases c : x < a
  · rw [if_pos c]
  · have c' := ti_nlt c
    rw [if_neg c, if_pos (Int32.lt_iff_toInt_lt.mpr (by omega))]
theorem rp_eq {z : RS} {x : Int32} (hR : InvR z) : r_isParty z x = some ((if 0 ≤ x.toInt ∧ x.toInt < (z.f 23 (z.v 18).toNatClampNeg).toInt then 1 else 0), z) := by
  have b : 0 ≤ (z.v 18).toInt ∧ (z.v 18).toInt ≤ 1 := hR.1 18
  have c : 0 ≤ (z.f 23 (z.v 18).toNatClampNeg).toInt ∧ (z.f 23 (z.v 18).toNatClampNeg).toInt ≤ 6 := hR.2 23 _
  have a : ((z.f 23 (z.v 18).toNatClampNeg) - 1).toInt = (z.f 23 (z.v 18).toNatClampNeg).toInt - 1 := tn_sub rfl (by decide) (by omega) (by omega)
  have z0 : (0 : Int32).toInt = 0 := by decide
  unfold r_isParty
  rw [if_pos (vpb_ok (by omega) (by omega))]
  by_cases h : 0 ≤ x.toInt ∧ x.toInt < (z.f 23 (z.v 18).toNatClampNeg).toInt
  · rw [if_pos h, r_in_yes (by omega) (by omega), bindP_some]
    exact if_pos (Or.inr rfl)
  · rw [if_neg h, r_in_no (by omega), bindP_some]
    exact if_pos (Or.inl rfl)
theorem rw_eq {z : RS} {x : Int32} (hR : InvR z) : r_isWave z x = some ((if 0 ≤ x.toInt ∧ x.toInt < (z.f 20 (z.v 18).toNatClampNeg).toInt then 1 else 0), z) := by
  have b : 0 ≤ (z.v 18).toInt ∧ (z.v 18).toInt ≤ 1 := hR.1 18
  have c : 0 ≤ (z.f 20 (z.v 18).toNatClampNeg).toInt ∧ (z.f 20 (z.v 18).toNatClampNeg).toInt ≤ 5 := hR.2 20 _
  have a : ((z.f 20 (z.v 18).toNatClampNeg) - 1).toInt = (z.f 20 (z.v 18).toNatClampNeg).toInt - 1 := tn_sub rfl (by decide) (by omega) (by omega)
  have z0 : (0 : Int32).toInt = 0 := by decide
  unfold r_isWave
  rw [if_pos (vpb_ok (by omega) (by omega))]
  by_cases h : 0 ≤ x.toInt ∧ x.toInt < (z.f 20 (z.v 18).toNatClampNeg).toInt
  · rw [if_pos h, r_in_yes (by omega) (by omega), bindP_some]
    exact if_pos (Or.inr rfl)
  · rw [if_neg h, r_in_no (by omega), bindP_some]
    exact if_pos (Or.inl rfl)
theorem kw_eq {s : KS} {x : Int32} : kX5_hasWave s x = some ((if 0 ≤ x.toInt ∧ x.toInt < (s.v 1).toInt then 1 else 0), s) := by
  by_cases h : 0 ≤ x.toInt ∧ x.toInt < (s.v 1).toInt
  · rw [if_pos h]; exact kw_yes h.1 h.2
  · rw [if_neg h]; exact kw_no h
theorem kp_eq {s : KS} {x : Int32} : kX5_hasParty s x = some ((if 0 ≤ x.toInt ∧ x.toInt < (s.v 2).toInt then 1 else 0), s) := by
  by_cases h : 0 ≤ x.toInt ∧ x.toInt < (s.v 2).toInt
  · rw [if_pos h]; exact kp_yes h.1 h.2
  · rw [if_neg h]; exact kp_no h
theorem kg_eq {s : KS} {x : Int32} : kX5_hasGuess s x = some ((if 0 ≤ x.toInt ∧ x.toInt < (s.v 3).toInt then 1 else 0), s) := by
  unfold kX5_hasGuess
  by_cases h : 0 ≤ x.toInt ∧ x.toInt < (s.v 3).toInt
  · rw [if_pos h, if_neg (fun q => by have := tn_lt (b := 0) rfl (by decide) q; omega), if_neg (fun q => by have := ti_le q; omega)]
  · rw [if_neg h]
    by_cases c : x < 0
    · rw [if_pos c]
    · have c' := tn_nlt (b := 0) rfl (by decide) c
      rw [if_neg c, if_pos (Int32.le_iff_toInt_le.mpr (by omega))]
theorem rg_eq {k : KS} {z : RS} {x : Int32} (hR : InvR z) (hK : InvK k) (hS : SO k z) : r_isGuess z x = some ((if 0 ≤ x.toInt ∧ x.toInt < (k.v 3).toInt then 1 else 0), z) := by
  have b : 0 ≤ (z.v 18).toInt ∧ (z.v 18).toInt ≤ 1 := hR.1 18
  have bw : 0 ≤ (k.v 1).toInt ∧ (k.v 1).toInt ≤ 5 := hK.1 1
  have ec : (k.v 1).toInt.toNat = (k.v 1).toNatClampNeg := Int32.toNat_toInt _
  have sp := six_pow (k.v 1).toNatClampNeg (by omega)
  have pl := pow_le (k.v 1).toNatClampNeg (by omega)
  have pp : 0 < 6 ^ (k.v 1).toNatClampNeg := Nat.pow_pos (by omega)
  have z0 : (0 : Int32).toInt = 0 := by decide
  unfold r_isGuess r_guesses
  rw [if_pos (vpb_ok (by omega) (by omega)), ← hS.1.1, if_pos (vpb_ok (by omega) (by omega)), bindI_some, hS.2.1 _ (by omega), ← hS.1.2.2.2]
  have e3 := hS.1.2.2.2
  have a : ((k.v 3) - 1).toInt = (k.v 3).toInt - 1 := tn_sub rfl (by decide) (by rw [e3]; omega) (by rw [e3]; omega)
  by_cases h : 0 ≤ x.toInt ∧ x.toInt < (k.v 3).toInt
  · rw [if_pos h, r_in_yes (by omega) (by omega), bindP_some]
    exact if_pos (Or.inr rfl)
  · rw [if_neg h, r_in_no (by omega), bindP_some]
    exact if_pos (Or.inl rfl)
/-- what a query answers, and what it leaves of the class's object -/
noncomputable def QSm (x x' : XS) (r1 r2 : Int32) : Prop := r1 = r2 ∧ x'.g = x.g ∧ x'.n = x.n
theorem wave_same {y : YS} {x' : XS} {z z' : RS} {x1 x2 r1 r2 : Int32} (h : REL y z) (hK : InvK y.x.k) (hI : InvR z) (hB : Big z) (h1 : kX10_wave y.x x1 x2 = some (r1, x')) (h2 : r_wave z x1 x2 = some (r2, z')) : QSm y.x x' r1 r2 := by
  have bw : 0 ≤ (y.x.k.v 1).toInt ∧ (y.x.k.v 1).toInt ≤ 5 := hK.1 1
  unfold kX10_wave at h1
  unfold r_wave at h2
  rw [kw_eq, bindI_some] at h1
  rw [rw_eq hI, bindI_some, ← h.1.1.1] at h2
  replace h1 := letS_inv h1
  obtain ⟨s3, c3, h1⟩ := h1
  have e3 : s3 = y.x := by rw [← c3]; rfl
  subst e3
  by_cases hw : 0 ≤ x1.toInt ∧ x1.toInt < (y.x.k.v 1).toInt
  · rw [if_pos hw, if_neg z_one] at h1 h2
    replace h2 := bindP_inv h2
    obtain ⟨z4, w4, h2⟩ := h2
    obtain ⟨hJ, _⟩ := h.jr hK hI hB w4
    obtain ⟨w, ew⟩ : ∃ w : Nat, x1.toInt = (w : Int) := ⟨x1.toInt.toNat, by omega⟩
    have a5 : (5 + x1).toInt = ((5 + w : Nat) : Int) := by
      rw [tn_add (by decide : (5 : Int32).toInt = 5) ew (by omega) (by omega)]
      omega
    have a10 : (10 + x1).toInt = ((10 + w : Nat) : Int) := by
      rw [tn_add (by decide : (10 : Int32).toInt = 10) ew (by omega) (by omega)]
      omega
    have cw := clamp_of_int ew
    obtain ⟨m1, m2, m3, m4⟩ := hJ.2.1.1 w (by omega)
    by_cases e0 : x2 = 0
    · rw [if_pos e0] at h1 h2
      rw [k_may ew (by omega), bindI_some] at h1
      replace h1 := letS_inv h1
      obtain ⟨s9, c9, h1⟩ := h1
      replace h2 := bindI_inv h2
      obtain ⟨q, z6, w6, h2⟩ := h2
      obtain ⟨_, eq⟩ := may_same hJ.1 (hJ.2.1.at (by omega)) hJ.2.2.2.1 hK ew (show (w : Int) < (y.x.k.v 1).toInt by omega) w6
      cases h1
      cases h2
      rw [← c9]
      exact ⟨eq.symm, rfl, rfl⟩
    · rw [if_neg e0] at h1 h2
      by_cases e1 : x2 = 1
      · rw [if_pos e1, cw] at h1
        rw [if_pos e1, clamp_of_int a5] at h2
        replace h1 := guard_inv h1
        obtain ⟨_, h1⟩ := h1
        replace h2 := guard_inv h2
        obtain ⟨_, h2⟩ := h2
        have e2 : r2 = z4.f 44 (5 + w) := by cases h2; rfl
        rcases m1 with ⟨f1, f2⟩ | ⟨f1, f2, f3⟩
        · have f1 : y.x.n.f 0 w = -1 := f1
          rw [if_pos f1] at h1
          cases h1
          exact ⟨by rw [e2, f2], rfl, rfl⟩
        · have f1 : y.x.n.f 0 w = z4.f 44 (5 + w) := f1
          have n1 : ¬ y.x.n.f 0 w = -1 := fun q => by
            rw [← f1, q] at f2
            exact absurd f2 (by decide)
          rw [if_neg n1] at h1
          replace h1 := guard_inv h1
          obtain ⟨_, h1⟩ := h1
          cases h1
          exact ⟨by rw [e2, f1], rfl, rfl⟩
      · rw [if_neg e1] at h1 h2
        by_cases e2 : x2 = 2
        · rw [if_pos e2, cw] at h1 h2
          replace h1 := guard_inv h1
          obtain ⟨_, h1⟩ := h1
          replace h2 := guard_inv h2
          obtain ⟨_, h2⟩ := h2
          cases h1
          cases h2
          exact ⟨m2, rfl, rfl⟩
        · rw [if_neg e2] at h1 h2
          by_cases e3 : x2 = 3
          · rw [if_pos e3, cw] at h1
            rw [if_pos e3, clamp_of_int a10] at h2
            replace h1 := guard_inv h1
            obtain ⟨_, h1⟩ := h1
            replace h2 := guard_inv h2
            obtain ⟨_, h2⟩ := h2
            cases h1
            cases h2
            exact ⟨m4, rfl, rfl⟩
          · rw [if_neg e3] at h1 h2
            by_cases e4 : x2 = 4
            · rw [if_pos e4] at h1 h2
              replace h1 := bindI_inv h1
              obtain ⟨b8, s7, u8, h1⟩ := h1
              replace h1 := letS_inv h1
              obtain ⟨s22, c22, h1⟩ := h1
              replace h2 := bindI_inv h2
              obtain ⟨q, z15, w15, h2⟩ := h2
              unfold kX0_thereNow at u8
              replace u8 := guard_inv u8
              obtain ⟨_, u8⟩ := u8
              replace u8 := bindI_inv u8
              obtain ⟨b3, k2, u3, u8⟩ := u8
              replace u8 := letS_inv u8
              obtain ⟨s8, c8, u8⟩ := u8
              have e8 : b8 = b3 ∧ s7 = s8 := by cases u8; exact ⟨rfl, rfl⟩
              rw [cw] at u3
              obtain ⟨er, ek, _⟩ := there_same hJ.2.2.1 hJ.1 hJ.2.2.2.1 hK ew (show (w : Int) < (y.x.k.v 1).toInt by omega) m4 (by rw [hJ.2.2.2.2.2]; exact hJ.1.1.2.2.1) u3 w15
              cases h1
              cases h2
              rw [← c22, e8.2, ← c8]
              exact ⟨e8.1.trans er, rfl, rfl⟩
            · rw [if_neg e4] at h1 h2
              by_cases e5 : x2 = 5
              · rw [if_pos e5] at h1 h2
                replace h1 := bindI_inv h1
                obtain ⟨q1, s25, u25, h1⟩ := h1
                replace h1 := letS_inv h1
                obtain ⟨s27, c27, h1⟩ := h1
                replace h2 := bindI_inv h2
                obtain ⟨q2, z18, w18, h2⟩ := h2
                obtain ⟨er, kp⟩ := shift_same hJ.1 hJ.2.2.2.1 hK hJ.2.1.2.2.1 (hJ.2.1.at (by omega)) ew (show (w : Int) < (y.x.k.v 1).toInt by omega) u25 w18
                cases h1
                cases h2
                rw [← c27]
                exact ⟨er, rfl, kp.1⟩
              · rw [if_neg e5] at h1 h2
                cases h1
                cases h2
                exact ⟨rfl, rfl, rfl⟩
  · rw [if_neg hw, if_pos rfl] at h1 h2
    cases h1
    cases h2
    exact ⟨rfl, rfl, rfl⟩
theorem needs_same {y : YS} {x' : XS} {z z' : RS} {x1 x2 x3 r1 r2 : Int32} (h : REL y z) (hK : InvK y.x.k) (hI : InvR z) (hB : Big z) (h1 : kX10_needs y.x x1 x2 x3 = some (r1, x')) (h2 : r_needs z x1 x2 x3 = some (r2, z')) : QSm y.x x' r1 r2 := by
  have bw : 0 ≤ (y.x.k.v 1).toInt ∧ (y.x.k.v 1).toInt ≤ 5 := hK.1 1
  have bp : 0 ≤ (y.x.k.v 2).toInt ∧ (y.x.k.v 2).toInt ≤ 6 := hK.1 2
  unfold kX10_needs at h1
  unfold r_needs at h2
  rw [kp_eq, bindI_some] at h1
  rw [rp_eq hI, bindI_some, ← h.1.1.2.1] at h2
  replace h1 := letS_inv h1
  obtain ⟨s3, c3, h1⟩ := h1
  have e3 : s3 = y.x := by rw [← c3]; rfl
  subst e3
  by_cases hp : 0 ≤ x1.toInt ∧ x1.toInt < (y.x.k.v 2).toInt
  · rw [if_pos hp, if_neg z_one] at h1 h2
    rw [kw_eq, bindI_some] at h1
    rw [rw_eq hI, bindI_some, ← h.1.1.1] at h2
    replace h1 := letS_inv h1
    obtain ⟨s8, c8, h1⟩ := h1
    have e8 : s8 = y.x := by rw [← c8]; rfl
    subst e8
    by_cases hw : 0 ≤ x2.toInt ∧ x2.toInt < (y.x.k.v 1).toInt
    · rw [if_pos hw, if_neg z_one] at h1 h2
      by_cases ht : 0 ≤ x3.toInt ∧ x3.toInt ≤ 5
      · rw [kt_yes ht.1 ht.2, bindP_some, if_neg z_one] at h1
        rw [rt_yes ht.1 ht.2, bindP_some, if_neg z_one] at h2
        replace h2 := bindP_inv h2
        obtain ⟨z9, w9, h2⟩ := h2
        obtain ⟨hJ, _⟩ := h.jr hK hI hB w9
        replace h1 := bindI_inv h1
        obtain ⟨q1, s13, u13, h1⟩ := h1
        replace h1 := letS_inv h1
        obtain ⟨s15, c15, h1⟩ := h1
        replace h2 := bindI_inv h2
        obtain ⟨q2, z10, w10, h2⟩ := h2
        obtain ⟨p, ep⟩ : ∃ p : Nat, x1.toInt = (p : Int) := ⟨x1.toInt.toNat, by omega⟩
        obtain ⟨w, ew⟩ : ∃ w : Nat, x2.toInt = (w : Int) := ⟨x2.toInt.toNat, by omega⟩
        obtain ⟨v, ev⟩ : ∃ v : Nat, x3.toInt = (v : Int) := ⟨x3.toInt.toNat, by omega⟩
        obtain ⟨er, kp⟩ := need_same (s := JS.mk y.x.k y.x.n) (hJ.nr (by omega) (by omega)) ep (by show (p : Int) < (y.x.k.v 2).toInt; omega) ew (by show (w : Int) < (y.x.k.v 1).toInt; omega) ev (by omega) u13 w10
        cases h1
        cases h2
        rw [← c15]
        exact ⟨er, rfl, kp.1⟩
      · rw [kt_no ht, bindP_some, if_pos rfl] at h1
        rw [rt_no ht, bindP_some, if_pos rfl] at h2
        cases h1
        cases h2
        exact ⟨rfl, rfl, rfl⟩
    · rw [if_neg hw, if_pos rfl] at h1 h2
      cases h1
      cases h2
      exact ⟨rfl, rfl, rfl⟩
  · rw [if_neg hp, if_pos rfl] at h1 h2
    cases h1
    cases h2
    exact ⟨rfl, rfl, rfl⟩
end
