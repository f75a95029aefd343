/-! ===== two worlds between calls: what may be there ===== -/
def six6 : Nat → Int32
  | 0 => 1
  | n + 1 => six6 n * 6
theorem six_val : (six6 0).toInt = 1 ∧ (six6 1).toInt = 6 ∧ (six6 2).toInt = 36 ∧ (six6 3).toInt = 216 ∧ (six6 4).toInt = 1296 ∧ (six6 5).toInt = 7776 := by decide
/-- a small number as an int -/
theorem ofnat_int {n : Nat} (h : n < 2147483648) : (Int32.ofNat n).toInt = (n : Int) := by
  exact Int32.toInt_ofNat_of_lt (by omega)
theorem eq_ofnat {x : Int32} {n : Nat} (h : x.toInt = (n : Int)) : x = Int32.ofNat n := by
  have r := ti_rng x
  exact Int32.toInt_inj.mp (h.trans (ofnat_int (by omega)).symm)
theorem all_small {P : Int32 → Prop} {N : Nat} (hN : N < 2147483648) (h : ∀ n, n < N → P (Int32.ofNat n)) {x : Int32} (h0 : 0 ≤ x.toInt) (h1 : x.toInt < (N : Int)) : P x := by
  have e : x = Int32.ofNat x.toInt.toNat := eq_ofnat (by omega)
  rw [e]
  exact h _ (by omega)
theorem or_and {x y c : Int32} : (x ||| y) &&& c = (x &&& c) ||| (y &&& c) := Int32.toBitVec_inj.mp (by
  show (x.toBitVec ||| y.toBitVec) &&& c.toBitVec = (x.toBitVec &&& c.toBitVec) ||| (y.toBitVec &&& c.toBitVec)
  exact BitVec.and_or_distrib_right)
/-- the bits that are counted -/
def bsum (x : Int32) : Int32 := (((((0 + ((x >>> ((0 : Int32) &&& 31)) &&& 1)) + ((x >>> (((0 : Int32) + 1) &&& 31)) &&& 1)) + ((x >>> (((0 : Int32) + 1 + 1) &&& 31)) &&& 1)) + ((x >>> (((0 : Int32) + 1 + 1 + 1) &&& 31)) &&& 1)) + ((x >>> (((0 : Int32) + 1 + 1 + 1 + 1) &&& 31)) &&& 1)) + ((x >>> (((0 : Int32) + 1 + 1 + 1 + 1 + 1) &&& 31)) &&& 1)
theorem r_bits_eq (x : Int32) : r_bits x = some (bsum x) := by
  unfold r_bits
  show r_bits_4 (r_bits_4L 19999) x 0 0 = _
  unfold r_bits_4
  rw [if_neg (by decide)]
  show r_bits_4 (r_bits_4L 19998) x _ (0 + 1) = _
  unfold r_bits_4
  rw [if_neg (by decide)]
  show r_bits_4 (r_bits_4L 19997) x _ (0 + 1 + 1) = _
  unfold r_bits_4
  rw [if_neg (by decide)]
  show r_bits_4 (r_bits_4L 19996) x _ (0 + 1 + 1 + 1) = _
  unfold r_bits_4
  rw [if_neg (by decide)]
  show r_bits_4 (r_bits_4L 19995) x _ (0 + 1 + 1 + 1 + 1) = _
  unfold r_bits_4
  rw [if_neg (by decide)]
  show r_bits_4 (r_bits_4L 19994) x _ (0 + 1 + 1 + 1 + 1 + 1) = _
  unfold r_bits_4
  rw [if_neg (by decide)]
  show r_bits_4 (r_bits_4L 19993) x _ (0 + 1 + 1 + 1 + 1 + 1 + 1) = _
  unfold r_bits_4
  rw [if_pos (by decide)]
  rfl
def bcount (x : Int32) : Int32 := match kJ6_bitCount_0f7a4 x with
  | some r => r
  | none => 0
theorem k_bits_eq (x : Int32) : kJ6_bitCount_0f7a4 x = some (bcount x) := rfl
theorem bits_small : ∀ n, n < 64 → bcount (Int32.ofNat n) = bsum (Int32.ofNat n) ∧ 0 ≤ (bsum (Int32.ofNat n)).toInt ∧ (bsum (Int32.ofNat n)).toInt ≤ 6 := by decide +kernel
theorem bits_same {x : Int32} (h0 : 0 ≤ x.toInt) (h1 : x.toInt ≤ 63) : bcount x = bsum x ∧ 0 ≤ (bsum x).toInt ∧ (bsum x).toInt ≤ 6 :=
  all_small (P := fun x => bcount x = bsum x ∧ 0 ≤ (bsum x).toInt ∧ (bsum x).toInt ≤ 6) (N := 64) (by omega) bits_small h0 (by omega)
/-- a standing of the class beside a row of the reference -/
def FoR (a b : Int32) : Prop := (a = -1 ∧ b = -2) ∨ (a = b ∧ 0 ≤ b.toInt ∧ b.toInt ≤ 5)
def SR (d : SD) (f : Nat → Int32) : Prop := (∀ w, w < 5 → FoR (d.f 0 w) (f (5 + w)) ∧ d.f 1 w = f w ∧ (0 ≤ (f w).toInt ∧ (f w).toInt ≤ 63) ∧ d.f 2 w = f (10 + w)) ∧ (∀ p, p < 6 → d.f 3 p = f (15 + p) ∧ d.f 4 p = f (21 + p)) ∧ d.v 5 = f 27 ∧ d.v 6 = f 28
/-- the part of it that a wave's own questions look at -/
def SRw (d : SD) (f : Nat → Int32) (w : Nat) : Prop := FoR (d.f 0 w) (f (5 + w)) ∧ d.f 1 w = f w ∧ 0 ≤ (f w).toInt ∧ (f w).toInt ≤ 63
theorem SR.at {d : SD} {f : Nat → Int32} {w : Nat} (h : SR d f) (hw : w < 5) : SRw d f w := ⟨(h.1 w hw).1, (h.1 w hw).2.1, (h.1 w hw).2.2.1⟩
/-- sums and likely things of a wave, by its odds from b on -/
def lkv (o v : Int32) : Int32 := if o ≤ 0 then 0 else 1 <<< (v &&& 31)
def lks (f : Nat → Int32) (b : Nat) : Nat → Int32
  | 0 => 0
  | j + 1 => lks f b j ||| lkv (f (b + j)) (Int32.ofNat j)
def sms (f : Nat → Int32) (b : Nat) : Nat → Int32
  | 0 => 0
  | j + 1 => sms f b j + f (b + j)
/-- what the reference gathers -/
def mays (f : Nat → Int32) (b : Nat) (u : Int32) : Nat → Int32
  | 0 => 0
  | j + 1 => if f (b + j) ≤ 0 then mays f b u j else if ((u >>> ((Int32.ofNat j) &&& 31)) &&& 1) = 0 then mays f b u j ||| ((1 : Int32) <<< ((Int32.ofNat j) &&& 31)) else mays f b u j
theorem lk_one : ∀ j, j < 6 → ∀ n, n < 64 → ((1 : Int32) <<< ((Int32.ofNat j) &&& 31)) &&& ((Int32.ofNat n) ^^^ (-1 : Int32)) = if (((Int32.ofNat n) >>> ((Int32.ofNat j) &&& 31)) &&& 1) = 0 then 1 <<< ((Int32.ofNat j) &&& 31) else (0 : Int32) := by decide +kernel
theorem or_zero32 (x : Int32) : x ||| 0 = x := Int32.toBitVec_inj.mp (by
  show x.toBitVec ||| 0#32 = x.toBitVec
  exact BitVec.or_zero)
theorem zero_and32 (x : Int32) : 0 &&& x = 0 := Int32.toBitVec_inj.mp (by
  show 0#32 &&& x.toBitVec = 0#32
  exact BitVec.zero_and)
theorem may_fold {f : Nat → Int32} {b : Nat} {u : Int32} (h0 : 0 ≤ u.toInt) (h1 : u.toInt ≤ 63) : ∀ j, j ≤ 6 → lks f b j &&& (u ^^^ (-1 : Int32)) = mays f b u j := by
  intro j
  induction j with
  | zero => intro _; exact zero_and32 _
  | succ j ih =>
    intro hj
    show (lks f b j ||| lkv (f (b + j)) (Int32.ofNat j)) &&& (u ^^^ (-1 : Int32)) = if f (b + j) ≤ 0 then mays f b u j else if ((u >>> ((Int32.ofNat j) &&& 31)) &&& 1) = 0 then mays f b u j ||| ((1 : Int32) <<< ((Int32.ofNat j) &&& 31)) else mays f b u j
    rw [or_and, ih (by omega)]
    unfold lkv
    by_cases c : f (b + j) ≤ 0
    · rw [if_pos c, if_pos c, zero_and32, or_zero32]
    · rw [if_neg c, if_neg c]
      have q := all_small (P := fun u => ((1 : Int32) <<< ((Int32.ofNat j) &&& 31)) &&& (u ^^^ (-1 : Int32)) = if ((u >>> ((Int32.ofNat j) &&& 31)) &&& 1) = 0 then 1 <<< ((Int32.ofNat j) &&& 31) else (0 : Int32)) (N := 64) (by omega) (lk_one j (by omega)) h0 (by omega)
      have q : ((1 : Int32) <<< ((Int32.ofNat j) &&& 31)) &&& (u ^^^ (-1 : Int32)) = if ((u >>> ((Int32.ofNat j) &&& 31)) &&& 1) = 0 then 1 <<< ((Int32.ofNat j) &&& 31) else (0 : Int32) := q
      rw [q]
      by_cases e : ((u >>> ((Int32.ofNat j) &&& 31)) &&& 1) = 0
      · rw [if_pos e, if_pos e]
      · rw [if_neg e, if_neg e, or_zero32]
theorem or_small {x y : Int32} (hx0 : 0 ≤ x.toInt) (hx : x.toInt ≤ 63) (hy0 : 0 ≤ y.toInt) (hy : y.toInt ≤ 63) : 0 ≤ (x ||| y).toInt ∧ (x ||| y).toInt ≤ 63 := by
  have ex : x.toInt = (x.toBitVec.toNat : Int) := by
    have c := BitVec.toInt_eq_toNat_cond x.toBitVec
    have e : x.toInt = x.toBitVec.toInt := rfl
    have l := x.toBitVec.isLt
    rw [e] at hx0 hx ⊢
    rw [c] at hx0 hx ⊢
    split at hx0 <;> omega
  have ey : y.toInt = (y.toBitVec.toNat : Int) := by
    have c := BitVec.toInt_eq_toNat_cond y.toBitVec
    have e : y.toInt = y.toBitVec.toInt := rfl
    have l := y.toBitVec.isLt
    rw [e] at hy0 hy ⊢
    rw [c] at hy0 hy ⊢
    split at hy0 <;> omega
  have h : (x ||| y).toBitVec.toNat < 2 ^ 6 := by
    show (x.toBitVec ||| y.toBitVec).toNat < 2 ^ 6
    rw [BitVec.toNat_or]
    exact Nat.or_lt_two_pow (by omega) (by omega)
  have e : (x ||| y).toInt = ((x ||| y).toBitVec.toNat : Int) := by
    show (x ||| y).toBitVec.toInt = _
    rw [BitVec.toInt_eq_toNat_of_lt (by omega)]
  omega
theorem one_shl : ∀ j, j < 6 → 0 ≤ ((1 : Int32) <<< ((Int32.ofNat j) &&& 31)).toInt ∧ ((1 : Int32) <<< ((Int32.ofNat j) &&& 31)).toInt ≤ 63 := by decide +kernel
theorem mays_small {f : Nat → Int32} {b : Nat} {u : Int32} : ∀ j, j ≤ 6 → 0 ≤ (mays f b u j).toInt ∧ (mays f b u j).toInt ≤ 63 := by
  intro j
  induction j with
  | zero =>
    intro _
    show 0 ≤ (0 : Int32).toInt ∧ (0 : Int32).toInt ≤ 63
    decide
  | succ j ih =>
    intro hj
    have i := ih (by omega)
    have o := one_shl j (by omega)
    show 0 ≤ (if f (b + j) ≤ 0 then mays f b u j else if ((u >>> ((Int32.ofNat j) &&& 31)) &&& 1) = 0 then mays f b u j ||| ((1 : Int32) <<< ((Int32.ofNat j) &&& 31)) else mays f b u j).toInt ∧ (if f (b + j) ≤ 0 then mays f b u j else if ((u >>> ((Int32.ofNat j) &&& 31)) &&& 1) = 0 then mays f b u j ||| ((1 : Int32) <<< ((Int32.ofNat j) &&& 31)) else mays f b u j).toInt ≤ 63
    by_cases c : f (b + j) ≤ 0
    · rw [if_pos c]; exact i
    · rw [if_neg c]
      by_cases e : ((u >>> ((Int32.ofNat j) &&& 31)) &&& 1) = 0
      · rw [if_pos e]; exact or_small i.1 i.2 o.1 o.2
      · rw [if_neg e]; exact i
/-- what a text tells, on both sides -/
def SO (k : KS) (z : RS) : Prop := (k.v 1 = z.f 20 (z.v 18).toNatClampNeg ∧ k.v 2 = z.f 23 (z.v 18).toNatClampNeg ∧ k.v 4 = z.f 26 (z.v 18).toNatClampNeg ∧ k.v 3 = six6 (k.v 1).toNatClampNeg) ∧ (∀ j, j < 6 → z.f 46 j = six6 j) ∧ OD7 k z ∧ (∀ p : Nat, (p : Int) < (k.v 2).toInt → k.f 6 p = z.f 24 (6 * (z.v 18).toNatClampNeg + p) ∧ k.f 7 p = z.f 25 (6 * (z.v 18).toNatClampNeg + p)) ∧ (∀ w : Nat, (w : Int) < (k.v 1).toInt → k.f 4 w = sms (k.f 3) (6 * w) 6 ∧ k.f 5 w = lks (k.f 3) (6 * w) 6) ∧ LAWF (z.v 18).toNatClampNeg (k.f 9) (k.f 10) (k.f 11) (k.f 12) z
def MB (k : KS) (d : SD) (w : Nat) : Int32 := if d.f 0 w = -1 then (k.f 5 w) &&& ((d.f 1 w) ^^^ (-1 : Int32)) else 1 <<< ((d.f 0 w) &&& 31)
theorem k_may {s : JS} {x : Int32} {w : Nat} (hx : x.toInt = (w : Int)) (hw : w < 5) : kX0_mayBe s x = some (MB s.k s.d w, s) := by
  have ec : x.toNatClampNeg = w := clamp_of_int hx
  have hv : vpb x 5 = true := vpb_ok (by omega) (by omega)
  unfold kX0_mayBe MB
  rw [ec, if_pos hv, if_pos hv, if_pos hv, if_pos hv]
  by_cases c : s.d.f 0 w = -1
  · rw [if_pos c, if_pos c]
  · rw [if_neg c, if_neg c]
theorem r_odds_inv {z z' : RS} {x1 x2 r : Int32} {l w v : Nat} (hl : (z.v 18).toInt = (l : Int)) (hl1 : l ≤ 1) (h1 : x1.toInt = (w : Int)) (hw : w < 5) (h2 : x2.toInt = (v : Int)) (hv : v < 6) (h : r_oddsAt z x1 x2 = some (r, z')) : z' = z ∧ r = z.f 21 (30 * l + (6 * w + v)) := by
  unfold r_oddsAt at h
  replace h := guard_inv h
  obtain ⟨_, h⟩ := h
  have m2 : (30 * (z.v 18)).toInt = (z.v 18).toInt * 30 := ti_cmul (c := 30) (by decide) (by omega) (by omega)
  have m3 : (6 * x1).toInt = x1.toInt * 6 := ti_cmul (c := 6) (by decide) (by omega) (by omega)
  have m4 : ((30 * (z.v 18)) + (6 * x1)).toInt = (30 * (z.v 18)).toInt + (6 * x1).toInt := ti_add (by omega) (by omega)
  have i2 : (((30 * (z.v 18)) + (6 * x1)) + x2).toInt = ((30 * l + (6 * w + v) : Nat) : Int) := by
    rw [ti_add (by omega) (by omega)]
    omega
  rw [clamp_of_int i2] at h
  cases h
  exact ⟨rfl, rfl⟩
theorem k_odds {k : KS} {x1 x2 : Int32} {w v : Nat} (h1 : x1.toInt = (w : Int)) (hw : w < 5) (h2 : x2.toInt = (v : Int)) (hv : v < 6) : kX5_oddsAt k x1 x2 = some (k.f 3 (6 * w + v), k) := by
  have m1 : (x1 * 6).toInt = x1.toInt * 6 := ti_mulc (c := 6) (by decide) (by omega) (by omega)
  have i1 : ((x1 * 6) + x2).toInt = ((6 * w + v : Nat) : Int) := by
    rw [ti_add (by omega) (by omega)]
    omega
  unfold kX5_oddsAt
  rw [if_pos (vpb_ok (by omega) (by omega)), clamp_of_int i1]
theorem r_mayL {z z' : RS} {r x1 : Int32} {l w : Nat} (hl : (z.v 18).toInt = (l : Int)) (hl1 : l ≤ 1) (h1 : x1.toInt = (w : Int)) (hw : w < 5) : ∀ (n : Nat) (x2 x3 : Int32) (j : Nat), x3.toInt = (j : Int) → j ≤ 6 → x2 = mays (z.f 21) (30 * l + 6 * w) (z.f 44 w) j → r_mayAt_26L n z x1 x2 x3 = some (r, z') → z' = z ∧ r = mays (z.f 21) (30 * l + 6 * w) (z.f 44 w) 6 := by
  intro n
  induction n with
  | zero => intro x2 x3 j _ _ _ h; exact none_ne h
  | succ n ih =>
    intro x2 x3 j h3 hj h2 h
    replace h : r_mayAt_26 (r_mayAt_26L n) z x1 x2 x3 = some (r, z') := h
    unfold r_mayAt_26 r_mayAt_60 at h
    by_cases c : 6 ≤ x3
    · have c' := tn_le (a := 6) (by decide) rfl c
      have ej : j = 6 := by omega
      rw [if_pos c] at h
      have e : r = x2 ∧ z' = z := by cases h; exact ⟨rfl, rfl⟩
      exact ⟨e.2, by rw [e.1, h2, ej]⟩
    · have c' := tn_nle (a := 6) (by decide) rfl c
      rw [if_neg c] at h
      replace h := bindI_inv h
      obtain ⟨q, z2, hq, h⟩ := h
      obtain ⟨ez, eq⟩ := r_odds_inv hl hl1 h1 hw h3 (by omega) hq
      subst ez
      have a3 : (x3 + 1).toInt = ((j + 1 : Nat) : Int) := by
        rw [tn_add h3 (by decide : (1 : Int32).toInt = 1) (by omega) (by omega)]
        omega
      have e3 : x3 = Int32.ofNat j := eq_ofnat h3
      have eb : 30 * l + (6 * w + j) = 30 * l + 6 * w + j := by omega
      rw [eb] at eq
      have hm : mays (z2.f 21) (30 * l + 6 * w) (z2.f 44 w) (j + 1) = if z2.f 21 (30 * l + 6 * w + j) ≤ 0 then mays (z2.f 21) (30 * l + 6 * w) (z2.f 44 w) j else if (((z2.f 44 w) >>> ((Int32.ofNat j) &&& 31)) &&& 1) = 0 then mays (z2.f 21) (30 * l + 6 * w) (z2.f 44 w) j ||| ((1 : Int32) <<< ((Int32.ofNat j) &&& 31)) else mays (z2.f 21) (30 * l + 6 * w) (z2.f 44 w) j := rfl
      rw [← eq, ← e3] at hm
      by_cases c1 : q ≤ 0
      · rw [if_pos c1] at h hm
        exact ih x2 (x3 + 1) (j + 1) a3 (by omega) (by rw [h2, hm]) h
      · rw [if_neg c1] at h hm
        replace h := guard_inv h
        obtain ⟨_, h⟩ := h
        rw [clamp_of_int h1] at h
        by_cases c2 : (((z2.f 44 w) >>> (x3 &&& 31)) &&& 1) = 0
        · rw [if_pos c2] at h hm
          exact ih _ (x3 + 1) (j + 1) a3 (by omega) (by rw [h2, hm]) h
        · rw [if_neg c2] at h hm
          exact ih x2 (x3 + 1) (j + 1) a3 (by omega) (by rw [h2, hm]) h
/-- the odds of both sides, number by number -/
theorem od_eq {k : KS} {z : RS} {l w v : Nat} (h : OD7 k z) (hl : (z.v 18).toInt = (l : Int)) (hw : (w : Int) < (k.v 1).toInt) (hv : v < 6) : k.f 3 (6 * w + v) = z.f 21 (30 * l + 6 * w + v) := by
  have q := h (6 * w + v) (by omega)
  rw [clamp_of_int hl] at q
  rw [q]
  exact congrArg (z.f 21) (by omega)
theorem mays_cg {f g : Nat → Int32} {a b : Nat} {u : Int32} : ∀ j, (∀ v, v < j → f (a + v) = g (b + v)) → mays f a u j = mays g b u j := by
  intro j
  induction j with
  | zero => intro _; rfl
  | succ j ih =>
    intro h
    show (if f (a + j) ≤ 0 then mays f a u j else if ((u >>> ((Int32.ofNat j) &&& 31)) &&& 1) = 0 then mays f a u j ||| ((1 : Int32) <<< ((Int32.ofNat j) &&& 31)) else mays f a u j) = if g (b + j) ≤ 0 then mays g b u j else if ((u >>> ((Int32.ofNat j) &&& 31)) &&& 1) = 0 then mays g b u j ||| ((1 : Int32) <<< ((Int32.ofNat j) &&& 31)) else mays g b u j
    rw [h j (by omega), ih (fun v hv => h v (by omega))]
theorem sms_cg {f g : Nat → Int32} {a b : Nat} : ∀ j, (∀ v, v < j → f (a + v) = g (b + v)) → sms f a j = sms g b j := by
  intro j
  induction j with
  | zero => intro _; rfl
  | succ j ih =>
    intro h
    show sms f a j + f (a + j) = sms g b j + g (b + j)
    rw [h j (by omega), ih (fun v hv => h v (by omega))]
theorem shl_found : ∀ n, n < 6 → 0 ≤ ((1 : Int32) <<< ((Int32.ofNat n) &&& 31)).toInt ∧ ((1 : Int32) <<< ((Int32.ofNat n) &&& 31)).toInt ≤ 63 := one_shl
/-- what may be there is the same, and six6 bits -/
theorem may_same {k : KS} {d : SD} {z z' : RS} {x r : Int32} {w : Nat} (hS : SO k z) (hR : SRw d (z.f 44) w) (hI : InvR z) (hK : InvK k) (hx : x.toInt = (w : Int)) (hw : (w : Int) < (k.v 1).toInt) (h : r_mayAt z x = some (r, z')) : z' = z ∧ r = MB k d w := by
  have bw : 0 ≤ (k.v 1).toInt ∧ (k.v 1).toInt ≤ 5 := hK.1 1
  have bl : 0 ≤ (z.v 18).toInt ∧ (z.v 18).toInt ≤ 1 := hI.1 18
  obtain ⟨l, hl⟩ : ∃ l : Nat, (z.v 18).toInt = (l : Int) := ⟨(z.v 18).toInt.toNat, by omega⟩
  obtain ⟨hF, hB, hB2⟩ := hR
  have a5 : (5 + x).toInt = ((5 + w : Nat) : Int) := by
    rw [tn_add (by decide : (5 : Int32).toInt = 5) hx (by omega) (by omega)]
    omega
  unfold r_mayAt at h
  replace h := guard_inv h
  obtain ⟨_, h⟩ := h
  rw [clamp_of_int a5] at h
  unfold MB
  rcases hF with ⟨f1, f2⟩ | ⟨f1, f2, f3⟩
  · rw [if_pos f1]
    rw [if_pos (by rw [f2]; decide)] at h
    obtain ⟨e1, e2⟩ := r_mayL hl (by omega) hx (by omega) fu 0 0 0 (by decide) (by omega) rfl h
    refine ⟨e1, ?_⟩
    rw [e2, (hS.2.2.2.2.1 w hw).2, hB, may_fold hB2.1 hB2.2 6 (by omega)]
    exact (mays_cg 6 (fun v hv => od_eq hS.2.2.1 hl hw hv)).symm
  · have n1 : ¬ d.f 0 w = -1 := fun q => by
      rw [← f1, q] at f2
      exact absurd f2 (by decide)
    have n2 : ¬ z.f 44 (5 + w) < 0 := fun q => by
      have := tn_lt (b := 0) rfl (by decide) q
      omega
    rw [if_neg n1]
    rw [if_neg n2] at h
    replace h := guard_inv h
    obtain ⟨_, h⟩ := h
    have e : r = 1 <<< ((z.f 44 (5 + w)) &&& 31) ∧ z' = z := by cases h; exact ⟨rfl, rfl⟩
    exact ⟨e.2, by rw [e.1, f1]⟩
theorem MB_small {k : KS} {d : SD} {z : RS} {w : Nat} (hS : SO k z) (hR : SRw d (z.f 44) w) (hK : InvK k) (hw : (w : Int) < (k.v 1).toInt) : 0 ≤ (MB k d w).toInt ∧ (MB k d w).toInt ≤ 63 := by
  have bw : 0 ≤ (k.v 1).toInt ∧ (k.v 1).toInt ≤ 5 := hK.1 1
  obtain ⟨hF, hB, hB2⟩ := hR
  unfold MB
  rcases hF with ⟨f1, f2⟩ | ⟨f1, f2, f3⟩
  · rw [if_pos f1, (hS.2.2.2.2.1 w hw).2, hB, may_fold hB2.1 hB2.2 6 (by omega)]
    exact mays_small 6 (by omega)
  · have n1 : ¬ d.f 0 w = -1 := fun q => by
      rw [← f1, q] at f2
      exact absurd f2 (by decide)
    rw [if_neg n1, f1]
    exact all_small (P := fun x => 0 ≤ ((1 : Int32) <<< (x &&& 31)).toInt ∧ ((1 : Int32) <<< (x &&& 31)).toInt ≤ 63) (N := 6) (by omega) shl_found f2 (by omega)
