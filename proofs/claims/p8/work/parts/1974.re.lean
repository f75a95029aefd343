/-! ===== numbers made of things ===== -/
def dsum (D : Nat → Nat) : Nat → Nat
  | 0 => 0
  | n + 1 => dsum D n + 6 ^ n * D n
def hsum (D : Nat → Nat) : Nat → Nat → Nat
  | _, 0 => 0
  | j, m + 1 => D j + 6 * hsum D (j + 1) m
theorem dsum_lt {D : Nat → Nat} : ∀ n, (∀ w, w < n → D w < 6) → dsum D n < 6 ^ n := by
  intro n
  induction n with
  | zero => intro _; exact Nat.lt_of_lt_of_le Nat.zero_lt_one (Nat.le_refl _)
  | succ n ih =>
    intro h
    have i := ih (fun w hw => h w (by omega))
    have d := h n (by omega)
    have e : 6 ^ (n + 1) = 6 ^ n * 6 := Nat.pow_succ _ _
    have q : 6 ^ n * D n ≤ 6 ^ n * 5 := Nat.mul_le_mul_left _ (by omega)
    show dsum D n + 6 ^ n * D n < 6 ^ (n + 1)
    rw [e]
    omega
theorem tg_dsum {D : Nat → Nat} : ∀ n, (∀ w, w < n → D w < 6) → ∀ w, w < n → tg (dsum D n) w = D w := by
  intro n
  induction n with
  | zero => intro _ w hw; omega
  | succ n ih =>
    intro h w hw
    have i := ih (fun w hw => h w (by omega))
    have l := dsum_lt n (fun w hw => h w (by omega))
    have pp : 0 < 6 ^ n := Nat.pow_pos (by omega)
    unfold tg
    show (dsum D n + 6 ^ n * D n) / 6 ^ w % 6 = D w
    by_cases e : w = n
    · subst e
      rw [Nat.add_mul_div_left _ _ pp, Nat.div_eq_of_lt l, Nat.zero_add]
      exact Nat.mod_eq_of_lt (h w (by omega))
    · obtain ⟨m, em⟩ : ∃ m, n = w + 1 + m := ⟨n - (w + 1), by omega⟩
      have pw : 0 < 6 ^ w := Nat.pow_pos (by omega)
      have e6 : 6 ^ n * D n = 6 ^ w * (6 * (6 ^ m * D n)) := by
        rw [em, Nat.pow_add, Nat.pow_add, Nat.pow_one, Nat.mul_assoc, Nat.mul_assoc]
      rw [e6, Nat.add_mul_div_left _ _ pw, Nat.add_mul_mod_self_left]
      exact i w (by omega)
theorem hsum_dsum {D : Nat → Nat} : ∀ m j, dsum D (j + m) = dsum D j + 6 ^ j * hsum D j m := by
  intro m
  induction m with
  | zero => intro j; rfl
  | succ m ih =>
    intro j
    have e : j + (m + 1) = (j + 1) + m := by omega
    rw [e, ih (j + 1)]
    show dsum D j + 6 ^ j * D j + 6 ^ (j + 1) * hsum D (j + 1) m = dsum D j + 6 ^ j * (D j + 6 * hsum D (j + 1) m)
    rw [Nat.mul_add, Nat.pow_succ, Nat.mul_assoc, Nat.add_assoc]
theorem hsum_lt {D : Nat → Nat} : ∀ m j, (∀ w, j ≤ w → w < j + m → D w < 6) → hsum D j m < 6 ^ m := by
  intro m
  induction m with
  | zero => intro j _; exact Nat.lt_of_lt_of_le Nat.zero_lt_one (Nat.le_refl _)
  | succ m ih =>
    intro j h
    have i := ih (j + 1) (fun w h1 h2 => h w (by omega) (by omega))
    have d := h j (by omega) (by omega)
    have e : 6 ^ (m + 1) = 6 ^ m * 6 := Nat.pow_succ _ _
    show D j + 6 * hsum D (j + 1) m < 6 ^ (m + 1)
    rw [e]
    omega
/-- the thing that the reference finds over a wave -/
def Dw (z : RS) (w : Nat) : Nat := match r_thereAt z (Int32.ofNat w) with
  | some (r, _) => r.toInt.toNat
  | none => 0
theorem Dw_of {z z' : RS} {x r : Int32} {w : Nat} (hx : x.toInt = (w : Int)) (h : r_thereAt z x = some (r, z')) : Dw z w = r.toInt.toNat := by
  unfold Dw
  rw [← eq_ofnat hx, h]
theorem Dw_inv {z z' : RS} {x r : Int32} {w : Nat} (hI : InvR z) (hB : Big z) (hx : x.toInt = (w : Int)) (hw : (w : Int) < wv z) (hw5 : w < 5) (h : r_thereAt z x = some (r, z')) : z' = z ∧ r.toInt = (Dw z w : Int) ∧ Dw z w < 6 := by
  obtain ⟨y, f, _, F, r0, r5⟩ := ok_r_thereAt z x hI hB (by omega) (by omega) (by omega)
  rw [h] at f
  cases f
  have e := Dw_of hx h
  have r0 : 0 ≤ r.toInt := r0
  have r5 : r.toInt ≤ 5 := r5
  exact ⟨FrR.eq F, by omega, by omega⟩
theorem Dw_lt {z : RS} {w : Nat} (hI : InvR z) (hB : Big z) (hw : (w : Int) < wv z) (hw5 : w < 5) : Dw z w < 6 := by
  obtain ⟨y, f, _, F, r0, r5⟩ := ok_r_thereAt z (Int32.ofNat w) hI hB (by rw [ofnat_int (by omega)]; omega) (by rw [ofnat_int (by omega)]; omega) (by rw [ofnat_int (by omega)]; omega)
  have e := Dw_of (ofnat_int (by omega)) f
  omega
theorem mul_six {r : Int32} (j : Nat) (hj : j ≤ 5) (h0 : 0 ≤ r.toInt) (h5 : r.toInt ≤ 5) : (six6 j * r).toInt = ((6 ^ j : Nat) : Int) * r.toInt := by
  rcases (show j = 0 ∨ j = 1 ∨ j = 2 ∨ j = 3 ∨ j = 4 ∨ j = 5 by omega) with e | e | e | e | e | e <;> subst e
  · rw [ti_cmul (c := 1) (by decide) (by omega) (by omega), Int.mul_comm]; rfl
  · rw [ti_cmul (c := 6) (by decide) (by omega) (by omega), Int.mul_comm]; rfl
  · rw [ti_cmul (c := 36) (by decide) (by omega) (by omega), Int.mul_comm]; rfl
  · rw [ti_cmul (c := 216) (by decide) (by omega) (by omega), Int.mul_comm]; rfl
  · rw [ti_cmul (c := 1296) (by decide) (by omega) (by omega), Int.mul_comm]; rfl
  · rw [ti_cmul (c := 7776) (by decide) (by omega) (by omega), Int.mul_comm]; rfl
theorem pow_le (w : Nat) (h : w ≤ 5) : 6 ^ w ≤ 7776 := by
  rcases (show w = 0 ∨ w = 1 ∨ w = 2 ∨ w = 3 ∨ w = 4 ∨ w = 5 by omega) with e | e | e | e | e | e <;> (rw [e]; decide)
theorem r_numberL {z z' : RS} {r : Int32} {n : Nat} (hI : InvR z) (hB : Big z) (h6 : ∀ j, j < 6 → z.f 46 j = six6 j) (hn : wv z = (n : Int)) (hn5 : n ≤ 5) : ∀ (m : Nat) (x1 x2 : Int32) (j : Nat), x2.toInt = (j : Int) → j ≤ n → x1.toInt = (dsum (Dw z) j : Int) → r_thereNumber_4L m z x1 x2 = some (r, z') → z' = z ∧ r.toInt = (dsum (Dw z) n : Int) := by
  intro m
  induction m with
  | zero => intro x1 x2 j _ _ _ h; exact none_ne h
  | succ m ih =>
    intro x1 x2 j h2 hj h1 h
    replace h : r_thereNumber_4 (r_thereNumber_4L m) z x1 x2 = some (r, z') := h
    unfold r_thereNumber_4 at h
    replace h := guard_inv h
    obtain ⟨_, h⟩ := h
    have hwv : (z.f 20 (z.v 18).toNatClampNeg).toInt = (n : Int) := hn
    by_cases c : z.f 20 (z.v 18).toNatClampNeg ≤ x2
    · have c' := ti_le c
      have ej : j = n := by omega
      rw [if_pos c] at h
      have e : r = x1 ∧ z' = z := by cases h; exact ⟨rfl, rfl⟩
      rw [e.1, e.2, ← ej]
      exact ⟨rfl, h1⟩
    · have c' := ti_nle c
      rw [if_neg c] at h
      replace h := guard_inv h
      obtain ⟨_, h⟩ := h
      replace h := bindI_inv h
      obtain ⟨q, z4, hq, h⟩ := h
      obtain ⟨ez, eq, lt⟩ := Dw_inv hI hB h2 (by omega) (by omega) hq
      subst ez
      rw [clamp_of_int h2, h6 j (by omega)] at h
      have a2 : (x2 + 1).toInt = ((j + 1 : Nat) : Int) := by
        rw [tn_add h2 (by decide : (1 : Int32).toInt = 1) (by omega) (by omega)]
        omega
      have ms := mul_six j (by omega) (by omega : 0 ≤ q.toInt) (by omega)
      have dl := dsum_lt (D := Dw z4) j (fun w hw => Dw_lt hI hB (by omega) (by omega))
      have pl := pow_le j (by omega)
      have e1 : ((6 ^ j : Nat) : Int) * q.toInt = ((6 ^ j * Dw z4 j : Nat) : Int) := by
        rw [eq, Int.natCast_mul]
      have ub : 6 ^ j * Dw z4 j ≤ 7776 * 5 := Nat.mul_le_mul pl (by omega)
      refine ih (x1 + six6 j * q) (x2 + 1) (j + 1) a2 (by omega) ?_ h
      show (x1 + six6 j * q).toInt = ((dsum (Dw z4) j + 6 ^ j * Dw z4 j : Nat) : Int)
      rw [ti_add (by omega) (by omega), ms, e1, h1]
      omega
theorem r_number {z z' : RS} {r : Int32} {n : Nat} (hI : InvR z) (hB : Big z) (h6 : ∀ j, j < 6 → z.f 46 j = six6 j) (hn : wv z = (n : Int)) (hn5 : n ≤ 5) (h : r_thereNumber z = some (r, z')) : z' = z ∧ r.toInt = (dsum (Dw z) n : Int) := by
  unfold r_thereNumber at h
  exact r_numberL hI hB h6 hn hn5 fu 0 0 0 (by decide) (by omega) (by show (0 : Int32).toInt = ((0 : Nat) : Int); decide) h
/-- the class's number, from the last wave down -/
theorem k_numberL {k : KS} {d : SD} {z : RS} {s' : JS} {sd r : Int32} {n : Nat} (hS : SO k z) (hI : InvR z) (hK : InvK k) (hB : Big z) (hn : (k.v 1).toInt = (n : Int)) (hsh : ∀ w, w < 5 → d.f 2 w = z.f 44 (10 + w)) (hsd : sd = z.v 45) : ∀ (m : Nat) (x3 x4 : Int32) (j : Nat), j ≤ n → x4.toInt = (j : Int) - 1 → x3.toInt = (hsum (Dw z) j (n - j) : Int) → kX0_guessThere_13L m (JS.mk k d) sd x3 x4 = some (r, s') → s' = JS.mk k d ∧ r.toInt = (dsum (Dw z) n : Int) := by
  have bw : 0 ≤ (k.v 1).toInt ∧ (k.v 1).toInt ≤ 5 := hK.1 1
  have hwv : wv z = (n : Int) := by
    unfold wv
    rw [← hS.1.1]
    exact hn
  intro m
  induction m with
  | zero => intro x3 x4 j _ _ _ h; exact none_ne h
  | succ m ih =>
    intro x3 x4 j hj h4 h3 h
    replace h : kX0_guessThere_13 (kX0_guessThere_13L m) (JS.mk k d) sd x3 x4 = some (r, s') := h
    unfold kX0_guessThere_13 at h
    by_cases c : x4 < 0
    · have c' := tn_lt (b := 0) rfl (by decide) c
      have ej : j = 0 := by omega
      rw [if_pos c] at h
      have e : r = x3 ∧ s' = JS.mk k d := by cases h; exact ⟨rfl, rfl⟩
      refine ⟨e.2, ?_⟩
      rw [e.1, h3, ej]
      have q := hsum_dsum (D := Dw z) n 0
      rw [Nat.zero_add] at q
      have q : dsum (Dw z) n = 0 + 1 * hsum (Dw z) 0 n := q
      rw [q, Nat.sub_zero]
      omega
    · have c' := tn_nlt (b := 0) rfl (by decide) c
      rw [if_neg c] at h
      replace h := guard_inv h
      obtain ⟨_, h⟩ := h
      obtain ⟨i, ei⟩ : ∃ i, j = i + 1 := ⟨j - 1, by omega⟩
      subst ei
      have e4 : x4.toInt = (i : Int) := by omega
      replace h := bindI_inv h
      obtain ⟨q, k3, hq, h⟩ := h
      replace h := letS_inv h
      obtain ⟨s5, c5, h⟩ := h
      obtain ⟨⟨y2, z2⟩, f2, _⟩ := ok_r_thereAt z x4 hI hB (by omega) (by omega) (by omega)
      replace hq : kX5_thingThere k x4 (d.f 2 x4.toNatClampNeg) sd = some (q, k3) := hq
      rw [clamp_of_int e4] at hq
      obtain ⟨er, ek, ez, _⟩ := there_same hB hS hI hK e4 (by omega) (hsh i (by omega)) hsd hq f2
      obtain ⟨_, eq, lt⟩ := Dw_inv hI hB e4 (by omega) (by omega) f2
      have es5 : s5 = JS.mk k d := by rw [← c5, ek]; rfl
      subst es5
      have a4 : (x4 + (-1)).toInt = x4.toInt + (-1) := tn_add rfl (by decide) (by omega) (by omega)
      generalize x4 + (-1) = y4 at a4 h
      have hl := hsum_lt (D := Dw z) (n - (i + 1)) (i + 1) (fun w h1 h2 => Dw_lt hI hB (by omega) (by omega))
      have pl := pow_le (n - (i + 1)) (by omega)
      have m6 : (x3 * 6).toInt = x3.toInt * 6 := ti_mulc (c := 6) (by decide) (by omega) (by omega)
      have ns : n - i = (n - (i + 1)) + 1 := by omega
      refine ih ((x3 * 6) + q) y4 i (by omega) (by omega) ?_ h
      have eh : hsum (Dw z) i (n - i) = Dw z i + 6 * hsum (Dw z) (i + 1) (n - (i + 1)) := by rw [ns]; rfl
      have eqq : q.toInt = (Dw z i : Int) := by rw [er]; exact eq
      rw [eh, ti_add (by omega) (by omega), m6, h3, eqq]
      omega
