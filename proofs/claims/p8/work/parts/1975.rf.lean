/-! ===== a standing and its row, cell by cell ===== -/
theorem sdf_at {s : SD} {k i j : Nat} {x : Int32} : (s.sf k i x).f k j = if j = i then x else s.f k j := by
  show va_up s.f k (upd (s.f k) i x) k j = _
  unfold va_up
  rw [if_pos rfl]
  rfl
theorem SR.set0 {d : SD} {f f' : Nat → Int32} {w : Nat} {x y : Int32} (h : SR d f) (hw : w < 5) (hx : FoR x y) (hf : ∀ i, f' i = if i = 5 + w then y else f i) : SR (d.sf 0 w x) f' := by
  obtain ⟨a, b, c, e⟩ := h
  refine ⟨fun u hu => ?_, fun p hp => ?_, ?_, ?_⟩
  · obtain ⟨a1, a2, a3, a4⟩ := a u hu
    have q : (d.sf 0 w x).f 0 u = if u = w then x else d.f 0 u := sdf_at
    rw [hf u, if_neg (by omega), hf (10 + u), if_neg (by omega), hf (5 + u), q]
    by_cases e : u = w
    · rw [if_pos e, if_pos (by omega)]; exact ⟨hx, a2, a3, a4⟩
    · rw [if_neg e, if_neg (by omega)]; exact ⟨a1, a2, a3, a4⟩
  · rw [hf (15 + p), if_neg (by omega), hf (21 + p), if_neg (by omega)]; exact b p hp
  · rw [hf 27, if_neg (by omega)]; exact c
  · rw [hf 28, if_neg (by omega)]; exact e
theorem SR.set1 {d : SD} {f f' : Nat → Int32} {w : Nat} {x y : Int32} (h : SR d f) (hw : w < 5) (hx : x = y) (h0 : 0 ≤ y.toInt) (h1 : y.toInt ≤ 63) (hf : ∀ i, f' i = if i = w then y else f i) : SR (d.sf 1 w x) f' := by
  obtain ⟨a, b, c, e⟩ := h
  refine ⟨fun u hu => ?_, fun p hp => ?_, ?_, ?_⟩
  · obtain ⟨a1, a2, a3, a4⟩ := a u hu
    have q : (d.sf 1 w x).f 1 u = if u = w then x else d.f 1 u := sdf_at
    rw [hf (5 + u), if_neg (by omega), hf (10 + u), if_neg (by omega), hf u, q]
    by_cases e : u = w
    · rw [if_pos e, if_pos (by omega)]; exact ⟨a1, hx, ⟨h0, h1⟩, a4⟩
    · rw [if_neg e, if_neg (by omega)]; exact ⟨a1, a2, a3, a4⟩
  · rw [hf (15 + p), if_neg (by omega), hf (21 + p), if_neg (by omega)]; exact b p hp
  · rw [hf 27, if_neg (by omega)]; exact c
  · rw [hf 28, if_neg (by omega)]; exact e
theorem SR.set2 {d : SD} {f f' : Nat → Int32} {w : Nat} {x y : Int32} (h : SR d f) (hw : w < 5) (hx : x = y) (hf : ∀ i, f' i = if i = 10 + w then y else f i) : SR (d.sf 2 w x) f' := by
  obtain ⟨a, b, c, e⟩ := h
  refine ⟨fun u hu => ?_, fun p hp => ?_, ?_, ?_⟩
  · obtain ⟨a1, a2, a3, a4⟩ := a u hu
    have q : (d.sf 2 w x).f 2 u = if u = w then x else d.f 2 u := sdf_at
    rw [hf (5 + u), if_neg (by omega), hf u, if_neg (by omega), hf (10 + u), q]
    by_cases e : u = w
    · rw [if_pos e, if_pos (by omega)]; exact ⟨a1, a2, a3, hx⟩
    · rw [if_neg e, if_neg (by omega)]; exact ⟨a1, a2, a3, a4⟩
  · rw [hf (15 + p), if_neg (by omega), hf (21 + p), if_neg (by omega)]; exact b p hp
  · rw [hf 27, if_neg (by omega)]; exact c
  · rw [hf 28, if_neg (by omega)]; exact e
theorem SR.set3 {d : SD} {f f' : Nat → Int32} {p : Nat} {x y : Int32} (h : SR d f) (hp : p < 6) (hx : x = y) (hf : ∀ i, f' i = if i = 15 + p then y else f i) : SR (d.sf 3 p x) f' := by
  obtain ⟨a, b, c, e⟩ := h
  refine ⟨fun u hu => ?_, fun q hq => ?_, ?_, ?_⟩
  · rw [hf (5 + u), if_neg (by omega), hf u, if_neg (by omega), hf (10 + u), if_neg (by omega)]; exact a u hu
  · obtain ⟨b1, b2⟩ := b q hq
    have s : (d.sf 3 p x).f 3 q = if q = p then x else d.f 3 q := sdf_at
    rw [hf (21 + q), if_neg (by omega), hf (15 + q), s]
    by_cases e : q = p
    · rw [if_pos e, if_pos (by omega)]; exact ⟨hx, b2⟩
    · rw [if_neg e, if_neg (by omega)]; exact ⟨b1, b2⟩
  · rw [hf 27, if_neg (by omega)]; exact c
  · rw [hf 28, if_neg (by omega)]; exact e
theorem SR.set4 {d : SD} {f f' : Nat → Int32} {p : Nat} {x y : Int32} (h : SR d f) (hp : p < 6) (hx : x = y) (hf : ∀ i, f' i = if i = 21 + p then y else f i) : SR (d.sf 4 p x) f' := by
  obtain ⟨a, b, c, e⟩ := h
  refine ⟨fun u hu => ?_, fun q hq => ?_, ?_, ?_⟩
  · rw [hf (5 + u), if_neg (by omega), hf u, if_neg (by omega), hf (10 + u), if_neg (by omega)]; exact a u hu
  · obtain ⟨b1, b2⟩ := b q hq
    have s : (d.sf 4 p x).f 4 q = if q = p then x else d.f 4 q := sdf_at
    rw [hf (15 + q), if_neg (by omega), hf (21 + q), s]
    by_cases e : q = p
    · rw [if_pos e, if_pos (by omega)]; exact ⟨b1, hx⟩
    · rw [if_neg e, if_neg (by omega)]; exact ⟨b1, b2⟩
  · rw [hf 27, if_neg (by omega)]; exact c
  · rw [hf 28, if_neg (by omega)]; exact e
theorem SR.setv5 {d : SD} {f f' : Nat → Int32} {x y : Int32} (h : SR d f) (hx : x = y) (hf : ∀ i, f' i = if i = 27 then y else f i) : SR (d.sv 5 x) f' := by
  obtain ⟨a, b, c, e⟩ := h
  refine ⟨fun u hu => ?_, fun q hq => ?_, ?_, ?_⟩
  · rw [hf (5 + u), if_neg (by omega), hf u, if_neg (by omega), hf (10 + u), if_neg (by omega)]; exact a u hu
  · rw [hf (15 + q), if_neg (by omega), hf (21 + q), if_neg (by omega)]; exact b q hq
  · rw [hf 27, if_pos rfl]; exact hx
  · rw [hf 28, if_neg (by omega)]; exact e
theorem SR.setv6 {d : SD} {f f' : Nat → Int32} {x y : Int32} (h : SR d f) (hx : x = y) (hf : ∀ i, f' i = if i = 28 then y else f i) : SR (d.sv 6 x) f' := by
  obtain ⟨a, b, c, e⟩ := h
  refine ⟨fun u hu => ?_, fun q hq => ?_, ?_, ?_⟩
  · rw [hf (5 + u), if_neg (by omega), hf u, if_neg (by omega), hf (10 + u), if_neg (by omega)]; exact a u hu
  · rw [hf (15 + q), if_neg (by omega), hf (21 + q), if_neg (by omega)]; exact b q hq
  · rw [hf 27, if_neg (by omega)]; exact c
  · rw [hf 28, if_pos rfl]; exact hx
theorem r44_at {z t : RS} {i : Nat} {x : Int32} (h : z.sf 44 i x = t) : ∀ j, t.f 44 j = if j = i then x else z.f 44 j := fun j => by
  rw [← h]
  exact rsf_at
/-- what is found has odds -/
def FO (k : KS) (d : SD) : Prop := ∀ w v : Nat, (w : Int) < (k.v 1).toInt → (d.f 0 w).toInt = (v : Int) → 0 < (k.f 3 (6 * w + v)).toInt
/-- over how many waves the reference says that a guess bears, wave by wave -/
theorem bears_inv {x1 x2 rb : Int32} {g n : Nat} {z' : RS} (h10 : 0 ≤ x1.toInt) (h15 : x1.toInt ≤ 5) (e2 : x2.toInt = (g : Int)) (hn5 : n ≤ 5) {z0 : RS} (h6 : ∀ j, j < 6 → z0.f 46 j = six6 j) (hn : wv z0 = (n : Int)) (hB0 : Big z0) : ∀ (m : Nat) (z : RS) (x : Int32) (j : Nat), FrR WSZ z0 z → InvR z → x.toInt = (j : Int) → j ≤ n → r_bearsBy_2L m z x1 x2 x = some (rb, z') → ∃ B : Nat, rb.toInt = (B : Int) ∧ j ≤ B ∧ B ≤ n ∧ FrR WSZ z0 z' ∧ InvR z' ∧ (∀ i, j ≤ i → i ≤ B → i < n → ∃ zi zi' ri, FrR WSZ z0 zi ∧ InvR zi ∧ r_doesBear zi x1 (Int32.ofNat i) (Int32.ofNat (tg g i)) = some (ri, zi') ∧ (i < B → ¬ ri = 0) ∧ (i = B → ri = 0)) := by
  intro m
  induction m with
  | zero => intro z x j _ _ _ _ h; exact none_ne h
  | succ m ih =>
    intro z x j F I ex hj h
    replace h : r_bearsBy_2 (r_bearsBy_2L m) z x1 x2 x = some (rb, z') := h
    have hwz : (z.f 20 (z.v 18).toNatClampNeg).toInt = (n : Int) := by
      rw [(F.2 20 (by decide)).1, F.1 18 (by decide)]
      exact hn
    unfold r_bearsBy_2 at h
    replace h := guard_inv h
    obtain ⟨_, h⟩ := h
    by_cases c : z.f 20 (z.v 18).toNatClampNeg ≤ x
    · have c' := ti_le c
      rw [if_pos c] at h
      have a : rb = x ∧ z' = z := by cases h; exact ⟨rfl, rfl⟩
      rw [a.1, a.2]
      exact ⟨j, ex, by omega, hj, F, I, fun i h1 h2 h3 => by omega⟩
    · have c' := ti_nle c
      rw [if_neg c] at h
      replace h := bindI_inv h
      obtain ⟨y4, z3, w4, h⟩ := h
      replace h := bindI_inv h
      obtain ⟨y6, z5, w6, h⟩ := h
      have h6z : ∀ j, j < 6 → z.f 46 j = six6 j := by
        rw [(F.2 46 (by decide)).1]
        exact h6
      obtain ⟨ez, q2⟩ := r_thing h6z e2 ex (by omega) w4
      subst ez
      have tl := tg_lt g j
      obtain ⟨u, gu, Iu, Fu, u0, u1⟩ := ok_r_doesBear z3 x1 x y4 I (hB0.fr F (by decide)) h10 h15 (by omega) (by omega) (by omega) (by omega)
      rw [w6] at gu
      cases gu
      have F5 : FrR WSZ z0 z5 := F.trans Fu (fun _ q => q)
      have me : r_doesBear z3 x1 (Int32.ofNat j) (Int32.ofNat (tg g j)) = some (y6, z5) := by
        rw [← eq_ofnat ex, ← eq_ofnat q2]
        exact w6
      by_cases d : y6 = 0
      · rw [if_pos d] at h
        have a : rb = x ∧ z' = z5 := by cases h; exact ⟨rfl, rfl⟩
        rw [a.1, a.2]
        refine ⟨j, ex, by omega, hj, F5, Iu, fun i h1 h2 h3 => ?_⟩
        obtain rfl : i = j := by omega
        exact ⟨z3, z5, y6, F, I, me, fun q => by omega, fun _ => d⟩
      · rw [if_neg d] at h
        have a : (x + 1).toInt = ((j + 1 : Nat) : Int) := by
          rw [tn_add ex (by decide : (1 : Int32).toInt = 1) (by omega) (by omega)]
          omega
        obtain ⟨B, b1, b2, b3, b4, b5, b6⟩ := ih z5 (x + 1) (j + 1) F5 Iu a (by omega) h
        refine ⟨B, b1, by omega, b3, b4, b5, fun i h1 h2 h3 => ?_⟩
        by_cases e : i = j
        · subst e
          exact ⟨z3, z5, y6, F, I, me, fun _ => d, fun q => by omega⟩
        · exact b6 i (by omega) h2 h3
theorem sd_comm {d : SD} {a b i j : Nat} {x y : Int32} (h : ¬ a = b) : (d.sf a i x).sf b j y = (d.sf b j y).sf a i x := by
  have h' : ¬ b = a := fun q => h q.symm
  show ((d.1, va_up (va_up d.2 a (upd (d.2 a) i x)) b (upd (va_up d.2 a (upd (d.2 a) i x) b) j y)) : SD) = (d.1, va_up (va_up d.2 b (upd (d.2 b) j y)) a (upd (va_up d.2 b (upd (d.2 b) j y) a) i x))
  rw [va_up_ne _ _ h', va_up_ne _ _ h]
  refine congrArg (fun f => ((d.1, f) : SD)) (funext (fun k => ?_))
  by_cases e1 : k = a
  · have n1 : ¬ k = b := fun q => h (e1.symm.trans q)
    rw [va_up_ne _ _ n1, e1, va_up_self, va_up_self]
  · rw [va_up_ne (va_up d.2 b (upd (d.2 b) j y)) _ e1]
    by_cases e2 : k = b
    · rw [e2, va_up_self, va_up_self]
    · rw [va_up_ne _ _ e2, va_up_ne _ _ e2, va_up_ne _ _ e1]
theorem send_end {s s' : JS} {x2 x3 x4 x5 x6 r : Int32} (n : Nat) (hx : ¬ x4 = 2) (h : kX0_sendBy_24L n s x2 x3 x4 x5 x6 = some (r, s')) : kX0_sendBy_119 s x2 x4 x5 = some (r, s') := by
  cases n with
  | zero => exact none_ne h
  | succ n =>
    replace h : kX0_sendBy_24 (kX0_sendBy_24L n) s x2 x3 x4 x5 x6 = some (r, s') := h
    unfold kX0_sendBy_24 at h
    by_cases c : s.k.v 1 ≤ x6
    · rw [if_pos c] at h; exact h
    · rw [if_neg c, if_neg hx] at h; exact h
theorem send_119 {s s' : JS} {x2 x4 x5 r : Int32} {p : Nat} (e2 : x2.toInt = (p : Int)) (h : kX0_sendBy_119 s x2 x4 x5 = some (r, s')) : r = x5 ∧ s'.k = s.k ∧ s'.d = (s.d.sf 4 p ((s.d.f 4 p) + 1)).sf 3 p x4 := by
  unfold kX0_sendBy_119 at h
  rw [clamp_of_int e2] at h
  replace h := guard_inv h
  obtain ⟨_, h⟩ := h
  replace h := letS_inv h
  obtain ⟨s2, d2, h⟩ := h
  replace h := guard_inv h
  obtain ⟨_, h⟩ := h
  replace h := guard_inv h
  obtain ⟨_, h⟩ := h
  replace h := letS_inv h
  obtain ⟨s6, d6, h⟩ := h
  cases h
  exact ⟨rfl, by rw [← d6, ← d2]; rfl, by rw [sd_comm (by decide), ← d6, ← d2]; rfl⟩
