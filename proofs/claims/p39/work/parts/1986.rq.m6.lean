section
/-! ===== a text is read: what the class adds up ===== -/
theorem k_oddsd {k : KS} {x1 x2 : Int32} {w v : Nat} (h1 : x1.toInt = (w : Int)) (hw : w < 5) (h2 : x2.toInt = (v : Int)) (hv : v < 6) : kX5_oddsAt_d k x1 x2 = some (k.f 16 (6 * w + v), k) := by
  have m1 : (x1 * 6).toInt = x1.toInt * 6 := ti_mulc (c := 6) (by decide) (by omega) (by omega)
  have i1 : ((x1 * 6) + x2).toInt = ((6 * w + v : Nat) : Int) := by
    rw [ti_add (by omega) (by omega)]
    omega
  unfold kX5_oddsAt_d
  rw [if_pos (vpb_ok (by omega) (by omega)), clamp_of_int i1]
theorem lks_succ {f : Nat → Int32} {b j : Nat} {x : Int32} (hx : x = Int32.ofNat j) : lks f b (j + 1) = lks f b j ||| (if f (b + j) ≤ 0 then (0 : Int32) else (1 : Int32) <<< (x &&& 31)) := by
  subst hx
  rfl
theorem add_in {k7 : KS → Int32 → Option KS} {s' : KS} {x1 : Int32} {w : Nat} (h1 : x1.toInt = (w : Int)) (hw : w < 5) : ∀ (n : Nat) (s : KS) (x2 : Int32) (j : Nat), x2.toInt = (j : Int) → j ≤ 6 → s.f 17 w = sms (s.f 16) (6 * w) j → s.f 18 w = lks (s.f 16) (6 * w) j → kX5_addUp_31L k7 n s x1 x2 = some s' → ∃ t, k7 t (x1 + 1) = some s' ∧ FrK [10, 117, 118] s t ∧ t.v 10 = s.v 10 * 6 ∧ t.f 17 w = sms (s.f 16) (6 * w) 6 ∧ t.f 18 w = lks (s.f 16) (6 * w) 6 ∧ (∀ i, ¬ i = w → t.f 17 i = s.f 17 i ∧ t.f 18 i = s.f 18 i) := by
  intro n
  induction n with
  | zero => intro s x2 j _ _ _ _ h; exact none_ne h
  | succ n ih =>
    intro s x2 j e2 hj a17 a18 h
    replace h : kX5_addUp_31 k7 (kX5_addUp_31L k7 n) s x1 x2 = some s' := h
    unfold kX5_addUp_31 at h
    by_cases c : 6 ≤ x2
    · have c' := tn_le (a := 6) (by decide) rfl c
      have ej : j = 6 := by omega
      subst ej
      rw [if_pos c] at h
      replace h := letS_inv h
      obtain ⟨t, et, h⟩ := h
      refine ⟨t, h, ?_, ?_, ?_, ?_, fun i _ => ?_⟩
      · rw [← et]; exact FrK.rfl.sv (by decide)
      · rw [← et]; rfl
      · rw [← et]; exact a17
      · rw [← et]; exact a18
      · rw [← et]; exact ⟨rfl, rfl⟩
    · have c' := tn_nle (a := 6) (by decide) rfl c
      rw [if_neg c] at h
      replace h := guard_inv h
      obtain ⟨_, h⟩ := h
      rw [k_oddsd h1 hw e2 (by omega), bindI_some] at h
      replace h := guard_inv h
      obtain ⟨_, h⟩ := h
      replace h := letS_inv h
      obtain ⟨s8, e8, h⟩ := h
      replace h := guard_inv h
      obtain ⟨_, h⟩ := h
      rw [k_oddsd h1 hw e2 (by omega), bindI_some] at h
      rw [clamp_of_int h1] at e8 h
      have a2 : (x2 + 1).toInt = ((j + 1 : Nat) : Int) := by
        rw [tn_add e2 (by decide : (1 : Int32).toInt = 1) (by omega) (by omega)]
        omega
      have f16 : s8.f 16 = s.f 16 := by rw [← e8]; rfl
      have f18 : s8.f 18 = s.f 18 := by rw [← e8]; rfl
      have v10 : s8.v 10 = s.v 10 := by rw [← e8]; rfl
      have f17 : ∀ i, s8.f 17 i = if i = w then s.f 17 w + s.f 16 (6 * w + j) else s.f 17 i := fun i => by rw [← e8]; exact ksf_at
      have K8 : FrK [10, 117, 118] s s8 := by rw [← e8]; exact FrK.rfl.sf (by decide)
      have go : ∀ q : Int32, q = (if s.f 16 (6 * w + j) ≤ 0 then (0 : Int32) else (1 : Int32) <<< (x2 &&& 31)) → kX5_addUp_75 k7 (kX5_addUp_31L k7 n) s8 x1 x2 q (s8.f 18 w) x1 = some s' → ∃ t, k7 t (x1 + 1) = some s' ∧ FrK [10, 117, 118] s t ∧ t.v 10 = s.v 10 * 6 ∧ t.f 17 w = sms (s.f 16) (6 * w) 6 ∧ t.f 18 w = lks (s.f 16) (6 * w) 6 ∧ (∀ i, ¬ i = w → t.f 17 i = s.f 17 i ∧ t.f 18 i = s.f 18 i) := by
        intro q hq h
        unfold kX5_addUp_75 at h
        replace h := guard_inv h
        obtain ⟨_, h⟩ := h
        replace h := letS_inv h
        obtain ⟨s9, e9, h⟩ := h
        rw [clamp_of_int h1] at e9
        have g16 : s9.f 16 = s.f 16 := by rw [← e9]; exact f16
        have g17 : s9.f 17 = s8.f 17 := by rw [← e9]; rfl
        have g10 : s9.v 10 = s.v 10 := by rw [← e9]; exact v10
        have g18 : ∀ i, s9.f 18 i = if i = w then s8.f 18 w ||| q else s8.f 18 i := fun i => by rw [← e9]; exact ksf_at
        have K9 : FrK [10, 117, 118] s s9 := by rw [← e9]; exact K8.sf (by decide)
        obtain ⟨t, t1, t2, t3, t4, t5, t6⟩ := ih s9 (x2 + 1) (j + 1) a2 (by omega) (by
          rw [g17, f17 w, if_pos rfl, g16, a17]
          rfl) (by
          rw [g18 w, if_pos rfl, f18, g16, a18, hq]
          exact (lks_succ (eq_ofnat e2)).symm) h
        refine ⟨t, t1, K9.trans t2 (fun _ x => x), by rw [t3, g10], by rw [t4, g16], by rw [t5, g16], fun i hi => ?_⟩
        obtain ⟨u1, u2⟩ := t6 i hi
        rw [u1, u2, g17, f17 i, if_neg hi, g18 i, if_neg hi, f18]
        exact ⟨rfl, rfl⟩
      rw [f16] at h
      by_cases d : s.f 16 (6 * w + j) ≤ 0
      · rw [if_pos d] at h
        exact go 0 (by rw [if_pos d]) h
      · rw [if_neg d] at h
        exact go _ (by rw [if_neg d]) h
/-- sums and likely things of all waves, and how many guesses there are -/
noncomputable def ADD (s : KS) : Prop := s.v 10 = six6 (s.v 8).toNatClampNeg ∧ ∀ w : Nat, (w : Int) < (s.v 8).toInt → s.f 17 w = sms (s.f 16) (6 * w) 6 ∧ s.f 18 w = lks (s.f 16) (6 * w) 6
theorem add_out {s' : KS} {N : Nat} (hN : N ≤ 5) : ∀ (n : Nat) (s : KS) (x : Int32) (j : Nat), (s.v 8).toInt = (N : Int) → x.toInt = (j : Int) → j ≤ N → s.v 10 = six6 j → (∀ w, w < j → s.f 17 w = sms (s.f 16) (6 * w) 6 ∧ s.f 18 w = lks (s.f 16) (6 * w) 6) → kX5_addUp_7L n s x = some s' → ADD s' := by
  intro n
  induction n with
  | zero => intro s x j _ _ _ _ _ h; exact none_ne h
  | succ n ih =>
    intro s x j e8 ex hj h10 hd h
    replace h : kX5_addUp_7 (kX5_addUp_7L n) s x = some s' := h
    unfold kX5_addUp_7 at h
    by_cases c : s.v 8 ≤ x
    · have c' := ti_le c
      have ej : j = N := by omega
      subst ej
      rw [if_pos c] at h
      cases h
      exact ⟨by rw [clamp_of_int e8]; exact h10, fun w hw => hd w (by omega)⟩
    · have c' := ti_nle c
      rw [if_neg c] at h
      replace h := guard_inv h
      obtain ⟨_, h⟩ := h
      replace h := letS_inv h
      obtain ⟨s3, e3, h⟩ := h
      replace h := guard_inv h
      obtain ⟨_, h⟩ := h
      replace h := letS_inv h
      obtain ⟨s6, e6, h⟩ := h
      rw [clamp_of_int ex] at e3 e6
      have f17 : ∀ i, s6.f 17 i = if i = j then 0 else s.f 17 i := fun i => by
        rw [← e6]
        show s3.f 17 i = _
        rw [← e3]
        exact ksf_at
      have f18 : ∀ i, s6.f 18 i = if i = j then 0 else s.f 18 i := fun i => by
        rw [← e6, ← e3]
        exact ksf_at
      have f16 : s6.f 16 = s.f 16 := by rw [← e6, ← e3]; rfl
      have v8 : s6.v 8 = s.v 8 := by rw [← e6, ← e3]; rfl
      have v10 : s6.v 10 = s.v 10 := by rw [← e6, ← e3]; rfl
      obtain ⟨t, t1, t2, t3, t4, t5, t6⟩ := add_in ex (by omega) fu s6 0 0 (by decide) (by omega) (by rw [f17, if_pos rfl]; rfl) (by rw [f18, if_pos rfl]; rfl) h
      have ax : (x + 1).toInt = ((j + 1 : Nat) : Int) := by
        rw [tn_add ex (by decide : (1 : Int32).toInt = 1) (by omega) (by omega)]
        omega
      refine ih t (x + 1) (j + 1) (by rw [t2.1 8 (by decide), v8]; exact e8) ax (by omega) (by rw [t3, v10, h10]; rfl) (fun w hw => ?_) t1
      have g16 : t.f 16 = s.f 16 := by rw [(t2.2 16 (by decide)).1, f16]
      by_cases d : w = j
      · subst d
        rw [t4, t5, g16, f16]
        exact ⟨rfl, rfl⟩
      · obtain ⟨u1, u2⟩ := t6 w d
        rw [u1, u2, f17, if_neg d, f18, if_neg d, g16]
        exact hd w (by omega)
theorem addUp_eq {s s' : KS} {N : Nat} (hN : N ≤ 5) (e8 : (s.v 8).toInt = (N : Int)) (h : kX5_addUp s = some s') : ADD s' := by
  unfold kX5_addUp at h
  replace h := letS_inv h
  obtain ⟨s1, e1, h⟩ := h
  exact add_out hN fu s1 0 0 (by rw [← e1]; exact e8) (by decide) (by omega) (by rw [← e1]; rfl) (fun w hw => by omega) h
/-- how many waves there are stays -/
theorem add31_v8 (c : Int32) {k7 : KS → Int32 → Option KS} (hk : ∀ (t : KS) (x : Int32), t.v 8 = c → Pt (k7 t x) (fun y => y.v 8 = c)) : ∀ (n : Nat) (s : KS) (x1 x2 : Int32), s.v 8 = c → Pt (kX5_addUp_31L k7 n s x1 x2) (fun y => y.v 8 = c) := by
  intro n
  induction n with
  | zero => intro s x1 x2 _; exact pt_none
  | succ n ih =>
    intro s x1 x2 h
    show Pt (kX5_addUp_31 k7 (kX5_addUp_31L k7 n) s x1 x2) _
    unfold kX5_addUp_31 kX5_addUp_75 kX5_oddsAt_d
    have fin : ∀ (s11 : KS) (q : Int32), s11.v 8 = c → Pt (if vpb x1 5 then (letS (s11.sf 18 (Int32.toNatClampNeg x1) q) fun s2 => kX5_addUp_31L k7 n s2 x1 (x2 + 1)) else none) (fun y => y.v 8 = c) := fun s11 q h11 => pt_ite (fun _ => pt_let (P := fun s : KS => s.v 8 = c) h11 (fun t ht => ih t _ _ ht)) (fun _ => pt_none)
    exact pt_ite (fun _ => pt_let (P := fun s : KS => s.v 8 = c) h (fun t ht => hk t _ ht)) (fun _ => pt_ite (fun _ => pt_bindI (P := fun y => y.2.v 8 = c) (pt_ite (fun _ => pt_some h) (fun _ => pt_none)) (fun r6 s5 h5 => pt_ite (fun _ => pt_let (P := fun s : KS => s.v 8 = c) h5 (fun s8 h8 => pt_ite (fun _ => pt_bindI (P := fun y => y.2.v 8 = c) (pt_ite (fun _ => pt_some h8) (fun _ => pt_none)) (fun r12 s11 h11 => pt_ite (fun _ => fin s11 _ h11) (fun _ => fin s11 _ h11))) (fun _ => pt_none))) (fun _ => pt_none))) (fun _ => pt_none))
theorem add7_v8 (c : Int32) : ∀ (n : Nat) (s : KS) (x : Int32), s.v 8 = c → Pt (kX5_addUp_7L n s x) (fun y => y.v 8 = c) := by
  intro n
  induction n with
  | zero => intro s x _; exact pt_none
  | succ n ih =>
    intro s x h
    show Pt (kX5_addUp_7 (kX5_addUp_7L n) s x) _
    unfold kX5_addUp_7
    exact pt_ite (fun _ => pt_some h) (fun _ => pt_ite (fun _ => pt_let (P := fun s : KS => s.v 8 = c) h (fun s3 h3 => pt_ite (fun _ => pt_let (P := fun s : KS => s.v 8 = c) h3 (fun s6 h6 => add31_v8 c (fun t x ht => ih t x ht) fu s6 x 0 h6)) (fun _ => pt_none))) (fun _ => pt_none))
theorem add_v8 {w s' : KS} (h : kX5_addUp w = some s') : s'.v 8 = w.v 8 := by
  unfold kX5_addUp at h
  replace h := letS_inv h
  obtain ⟨s1, e1, h⟩ := h
  exact add7_v8 (w.v 8) fu s1 0 (by rw [← e1]; rfl) s' h
/-- the last of what readTape does -/
theorem rt_last {r : Int32} {s' : KS} : ∀ (n : Nat) (s : KS) (x : Int32), kX4_readTape_41L n s x = some (r, s') → ∃ u, kX4_readTape_75 u = some (r, s') := by
  intro n
  induction n with
  | zero => intro s x h; exact none_ne h
  | succ n ih =>
    intro s x h
    replace h : kX4_readTape_41 (kX4_readTape_41L n) s x = some (r, s') := h
    unfold kX4_readTape_41 at h
    by_cases c : 400 < x
    · rw [if_pos c] at h; exact ⟨s, h⟩
    · rw [if_neg c] at h
      by_cases d : s.v 16 = 0
      · rw [if_pos d] at h
        replace h := bindI_inv h
        obtain ⟨r4, s3, _, h⟩ := h
        by_cases e : r4 = 0
        · rw [if_pos e] at h
          replace h := bindP_inv h
          obtain ⟨s6, _, h⟩ := h
          exact ih s6 _ h
        · rw [if_neg e] at h; exact ⟨s3, h⟩
      · rw [if_neg d] at h; exact ⟨s, h⟩
theorem rt_98 {u s' : KS} (h : kX4_readTape_98 u = some (0, s')) : ∃ w, kX5_addUp w = some s' := by
  unfold kX4_readTape_98 at h
  by_cases c : u.v 16 = 0
  · rw [if_pos c] at h
    replace h := bindP_inv h
    obtain ⟨s2, h2, h⟩ := h
    have e : s2 = s' := congrArg Prod.snd (Option.some.inj h)
    rw [← e]
    exact ⟨u, h2⟩
  · rw [if_neg c] at h
    have e : u.v 16 = 0 := congrArg Prod.fst (Option.some.inj h)
    exact absurd e c
theorem rt_75 {u s' : KS} (h : kX4_readTape_75 u = some (0, s')) : ∃ w, kX5_addUp w = some s' := by
  unfold kX4_readTape_75 at h
  by_cases c : u.v 16 = 0
  · rw [if_pos c] at h
    replace h := letS_inv h
    obtain ⟨s2, _, h⟩ := h
    replace h := letS_inv h
    obtain ⟨s4, _, h⟩ := h
    exact rt_98 h
  · rw [if_neg c] at h
    exact rt_98 h
theorem read_add {s s' : KS} (hI : InvK s') (h : kX4_readTape s = some (0, s')) : ADD s' := by
  have b8 : 0 ≤ (s'.v 8).toInt ∧ (s'.v 8).toInt ≤ 5 := hI.1 8
  unfold kX4_readTape at h
  replace h := bindP_inv h
  obtain ⟨s1, _, h⟩ := h
  replace h := letS_inv h
  obtain ⟨s2, _, h⟩ := h
  replace h := letS_inv h
  obtain ⟨s4, _, h⟩ := h
  replace h := letS_inv h
  obtain ⟨s6, _, h⟩ := h
  replace h := letS_inv h
  obtain ⟨s8, _, h⟩ := h
  replace h := letS_inv h
  obtain ⟨s10, _, h⟩ := h
  replace h := bindP_inv h
  obtain ⟨s12, _, h⟩ := h
  obtain ⟨u, h⟩ := rt_last fu s12 0 h
  obtain ⟨w, h⟩ := rt_75 h
  have e8 : s'.v 8 = w.v 8 := (add_v8 h)
  exact addUp_eq (N := (s'.v 8).toInt.toNat) (by omega) (by rw [← e8]; omega) h
end
section
/-! ===== what the reference's reading leaves of the other side ===== -/
noncomputable def Fa3 (sd : Nat) (z0 z : RS) : Prop := FrR WRD z0 z ∧ (z.v 19).toInt = (sd : Int) ∧ (0 ≤ (z.f 23 sd).toInt ∧ (z.f 23 sd).toInt ≤ 6) ∧ (∀ j, ¬ j = sd → z.f 23 j = z0.f 23 j ∧ z.f 26 j = z0.f 26 j) ∧ (∀ j, (j < 6 * sd ∨ 6 * sd + 6 ≤ j) → z.f 24 j = z0.f 24 j ∧ z.f 25 j = z0.f 25 j)
theorem Fa3.sv {sd : Nat} {z0 z : RS} {k : Nat} {x : Int32} (h : Fa3 sd z0 z) (hk : k ∈ WRD) : Fa3 sd z0 (z.sv k x) := by
  obtain ⟨a, b, c⟩ := h
  refine ⟨a.sv hk, ?_, c⟩
  show (va_up z.v k x 19).toInt = _
  unfold va_up
  rw [if_neg (fun e => by rw [← e] at hk; exact absurd hk (by decide))]
  exact b
theorem Fa3.sf {sd : Nat} {z0 z : RS} {k i : Nat} {x : Int32} (h : Fa3 sd z0 z) (hk : 100 + k ∈ WRD) (hn : ¬ k = 23 ∧ ¬ k = 24 ∧ ¬ k = 25 ∧ ¬ k = 26) : Fa3 sd z0 (z.sf k i x) := by
  obtain ⟨a, b, c, d, e⟩ := h
  have g : ∀ m, ¬ k = m → (z.sf k i x).f m = z.f m := fun m hm => by
    show va_up z.f k (upd (z.f k) i x) m = _
    unfold va_up
    rw [if_neg (fun q => hm q.symm)]
  refine ⟨a.sf hk, b, ?_, fun j hj => ?_, fun j hj => ?_⟩
  · rw [g 23 hn.1]; exact c
  · rw [g 23 hn.1, g 26 hn.2.2.2]; exact d j hj
  · rw [g 24 hn.2.1, g 25 hn.2.2.1]; exact e j hj
theorem Fa3.sg {sd : Nat} {z0 z : RS} {k i : Nat} {x : Int64} (h : Fa3 sd z0 z) (hk : 100 + k ∈ WRD) : Fa3 sd z0 (z.sg k i x) := ⟨h.1.sg hk, h.2⟩
theorem fa_r_is {sd : Nat} {z0 : RS} (s : RS) (x1 : Int32) (h1 : Fa3 sd z0 s) : Pt (r_is s x1) (fun y => Fa3 sd z0 y.2) := by
  unfold r_is
  exact pt_ite (fun _ => pt_ite (fun _ => pt_ite (fun _ => pt_some h1) (fun _ => pt_some h1)) (fun _ => pt_none)) (fun _ => pt_some h1)

theorem fa_r_fail {sd : Nat} {z0 : RS} (s : RS) (x1 : Int32) (h1 : Fa3 sd z0 s) : Pt (r_fail s x1) (Fa3 sd z0) := by
  unfold r_fail
  exact pt_ite (fun _ => pt_let (P := Fa3 sd z0) (h1.sv (by decide)) (fun s2 qs2 => pt_ite (fun _ => pt_let (P := Fa3 sd z0) (qs2.sv (by decide)) (fun s5 qs5 => pt_some qs5)) (fun _ => pt_none))) (fun _ => pt_some h1)

theorem fa_r_wrong_46 {sd : Nat} {z0 : RS} (s : RS) (x1 : Int32) (x3 : Int32) (h1 : Fa3 sd z0 s) : Pt (r_wrong_46 s x1 x3) (Fa3 sd z0) := by
  unfold r_wrong_46
  exact pt_let (P := Fa3 sd z0) (h1.sv (by decide)) (fun s1 qs1 => pt_let (P := Fa3 sd z0) (qs1.sv (by decide)) (fun s3 qs3 => pt_some qs3))

theorem fa_r_wrong {sd : Nat} {z0 : RS} (s : RS) (x1 : Int32) (x2 : Int32) (h1 : Fa3 sd z0 s) : Pt (r_wrong s x1 x2) (Fa3 sd z0) := by
  unfold r_wrong
  exact pt_ite (fun _ => pt_ite (fun _ => pt_some h1) (fun _ => pt_ite (fun _ => fa_r_wrong_46 _ _ _ h1) (fun _ => pt_ite (fun _ => pt_some h1) (fun _ => pt_ite (fun _ => pt_ite (fun _ => fa_r_wrong_46 _ _ _ h1) (fun _ => pt_some h1)) (fun _ => fa_r_wrong_46 _ _ _ h1))))) (fun _ => pt_none)

theorem fa_r_goesOn {sd : Nat} {z0 : RS} (s : RS) (h1 : Fa3 sd z0 s) : Pt (r_goesOn s) (Fa3 sd z0) := by
  unfold r_goesOn
  exact pt_ite (fun _ => pt_bindP (P := Fa3 sd z0) (fa_r_fail _ _ h1) (fun s4 qs4 => pt_some qs4)) (fun _ => pt_let (P := Fa3 sd z0) (h1.sv (by decide)) (fun s2 qs2 => pt_some qs2))

theorem fa_r_must {sd : Nat} {z0 : RS} (s : RS) (x1 : Int32) (h1 : Fa3 sd z0 s) : Pt (r_must s x1) (Fa3 sd z0) := by
  unfold r_must
  exact pt_bindI (P := (fun y => Fa3 sd z0 y.2)) (fa_r_is _ _ h1) (fun r2 s1 qs1 => pt_ite (fun _ => pt_bindP (P := Fa3 sd z0) (fa_r_fail _ _ qs1) (fun s4 qs4 => pt_some qs4)) (fun _ => pt_bindP (P := Fa3 sd z0) (fa_r_goesOn _ qs1) (fun s5 qs5 => pt_some qs5)))

theorem fa_r_roomFor_10 {sd : Nat} {z0 : RS} (s : RS) (h1 : Fa3 sd z0 s) : Pt (r_roomFor_10 s) (Fa3 sd z0) := by
  unfold r_roomFor_10
  exact pt_ite (fun _ => pt_bindP (P := Fa3 sd z0) (fa_r_goesOn _ h1) (fun s2 qs2 => pt_some qs2)) (fun _ => pt_some h1)

theorem fa_r_roomFor {sd : Nat} {z0 : RS} (s : RS) (x1 : Int32) (x2 : Int32) (h1 : Fa3 sd z0 s) : Pt (r_roomFor s x1 x2) (Fa3 sd z0) := by
  unfold r_roomFor
  exact pt_ite (fun _ => pt_bindP (P := Fa3 sd z0) (fa_r_fail _ _ h1) (fun s2 qs2 => fa_r_roomFor_10 _ qs2)) (fun _ => fa_r_roomFor_10 _ h1)

theorem fa_r_bounded_15 {sd : Nat} {z0 : RS} (s : RS) (h1 : Fa3 sd z0 s) : Pt (r_bounded_15 s) (fun y => Fa3 sd z0 y.2) := by
  unfold r_bounded_15
  exact pt_bindP (P := Fa3 sd z0) (fa_r_fail _ _ h1) (fun s1 qs1 => pt_some qs1)

theorem fa_r_bounded_46 {sd : Nat} {z0 : RS} (s : RS) (x2 : Int32) (h1 : Fa3 sd z0 s) : Pt (r_bounded_46 s x2) (fun y => Fa3 sd z0 y.2) := by
  unfold r_bounded_46
  exact pt_bindP (P := Fa3 sd z0) (fa_r_goesOn _ h1) (fun s1 qs1 => pt_some qs1)

theorem fa_r_bounded {sd : Nat} {z0 : RS} (s : RS) (x1 : Int32) (h1 : Fa3 sd z0 s) : Pt (r_bounded s x1) (fun y => Fa3 sd z0 y.2) := by
  unfold r_bounded
  exact pt_ite (fun _ => fa_r_bounded_15 _ h1) (fun _ => pt_bindI (P := (fun y => Fa3 sd z0 y.2)) (fa_r_is _ _ h1) (fun r3 s2 qs2 => pt_ite (fun _ => fa_r_bounded_15 _ qs2) (fun _ => pt_ite (fun _ => pt_ite (fun _ => fa_r_bounded_46 _ _ qs2) (fun _ => pt_bindP (P := Fa3 sd z0) (fa_r_wrong _ _ _ qs2) (fun s7 qs7 => fa_r_bounded_46 _ _ qs7))) (fun _ => pt_none))))

theorem fa_r_tellWave_93 {sd : Nat} {z0 : RS} (s : RS) (h1 : Fa3 sd z0 s) : Pt (r_tellWave_93 s) (Fa3 sd z0) := by
  unfold r_tellWave_93
  exact pt_bindP (P := Fa3 sd z0) (fa_r_must _ _ h1) (fun s1 qs1 => pt_ite (fun _ => pt_ite (fun _ => pt_let (P := Fa3 sd z0) (qs1.sf (by decide) (by decide)) (fun s4 qs4 => pt_some qs4)) (fun _ => pt_none)) (fun _ => pt_none))

theorem fa_r_tellWave_31 {sd : Nat} {z0 : RS} (k31 : RS → Int32 → Int32 → Int32 → Int32 → Option RS) (hk31 : ∀ (a0 : RS) (a1 : Int32) (a2 : Int32) (a3 : Int32) (a4 : Int32), Fa3 sd z0 a0 → Pt (k31 a0 a1 a2 a3 a4) (Fa3 sd z0)) (s : RS) (x1 : Int32) (x2 : Int32) (x3 : Int32) (x4 : Int32) (h1 : Fa3 sd z0 s) : Pt (r_tellWave_31 k31 s x1 x2 x3 x4) (Fa3 sd z0) := by
  unfold r_tellWave_31
  exact pt_ite (fun _ => pt_ite (fun _ => pt_ite (fun _ => pt_bindP (P := Fa3 sd z0) (fa_r_wrong _ _ _ h1) (fun s4 qs4 => fa_r_tellWave_93 _ qs4)) (fun _ => fa_r_tellWave_93 _ h1)) (fun _ => fa_r_tellWave_93 _ h1)) (fun _ => pt_bindI (P := (fun y => Fa3 sd z0 y.2)) (fa_r_bounded _ _ h1) (fun r6 s5 qs5 => pt_ite (fun _ => pt_let (P := Fa3 sd z0) (qs5.sf (by decide) (by decide)) (fun s8 qs8 => pt_ite (fun _ => hk31 _ _ _ _ _ qs8) (fun _ => pt_none))) (fun _ => pt_none)))

theorem fa_r_tellWave_31L {sd : Nat} {z0 : RS} : ∀ (n : Nat) (s : RS) (x1 : Int32) (x2 : Int32) (x3 : Int32) (x4 : Int32), Fa3 sd z0 s → Pt (r_tellWave_31L n s x1 x2 x3 x4) (Fa3 sd z0) := by
  intro n
  induction n with
  | zero => intro _ _ _ _ _ _; exact pt_none
  | succ n ih =>
    intro s x1 x2 x3 x4 h1
    exact fa_r_tellWave_31 (r_tellWave_31L n) ih s x1 x2 x3 x4 h1

theorem fa_r_tellWave {sd : Nat} {z0 : RS} (s : RS) (h1 : Fa3 sd z0 s) : Pt (r_tellWave s) (Fa3 sd z0) := by
  unfold r_tellWave
  exact pt_ite (fun _ => fa_r_tellWave_31L _ _ _ _ _ _ h1) (fun _ => pt_none)

theorem fa_r_emit {sd : Nat} {z0 : RS} (s : RS) (x1 : Int32) (x2 : Int32) (h1 : Fa3 sd z0 s) : Pt (r_emit s x1 x2) (Fa3 sd z0) := by
  unfold r_emit
  exact pt_ite (fun _ => pt_let (P := Fa3 sd z0) (h1.sf (by decide) (by decide)) (fun s2 qs2 => pt_ite (fun _ => pt_let (P := Fa3 sd z0) (qs2.sf (by decide) (by decide)) (fun s5 qs5 => pt_let (P := Fa3 sd z0) (qs5.sv (by decide)) (fun s7 qs7 => pt_some qs7))) (fun _ => pt_none))) (fun _ => pt_none)

theorem fa_r_unit_88 {sd : Nat} {z0 : RS} (s : RS) (h1 : Fa3 sd z0 s) : Pt (r_unit_88 s) (Fa3 sd z0) := by
  unfold r_unit_88
  exact pt_bindP (P := Fa3 sd z0) (fa_r_fail _ _ h1) (fun s1 qs1 => pt_some qs1)

theorem fa_r_unit {sd : Nat} {z0 : RS} (s : RS) (h1 : Fa3 sd z0 s) : Pt (r_unit s) (Fa3 sd z0) := by
  unfold r_unit
  exact pt_bindI (P := (fun y => Fa3 sd z0 y.2)) (fa_r_is _ _ h1) (fun r2 s1 qs1 => pt_ite (fun _ => pt_ite (fun _ => pt_ite (fun _ => pt_ite (fun _ => fa_r_unit_88 _ qs1) (fun _ => pt_ite (fun _ => pt_ite (fun _ => fa_r_unit_88 _ qs1) (fun _ => pt_ite (fun _ => pt_bindP (P := Fa3 sd z0) (fa_r_emit _ _ _ qs1) (fun s10 qs10 => pt_bindP (P := Fa3 sd z0) (fa_r_goesOn _ qs10) (fun s11 qs11 => pt_some qs11))) (fun _ => pt_none))) (fun _ => pt_none))) (fun _ => pt_none)) (fun _ => fa_r_unit_88 _ qs1)) (fun _ => pt_ite (fun _ => pt_bindP (P := Fa3 sd z0) (fa_r_emit _ _ _ qs1) (fun s13 qs13 => pt_bindP (P := Fa3 sd z0) (fa_r_goesOn _ qs13) (fun s14 qs14 => pt_some qs14))) (fun _ => pt_none)))

theorem fa_r_comesOut_84 {sd : Nat} {z0 : RS} (k0 : RS → Int32 → Option RS) (hk0 : ∀ (a0 : RS) (a1 : Int32), Fa3 sd z0 a0 → Pt (k0 a0 a1) (Fa3 sd z0)) (s : RS) (x1 : Int32) (t0 : Int32) (h1 : Fa3 sd z0 s) : Pt (r_comesOut_84 k0 s x1 t0) (Fa3 sd z0) := by
  unfold r_comesOut_84
  exact pt_bindP (P := Fa3 sd z0) (fa_r_emit _ _ _ h1) (fun s1 qs1 => hk0 _ _ qs1)

theorem fa_r_comesOut_42 {sd : Nat} {z0 : RS} (k0 : RS → Int32 → Option RS) (hk0 : ∀ (a0 : RS) (a1 : Int32), Fa3 sd z0 a0 → Pt (k0 a0 a1) (Fa3 sd z0)) (s : RS) (x1 : Int32) (x2 : Int32) (h1 : Fa3 sd z0 s) : Pt (r_comesOut_42 k0 s x1 x2) (Fa3 sd z0) := by
  unfold r_comesOut_42
  exact pt_let (P := Fa3 sd z0) (h1.sv (by decide)) (fun s1 qs1 => pt_ite (fun _ => fa_r_comesOut_84 _ hk0 _ _ _ qs1) (fun _ => pt_ite (fun _ => fa_r_comesOut_84 _ hk0 _ _ _ qs1) (fun _ => pt_ite (fun _ => fa_r_comesOut_84 _ hk0 _ _ _ qs1) (fun _ => fa_r_comesOut_84 _ hk0 _ _ _ qs1))))

theorem fa_r_comesOut_0 {sd : Nat} {z0 : RS} (k0 : RS → Int32 → Option RS) (hk0 : ∀ (a0 : RS) (a1 : Int32), Fa3 sd z0 a0 → Pt (k0 a0 a1) (Fa3 sd z0)) (s : RS) (x1 : Int32) (h1 : Fa3 sd z0 s) : Pt (r_comesOut_0 k0 s x1) (Fa3 sd z0) := by
  unfold r_comesOut_0
  exact pt_ite (fun _ => pt_some h1) (fun _ => pt_ite (fun _ => pt_ite (fun _ => pt_some h1) (fun _ => pt_ite (fun _ => fa_r_comesOut_42 _ hk0 _ _ _ h1) (fun _ => pt_ite (fun _ => pt_some h1) (fun _ => pt_ite (fun _ => pt_some h1) (fun _ => fa_r_comesOut_42 _ hk0 _ _ _ h1))))) (fun _ => pt_none))

theorem fa_r_comesOut_0L {sd : Nat} {z0 : RS} : ∀ (n : Nat) (s : RS) (x1 : Int32), Fa3 sd z0 s → Pt (r_comesOut_0L n s x1) (Fa3 sd z0) := by
  intro n
  induction n with
  | zero => intro _ _ _; exact pt_none
  | succ n ih =>
    intro s x1 h1
    exact fa_r_comesOut_0 (r_comesOut_0L n) ih s x1 h1

theorem fa_r_comesOut {sd : Nat} {z0 : RS} (s : RS) (x1 : Int32) (h1 : Fa3 sd z0 s) : Pt (r_comesOut s x1) (Fa3 sd z0) := by
  unfold r_comesOut
  exact fa_r_comesOut_0L _ _ _ h1

theorem fa_r_expression_234 {sd : Nat} {z0 : RS} (k12 : RS → Int32 → Int32 → Option RS) (hk12 : ∀ (a0 : RS) (a1 : Int32) (a2 : Int32), Fa3 sd z0 a0 → Pt (k12 a0 a1 a2) (Fa3 sd z0)) (s : RS) (x1 : Int32) (x2 : Int32) (t0 : Int32) (h1 : Fa3 sd z0 s) : Pt (r_expression_234 k12 s x1 x2 t0) (Fa3 sd z0) := by
  unfold r_expression_234
  exact pt_bindP (P := Fa3 sd z0) (fa_r_comesOut _ _ h1) (fun s1 qs1 => pt_ite (fun _ => pt_ite (fun _ => pt_let (P := Fa3 sd z0) (qs1.sf (by decide) (by decide)) (fun s4 qs4 => pt_let (P := Fa3 sd z0) (qs4.sv (by decide)) (fun s6 qs6 => pt_bindP (P := Fa3 sd z0) (fa_r_goesOn _ qs6) (fun s8 qs8 => hk12 _ _ _ qs8)))) (fun _ => pt_none)) (fun _ => pt_none))

theorem fa_r_expression_229 {sd : Nat} {z0 : RS} (k12 : RS → Int32 → Int32 → Option RS) (hk12 : ∀ (a0 : RS) (a1 : Int32) (a2 : Int32), Fa3 sd z0 a0 → Pt (k12 a0 a1 a2) (Fa3 sd z0)) (s : RS) (x1 : Int32) (x2 : Int32) (h1 : Fa3 sd z0 s) : Pt (r_expression_229 k12 s x1 x2) (Fa3 sd z0) := by
  unfold r_expression_229
  exact fa_r_expression_234 _ hk12 _ _ _ _ h1

theorem fa_r_expression_204 {sd : Nat} {z0 : RS} (s : RS) (h1 : Fa3 sd z0 s) : Pt (r_expression_204 s) (Fa3 sd z0) := by
  unfold r_expression_204
  exact pt_bindP (P := Fa3 sd z0) (fa_r_comesOut _ _ h1) (fun s1 qs1 => pt_some qs1)

theorem fa_r_expression_186 {sd : Nat} {z0 : RS} (k12 : RS → Int32 → Int32 → Option RS) (hk12 : ∀ (a0 : RS) (a1 : Int32) (a2 : Int32), Fa3 sd z0 a0 → Pt (k12 a0 a1 a2) (Fa3 sd z0)) (s : RS) (x1 : Int32) (t0 : Int32) (h1 : Fa3 sd z0 s) : Pt (r_expression_186 k12 s x1 t0) (Fa3 sd z0) := by
  unfold r_expression_186
  exact pt_ite (fun _ => pt_ite (fun _ => fa_r_expression_204 _ h1) (fun _ => pt_bindP (P := Fa3 sd z0) (fa_r_fail _ _ h1) (fun s9 qs9 => fa_r_expression_204 _ qs9))) (fun _ => pt_bindI (P := (fun y => Fa3 sd z0 y.2)) (fa_r_is _ _ h1) (fun r3 s2 qs2 => pt_ite (fun _ => pt_bindI (P := (fun y => Fa3 sd z0 y.2)) (fa_r_is _ _ qs2) (fun r6 s5 qs5 => pt_ite (fun _ => fa_r_expression_234 _ hk12 _ _ _ _ qs5) (fun _ => fa_r_expression_229 _ hk12 _ _ _ qs5))) (fun _ => fa_r_expression_229 _ hk12 _ _ _ qs2)))

theorem fa_r_expression_181 {sd : Nat} {z0 : RS} (k12 : RS → Int32 → Int32 → Option RS) (hk12 : ∀ (a0 : RS) (a1 : Int32) (a2 : Int32), Fa3 sd z0 a0 → Pt (k12 a0 a1 a2) (Fa3 sd z0)) (s : RS) (x1 : Int32) (h1 : Fa3 sd z0 s) : Pt (r_expression_181 k12 s x1) (Fa3 sd z0) := by
  unfold r_expression_181
  exact fa_r_expression_186 _ hk12 _ _ _ h1

theorem fa_r_expression_145 {sd : Nat} {z0 : RS} (k12 : RS → Int32 → Int32 → Option RS) (hk12 : ∀ (a0 : RS) (a1 : Int32) (a2 : Int32), Fa3 sd z0 a0 → Pt (k12 a0 a1 a2) (Fa3 sd z0)) (s : RS) (x1 : Int32) (h1 : Fa3 sd z0 s) : Pt (r_expression_145 k12 s x1) (Fa3 sd z0) := by
  unfold r_expression_145
  exact pt_bindI (P := (fun y => Fa3 sd z0 y.2)) (fa_r_is _ _ h1) (fun r2 s1 qs1 => pt_ite (fun _ => pt_bindI (P := (fun y => Fa3 sd z0 y.2)) (fa_r_is _ _ qs1) (fun r5 s4 qs4 => pt_ite (fun _ => pt_bindI (P := (fun y => Fa3 sd z0 y.2)) (fa_r_is _ _ qs4) (fun r8 s7 qs7 => pt_ite (fun _ => pt_bindI (P := (fun y => Fa3 sd z0 y.2)) (fa_r_is _ _ qs7) (fun r11 s10 qs10 => pt_ite (fun _ => fa_r_expression_186 _ hk12 _ _ _ qs10) (fun _ => fa_r_expression_181 _ hk12 _ _ qs10))) (fun _ => fa_r_expression_181 _ hk12 _ _ qs7))) (fun _ => fa_r_expression_181 _ hk12 _ _ qs4))) (fun _ => fa_r_expression_181 _ hk12 _ _ qs1))

theorem fa_r_expression_96 {sd : Nat} {z0 : RS} (k12 : RS → Int32 → Int32 → Option RS) (k96 : RS → Int32 → Option RS) (hk12 : ∀ (a0 : RS) (a1 : Int32) (a2 : Int32), Fa3 sd z0 a0 → Pt (k12 a0 a1 a2) (Fa3 sd z0)) (hk96 : ∀ (a0 : RS) (a1 : Int32), Fa3 sd z0 a0 → Pt (k96 a0 a1) (Fa3 sd z0)) (s : RS) (x1 : Int32) (h1 : Fa3 sd z0 s) : Pt (r_expression_96 k12 k96 s x1) (Fa3 sd z0) := by
  unfold r_expression_96
  exact pt_bindI (P := (fun y => Fa3 sd z0 y.2)) (fa_r_is _ _ h1) (fun r2 s1 qs1 => pt_ite (fun _ => fa_r_expression_145 _ hk12 _ _ qs1) (fun _ => pt_ite (fun _ => fa_r_expression_145 _ hk12 _ _ qs1) (fun _ => pt_bindP (P := Fa3 sd z0) (fa_r_comesOut _ _ qs1) (fun s5 qs5 => pt_let (P := Fa3 sd z0) (qs5.sv (by decide)) (fun s6 qs6 => pt_let (P := Fa3 sd z0) (qs6.sv (by decide)) (fun s8 qs8 => pt_bindP (P := Fa3 sd z0) (fa_r_goesOn _ qs8) (fun s10 qs10 => hk96 _ _ qs10)))))))

theorem fa_r_expression_96L {sd : Nat} {z0 : RS} (k12 : RS → Int32 → Int32 → Option RS) (hk12 : ∀ (a0 : RS) (a1 : Int32) (a2 : Int32), Fa3 sd z0 a0 → Pt (k12 a0 a1 a2) (Fa3 sd z0)) : ∀ (n : Nat) (s : RS) (x1 : Int32), Fa3 sd z0 s → Pt (r_expression_96L k12 n s x1) (Fa3 sd z0) := by
  intro n
  induction n with
  | zero => intro _ _ _; exact pt_none
  | succ n ih =>
    intro s x1 h1
    exact fa_r_expression_96 k12 (r_expression_96L k12 n) hk12 ih s x1 h1

theorem fa_r_expression_46 {sd : Nat} {z0 : RS} (k12 : RS → Int32 → Int32 → Option RS) (k23 : RS → Int32 → Option RS) (hk12 : ∀ (a0 : RS) (a1 : Int32) (a2 : Int32), Fa3 sd z0 a0 → Pt (k12 a0 a1 a2) (Fa3 sd z0)) (hk23 : ∀ (a0 : RS) (a1 : Int32), Fa3 sd z0 a0 → Pt (k23 a0 a1) (Fa3 sd z0)) (s : RS) (x1 : Int32) (h1 : Fa3 sd z0 s) : Pt (r_expression_46 k12 k23 s x1) (Fa3 sd z0) := by
  unfold r_expression_46
  exact pt_let (P := Fa3 sd z0) (h1.sv (by decide)) (fun s1 qs1 => pt_bindP (P := Fa3 sd z0) (fa_r_goesOn _ qs1) (fun s3 qs3 => pt_ite (fun _ => pt_let (P := Fa3 sd z0) (qs3.sf (by decide) (by decide)) (fun s5 qs5 => pt_let (P := Fa3 sd z0) (qs5.sv (by decide)) (fun s7 qs7 => hk23 _ _ qs7))) (fun _ => pt_none)))

theorem fa_r_expression_23 {sd : Nat} {z0 : RS} (k12 : RS → Int32 → Int32 → Option RS) (k23 : RS → Int32 → Option RS) (hk12 : ∀ (a0 : RS) (a1 : Int32) (a2 : Int32), Fa3 sd z0 a0 → Pt (k12 a0 a1 a2) (Fa3 sd z0)) (hk23 : ∀ (a0 : RS) (a1 : Int32), Fa3 sd z0 a0 → Pt (k23 a0 a1) (Fa3 sd z0)) (s : RS) (x1 : Int32) (h1 : Fa3 sd z0 s) : Pt (r_expression_23 k12 k23 s x1) (Fa3 sd z0) := by
  unfold r_expression_23
  exact pt_bindI (P := (fun y => Fa3 sd z0 y.2)) (fa_r_is _ _ h1) (fun r2 s1 qs1 => pt_ite (fun _ => pt_bindP (P := Fa3 sd z0) (fa_r_unit _ qs1) (fun s4 qs4 => pt_ite (fun _ => fa_r_expression_96L _ hk12 _ _ _ qs4) (fun _ => pt_some qs4))) (fun _ => pt_ite (fun _ => pt_bindP (P := Fa3 sd z0) (fa_r_fail _ _ qs1) (fun s7 qs7 => fa_r_expression_46 _ _ hk12 hk23 _ _ qs7)) (fun _ => fa_r_expression_46 _ _ hk12 hk23 _ _ qs1)))

theorem fa_r_expression_23L {sd : Nat} {z0 : RS} (k12 : RS → Int32 → Int32 → Option RS) (hk12 : ∀ (a0 : RS) (a1 : Int32) (a2 : Int32), Fa3 sd z0 a0 → Pt (k12 a0 a1 a2) (Fa3 sd z0)) : ∀ (n : Nat) (s : RS) (x1 : Int32), Fa3 sd z0 s → Pt (r_expression_23L k12 n s x1) (Fa3 sd z0) := by
  intro n
  induction n with
  | zero => intro _ _ _; exact pt_none
  | succ n ih =>
    intro s x1 h1
    exact fa_r_expression_23 k12 (r_expression_23L k12 n) hk12 ih s x1 h1

theorem fa_r_expression_12 {sd : Nat} {z0 : RS} (k12 : RS → Int32 → Int32 → Option RS) (hk12 : ∀ (a0 : RS) (a1 : Int32) (a2 : Int32), Fa3 sd z0 a0 → Pt (k12 a0 a1 a2) (Fa3 sd z0)) (s : RS) (x1 : Int32) (x2 : Int32) (h1 : Fa3 sd z0 s) : Pt (r_expression_12 k12 s x1 x2) (Fa3 sd z0) := by
  unfold r_expression_12
  exact pt_ite (fun _ => pt_some h1) (fun _ => pt_ite (fun _ => fa_r_expression_23L _ hk12 _ _ _ h1) (fun _ => pt_some h1))

theorem fa_r_expression_12L {sd : Nat} {z0 : RS} : ∀ (n : Nat) (s : RS) (x1 : Int32) (x2 : Int32), Fa3 sd z0 s → Pt (r_expression_12L n s x1 x2) (Fa3 sd z0) := by
  intro n
  induction n with
  | zero => intro _ _ _ _; exact pt_none
  | succ n ih =>
    intro s x1 x2 h1
    exact fa_r_expression_12 (r_expression_12L n) ih s x1 x2 h1

theorem fa_r_expression {sd : Nat} {z0 : RS} (s : RS) (h1 : Fa3 sd z0 s) : Pt (r_expression s) (Fa3 sd z0) := by
  unfold r_expression
  exact pt_let (P := Fa3 sd z0) (h1.sv (by decide)) (fun s1 qs1 => fa_r_expression_12L _ _ _ _ qs1)

theorem fa_r_term_24 {sd : Nat} {z0 : RS} (s : RS) (h1 : Fa3 sd z0 s) : Pt (r_term_24 s) (Fa3 sd z0) := by
  unfold r_term_24
  exact pt_ite (fun _ => pt_let (P := Fa3 sd z0) (h1.sf (by decide) (by decide)) (fun s2 qs2 => pt_let (P := Fa3 sd z0) (qs2.sv (by decide)) (fun s4 qs4 => pt_some qs4))) (fun _ => pt_none)

theorem fa_r_term {sd : Nat} {z0 : RS} (s : RS) (h1 : Fa3 sd z0 s) : Pt (r_term s) (Fa3 sd z0) := by
  unfold r_term
  exact pt_ite (fun _ => pt_let (P := Fa3 sd z0) (h1.sf (by decide) (by decide)) (fun s2 qs2 => pt_ite (fun _ => pt_bindP (P := Fa3 sd z0) (fa_r_expression _ qs2) (fun s5 qs5 => fa_r_term_24 _ qs5)) (fun _ => fa_r_term_24 _ qs2))) (fun _ => pt_none)

theorem fa_r_tellLaw_129 {sd : Nat} {z0 : RS} (s : RS) (x1 : Int32) (x2 : Int32) (h1 : Fa3 sd z0 s) : Pt (r_tellLaw_129 s x1 x2) (Fa3 sd z0) := by
  unfold r_tellLaw_129
  exact pt_ite (fun _ => pt_let (P := Fa3 sd z0) (h1.sf (by decide) (by decide)) (fun s2 qs2 => pt_bindP (P := Fa3 sd z0) (fa_r_term _ qs2) (fun s4 qs4 => pt_bindP (P := Fa3 sd z0) (fa_r_must _ _ qs4) (fun s5 qs5 => pt_ite (fun _ => pt_ite (fun _ => pt_let (P := Fa3 sd z0) (qs5.sf (by decide) (by decide)) (fun s8 qs8 => pt_ite (fun _ => pt_let (P := Fa3 sd z0) (qs8.sf (by decide) (by decide)) (fun s11 qs11 => pt_some qs11)) (fun _ => pt_none))) (fun _ => pt_none)) (fun _ => pt_some qs5))))) (fun _ => pt_none)

theorem fa_r_tellLaw_110 {sd : Nat} {z0 : RS} (k12 : RS → Int32 → Int32 → Int32 → Option RS) (hk12 : ∀ (a0 : RS) (a1 : Int32) (a2 : Int32) (a3 : Int32), Fa3 sd z0 a0 → Pt (k12 a0 a1 a2 a3) (Fa3 sd z0)) (s : RS) (x1 : Int32) (x2 : Int32) (x3 : Int32) (h1 : Fa3 sd z0 s) : Pt (r_tellLaw_110 k12 s x1 x2 x3) (Fa3 sd z0) := by
  unfold r_tellLaw_110
  exact pt_bindP (P := Fa3 sd z0) (fa_r_must _ _ h1) (fun s1 qs1 => pt_bindP (P := Fa3 sd z0) (fa_r_term _ qs1) (fun s2 qs2 => pt_bindP (P := Fa3 sd z0) (fa_r_must _ _ qs2) (fun s3 qs3 => hk12 _ _ _ _ qs3)))

theorem fa_r_tellLaw_38 {sd : Nat} {z0 : RS} (k12 : RS → Int32 → Int32 → Int32 → Option RS) (hk12 : ∀ (a0 : RS) (a1 : Int32) (a2 : Int32) (a3 : Int32), Fa3 sd z0 a0 → Pt (k12 a0 a1 a2 a3) (Fa3 sd z0)) (s : RS) (x1 : Int32) (x2 : Int32) (x3 : Int32) (h1 : Fa3 sd z0 s) : Pt (r_tellLaw_38 k12 s x1 x2 x3) (Fa3 sd z0) := by
  unfold r_tellLaw_38
  exact pt_ite (fun _ => pt_bindP (P := Fa3 sd z0) (fa_r_goesOn _ h1) (fun s2 qs2 => pt_ite (fun _ => pt_let (P := Fa3 sd z0) (qs2.sf (by decide) (by decide)) (fun s4 qs4 => pt_ite (fun _ => pt_let (P := Fa3 sd z0) (qs4.sf (by decide) (by decide)) (fun s7 qs7 => pt_bindP (P := Fa3 sd z0) (fa_r_expression _ qs7) (fun s9 qs9 => pt_bindP (P := Fa3 sd z0) (fa_r_must _ _ qs9) (fun s10 qs10 => pt_ite (fun _ => pt_let (P := Fa3 sd z0) (qs10.sf (by decide) (by decide)) (fun s12 qs12 => pt_ite (fun _ => pt_bindP (P := Fa3 sd z0) (fa_r_expression _ qs12) (fun s15 qs15 => fa_r_tellLaw_110 _ hk12 _ _ _ _ qs15)) (fun _ => fa_r_tellLaw_110 _ hk12 _ _ _ _ qs12))) (fun _ => pt_none))))) (fun _ => pt_none))) (fun _ => pt_none))) (fun _ => pt_some h1)

theorem fa_r_tellLaw_12 {sd : Nat} {z0 : RS} (k12 : RS → Int32 → Int32 → Int32 → Option RS) (hk12 : ∀ (a0 : RS) (a1 : Int32) (a2 : Int32) (a3 : Int32), Fa3 sd z0 a0 → Pt (k12 a0 a1 a2 a3) (Fa3 sd z0)) (s : RS) (x1 : Int32) (x2 : Int32) (x3 : Int32) (h1 : Fa3 sd z0 s) : Pt (r_tellLaw_12 k12 s x1 x2 x3) (Fa3 sd z0) := by
  unfold r_tellLaw_12
  exact pt_ite (fun _ => pt_bindI (P := (fun y => Fa3 sd z0 y.2)) (fa_r_is _ _ h1) (fun r3 s2 qs2 => pt_ite (fun _ => fa_r_tellLaw_129 _ _ _ qs2) (fun _ => pt_ite (fun _ => pt_bindP (P := Fa3 sd z0) (fa_r_fail _ _ qs2) (fun s6 qs6 => fa_r_tellLaw_38 _ hk12 _ _ _ _ qs6)) (fun _ => fa_r_tellLaw_38 _ hk12 _ _ _ _ qs2)))) (fun _ => fa_r_tellLaw_129 _ _ _ h1)

theorem fa_r_tellLaw_12L {sd : Nat} {z0 : RS} : ∀ (n : Nat) (s : RS) (x1 : Int32) (x2 : Int32) (x3 : Int32), Fa3 sd z0 s → Pt (r_tellLaw_12L n s x1 x2 x3) (Fa3 sd z0) := by
  intro n
  induction n with
  | zero => intro _ _ _ _ _; exact pt_none
  | succ n ih =>
    intro s x1 x2 x3 h1
    exact fa_r_tellLaw_12 (r_tellLaw_12L n) ih s x1 x2 x3 h1

theorem fa_r_tellLaw {sd : Nat} {z0 : RS} (s : RS) (x1 : Int32) (h1 : Fa3 sd z0 s) : Pt (r_tellLaw s x1) (Fa3 sd z0) := by
  unfold r_tellLaw
  exact pt_bindP (P := Fa3 sd z0) (fa_r_must _ _ h1) (fun s1 qs1 => fa_r_tellLaw_12L _ _ _ _ _ qs1)

theorem fa_r_tellOne_165 {sd : Nat} {z0 : RS} (s : RS) (x1 : Int32) (h1 : Fa3 sd z0 s) : Pt (r_tellOne_165 s x1) (Fa3 sd z0) := by
  unfold r_tellOne_165
  exact pt_ite (fun _ => pt_bindP (P := Fa3 sd z0) (fa_r_goesOn _ h1) (fun s2 qs2 => pt_bindP (P := Fa3 sd z0) (fa_r_tellLaw _ _ qs2) (fun s3 qs3 => pt_some qs3))) (fun _ => pt_some h1)

theorem fa_r_tellOne_160 {sd : Nat} {z0 : RS} (s : RS) (x1 : Int32) (h1 : Fa3 sd z0 s) : Pt (r_tellOne_160 s x1) (Fa3 sd z0) := by
  unfold r_tellOne_160
  exact pt_bindP (P := Fa3 sd z0) (fa_r_fail _ _ h1) (fun s1 qs1 => fa_r_tellOne_165 _ _ qs1)
end
section
/-! ===== a party is told, a seed is told: the reference's other side ===== -/
theorem fa_party_78 {sd : Nat} {z0 s : RS} {x1 x2 : Int32} {p : Nat} (hp : p ≤ 5) (e1 : x1.toInt = ((6 * sd + p : Nat) : Int)) (h1 : Fa3 sd z0 s) : Pt (r_tellParty_78 s x1 x2) (Fa3 sd z0) := by
  have ec : x1.toNatClampNeg = 6 * sd + p := clamp_of_int e1
  have w24 : ∀ {t : RS} {x : Int32}, Fa3 sd z0 t → Fa3 sd z0 (t.sf 24 (Int32.toNatClampNeg x1) x) := by
    intro t x q
    obtain ⟨a, b, c, d, e⟩ := q
    rw [ec]
    refine ⟨a.sf (by decide), b, c, d, fun j hj => ?_⟩
    have g : (t.sf 24 (6 * sd + p) x).f 24 j = if j = 6 * sd + p then x else t.f 24 j := rsf_at
    rw [g, if_neg (by omega)]
    exact e j hj
  have w25 : ∀ {t : RS} {x : Int32}, Fa3 sd z0 t → Fa3 sd z0 (t.sf 25 (Int32.toNatClampNeg x1) x) := by
    intro t x q
    obtain ⟨a, b, c, d, e⟩ := q
    rw [ec]
    refine ⟨a.sf (by decide), b, c, d, fun j hj => ?_⟩
    have g : (t.sf 25 (6 * sd + p) x).f 25 j = if j = 6 * sd + p then x else t.f 25 j := rsf_at
    rw [g, if_neg (by omega)]
    exact e j hj
  have w23 : ∀ {t : RS}, Fa3 sd z0 t → vpb (t.f 23 (Int32.toNatClampNeg (t.v 19))) 6 = true → Fa3 sd z0 (t.sf 23 (Int32.toNatClampNeg (t.v 19)) ((t.f 23 (Int32.toNatClampNeg (t.v 19))) + 1)) := by
    intro t q hv
    obtain ⟨a, b, c, d, e⟩ := q
    have e19 : (t.v 19).toNatClampNeg = sd := clamp_of_int b
    rw [e19] at hv ⊢
    have l := vpb_lt hv
    have ci := clampI c.1
    have g : ∀ j, (t.sf 23 sd ((t.f 23 sd) + 1)).f 23 j = if j = sd then (t.f 23 sd) + 1 else t.f 23 j := fun j => rsf_at
    have a1 : ((t.f 23 sd) + 1).toInt = (t.f 23 sd).toInt + 1 := by
      rw [tn_add rfl (by decide : (1 : Int32).toInt = 1) (by omega) (by omega)]
    refine ⟨a.sf (by decide), b, ?_, fun j hj => ?_, e⟩
    · rw [g sd, if_pos rfl, a1]
      omega
    · rw [g j, if_neg hj]
      exact d j hj
  unfold r_tellParty_78
  exact pt_bindI (P := fun y => Fa3 sd z0 y.2) (fa_r_bounded _ _ h1) (fun r2 s1 q1 => pt_ite (fun _ => pt_let (P := Fa3 sd z0) (w24 q1) (fun s4 q4 => pt_bindI (P := fun y => Fa3 sd z0 y.2) (fa_r_bounded _ _ q4) (fun r7 s6 q6 => pt_ite (fun _ => pt_let (P := Fa3 sd z0) (w25 q6) (fun s9 q9 => pt_bindP (P := Fa3 sd z0) (fa_r_must _ _ q9) (fun s11 q11 => pt_ite (fun _ => pt_ite (fun _ => pt_ite (fun _ => pt_ite (fun hv => pt_let (P := fun t : RS => Fa3 sd z0 t ∧ vpb (t.f 23 (Int32.toNatClampNeg (t.v 19))) 6 = true) ⟨q11.sg (by decide), hv⟩ (fun s16 q16 => pt_ite (fun _ => pt_ite (fun _ => pt_let (P := Fa3 sd z0) (w23 q16.1 q16.2) (fun s20 q20 => pt_some q20)) (fun _ => pt_none)) (fun _ => pt_none))) (fun _ => pt_none)) (fun _ => pt_none)) (fun _ => pt_none)) (fun _ => pt_some q11)))) (fun _ => pt_none)))) (fun _ => pt_none))
theorem fa_party_30L {sd : Nat} {z0 : RS} {x1 x2 : Int32} {p : Nat} (hp : p ≤ 5) (e1 : x1.toInt = ((6 * sd + p : Nat) : Int)) : ∀ (n : Nat) (s : RS) (x3 : Int32), Fa3 sd z0 s → Pt (r_tellParty_30L n s x1 x2 x3) (Fa3 sd z0) := by
  intro n
  induction n with
  | zero => intro s x3 _; exact pt_none
  | succ n ih =>
    intro s x3 h1
    show Pt (r_tellParty_30 (r_tellParty_30L n) s x1 x2 x3) _
    unfold r_tellParty_30 r_tellParty_72
    exact pt_ite (fun _ => pt_ite (fun _ => fa_party_78 hp e1 h1) (fun _ => pt_ite (fun _ => pt_ite (fun _ => pt_ite (fun _ => pt_ite (fun _ => pt_bindP (P := Fa3 sd z0) (fa_r_wrong _ _ _ h1) (fun s7 q7 => ih s7 _ q7)) (fun _ => ih s _ h1)) (fun _ => pt_none)) (fun _ => pt_none)) (fun _ => fa_party_78 hp e1 h1))) (fun _ => pt_none)
theorem fa_party {sd : Nat} {z0 s : RS} (hsd : sd ≤ 1) (h1 : Fa3 sd z0 s) (h6 : ¬ (s.f 23 sd).toInt = 6) : Pt (r_tellParty s) (Fa3 sd z0) := by
  have b := h1.2.1
  have c := h1.2.2.1
  unfold r_tellParty
  refine pt_ite (fun _ => pt_bindP (P := Fa3 sd z0) (fa_r_must _ _ h1) (fun s2 q2 => ?_)) (fun _ => pt_none)
  rw [clamp_of_int b]
  have m1 : (6 * (s.v 19)).toInt = (s.v 19).toInt * 6 := ti_cmul (c := 6) (by decide) (by omega) (by omega)
  refine fa_party_30L (p := (s.f 23 sd).toInt.toNat) (by omega) ?_ fu s2 0 q2
  rw [ti_add (by omega) (by omega)]
  omega
theorem f23_fail {F : Nat → Int32} {s : RS} (k : Int32) (h : s.f 23 = F) : Pt (r_fail s k) (fun y => y.f 23 = F) := by
  unfold r_fail
  exact pt_ite (fun _ => pt_let (P := fun t : RS => t.f 23 = F) h (fun s2 q => pt_ite (fun _ => pt_let (P := fun t : RS => t.f 23 = F) q (fun s5 q5 => pt_some q5)) (fun _ => pt_none))) (fun _ => pt_some h)
theorem f23_goesOn {F : Nat → Int32} {s : RS} (h : s.f 23 = F) : Pt (r_goesOn s) (fun y => y.f 23 = F) := by
  unfold r_goesOn
  exact pt_ite (fun _ => pt_bindP (P := fun t : RS => t.f 23 = F) (f23_fail 2 h) (fun s4 q => pt_some q)) (fun _ => pt_let (P := fun t : RS => t.f 23 = F) h (fun s2 q => pt_some q))
theorem f23_room {F : Nat → Int32} {s : RS} (x1 x2 : Int32) (h : s.f 23 = F) : Pt (r_roomFor s x1 x2) (fun y => y.f 23 = F) := by
  have g : ∀ t : RS, t.f 23 = F → Pt (r_roomFor_10 t) (fun y => y.f 23 = F) := by
    intro t ht
    unfold r_roomFor_10
    exact pt_ite (fun _ => pt_bindP (P := fun t : RS => t.f 23 = F) (f23_goesOn ht) (fun s2 q => pt_some q)) (fun _ => pt_some ht)
  unfold r_roomFor
  exact pt_ite (fun _ => pt_bindP (P := fun t : RS => t.f 23 = F) (f23_fail 2 h) (fun s2 q => g s2 q)) (fun _ => g s h)
theorem room_full2 {s y : RS} {x : Int32} (h : r_roomFor s x x = some y) : ¬ y.v 13 = 0 := by
  unfold r_roomFor at h
  rw [if_pos rfl] at h
  replace h := bindP_inv h
  obtain ⟨s2, h2, h⟩ := h
  have n2 : ¬ s2.v 13 = 0 := by
    unfold r_fail at h2
    by_cases c : s.v 13 ≤ 0
    · rw [if_pos c] at h2
      replace h2 := letS_inv h2
      obtain ⟨s3, e3, h2⟩ := h2
      replace h2 := guard_inv h2
      obtain ⟨_, h2⟩ := h2
      replace h2 := letS_inv h2
      obtain ⟨s5, e5, h2⟩ := h2
      cases h2
      have e : s2.v 13 = 2 := by rw [← e5, ← e3]; rfl
      rw [e]
      decide
    · rw [if_neg c] at h2
      cases h2
      intro q
      rw [q] at c
      exact c (by decide)
  unfold r_roomFor_10 at h
  rw [if_neg n2] at h
  cases h
  exact n2
theorem fa_r_tellOne {sd : Nat} {z0 s : RS} (hsd : sd ≤ 1) (h1 : Fa3 sd z0 s) : Pt (r_tellOne s) (Fa3 sd z0) := by
  have w26 : ∀ {t : RS} {x c : Int32}, c.toInt = (sd : Int) → Fa3 sd z0 t → Fa3 sd z0 (t.sf 26 (Int32.toNatClampNeg c) x) := by
    intro t x c hc q
    obtain ⟨a, b, e, d, f⟩ := q
    rw [clamp_of_int hc]
    refine ⟨a.sf (by decide), b, e, fun j hj => ?_, f⟩
    have g : (t.sf 26 sd x).f 26 j = if j = sd then x else t.f 26 j := rsf_at
    rw [g, if_neg hj]
    exact d j hj
  have pty : Pt (bindP (r_roomFor s (s.f 23 (Int32.toNatClampNeg (s.v 19))) 6) fun s9 => (if (s9.v 13) = 0 then (bindP (r_tellParty s9) fun s11 => (some s11)) else (some s9))) (Fa3 sd z0) := by
    intro y h
    replace h := bindP_inv h
    obtain ⟨s9, h9, h⟩ := h
    have q9 : Fa3 sd z0 s9 := fa_r_roomFor _ _ _ h1 s9 h9
    have f9 : s9.f 23 = s.f 23 := f23_room _ _ rfl s9 h9
    by_cases c : s9.v 13 = 0
    · rw [if_pos c] at h
      replace h := bindP_inv h
      obtain ⟨s11, h11, h⟩ := h
      have e : y = s11 := by cases h; rfl
      rw [e]
      refine fa_party hsd q9 (fun q => ?_) s11 h11
      rw [f9] at q
      rw [clamp_of_int h1.2.1] at h9
      have e6 : s.f 23 sd = 6 := Int32.toInt_inj.mp (q.trans (by decide))
      rw [e6] at h9
      exact room_full2 h9 c
    · rw [if_neg c] at h
      have e : y = s9 := by cases h; rfl
      rw [e]
      exact q9
  unfold r_tellOne
  exact pt_ite (fun _ => pt_ite (fun _ => pt_ite (fun _ => pt_bindP (P := Fa3 sd z0) (fa_r_roomFor _ _ _ h1) (fun s4 q4 => pt_ite (fun _ => pt_bindP (P := Fa3 sd z0) (fa_r_tellWave _ q4) (fun s6 q6 => pt_some q6)) (fun _ => pt_some q4))) (fun _ => pt_none)) (fun _ => pt_ite (fun _ => pt_ite (fun _ => pty) (fun _ => pt_none)) (fun _ => pt_ite (fun _ => pt_bindP (P := Fa3 sd z0) (fa_r_goesOn _ h1) (fun s13 q13 => pt_bindI (P := fun y => Fa3 sd z0 y.2) (fa_r_bounded _ _ q13) (fun r15 s14 q14 => pt_ite (fun _ => pt_let (P := Fa3 sd z0) (w26 q13.2.1 q14) (fun s17 q17 => pt_bindP (P := Fa3 sd z0) (fa_r_must _ _ q17) (fun s19 q19 => pt_some q19))) (fun _ => pt_none)))) (fun _ => pt_ite (fun _ => pt_ite (fun _ => fa_r_tellOne_160 _ _ h1) (fun _ => pt_ite (fun _ => pt_ite (fun _ => fa_r_tellOne_165 _ _ h1) (fun _ => fa_r_tellOne_160 _ _ h1)) (fun _ => pt_none))) (fun _ => pt_none))))) (fun _ => pt_none)
theorem rr_last {sd : Nat} {z0 z' : RS} {r : Int32} (hsd : sd ≤ 1) : ∀ (n : Nat) (z : RS), Fa3 sd z0 z → r_read_107L n z = some (r, z') → ∃ u, Fa3 sd z0 u ∧ r_read_129 u = some (r, z') := by
  intro n
  induction n with
  | zero => intro z _ h; exact none_ne h
  | succ n ih =>
    intro z hF h
    replace h : r_read_107 (r_read_107L n) z = some (r, z') := h
    unfold r_read_107 at h
    by_cases c : z.v 13 = 0
    · rw [if_pos c] at h
      replace h := bindI_inv h
      obtain ⟨r3, s2, h2, h⟩ := h
      have q2 : Fa3 sd z0 s2 := fa_r_is _ _ hF (r3, s2) h2
      by_cases d : r3 = 0
      · rw [if_pos d] at h
        replace h := bindP_inv h
        obtain ⟨s5, h5, h⟩ := h
        exact ih s5 (fa_r_tellOne hsd q2 s5 h5) h
      · rw [if_neg d] at h; exact ⟨s2, q2, h⟩
    · rw [if_neg c] at h; exact ⟨z, hF, h⟩
end
section
/-! ===== the reference has read: what stands then ===== -/
theorem plain_far2 {z z' : RS} {x : Int32} (h : r_plain z x = some z') : ∀ j, ¬ j = x.toNatClampNeg → z'.f 23 j = z.f 23 j ∧ z'.f 26 j = z.f 26 j := by
  intro j hj
  unfold r_plain at h
  replace h := guard_inv h
  obtain ⟨_, h⟩ := h
  replace h := letS_inv h
  obtain ⟨z2, e2, h⟩ := h
  replace h := guard_inv h
  obtain ⟨_, h⟩ := h
  replace h := letS_inv h
  obtain ⟨z5, e5, h⟩ := h
  replace h := guard_inv h
  obtain ⟨_, h⟩ := h
  replace h := letS_inv h
  obtain ⟨z8, e8, h⟩ := h
  have F := fr_plainL x fu z8 z8 0 FrR.rfl _ h
  have g5 : ∀ i, z5.f 23 i = if i = x.toNatClampNeg then 0 else z2.f 23 i := fun i => by rw [← e5]; exact rsf_at
  have g8 : ∀ i, z8.f 26 i = if i = x.toNatClampNeg then 0 else z5.f 26 i := fun i => by rw [← e8]; exact rsf_at
  have k8 : z8.f 23 = z5.f 23 := by rw [← e8]; rfl
  have k5 : z5.f 26 = z2.f 26 := by rw [← e5]; rfl
  have k2 : z2.f 23 = z.f 23 ∧ z2.f 26 = z.f 26 := by rw [← e2]; exact ⟨rfl, rfl⟩
  rw [(F.2 23 (by decide)).1, (F.2 26 (by decide)).1, k8, g5 j, if_neg hj, g8 j, if_neg hj, k5, k2.1, k2.2]
  exact ⟨rfl, rfl⟩
noncomputable abbrev WFT : List Nat := [2, 4, 10, 11, 12, 13, 14, 15, 16, 19, 29, 35, 39, 103, 105, 106, 107, 108, 120, 121, 122, 123, 124, 125, 126, 127, 128, 130, 131, 132, 133, 134, 136, 137, 138]
/-- what is told on the other side stays -/
noncomputable def FAR (sd : Nat) (z u : RS) : Prop := (∀ j, ¬ j = sd → u.f 23 j = z.f 23 j ∧ u.f 26 j = z.f 26 j) ∧ (∀ j, (j < 6 * sd ∨ 6 * sd + 6 ≤ j) → u.f 24 j = z.f 24 j ∧ u.f 25 j = z.f 25 j)
theorem read_far {z z' : RS} {r : Int32} (hI : InvR z) (hz : r_read z = some (r, z')) : ∃ sd u, (z.v 18).toNatClampNeg + sd = 1 ∧ (u.v 19).toInt = (sd : Int) ∧ r_read_129 u = some (r, z') ∧ FAR sd z u ∧ FrR WFT z u := by
  have b2 : 0 ≤ (z.v 2).toInt ∧ (z.v 2).toInt ≤ 2000 := hI.1 2
  unfold r_read at hz
  replace hz := letS_inv hz
  obtain ⟨z1, g1, hz⟩ := hz
  have v41 : z1.v 4 = z.v 2 := by rw [← g1]; rfl
  have G1 : FrR [4] z z1 := by rw [← g1]; exact FrR.rfl.sv (by decide)
  have I1z : InvR z1 := by rw [← g1]; exact hI.sv (k := 4) (show (0 : Int) ≤ (z.v 2).toInt by exact b2.1) (show (z.v 2).toInt ≤ (2000 : Int) by exact b2.2)
  obtain ⟨u, hz, Iu, Gu, _, _⟩ := copy_inv fu z1 0 (by decide) (by rw [v41]; exact b2.2) I1z hz
  unfold rrest at hz
  replace hz := letS_inv hz
  obtain ⟨z2, g2, hz⟩ := hz
  replace hz := bindP_inv hz
  obtain ⟨z4, g4, hz⟩ := hz
  replace hz := letS_inv hz
  obtain ⟨z5, g5, hz⟩ := hz
  replace hz := letS_inv hz
  obtain ⟨z7, g7, hz⟩ := hz
  replace hz := letS_inv hz
  obtain ⟨z9, g9, hz⟩ := hz
  replace hz := letS_inv hz
  obtain ⟨z11, g11, hz⟩ := hz
  replace hz := letS_inv hz
  obtain ⟨z13, g13, hz⟩ := hz
  replace hz := bindP_inv hz
  obtain ⟨z15, g15, hz⟩ := hz
  replace hz := letS_inv hz
  obtain ⟨z16, g16, hz⟩ := hz
  replace hz := letS_inv hz
  obtain ⟨z18, g18, hz⟩ := hz
  have I2 : InvR z2 := by rw [← g2]; exact Iu.sv (k := 2) (show (0 : Int) ≤ (0 : Int32).toInt by decide) (show (0 : Int32).toInt ≤ (2000 : Int) by decide)
  have G2 : FrR [2, 4, 103] z z2 := by rw [← g2]; exact ((FrR.rfl.trans G1 (by decide)).trans Gu (by decide)).sv (k := 2) (by decide)
  obtain ⟨y4, q4, I4, F4⟩ := ok_cut z2 I2
  rw [g4] at q4
  cases q4
  have F13 : FrR [11, 12, 13, 15, 19] z4 z13 := by
    rw [← g13, ← g11, ← g9, ← g7, ← g5]
    exact ((((FrR.rfl.sv (k := 11) (by decide)).sv (k := 12) (by decide)).sv (k := 13) (by decide)).sv (k := 15) (by decide)).sv (k := 19) (by decide)
  have I11 : InvR z11 := by
    rw [← g11, ← g9, ← g7, ← g5]
    exact (((I4.sv (k := 11) (show (0 : Int) ≤ (0 : Int32).toInt by decide) (show (0 : Int32).toInt ≤ (400 : Int) by decide)).svF (k := 12) rfl rfl).sv (k := 13) (show (0 : Int) ≤ (0 : Int32).toInt by decide) (show (0 : Int32).toInt ≤ (2 : Int) by decide)).sv (k := 15) (show (0 : Int) ≤ (0 : Int32).toInt by decide) (show (0 : Int32).toInt ≤ (5 : Int) by decide)
  have h18 : 0 ≤ (z11.v 18).toInt ∧ (z11.v 18).toInt ≤ 1 := I11.1 18
  have a18 : (1 - (z11.v 18)).toInt = 1 - (z11.v 18).toInt := tn_sub (by decide) rfl (by omega) (by omega)
  have I13 : InvR z13 := by rw [← g13]; exact I11.sv (k := 19) (show (0 : Int) ≤ (1 - (z11.v 18)).toInt by omega) (show (1 - (z11.v 18)).toInt ≤ (1 : Int) by omega)
  have e19 : z13.v 19 = 1 - (z11.v 18) := by rw [← g13]; rfl
  have e18 : z13.v 18 = z11.v 18 := by rw [← g13]; rfl
  obtain ⟨sd, hsd⟩ : ∃ sd : Nat, (z13.v 19).toInt = (sd : Int) := ⟨(z13.v 19).toInt.toNat, by rw [e19]; omega⟩
  have hsd1 : sd ≤ 1 := by rw [e19] at hsd; omega
  have hl : (z13.v 18).toInt + (sd : Int) = 1 := by rw [e18, ← hsd, e19]; omega
  obtain ⟨y15, q15, _, F15, _, _, _⟩ := ok_plain sd z13 (z13.v 19) hsd1 hsd I13
  rw [g15] at q15
  cases q15
  have pl := plain_23 g15
  have pf := plain_far2 g15
  rw [clamp_of_int hsd] at pl
  rw [clamp_of_int hsd] at pf
  have FA : FrR [29, 35] z15 z18 := by
    rw [← g18, ← g16]
    exact (FrR.rfl.sv (k := 29) (by decide)).sv (k := 35) (by decide)
  have FW : FrR WFT z z18 := ((((FrR.rfl.trans G2 (by decide)).trans F4 (by decide)).trans F13 (by decide)).trans F15 (by decide)).trans FA (by decide)
  have h0 : Fa3 sd z18 z18 := ⟨FrR.rfl, by rw [FA.1 19 (by decide), F15.1 19 (by decide)]; exact hsd, by rw [(FA.2 23 (by decide)).1, pl.2.1]; decide, fun _ _ => ⟨rfl, rfl⟩, fun _ _ => ⟨rfl, rfl⟩⟩
  obtain ⟨w, hw, hz⟩ := rr_last hsd1 fu z18 h0 hz
  have zv : (z.v 18).toInt = (z13.v 18).toInt := by rw [F13.1 18 (by decide), F4.1 18 (by decide), G2.1 18 (by decide)]
  have bl : 0 ≤ (z.v 18).toInt ∧ (z.v 18).toInt ≤ 1 := hI.1 18
  have ec := clampI bl.1
  refine ⟨sd, w, by omega, hw.2.1, hz, ⟨fun j hj => ?_, fun j hj => ?_⟩, FW.trans hw.1 (by decide)⟩
  · obtain ⟨u1, u2⟩ := hw.2.2.2.1 j hj
    obtain ⟨p1, p2⟩ := pf j hj
    rw [u1, u2, (FA.2 23 (by decide)).1, (FA.2 26 (by decide)).1, p1, p2, (F13.2 23 (by decide)).1, (F4.2 23 (by decide)).1, (G2.2 23 (by decide)).1, (F13.2 26 (by decide)).1, (F4.2 26 (by decide)).1, (G2.2 26 (by decide)).1]
    exact ⟨rfl, rfl⟩
  · obtain ⟨u1, u2⟩ := hw.2.2.2.2 j hj
    rw [u1, u2, (FA.2 24 (by decide)).1, (FA.2 25 (by decide)).1, (F15.2 24 (by decide)).1, (F15.2 25 (by decide)).1, (F13.2 24 (by decide)).1, (F4.2 24 (by decide)).1, (G2.2 24 (by decide)).1, (F13.2 25 (by decide)).1, (F4.2 25 (by decide)).1, (G2.2 25 (by decide)).1]
    exact ⟨rfl, rfl⟩
/-- the row as it begins -/
noncomputable def beg (i : Nat) : Int32 := if 5 ≤ i ∧ i < 10 then -2 else 0
theorem beg_six {z' : RS} : ∀ (n : Nat) (z : RS) (x : Int32) (j : Nat), x.toInt = (j : Int) → 1 ≤ j → j ≤ 6 → (∀ i, i < j → z.f 46 i = six6 i) → r_begins_46L n z x = some z' → FrR [45, 146] z z' ∧ (∀ i, i < 6 → z'.f 46 i = six6 i) ∧ z'.v 45 = z.f 26 (z.v 18).toNatClampNeg := by
  intro n
  induction n with
  | zero => intro z x j _ _ _ _ h; exact none_ne h
  | succ n ih =>
    intro z x j ex h1 hj hd h
    replace h : r_begins_46 (r_begins_46L n) z x = some z' := h
    unfold r_begins_46 at h
    by_cases c : 6 ≤ x
    · have c' := tn_le (a := 6) (by decide) rfl c
      have ej : j = 6 := by omega
      subst ej
      rw [if_pos c] at h
      replace h := guard_inv h
      obtain ⟨_, h⟩ := h
      replace h := letS_inv h
      obtain ⟨t, et, h⟩ := h
      cases h
      refine ⟨?_, fun i hi => ?_, ?_⟩
      · rw [← et]; exact FrR.rfl.sv (by decide)
      · rw [← et]; exact hd i hi
      · rw [← et]; rfl
    · have c' := tn_nle (a := 6) (by decide) rfl c
      rw [if_neg c] at h
      replace h := guard_inv h
      obtain ⟨_, h⟩ := h
      replace h := guard_inv h
      obtain ⟨_, h⟩ := h
      replace h := letS_inv h
      obtain ⟨t, et, h⟩ := h
      have em : (x - 1).toInt = ((j - 1 : Nat) : Int) := by
        rw [tn_sub ex (by decide : (1 : Int32).toInt = 1) (by omega) (by omega)]
        omega
      rw [clamp_of_int ex, clamp_of_int em] at et
      have ax : (x + 1).toInt = ((j + 1 : Nat) : Int) := by
        rw [tn_add ex (by decide : (1 : Int32).toInt = 1) (by omega) (by omega)]
        omega
      have g : ∀ i, t.f 46 i = if i = j then 6 * z.f 46 (j - 1) else z.f 46 i := fun i => by rw [← et]; exact rsf_at
      have G : FrR [45, 146] z t := by rw [← et]; exact FrR.rfl.sf (by decide)
      obtain ⟨q1, q2, q3⟩ := ih t (x + 1) (j + 1) ax (by omega) (by omega) (fun i hi => by
        rw [g i]
        by_cases e : i = j
        · rw [if_pos e, hd (j - 1) (by omega), e]
          obtain ⟨m, rfl⟩ : ∃ m, j = m + 1 := ⟨j - 1, by omega⟩
          show 6 * six6 m = six6 m * 6
          exact Int32.mul_comm _ _
        · rw [if_neg e]; exact hd i (by omega)) h
      exact ⟨G.trans q1 (fun _ x => x), q2, by rw [q3, (G.2 26 (by decide)).1, G.1 18 (by decide)]⟩
theorem begins_eq {z' : RS} : ∀ (n : Nat) (z : RS) (x : Int32) (j : Nat), x.toInt = (j : Int) → j ≤ 29 → (∀ i, i < j → z.f 44 i = beg i) → r_begins_2L n z x = some z' → FrR [45, 144, 146] z z' ∧ (∀ i, i < 29 → z'.f 44 i = beg i) ∧ (∀ i, i < 6 → z'.f 46 i = six6 i) ∧ z'.v 45 = z.f 26 (z.v 18).toNatClampNeg := by
  intro n
  induction n with
  | zero => intro z x j _ _ _ h; exact none_ne h
  | succ n ih =>
    intro z x j ex hj hd h
    replace h : r_begins_2 (r_begins_2L n) z x = some z' := h
    unfold r_begins_2 at h
    by_cases c : 29 ≤ x
    · have c' := tn_le (a := 29) (by decide) rfl c
      rw [if_pos c] at h
      replace h := letS_inv h
      obtain ⟨t, et, h⟩ := h
      have g : ∀ i, t.f 46 i = if i = 0 then 1 else z.f 46 i := fun i => by rw [← et]; exact rsf_at
      have G : FrR [45, 144, 146] z t := by rw [← et]; exact FrR.rfl.sf (by decide)
      obtain ⟨q1, q2, q3⟩ := beg_six fu t 1 1 (by decide) (by omega) (by omega) (fun i hi => by
        rw [g i, if_pos (by omega), show i = 0 by omega]
        rfl) h
      refine ⟨G.trans q1 (by decide), fun i hi => ?_, q2, by rw [q3, (G.2 26 (by decide)).1, G.1 18 (by decide)]⟩
      rw [(q1.2 44 (by decide)).1, ← et]
      exact hd i (by omega)
    · have c' := tn_nle (a := 29) (by decide) rfl c
      rw [if_neg c] at h
      have ax : (x + 1).toInt = ((j + 1 : Nat) : Int) := by
        rw [tn_add ex (by decide : (1 : Int32).toInt = 1) (by omega) (by omega)]
        omega
      have go : ∀ q : Int32, q = beg j → r_begins_30 (r_begins_2L n) z x q x = some z' → FrR [45, 144, 146] z z' ∧ (∀ i, i < 29 → z'.f 44 i = beg i) ∧ (∀ i, i < 6 → z'.f 46 i = six6 i) ∧ z'.v 45 = z.f 26 (z.v 18).toNatClampNeg := by
        intro q hq h
        unfold r_begins_30 at h
        replace h := guard_inv h
        obtain ⟨_, h⟩ := h
        replace h := letS_inv h
        obtain ⟨t, et, h⟩ := h
        rw [clamp_of_int ex] at et
        have g : ∀ i, t.f 44 i = if i = j then q else z.f 44 i := fun i => by rw [← et]; exact rsf_at
        have G : FrR [45, 144, 146] z t := by rw [← et]; exact FrR.rfl.sf (by decide)
        obtain ⟨q1, q2, q3, q4⟩ := ih t (x + 1) (j + 1) ax (by omega) (fun i hi => by
          rw [g i]
          by_cases e : i = j
          · rw [if_pos e, hq, e]
          · rw [if_neg e]; exact hd i (by omega)) h
        exact ⟨G.trans q1 (fun _ x => x), q2, q3, by rw [q4, (G.2 26 (by decide)).1, G.1 18 (by decide)]⟩
      by_cases c5 : x < 5
      · have c5' := tn_lt (b := 5) rfl (by decide) c5
        rw [if_pos c5] at h
        exact go 0 (by unfold beg; rw [if_neg (by omega)]) h
      · have c5' := tn_nlt (b := 5) rfl (by decide) c5
        rw [if_neg c5] at h
        by_cases c10 : 10 ≤ x
        · have c10' := tn_le (a := 10) (by decide) rfl c10
          rw [if_pos c10] at h
          exact go 0 (by unfold beg; rw [if_neg (by omega)]) h
        · have c10' := tn_nle (a := 10) (by decide) rfl c10
          rw [if_neg c10] at h
          exact go (-2) (by unfold beg; rw [if_pos (by omega)]) h
/-- the end of a reading: a fault, or all begins anew -/
theorem r129_end {u z' : RS} {r : Int32} (h : r_read_129 u = some (r, z')) : (¬ r = 0 ∧ FrR [17] u z') ∨ (r = 0 ∧ FrR [17, 18, 45, 48, 51, 143, 144, 146, 156] u z' ∧ z'.v 18 = u.v 19 ∧ z'.v 45 = u.f 26 (u.v 19).toNatClampNeg ∧ z'.v 48 = 0 ∧ (∀ i, i < 29 → z'.f 43 i = beg i) ∧ (∀ i, i < 6 → z'.f 46 i = six6 i)) := by
  have fin : ∀ t0 : Int32, r_read_159 u t0 = some (r, z') → (¬ r = 0 ∧ FrR [17] u z') ∨ (r = 0 ∧ FrR [17, 18, 45, 48, 51, 143, 144, 146, 156] u z' ∧ z'.v 18 = u.v 19 ∧ z'.v 45 = u.f 26 (u.v 19).toNatClampNeg ∧ z'.v 48 = 0 ∧ (∀ i, i < 29 → z'.f 43 i = beg i) ∧ (∀ i, i < 6 → z'.f 46 i = six6 i)) := by
    intro t0 h
    unfold r_read_159 at h
    replace h := letS_inv h
    obtain ⟨s1, e1, h⟩ := h
    have G1 : FrR [17] u s1 := by rw [← e1]; exact FrR.rfl.sv (by decide)
    by_cases c : s1.v 13 ≤ 0
    · rw [if_pos c] at h
      by_cases d : s1.v 15 ≤ 0
      · rw [if_pos d] at h
        replace h := letS_inv h
        obtain ⟨s5, e5, h⟩ := h
        replace h := bindP_inv h
        obtain ⟨s7, h7, h⟩ := h
        replace h := bindP_inv h
        obtain ⟨s8, h8, h⟩ := h
        replace h := letS_inv h
        obtain ⟨s9, e9, h⟩ := h
        replace h := letS_inv h
        obtain ⟨s11, e11, h⟩ := h
        unfold r_begins at h7
        unfold r_keepsRow at h8
        obtain ⟨b1, b2, b3, b4⟩ := begins_eq fu s5 0 0 (by decide) (by omega) (fun i hi => by omega) h7
        obtain ⟨k1, k2, _⟩ := keepsL fu s7 0 0 (by decide) (by omega) h8
        obtain ⟨o1, o2, _, _⟩ := held_off fu s11 0 (by decide) (by decide) (r, z') h
        have o1 : r = 0 := o1
        have o2 : FrR [156] s11 z' := o2
        have G5 : FrR [17, 18] u s5 := by rw [← e5]; exact (FrR.rfl.trans G1 (by decide)).sv (by decide)
        have G11 : FrR [48, 51] s8 s11 := by rw [← e11, ← e9]; exact (FrR.rfl.sv (k := 48) (by decide)).sv (k := 51) (by decide)
        have v19 : s1.v 19 = u.v 19 := G1.1 19 (by decide)
        have v18 : s5.v 18 = u.v 19 := by rw [← e5, ← v19]; rfl
        refine Or.inr ⟨o1, ((((FrR.rfl.trans G5 (by decide)).trans b1 (by decide)).trans k1 (by decide)).trans G11 (by decide)).trans o2 (by decide), ?_, ?_, ?_, fun i hi => ?_, fun i hi => ?_⟩
        · rw [o2.1 18 (by decide), G11.1 18 (by decide), k1.1 18 (by decide), b1.1 18 (by decide), v18]
        · rw [o2.1 45 (by decide), G11.1 45 (by decide), k1.1 45 (by decide), b4, v18, (G5.2 26 (by decide)).1]
        · rw [o2.1 48 (by decide), ← e11]
          show s9.v 48 = 0
          rw [← e9]
          rfl
        · rw [(o2.2 43 (by decide)).1, (G11.2 43 (by decide)).1, k2 i (by omega) hi]
          exact b2 i hi
        · rw [(o2.2 46 (by decide)).1, (G11.2 46 (by decide)).1, (k1.2 46 (by decide)).1]
          exact b3 i hi
      · rw [if_neg d] at h
        have e : r = s1.v 15 ∧ z' = s1 := by cases h; exact ⟨rfl, rfl⟩
        refine Or.inl ⟨fun q => d ?_, by rw [e.2]; exact G1⟩
        rw [← e.1, q]
        decide
    · rw [if_neg c] at h
      have e : r = s1.v 13 ∧ z' = s1 := by cases h; exact ⟨rfl, rfl⟩
      refine Or.inl ⟨fun q => c ?_, by rw [e.2]; exact G1⟩
      rw [← e.1, q]
      decide
  unfold r_read_129 at h
  by_cases c : u.v 13 ≤ 0
  · rw [if_pos c] at h
    by_cases d : u.v 15 ≤ 0
    · rw [if_pos d] at h; exact fin _ h
    · rw [if_neg d] at h; exact fin _ h
  · rw [if_neg c] at h; exact fin _ h
end
section
/-! ===== the class takes over what it has read ===== -/
theorem law_copy {s s' : KS} (h : kX1_copyFrom s = some s') : FrK [5, 109, 110, 111, 112] s s' ∧ (∀ i, i < 404 → s'.f 9 i = s.f 22 i) ∧ (∀ i, i < 52 → s'.f 10 i = s.f 23 i) ∧ (∀ i, i < 4 → s'.f 11 i = s.f 24 i ∧ s'.f 12 i = s.f 25 i) := by
  unfold kX1_copyFrom at h
  replace h := letS_inv h
  obtain ⟨b1, f1, h⟩ := h
  replace h := letS_inv h
  obtain ⟨b3, f3, h⟩ := h
  replace h := letS_inv h
  obtain ⟨b5, f5, h⟩ := h
  replace h := letS_inv h
  obtain ⟨b7, f7, h⟩ := h
  replace h := letS_inv h
  obtain ⟨b9, f9, h⟩ := h
  have e9 : s' = b9 := by cases h; rfl
  have K1 : FrK [5, 109, 110, 111, 112] s b1 := by rw [← f1]; exact FrK.rfl.sa (by decide)
  have K3 : FrK [5, 109, 110, 111, 112] s b3 := by rw [← f3]; exact K1.sa (by decide)
  have K5 : FrK [5, 109, 110, 111, 112] s b5 := by rw [← f5]; exact K3.sa (by decide)
  have K7 : FrK [5, 109, 110, 111, 112] s b7 := by rw [← f7]; exact K5.sa (by decide)
  have K9 : FrK [5, 109, 110, 111, 112] s b9 := by rw [← f9]; exact K7.sv (by decide)
  have a9 : b9.f 9 = va_cpy (s.f 22) (s.f 9) 0 0 404 := by
    rw [← f9, ← f7, ← f5, ← f3]
    show b1.f 9 = _
    rw [← f1]
    exact ksa_at
  have a10 : b9.f 10 = va_cpy (b1.f 23) (b1.f 10) 0 0 52 := by
    rw [← f9, ← f7, ← f5]
    show b3.f 10 = _
    rw [← f3]
    exact ksa_at
  have a11 : b9.f 11 = va_cpy (b3.f 24) (b3.f 11) 0 0 4 := by
    rw [← f9, ← f7]
    show b5.f 11 = _
    rw [← f5]
    exact ksa_at
  have a12 : b9.f 12 = va_cpy (b5.f 25) (b5.f 12) 0 0 4 := by
    rw [← f9]
    show b7.f 12 = _
    rw [← f7]
    exact ksa_at
  rw [e9]
  refine ⟨K9, fun i hi => ?_, fun i hi => ?_, fun i hi => ⟨?_, ?_⟩⟩
  · rw [a9, cpy_lt hi]
  · rw [a10, cpy_lt hi, (K1.2 23 (by decide)).1]
  · rw [a11, cpy_lt hi, (K3.2 24 (by decide)).1]
  · rw [a12, cpy_lt hi, (K5.2 25 (by decide)).1]
noncomputable def CPY (s s' : KS) : Prop := (s'.v 1 = s.v 8 ∧ s'.v 2 = s.v 9 ∧ s'.v 3 = s.v 10 ∧ s'.v 4 = s.v 11) ∧ (∀ j, j < 30 → s'.f 3 j = s.f 16 j) ∧ (∀ w, w < 5 → s'.f 4 w = s.f 17 w ∧ s'.f 5 w = s.f 18 w) ∧ (∀ p, p < 6 → s'.f 6 p = s.f 19 p ∧ s'.f 7 p = s.f 20 p) ∧ (∀ i, i < 404 → s'.f 9 i = s.f 22 i) ∧ (∀ i, i < 52 → s'.f 10 i = s.f 23 i) ∧ (∀ i, i < 4 → s'.f 11 i = s.f 24 i ∧ s'.f 12 i = s.f 25 i)
theorem copy_all {s s' : KS} (h : kX5_copyFrom s = some s') : CPY s s' := by
  unfold kX5_copyFrom at h
  replace h := letS_inv h
  obtain ⟨a1, d1, h⟩ := h
  replace h := letS_inv h
  obtain ⟨a3, d3, h⟩ := h
  replace h := letS_inv h
  obtain ⟨a5, d5, h⟩ := h
  replace h := letS_inv h
  obtain ⟨a7, d7, h⟩ := h
  replace h := letS_inv h
  obtain ⟨a9, d9, h⟩ := h
  replace h := bindP_inv h
  obtain ⟨a11, h11, h⟩ := h
  replace h := letS_inv h
  obtain ⟨a12, d12, h⟩ := h
  replace h := letS_inv h
  obtain ⟨a14, d14, h⟩ := h
  replace h := letS_inv h
  obtain ⟨a16, d16, h⟩ := h
  replace h := letS_inv h
  obtain ⟨a18, d18, h⟩ := h
  have e18 : s' = a18 := by cases h; rfl
  have K1 : FrK [103, 104, 105, 106, 107] s a1 := by rw [← d1]; exact FrK.rfl.sa (by decide)
  have K3 : FrK [103, 104, 105, 106, 107] s a3 := by rw [← d3]; exact K1.sa (by decide)
  have K5 : FrK [103, 104, 105, 106, 107] s a5 := by rw [← d5]; exact K3.sa (by decide)
  have K7 : FrK [103, 104, 105, 106, 107] s a7 := by rw [← d7]; exact K5.sa (by decide)
  have K9 : FrK [103, 104, 105, 106, 107] s a9 := by rw [← d9]; exact K7.sa (by decide)
  obtain ⟨L, l9, l10, l11⟩ := law_copy h11
  have f3 : a9.f 3 = va_cpy (s.f 16) (s.f 3) 0 0 30 := by
    rw [← d9, ← d7, ← d5, ← d3]
    show a1.f 3 = _
    rw [← d1]
    exact ksa_at
  have f4 : a9.f 4 = va_cpy (a1.f 17) (a1.f 4) 0 0 5 := by
    rw [← d9, ← d7, ← d5]
    show a3.f 4 = _
    rw [← d3]
    exact ksa_at
  have f5 : a9.f 5 = va_cpy (a3.f 18) (a3.f 5) 0 0 5 := by
    rw [← d9, ← d7]
    show a5.f 5 = _
    rw [← d5]
    exact ksa_at
  have f6 : a9.f 6 = va_cpy (a5.f 19) (a5.f 6) 0 0 6 := by
    rw [← d9]
    show a7.f 6 = _
    rw [← d7]
    exact ksa_at
  have f7 : a9.f 7 = va_cpy (a7.f 20) (a7.f 7) 0 0 6 := by
    rw [← d9]
    exact ksa_at
  have K12 : FrK [1, 2, 3, 4] a11 a12 := by rw [← d12]; exact FrK.rfl.sv (by decide)
  have K14 : FrK [1, 2, 3, 4] a11 a14 := by rw [← d14]; exact K12.sv (by decide)
  have K16 : FrK [1, 2, 3, 4] a11 a16 := by rw [← d16]; exact K14.sv (by decide)
  have K18 : FrK [1, 2, 3, 4] a11 a18 := by rw [← d18]; exact K16.sv (by decide)
  have v1 : a18.v 1 = a11.v 8 := by
    rw [← d18, ← d16, ← d14]
    show a12.v 1 = _
    rw [← d12]
    rfl
  have v2 : a18.v 2 = a12.v 9 := by
    rw [← d18, ← d16]
    show a14.v 2 = _
    rw [← d14]
    rfl
  have v3 : a18.v 3 = a14.v 10 := by
    rw [← d18]
    show a16.v 3 = _
    rw [← d16]
    rfl
  have v4 : a18.v 4 = a16.v 11 := by
    rw [← d18]
    rfl
  rw [e18]
  refine ⟨⟨?_, ?_, ?_, ?_⟩, fun j hj => ?_, fun w hw => ⟨?_, ?_⟩, fun p hp => ⟨?_, ?_⟩, fun i hi => ?_, fun i hi => ?_, fun i hi => ⟨?_, ?_⟩⟩
  · rw [v1, L.1 8 (by decide), K9.1 8 (by decide)]
  · rw [v2, K12.1 9 (by decide), L.1 9 (by decide), K9.1 9 (by decide)]
  · rw [v3, K14.1 10 (by decide), L.1 10 (by decide), K9.1 10 (by decide)]
  · rw [v4, K16.1 11 (by decide), L.1 11 (by decide), K9.1 11 (by decide)]
  · rw [(K18.2 3 (by decide)).1, (L.2 3 (by decide)).1, f3, cpy_lt hj]
  · rw [(K18.2 4 (by decide)).1, (L.2 4 (by decide)).1, f4, cpy_lt hw, (K1.2 17 (by decide)).1]
  · rw [(K18.2 5 (by decide)).1, (L.2 5 (by decide)).1, f5, cpy_lt hw, (K3.2 18 (by decide)).1]
  · rw [(K18.2 6 (by decide)).1, (L.2 6 (by decide)).1, f6, cpy_lt hp, (K5.2 19 (by decide)).1]
  · rw [(K18.2 7 (by decide)).1, (L.2 7 (by decide)).1, f7, cpy_lt hp, (K7.2 20 (by decide)).1]
  · rw [(K18.2 9 (by decide)).1, l9 i hi, (K9.2 22 (by decide)).1]
  · rw [(K18.2 10 (by decide)).1, l10 i hi, (K9.2 23 (by decide)).1]
  · rw [(K18.2 11 (by decide)).1, (l11 i hi).1, (K9.2 24 (by decide)).1]
  · rw [(K18.2 12 (by decide)).1, (l11 i hi).2, (K9.2 25 (by decide)).1]
theorem fill5 {x1 : Int32} {s' : Nat → Int32} : ∀ (n : Nat) (s : Nat → Int32) (x2 : Int32) (j : Nat), x2.toInt = (j : Int) → j ≤ 5 → kJ7_fill_53178_5_5L n s x1 x2 5 = some s' → (∀ i, j ≤ i → i < 5 → s' i = x1) ∧ (∀ i, (i < j ∨ 5 ≤ i) → s' i = s i) := by
  intro n
  induction n with
  | zero => intro s x2 j _ _ h; exact none_ne h
  | succ n ih =>
    intro s x2 j h2 hj h
    replace h : kJ7_fill_53178_5_5 (kJ7_fill_53178_5_5L n) s x1 x2 5 = some s' := h
    unfold kJ7_fill_53178_5_5 at h
    by_cases c : 5 ≤ x2
    · have c' := tn_le (a := 5) (by decide) rfl c
      rw [if_pos c] at h
      cases h
      exact ⟨fun i h1 h2 => by omega, fun i _ => rfl⟩
    · have c' := tn_nle (a := 5) (by decide) rfl c
      rw [if_neg c] at h
      replace h := guard_inv h
      obtain ⟨_, h⟩ := h
      replace h := letS_inv h
      obtain ⟨s3, d3, h⟩ := h
      rw [clamp_of_int h2] at d3
      have a2 : (x2 + 1).toInt = ((j + 1 : Nat) : Int) := by
        rw [tn_add h2 (by decide : (1 : Int32).toInt = 1) (by omega) (by omega)]
        omega
      obtain ⟨q1, q2⟩ := ih s3 (x2 + 1) (j + 1) a2 (by omega) h
      refine ⟨fun i h1 h2 => ?_, fun i hi => ?_⟩
      · by_cases e : i = j
        · rw [q2 i (by omega), ← d3, e]
          exact upd_same
        · exact q1 i (by omega) h2
      · rw [q2 i (by omega), ← d3]
        exact upd_ne (by omega)
theorem fill6 {x1 : Int32} {s' : Nat → Int32} : ∀ (n : Nat) (s : Nat → Int32) (x2 : Int32) (j : Nat), x2.toInt = (j : Int) → j ≤ 6 → kJ7_fill_53178_6_5L n s x1 x2 6 = some s' → (∀ i, j ≤ i → i < 6 → s' i = x1) ∧ (∀ i, (i < j ∨ 6 ≤ i) → s' i = s i) := by
  intro n
  induction n with
  | zero => intro s x2 j _ _ h; exact none_ne h
  | succ n ih =>
    intro s x2 j h2 hj h
    replace h : kJ7_fill_53178_6_5 (kJ7_fill_53178_6_5L n) s x1 x2 6 = some s' := h
    unfold kJ7_fill_53178_6_5 at h
    by_cases c : 6 ≤ x2
    · have c' := tn_le (a := 6) (by decide) rfl c
      rw [if_pos c] at h
      cases h
      exact ⟨fun i h1 h2 => by omega, fun i _ => rfl⟩
    · have c' := tn_nle (a := 6) (by decide) rfl c
      rw [if_neg c] at h
      replace h := guard_inv h
      obtain ⟨_, h⟩ := h
      replace h := letS_inv h
      obtain ⟨s3, d3, h⟩ := h
      rw [clamp_of_int h2] at d3
      have a2 : (x2 + 1).toInt = ((j + 1 : Nat) : Int) := by
        rw [tn_add h2 (by decide : (1 : Int32).toInt = 1) (by omega) (by omega)]
        omega
      obtain ⟨q1, q2⟩ := ih s3 (x2 + 1) (j + 1) a2 (by omega) h
      refine ⟨fun i h1 h2 => ?_, fun i hi => ?_⟩
      · by_cases e : i = j
        · rw [q2 i (by omega), ← d3, e]
          exact upd_same
        · exact q1 i (by omega) h2
      · rw [q2 i (by omega), ← d3]
        exact upd_ne (by omega)
/-- a standing as it begins -/
noncomputable def OVR (d : SD) : Prop := (∀ w, w < 5 → d.f 0 w = -1 ∧ d.f 1 w = 0 ∧ d.f 2 w = 0) ∧ (∀ p, p < 6 → d.f 3 p = 0 ∧ d.f 4 p = 0) ∧ d.v 5 = 0 ∧ d.v 6 = 0
theorem over_eq {s s' : SD} (h : kX6_startOver s = some s') : OVR s' := by
  unfold kX6_startOver at h
  replace h := bindP_inv h
  obtain ⟨s1, h1, h⟩ := h
  replace h := letS_inv h
  obtain ⟨s2, e2, h⟩ := h
  replace h := bindP_inv h
  obtain ⟨s4, h4, h⟩ := h
  replace h := letS_inv h
  obtain ⟨s5, e5, h⟩ := h
  replace h := bindP_inv h
  obtain ⟨s7, h7, h⟩ := h
  replace h := letS_inv h
  obtain ⟨s8, e8, h⟩ := h
  replace h := bindP_inv h
  obtain ⟨s10, h10, h⟩ := h
  replace h := letS_inv h
  obtain ⟨s11, e11, h⟩ := h
  replace h := bindP_inv h
  obtain ⟨s13, h13, h⟩ := h
  replace h := letS_inv h
  obtain ⟨s14, e14, h⟩ := h
  replace h := letS_inv h
  obtain ⟨s16, e16, h⟩ := h
  replace h := letS_inv h
  obtain ⟨s18, e18, h⟩ := h
  have es : s' = s18 := by cases h; rfl
  unfold kJ7_fill_53178_5 at h1 h4 h7
  unfold kJ7_fill_53178_6 at h10 h13
  obtain ⟨q1, _⟩ := fill5 fu _ 0 0 (by decide) (by omega) h1
  obtain ⟨q4, _⟩ := fill5 fu _ 0 0 (by decide) (by omega) h4
  obtain ⟨q7, _⟩ := fill5 fu _ 0 0 (by decide) (by omega) h7
  obtain ⟨q10, _⟩ := fill6 fu _ 0 0 (by decide) (by omega) h10
  obtain ⟨q13, _⟩ := fill6 fu _ 0 0 (by decide) (by omega) h13
  have f0 : s18.f 0 = s1 := by
    rw [← e18, ← e16, ← e14, ← e11, ← e8, ← e5]
    show s2.f 0 = _
    rw [← e2]
    exact sda_at
  have f1 : s18.f 1 = s4 := by
    rw [← e18, ← e16, ← e14, ← e11, ← e8]
    show s5.f 1 = _
    rw [← e5]
    exact sda_at
  have f2 : s18.f 2 = s7 := by
    rw [← e18, ← e16, ← e14, ← e11]
    show s8.f 2 = _
    rw [← e8]
    exact sda_at
  have f3 : s18.f 3 = s10 := by
    rw [← e18, ← e16, ← e14]
    show s11.f 3 = _
    rw [← e11]
    exact sda_at
  have f4 : s18.f 4 = s13 := by
    rw [← e18, ← e16]
    show s14.f 4 = _
    rw [← e14]
    exact sda_at
  rw [es]
  refine ⟨fun w hw => ?_, fun p hp => ?_, ?_, ?_⟩
  · rw [f0, f1, f2, q1 w (by omega) hw, q4 w (by omega) hw, q7 w (by omega) hw]
    exact ⟨rfl, rfl, rfl⟩
  · rw [f3, f4, q10 p (by omega) hp, q13 p (by omega) hp]
    exact ⟨rfl, rfl⟩
  · rw [← e18]
    show s16.v 5 = 0
    rw [← e16]
    rfl
  · rw [← e18]
    rfl
theorem OVR.sr {d : SD} {f : Nat → Int32} (h : OVR d) (hf : ∀ i, i < 29 → f i = beg i) : SR d f := by
  obtain ⟨a, b, c, e⟩ := h
  have g : ∀ i, i < 29 → ¬ (5 ≤ i ∧ i < 10) → f i = 0 := fun i hi n => by
    rw [hf i hi]
    unfold beg
    rw [if_neg n]
  refine ⟨fun w hw => ?_, fun p hp => ?_, ?_, ?_⟩
  · obtain ⟨a1, a2, a3⟩ := a w hw
    have e5 : f (5 + w) = -2 := by
      rw [hf (5 + w) (by omega)]
      unfold beg
      rw [if_pos (by omega)]
    rw [a1, a2, a3, e5, g w (by omega) (by omega), g (10 + w) (by omega) (by omega)]
    exact ⟨Or.inl ⟨rfl, rfl⟩, rfl, by decide, rfl⟩
  · obtain ⟨b1, b2⟩ := b p hp
    rw [b1, b2, g (15 + p) (by omega) (by omega), g (21 + p) (by omega) (by omega)]
    exact ⟨rfl, rfl⟩
  · rw [c, g 27 (by omega) (by omega)]
  · rw [e, g 28 (by omega) (by omega)]
theorem OVR.fo {d : SD} {k : KS} (h : OVR d) (hK : InvK k) : FO k d := by
  have bw : 0 ≤ (k.v 1).toInt ∧ (k.v 1).toInt ≤ 5 := hK.1 1
  intro w v hw hv
  rw [(h.1 w (by omega)).1] at hv
  have m1 : (-1 : Int32).toInt = -1 := by decide
  rw [m1] at hv
  omega
theorem forgetL {g' : GS} : ∀ (n : Nat) (g : GS) (x : Int32) (j : Nat), x.toInt = (j : Int) → j ≤ 3 → kX3_forgetAll_7L n g x = some g' → g'.v = g.v ∧ (∀ i, j ≤ i → i < 3 → g'.f 4 i = 0) ∧ (∀ i, i < j → g'.f 4 i = g.f 4 i) := by
  intro n
  induction n with
  | zero => intro g x j _ _ h; exact none_ne h
  | succ n ih =>
    intro g x j ex hj h
    replace h : kX3_forgetAll_7 (kX3_forgetAll_7L n) g x = some g' := h
    unfold kX3_forgetAll_7 at h
    by_cases c : 3 ≤ x
    · have c' := tn_le (a := 3) (by decide) rfl c
      rw [if_pos c] at h
      cases h
      exact ⟨rfl, fun i h1 h2 => by omega, fun i _ => rfl⟩
    · have c' := tn_nle (a := 3) (by decide) rfl c
      rw [if_neg c] at h
      replace h := guard_inv h
      obtain ⟨_, h⟩ := h
      replace h := letS_inv h
      obtain ⟨t, et, h⟩ := h
      rw [clamp_of_int ex] at et
      have ax : (x + 1).toInt = ((j + 1 : Nat) : Int) := by
        rw [tn_add ex (by decide : (1 : Int32).toInt = 1) (by omega) (by omega)]
        omega
      have gt : ∀ i, t.f 4 i = if i = j then vp_nar .boolean 0 else g.f 4 i := fun i => by rw [← et]; exact gsf_at
      have vt : t.v = g.v := by rw [← et]; rfl
      obtain ⟨q1, q2, q3⟩ := ih t (x + 1) (j + 1) ax (by omega) h
      refine ⟨q1.trans vt, fun i h1 h2 => ?_, fun i hi => ?_⟩
      · by_cases e : i = j
        · rw [q3 i (by omega), gt i, if_pos e]
          exact nar0
        · exact q2 i (by omega) h2
      · rw [q3 i (by omega), gt i, if_neg (by omega)]
theorem forgot_eq {g g' : GS} (h : kX3_forgetAll g = some g') : g'.v 4 = 0 ∧ g'.v 3 = g.v 3 ∧ ∀ i, i < 3 → g'.f 4 i = 0 := by
  unfold kX3_forgetAll at h
  replace h := letS_inv h
  obtain ⟨t, et, h⟩ := h
  obtain ⟨q1, q2, _⟩ := forgetL fu t 0 0 (by decide) (by omega) h
  refine ⟨?_, ?_, fun i hi => q2 i (by omega) hi⟩
  · rw [q1, ← et]; rfl
  · rw [q1, ← et]; rfl
theorem lks_cg {f g : Nat → Int32} {a b : Nat} : ∀ j, (∀ v, v < j → f (a + v) = g (b + v)) → lks f a j = lks g b j := by
  intro j
  induction j with
  | zero => intro _; rfl
  | succ j ih =>
    intro h
    show lks f a j ||| lkv (f (a + j)) (Int32.ofNat j) = lks g b j ||| lkv (g (b + j)) (Int32.ofNat j)
    rw [h j (by omega), ih (fun v hv => h v (by omega))]
end
section
/-! ===== a text is read, both sides ===== -/
theorem read_rel {y y' : XS} {rr : Nat → SD} {z z' : RS} {r1 r2 : Int32} (hK : InvK y.k) (hI : InvR z) (hG : InvG y.g) (hT : TPk y.k z) (h : REL (YS.mk y rr) z) (h1 : kX10_read y = some (r1, y')) (h2 : r_read z = some (r2, z')) : REL (YS.mk y' rr) z' := by
  unfold kX10_read at h1
  replace h1 := bindI_inv h1
  obtain ⟨q2, s1, f1, h1⟩ := h1
  replace h1 := letS_inv h1
  obtain ⟨s3, d3, h1⟩ := h1
  replace h1 := letS_inv h1
  obtain ⟨s5, d5, h1⟩ := h1
  obtain ⟨⟨u1, w1⟩, e1, p1⟩ := ok_kX4_readTape y.k hK
  rw [f1] at e1
  cases e1
  have I1 : InvK s1 := p1.1
  have F1 : FrK [8, 9, 10, 11, 12, 13, 15, 16, 17, 18, 19, 20, 116, 117, 118, 119, 120, 122, 123, 124, 125, 129, 132, 133, 134] y.k s1 := p1.2.1
  obtain ⟨er, _, _, hr⟩ := read_tape hK hI hT.1.1 hT.1.2.2 hT.2.1 f1 h2
  obtain ⟨sd, u, e18, u19, h129, FR, FW⟩ := read_far hI h2
  have hend := r129_end h129
  have k5 : s5.k = s1.sv 0 0 := by rw [← d5, ← d3]; rfl
  have n5 : s5.n = y.n := by rw [← d5, ← d3]; rfl
  have g5 : s5.g = y.g := by rw [← d5, ← d3]; rfl
  have I5 : InvK s5.k := by
    rw [k5]
    exact I1.sv (k := 0) (show (0 : Int) ≤ (0 : Int32).toInt by decide) (show (0 : Int32).toInt ≤ (2000 : Int) by decide)
  have hz0 : (0 : Int32).toInt = 0 := by decide
  obtain ⟨hS, ⟨hN, hF⟩, hH, hL, hTe⟩ := h
  by_cases c : q2 = 0
  · rw [if_pos c] at h1
    replace h1 := bindP_inv h1
    obtain ⟨s8, h8, h1⟩ := h1
    obtain ⟨w8, e8, p8⟩ := ok_kX5_copyFrom s5.k I5
    rw [h8] at e8
    cases e8
    replace h1 := letS_inv h1
    obtain ⟨s9, e9, h1⟩ := h1
    replace h1 := bindP_inv h1
    obtain ⟨s11, h11, h1⟩ := h1
    replace h1 := letS_inv h1
    obtain ⟨s12, e12, h1⟩ := h1
    replace h1 := bindP_inv h1
    obtain ⟨s14, h14, h1⟩ := h1
    replace h1 := letS_inv h1
    obtain ⟨s15, e15, h1⟩ := h1
    replace h1 := letS_inv h1
    obtain ⟨s17, e17, h1⟩ := h1
    have kk : s17.k = s8.sv 21 0 := by rw [← e17, ← e15, ← e12, ← e9]; rfl
    have nn : s17.n = s11 := by rw [← e17, ← e15, ← e12]; rfl
    have gg : s17.g = s14 := by rw [← e17, ← e15]; rfl
    have ey : y' = s17 := by cases h1; rfl
    have n9 : s12.g = y.g := by rw [← e12, ← e9]; exact g5
    rw [n9] at h14
    rcases hr with ⟨_, g8, g51, g56, g9, gCT, gLF⟩ | ⟨n0, _⟩
    · rcases hend with ⟨b0, _⟩ | ⟨_, Gz, e18z, _, e48, e43, e46⟩
      · exact absurd (er.symm.trans c) b0
      have C := copy_all h8
      have A : ADD s1 := by
        have f1 := f1
        rw [c] at f1
        exact read_add I1 f1
      have b8 : 0 ≤ (s1.v 8).toInt ∧ (s1.v 8).toInt ≤ 5 := I1.1 8
      have b9 : 0 ≤ (s1.v 9).toInt ∧ (s1.v 9).toInt ≤ 6 := I1.1 9
      have O := over_eq h11
      have G := forgot_eq h14
      obtain ⟨⟨c1, c2, c3, c4⟩, cf3, cf4, cf6, cf9, cf10, cf11⟩ := C
      rw [k5] at c1 c2 c3 c4
      have c1 : s8.v 1 = s1.v 8 := c1
      have c2 : s8.v 2 = s1.v 9 := c2
      have c3 : s8.v 3 = s1.v 10 := c3
      have c4 : s8.v 4 = s1.v 11 := c4
      have q3 : ∀ j, j < 30 → s8.f 3 j = s1.f 16 j := fun j hj => by rw [cf3 j hj, k5]; rfl
      have q4 : ∀ w, w < 5 → s8.f 4 w = s1.f 17 w ∧ s8.f 5 w = s1.f 18 w := fun w hw => by rw [(cf4 w hw).1, (cf4 w hw).2, k5]; exact ⟨rfl, rfl⟩
      have q6 : ∀ p, p < 6 → s8.f 6 p = s1.f 19 p ∧ s8.f 7 p = s1.f 20 p := fun p hp => by rw [(cf6 p hp).1, (cf6 p hp).2, k5]; exact ⟨rfl, rfl⟩
      have q9 : ∀ i, i < 404 → s8.f 9 i = s1.f 22 i := fun i hi => by rw [cf9 i hi, k5]; rfl
      have q10 : ∀ i, i < 52 → s8.f 10 i = s1.f 23 i := fun i hi => by rw [cf10 i hi, k5]; rfl
      have q11 : ∀ i, i < 4 → s8.f 11 i = s1.f 24 i ∧ s8.f 12 i = s1.f 25 i := fun i hi => by rw [(cf11 i hi).1, (cf11 i hi).2, k5]; exact ⟨rfl, rfl⟩
      have I17 : InvK s17.k := by
        rw [kk]
        exact p8.1.sv (k := 21) (show (0 : Int) ≤ (0 : Int32).toInt by decide) (show (0 : Int32).toInt ≤ (20 : Int) by decide)
      rw [ey]
      refine ⟨?_, ⟨?_, ?_⟩, ?_, ?_, ?_⟩
      · show SO s17.k z'
        rw [kk]
        refine ⟨⟨?_, ?_, ?_, ?_⟩, e46, fun j hj => ?_, fun p hp => ?_, fun w hw => ?_, fun cl hcl => ?_⟩
        · exact c1.trans g8
        · exact c2.trans g9
        · exact c4.trans gCT.2.2.1
        · show s8.v 3 = six6 (s8.v 1).toNatClampNeg
          rw [c3, c1]
          exact A.1
        · have hj : (j : Int) < 6 * (s8.v 1).toInt := hj
          rw [c1] at hj
          show s8.f 3 j = _
          rw [q3 j (by omega)]
          exact gCT.1 j hj
        · have hp : (p : Int) < (s8.v 2).toInt := hp
          rw [c2] at hp
          show s8.f 6 p = _ ∧ s8.f 7 p = _
          rw [(q6 p (by omega)).1, (q6 p (by omega)).2]
          exact gCT.2.1 p hp
        · have hw : (w : Int) < (s8.v 1).toInt := hw
          rw [c1] at hw
          show s8.f 4 w = sms (s8.f 3) (6 * w) 6 ∧ s8.f 5 w = lks (s8.f 3) (6 * w) 6
          rw [(q4 w (by omega)).1, (q4 w (by omega)).2, (A.2 w hw).1, (A.2 w hw).2]
          exact ⟨(sms_cg 6 (fun v hv => q3 _ (by omega))).symm, (lks_cg 6 (fun v hv => q3 _ (by omega))).symm⟩
        · exact (gLF cl hcl).keep (fun i hi => q9 i (by omega)) (fun i _ hi => q10 i (by omega)) (q11 cl hcl).1 (q11 cl hcl).2 (fun _ _ _ => rfl) (fun _ _ _ => ⟨rfl, rfl, rfl, rfl, rfl⟩) rfl rfl (Int.le_refl _) (Int.le_refl _) (Nat.le_refl _)
      · show SR s17.n (z'.f 43)
        rw [nn]
        exact O.sr e43
      · show FO s17.k s17.n
        rw [nn]
        exact O.fo I17
      · show HIS (YS.mk s17 rr) z'
        have bg : 0 ≤ (y.g.v 3).toInt ∧ (y.g.v 3).toInt ≤ 39 := hG.1 3
        refine ⟨?_, ?_, fun i hi => ?_⟩
        · show s17.g.v 4 = z'.v 48
          rw [gg, G.1, e48]
        · show 0 ≤ (s17.g.v 3).toInt ∧ (s17.g.v 3).toInt ≤ 39
          rw [gg, G.2.1]
          exact bg
        · rw [e48, hz0] at hi
          omega
      · show SLT (YS.mk s17 rr) z'
        intro s hs
        refine ⟨?_, fun n0 => absurd (g56 s hs) n0⟩
        show s17.g.f 4 s = z'.f 56 s
        rw [gg, G.2.2 s hs, g56 s hs]
      · show TEL s17.k z'
        intro i hi
        rw [kk] at hi
        have hi : (i : Int) < (0 : Int32).toInt := hi
        rw [hz0] at hi
        omega
    · exact absurd c n0
  · rw [if_neg c] at h1
    have ey : y' = s5 := by cases h1; rfl
    rcases hr with ⟨n0, _⟩ | ⟨_, g18, g20, _, g56, g21, sd2, hl2, far⟩
    · exact absurd n0 c
    rcases hend with ⟨_, Gz⟩ | ⟨r0, _⟩
    · have FZ : FrR (17 :: WFT) z z' := (FrR.rfl.trans FW (by decide)).trans Gz (by decide)
      have K5 : FrK [0, 8, 9, 10, 11, 12, 13, 15, 16, 17, 18, 19, 20, 116, 117, 118, 119, 120, 122, 123, 124, 125, 129, 132, 133, 134] y.k s5.k := by
        rw [k5]
        exact (FrK.rfl.trans F1 (by decide)).sv (by decide)
      have bl : 0 ≤ (z.v 18).toInt ∧ (z.v 18).toInt ≤ 1 := hI.1 18
      have bw : 0 ≤ (y.k.v 1).toInt ∧ (y.k.v 1).toInt ≤ 5 := hK.1 1
      have bp : 0 ≤ (y.k.v 2).toInt ∧ (y.k.v 2).toInt ≤ 6 := hK.1 2
      obtain ⟨⟨a1, a2, a3, a4⟩, a5, a6, a7, a8, a9⟩ := hS
      have a1 : y.k.v 1 = z.f 20 (z.v 18).toNatClampNeg := a1
      have a2 : y.k.v 2 = z.f 23 (z.v 18).toNatClampNeg := a2
      have a3 : y.k.v 4 = z.f 26 (z.v 18).toNatClampNeg := a3
      have a4 : y.k.v 3 = six6 (y.k.v 1).toNatClampNeg := a4
      have a9 : LAWF (z.v 18).toNatClampNeg (y.k.f 9) (y.k.f 10) (y.k.f 11) (y.k.f 12) z := a9
      have fo : ∀ d, FO y.k d → FO s5.k d := fun d hd => hd.fr K5 (by decide)
      have z23 := FR.1 (z.v 18).toNatClampNeg (by omega)
      have x23 : z'.f 23 (z.v 18).toNatClampNeg = z.f 23 (z.v 18).toNatClampNeg ∧ z'.f 26 (z.v 18).toNatClampNeg = z.f 26 (z.v 18).toNatClampNeg := by
        rw [(Gz.2 23 (by decide)).1, (Gz.2 26 (by decide)).1]
        exact z23
      rw [ey]
      refine ⟨?_, ⟨?_, ?_⟩, ?_, ?_, ?_⟩
      · show SO s5.k z'
        unfold SO OD7
        rw [K5.1 1 (by decide), K5.1 2 (by decide), K5.1 3 (by decide), K5.1 4 (by decide), (K5.2 3 (by decide)).1, (K5.2 4 (by decide)).1, (K5.2 5 (by decide)).1, (K5.2 6 (by decide)).1, (K5.2 7 (by decide)).1, (K5.2 9 (by decide)).1, (K5.2 10 (by decide)).1, (K5.2 11 (by decide)).1, (K5.2 12 (by decide)).1, g18]
        refine ⟨⟨?_, ?_, ?_, a4⟩, fun j hj => ?_, fun j hj => ?_, fun p hp => ?_, a8, ?_⟩
        · rw [g20]; exact a1
        · rw [x23.1]; exact a2
        · rw [x23.2]; exact a3
        · rw [(FZ.2 46 (by decide)).1]; exact a5 j hj
        · rw [g21 j (by omega)]
          exact a6 j hj
        · have w := FR.2 (6 * (z.v 18).toNatClampNeg + p) (by omega)
          rw [(Gz.2 24 (by decide)).1, (Gz.2 25 (by decide)).1, w.1, w.2]
          exact a7 p hp
        · exact a9.far hl2 far
      · show SR s5.n (z'.f 43)
        rw [n5, (FZ.2 43 (by decide)).1]
        exact hN
      · show FO s5.k s5.n
        rw [n5]
        exact fo _ hF
      · show HIS (YS.mk s5 rr) z'
        have hH2 : HIS (YS.mk y rr) z' := by
          unfold HIS
          rw [FZ.1 48 (by decide), (FZ.2 49 (by decide)).1]
          exact hH
        exact hH2.on g5 fo
      · show SLT (YS.mk s5 rr) z'
        have hL2 : SLT (YS.mk y rr) z' := by
          unfold SLT
          rw [(FZ.2 56 (by decide)).1, (FZ.2 57 (by decide)).1]
          exact hL
        exact hL2.on g5 fo
      · show TEL s5.k z'
        exact TEL.fr hTe K5 FZ (by decide) (by decide)
    · exact absurd (er.trans r0) c
/-- what is told -/
theorem nar_bool : vp_nar .boolean 1 = 1 := by decide
theorem TEL.put {k k' : KS} {z z' : RS} {i : Nat} {xw xt xs xb : Int32} (h : TEL k z) (hi : (k.v 21).toInt = (i : Int)) (hi20 : i < 20) (h21 : (k'.v 21).toInt = ((i + 1 : Nat) : Int)) (e1 : k'.v 1 = k.v 1) (f42 : ∀ j, k'.f 42 j = if j = i then xw else k.f 42 j) (f43 : ∀ j, k'.f 43 j = if j = i then xs else k.f 43 j) (g52 : ∀ j, z'.f 52 j = if j = i then xw else z.f 52 j) (g53 : ∀ j, z'.f 53 j = if j = i then xt else z.f 53 j) (g54 : ∀ j, z'.f 54 j = if j = i then xb else z.f 54 j) (hw : 0 ≤ xw.toInt ∧ xw.toInt < (k.v 1).toInt) (ht : 1 ≤ xt.toInt ∧ xt.toInt ≤ 63) (hb : (xb = 1 ∧ xs = xt) ∨ (xb = 0 ∧ xs = 63 &&& (xt ^^^ (-1)))) : TEL k' z' := by
  intro j hj
  rw [h21] at hj
  rw [f42 j, f43 j, g52 j, g53 j, g54 j, e1]
  by_cases e : j = i
  · rw [if_pos e, if_pos e, if_pos e, if_pos e, if_pos e]
    exact ⟨rfl, hw.1, hw.2, ht, hb⟩
  · rw [if_neg e, if_neg e, if_neg e, if_neg e, if_neg e]
    exact h j (by omega)
theorem tell_tel {y y' : XS} {z z' : RS} {x1 x2 x3 r1 r2 : Int32} (hK : InvK y.k) (hR : InvR z) (h : TPk y.k z) (hTe : TEL y.k z) (hb : x3 = 0 ∨ x3 = 1) (h1 : kX10_tell y x1 x2 x3 = some (r1, y')) (h2 : r_tell z x1 x2 x3 = some (r2, z')) : TEL y'.k z' := by
  have bt : 0 ≤ (y.k.v 21).toInt ∧ (y.k.v 21).toInt ≤ 20 := hK.1 21
  have bw : 0 ≤ (y.k.v 1).toInt ∧ (y.k.v 1).toInt ≤ 5 := hK.1 1
  have ew : y.k.v 1 = z.f 20 (z.v 18).toNatClampNeg := h.2.2.2.1
  have et : y.k.v 21 = z.v 51 := h.2.2.2.2.1
  unfold kX10_tell at h1
  unfold r_tell at h2
  by_cases hw : 0 ≤ x1.toInt ∧ x1.toInt < (y.k.v 1).toInt
  · rw [kw_yes hw.1 hw.2, bindI_some] at h1
    replace h1 := letS_inv h1
    obtain ⟨s3, d3, h1⟩ := h1
    have k3 : s3.k = y.k := by rw [← d3]; rfl
    rw [if_neg z_one] at h1
    have hz := rw_yes (z := z) (x := x1) hR (by rw [← ew]; exact bw.2) hw.1 (by rw [← ew]; exact hw.2)
    by_cases hx : 1 ≤ x2.toInt ∧ x2.toInt ≤ 63
    · have q1 : ¬ x2 < 1 := fun q => by
        have := tn_lt (b := 1) rfl (by decide) q
        omega
      have q2 : x2 ≤ 63 := Int32.le_iff_toInt_le.mpr (by rw [show (63 : Int32).toInt = 63 from by decide]; exact hx.2)
      have q3 : ¬ 63 < x2 := fun q => by
        have := tn_lt (a := 63) (by decide) rfl q
        omega
      rw [if_neg q1, if_pos q2] at h1
      have h1 : ∃ t, ((vp_nar .boolean x3 = 1 ∧ t = x2) ∨ (vp_nar .boolean x3 = 0 ∧ t = 63 &&& (x2 ^^^ (-1)))) ∧ kX10_tell_43 s3 t x1 = some (r1, y') := by
        by_cases c : x3 = 0
        · rw [if_pos c] at h1; exact ⟨_, Or.inr ⟨by rw [c]; exact nar0, rfl⟩, h1⟩
        · rw [if_neg c] at h1
          rcases hb with q | q
          · exact absurd q c
          · exact ⟨_, Or.inl ⟨by rw [q]; exact nar_bool, rfl⟩, h1⟩
      obtain ⟨t, htb, h1⟩ := h1
      unfold kX10_tell_43 kX8_add at h1
      rw [k3] at h1
      by_cases ct : y.k.v 21 = 20
      · have n : ¬ y.k.v 21 < 20 := by rw [ct]; decide
        rw [if_neg n, bindI_some] at h1
        replace h1 := letS_inv h1
        obtain ⟨s4, d4, h1⟩ := h1
        cases h1
        rw [if_pos (et.symm.trans ct)] at h2
        cases h2
        rw [← d4]
        exact hTe
      · have ct' := tn_ne (b := 20) rfl (by decide) ct
        have n : y.k.v 21 < 20 := Int32.lt_iff_toInt_lt.mpr (by rw [show (20 : Int32).toInt = 20 from by decide]; omega)
        have n5 : ¬ z.v 51 = 20 := by rw [← et]; exact ct
        rw [if_pos n] at h1
        replace h1 := bindI_inv h1
        obtain ⟨q, s1, hq, h1⟩ := h1
        replace hq := guard_inv hq
        obtain ⟨_, hq⟩ := hq
        replace hq := letS_inv hq
        obtain ⟨u3, e3, hq⟩ := hq
        replace hq := guard_inv hq
        obtain ⟨_, hq⟩ := hq
        replace hq := letS_inv hq
        obtain ⟨u6, e6, hq⟩ := hq
        replace hq := letS_inv hq
        obtain ⟨u8, e8, hq⟩ := hq
        have v1 : u8.v 21 = (y.k.v 21) + 1 := by rw [← e8, ← e6, ← e3]; rfl
        have eq : q = (u8.v 21) - 1 ∧ s1 = u8 := by cases hq; exact ⟨rfl, rfl⟩
        replace h1 := letS_inv h1
        obtain ⟨s4, d4, h1⟩ := h1
        have ey : r1 = q ∧ y' = s4 := by cases h1; exact ⟨rfl, rfl⟩
        rw [if_neg n5, hz, bindI_some, if_neg z_one] at h2
        unfold r_in at h2
        rw [if_neg q1, if_neg q3, bindP_some, if_neg z_one] at h2
        replace h2 := guard_inv h2
        obtain ⟨_, h2⟩ := h2
        replace h2 := letS_inv h2
        obtain ⟨w8, f8, h2⟩ := h2
        replace h2 := guard_inv h2
        obtain ⟨_, h2⟩ := h2
        replace h2 := letS_inv h2
        obtain ⟨w11, f11, h2⟩ := h2
        replace h2 := guard_inv h2
        obtain ⟨_, h2⟩ := h2
        replace h2 := letS_inv h2
        obtain ⟨w14, f14, h2⟩ := h2
        replace h2 := letS_inv h2
        obtain ⟨w16, f16, h2⟩ := h2
        have v2 : w16.v 51 = (z.v 51) + 1 := by rw [← f16, ← f14, ← f11, ← f8]; rfl
        have ez : r2 = (w16.v 51) - 1 ∧ z' = w16 := by cases h2; exact ⟨rfl, rfl⟩
        obtain ⟨i, hi⟩ : ∃ i : Nat, (y.k.v 21).toInt = (i : Int) := ⟨(y.k.v 21).toInt.toNat, by omega⟩
        have hi5 : (z.v 51).toInt = (i : Int) := by rw [← et]; exact hi
        have c3 : (u3.v 21).toNatClampNeg = i := by rw [← e3]; exact clamp_of_int hi
        have c8 : (w8.v 51).toNatClampNeg = i := by rw [← f8]; exact clamp_of_int hi5
        have c11 : (w11.v 51).toNatClampNeg = i := by rw [← f11]; exact c8
        rw [clamp_of_int hi] at e3
        rw [c3] at e6
        rw [clamp_of_int hi5] at f8
        rw [c8] at f11
        rw [c11] at f14
        have ky : y'.k = u8 := by rw [ey.2, ← d4]; exact eq.2
        rw [ky, ez.2]
        refine TEL.put (xw := x1) (xt := x2) (xs := t) (xb := vp_nar .boolean x3) hTe hi (by omega) ?_ ?_ (fun j => ?_) (fun j => ?_) (fun j => ?_) (fun j => ?_) (fun j => ?_) hw hx htb
        · rw [v1, tn_add hi (by decide : (1 : Int32).toInt = 1) (by omega) (by omega)]
          omega
        · rw [← e8, ← e6, ← e3]; rfl
        · rw [← e8, ← e6]
          show u3.f 42 j = _
          rw [← e3]
          exact ksf_at
        · rw [← e8]
          show u6.f 43 j = _
          rw [← e6, ← e3]
          exact ksf_at
        · rw [← f16, ← f14, ← f11]
          show w8.f 52 j = _
          rw [← f8]
          exact rsf_at
        · rw [← f16, ← f14]
          show w11.f 53 j = _
          rw [← f11, ← f8]
          exact rsf_at
        · rw [← f16]
          show w14.f 54 j = _
          rw [← f14, ← f11, ← f8]
          exact rsf_at
    · have h1 : y'.k = y.k ∧ r1 = -1 := by
        by_cases q1 : x2 < 1
        · rw [if_pos q1] at h1
          cases h1
          exact ⟨k3, rfl⟩
        · have q1' := tn_nlt (b := 1) rfl (by decide) q1
          have q2 : ¬ x2 ≤ 63 := fun q => by
            have := tn_le (b := 63) rfl (by decide) q
            omega
          rw [if_neg q1, if_neg q2] at h1
          cases h1
          exact ⟨k3, rfl⟩
      have h2 : z' = z ∧ r2 = -1 := by
        by_cases ct : z.v 51 = 20
        · rw [if_pos ct] at h2
          cases h2
          exact ⟨rfl, rfl⟩
        · rw [if_neg ct, hz, bindI_some, if_neg z_one] at h2
          unfold r_in at h2
          by_cases q1 : x2 < 1
          · rw [if_pos q1, bindP_some, if_pos rfl] at h2
            cases h2
            exact ⟨rfl, rfl⟩
          · have q1' := tn_nlt (b := 1) rfl (by decide) q1
            have q3 : 63 < x2 := Int32.lt_iff_toInt_lt.mpr (by rw [show (63 : Int32).toInt = 63 from by decide]; omega)
            rw [if_neg q1, if_pos q3, bindP_some, if_pos rfl] at h2
            cases h2
            exact ⟨rfl, rfl⟩
      rw [h1.1, h2.1]
      exact hTe
  · rw [kw_no hw, bindI_some] at h1
    replace h1 := letS_inv h1
    obtain ⟨s3, d3, h1⟩ := h1
    rw [if_pos rfl] at h1
    cases h1
    have hz := rw_no (z := z) (x := x1) hR (by rw [← ew]; exact bw.1) (by rw [← ew]; exact bw.2) (by rw [← ew]; exact hw)
    have h2 : z' = z ∧ r2 = -1 := by
      by_cases ct : z.v 51 = 20
      · rw [if_pos ct] at h2
        cases h2
        exact ⟨rfl, rfl⟩
      · rw [if_neg ct, hz, bindI_some, if_pos rfl] at h2
        cases h2
        exact ⟨rfl, rfl⟩
    rw [h2.1, ← d3]
    exact hTe
/-- all but what is told is as it was -/
theorem REL.keepT {y : YS} {x' : XS} {z z' : RS} {W W' : List Nat} (h : REL y z) (eg : x'.g = y.x.g) (en : x'.n = y.x.n) (K : FrK W y.x.k x'.k) (G : FrR W' z z') (hW : ((1 ∉ W ∧ 2 ∉ W ∧ 3 ∉ W ∧ 4 ∉ W) ∧ (103 ∉ W ∧ 104 ∉ W ∧ 105 ∉ W ∧ 106 ∉ W ∧ 107 ∉ W) ∧ (109 ∉ W ∧ 110 ∉ W ∧ 111 ∉ W ∧ 112 ∉ W))) (hW' : ((18 ∉ W' ∧ 120 ∉ W' ∧ 121 ∉ W' ∧ 123 ∉ W' ∧ 124 ∉ W' ∧ 125 ∉ W' ∧ 126 ∉ W' ∧ 146 ∉ W') ∧ ((127 ∉ W' ∧ 128 ∉ W') ∧ (130 ∉ W' ∧ 131 ∉ W' ∧ 132 ∉ W' ∧ 133 ∉ W' ∧ 134 ∉ W') ∧ 136 ∉ W' ∧ 137 ∉ W')) ∧ (48 ∉ W' ∧ 143 ∉ W' ∧ 149 ∉ W' ∧ 156 ∉ W' ∧ 157 ∉ W')) (hT : TEL x'.k z') : REL (YS.mk x' y.r) z' := by
  obtain ⟨a1, ⟨a2, a3⟩, a4, a5, a6⟩ := h
  obtain ⟨u0, u48, u43, u49, u56, u57⟩ := hW'
  have fo : ∀ d, FO y.x.k d → FO x'.k d := fun d q => q.fr K ⟨hW.1.1, hW.2.1.1⟩
  refine ⟨a1.fr K G hW u0, ⟨?_, ?_⟩, ?_, ?_, hT⟩
  · show SR x'.n _
    rw [en, (G.2 43 u43).1]
    exact a2
  · show FO x'.k x'.n
    rw [en]
    exact fo _ a3
  · unfold HIS
    show x'.g.v 4 = z'.v 48 ∧ (0 ≤ (x'.g.v 3).toInt ∧ (x'.g.v 3).toInt ≤ 39) ∧ (∀ i : Nat, (i : Int) < (z'.v 48).toInt → SR (y.r (((x'.g.v 3).toNatClampNeg + i) % 40)) (fun j => z'.f 49 (29 * i + j)) ∧ FO x'.k (y.r (((x'.g.v 3).toNatClampNeg + i) % 40)))
    rw [eg, G.1 48 u48, (G.2 49 u49).1]
    exact ⟨a4.1, a4.2.1, fun i hi => ⟨(a4.2.2 i hi).1, fo _ (a4.2.2 i hi).2⟩⟩
  · intro s hs
    show x'.g.f 4 s = z'.f 56 s ∧ (¬ z'.f 56 s = 0 → SR (y.r (40 + s)) (fun j => z'.f 57 (29 * s + j)) ∧ FO x'.k (y.r (40 + s)))
    rw [eg, (G.2 56 u56).1, (G.2 57 u57).1]
    exact ⟨(a5 s hs).1, fun q => ⟨((a5 s hs).2 q).1, fo _ ((a5 s hs).2 q).2⟩⟩
theorem TEL.none {k : KS} {z : RS} (h : (k.v 21).toInt = 0) : TEL k z := fun i hi => by
  rw [h] at hi
  omega
end
