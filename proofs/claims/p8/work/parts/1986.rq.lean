/-! ===== a text is read: what the class adds up ===== -/
theorem k_oddsd {k : KS} {x1 x2 : Int32} {w v : Nat} (h1 : x1.toInt = (w : Int)) (hw : w < 5) (h2 : x2.toInt = (v : Int)) (hv : v < 6) : kX5_oddsAt_d k x1 x2 = some (k.f 16 (6 * w + v), k) := by
  have m1 : (x1 * 6).toInt = x1.toInt * 6 := ti_mulc (c := 6) (by decide) (by omega) (by omega)
  have i1 : ((x1 * 6) + x2).toInt = ((6 * w + v : Nat) : Int) := by
    rw [ti_add (by omega) (by omega)]
    omega
  unfold kX5_oddsAt_d
  rw [if_pos (vpb_ok (by omega) (by omega)), clamp_of_int i1]
theorem lks_succ {f : Nat → Int32} {b j : Nat} {x : Int32} (hx : x = Int32.ofNat j) : lks f b (j + 1) = lks f b j ||| (if f (b + j) ≤ 0 then (0 : Int32) else (1 : Int32) <<< (x &&& 31)) := by
  subst hx
  rfl
theorem add_in {k7 : KS → Int32 → Option KS} {s' : KS} {x1 : Int32} {w : Nat} (h1 : x1.toInt = (w : Int)) (hw : w < 5) : ∀ (n : Nat) (s : KS) (x2 : Int32) (j : Nat), x2.toInt = (j : Int) → j ≤ 6 → s.f 17 w = sms (s.f 16) (6 * w) j → s.f 18 w = lks (s.f 16) (6 * w) j → kX5_addUp_31L k7 n s x1 x2 = some s' → ∃ t, k7 t (x1 + 1) = some s' ∧ FrK [10, 117, 118] s t ∧ t.v 10 = s.v 10 * 6 ∧ t.f 17 w = sms (s.f 16) (6 * w) 6 ∧ t.f 18 w = lks (s.f 16) (6 * w) 6 ∧ (∀ i, ¬ i = w → t.f 17 i = s.f 17 i ∧ t.f 18 i = s.f 18 i) := by
  intro n
  induction n with
  | zero => intro s x2 j _ _ _ _ h; exact none_ne h
  | succ n ih =>
    intro s x2 j e2 hj a17 a18 h
    replace h : kX5_addUp_31 k7 (kX5_addUp_31L k7 n) s x1 x2 = some s' := h
    unfold kX5_addUp_31 at h
    by_cases c : 6 ≤ x2
    · have c' := tn_le (a := 6) (by decide) rfl c
      have ej : j = 6 := by omega
      subst ej
      rw [if_pos c] at h
      replace h := letS_inv h
      obtain ⟨t, et, h⟩ := h
      refine ⟨t, h, ?_, ?_, ?_, ?_, fun i _ => ?_⟩
      · rw [← et]; exact FrK.rfl.sv (by decide)
      · rw [← et]; rfl
      · rw [← et]; exact a17
      · rw [← et]; exact a18
      · rw [← et]; exact ⟨rfl, rfl⟩
    · have c' := tn_nle (a := 6) (by decide) rfl c
      rw [if_neg c] at h
      replace h := guard_inv h
      obtain ⟨_, h⟩ := h
      rw [k_oddsd h1 hw e2 (by omega), bindI_some] at h
      replace h := guard_inv h
      obtain ⟨_, h⟩ := h
      replace h := letS_inv h
      obtain ⟨s8, e8, h⟩ := h
      replace h := guard_inv h
      obtain ⟨_, h⟩ := h
      rw [k_oddsd h1 hw e2 (by omega), bindI_some] at h
      rw [clamp_of_int h1] at e8 h
      have a2 : (x2 + 1).toInt = ((j + 1 : Nat) : Int) := by
        rw [tn_add e2 (by decide : (1 : Int32).toInt = 1) (by omega) (by omega)]
        omega
      have f16 : s8.f 16 = s.f 16 := by rw [← e8]; rfl
      have f18 : s8.f 18 = s.f 18 := by rw [← e8]; rfl
      have v10 : s8.v 10 = s.v 10 := by rw [← e8]; rfl
      have f17 : ∀ i, s8.f 17 i = if i = w then s.f 17 w + s.f 16 (6 * w + j) else s.f 17 i := fun i => by rw [← e8]; exact ksf_at
      have K8 : FrK [10, 117, 118] s s8 := by rw [← e8]; exact FrK.rfl.sf (by decide)
      have go : ∀ q : Int32, q = (if s.f 16 (6 * w + j) ≤ 0 then (0 : Int32) else (1 : Int32) <<< (x2 &&& 31)) → kX5_addUp_75 k7 (kX5_addUp_31L k7 n) s8 x1 x2 q (s8.f 18 w) x1 = some s' → ∃ t, k7 t (x1 + 1) = some s' ∧ FrK [10, 117, 118] s t ∧ t.v 10 = s.v 10 * 6 ∧ t.f 17 w = sms (s.f 16) (6 * w) 6 ∧ t.f 18 w = lks (s.f 16) (6 * w) 6 ∧ (∀ i, ¬ i = w → t.f 17 i = s.f 17 i ∧ t.f 18 i = s.f 18 i) := by
        intro q hq h
        unfold kX5_addUp_75 at h
        replace h := guard_inv h
        obtain ⟨_, h⟩ := h
        replace h := letS_inv h
        obtain ⟨s9, e9, h⟩ := h
        rw [clamp_of_int h1] at e9
        have g16 : s9.f 16 = s.f 16 := by rw [← e9]; exact f16
        have g17 : s9.f 17 = s8.f 17 := by rw [← e9]; rfl
        have g10 : s9.v 10 = s.v 10 := by rw [← e9]; exact v10
        have g18 : ∀ i, s9.f 18 i = if i = w then s8.f 18 w ||| q else s8.f 18 i := fun i => by rw [← e9]; exact ksf_at
        have K9 : FrK [10, 117, 118] s s9 := by rw [← e9]; exact K8.sf (by decide)
        obtain ⟨t, t1, t2, t3, t4, t5, t6⟩ := ih s9 (x2 + 1) (j + 1) a2 (by omega) (by
          rw [g17, f17 w, if_pos rfl, g16, a17]
          rfl) (by
          rw [g18 w, if_pos rfl, f18, g16, a18, hq]
          exact (lks_succ (eq_ofnat e2)).symm) h
        refine ⟨t, t1, K9.trans t2 (fun _ x => x), by rw [t3, g10], by rw [t4, g16], by rw [t5, g16], fun i hi => ?_⟩
        obtain ⟨u1, u2⟩ := t6 i hi
        rw [u1, u2, g17, f17 i, if_neg hi, g18 i, if_neg hi, f18]
        exact ⟨rfl, rfl⟩
      rw [f16] at h
      by_cases d : s.f 16 (6 * w + j) ≤ 0
      · rw [if_pos d] at h
        exact go 0 (by rw [if_pos d]) h
      · rw [if_neg d] at h
        exact go _ (by rw [if_neg d]) h
/-- sums and likely things of all waves, and how many guesses there are -/
def ADD (s : KS) : Prop := s.v 10 = six6 (s.v 8).toNatClampNeg ∧ ∀ w : Nat, (w : Int) < (s.v 8).toInt → s.f 17 w = sms (s.f 16) (6 * w) 6 ∧ s.f 18 w = lks (s.f 16) (6 * w) 6
theorem add_out {s' : KS} {N : Nat} (hN : N ≤ 5) : ∀ (n : Nat) (s : KS) (x : Int32) (j : Nat), (s.v 8).toInt = (N : Int) → x.toInt = (j : Int) → j ≤ N → s.v 10 = six6 j → (∀ w, w < j → s.f 17 w = sms (s.f 16) (6 * w) 6 ∧ s.f 18 w = lks (s.f 16) (6 * w) 6) → kX5_addUp_7L n s x = some s' → ADD s' := by
  intro n
  induction n with
  | zero => intro s x j _ _ _ _ _ h; exact none_ne h
  | succ n ih =>
    intro s x j e8 ex hj h10 hd h
    replace h : kX5_addUp_7 (kX5_addUp_7L n) s x = some s' := h
    unfold kX5_addUp_7 at h
    by_cases c : s.v 8 ≤ x
    · have c' := ti_le c
      have ej : j = N := by omega
      subst ej
      rw [if_pos c] at h
      cases h
      exact ⟨by rw [clamp_of_int e8]; exact h10, fun w hw => hd w (by omega)⟩
    · have c' := ti_nle c
      rw [if_neg c] at h
      replace h := guard_inv h
      obtain ⟨_, h⟩ := h
      replace h := letS_inv h
      obtain ⟨s3, e3, h⟩ := h
      replace h := guard_inv h
      obtain ⟨_, h⟩ := h
      replace h := letS_inv h
      obtain ⟨s6, e6, h⟩ := h
      rw [clamp_of_int ex] at e3 e6
      have f17 : ∀ i, s6.f 17 i = if i = j then 0 else s.f 17 i := fun i => by
        rw [← e6]
        show s3.f 17 i = _
        rw [← e3]
        exact ksf_at
      have f18 : ∀ i, s6.f 18 i = if i = j then 0 else s.f 18 i := fun i => by
        rw [← e6, ← e3]
        exact ksf_at
      have f16 : s6.f 16 = s.f 16 := by rw [← e6, ← e3]; rfl
      have v8 : s6.v 8 = s.v 8 := by rw [← e6, ← e3]; rfl
      have v10 : s6.v 10 = s.v 10 := by rw [← e6, ← e3]; rfl
      obtain ⟨t, t1, t2, t3, t4, t5, t6⟩ := add_in ex (by omega) fu s6 0 0 (by decide) (by omega) (by rw [f17, if_pos rfl]; rfl) (by rw [f18, if_pos rfl]; rfl) h
      have ax : (x + 1).toInt = ((j + 1 : Nat) : Int) := by
        rw [tn_add ex (by decide : (1 : Int32).toInt = 1) (by omega) (by omega)]
        omega
      refine ih t (x + 1) (j + 1) (by rw [t2.1 8 (by decide), v8]; exact e8) ax (by omega) (by rw [t3, v10, h10]; rfl) (fun w hw => ?_) t1
      have g16 : t.f 16 = s.f 16 := by rw [(t2.2 16 (by decide)).1, f16]
      by_cases d : w = j
      · subst d
        rw [t4, t5, g16, f16]
        exact ⟨rfl, rfl⟩
      · obtain ⟨u1, u2⟩ := t6 w d
        rw [u1, u2, f17, if_neg d, f18, if_neg d, g16]
        exact hd w (by omega)
theorem addUp_eq {s s' : KS} {N : Nat} (hN : N ≤ 5) (e8 : (s.v 8).toInt = (N : Int)) (h : kX5_addUp s = some s') : ADD s' := by
  unfold kX5_addUp at h
  replace h := letS_inv h
  obtain ⟨s1, e1, h⟩ := h
  exact add_out hN fu s1 0 0 (by rw [← e1]; exact e8) (by decide) (by omega) (by rw [← e1]; rfl) (fun w hw => by omega) h
/-- how many waves there are stays -/
theorem add31_v8 (c : Int32) {k7 : KS → Int32 → Option KS} (hk : ∀ (t : KS) (x : Int32), t.v 8 = c → Pt (k7 t x) (fun y => y.v 8 = c)) : ∀ (n : Nat) (s : KS) (x1 x2 : Int32), s.v 8 = c → Pt (kX5_addUp_31L k7 n s x1 x2) (fun y => y.v 8 = c) := by
  intro n
  induction n with
  | zero => intro s x1 x2 _; exact pt_none
  | succ n ih =>
    intro s x1 x2 h
    show Pt (kX5_addUp_31 k7 (kX5_addUp_31L k7 n) s x1 x2) _
    unfold kX5_addUp_31 kX5_addUp_75 kX5_oddsAt_d
    have fin : ∀ (s11 : KS) (q : Int32), s11.v 8 = c → Pt (if vpb x1 5 then (letS (s11.sf 18 (Int32.toNatClampNeg x1) q) fun s2 => kX5_addUp_31L k7 n s2 x1 (x2 + 1)) else none) (fun y => y.v 8 = c) := fun s11 q h11 => pt_ite (fun _ => pt_let (P := fun s : KS => s.v 8 = c) h11 (fun t ht => ih t _ _ ht)) (fun _ => pt_none)
    exact pt_ite (fun _ => pt_let (P := fun s : KS => s.v 8 = c) h (fun t ht => hk t _ ht)) (fun _ => pt_ite (fun _ => pt_bindI (P := fun y => y.2.v 8 = c) (pt_ite (fun _ => pt_some h) (fun _ => pt_none)) (fun r6 s5 h5 => pt_ite (fun _ => pt_let (P := fun s : KS => s.v 8 = c) h5 (fun s8 h8 => pt_ite (fun _ => pt_bindI (P := fun y => y.2.v 8 = c) (pt_ite (fun _ => pt_some h8) (fun _ => pt_none)) (fun r12 s11 h11 => pt_ite (fun _ => fin s11 _ h11) (fun _ => fin s11 _ h11))) (fun _ => pt_none))) (fun _ => pt_none))) (fun _ => pt_none))
theorem add7_v8 (c : Int32) : ∀ (n : Nat) (s : KS) (x : Int32), s.v 8 = c → Pt (kX5_addUp_7L n s x) (fun y => y.v 8 = c) := by
  intro n
  induction n with
  | zero => intro s x _; exact pt_none
  | succ n ih =>
    intro s x h
    show Pt (kX5_addUp_7 (kX5_addUp_7L n) s x) _
    unfold kX5_addUp_7
    exact pt_ite (fun _ => pt_some h) (fun _ => pt_ite (fun _ => pt_let (P := fun s : KS => s.v 8 = c) h (fun s3 h3 => pt_ite (fun _ => pt_let (P := fun s : KS => s.v 8 = c) h3 (fun s6 h6 => add31_v8 c (fun t x ht => ih t x ht) fu s6 x 0 h6)) (fun _ => pt_none))) (fun _ => pt_none))
theorem add_v8 {w s' : KS} (h : kX5_addUp w = some s') : s'.v 8 = w.v 8 := by
  unfold kX5_addUp at h
  replace h := letS_inv h
  obtain ⟨s1, e1, h⟩ := h
  exact add7_v8 (w.v 8) fu s1 0 (by rw [← e1]; rfl) s' h
/-- the last of what readTape does -/
theorem rt_last {r : Int32} {s' : KS} : ∀ (n : Nat) (s : KS) (x : Int32), kX4_readTape_41L n s x = some (r, s') → ∃ u, kX4_readTape_75 u = some (r, s') := by
  intro n
  induction n with
  | zero => intro s x h; exact none_ne h
  | succ n ih =>
    intro s x h
    replace h : kX4_readTape_41 (kX4_readTape_41L n) s x = some (r, s') := h
    unfold kX4_readTape_41 at h
    by_cases c : 400 < x
    · rw [if_pos c] at h; exact ⟨s, h⟩
    · rw [if_neg c] at h
      by_cases d : s.v 16 = 0
      · rw [if_pos d] at h
        replace h := bindI_inv h
        obtain ⟨r4, s3, _, h⟩ := h
        by_cases e : r4 = 0
        · rw [if_pos e] at h
          replace h := bindP_inv h
          obtain ⟨s6, _, h⟩ := h
          exact ih s6 _ h
        · rw [if_neg e] at h; exact ⟨s3, h⟩
      · rw [if_neg d] at h; exact ⟨s, h⟩
theorem rt_98 {u s' : KS} (h : kX4_readTape_98 u = some (0, s')) : ∃ w, kX5_addUp w = some s' := by
  unfold kX4_readTape_98 at h
  by_cases c : u.v 16 = 0
  · rw [if_pos c] at h
    replace h := bindP_inv h
    obtain ⟨s2, h2, h⟩ := h
    have e : s2 = s' := congrArg Prod.snd (Option.some.inj h)
    rw [← e]
    exact ⟨u, h2⟩
  · rw [if_neg c] at h
    have e : u.v 16 = 0 := congrArg Prod.fst (Option.some.inj h)
    exact absurd e c
theorem rt_75 {u s' : KS} (h : kX4_readTape_75 u = some (0, s')) : ∃ w, kX5_addUp w = some s' := by
  unfold kX4_readTape_75 at h
  by_cases c : u.v 16 = 0
  · rw [if_pos c] at h
    replace h := letS_inv h
    obtain ⟨s2, _, h⟩ := h
    replace h := letS_inv h
    obtain ⟨s4, _, h⟩ := h
    exact rt_98 h
  · rw [if_neg c] at h
    exact rt_98 h
theorem read_add {s s' : KS} (hI : InvK s') (h : kX4_readTape s = some (0, s')) : ADD s' := by
  have b8 : 0 ≤ (s'.v 8).toInt ∧ (s'.v 8).toInt ≤ 5 := hI.1 8
  unfold kX4_readTape at h
  replace h := bindP_inv h
  obtain ⟨s1, _, h⟩ := h
  replace h := letS_inv h
  obtain ⟨s2, _, h⟩ := h
  replace h := letS_inv h
  obtain ⟨s4, _, h⟩ := h
  replace h := letS_inv h
  obtain ⟨s6, _, h⟩ := h
  replace h := letS_inv h
  obtain ⟨s8, _, h⟩ := h
  replace h := letS_inv h
  obtain ⟨s10, _, h⟩ := h
  replace h := bindP_inv h
  obtain ⟨s12, _, h⟩ := h
  obtain ⟨u, h⟩ := rt_last fu s12 0 h
  obtain ⟨w, h⟩ := rt_75 h
  have e8 : s'.v 8 = w.v 8 := (add_v8 h)
  exact addUp_eq (N := (s'.v 8).toInt.toNat) (by omega) (by rw [← e8]; omega) h
