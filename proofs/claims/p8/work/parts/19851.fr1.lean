/-! ===== what the queries leave as it was ===== -/
theorem fr_kX2_oddsApart_47 (n0 : SD) (k9 : JS → Int32 → Int32 → Int32 → Int32 → Option (Int32 × JS)) (hk9 : ∀ (a0 : JS) (a1 : Int32) (a2 : Int32) (a3 : Int32) (a4 : Int32), a0.d = n0 → Pt (k9 a0 a1 a2 a3 a4) (fun y => y.2.d = n0)) (s : JS) (x2 : Int32) (x3 : Int32) (x4 : Int32) (x5 : Int32) (h1 : s.d = n0) : Pt (kX2_oddsApart_47 k9 s x2 x3 x4 x5) (fun y => y.2.d = n0) := by
  unfold kX2_oddsApart_47
  exact hk9 _ _ _ _ _ h1

theorem fr_kX2_oddsApart_9 (n0 : SD) (k9 : JS → Int32 → Int32 → Int32 → Int32 → Option (Int32 × JS)) (hk9 : ∀ (a0 : JS) (a1 : Int32) (a2 : Int32) (a3 : Int32) (a4 : Int32), a0.d = n0 → Pt (k9 a0 a1 a2 a3 a4) (fun y => y.2.d = n0)) (s : JS) (x2 : Int32) (x3 : Int32) (x4 : Int32) (x5 : Int32) (h1 : s.d = n0) : Pt (kX2_oddsApart_9 k9 s x2 x3 x4 x5) (fun y => y.2.d = n0) := by
  unfold kX2_oddsApart_9
  exact pt_ite (fun _ => pt_some h1) (fun _ => pt_bindI (P := (fun y => y.2.d = n0)) (fr_kX2_oddsIfMay n0 s _ _ h1) (fun r3 s2 qs2 => pt_ite (fun _ => fr_kX2_oddsApart_47 n0 _ hk9 s2 _ _ _ _ qs2) (fun _ => fr_kX2_oddsApart_47 n0 _ hk9 s2 _ _ _ _ qs2)))

theorem fr_kX2_oddsApart_9L (n0 : SD) : ∀ (n : Nat) (s : JS) (x1 : Int32) (x2 : Int32) (x3 : Int32) (x4 : Int32), s.d = n0 → Pt (kX2_oddsApart_9L n s x1 x2 x3 x4) (fun y => y.2.d = n0) := by
  intro n
  induction n with
  | zero => intro _ _ _ _ _ _; exact pt_none
  | succ n ih =>
    intro s x1 x2 x3 x4 h1
    exact fr_kX2_oddsApart_9 n0 (kX2_oddsApart_9L n) ih s x1 x2 x3 x4 h1

theorem fr_kX2_oddsApart (n0 : SD) (s : JS) (x2 : Int32) (h1 : s.d = n0) : Pt (kX2_oddsApart s x2) (fun y => y.2.d = n0) := by
  unfold kX2_oddsApart
  exact fr_kX2_oddsApart_9L n0 _ s _ _ _ _ h1

theorem fr_kX2_fillRow_near_39 (n0 : SD) (k10 : JS → Int32 → Int32 → Int32 → Option (Int32 × JS)) (k20 : JS → Int32 → Int32 → Int32 → Int32 → Option (Int32 × JS)) (k39 : JS → Int32 → Int32 → Int32 → Int32 → Int32 → Int32 → Option (Int32 × JS)) (hk10 : ∀ (a0 : JS) (a1 : Int32) (a2 : Int32) (a3 : Int32), a0.d = n0 → Pt (k10 a0 a1 a2 a3) (fun y => y.2.d = n0)) (hk20 : ∀ (a0 : JS) (a1 : Int32) (a2 : Int32) (a3 : Int32) (a4 : Int32), a0.d = n0 → Pt (k20 a0 a1 a2 a3 a4) (fun y => y.2.d = n0)) (hk39 : ∀ (a0 : JS) (a1 : Int32) (a2 : Int32) (a3 : Int32) (a4 : Int32) (a5 : Int32) (a6 : Int32), a0.d = n0 → Pt (k39 a0 a1 a2 a3 a4 a5 a6) (fun y => y.2.d = n0)) (s : JS) (x4 : Int32) (x5 : Int32) (x6 : Int32) (x7 : Int32) (x8 : Int32) (x9 : Int32) (h1 : s.d = n0) : Pt (kX2_fillRow_near_39 k10 k20 k39 s x4 x5 x6 x7 x8 x9) (fun y => y.2.d = n0) := by
  unfold kX2_fillRow_near_39
  exact pt_ite (fun _ => hk20 _ _ _ _ _ h1) (fun _ => pt_ite (fun _ => pt_ite (fun _ => pt_let (P := (fun s : JS => s.d = n0)) h1 (fun s4 qs4 => hk39 _ _ _ _ _ _ _ qs4)) (fun _ => pt_none)) (fun _ => pt_none))

theorem fr_kX2_fillRow_near_39L (n0 : SD) (k10 : JS → Int32 → Int32 → Int32 → Option (Int32 × JS)) (k20 : JS → Int32 → Int32 → Int32 → Int32 → Option (Int32 × JS)) (hk10 : ∀ (a0 : JS) (a1 : Int32) (a2 : Int32) (a3 : Int32), a0.d = n0 → Pt (k10 a0 a1 a2 a3) (fun y => y.2.d = n0)) (hk20 : ∀ (a0 : JS) (a1 : Int32) (a2 : Int32) (a3 : Int32) (a4 : Int32), a0.d = n0 → Pt (k20 a0 a1 a2 a3 a4) (fun y => y.2.d = n0)) : ∀ (n : Nat) (s : JS) (x1 : Int32) (x2 : Int32) (x3 : Int32) (x4 : Int32) (x5 : Int32) (x6 : Int32), s.d = n0 → Pt (kX2_fillRow_near_39L k10 k20 n s x1 x2 x3 x4 x5 x6) (fun y => y.2.d = n0) := by
  intro n
  induction n with
  | zero => intro _ _ _ _ _ _ _ _; exact pt_none
  | succ n ih =>
    intro s x1 x2 x3 x4 x5 x6 h1
    exact fr_kX2_fillRow_near_39 n0 k10 k20 (kX2_fillRow_near_39L k10 k20 n) hk10 hk20 ih s x1 x2 x3 x4 x5 x6 h1

theorem fr_kX2_fillRow_near_20 (n0 : SD) (k10 : JS → Int32 → Int32 → Int32 → Option (Int32 × JS)) (k20 : JS → Int32 → Int32 → Int32 → Int32 → Option (Int32 × JS)) (hk10 : ∀ (a0 : JS) (a1 : Int32) (a2 : Int32) (a3 : Int32), a0.d = n0 → Pt (k10 a0 a1 a2 a3) (fun y => y.2.d = n0)) (hk20 : ∀ (a0 : JS) (a1 : Int32) (a2 : Int32) (a3 : Int32) (a4 : Int32), a0.d = n0 → Pt (k20 a0 a1 a2 a3 a4) (fun y => y.2.d = n0)) (s : JS) (x4 : Int32) (x5 : Int32) (x6 : Int32) (x7 : Int32) (h1 : s.d = n0) : Pt (kX2_fillRow_near_20 k10 k20 s x4 x5 x6 x7) (fun y => y.2.d = n0) := by
  unfold kX2_fillRow_near_20
  exact pt_ite (fun _ => hk10 _ _ _ _ h1) (fun _ => pt_bindI (P := (fun y => y.2.d = n0)) (fr_kX2_oddsIfMay n0 s _ _ h1) (fun r3 s2 qs2 => fr_kX2_fillRow_near_39L n0 _ _ hk10 hk20 _ s2 _ _ _ _ _ _ qs2))

theorem fr_kX2_fillRow_near_20L (n0 : SD) (k10 : JS → Int32 → Int32 → Int32 → Option (Int32 × JS)) (hk10 : ∀ (a0 : JS) (a1 : Int32) (a2 : Int32) (a3 : Int32), a0.d = n0 → Pt (k10 a0 a1 a2 a3) (fun y => y.2.d = n0)) : ∀ (n : Nat) (s : JS) (x1 : Int32) (x2 : Int32) (x3 : Int32) (x4 : Int32), s.d = n0 → Pt (kX2_fillRow_near_20L k10 n s x1 x2 x3 x4) (fun y => y.2.d = n0) := by
  intro n
  induction n with
  | zero => intro _ _ _ _ _ _; exact pt_none
  | succ n ih =>
    intro s x1 x2 x3 x4 h1
    exact fr_kX2_fillRow_near_20 n0 k10 (kX2_fillRow_near_20L k10 n) hk10 ih s x1 x2 x3 x4 h1

theorem fr_kX2_fillRow_near_10 (n0 : SD) (k10 : JS → Int32 → Int32 → Int32 → Option (Int32 × JS)) (hk10 : ∀ (a0 : JS) (a1 : Int32) (a2 : Int32) (a3 : Int32), a0.d = n0 → Pt (k10 a0 a1 a2 a3) (fun y => y.2.d = n0)) (s : JS) (x4 : Int32) (x5 : Int32) (x6 : Int32) (h1 : s.d = n0) : Pt (kX2_fillRow_near_10 k10 s x4 x5 x6) (fun y => y.2.d = n0) := by
  unfold kX2_fillRow_near_10
  exact pt_ite (fun _ => pt_some h1) (fun _ => fr_kX2_fillRow_near_20L n0 _ hk10 _ s _ _ _ _ h1)

theorem fr_kX2_fillRow_near_10L (n0 : SD) : ∀ (n : Nat) (s : JS) (x1 : Int32) (x2 : Int32) (x3 : Int32), s.d = n0 → Pt (kX2_fillRow_near_10L n s x1 x2 x3) (fun y => y.2.d = n0) := by
  intro n
  induction n with
  | zero => intro _ _ _ _ _; exact pt_none
  | succ n ih =>
    intro s x1 x2 x3 h1
    exact fr_kX2_fillRow_near_10 n0 (kX2_fillRow_near_10L n) ih s x1 x2 x3 h1

theorem fr_kX2_fillRow_near (n0 : SD) (s : JS) (x3 : Int32) (x4 : Int32) (h1 : s.d = n0) : Pt (kX2_fillRow_near s x3 x4) (fun y => y.2.d = n0) := by
  unfold kX2_fillRow_near
  exact pt_let (P := (fun s : JS => s.d = n0)) h1 (fun s1 qs1 => fr_kX2_fillRow_near_10L n0 _ s1 _ _ _ qs1)

theorem fr_kX2_fillRow_far_39 (n0 : SD) (k10 : JS → Int32 → Int32 → Int32 → Option (Int32 × JS)) (k20 : JS → Int32 → Int32 → Int32 → Int32 → Option (Int32 × JS)) (k39 : JS → Int32 → Int32 → Int32 → Int32 → Int32 → Int32 → Option (Int32 × JS)) (hk10 : ∀ (a0 : JS) (a1 : Int32) (a2 : Int32) (a3 : Int32), a0.d = n0 → Pt (k10 a0 a1 a2 a3) (fun y => y.2.d = n0)) (hk20 : ∀ (a0 : JS) (a1 : Int32) (a2 : Int32) (a3 : Int32) (a4 : Int32), a0.d = n0 → Pt (k20 a0 a1 a2 a3 a4) (fun y => y.2.d = n0)) (hk39 : ∀ (a0 : JS) (a1 : Int32) (a2 : Int32) (a3 : Int32) (a4 : Int32) (a5 : Int32) (a6 : Int32), a0.d = n0 → Pt (k39 a0 a1 a2 a3 a4 a5 a6) (fun y => y.2.d = n0)) (s : JS) (x4 : Int32) (x5 : Int32) (x6 : Int32) (x7 : Int32) (x8 : Int32) (x9 : Int32) (h1 : s.d = n0) : Pt (kX2_fillRow_far_39 k10 k20 k39 s x4 x5 x6 x7 x8 x9) (fun y => y.2.d = n0) := by
  unfold kX2_fillRow_far_39
  exact pt_ite (fun _ => hk20 _ _ _ _ _ h1) (fun _ => pt_ite (fun _ => pt_ite (fun _ => pt_let (P := (fun s : JS => s.d = n0)) h1 (fun s4 qs4 => hk39 _ _ _ _ _ _ _ qs4)) (fun _ => pt_none)) (fun _ => pt_none))

theorem fr_kX2_fillRow_far_39L (n0 : SD) (k10 : JS → Int32 → Int32 → Int32 → Option (Int32 × JS)) (k20 : JS → Int32 → Int32 → Int32 → Int32 → Option (Int32 × JS)) (hk10 : ∀ (a0 : JS) (a1 : Int32) (a2 : Int32) (a3 : Int32), a0.d = n0 → Pt (k10 a0 a1 a2 a3) (fun y => y.2.d = n0)) (hk20 : ∀ (a0 : JS) (a1 : Int32) (a2 : Int32) (a3 : Int32) (a4 : Int32), a0.d = n0 → Pt (k20 a0 a1 a2 a3 a4) (fun y => y.2.d = n0)) : ∀ (n : Nat) (s : JS) (x1 : Int32) (x2 : Int32) (x3 : Int32) (x4 : Int32) (x5 : Int32) (x6 : Int32), s.d = n0 → Pt (kX2_fillRow_far_39L k10 k20 n s x1 x2 x3 x4 x5 x6) (fun y => y.2.d = n0) := by
  intro n
  induction n with
  | zero => intro _ _ _ _ _ _ _ _; exact pt_none
  | succ n ih =>
    intro s x1 x2 x3 x4 x5 x6 h1
    exact fr_kX2_fillRow_far_39 n0 k10 k20 (kX2_fillRow_far_39L k10 k20 n) hk10 hk20 ih s x1 x2 x3 x4 x5 x6 h1

theorem fr_kX2_fillRow_far_20 (n0 : SD) (k10 : JS → Int32 → Int32 → Int32 → Option (Int32 × JS)) (k20 : JS → Int32 → Int32 → Int32 → Int32 → Option (Int32 × JS)) (hk10 : ∀ (a0 : JS) (a1 : Int32) (a2 : Int32) (a3 : Int32), a0.d = n0 → Pt (k10 a0 a1 a2 a3) (fun y => y.2.d = n0)) (hk20 : ∀ (a0 : JS) (a1 : Int32) (a2 : Int32) (a3 : Int32) (a4 : Int32), a0.d = n0 → Pt (k20 a0 a1 a2 a3 a4) (fun y => y.2.d = n0)) (s : JS) (x4 : Int32) (x5 : Int32) (x6 : Int32) (x7 : Int32) (h1 : s.d = n0) : Pt (kX2_fillRow_far_20 k10 k20 s x4 x5 x6 x7) (fun y => y.2.d = n0) := by
  unfold kX2_fillRow_far_20
  exact pt_ite (fun _ => hk10 _ _ _ _ h1) (fun _ => pt_bindI (P := (fun y => y.2.d = n0)) (fr_kX2_oddsIfMay n0 s _ _ h1) (fun r3 s2 qs2 => fr_kX2_fillRow_far_39L n0 _ _ hk10 hk20 _ s2 _ _ _ _ _ _ qs2))

theorem fr_kX2_fillRow_far_20L (n0 : SD) (k10 : JS → Int32 → Int32 → Int32 → Option (Int32 × JS)) (hk10 : ∀ (a0 : JS) (a1 : Int32) (a2 : Int32) (a3 : Int32), a0.d = n0 → Pt (k10 a0 a1 a2 a3) (fun y => y.2.d = n0)) : ∀ (n : Nat) (s : JS) (x1 : Int32) (x2 : Int32) (x3 : Int32) (x4 : Int32), s.d = n0 → Pt (kX2_fillRow_far_20L k10 n s x1 x2 x3 x4) (fun y => y.2.d = n0) := by
  intro n
  induction n with
  | zero => intro _ _ _ _ _ _; exact pt_none
  | succ n ih =>
    intro s x1 x2 x3 x4 h1
    exact fr_kX2_fillRow_far_20 n0 k10 (kX2_fillRow_far_20L k10 n) hk10 ih s x1 x2 x3 x4 h1

theorem fr_kX2_fillRow_far_10 (n0 : SD) (k10 : JS → Int32 → Int32 → Int32 → Option (Int32 × JS)) (hk10 : ∀ (a0 : JS) (a1 : Int32) (a2 : Int32) (a3 : Int32), a0.d = n0 → Pt (k10 a0 a1 a2 a3) (fun y => y.2.d = n0)) (s : JS) (x4 : Int32) (x5 : Int32) (x6 : Int32) (h1 : s.d = n0) : Pt (kX2_fillRow_far_10 k10 s x4 x5 x6) (fun y => y.2.d = n0) := by
  unfold kX2_fillRow_far_10
  exact pt_ite (fun _ => pt_some h1) (fun _ => fr_kX2_fillRow_far_20L n0 _ hk10 _ s _ _ _ _ h1)

theorem fr_kX2_fillRow_far_10L (n0 : SD) : ∀ (n : Nat) (s : JS) (x1 : Int32) (x2 : Int32) (x3 : Int32), s.d = n0 → Pt (kX2_fillRow_far_10L n s x1 x2 x3) (fun y => y.2.d = n0) := by
  intro n
  induction n with
  | zero => intro _ _ _ _ _; exact pt_none
  | succ n ih =>
    intro s x1 x2 x3 h1
    exact fr_kX2_fillRow_far_10 n0 (kX2_fillRow_far_10L n) ih s x1 x2 x3 h1

theorem fr_kX2_fillRow_far (n0 : SD) (s : JS) (x3 : Int32) (x4 : Int32) (h1 : s.d = n0) : Pt (kX2_fillRow_far s x3 x4) (fun y => y.2.d = n0) := by
  unfold kX2_fillRow_far
  exact pt_let (P := (fun s : JS => s.d = n0)) h1 (fun s1 qs1 => fr_kX2_fillRow_far_10L n0 _ s1 _ _ _ qs1)

theorem fr_kX2_fillNear (n0 : SD) (s : JS) (h1 : s.d = n0) : Pt (kX2_fillNear s) (fun y => y.2.d = n0) := by
  unfold kX2_fillNear
  exact pt_bindI (P := (fun y => y.2.d = n0)) (fr_kX2_fillRow_near n0 s _ _ h1) (fun r2 s1 qs1 => pt_some qs1)

theorem fr_kX2_fillFar (n0 : SD) (s : JS) (h1 : s.d = n0) : Pt (kX2_fillFar s) (fun y => y.2.d = n0) := by
  unfold kX2_fillFar
  exact pt_bindI (P := (fun y => y.2.d = n0)) (fr_kX2_fillRow_far n0 s _ _ h1) (fun r2 s1 qs1 => pt_some qs1)

theorem fr_kX2_casesAheadOf_78 (n0 : SD) (k23 : JS → Int32 → Int32 → Int32 → Int32 → Int32 → Int32 → Int32 → Option (Int32 × JS)) (k33 : JS → Int32 → Int32 → Int32 → Int32 → Int32 → Int32 → Int32 → Int32 → Option (Int32 × JS)) (hk23 : ∀ (a0 : JS) (a1 : Int32) (a2 : Int32) (a3 : Int32) (a4 : Int32) (a5 : Int32) (a6 : Int32) (a7 : Int32), a0.d = n0 → Pt (k23 a0 a1 a2 a3 a4 a5 a6 a7) (fun y => y.2.d = n0)) (hk33 : ∀ (a0 : JS) (a1 : Int32) (a2 : Int32) (a3 : Int32) (a4 : Int32) (a5 : Int32) (a6 : Int32) (a7 : Int32) (a8 : Int32), a0.d = n0 → Pt (k33 a0 a1 a2 a3 a4 a5 a6 a7 a8) (fun y => y.2.d = n0)) (s : JS) (x2 : Int32) (x3 : Int32) (x4 : Int32) (x5 : Int32) (x6 : Int32) (x7 : Int32) (x8 : Int32) (x9 : Int32) (h1 : s.d = n0) : Pt (kX2_casesAheadOf_78 k23 k33 s x2 x3 x4 x5 x6 x7 x8 x9) (fun y => y.2.d = n0) := by
  unfold kX2_casesAheadOf_78
  exact hk33 _ _ _ _ _ _ _ _ _ h1

theorem fr_kX2_casesAheadOf_75 (n0 : SD) (k23 : JS → Int32 → Int32 → Int32 → Int32 → Int32 → Int32 → Int32 → Option (Int32 × JS)) (k33 : JS → Int32 → Int32 → Int32 → Int32 → Int32 → Int32 → Int32 → Int32 → Option (Int32 × JS)) (hk23 : ∀ (a0 : JS) (a1 : Int32) (a2 : Int32) (a3 : Int32) (a4 : Int32) (a5 : Int32) (a6 : Int32) (a7 : Int32), a0.d = n0 → Pt (k23 a0 a1 a2 a3 a4 a5 a6 a7) (fun y => y.2.d = n0)) (hk33 : ∀ (a0 : JS) (a1 : Int32) (a2 : Int32) (a3 : Int32) (a4 : Int32) (a5 : Int32) (a6 : Int32) (a7 : Int32) (a8 : Int32), a0.d = n0 → Pt (k33 a0 a1 a2 a3 a4 a5 a6 a7 a8) (fun y => y.2.d = n0)) (s : JS) (x2 : Int32) (x3 : Int32) (x4 : Int32) (x5 : Int32) (x6 : Int32) (x7 : Int32) (x8 : Int32) (x9 : Int32) (h1 : s.d = n0) : Pt (kX2_casesAheadOf_75 k23 k33 s x2 x3 x4 x5 x6 x7 x8 x9) (fun y => y.2.d = n0) := by
  unfold kX2_casesAheadOf_75
  exact fr_kX2_casesAheadOf_78 n0 _ _ hk23 hk33 s _ _ _ _ _ _ _ _ h1

theorem fr_kX2_casesAheadOf_33 (n0 : SD) (k23 : JS → Int32 → Int32 → Int32 → Int32 → Int32 → Int32 → Int32 → Option (Int32 × JS)) (k33 : JS → Int32 → Int32 → Int32 → Int32 → Int32 → Int32 → Int32 → Int32 → Option (Int32 × JS)) (hk23 : ∀ (a0 : JS) (a1 : Int32) (a2 : Int32) (a3 : Int32) (a4 : Int32) (a5 : Int32) (a6 : Int32) (a7 : Int32), a0.d = n0 → Pt (k23 a0 a1 a2 a3 a4 a5 a6 a7) (fun y => y.2.d = n0)) (hk33 : ∀ (a0 : JS) (a1 : Int32) (a2 : Int32) (a3 : Int32) (a4 : Int32) (a5 : Int32) (a6 : Int32) (a7 : Int32) (a8 : Int32), a0.d = n0 → Pt (k33 a0 a1 a2 a3 a4 a5 a6 a7 a8) (fun y => y.2.d = n0)) (s : JS) (x2 : Int32) (x3 : Int32) (x4 : Int32) (x5 : Int32) (x6 : Int32) (x7 : Int32) (x8 : Int32) (x9 : Int32) (h1 : s.d = n0) : Pt (kX2_casesAheadOf_33 k23 k33 s x2 x3 x4 x5 x6 x7 x8 x9) (fun y => y.2.d = n0) := by
  unfold kX2_casesAheadOf_33
  exact pt_ite (fun _ => hk23 _ _ _ _ _ _ _ _ h1) (fun _ => pt_ite (fun _ => pt_ite (fun _ => pt_ite (fun _ => fr_kX2_casesAheadOf_75 n0 _ _ hk23 hk33 s _ _ _ _ _ _ _ _ h1) (fun _ => pt_ite (fun _ => pt_ite (fun _ => fr_kX2_casesAheadOf_78 n0 _ _ hk23 hk33 s _ _ _ _ _ _ _ _ h1) (fun _ => fr_kX2_casesAheadOf_75 n0 _ _ hk23 hk33 s _ _ _ _ _ _ _ _ h1)) (fun _ => fr_kX2_casesAheadOf_78 n0 _ _ hk23 hk33 s _ _ _ _ _ _ _ _ h1))) (fun _ => pt_none)) (fun _ => pt_none))

theorem fr_kX2_casesAheadOf_33L (n0 : SD) (k23 : JS → Int32 → Int32 → Int32 → Int32 → Int32 → Int32 → Int32 → Option (Int32 × JS)) (hk23 : ∀ (a0 : JS) (a1 : Int32) (a2 : Int32) (a3 : Int32) (a4 : Int32) (a5 : Int32) (a6 : Int32) (a7 : Int32), a0.d = n0 → Pt (k23 a0 a1 a2 a3 a4 a5 a6 a7) (fun y => y.2.d = n0)) : ∀ (n : Nat) (s : JS) (x1 : Int32) (x2 : Int32) (x3 : Int32) (x4 : Int32) (x5 : Int32) (x6 : Int32) (x7 : Int32) (x8 : Int32), s.d = n0 → Pt (kX2_casesAheadOf_33L k23 n s x1 x2 x3 x4 x5 x6 x7 x8) (fun y => y.2.d = n0) := by
  intro n
  induction n with
  | zero => intro _ _ _ _ _ _ _ _ _ _; exact pt_none
  | succ n ih =>
    intro s x1 x2 x3 x4 x5 x6 x7 x8 h1
    exact fr_kX2_casesAheadOf_33 n0 k23 (kX2_casesAheadOf_33L k23 n) hk23 ih s x1 x2 x3 x4 x5 x6 x7 x8 h1

theorem fr_kX2_casesAheadOf_23 (n0 : SD) (k23 : JS → Int32 → Int32 → Int32 → Int32 → Int32 → Int32 → Int32 → Option (Int32 × JS)) (hk23 : ∀ (a0 : JS) (a1 : Int32) (a2 : Int32) (a3 : Int32) (a4 : Int32) (a5 : Int32) (a6 : Int32) (a7 : Int32), a0.d = n0 → Pt (k23 a0 a1 a2 a3 a4 a5 a6 a7) (fun y => y.2.d = n0)) (s : JS) (x2 : Int32) (x3 : Int32) (x4 : Int32) (x5 : Int32) (x6 : Int32) (x7 : Int32) (x8 : Int32) (h1 : s.d = n0) : Pt (kX2_casesAheadOf_23 k23 s x2 x3 x4 x5 x6 x7 x8) (fun y => y.2.d = n0) := by
  unfold kX2_casesAheadOf_23
  exact pt_ite (fun _ => pt_some h1) (fun _ => fr_kX2_casesAheadOf_33L n0 _ hk23 _ s _ _ _ _ _ _ _ _ h1)

theorem fr_kX2_casesAheadOf_23L (n0 : SD) : ∀ (n : Nat) (s : JS) (x1 : Int32) (x2 : Int32) (x3 : Int32) (x4 : Int32) (x5 : Int32) (x6 : Int32) (x7 : Int32), s.d = n0 → Pt (kX2_casesAheadOf_23L n s x1 x2 x3 x4 x5 x6 x7) (fun y => y.2.d = n0) := by
  intro n
  induction n with
  | zero => intro _ _ _ _ _ _ _ _ _; exact pt_none
  | succ n ih =>
    intro s x1 x2 x3 x4 x5 x6 x7 h1
    exact fr_kX2_casesAheadOf_23 n0 (kX2_casesAheadOf_23L n) ih s x1 x2 x3 x4 x5 x6 x7 h1

theorem fr_kX2_casesAheadOf (n0 : SD) (s : JS) (x2 : Int32) (x3 : Int32) (h1 : s.d = n0) : Pt (kX2_casesAheadOf s x2 x3) (fun y => y.2.d = n0) := by
  unfold kX2_casesAheadOf
  exact pt_bindI (P := (fun y => y.2.d = n0)) (fr_kX2_fillNear n0 s h1) (fun r2 s1 qs1 => pt_bindI (P := (fun y => y.2.d = n0)) (fr_kX2_fillFar n0 s1 qs1) (fun r4 s3 qs3 => fr_kX2_casesAheadOf_23L n0 _ s3 _ _ _ _ _ _ _ qs3))

theorem fr_kX2_caseAtRank_88 (n0 : SD) (k35 : JS → Int32 → Int32 → Int32 → Int32 → Int32 → Option (Int32 × JS)) (k45 : JS → Int32 → Int32 → Int32 → Int32 → Int32 → Int32 → Option (Int32 × JS)) (hk35 : ∀ (a0 : JS) (a1 : Int32) (a2 : Int32) (a3 : Int32) (a4 : Int32) (a5 : Int32), a0.d = n0 → Pt (k35 a0 a1 a2 a3 a4 a5) (fun y => y.2.d = n0)) (hk45 : ∀ (a0 : JS) (a1 : Int32) (a2 : Int32) (a3 : Int32) (a4 : Int32) (a5 : Int32) (a6 : Int32), a0.d = n0 → Pt (k45 a0 a1 a2 a3 a4 a5 a6) (fun y => y.2.d = n0)) (s : JS) (x2 : Int32) (x3 : Int32) (x4 : Int32) (x5 : Int32) (x6 : Int32) (x7 : Int32) (h1 : s.d = n0) : Pt (kX2_caseAtRank_88 k35 k45 s x2 x3 x4 x5 x6 x7) (fun y => y.2.d = n0) := by
  unfold kX2_caseAtRank_88
  exact hk45 _ _ _ _ _ _ _ h1

theorem fr_kX2_caseAtRank_45 (n0 : SD) (k35 : JS → Int32 → Int32 → Int32 → Int32 → Int32 → Option (Int32 × JS)) (k45 : JS → Int32 → Int32 → Int32 → Int32 → Int32 → Int32 → Option (Int32 × JS)) (hk35 : ∀ (a0 : JS) (a1 : Int32) (a2 : Int32) (a3 : Int32) (a4 : Int32) (a5 : Int32), a0.d = n0 → Pt (k35 a0 a1 a2 a3 a4 a5) (fun y => y.2.d = n0)) (hk45 : ∀ (a0 : JS) (a1 : Int32) (a2 : Int32) (a3 : Int32) (a4 : Int32) (a5 : Int32) (a6 : Int32), a0.d = n0 → Pt (k45 a0 a1 a2 a3 a4 a5 a6) (fun y => y.2.d = n0)) (s : JS) (x2 : Int32) (x3 : Int32) (x4 : Int32) (x5 : Int32) (x6 : Int32) (x7 : Int32) (h1 : s.d = n0) : Pt (kX2_caseAtRank_45 k35 k45 s x2 x3 x4 x5 x6 x7) (fun y => y.2.d = n0) := by
  unfold kX2_caseAtRank_45
  exact pt_ite (fun _ => hk35 _ _ _ _ _ _ h1) (fun _ => pt_ite (fun _ => pt_ite (fun _ => pt_ite (fun _ => pt_ite (fun _ => fr_kX2_caseAtRank_88 n0 _ _ hk35 hk45 s _ _ _ _ _ _ h1) (fun _ => pt_bindP (P := fun _ => True) (fun _ _ => trivial) (fun s6 _ => pt_let (P := (fun s : JS => s.d = n0)) h1 (fun s7 qs7 => fr_kX2_caseAtRank_88 n0 _ _ hk35 hk45 s7 _ _ _ _ _ _ qs7)))) (fun _ => pt_none)) (fun _ => pt_none)) (fun _ => pt_none))

theorem fr_kX2_caseAtRank_45L (n0 : SD) (k35 : JS → Int32 → Int32 → Int32 → Int32 → Int32 → Option (Int32 × JS)) (hk35 : ∀ (a0 : JS) (a1 : Int32) (a2 : Int32) (a3 : Int32) (a4 : Int32) (a5 : Int32), a0.d = n0 → Pt (k35 a0 a1 a2 a3 a4 a5) (fun y => y.2.d = n0)) : ∀ (n : Nat) (s : JS) (x1 : Int32) (x2 : Int32) (x3 : Int32) (x4 : Int32) (x5 : Int32) (x6 : Int32), s.d = n0 → Pt (kX2_caseAtRank_45L k35 n s x1 x2 x3 x4 x5 x6) (fun y => y.2.d = n0) := by
  intro n
  induction n with
  | zero => intro _ _ _ _ _ _ _ _; exact pt_none
  | succ n ih =>
    intro s x1 x2 x3 x4 x5 x6 h1
    exact fr_kX2_caseAtRank_45 n0 k35 (kX2_caseAtRank_45L k35 n) hk35 ih s x1 x2 x3 x4 x5 x6 h1

theorem fr_kX2_caseAtRank_35 (n0 : SD) (k35 : JS → Int32 → Int32 → Int32 → Int32 → Int32 → Option (Int32 × JS)) (hk35 : ∀ (a0 : JS) (a1 : Int32) (a2 : Int32) (a3 : Int32) (a4 : Int32) (a5 : Int32), a0.d = n0 → Pt (k35 a0 a1 a2 a3 a4 a5) (fun y => y.2.d = n0)) (s : JS) (x2 : Int32) (x3 : Int32) (x4 : Int32) (x5 : Int32) (x6 : Int32) (h1 : s.d = n0) : Pt (kX2_caseAtRank_35 k35 s x2 x3 x4 x5 x6) (fun y => y.2.d = n0) := by
  unfold kX2_caseAtRank_35
  exact pt_ite (fun _ => pt_ite (fun _ => pt_some h1) (fun _ => pt_none)) (fun _ => fr_kX2_caseAtRank_45L n0 _ hk35 _ s _ _ _ _ _ _ h1)

theorem fr_kX2_caseAtRank_35L (n0 : SD) : ∀ (n : Nat) (s : JS) (x1 : Int32) (x2 : Int32) (x3 : Int32) (x4 : Int32) (x5 : Int32), s.d = n0 → Pt (kX2_caseAtRank_35L n s x1 x2 x3 x4 x5) (fun y => y.2.d = n0) := by
  intro n
  induction n with
  | zero => intro _ _ _ _ _ _ _; exact pt_none
  | succ n ih =>
    intro s x1 x2 x3 x4 x5 h1
    exact fr_kX2_caseAtRank_35 n0 (kX2_caseAtRank_35L n) ih s x1 x2 x3 x4 x5 h1

theorem fr_kX2_caseAtRank (n0 : SD) (s : JS) (x2 : Int32) (h1 : s.d = n0) : Pt (kX2_caseAtRank s x2) (fun y => y.2.d = n0) := by
  unfold kX2_caseAtRank
  exact pt_bindI (P := (fun y => y.2.d = n0)) (fr_kX2_fillNear n0 s h1) (fun r2 s1 qs1 => pt_bindI (P := (fun y => y.2.d = n0)) (fr_kX2_fillFar n0 s1 qs1) (fun r4 s3 qs3 => pt_bindP (P := fun _ => True) (fun _ _ => trivial) (fun s5 _ => pt_let (P := (fun s : JS => s.d = n0)) qs3 (fun s6 qs6 => pt_bindP (P := fun _ => True) (fun _ _ => trivial) (fun s8 _ => pt_let (P := (fun s : JS => s.d = n0)) qs6 (fun s9 qs9 => fr_kX2_caseAtRank_35L n0 _ s9 _ _ _ _ _ qs9))))))

theorem fr_kX2_unfind_28 (n0 : SD) (k2 : JS → Int32 → Int32 → Option JS) (hk2 : ∀ (a0 : JS) (a1 : Int32) (a2 : Int32), a0.d = n0 → Pt (k2 a0 a1 a2) (fun y => y.d = n0)) (s : JS) (x2 : Int32) (x3 : Int32) (h1 : s.d = n0) : Pt (kX2_unfind_28 k2 s x2 x3) (fun y => y.d = n0) := by
  unfold kX2_unfind_28
  exact hk2 _ _ _ h1

theorem fr_kX10_odds (g0 : GS) (n0 : SD) (s : XS) (x1 : Int32) (x2 : Int32) (h1 : s.g = g0 ∧ s.n = n0) : Pt (kX10_odds s x1 x2) (fun y => y.2.g = g0 ∧ y.2.n = n0) := by
  unfold kX10_odds
  exact pt_bindI (P := fun _ => True) (fun _ _ => trivial) (fun r2 s1 _ => pt_let (P := (fun s : XS => s.g = g0 ∧ s.n = n0)) ⟨h1.1, h1.2⟩ (fun s3 qs3 => pt_ite (fun _ => pt_some qs3) (fun _ => pt_bindP (P := fun _ => True) (fun _ _ => trivial) (fun r6 _ => pt_ite (fun _ => pt_some qs3) (fun _ => pt_bindI (P := fun _ => True) (fun _ _ => trivial) (fun r9 s8 _ => pt_let (P := (fun s : XS => s.g = g0 ∧ s.n = n0)) ⟨qs3.1, qs3.2⟩ (fun s10 qs10 => pt_some qs10)))))))

theorem fr_kX10_cases (g0 : GS) (n0 : SD) (s : XS) (h1 : s.g = g0 ∧ s.n = n0) : Pt (kX10_cases s) (fun y => y.2.g = g0 ∧ y.2.n = n0) := by
  unfold kX10_cases
  exact pt_bindI (P := (fun y => y.2.d = n0)) (fr_kX2_caseCount n0 (JS.mk s.k s.n) h1.2) (fun r2 s1 qs1 => pt_let (P := (fun s : XS => s.g = g0 ∧ s.n = n0)) ⟨h1.1, qs1⟩ (fun s3 qs3 => pt_some qs3))

theorem fr_kX10_chance (g0 : GS) (n0 : SD) (s : XS) (x1 : Int32) (h1 : s.g = g0 ∧ s.n = n0) : Pt (kX10_chance s x1) (fun y => y.2.g = g0 ∧ y.2.n = n0) := by
  unfold kX10_chance
  exact pt_bindI (P := fun _ => True) (fun _ _ => trivial) (fun r2 s1 _ => pt_let (P := (fun s : XS => s.g = g0 ∧ s.n = n0)) ⟨h1.1, h1.2⟩ (fun s3 qs3 => pt_ite (fun _ => pt_some qs3) (fun _ => pt_bindI (P := (fun y => y.2.d = n0)) (fr_kX2_oddsOf n0 (JS.mk s3.k s3.n) _ qs3.2) (fun r7 s6 qs6 => pt_let (P := (fun s : XS => s.g = g0 ∧ s.n = n0)) ⟨qs3.1, qs6⟩ (fun s8 qs8 => pt_some qs8)))))

theorem fr_kX10_enough (g0 : GS) (n0 : SD) (s : XS) (h1 : s.g = g0 ∧ s.n = n0) : Pt (kX10_enough s) (fun y => y.2.g = g0 ∧ y.2.n = n0) := by
  unfold kX10_enough
  exact pt_bindI (P := (fun y => y.2.d = n0)) (fr_kX2_caseCount n0 (JS.mk s.k s.n) h1.2) (fun r2 s1 qs1 => pt_let (P := (fun s : XS => s.g = g0 ∧ s.n = n0)) ⟨h1.1, qs1⟩ (fun s3 qs3 => pt_ite (fun _ => pt_some qs3) (fun _ => pt_bindI (P := (fun y => y.2.d = n0)) (fr_kX2_goesAtMost n0 (JS.mk s3.k s3.n) qs3.2) (fun r7 s6 qs6 => pt_let (P := (fun s : XS => s.g = g0 ∧ s.n = n0)) ⟨qs3.1, qs6⟩ (fun s8 qs8 => pt_some qs8)))))

theorem fr_kX10_left (g0 : GS) (n0 : SD) (s : XS) (x1 : Int32) (h1 : s.g = g0 ∧ s.n = n0) : Pt (kX10_left s x1) (fun y => y.2.g = g0 ∧ y.2.n = n0) := by
  unfold kX10_left
  exact pt_bindI (P := fun _ => True) (fun _ _ => trivial) (fun r2 s1 _ => pt_let (P := (fun s : XS => s.g = g0 ∧ s.n = n0)) ⟨h1.1, h1.2⟩ (fun s3 qs3 => pt_ite (fun _ => pt_some qs3) (fun _ => pt_bindI (P := (fun y => y.2.d = n0)) (fr_kX2_caseCount n0 (JS.mk s3.k s3.n) qs3.2) (fun r7 s6 qs6 => pt_let (P := (fun s : XS => s.g = g0 ∧ s.n = n0)) ⟨qs3.1, qs6⟩ (fun s8 qs8 => pt_ite (fun _ => pt_some qs8) (fun _ => pt_bindI (P := (fun y => y.2.d = n0)) (fr_kX2_leftBehind n0 (JS.mk s8.k s8.n) _ qs8.2) (fun r12 s11 qs11 => pt_let (P := (fun s : XS => s.g = g0 ∧ s.n = n0)) ⟨qs8.1, qs11⟩ (fun s13 qs13 => pt_some qs13))))))))

theorem fr_kX10_wisest_11 (g0 : GS) (n0 : SD) (s : XS) (x1 : Int32) (h1 : s.g = g0 ∧ s.n = n0) : Pt (kX10_wisest_11 s x1) (fun y => y.2.g = g0 ∧ y.2.n = n0) := by
  unfold kX10_wisest_11
  exact pt_bindI (P := (fun y => y.2.d = n0)) (fr_kX2_caseCount n0 (JS.mk s.k s.n) h1.2) (fun r2 s1 qs1 => pt_let (P := (fun s : XS => s.g = g0 ∧ s.n = n0)) ⟨h1.1, qs1⟩ (fun s3 qs3 => pt_ite (fun _ => pt_some qs3) (fun _ => pt_bindI (P := (fun y => y.2.d = n0)) (fr_kX2_wisestGuess n0 (JS.mk s3.k s3.n) qs3.2) (fun r7 s6 qs6 => pt_let (P := (fun s : XS => s.g = g0 ∧ s.n = n0)) ⟨qs3.1, qs6⟩ (fun s8 qs8 => pt_ite (fun _ => pt_some qs8) (fun _ => pt_bindI (P := (fun y => y.2.d = n0)) (fr_kX2_leftBehind n0 (JS.mk s8.k s8.n) _ qs8.2) (fun r12 s11 qs11 => pt_let (P := (fun s : XS => s.g = g0 ∧ s.n = n0)) ⟨qs8.1, qs11⟩ (fun s13 qs13 => pt_some qs13))))))))

theorem fr_kX10_wisest (g0 : GS) (n0 : SD) (s : XS) (x1 : Int32) (h1 : s.g = g0 ∧ s.n = n0) : Pt (kX10_wisest s x1) (fun y => y.2.g = g0 ∧ y.2.n = n0) := by
  unfold kX10_wisest
  exact pt_ite (fun _ => fr_kX10_wisest_11 g0 n0 s _ h1) (fun _ => pt_ite (fun _ => fr_kX10_wisest_11 g0 n0 s _ h1) (fun _ => pt_some h1))

theorem fr_kX10_rank (g0 : GS) (n0 : SD) (s : XS) (x1 : Int32) (h1 : s.g = g0 ∧ s.n = n0) : Pt (kX10_rank s x1) (fun y => y.2.g = g0 ∧ y.2.n = n0) := by
  unfold kX10_rank
  exact pt_bindI (P := fun _ => True) (fun _ _ => trivial) (fun r2 s1 _ => pt_let (P := (fun s : XS => s.g = g0 ∧ s.n = n0)) ⟨h1.1, h1.2⟩ (fun s3 qs3 => pt_ite (fun _ => pt_some qs3) (fun _ => pt_bindI (P := (fun y => y.2.d = n0)) (fr_kX2_oddsOf n0 (JS.mk s3.k s3.n) _ qs3.2) (fun r7 s6 qs6 => pt_let (P := (fun s : XS => s.g = g0 ∧ s.n = n0)) ⟨qs3.1, qs6⟩ (fun s8 qs8 => pt_ite (fun _ => pt_some qs8) (fun _ => pt_bindI (P := (fun y => y.2.d = n0)) (fr_kX2_casesAheadOf n0 (JS.mk s8.k s8.n) _ _ qs8.2) (fun r12 s11 qs11 => pt_let (P := (fun s : XS => s.g = g0 ∧ s.n = n0)) ⟨qs8.1, qs11⟩ (fun s13 qs13 => pt_some qs13))))))))

theorem fr_kX10_ranked (g0 : GS) (n0 : SD) (s : XS) (x1 : Int32) (h1 : s.g = g0 ∧ s.n = n0) : Pt (kX10_ranked s x1) (fun y => y.2.g = g0 ∧ y.2.n = n0) := by
  unfold kX10_ranked
  exact pt_ite (fun _ => pt_some h1) (fun _ => pt_ite (fun _ => pt_bindI (P := (fun y => y.2.d = n0)) (fr_kX2_caseAtRank n0 (JS.mk s.k s.n) _ h1.2) (fun r4 s3 qs3 => pt_let (P := (fun s : XS => s.g = g0 ∧ s.n = n0)) ⟨h1.1, qs3⟩ (fun s5 qs5 => pt_some qs5))) (fun _ => pt_some h1))

theorem fr_kX10_alike_26 (g0 : GS) (n0 : SD) (k26 : XS → Int32 → Int32 → Int32 → Option (Int32 × XS)) (hk26 : ∀ (a0 : XS) (a1 : Int32) (a2 : Int32) (a3 : Int32), a0.g = g0 ∧ a0.n = n0 → Pt (k26 a0 a1 a2 a3) (fun y => y.2.g = g0 ∧ y.2.n = n0)) (s : XS) (x1 : Int32) (x2 : Int32) (x3 : Int32) (h1 : s.g = g0 ∧ s.n = n0) : Pt (kX10_alike_26 k26 s x1 x2 x3) (fun y => y.2.g = g0 ∧ y.2.n = n0) := by
  unfold kX10_alike_26
  exact pt_ite (fun _ => pt_some h1) (fun _ => pt_bindP (P := fun _ => True) (fun _ _ => trivial) (fun r2 _ => pt_bindP (P := fun _ => True) (fun _ _ => trivial) (fun r3 _ => pt_ite (fun _ => hk26 _ _ _ _ h1) (fun _ => pt_some h1))))

theorem fr_kX10_alike_26L (g0 : GS) (n0 : SD) : ∀ (n : Nat) (s : XS) (x1 : Int32) (x2 : Int32) (x3 : Int32), s.g = g0 ∧ s.n = n0 → Pt (kX10_alike_26L n s x1 x2 x3) (fun y => y.2.g = g0 ∧ y.2.n = n0) := by
  intro n
  induction n with
  | zero => intro _ _ _ _ _; exact pt_none
  | succ n ih =>
    intro s x1 x2 x3 h1
    exact fr_kX10_alike_26 g0 n0 (kX10_alike_26L n) ih s x1 x2 x3 h1
