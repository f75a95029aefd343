/-! ===== what the queries leave as it was ===== -/
theorem fr_kX10_alike (g0 : GS) (n0 : SD) (s : XS) (x1 : Int32) (x2 : Int32) (h1 : s.g = g0 ∧ s.n = n0) : Pt (kX10_alike s x1 x2) (fun y => y.2.g = g0 ∧ y.2.n = n0) := by
  unfold kX10_alike
  exact pt_bindI (P := fun _ => True) (fun _ _ => trivial) (fun r2 s1 _ => pt_let (P := (fun s : XS => s.g = g0 ∧ s.n = n0)) ⟨h1.1, h1.2⟩ (fun s3 qs3 => pt_ite (fun _ => pt_some qs3) (fun _ => pt_bindI (P := fun _ => True) (fun _ _ => trivial) (fun r7 s6 _ => pt_let (P := (fun s : XS => s.g = g0 ∧ s.n = n0)) ⟨qs3.1, qs3.2⟩ (fun s8 qs8 => pt_ite (fun _ => pt_some qs8) (fun _ => fr_kX10_alike_26L g0 n0 _ s8 _ _ _ qs8))))))

theorem fr_kX10_spread (g0 : GS) (n0 : SD) (s : XS) (x1 : Int32) (h1 : s.g = g0 ∧ s.n = n0) : Pt (kX10_spread s x1) (fun y => y.2.g = g0 ∧ y.2.n = n0) := by
  unfold kX10_spread
  exact pt_bindI (P := fun _ => True) (fun _ _ => trivial) (fun r2 s1 _ => pt_let (P := (fun s : XS => s.g = g0 ∧ s.n = n0)) ⟨h1.1, h1.2⟩ (fun s3 qs3 => pt_ite (fun _ => pt_some qs3) (fun _ => pt_bindI (P := (fun y => y.2.d = n0)) (fr_kX2_oddsApart n0 (JS.mk s3.k s3.n) _ qs3.2) (fun r7 s6 qs6 => pt_let (P := (fun s : XS => s.g = g0 ∧ s.n = n0)) ⟨qs3.1, qs6⟩ (fun s8 qs8 => pt_some qs8)))))

theorem fr_kX10_open_40 (g0 : GS) (n0 : SD) (k4 : XS → Int32 → Int32 → Option (Int32 × XS)) (hk4 : ∀ (a0 : XS) (a1 : Int32) (a2 : Int32), a0.g = g0 ∧ a0.n = n0 → Pt (k4 a0 a1 a2) (fun y => y.2.g = g0 ∧ y.2.n = n0)) (s : XS) (x1 : Int32) (x2 : Int32) (h1 : s.g = g0 ∧ s.n = n0) : Pt (kX10_open_40 k4 s x1 x2) (fun y => y.2.g = g0 ∧ y.2.n = n0) := by
  unfold kX10_open_40
  exact hk4 _ _ _ h1

theorem fr_kX10_open_4 (g0 : GS) (n0 : SD) (k4 : XS → Int32 → Int32 → Option (Int32 × XS)) (hk4 : ∀ (a0 : XS) (a1 : Int32) (a2 : Int32), a0.g = g0 ∧ a0.n = n0 → Pt (k4 a0 a1 a2) (fun y => y.2.g = g0 ∧ y.2.n = n0)) (s : XS) (x1 : Int32) (x2 : Int32) (h1 : s.g = g0 ∧ s.n = n0) : Pt (kX10_open_4 k4 s x1 x2) (fun y => y.2.g = g0 ∧ y.2.n = n0) := by
  unfold kX10_open_4
  exact pt_ite (fun _ => pt_some h1) (fun _ => pt_bindI (P := (fun y => y.2.d = n0)) (fr_kX0_mayBe n0 (JS.mk s.k s.n) _ h1.2) (fun r3 s2 qs2 => pt_let (P := (fun s : XS => s.g = g0 ∧ s.n = n0)) ⟨h1.1, qs2⟩ (fun s4 qs4 => pt_bindP (P := fun _ => True) (fun _ _ => trivial) (fun r6 _ => pt_ite (fun _ => fr_kX10_open_40 g0 n0 _ hk4 s4 _ _ qs4) (fun _ => fr_kX10_open_40 g0 n0 _ hk4 s4 _ _ qs4)))))

theorem fr_kX10_open_4L (g0 : GS) (n0 : SD) : ∀ (n : Nat) (s : XS) (x1 : Int32) (x2 : Int32), s.g = g0 ∧ s.n = n0 → Pt (kX10_open_4L n s x1 x2) (fun y => y.2.g = g0 ∧ y.2.n = n0) := by
  intro n
  induction n with
  | zero => intro _ _ _ _; exact pt_none
  | succ n ih =>
    intro s x1 x2 h1
    exact fr_kX10_open_4 g0 n0 (kX10_open_4L n) ih s x1 x2 h1

theorem fr_kX10_open (g0 : GS) (n0 : SD) (s : XS) (h1 : s.g = g0 ∧ s.n = n0) : Pt (kX10_open s) (fun y => y.2.g = g0 ∧ y.2.n = n0) := by
  unfold kX10_open
  exact fr_kX10_open_4L g0 n0 _ s _ _ h1

theorem fr_kX10_buoysLying_4 (g0 : GS) (n0 : SD) (k4 : XS → Int32 → Int32 → Option (Int32 × XS)) (hk4 : ∀ (a0 : XS) (a1 : Int32) (a2 : Int32), a0.g = g0 ∧ a0.n = n0 → Pt (k4 a0 a1 a2) (fun y => y.2.g = g0 ∧ y.2.n = n0)) (s : XS) (x1 : Int32) (x2 : Int32) (h1 : s.g = g0 ∧ s.n = n0) : Pt (kX10_buoysLying_4 k4 s x1 x2) (fun y => y.2.g = g0 ∧ y.2.n = n0) := by
  unfold kX10_buoysLying_4
  exact pt_ite (fun _ => pt_some h1) (fun _ => pt_ite (fun _ => pt_bindP (P := fun _ => True) (fun _ _ => trivial) (fun r3 _ => hk4 _ _ _ h1)) (fun _ => pt_none))

theorem fr_kX10_buoysLying_4L (g0 : GS) (n0 : SD) : ∀ (n : Nat) (s : XS) (x1 : Int32) (x2 : Int32), s.g = g0 ∧ s.n = n0 → Pt (kX10_buoysLying_4L n s x1 x2) (fun y => y.2.g = g0 ∧ y.2.n = n0) := by
  intro n
  induction n with
  | zero => intro _ _ _ _; exact pt_none
  | succ n ih =>
    intro s x1 x2 h1
    exact fr_kX10_buoysLying_4 g0 n0 (kX10_buoysLying_4L n) ih s x1 x2 h1

theorem fr_kX10_buoysLying (g0 : GS) (n0 : SD) (s : XS) (h1 : s.g = g0 ∧ s.n = n0) : Pt (kX10_buoysLying s) (fun y => y.2.g = g0 ∧ y.2.n = n0) := by
  unfold kX10_buoysLying
  exact fr_kX10_buoysLying_4L g0 n0 _ s _ _ h1

theorem fr_kX2_oddsOfAll_61 (n0 : SD) (k5 : JS → Int32 → Int32 → Int32 → Option (Int32 × JS)) (hk5 : ∀ (a0 : JS) (a1 : Int32) (a2 : Int32) (a3 : Int32), a0.d = n0 → Pt (k5 a0 a1 a2 a3) (fun y => y.2.d = n0)) (s : JS) (x2 : Int32) (x3 : Int32) (x4 : Int32) (h1 : s.d = n0) : Pt (kX2_oddsOfAll_61 k5 s x2 x3 x4) (fun y => y.2.d = n0) := by
  unfold kX2_oddsOfAll_61
  exact hk5 _ _ _ _ h1

theorem fr_kX2_oddsOfAll_29 (n0 : SD) (k5 : JS → Int32 → Int32 → Int32 → Option (Int32 × JS)) (k29 : JS → Int32 → Int32 → Int32 → Int32 → Int32 → Option (Int32 × JS)) (hk5 : ∀ (a0 : JS) (a1 : Int32) (a2 : Int32) (a3 : Int32), a0.d = n0 → Pt (k5 a0 a1 a2 a3) (fun y => y.2.d = n0)) (hk29 : ∀ (a0 : JS) (a1 : Int32) (a2 : Int32) (a3 : Int32) (a4 : Int32) (a5 : Int32), a0.d = n0 → Pt (k29 a0 a1 a2 a3 a4 a5) (fun y => y.2.d = n0)) (s : JS) (x2 : Int32) (x3 : Int32) (x4 : Int32) (x5 : Int32) (x6 : Int32) (h1 : s.d = n0) : Pt (kX2_oddsOfAll_29 k5 k29 s x2 x3 x4 x5 x6) (fun y => y.2.d = n0) := by
  unfold kX2_oddsOfAll_29
  exact pt_ite (fun _ => fr_kX2_oddsOfAll_61 n0 _ hk5 s _ _ _ h1) (fun _ => pt_bindI (P := (fun y => y.2.d = n0)) (fr_kX2_oddsIfMay n0 s _ _ h1) (fun r3 s2 qs2 => hk29 _ _ _ _ _ _ qs2))

theorem fr_kX2_oddsOfAll_29L (n0 : SD) (k5 : JS → Int32 → Int32 → Int32 → Option (Int32 × JS)) (hk5 : ∀ (a0 : JS) (a1 : Int32) (a2 : Int32) (a3 : Int32), a0.d = n0 → Pt (k5 a0 a1 a2 a3) (fun y => y.2.d = n0)) : ∀ (n : Nat) (s : JS) (x1 : Int32) (x2 : Int32) (x3 : Int32) (x4 : Int32) (x5 : Int32), s.d = n0 → Pt (kX2_oddsOfAll_29L k5 n s x1 x2 x3 x4 x5) (fun y => y.2.d = n0) := by
  intro n
  induction n with
  | zero => intro _ _ _ _ _ _ _; exact pt_none
  | succ n ih =>
    intro s x1 x2 x3 x4 x5 h1
    exact fr_kX2_oddsOfAll_29 n0 k5 (kX2_oddsOfAll_29L k5 n) hk5 ih s x1 x2 x3 x4 x5 h1

theorem fr_kX2_oddsOfAll_5 (n0 : SD) (k5 : JS → Int32 → Int32 → Int32 → Option (Int32 × JS)) (hk5 : ∀ (a0 : JS) (a1 : Int32) (a2 : Int32) (a3 : Int32), a0.d = n0 → Pt (k5 a0 a1 a2 a3) (fun y => y.2.d = n0)) (s : JS) (x2 : Int32) (x3 : Int32) (x4 : Int32) (h1 : s.d = n0) : Pt (kX2_oddsOfAll_5 k5 s x2 x3 x4) (fun y => y.2.d = n0) := by
  unfold kX2_oddsOfAll_5
  exact pt_ite (fun _ => pt_some h1) (fun _ => pt_ite (fun _ => fr_kX2_oddsOfAll_61 n0 _ hk5 s _ _ _ h1) (fun _ => fr_kX2_oddsOfAll_29L n0 _ hk5 _ s _ _ _ _ _ h1))

theorem fr_kX2_oddsOfAll_5L (n0 : SD) : ∀ (n : Nat) (s : JS) (x1 : Int32) (x2 : Int32) (x3 : Int32), s.d = n0 → Pt (kX2_oddsOfAll_5L n s x1 x2 x3) (fun y => y.2.d = n0) := by
  intro n
  induction n with
  | zero => intro _ _ _ _ _; exact pt_none
  | succ n ih =>
    intro s x1 x2 x3 h1
    exact fr_kX2_oddsOfAll_5 n0 (kX2_oddsOfAll_5L n) ih s x1 x2 x3 h1

theorem fr_kX2_oddsOfAll (n0 : SD) (s : JS) (x2 : Int32) (h1 : s.d = n0) : Pt (kX2_oddsOfAll s x2) (fun y => y.2.d = n0) := by
  unfold kX2_oddsOfAll
  exact fr_kX2_oddsOfAll_5L n0 _ s _ _ _ h1

theorem fr_kX8_believe_73 (n0 : SD) (k2 : JS → Int32 → Int32 → Option JS) (k27 : JS → Int32 → Int32 → Int32 → Int32 → Option JS) (hk2 : ∀ (a0 : JS) (a1 : Int32) (a2 : Int32), a0.d = n0 → Pt (k2 a0 a1 a2) (fun y => y.d = n0)) (hk27 : ∀ (a0 : JS) (a1 : Int32) (a2 : Int32) (a3 : Int32) (a4 : Int32), a0.d = n0 → Pt (k27 a0 a1 a2 a3 a4) (fun y => y.d = n0)) (s : JS) (x2 : Int32) (x3 : Int32) (x4 : Int32) (x5 : Int32) (x6 : Int32) (t0 : Int32) (t1 : Int32) (h1 : s.d = n0) : Pt (kX8_believe_73 k2 k27 s x2 x3 x4 x5 x6 t0 t1) (fun y => y.d = n0) := by
  unfold kX8_believe_73
  exact pt_ite (fun _ => pt_let (P := (fun s : JS => s.d = n0)) h1 (fun s2 qs2 => pt_bindI (P := fun _ => True) (fun _ _ => trivial) (fun r5 s4 _ => pt_let (P := (fun s : JS => s.d = n0)) qs2 (fun s6 qs6 => pt_ite (fun _ => pt_let (P := (fun s : JS => s.d = n0)) qs6 (fun s9 qs9 => hk27 _ _ _ _ _ qs9)) (fun _ => pt_none))))) (fun _ => pt_none)

theorem fr_kX8_believe_27 (n0 : SD) (k2 : JS → Int32 → Int32 → Option JS) (k27 : JS → Int32 → Int32 → Int32 → Int32 → Option JS) (hk2 : ∀ (a0 : JS) (a1 : Int32) (a2 : Int32), a0.d = n0 → Pt (k2 a0 a1 a2) (fun y => y.d = n0)) (hk27 : ∀ (a0 : JS) (a1 : Int32) (a2 : Int32) (a3 : Int32) (a4 : Int32), a0.d = n0 → Pt (k27 a0 a1 a2 a3 a4) (fun y => y.d = n0)) (s : JS) (x2 : Int32) (x3 : Int32) (x4 : Int32) (x5 : Int32) (h1 : s.d = n0) : Pt (kX8_believe_27 k2 k27 s x2 x3 x4 x5) (fun y => y.d = n0) := by
  unfold kX8_believe_27
  exact pt_ite (fun _ => hk2 _ _ _ h1) (fun _ => pt_bindP (P := fun _ => True) (fun _ _ => trivial) (fun r2 _ => pt_ite (fun _ => fr_kX8_believe_73 n0 _ _ hk2 hk27 s _ _ _ _ _ _ _ h1) (fun _ => pt_bindI (P := fun _ => True) (fun _ _ => trivial) (fun r5 s4 _ => pt_let (P := (fun s : JS => s.d = n0)) h1 (fun s6 qs6 => fr_kX8_believe_73 n0 _ _ hk2 hk27 s6 _ _ _ _ _ _ _ qs6)))))

theorem fr_kX8_believe_27L (n0 : SD) (k2 : JS → Int32 → Int32 → Option JS) (hk2 : ∀ (a0 : JS) (a1 : Int32) (a2 : Int32), a0.d = n0 → Pt (k2 a0 a1 a2) (fun y => y.d = n0)) : ∀ (n : Nat) (s : JS) (x1 : Int32) (x2 : Int32) (x3 : Int32) (x4 : Int32), s.d = n0 → Pt (kX8_believe_27L k2 n s x1 x2 x3 x4) (fun y => y.d = n0) := by
  intro n
  induction n with
  | zero => intro _ _ _ _ _ _; exact pt_none
  | succ n ih =>
    intro s x1 x2 x3 x4 h1
    exact fr_kX8_believe_27 n0 k2 (kX8_believe_27L k2 n) hk2 ih s x1 x2 x3 x4 h1

theorem fr_kX8_believe_2 (n0 : SD) (k2 : JS → Int32 → Int32 → Option JS) (hk2 : ∀ (a0 : JS) (a1 : Int32) (a2 : Int32), a0.d = n0 → Pt (k2 a0 a1 a2) (fun y => y.d = n0)) (s : JS) (x2 : Int32) (x3 : Int32) (h1 : s.d = n0) : Pt (kX8_believe_2 k2 s x2 x3) (fun y => y.d = n0) := by
  unfold kX8_believe_2
  exact pt_ite (fun _ => pt_some h1) (fun _ => pt_bindI (P := (fun y => y.2.d = n0)) (fr_kX0_mayBe n0 s _ h1) (fun r3 s2 qs2 => fr_kX8_believe_27L n0 _ hk2 _ s2 _ _ _ _ qs2))

theorem fr_kX8_believe_2L (n0 : SD) : ∀ (n : Nat) (s : JS) (x1 : Int32) (x2 : Int32), s.d = n0 → Pt (kX8_believe_2L n s x1 x2) (fun y => y.d = n0) := by
  intro n
  induction n with
  | zero => intro _ _ _ _; exact pt_none
  | succ n ih =>
    intro s x1 x2 h1
    exact fr_kX8_believe_2 n0 (kX8_believe_2L n) ih s x1 x2 h1

theorem fr_kX8_believe (n0 : SD) (s : JS) (x2 : Int32) (h1 : s.d = n0) : Pt (kX8_believe s x2) (fun y => y.d = n0) := by
  unfold kX8_believe
  exact fr_kX8_believe_2L n0 _ s _ _ h1

theorem fr_kX10_all (g0 : GS) (n0 : SD) (s : XS) (h1 : s.g = g0 ∧ s.n = n0) : Pt (kX10_all s) (fun y => y.2.g = g0 ∧ y.2.n = n0) := by
  unfold kX10_all
  exact pt_bindI (P := (fun y => y.2.d = n0)) (fr_kX2_oddsOfAll n0 (JS.mk s.k s.n) _ h1.2) (fun r2 s1 qs1 => pt_let (P := (fun s : XS => s.g = g0 ∧ s.n = n0)) ⟨h1.1, qs1⟩ (fun s3 qs3 => pt_some qs3))

theorem fr_kX10_share (g0 : GS) (n0 : SD) (s : XS) (x1 : Int32) (x2 : Int32) (h1 : s.g = g0 ∧ s.n = n0) : Pt (kX10_share s x1 x2) (fun y => y.2.g = g0 ∧ y.2.n = n0) := by
  unfold kX10_share
  exact pt_bindI (P := fun _ => True) (fun _ _ => trivial) (fun r2 s1 _ => pt_let (P := (fun s : XS => s.g = g0 ∧ s.n = n0)) ⟨h1.1, h1.2⟩ (fun s3 qs3 => pt_ite (fun _ => pt_some qs3) (fun _ => pt_bindP (P := fun _ => True) (fun _ _ => trivial) (fun r6 _ => pt_ite (fun _ => pt_some qs3) (fun _ => pt_bindI (P := (fun y => y.2.d = n0)) (fr_kX0_mayBe n0 (JS.mk s3.k s3.n) _ qs3.2) (fun r9 s8 qs8 => pt_let (P := (fun s : XS => s.g = g0 ∧ s.n = n0)) ⟨qs3.1, qs8⟩ (fun s10 qs10 => pt_bindP (P := fun _ => True) (fun _ _ => trivial) (fun r12 _ => pt_ite (fun _ => pt_some qs10) (fun _ => pt_bindI (P := fun _ => True) (fun _ _ => trivial) (fun r15 s14 _ => pt_let (P := (fun s : XS => s.g = g0 ∧ s.n = n0)) ⟨qs10.1, qs10.2⟩ (fun s16 qs16 => pt_bindI (P := (fun y => y.2.d = n0)) (fr_kX2_oddsOfAll n0 (JS.mk s16.k s16.n) _ qs16.2) (fun r19 s18 qs18 => pt_let (P := (fun s : XS => s.g = g0 ∧ s.n = n0)) ⟨qs16.1, qs18⟩ (fun s20 qs20 => pt_some qs20)))))))))))))

theorem fr_kX10_drawn_29 (g0 : GS) (n0 : SD) (k29 : XS → Int32 → Int32 → Int32 → Int32 → Option (Int32 × XS)) (hk29 : ∀ (a0 : XS) (a1 : Int32) (a2 : Int32) (a3 : Int32) (a4 : Int32), a0.g = g0 ∧ a0.n = n0 → Pt (k29 a0 a1 a2 a3 a4) (fun y => y.2.g = g0 ∧ y.2.n = n0)) (s : XS) (x1 : Int32) (x2 : Int32) (x3 : Int32) (x4 : Int32) (h1 : s.g = g0 ∧ s.n = n0) : Pt (kX10_drawn_29 k29 s x1 x2 x3 x4) (fun y => y.2.g = g0 ∧ y.2.n = n0) := by
  unfold kX10_drawn_29
  exact pt_ite (fun _ => pt_bindP (P := fun _ => True) (fun _ _ => trivial) (fun r2 _ => pt_some h1)) (fun _ => pt_ite (fun _ => pt_bindI (P := fun _ => True) (fun _ _ => trivial) (fun r5 s4 _ => pt_let (P := (fun s : XS => s.g = g0 ∧ s.n = n0)) ⟨h1.1, h1.2⟩ (fun s6 qs6 => hk29 _ _ _ _ _ qs6))) (fun _ => pt_none))

theorem fr_kX10_drawn_29L (g0 : GS) (n0 : SD) : ∀ (n : Nat) (s : XS) (x1 : Int32) (x2 : Int32) (x3 : Int32) (x4 : Int32), s.g = g0 ∧ s.n = n0 → Pt (kX10_drawn_29L n s x1 x2 x3 x4) (fun y => y.2.g = g0 ∧ y.2.n = n0) := by
  intro n
  induction n with
  | zero => intro _ _ _ _ _ _; exact pt_none
  | succ n ih =>
    intro s x1 x2 x3 x4 h1
    exact fr_kX10_drawn_29 g0 n0 (kX10_drawn_29L n) ih s x1 x2 x3 x4 h1

theorem fr_kX10_drawn (g0 : GS) (n0 : SD) (s : XS) (x1 : Int32) (x2 : Int32) (h1 : s.g = g0 ∧ s.n = n0) : Pt (kX10_drawn s x1 x2) (fun y => y.2.g = g0 ∧ y.2.n = n0) := by
  unfold kX10_drawn
  exact pt_bindI (P := fun _ => True) (fun _ _ => trivial) (fun r2 s1 _ => pt_let (P := (fun s : XS => s.g = g0 ∧ s.n = n0)) ⟨h1.1, h1.2⟩ (fun s3 qs3 => pt_ite (fun _ => pt_some qs3) (fun _ => pt_ite (fun _ => pt_some qs3) (fun _ => pt_ite (fun _ => fr_kX10_drawn_29L g0 n0 _ s3 _ _ _ _ qs3) (fun _ => pt_some qs3)))))

theorem fr_kX10_fit_50 (g0 : GS) (n0 : SD) (s : XS) (t0 : Int32) (t1 : Int32) (h1 : s.g = g0 ∧ s.n = n0) : Pt (kX10_fit_50 s t0 t1) (fun y => y.2.g = g0 ∧ y.2.n = n0) := by
  unfold kX10_fit_50
  exact pt_bindI (P := fun _ => True) (fun _ _ => trivial) (fun r2 s1 _ => pt_let (P := (fun s : XS => s.g = g0 ∧ s.n = n0)) ⟨h1.1, h1.2⟩ (fun s3 qs3 => pt_some qs3))

theorem fr_kX10_fit (g0 : GS) (n0 : SD) (s : XS) (x1 : Int32) (x2 : Int32) (x3 : Int32) (h1 : s.g = g0 ∧ s.n = n0) : Pt (kX10_fit s x1 x2 x3) (fun y => y.2.g = g0 ∧ y.2.n = n0) := by
  unfold kX10_fit
  exact pt_bindI (P := fun _ => True) (fun _ _ => trivial) (fun r2 s1 _ => pt_let (P := (fun s : XS => s.g = g0 ∧ s.n = n0)) ⟨h1.1, h1.2⟩ (fun s3 qs3 => pt_ite (fun _ => pt_some qs3) (fun _ => pt_ite (fun _ => pt_some qs3) (fun _ => pt_ite (fun _ => pt_bindP (P := (fun s : JS => s.d = n0)) (fr_kX8_believe n0 (JS.mk s3.k s3.n) _ qs3.2) (fun s8 qs8 => pt_let (P := (fun s : XS => s.g = g0 ∧ s.n = n0)) ⟨qs3.1, qs8⟩ (fun s9 qs9 => pt_ite (fun _ => fr_kX10_fit_50 g0 n0 s9 _ _ qs9) (fun _ => fr_kX10_fit_50 g0 n0 s9 _ _ qs9)))) (fun _ => pt_some qs3)))))

theorem fr_kX10_lie (g0 : GS) (n0 : SD) (s : XS) (x1 : Int32) (x2 : Int32) (h1 : s.g = g0 ∧ s.n = n0) : Pt (kX10_lie s x1 x2) (fun y => y.2.g = g0 ∧ y.2.n = n0) := by
  unfold kX10_lie
  exact pt_bindI (P := fun _ => True) (fun _ _ => trivial) (fun r2 s1 _ => pt_let (P := (fun s : XS => s.g = g0 ∧ s.n = n0)) ⟨h1.1, h1.2⟩ (fun s3 qs3 => pt_ite (fun _ => pt_some qs3) (fun _ => pt_bindP (P := (fun s : JS => s.d = n0)) (fr_kX8_believe n0 (JS.mk s3.k s3.n) _ qs3.2) (fun s6 qs6 => pt_let (P := (fun s : XS => s.g = g0 ∧ s.n = n0)) ⟨qs3.1, qs6⟩ (fun s7 qs7 => pt_bindI (P := fun _ => True) (fun _ _ => trivial) (fun r10 s9 _ => pt_let (P := (fun s : XS => s.g = g0 ∧ s.n = n0)) ⟨qs7.1, qs7.2⟩ (fun s11 qs11 => pt_some qs11)))))))

theorem fr_kX10_ask (g0 : GS) (n0 : SD) (s : XS) (x1 : Int32) (x2 : Int32) (h1 : s.g = g0 ∧ s.n = n0) : Pt (kX10_ask s x1 x2) (fun y => y.2.g = g0 ∧ y.2.n = n0) := by
  unfold kX10_ask
  exact pt_bindI (P := fun _ => True) (fun _ _ => trivial) (fun r2 s1 _ => pt_let (P := (fun s : XS => s.g = g0 ∧ s.n = n0)) ⟨h1.1, h1.2⟩ (fun s3 qs3 => pt_ite (fun _ => pt_some qs3) (fun _ => pt_bindP (P := (fun s : JS => s.d = n0)) (fr_kX8_believe n0 (JS.mk s3.k s3.n) _ qs3.2) (fun s6 qs6 => pt_let (P := (fun s : XS => s.g = g0 ∧ s.n = n0)) ⟨qs3.1, qs6⟩ (fun s7 qs7 => pt_bindI (P := fun _ => True) (fun _ _ => trivial) (fun r10 s9 _ => pt_let (P := (fun s : XS => s.g = g0 ∧ s.n = n0)) ⟨qs7.1, qs7.2⟩ (fun s11 qs11 => pt_some qs11)))))))

theorem fr_kX0_thereNow (n0 : SD) (s : JS) (x2 : Int32) (h1 : s.d = n0) : Pt (kX0_thereNow s x2) (fun y => y.2.d = n0) := by
  unfold kX0_thereNow
  exact pt_ite (fun _ => pt_bindI (P := fun _ => True) (fun _ _ => trivial) (fun r3 s2 _ => pt_let (P := (fun s : JS => s.d = n0)) h1 (fun s4 qs4 => pt_some qs4))) (fun _ => pt_none)

theorem fr_kX0_guessThere_13 (n0 : SD) (k13 : JS → Int32 → Int32 → Int32 → Option (Int32 × JS)) (hk13 : ∀ (a0 : JS) (a1 : Int32) (a2 : Int32) (a3 : Int32), a0.d = n0 → Pt (k13 a0 a1 a2 a3) (fun y => y.2.d = n0)) (s : JS) (x2 : Int32) (x3 : Int32) (x4 : Int32) (h1 : s.d = n0) : Pt (kX0_guessThere_13 k13 s x2 x3 x4) (fun y => y.2.d = n0) := by
  unfold kX0_guessThere_13
  exact pt_ite (fun _ => pt_some h1) (fun _ => pt_ite (fun _ => pt_bindI (P := fun _ => True) (fun _ _ => trivial) (fun r4 s3 _ => pt_let (P := (fun s : JS => s.d = n0)) h1 (fun s5 qs5 => hk13 _ _ _ _ qs5))) (fun _ => pt_none))

theorem fr_kX0_guessThere_13L (n0 : SD) : ∀ (n : Nat) (s : JS) (x1 : Int32) (x2 : Int32) (x3 : Int32), s.d = n0 → Pt (kX0_guessThere_13L n s x1 x2 x3) (fun y => y.2.d = n0) := by
  intro n
  induction n with
  | zero => intro _ _ _ _ _; exact pt_none
  | succ n ih =>
    intro s x1 x2 x3 h1
    exact fr_kX0_guessThere_13 n0 (kX0_guessThere_13L n) ih s x1 x2 x3 h1

theorem fr_kX0_guessThere (n0 : SD) (s : JS) (x2 : Int32) (h1 : s.d = n0) : Pt (kX0_guessThere s x2) (fun y => y.2.d = n0) := by
  unfold kX0_guessThere
  exact fr_kX0_guessThere_13L n0 _ s _ _ _ h1

theorem fr_kX0_needOf (n0 : SD) (s : JS) (x2 : Int32) (x3 : Int32) (x4 : Int32) (h1 : s.d = n0) : Pt (kX0_needOf s x2 x3 x4) (fun y => y.2.d = n0) := by
  unfold kX0_needOf
  exact pt_bindP (P := (fun s : JS => s.d = n0)) (fr_kX0_clearVars n0 s h1) (fun s1 qs1 => pt_bindP (P := (fun s : JS => s.d = n0)) (fr_kX0_setParty n0 s1 _ qs1) (fun s2 qs2 => pt_bindP (P := (fun s : JS => s.d = n0)) (fr_kX0_setWave n0 s2 _ qs2) (fun s3 qs3 => pt_bindI (P := fun _ => True) (fun _ _ => trivial) (fun r5 s4 _ => pt_let (P := (fun s : JS => s.d = n0)) qs3 (fun s6 qs6 => pt_let (P := (fun s : JS => s.d = n0)) qs6 (fun s8 qs8 => pt_bindI (P := fun _ => True) (fun _ _ => trivial) (fun r11 s10 _ => pt_let (P := (fun s : JS => s.d = n0)) qs8 (fun s12 qs12 => pt_bindP (P := fun _ => True) (fun _ _ => trivial) (fun r14 _ => pt_some qs12)))))))))

theorem fr_kX0_isBearing (n0 : SD) (s : JS) (x2 : Int32) (x3 : Int32) (x4 : Int32) (h1 : s.d = n0) : Pt (kX0_isBearing s x2 x3 x4) (fun y => y.2.d = n0) := by
  unfold kX0_isBearing
  exact pt_bindI (P := fun _ => True) (fun _ _ => trivial) (fun r2 s1 _ => pt_let (P := (fun s : JS => s.d = n0)) h1 (fun s3 qs3 => pt_bindI (P := (fun y => y.2.d = n0)) (fr_kX0_needOf n0 s3 _ _ _ qs3) (fun r6 s5 qs5 => pt_ite (fun _ => pt_some qs5) (fun _ => pt_some qs5))))

theorem fr_kX0_fareOf (n0 : SD) (s : JS) (x2 : Int32) (h1 : s.d = n0) : Pt (kX0_fareOf s x2) (fun y => y.2.d = n0) := by
  unfold kX0_fareOf
  exact pt_bindP (P := (fun s : JS => s.d = n0)) (fr_kX0_clearVars n0 s h1) (fun s1 qs1 => pt_bindP (P := (fun s : JS => s.d = n0)) (fr_kX0_setParty n0 s1 _ qs1) (fun s2 qs2 => pt_bindI (P := fun _ => True) (fun _ _ => trivial) (fun r4 s3 _ => pt_let (P := (fun s : JS => s.d = n0)) qs2 (fun s5 qs5 => pt_bindP (P := fun _ => True) (fun _ _ => trivial) (fun r7 _ => pt_some qs5)))))

theorem fr_kX0_isDaring (n0 : SD) (s : JS) (x2 : Int32) (h1 : s.d = n0) : Pt (kX0_isDaring s x2) (fun y => y.2.d = n0) := by
  unfold kX0_isDaring
  exact pt_bindP (P := (fun s : JS => s.d = n0)) (fr_kX0_clearVars n0 s h1) (fun s1 qs1 => pt_bindP (P := (fun s : JS => s.d = n0)) (fr_kX0_setParty n0 s1 _ qs1) (fun s2 qs2 => pt_bindI (P := fun _ => True) (fun _ _ => trivial) (fun r4 s3 _ => pt_let (P := (fun s : JS => s.d = n0)) qs2 (fun s5 qs5 => pt_ite (fun _ => pt_some qs5) (fun _ => pt_some qs5)))))

theorem fr_kX0_shiftsOf (n0 : SD) (s : JS) (x2 : Int32) (h1 : s.d = n0) : Pt (kX0_shiftsOf s x2) (fun y => y.2.d = n0) := by
  unfold kX0_shiftsOf
  exact pt_bindP (P := (fun s : JS => s.d = n0)) (fr_kX0_clearVars n0 s h1) (fun s1 qs1 => pt_bindP (P := (fun s : JS => s.d = n0)) (fr_kX0_setWave n0 s1 _ qs1) (fun s2 qs2 => pt_bindI (P := fun _ => True) (fun _ _ => trivial) (fun r4 s3 _ => pt_let (P := (fun s : JS => s.d = n0)) qs2 (fun s5 qs5 => pt_bindP (P := fun _ => True) (fun _ _ => trivial) (fun r7 _ => pt_some qs5)))))

theorem fr_kX0_sendBy_113 (n0 : SD) (k24 : JS → Int32 → Int32 → Int32 → Int32 → Int32 → Option (Int32 × JS)) (hk24 : ∀ (a0 : JS) (a1 : Int32) (a2 : Int32) (a3 : Int32) (a4 : Int32) (a5 : Int32), a0.d = n0 → Pt (k24 a0 a1 a2 a3 a4 a5) (fun y => y.2.d = n0)) (s : JS) (x2 : Int32) (x3 : Int32) (x4 : Int32) (x5 : Int32) (x6 : Int32) (h1 : s.d = n0) : Pt (kX0_sendBy_113 k24 s x2 x3 x4 x5 x6) (fun y => y.2.d = n0) := by
  unfold kX0_sendBy_113
  exact hk24 _ _ _ _ _ _ h1

theorem fr_kX2_bestThing_63 (n0 : SD) (k9 : JS → Int32 → Int32 → Int32 → Int32 → Int32 → Option (Int32 × JS)) (hk9 : ∀ (a0 : JS) (a1 : Int32) (a2 : Int32) (a3 : Int32) (a4 : Int32) (a5 : Int32), a0.d = n0 → Pt (k9 a0 a1 a2 a3 a4 a5) (fun y => y.2.d = n0)) (s : JS) (x2 : Int32) (x3 : Int32) (x4 : Int32) (x5 : Int32) (x6 : Int32) (h1 : s.d = n0) : Pt (kX2_bestThing_63 k9 s x2 x3 x4 x5 x6) (fun y => y.2.d = n0) := by
  unfold kX2_bestThing_63
  exact hk9 _ _ _ _ _ _ h1

theorem fr_kX2_bestThing_55 (n0 : SD) (k9 : JS → Int32 → Int32 → Int32 → Int32 → Int32 → Option (Int32 × JS)) (hk9 : ∀ (a0 : JS) (a1 : Int32) (a2 : Int32) (a3 : Int32) (a4 : Int32) (a5 : Int32), a0.d = n0 → Pt (k9 a0 a1 a2 a3 a4 a5) (fun y => y.2.d = n0)) (s : JS) (x2 : Int32) (x3 : Int32) (x6 : Int32) (x7 : Int32) (h1 : s.d = n0) : Pt (kX2_bestThing_55 k9 s x2 x3 x6 x7) (fun y => y.2.d = n0) := by
  unfold kX2_bestThing_55
  exact fr_kX2_bestThing_63 n0 _ hk9 s _ _ _ _ _ h1

theorem fr_kX2_bestThing_9 (n0 : SD) (k9 : JS → Int32 → Int32 → Int32 → Int32 → Int32 → Option (Int32 × JS)) (hk9 : ∀ (a0 : JS) (a1 : Int32) (a2 : Int32) (a3 : Int32) (a4 : Int32) (a5 : Int32), a0.d = n0 → Pt (k9 a0 a1 a2 a3 a4 a5) (fun y => y.2.d = n0)) (s : JS) (x2 : Int32) (x3 : Int32) (x4 : Int32) (x5 : Int32) (x6 : Int32) (h1 : s.d = n0) : Pt (kX2_bestThing_9 k9 s x2 x3 x4 x5 x6) (fun y => y.2.d = n0) := by
  unfold kX2_bestThing_9
  exact pt_ite (fun _ => pt_some h1) (fun _ => pt_bindI (P := (fun y => y.2.d = n0)) (fr_kX2_oddsIfMay n0 s _ _ h1) (fun r3 s2 qs2 => pt_ite (fun _ => fr_kX2_bestThing_63 n0 _ hk9 s2 _ _ _ _ _ qs2) (fun _ => pt_ite (fun _ => fr_kX2_bestThing_55 n0 _ hk9 s2 _ _ _ _ qs2) (fun _ => pt_bindI (P := (fun y => y.2.d = n0)) (fr_kX0_needOf n0 s2 _ _ _ qs2) (fun r7 s6 qs6 => pt_ite (fun _ => fr_kX2_bestThing_63 n0 _ hk9 s6 _ _ _ _ _ qs6) (fun _ => fr_kX2_bestThing_55 n0 _ hk9 s6 _ _ _ _ qs6))))))

theorem fr_kX2_bestThing_9L (n0 : SD) : ∀ (n : Nat) (s : JS) (x1 : Int32) (x2 : Int32) (x3 : Int32) (x4 : Int32) (x5 : Int32), s.d = n0 → Pt (kX2_bestThing_9L n s x1 x2 x3 x4 x5) (fun y => y.2.d = n0) := by
  intro n
  induction n with
  | zero => intro _ _ _ _ _ _ _; exact pt_none
  | succ n ih =>
    intro s x1 x2 x3 x4 x5 h1
    exact fr_kX2_bestThing_9 n0 (kX2_bestThing_9L n) ih s x1 x2 x3 x4 x5 h1

theorem fr_kX2_bestThing (n0 : SD) (s : JS) (x2 : Int32) (x3 : Int32) (h1 : s.d = n0) : Pt (kX2_bestThing s x2 x3) (fun y => y.2.d = n0) := by
  unfold kX2_bestThing
  exact fr_kX2_bestThing_9L n0 _ s _ _ _ _ _ h1
