/-! ===== what the queries leave as it was ===== -/
theorem fr_kX6_copyFrom (n0 : SD) (s : DS) (h : s.e = n0) : Pt (kX6_copyFrom s) (fun y => y.e = n0) := fun y e => (copyFrom_eq e).1.trans h
theorem fr_sh_4L (g0 : GS) : ∀ (n : Nat) (s : GS) (x1 x2 : Int32), s = g0 → Pt (kX3_slotsHeld_4L n s x1 x2) (fun y => y.2 = g0) := by
  intro n
  induction n with
  | zero => intro s x1 x2 _; exact pt_none
  | succ n ih =>
    intro s x1 x2 h
    show Pt (kX3_slotsHeld_4 (kX3_slotsHeld_4L n) s x1 x2) _
    unfold kX3_slotsHeld_4 kX3_slotsHeld_24
    exact pt_ite (fun _ => pt_some h) (fun _ => pt_ite (fun _ => pt_ite (fun _ => ih _ _ _ h) (fun _ => ih _ _ _ h)) (fun _ => pt_none))
theorem fr_kX3_slotsHeld (g0 : GS) (s : GS) (h : s = g0) : Pt (kX3_slotsHeld s) (fun y => y.2 = g0) := by
  unfold kX3_slotsHeld
  exact fr_sh_4L g0 _ _ _ _ h
theorem sda_self {d : SD} {k : Nat} : d.sa k (d.f k) = d := by
  refine Prod.ext rfl (funext fun m => ?_)
  show va_up d.f k (d.f k) m = d.f m
  unfold va_up
  by_cases e : m = k
  · rw [if_pos e, e]
  · rw [if_neg e]
theorem fr_so5 (f0 : Nat → Int32) : ∀ (n : Nat) (s : Nat → Int32) (x1 x2 : Int32), s = f0 → Pt (kX10_sumOf_5_4L n s x1 x2) (fun y => y.2 = f0) := by
  intro n
  induction n with
  | zero => intro s x1 x2 _; exact pt_none
  | succ n ih =>
    intro s x1 x2 h
    show Pt (kX10_sumOf_5_4 (kX10_sumOf_5_4L n) s x1 x2) _
    unfold kX10_sumOf_5_4
    exact pt_ite (fun _ => pt_some h) (fun _ => pt_ite (fun _ => ih _ _ _ h) (fun _ => pt_none))
theorem fr_kX10_sumOf_5 (f0 s : Nat → Int32) (h : s = f0) : Pt (kX10_sumOf_5 s) (fun y => y.2 = f0) := by
  unfold kX10_sumOf_5
  exact fr_so5 f0 _ _ _ _ h
theorem fr_so6 (f0 : Nat → Int32) : ∀ (n : Nat) (s : Nat → Int32) (x1 x2 : Int32), s = f0 → Pt (kX10_sumOf_6_4L n s x1 x2) (fun y => y.2 = f0) := by
  intro n
  induction n with
  | zero => intro s x1 x2 _; exact pt_none
  | succ n ih =>
    intro s x1 x2 h
    show Pt (kX10_sumOf_6_4 (kX10_sumOf_6_4L n) s x1 x2) _
    unfold kX10_sumOf_6_4
    exact pt_ite (fun _ => pt_some h) (fun _ => pt_ite (fun _ => ih _ _ _ h) (fun _ => pt_none))
theorem fr_kX10_sumOf_6 (f0 s : Nat → Int32) (h : s = f0) : Pt (kX10_sumOf_6 s) (fun y => y.2 = f0) := by
  unfold kX10_sumOf_6
  exact fr_so6 f0 _ _ _ _ h
theorem fr_kX0_mayBe (n0 : SD) (s : JS) (x2 : Int32) (h1 : s.d = n0) : Pt (kX0_mayBe s x2) (fun y => y.2.d = n0) := by
  unfold kX0_mayBe
  exact pt_ite (fun _ => pt_ite (fun _ => pt_ite (fun _ => pt_ite (fun _ => pt_some h1) (fun _ => pt_none)) (fun _ => pt_none)) (fun _ => pt_ite (fun _ => pt_some h1) (fun _ => pt_none))) (fun _ => pt_none)

theorem fr_kX0_setParty (n0 : SD) (s : JS) (x2 : Int32) (h1 : s.d = n0) : Pt (kX0_setParty s x2) (fun y => y.d = n0) := by
  unfold kX0_setParty
  exact pt_ite (fun _ => pt_let (P := (fun s : JS => s.d = n0)) h1 (fun s2 qs2 => pt_ite (fun _ => pt_let (P := (fun s : JS => s.d = n0)) qs2 (fun s5 qs5 => pt_let (P := (fun s : JS => s.d = n0)) qs5 (fun s7 qs7 => pt_ite (fun _ => pt_let (P := (fun s : JS => s.d = n0)) qs7 (fun s10 qs10 => pt_some qs10)) (fun _ => pt_none)))) (fun _ => pt_none))) (fun _ => pt_none)

theorem fr_kX10_feed (g0 : GS) (n0 : SD) (s : XS) (x1 : Int32) (x2 : Int32) (x3 : Int32) (x4 : Int32) (x5 : Int32) (h1 : s.g = g0 ∧ s.n = n0) : Pt (kX10_feed s x1 x2 x3 x4 x5) (fun y => y.2.g = g0 ∧ y.2.n = n0) := by
  unfold kX10_feed
  exact pt_bindI (P := fun _ => True) (fun _ _ => trivial) (fun r2 s1 _ => pt_let (P := (fun s : XS => s.g = g0 ∧ s.n = n0)) ⟨h1.1, h1.2⟩ (fun s3 qs3 => pt_ite (fun _ => pt_some qs3) (fun _ => pt_bindP (P := fun _ => True) (fun _ _ => trivial) (fun s6 _ => pt_let (P := (fun s : XS => s.g = g0 ∧ s.n = n0)) ⟨qs3.1, qs3.2⟩ (fun s7 qs7 => pt_bindP (P := fun _ => True) (fun _ _ => trivial) (fun s9 _ => pt_let (P := (fun s : XS => s.g = g0 ∧ s.n = n0)) ⟨qs7.1, qs7.2⟩ (fun s10 qs10 => pt_bindP (P := fun _ => True) (fun _ _ => trivial) (fun s12 _ => pt_let (P := (fun s : XS => s.g = g0 ∧ s.n = n0)) ⟨qs10.1, qs10.2⟩ (fun s13 qs13 => pt_bindP (P := fun _ => True) (fun _ _ => trivial) (fun s15 _ => pt_let (P := (fun s : XS => s.g = g0 ∧ s.n = n0)) ⟨qs13.1, qs13.2⟩ (fun s16 qs16 => pt_bindP (P := fun _ => True) (fun _ _ => trivial) (fun s18 _ => pt_let (P := (fun s : XS => s.g = g0 ∧ s.n = n0)) ⟨qs16.1, qs16.2⟩ (fun s19 qs19 => pt_some qs19)))))))))))))

theorem fr_kX10_back (g0 : GS) (n0 : SD) (s : XS) (x1 : Int32) (h1 : s.g = g0 ∧ s.n = n0) : Pt (kX10_back s x1) (fun y => y.2.g = g0 ∧ y.2.n = n0) := by
  unfold kX10_back
  exact pt_ite (fun _ => pt_some h1) (fun _ => pt_ite (fun _ => pt_let (P := (fun s : XS => s.g = g0 ∧ s.n = n0)) h1 (fun s3 qs3 => pt_some qs3)) (fun _ => pt_some h1))

theorem fr_kX10_place (g0 : GS) (n0 : SD) (s : XS) (h1 : s.g = g0 ∧ s.n = n0) : Pt (kX10_place s) (fun y => y.2.g = g0 ∧ y.2.n = n0) := by
  unfold kX10_place
  exact pt_some h1

theorem fr_kX10_tell_43 (g0 : GS) (n0 : SD) (s : XS) (t0 : Int32) (t1 : Int32) (h1 : s.g = g0 ∧ s.n = n0) : Pt (kX10_tell_43 s t0 t1) (fun y => y.2.g = g0 ∧ y.2.n = n0) := by
  unfold kX10_tell_43
  exact pt_bindI (P := fun _ => True) (fun _ _ => trivial) (fun r2 s1 _ => pt_let (P := (fun s : XS => s.g = g0 ∧ s.n = n0)) ⟨h1.1, h1.2⟩ (fun s3 qs3 => pt_some qs3))

theorem fr_kX10_tell (g0 : GS) (n0 : SD) (s : XS) (x1 : Int32) (x2 : Int32) (x3 : Int32) (h1 : s.g = g0 ∧ s.n = n0) : Pt (kX10_tell s x1 x2 x3) (fun y => y.2.g = g0 ∧ y.2.n = n0) := by
  unfold kX10_tell
  exact pt_bindI (P := fun _ => True) (fun _ _ => trivial) (fun r2 s1 _ => pt_let (P := (fun s : XS => s.g = g0 ∧ s.n = n0)) ⟨h1.1, h1.2⟩ (fun s3 qs3 => pt_ite (fun _ => pt_some qs3) (fun _ => pt_ite (fun _ => pt_some qs3) (fun _ => pt_ite (fun _ => pt_ite (fun _ => fr_kX10_tell_43 g0 n0 s3 _ _ qs3) (fun _ => fr_kX10_tell_43 g0 n0 s3 _ _ qs3)) (fun _ => pt_some qs3)))))

theorem fr_kX10_forget (g0 : GS) (n0 : SD) (s : XS) (h1 : s.g = g0 ∧ s.n = n0) : Pt (kX10_forget s) (fun y => y.2.g = g0 ∧ y.2.n = n0) := by
  unfold kX10_forget
  exact pt_let (P := (fun s : XS => s.g = g0 ∧ s.n = n0)) h1 (fun s1 qs1 => pt_some qs1)

theorem fr_kX10_isHere (g0 : GS) (n0 : SD) (s : XS) (x1 : Int32) (h1 : s.g = g0 ∧ s.n = n0) : Pt (kX10_isHere s x1) (fun y => y.2.g = g0 ∧ y.2.n = n0) := by
  unfold kX10_isHere
  exact pt_bindI (P := fun _ => True) (fun _ _ => trivial) (fun r2 s1 _ => pt_let (P := (fun s : XS => s.g = g0 ∧ s.n = n0)) ⟨h1.1, h1.2⟩ (fun s3 qs3 => pt_ite (fun _ => pt_some qs3) (fun _ => pt_ite (fun _ => pt_ite (fun _ => pt_some qs3) (fun _ => pt_some qs3)) (fun _ => pt_none))))

theorem fr_kX10_partiesThatAre_35 (g0 : GS) (n0 : SD) (k5 : XS → Int32 → Int32 → Int32 → Option (Int32 × XS)) (hk5 : ∀ (a0 : XS) (a1 : Int32) (a2 : Int32) (a3 : Int32), a0.g = g0 ∧ a0.n = n0 → Pt (k5 a0 a1 a2 a3) (fun y => y.2.g = g0 ∧ y.2.n = n0)) (s : XS) (x2 : Int32) (x3 : Int32) (x4 : Int32) (h1 : s.g = g0 ∧ s.n = n0) : Pt (kX10_partiesThatAre_35 k5 s x2 x3 x4) (fun y => y.2.g = g0 ∧ y.2.n = n0) := by
  unfold kX10_partiesThatAre_35
  exact hk5 _ _ _ _ h1

theorem fr_kX10_partiesThatAre_5 (g0 : GS) (n0 : SD) (k5 : XS → Int32 → Int32 → Int32 → Option (Int32 × XS)) (hk5 : ∀ (a0 : XS) (a1 : Int32) (a2 : Int32) (a3 : Int32), a0.g = g0 ∧ a0.n = n0 → Pt (k5 a0 a1 a2 a3) (fun y => y.2.g = g0 ∧ y.2.n = n0)) (s : XS) (x2 : Int32) (x3 : Int32) (x4 : Int32) (h1 : s.g = g0 ∧ s.n = n0) : Pt (kX10_partiesThatAre_5 k5 s x2 x3 x4) (fun y => y.2.g = g0 ∧ y.2.n = n0) := by
  unfold kX10_partiesThatAre_5
  exact pt_ite (fun _ => pt_some h1) (fun _ => pt_ite (fun _ => pt_ite (fun _ => fr_kX10_partiesThatAre_35 g0 n0 _ hk5 s _ _ _ h1) (fun _ => fr_kX10_partiesThatAre_35 g0 n0 _ hk5 s _ _ _ h1)) (fun _ => pt_none))

theorem fr_kX10_partiesThatAre_5L (g0 : GS) (n0 : SD) : ∀ (n : Nat) (s : XS) (x1 : Int32) (x2 : Int32) (x3 : Int32), s.g = g0 ∧ s.n = n0 → Pt (kX10_partiesThatAre_5L n s x1 x2 x3) (fun y => y.2.g = g0 ∧ y.2.n = n0) := by
  intro n
  induction n with
  | zero => intro _ _ _ _ _; exact pt_none
  | succ n ih =>
    intro s x1 x2 x3 h1
    exact fr_kX10_partiesThatAre_5 g0 n0 (kX10_partiesThatAre_5L n) ih s x1 x2 x3 h1

theorem fr_kX10_partiesThatAre (g0 : GS) (n0 : SD) (s : XS) (x2 : Int32) (h1 : s.g = g0 ∧ s.n = n0) : Pt (kX10_partiesThatAre s x2) (fun y => y.2.g = g0 ∧ y.2.n = n0) := by
  unfold kX10_partiesThatAre
  exact fr_kX10_partiesThatAre_5L g0 n0 _ s _ _ _ h1

theorem fr_kX10_partiesThatAre_t_35 (g0 : GS) (n0 : SD) (k5 : XS → Int32 → Int32 → Int32 → Option (Int32 × XS)) (hk5 : ∀ (a0 : XS) (a1 : Int32) (a2 : Int32) (a3 : Int32), a0.g = g0 ∧ a0.n = n0 → Pt (k5 a0 a1 a2 a3) (fun y => y.2.g = g0 ∧ y.2.n = n0)) (s : XS) (x2 : Int32) (x3 : Int32) (x4 : Int32) (h1 : s.g = g0 ∧ s.n = n0) : Pt (kX10_partiesThatAre_t_35 k5 s x2 x3 x4) (fun y => y.2.g = g0 ∧ y.2.n = n0) := by
  unfold kX10_partiesThatAre_t_35
  exact hk5 _ _ _ _ h1

theorem fr_kX10_partiesThatAre_t_5 (g0 : GS) (n0 : SD) (k5 : XS → Int32 → Int32 → Int32 → Option (Int32 × XS)) (hk5 : ∀ (a0 : XS) (a1 : Int32) (a2 : Int32) (a3 : Int32), a0.g = g0 ∧ a0.n = n0 → Pt (k5 a0 a1 a2 a3) (fun y => y.2.g = g0 ∧ y.2.n = n0)) (s : XS) (x2 : Int32) (x3 : Int32) (x4 : Int32) (h1 : s.g = g0 ∧ s.n = n0) : Pt (kX10_partiesThatAre_t_5 k5 s x2 x3 x4) (fun y => y.2.g = g0 ∧ y.2.n = n0) := by
  unfold kX10_partiesThatAre_t_5
  exact pt_ite (fun _ => pt_some h1) (fun _ => pt_ite (fun _ => pt_ite (fun _ => fr_kX10_partiesThatAre_t_35 g0 n0 _ hk5 s _ _ _ h1) (fun _ => fr_kX10_partiesThatAre_t_35 g0 n0 _ hk5 s _ _ _ h1)) (fun _ => pt_none))

theorem fr_kX10_partiesThatAre_t_5L (g0 : GS) (n0 : SD) : ∀ (n : Nat) (s : XS) (x1 : Int32) (x2 : Int32) (x3 : Int32), s.g = g0 ∧ s.n = n0 → Pt (kX10_partiesThatAre_t_5L n s x1 x2 x3) (fun y => y.2.g = g0 ∧ y.2.n = n0) := by
  intro n
  induction n with
  | zero => intro _ _ _ _ _; exact pt_none
  | succ n ih =>
    intro s x1 x2 x3 h1
    exact fr_kX10_partiesThatAre_t_5 g0 n0 (kX10_partiesThatAre_t_5L n) ih s x1 x2 x3 h1

theorem fr_kX10_partiesThatAre_t (g0 : GS) (n0 : SD) (s : XS) (x2 : Int32) (h1 : s.g = g0 ∧ s.n = n0) : Pt (kX10_partiesThatAre_t s x2) (fun y => y.2.g = g0 ∧ y.2.n = n0) := by
  unfold kX10_partiesThatAre_t
  exact fr_kX10_partiesThatAre_t_5L g0 n0 _ s _ _ _ h1

theorem fr_kX10_wavesFound_34 (g0 : GS) (n0 : SD) (k4 : XS → Int32 → Int32 → Option (Int32 × XS)) (hk4 : ∀ (a0 : XS) (a1 : Int32) (a2 : Int32), a0.g = g0 ∧ a0.n = n0 → Pt (k4 a0 a1 a2) (fun y => y.2.g = g0 ∧ y.2.n = n0)) (s : XS) (x1 : Int32) (x2 : Int32) (h1 : s.g = g0 ∧ s.n = n0) : Pt (kX10_wavesFound_34 k4 s x1 x2) (fun y => y.2.g = g0 ∧ y.2.n = n0) := by
  unfold kX10_wavesFound_34
  exact hk4 _ _ _ h1

theorem fr_kX10_wavesFound_4 (g0 : GS) (n0 : SD) (k4 : XS → Int32 → Int32 → Option (Int32 × XS)) (hk4 : ∀ (a0 : XS) (a1 : Int32) (a2 : Int32), a0.g = g0 ∧ a0.n = n0 → Pt (k4 a0 a1 a2) (fun y => y.2.g = g0 ∧ y.2.n = n0)) (s : XS) (x1 : Int32) (x2 : Int32) (h1 : s.g = g0 ∧ s.n = n0) : Pt (kX10_wavesFound_4 k4 s x1 x2) (fun y => y.2.g = g0 ∧ y.2.n = n0) := by
  unfold kX10_wavesFound_4
  exact pt_ite (fun _ => pt_some h1) (fun _ => pt_ite (fun _ => pt_ite (fun _ => fr_kX10_wavesFound_34 g0 n0 _ hk4 s _ _ h1) (fun _ => fr_kX10_wavesFound_34 g0 n0 _ hk4 s _ _ h1)) (fun _ => pt_none))

theorem fr_kX10_wavesFound_4L (g0 : GS) (n0 : SD) : ∀ (n : Nat) (s : XS) (x1 : Int32) (x2 : Int32), s.g = g0 ∧ s.n = n0 → Pt (kX10_wavesFound_4L n s x1 x2) (fun y => y.2.g = g0 ∧ y.2.n = n0) := by
  intro n
  induction n with
  | zero => intro _ _ _ _; exact pt_none
  | succ n ih =>
    intro s x1 x2 h1
    exact fr_kX10_wavesFound_4 g0 n0 (kX10_wavesFound_4L n) ih s x1 x2 h1

theorem fr_kX10_wavesFound (g0 : GS) (n0 : SD) (s : XS) (h1 : s.g = g0 ∧ s.n = n0) : Pt (kX10_wavesFound s) (fun y => y.2.g = g0 ∧ y.2.n = n0) := by
  unfold kX10_wavesFound
  exact fr_kX10_wavesFound_4L g0 n0 _ s _ _ h1

theorem fr_kX10_wavesWithNothing_36 (g0 : GS) (n0 : SD) (k4 : XS → Int32 → Int32 → Option (Int32 × XS)) (hk4 : ∀ (a0 : XS) (a1 : Int32) (a2 : Int32), a0.g = g0 ∧ a0.n = n0 → Pt (k4 a0 a1 a2) (fun y => y.2.g = g0 ∧ y.2.n = n0)) (s : XS) (x1 : Int32) (x2 : Int32) (h1 : s.g = g0 ∧ s.n = n0) : Pt (kX10_wavesWithNothing_36 k4 s x1 x2) (fun y => y.2.g = g0 ∧ y.2.n = n0) := by
  unfold kX10_wavesWithNothing_36
  exact hk4 _ _ _ h1

theorem fr_kX10_wavesWithNothing_4 (g0 : GS) (n0 : SD) (k4 : XS → Int32 → Int32 → Option (Int32 × XS)) (hk4 : ∀ (a0 : XS) (a1 : Int32) (a2 : Int32), a0.g = g0 ∧ a0.n = n0 → Pt (k4 a0 a1 a2) (fun y => y.2.g = g0 ∧ y.2.n = n0)) (s : XS) (x1 : Int32) (x2 : Int32) (h1 : s.g = g0 ∧ s.n = n0) : Pt (kX10_wavesWithNothing_4 k4 s x1 x2) (fun y => y.2.g = g0 ∧ y.2.n = n0) := by
  unfold kX10_wavesWithNothing_4
  exact pt_ite (fun _ => pt_some h1) (fun _ => pt_bindI (P := (fun y => y.2.d = n0)) (fr_kX0_mayBe n0 (JS.mk s.k s.n) _ h1.2) (fun r3 s2 qs2 => pt_let (P := (fun s : XS => s.g = g0 ∧ s.n = n0)) ⟨h1.1, qs2⟩ (fun s4 qs4 => pt_ite (fun _ => fr_kX10_wavesWithNothing_36 g0 n0 _ hk4 s4 _ _ qs4) (fun _ => fr_kX10_wavesWithNothing_36 g0 n0 _ hk4 s4 _ _ qs4))))

theorem fr_kX10_wavesWithNothing_4L (g0 : GS) (n0 : SD) : ∀ (n : Nat) (s : XS) (x1 : Int32) (x2 : Int32), s.g = g0 ∧ s.n = n0 → Pt (kX10_wavesWithNothing_4L n s x1 x2) (fun y => y.2.g = g0 ∧ y.2.n = n0) := by
  intro n
  induction n with
  | zero => intro _ _ _ _; exact pt_none
  | succ n ih =>
    intro s x1 x2 h1
    exact fr_kX10_wavesWithNothing_4 g0 n0 (kX10_wavesWithNothing_4L n) ih s x1 x2 h1

theorem fr_kX10_wavesWithNothing (g0 : GS) (n0 : SD) (s : XS) (h1 : s.g = g0 ∧ s.n = n0) : Pt (kX10_wavesWithNothing s) (fun y => y.2.g = g0 ∧ y.2.n = n0) := by
  unfold kX10_wavesWithNothing
  exact fr_kX10_wavesWithNothing_4L g0 n0 _ s _ _ h1

theorem fr_kX0_clearVars (n0 : SD) (s : JS) (h1 : s.d = n0) : Pt (kX0_clearVars s) (fun y => y.d = n0) := by
  unfold kX0_clearVars
  exact pt_bindP (P := fun _ => True) (fun _ _ => trivial) (fun s1 _ => pt_let (P := (fun s : JS => s.d = n0)) h1 (fun s2 qs2 => pt_let (P := (fun s : JS => s.d = n0)) qs2 (fun s4 qs4 => pt_some qs4)))

theorem fr_kX0_setWave (n0 : SD) (s : JS) (x2 : Int32) (h1 : s.d = n0) : Pt (kX0_setWave s x2) (fun y => y.d = n0) := by
  unfold kX0_setWave
  exact pt_let (P := (fun s : JS => s.d = n0)) h1 (fun s1 qs1 => pt_bindI (P := (fun y => y.2.d = n0)) (fr_kX0_mayBe n0 s1 _ qs1) (fun r4 s3 qs3 => pt_bindP (P := fun _ => True) (fun _ _ => trivial) (fun r5 _ => pt_let (P := (fun s : JS => s.d = n0)) qs3 (fun s6 qs6 => pt_ite (fun _ => pt_bindP (P := fun _ => True) (fun _ _ => trivial) (fun r9 _ => pt_let (P := (fun s : JS => s.d = n0)) qs6 (fun s10 qs10 => pt_some qs10))) (fun _ => pt_none)))))

theorem fr_kX2_mayCount (n0 : SD) (s : JS) (x2 : Int32) (h1 : s.d = n0) : Pt (kX2_mayCount s x2) (fun y => y.2.d = n0) := by
  unfold kX2_mayCount
  exact pt_bindI (P := (fun y => y.2.d = n0)) (fr_kX0_mayBe n0 s _ h1) (fun r2 s1 qs1 => pt_bindP (P := fun _ => True) (fun _ _ => trivial) (fun r3 _ => pt_some qs1))

theorem fr_kX2_caseCount_4 (n0 : SD) (k4 : JS → Int32 → Int32 → Option (Int32 × JS)) (hk4 : ∀ (a0 : JS) (a1 : Int32) (a2 : Int32), a0.d = n0 → Pt (k4 a0 a1 a2) (fun y => y.2.d = n0)) (s : JS) (x2 : Int32) (x3 : Int32) (h1 : s.d = n0) : Pt (kX2_caseCount_4 k4 s x2 x3) (fun y => y.2.d = n0) := by
  unfold kX2_caseCount_4
  exact pt_ite (fun _ => pt_some h1) (fun _ => pt_bindI (P := (fun y => y.2.d = n0)) (fr_kX2_mayCount n0 s _ h1) (fun r3 s2 qs2 => hk4 _ _ _ qs2))

theorem fr_kX2_caseCount_4L (n0 : SD) : ∀ (n : Nat) (s : JS) (x1 : Int32) (x2 : Int32), s.d = n0 → Pt (kX2_caseCount_4L n s x1 x2) (fun y => y.2.d = n0) := by
  intro n
  induction n with
  | zero => intro _ _ _ _; exact pt_none
  | succ n ih =>
    intro s x1 x2 h1
    exact fr_kX2_caseCount_4 n0 (kX2_caseCount_4L n) ih s x1 x2 h1

theorem fr_kX2_caseCount (n0 : SD) (s : JS) (h1 : s.d = n0) : Pt (kX2_caseCount s) (fun y => y.2.d = n0) := by
  unfold kX2_caseCount
  exact fr_kX2_caseCount_4L n0 _ s _ _ h1

theorem fr_kX2_oddsIfMay (n0 : SD) (s : JS) (x2 : Int32) (x3 : Int32) (h1 : s.d = n0) : Pt (kX2_oddsIfMay s x2 x3) (fun y => y.2.d = n0) := by
  unfold kX2_oddsIfMay
  exact pt_bindI (P := (fun y => y.2.d = n0)) (fr_kX0_mayBe n0 s _ h1) (fun r2 s1 qs1 => pt_bindP (P := fun _ => True) (fun _ _ => trivial) (fun r3 _ => pt_ite (fun _ => pt_some qs1) (fun _ => pt_bindI (P := fun _ => True) (fun _ _ => trivial) (fun r6 s5 _ => pt_let (P := (fun s : JS => s.d = n0)) qs1 (fun s7 qs7 => pt_some qs7)))))

theorem fr_kX2_oddsOf_5 (n0 : SD) (k5 : JS → Int32 → Int32 → Int32 → Option (Int32 × JS)) (hk5 : ∀ (a0 : JS) (a1 : Int32) (a2 : Int32) (a3 : Int32), a0.d = n0 → Pt (k5 a0 a1 a2 a3) (fun y => y.2.d = n0)) (s : JS) (x2 : Int32) (x3 : Int32) (x4 : Int32) (h1 : s.d = n0) : Pt (kX2_oddsOf_5 k5 s x2 x3 x4) (fun y => y.2.d = n0) := by
  unfold kX2_oddsOf_5
  exact pt_ite (fun _ => pt_some h1) (fun _ => pt_bindP (P := fun _ => True) (fun _ _ => trivial) (fun r2 _ => pt_bindI (P := (fun y => y.2.d = n0)) (fr_kX2_oddsIfMay n0 s _ _ h1) (fun r4 s3 qs3 => hk5 _ _ _ _ qs3)))

theorem fr_kX2_oddsOf_5L (n0 : SD) : ∀ (n : Nat) (s : JS) (x1 : Int32) (x2 : Int32) (x3 : Int32), s.d = n0 → Pt (kX2_oddsOf_5L n s x1 x2 x3) (fun y => y.2.d = n0) := by
  intro n
  induction n with
  | zero => intro _ _ _ _ _; exact pt_none
  | succ n ih =>
    intro s x1 x2 x3 h1
    exact fr_kX2_oddsOf_5 n0 (kX2_oddsOf_5L n) ih s x1 x2 x3 h1

theorem fr_kX2_oddsOf (n0 : SD) (s : JS) (x2 : Int32) (h1 : s.d = n0) : Pt (kX2_oddsOf s x2) (fun y => y.2.d = n0) := by
  unfold kX2_oddsOf
  exact fr_kX2_oddsOf_5L n0 _ s _ _ _ h1

theorem fr_kX2_goesAtMost_4 (n0 : SD) (k4 : JS → Int32 → Int32 → Option (Int32 × JS)) (hk4 : ∀ (a0 : JS) (a1 : Int32) (a2 : Int32), a0.d = n0 → Pt (k4 a0 a1 a2) (fun y => y.2.d = n0)) (s : JS) (x2 : Int32) (x3 : Int32) (h1 : s.d = n0) : Pt (kX2_goesAtMost_4 k4 s x2 x3) (fun y => y.2.d = n0) := by
  unfold kX2_goesAtMost_4
  exact pt_ite (fun _ => pt_some h1) (fun _ => pt_bindI (P := (fun y => y.2.d = n0)) (fr_kX2_mayCount n0 s _ h1) (fun r3 s2 qs2 => hk4 _ _ _ qs2))

theorem fr_kX2_goesAtMost_4L (n0 : SD) : ∀ (n : Nat) (s : JS) (x1 : Int32) (x2 : Int32), s.d = n0 → Pt (kX2_goesAtMost_4L n s x1 x2) (fun y => y.2.d = n0) := by
  intro n
  induction n with
  | zero => intro _ _ _ _; exact pt_none
  | succ n ih =>
    intro s x1 x2 h1
    exact fr_kX2_goesAtMost_4 n0 (kX2_goesAtMost_4L n) ih s x1 x2 h1

theorem fr_kX2_goesAtMost (n0 : SD) (s : JS) (h1 : s.d = n0) : Pt (kX2_goesAtMost s) (fun y => y.2.d = n0) := by
  unfold kX2_goesAtMost
  exact fr_kX2_goesAtMost_4L n0 _ s _ _ h1

theorem fr_kX2_leftBehind_73 (n0 : SD) (k16 : JS → Int32 → Int32 → Int32 → Int32 → Option (Int32 × JS)) (hk16 : ∀ (a0 : JS) (a1 : Int32) (a2 : Int32) (a3 : Int32) (a4 : Int32), a0.d = n0 → Pt (k16 a0 a1 a2 a3 a4) (fun y => y.2.d = n0)) (s : JS) (x2 : Int32) (x3 : Int32) (x4 : Int32) (x5 : Int32) (x6 : Int32) (h1 : s.d = n0) : Pt (kX2_leftBehind_73 k16 s x2 x3 x4 x5 x6) (fun y => y.2.d = n0) := by
  unfold kX2_leftBehind_73
  exact hk16 _ _ _ _ _ h1

theorem fr_kX2_leftBehind_16 (n0 : SD) (k16 : JS → Int32 → Int32 → Int32 → Int32 → Option (Int32 × JS)) (hk16 : ∀ (a0 : JS) (a1 : Int32) (a2 : Int32) (a3 : Int32) (a4 : Int32), a0.d = n0 → Pt (k16 a0 a1 a2 a3 a4) (fun y => y.2.d = n0)) (s : JS) (x2 : Int32) (x3 : Int32) (x4 : Int32) (x5 : Int32) (h1 : s.d = n0) : Pt (kX2_leftBehind_16 k16 s x2 x3 x4 x5) (fun y => y.2.d = n0) := by
  unfold kX2_leftBehind_16
  exact pt_ite (fun _ => pt_some h1) (fun _ => pt_bindI (P := (fun y => y.2.d = n0)) (fr_kX2_mayCount n0 s _ h1) (fun r3 s2 qs2 => pt_bindI (P := (fun y => y.2.d = n0)) (fr_kX0_mayBe n0 s2 _ qs2) (fun r5 s4 qs4 => pt_bindP (P := fun _ => True) (fun _ _ => trivial) (fun r6 _ => pt_bindP (P := fun _ => True) (fun _ _ => trivial) (fun r7 _ => pt_ite (fun _ => fr_kX2_leftBehind_73 n0 _ hk16 s4 _ _ _ _ _ qs4) (fun _ => fr_kX2_leftBehind_73 n0 _ hk16 s4 _ _ _ _ _ qs4))))))

theorem fr_kX2_leftBehind_16L (n0 : SD) : ∀ (n : Nat) (s : JS) (x1 : Int32) (x2 : Int32) (x3 : Int32) (x4 : Int32), s.d = n0 → Pt (kX2_leftBehind_16L n s x1 x2 x3 x4) (fun y => y.2.d = n0) := by
  intro n
  induction n with
  | zero => intro _ _ _ _ _ _; exact pt_none
  | succ n ih =>
    intro s x1 x2 x3 x4 h1
    exact fr_kX2_leftBehind_16 n0 (kX2_leftBehind_16L n) ih s x1 x2 x3 x4 h1

theorem fr_kX2_leftBehind (n0 : SD) (s : JS) (x2 : Int32) (h1 : s.d = n0) : Pt (kX2_leftBehind s x2) (fun y => y.2.d = n0) := by
  unfold kX2_leftBehind
  exact fr_kX2_leftBehind_16L n0 _ s _ _ _ _ h1

theorem fr_kX2_wisestGuess_7 (n0 : SD) (k7 : JS → Int32 → Int32 → Int32 → Option (Int32 × JS)) (hk7 : ∀ (a0 : JS) (a1 : Int32) (a2 : Int32) (a3 : Int32), a0.d = n0 → Pt (k7 a0 a1 a2 a3) (fun y => y.2.d = n0)) (s : JS) (x2 : Int32) (x3 : Int32) (x4 : Int32) (h1 : s.d = n0) : Pt (kX2_wisestGuess_7 k7 s x2 x3 x4) (fun y => y.2.d = n0) := by
  unfold kX2_wisestGuess_7
  exact pt_ite (fun _ => pt_some h1) (fun _ => pt_bindI (P := (fun y => y.2.d = n0)) (fr_kX0_mayBe n0 s _ h1) (fun r3 s2 qs2 => pt_bindP (P := fun _ => True) (fun _ _ => trivial) (fun r4 _ => pt_bindI (P := (fun y => y.2.d = n0)) (fr_kX2_mayCount n0 s2 _ qs2) (fun r6 s5 qs5 => pt_ite (fun _ => hk7 _ _ _ _ qs5) (fun _ => pt_some qs5)))))

theorem fr_kX2_wisestGuess_7L (n0 : SD) : ∀ (n : Nat) (s : JS) (x1 : Int32) (x2 : Int32) (x3 : Int32), s.d = n0 → Pt (kX2_wisestGuess_7L n s x1 x2 x3) (fun y => y.2.d = n0) := by
  intro n
  induction n with
  | zero => intro _ _ _ _ _; exact pt_none
  | succ n ih =>
    intro s x1 x2 x3 h1
    exact fr_kX2_wisestGuess_7 n0 (kX2_wisestGuess_7L n) ih s x1 x2 x3 h1

theorem fr_kX2_wisestGuess (n0 : SD) (s : JS) (h1 : s.d = n0) : Pt (kX2_wisestGuess s) (fun y => y.2.d = n0) := by
  unfold kX2_wisestGuess
  exact fr_kX2_wisestGuess_7L n0 _ s _ _ _ h1
