/-! ===== what the queries leave as it was ===== -/
theorem fr_kX2_borneOver_3 (n0 : SD) (k3 : JS → Int32 → Int32 → Int32 → Option (Int32 × JS)) (hk3 : ∀ (a0 : JS) (a1 : Int32) (a2 : Int32) (a3 : Int32), a0.d = n0 → Pt (k3 a0 a1 a2 a3) (fun y => y.2.d = n0)) (s : JS) (x2 : Int32) (x3 : Int32) (x4 : Int32) (h1 : s.d = n0) : Pt (kX2_borneOver_3 k3 s x2 x3 x4) (fun y => y.2.d = n0) := by
  unfold kX2_borneOver_3
  exact pt_ite (fun _ => pt_some h1) (fun _ => pt_bindP (P := fun _ => True) (fun _ _ => trivial) (fun r2 _ => pt_bindI (P := (fun y => y.2.d = n0)) (fr_kX0_isBearing n0 s _ _ _ h1) (fun r4 s3 qs3 => pt_ite (fun _ => pt_some qs3) (fun _ => hk3 _ _ _ _ qs3))))

theorem fr_kX2_borneOver_3L (n0 : SD) : ∀ (n : Nat) (s : JS) (x1 : Int32) (x2 : Int32) (x3 : Int32), s.d = n0 → Pt (kX2_borneOver_3L n s x1 x2 x3) (fun y => y.2.d = n0) := by
  intro n
  induction n with
  | zero => intro _ _ _ _ _; exact pt_none
  | succ n ih =>
    intro s x1 x2 x3 h1
    exact fr_kX2_borneOver_3 n0 (kX2_borneOver_3L n) ih s x1 x2 x3 h1

theorem fr_kX2_borneOver (n0 : SD) (s : JS) (x2 : Int32) (x3 : Int32) (h1 : s.d = n0) : Pt (kX2_borneOver s x2 x3) (fun y => y.2.d = n0) := by
  unfold kX2_borneOver
  exact fr_kX2_borneOver_3L n0 _ s _ _ _ h1

theorem fr_kX10_wave (g0 : GS) (n0 : SD) (s : XS) (x1 : Int32) (x2 : Int32) (h1 : s.g = g0 ∧ s.n = n0) : Pt (kX10_wave s x1 x2) (fun y => y.2.g = g0 ∧ y.2.n = n0) := by
  unfold kX10_wave
  exact pt_bindI (P := fun _ => True) (fun _ _ => trivial) (fun r2 s1 _ => pt_let (P := (fun s : XS => s.g = g0 ∧ s.n = n0)) ⟨h1.1, h1.2⟩ (fun s3 qs3 => pt_ite (fun _ => pt_some qs3) (fun _ => pt_ite (fun _ => pt_bindI (P := (fun y => y.2.d = n0)) (fr_kX0_mayBe n0 (JS.mk s3.k s3.n) _ qs3.2) (fun r8 s7 qs7 => pt_let (P := (fun s : XS => s.g = g0 ∧ s.n = n0)) ⟨qs3.1, qs7⟩ (fun s9 qs9 => pt_some qs9))) (fun _ => pt_ite (fun _ => pt_ite (fun _ => pt_ite (fun _ => pt_some qs3) (fun _ => pt_ite (fun _ => pt_some qs3) (fun _ => pt_none))) (fun _ => pt_none)) (fun _ => pt_ite (fun _ => pt_ite (fun _ => pt_some qs3) (fun _ => pt_none)) (fun _ => pt_ite (fun _ => pt_ite (fun _ => pt_some qs3) (fun _ => pt_none)) (fun _ => pt_ite (fun _ => pt_bindI (P := (fun y => y.2.d = n0)) (fr_kX0_thereNow n0 (JS.mk s3.k s3.n) _ qs3.2) (fun r21 s20 qs20 => pt_let (P := (fun s : XS => s.g = g0 ∧ s.n = n0)) ⟨qs3.1, qs20⟩ (fun s22 qs22 => pt_some qs22))) (fun _ => pt_ite (fun _ => pt_bindI (P := (fun y => y.2.d = n0)) (fr_kX0_shiftsOf n0 (JS.mk s3.k s3.n) _ qs3.2) (fun r26 s25 qs25 => pt_let (P := (fun s : XS => s.g = g0 ∧ s.n = n0)) ⟨qs3.1, qs25⟩ (fun s27 qs27 => pt_some qs27))) (fun _ => pt_some qs3)))))))))

theorem fr_kX10_party (g0 : GS) (n0 : SD) (s : XS) (x1 : Int32) (x2 : Int32) (h1 : s.g = g0 ∧ s.n = n0) : Pt (kX10_party s x1 x2) (fun y => y.2.g = g0 ∧ y.2.n = n0) := by
  unfold kX10_party
  exact pt_bindI (P := fun _ => True) (fun _ _ => trivial) (fun r2 s1 _ => pt_let (P := (fun s : XS => s.g = g0 ∧ s.n = n0)) ⟨h1.1, h1.2⟩ (fun s3 qs3 => pt_ite (fun _ => pt_some qs3) (fun _ => pt_ite (fun _ => pt_ite (fun _ => pt_some qs3) (fun _ => pt_none)) (fun _ => pt_ite (fun _ => pt_ite (fun _ => pt_some qs3) (fun _ => pt_none)) (fun _ => pt_ite (fun _ => pt_ite (fun _ => pt_some qs3) (fun _ => pt_none)) (fun _ => pt_ite (fun _ => pt_ite (fun _ => pt_some qs3) (fun _ => pt_none)) (fun _ => pt_ite (fun _ => pt_bindI (P := (fun y => y.2.d = n0)) (fr_kX0_fareOf n0 (JS.mk s3.k s3.n) _ qs3.2) (fun r16 s15 qs15 => pt_let (P := (fun s : XS => s.g = g0 ∧ s.n = n0)) ⟨qs3.1, qs15⟩ (fun s17 qs17 => pt_some qs17))) (fun _ => pt_ite (fun _ => pt_bindI (P := (fun y => y.2.d = n0)) (fr_kX0_isDaring n0 (JS.mk s3.k s3.n) _ qs3.2) (fun r21 s20 qs20 => pt_let (P := (fun s : XS => s.g = g0 ∧ s.n = n0)) ⟨qs3.1, qs20⟩ (fun s22 qs22 => pt_ite (fun _ => pt_some qs22) (fun _ => pt_some qs22)))) (fun _ => pt_some qs3)))))))))

theorem fr_kX10_needs (g0 : GS) (n0 : SD) (s : XS) (x1 : Int32) (x2 : Int32) (x3 : Int32) (h1 : s.g = g0 ∧ s.n = n0) : Pt (kX10_needs s x1 x2 x3) (fun y => y.2.g = g0 ∧ y.2.n = n0) := by
  unfold kX10_needs
  exact pt_bindI (P := fun _ => True) (fun _ _ => trivial) (fun r2 s1 _ => pt_let (P := (fun s : XS => s.g = g0 ∧ s.n = n0)) ⟨h1.1, h1.2⟩ (fun s3 qs3 => pt_ite (fun _ => pt_some qs3) (fun _ => pt_bindI (P := fun _ => True) (fun _ _ => trivial) (fun r7 s6 _ => pt_let (P := (fun s : XS => s.g = g0 ∧ s.n = n0)) ⟨qs3.1, qs3.2⟩ (fun s8 qs8 => pt_ite (fun _ => pt_some qs8) (fun _ => pt_bindP (P := fun _ => True) (fun _ _ => trivial) (fun r11 _ => pt_ite (fun _ => pt_some qs8) (fun _ => pt_bindI (P := (fun y => y.2.d = n0)) (fr_kX0_needOf n0 (JS.mk s8.k s8.n) _ _ _ qs8.2) (fun r14 s13 qs13 => pt_let (P := (fun s : XS => s.g = g0 ∧ s.n = n0)) ⟨qs8.1, qs13⟩ (fun s15 qs15 => pt_some qs15))))))))))

theorem fr_kX10_bears (g0 : GS) (n0 : SD) (s : XS) (x1 : Int32) (x2 : Int32) (h1 : s.g = g0 ∧ s.n = n0) : Pt (kX10_bears s x1 x2) (fun y => y.2.g = g0 ∧ y.2.n = n0) := by
  unfold kX10_bears
  exact pt_bindI (P := fun _ => True) (fun _ _ => trivial) (fun r2 s1 _ => pt_let (P := (fun s : XS => s.g = g0 ∧ s.n = n0)) ⟨h1.1, h1.2⟩ (fun s3 qs3 => pt_ite (fun _ => pt_some qs3) (fun _ => pt_bindI (P := fun _ => True) (fun _ _ => trivial) (fun r7 s6 _ => pt_let (P := (fun s : XS => s.g = g0 ∧ s.n = n0)) ⟨qs3.1, qs3.2⟩ (fun s8 qs8 => pt_ite (fun _ => pt_some qs8) (fun _ => pt_bindI (P := (fun y => y.2.d = n0)) (fr_kX2_borneOver n0 (JS.mk s8.k s8.n) _ _ qs8.2) (fun r12 s11 qs11 => pt_let (P := (fun s : XS => s.g = g0 ∧ s.n = n0)) ⟨qs8.1, qs11⟩ (fun s13 qs13 => pt_some qs13))))))))

theorem fr_kX10_sunk_69 (g0 : GS) (n0 : SD) (k17 : XS → Int32 → Int32 → Int32 → Option (Int32 × XS)) (hk17 : ∀ (a0 : XS) (a1 : Int32) (a2 : Int32) (a3 : Int32), a0.g = g0 ∧ a0.n = n0 → Pt (k17 a0 a1 a2 a3) (fun y => y.2.g = g0 ∧ y.2.n = n0)) (s : XS) (x1 : Int32) (x2 : Int32) (x3 : Int32) (h1 : s.g = g0 ∧ s.n = n0) : Pt (kX10_sunk_69 k17 s x1 x2 x3) (fun y => y.2.g = g0 ∧ y.2.n = n0) := by
  unfold kX10_sunk_69
  exact hk17 _ _ _ _ h1

theorem fr_kX10_sunk_17 (g0 : GS) (n0 : SD) (k17 : XS → Int32 → Int32 → Int32 → Option (Int32 × XS)) (hk17 : ∀ (a0 : XS) (a1 : Int32) (a2 : Int32) (a3 : Int32), a0.g = g0 ∧ a0.n = n0 → Pt (k17 a0 a1 a2 a3) (fun y => y.2.g = g0 ∧ y.2.n = n0)) (s : XS) (x1 : Int32) (x2 : Int32) (x3 : Int32) (h1 : s.g = g0 ∧ s.n = n0) : Pt (kX10_sunk_17 k17 s x1 x2 x3) (fun y => y.2.g = g0 ∧ y.2.n = n0) := by
  unfold kX10_sunk_17
  exact pt_ite (fun _ => pt_some h1) (fun _ => pt_ite (fun _ => pt_ite (fun _ => pt_bindI (P := (fun y => y.2.d = n0)) (fr_kX2_borneOver n0 (JS.mk s.k s.n) _ _ h1.2) (fun r5 s4 qs4 => pt_let (P := (fun s : XS => s.g = g0 ∧ s.n = n0)) ⟨h1.1, qs4⟩ (fun s6 qs6 => pt_ite (fun _ => fr_kX10_sunk_69 g0 n0 _ hk17 s6 _ _ _ qs6) (fun _ => fr_kX10_sunk_69 g0 n0 _ hk17 s6 _ _ _ qs6)))) (fun _ => fr_kX10_sunk_69 g0 n0 _ hk17 s _ _ _ h1)) (fun _ => pt_none))

theorem fr_kX10_sunk_17L (g0 : GS) (n0 : SD) : ∀ (n : Nat) (s : XS) (x1 : Int32) (x2 : Int32) (x3 : Int32), s.g = g0 ∧ s.n = n0 → Pt (kX10_sunk_17L n s x1 x2 x3) (fun y => y.2.g = g0 ∧ y.2.n = n0) := by
  intro n
  induction n with
  | zero => intro _ _ _ _ _; exact pt_none
  | succ n ih =>
    intro s x1 x2 x3 h1
    exact fr_kX10_sunk_17 g0 n0 (kX10_sunk_17L n) ih s x1 x2 x3 h1

theorem fr_kX10_sunk (g0 : GS) (n0 : SD) (s : XS) (x1 : Int32) (h1 : s.g = g0 ∧ s.n = n0) : Pt (kX10_sunk s x1) (fun y => y.2.g = g0 ∧ y.2.n = n0) := by
  unfold kX10_sunk
  exact pt_bindI (P := fun _ => True) (fun _ _ => trivial) (fun r2 s1 _ => pt_let (P := (fun s : XS => s.g = g0 ∧ s.n = n0)) ⟨h1.1, h1.2⟩ (fun s3 qs3 => pt_ite (fun _ => pt_some qs3) (fun _ => fr_kX10_sunk_17L g0 n0 _ s3 _ _ _ qs3)))

theorem fr_kX10_dearest_59 (g0 : GS) (n0 : SD) (k20 : XS → Int32 → Int32 → Int32 → Int32 → Option (Int32 × XS)) (hk20 : ∀ (a0 : XS) (a1 : Int32) (a2 : Int32) (a3 : Int32) (a4 : Int32), a0.g = g0 ∧ a0.n = n0 → Pt (k20 a0 a1 a2 a3 a4) (fun y => y.2.g = g0 ∧ y.2.n = n0)) (s : XS) (x1 : Int32) (x2 : Int32) (x3 : Int32) (x4 : Int32) (h1 : s.g = g0 ∧ s.n = n0) : Pt (kX10_dearest_59 k20 s x1 x2 x3 x4) (fun y => y.2.g = g0 ∧ y.2.n = n0) := by
  unfold kX10_dearest_59
  exact hk20 _ _ _ _ _ h1

theorem fr_kX10_dearest_20 (g0 : GS) (n0 : SD) (k20 : XS → Int32 → Int32 → Int32 → Int32 → Option (Int32 × XS)) (hk20 : ∀ (a0 : XS) (a1 : Int32) (a2 : Int32) (a3 : Int32) (a4 : Int32), a0.g = g0 ∧ a0.n = n0 → Pt (k20 a0 a1 a2 a3 a4) (fun y => y.2.g = g0 ∧ y.2.n = n0)) (s : XS) (x1 : Int32) (x2 : Int32) (x3 : Int32) (x4 : Int32) (h1 : s.g = g0 ∧ s.n = n0) : Pt (kX10_dearest_20 k20 s x1 x2 x3 x4) (fun y => y.2.g = g0 ∧ y.2.n = n0) := by
  unfold kX10_dearest_20
  exact pt_ite (fun _ => pt_ite (fun _ => pt_some h1) (fun _ => pt_some h1)) (fun _ => pt_bindI (P := (fun y => y.2.d = n0)) (fr_kX0_fareOf n0 (JS.mk s.k s.n) _ h1.2) (fun r4 s3 qs3 => pt_let (P := (fun s : XS => s.g = g0 ∧ s.n = n0)) ⟨h1.1, qs3⟩ (fun s5 qs5 => pt_ite (fun _ => fr_kX10_dearest_59 g0 n0 _ hk20 s5 _ _ _ _ qs5) (fun _ => fr_kX10_dearest_59 g0 n0 _ hk20 s5 _ _ _ _ qs5))))

theorem fr_kX10_dearest_20L (g0 : GS) (n0 : SD) : ∀ (n : Nat) (s : XS) (x1 : Int32) (x2 : Int32) (x3 : Int32) (x4 : Int32), s.g = g0 ∧ s.n = n0 → Pt (kX10_dearest_20L n s x1 x2 x3 x4) (fun y => y.2.g = g0 ∧ y.2.n = n0) := by
  intro n
  induction n with
  | zero => intro _ _ _ _ _ _; exact pt_none
  | succ n ih =>
    intro s x1 x2 x3 x4 h1
    exact fr_kX10_dearest_20 g0 n0 (kX10_dearest_20L n) ih s x1 x2 x3 x4 h1

theorem fr_kX10_dearest_11 (g0 : GS) (n0 : SD) (s : XS) (x1 : Int32) (h1 : s.g = g0 ∧ s.n = n0) : Pt (kX10_dearest_11 s x1) (fun y => y.2.g = g0 ∧ y.2.n = n0) := by
  unfold kX10_dearest_11
  exact fr_kX10_dearest_20L g0 n0 _ s _ _ _ _ h1

theorem fr_kX10_dearest (g0 : GS) (n0 : SD) (s : XS) (x1 : Int32) (h1 : s.g = g0 ∧ s.n = n0) : Pt (kX10_dearest s x1) (fun y => y.2.g = g0 ∧ y.2.n = n0) := by
  unfold kX10_dearest
  exact pt_ite (fun _ => fr_kX10_dearest_11 g0 n0 s _ h1) (fun _ => pt_ite (fun _ => fr_kX10_dearest_11 g0 n0 s _ h1) (fun _ => pt_some h1))

theorem fr_kX10_darers_48 (g0 : GS) (n0 : SD) (k4 : XS → Int32 → Int32 → Option (Int32 × XS)) (hk4 : ∀ (a0 : XS) (a1 : Int32) (a2 : Int32), a0.g = g0 ∧ a0.n = n0 → Pt (k4 a0 a1 a2) (fun y => y.2.g = g0 ∧ y.2.n = n0)) (s : XS) (x1 : Int32) (x2 : Int32) (h1 : s.g = g0 ∧ s.n = n0) : Pt (kX10_darers_48 k4 s x1 x2) (fun y => y.2.g = g0 ∧ y.2.n = n0) := by
  unfold kX10_darers_48
  exact hk4 _ _ _ h1

theorem fr_kX10_darers_4 (g0 : GS) (n0 : SD) (k4 : XS → Int32 → Int32 → Option (Int32 × XS)) (hk4 : ∀ (a0 : XS) (a1 : Int32) (a2 : Int32), a0.g = g0 ∧ a0.n = n0 → Pt (k4 a0 a1 a2) (fun y => y.2.g = g0 ∧ y.2.n = n0)) (s : XS) (x1 : Int32) (x2 : Int32) (h1 : s.g = g0 ∧ s.n = n0) : Pt (kX10_darers_4 k4 s x1 x2) (fun y => y.2.g = g0 ∧ y.2.n = n0) := by
  unfold kX10_darers_4
  exact pt_ite (fun _ => pt_some h1) (fun _ => pt_ite (fun _ => pt_ite (fun _ => pt_bindI (P := (fun y => y.2.d = n0)) (fr_kX0_isDaring n0 (JS.mk s.k s.n) _ h1.2) (fun r5 s4 qs4 => pt_let (P := (fun s : XS => s.g = g0 ∧ s.n = n0)) ⟨h1.1, qs4⟩ (fun s6 qs6 => pt_ite (fun _ => fr_kX10_darers_48 g0 n0 _ hk4 s6 _ _ qs6) (fun _ => fr_kX10_darers_48 g0 n0 _ hk4 s6 _ _ qs6)))) (fun _ => fr_kX10_darers_48 g0 n0 _ hk4 s _ _ h1)) (fun _ => pt_none))

theorem fr_kX10_darers_4L (g0 : GS) (n0 : SD) : ∀ (n : Nat) (s : XS) (x1 : Int32) (x2 : Int32), s.g = g0 ∧ s.n = n0 → Pt (kX10_darers_4L n s x1 x2) (fun y => y.2.g = g0 ∧ y.2.n = n0) := by
  intro n
  induction n with
  | zero => intro _ _ _ _; exact pt_none
  | succ n ih =>
    intro s x1 x2 h1
    exact fr_kX10_darers_4 g0 n0 (kX10_darers_4L n) ih s x1 x2 h1

theorem fr_kX10_darers (g0 : GS) (n0 : SD) (s : XS) (h1 : s.g = g0 ∧ s.n = n0) : Pt (kX10_darers s) (fun y => y.2.g = g0 ∧ y.2.n = n0) := by
  unfold kX10_darers
  exact fr_kX10_darers_4L g0 n0 _ s _ _ h1

theorem fr_kX10_year_63 (g0 : GS) (n0 : SD) (k29 : XS → Int32 → Int32 → Int32 → Int32 → Option (Int32 × XS)) (hk29 : ∀ (a0 : XS) (a1 : Int32) (a2 : Int32) (a3 : Int32) (a4 : Int32), a0.g = g0 ∧ a0.n = n0 → Pt (k29 a0 a1 a2 a3 a4) (fun y => y.2.g = g0 ∧ y.2.n = n0)) (s : XS) (x1 : Int32) (x2 : Int32) (x3 : Int32) (x4 : Int32) (h1 : s.g = g0 ∧ s.n = n0) : Pt (kX10_year_63 k29 s x1 x2 x3 x4) (fun y => y.2.g = g0 ∧ y.2.n = n0) := by
  unfold kX10_year_63
  exact hk29 _ _ _ _ _ h1

theorem fr_kX10_year_29 (g0 : GS) (n0 : SD) (k29 : XS → Int32 → Int32 → Int32 → Int32 → Option (Int32 × XS)) (hk29 : ∀ (a0 : XS) (a1 : Int32) (a2 : Int32) (a3 : Int32) (a4 : Int32), a0.g = g0 ∧ a0.n = n0 → Pt (k29 a0 a1 a2 a3 a4) (fun y => y.2.g = g0 ∧ y.2.n = n0)) (s : XS) (x1 : Int32) (x2 : Int32) (x3 : Int32) (x4 : Int32) (h1 : s.g = g0 ∧ s.n = n0) : Pt (kX10_year_29 k29 s x1 x2 x3 x4) (fun y => y.2.g = g0 ∧ y.2.n = n0) := by
  unfold kX10_year_29
  exact pt_ite (fun _ => pt_some h1) (fun _ => pt_bindI (P := (fun y => y.2.d = n0)) (fr_kX0_guessThere n0 (JS.mk s.k s.n) _ h1.2) (fun r3 s2 qs2 => pt_let (P := (fun s : XS => s.g = g0 ∧ s.n = n0)) ⟨h1.1, qs2⟩ (fun s4 qs4 => pt_ite (fun _ => fr_kX10_year_63 g0 n0 _ hk29 s4 _ _ _ _ qs4) (fun _ => fr_kX10_year_63 g0 n0 _ hk29 s4 _ _ _ _ qs4))))

theorem fr_kX10_year_29L (g0 : GS) (n0 : SD) : ∀ (n : Nat) (s : XS) (x1 : Int32) (x2 : Int32) (x3 : Int32) (x4 : Int32), s.g = g0 ∧ s.n = n0 → Pt (kX10_year_29L n s x1 x2 x3 x4) (fun y => y.2.g = g0 ∧ y.2.n = n0) := by
  intro n
  induction n with
  | zero => intro _ _ _ _ _ _; exact pt_none
  | succ n ih =>
    intro s x1 x2 x3 x4 h1
    exact fr_kX10_year_29 g0 n0 (kX10_year_29L n) ih s x1 x2 x3 x4 h1

theorem fr_kX10_year (g0 : GS) (n0 : SD) (s : XS) (x1 : Int32) (x2 : Int32) (h1 : s.g = g0 ∧ s.n = n0) : Pt (kX10_year s x1 x2) (fun y => y.2.g = g0 ∧ y.2.n = n0) := by
  unfold kX10_year
  exact pt_bindI (P := fun _ => True) (fun _ _ => trivial) (fun r2 s1 _ => pt_let (P := (fun s : XS => s.g = g0 ∧ s.n = n0)) ⟨h1.1, h1.2⟩ (fun s3 qs3 => pt_ite (fun _ => pt_some qs3) (fun _ => pt_ite (fun _ => pt_some qs3) (fun _ => pt_ite (fun _ => fr_kX10_year_29L g0 n0 _ s3 _ _ _ _ qs3) (fun _ => pt_some qs3)))))

theorem fr_kX10_faresOfAllHere_42 (g0 : GS) (n0 : SD) (k4 : XS → Int32 → Int32 → Option (Int32 × XS)) (hk4 : ∀ (a0 : XS) (a1 : Int32) (a2 : Int32), a0.g = g0 ∧ a0.n = n0 → Pt (k4 a0 a1 a2) (fun y => y.2.g = g0 ∧ y.2.n = n0)) (s : XS) (x1 : Int32) (x2 : Int32) (h1 : s.g = g0 ∧ s.n = n0) : Pt (kX10_faresOfAllHere_42 k4 s x1 x2) (fun y => y.2.g = g0 ∧ y.2.n = n0) := by
  unfold kX10_faresOfAllHere_42
  exact hk4 _ _ _ h1

theorem fr_kX10_faresOfAllHere_4 (g0 : GS) (n0 : SD) (k4 : XS → Int32 → Int32 → Option (Int32 × XS)) (hk4 : ∀ (a0 : XS) (a1 : Int32) (a2 : Int32), a0.g = g0 ∧ a0.n = n0 → Pt (k4 a0 a1 a2) (fun y => y.2.g = g0 ∧ y.2.n = n0)) (s : XS) (x1 : Int32) (x2 : Int32) (h1 : s.g = g0 ∧ s.n = n0) : Pt (kX10_faresOfAllHere_4 k4 s x1 x2) (fun y => y.2.g = g0 ∧ y.2.n = n0) := by
  unfold kX10_faresOfAllHere_4
  exact pt_ite (fun _ => pt_some h1) (fun _ => pt_ite (fun _ => pt_ite (fun _ => pt_bindI (P := (fun y => y.2.d = n0)) (fr_kX0_fareOf n0 (JS.mk s.k s.n) _ h1.2) (fun r5 s4 qs4 => pt_let (P := (fun s : XS => s.g = g0 ∧ s.n = n0)) ⟨h1.1, qs4⟩ (fun s6 qs6 => fr_kX10_faresOfAllHere_42 g0 n0 _ hk4 s6 _ _ qs6))) (fun _ => fr_kX10_faresOfAllHere_42 g0 n0 _ hk4 s _ _ h1)) (fun _ => pt_none))

theorem fr_kX10_faresOfAllHere_4L (g0 : GS) (n0 : SD) : ∀ (n : Nat) (s : XS) (x1 : Int32) (x2 : Int32), s.g = g0 ∧ s.n = n0 → Pt (kX10_faresOfAllHere_4L n s x1 x2) (fun y => y.2.g = g0 ∧ y.2.n = n0) := by
  intro n
  induction n with
  | zero => intro _ _ _ _; exact pt_none
  | succ n ih =>
    intro s x1 x2 h1
    exact fr_kX10_faresOfAllHere_4 g0 n0 (kX10_faresOfAllHere_4L n) ih s x1 x2 h1

theorem fr_kX10_faresOfAllHere (g0 : GS) (n0 : SD) (s : XS) (h1 : s.g = g0 ∧ s.n = n0) : Pt (kX10_faresOfAllHere s) (fun y => y.2.g = g0 ∧ y.2.n = n0) := by
  unfold kX10_faresOfAllHere
  exact fr_kX10_faresOfAllHere_4L g0 n0 _ s _ _ h1

theorem fr_kX2_bestGuess_13 (n0 : SD) (k13 : JS → Int32 → Int32 → Int32 → Option (Int32 × JS)) (hk13 : ∀ (a0 : JS) (a1 : Int32) (a2 : Int32) (a3 : Int32), a0.d = n0 → Pt (k13 a0 a1 a2 a3) (fun y => y.2.d = n0)) (s : JS) (x2 : Int32) (x3 : Int32) (x4 : Int32) (h1 : s.d = n0) : Pt (kX2_bestGuess_13 k13 s x2 x3 x4) (fun y => y.2.d = n0) := by
  unfold kX2_bestGuess_13
  exact pt_ite (fun _ => pt_some h1) (fun _ => pt_bindI (P := (fun y => y.2.d = n0)) (fr_kX2_bestThing n0 s _ _ h1) (fun r3 s2 qs2 => pt_ite (fun _ => pt_some qs2) (fun _ => hk13 _ _ _ _ qs2)))

theorem fr_kX2_bestGuess_13L (n0 : SD) : ∀ (n : Nat) (s : JS) (x1 : Int32) (x2 : Int32) (x3 : Int32), s.d = n0 → Pt (kX2_bestGuess_13L n s x1 x2 x3) (fun y => y.2.d = n0) := by
  intro n
  induction n with
  | zero => intro _ _ _ _ _; exact pt_none
  | succ n ih =>
    intro s x1 x2 x3 h1
    exact fr_kX2_bestGuess_13 n0 (kX2_bestGuess_13L n) ih s x1 x2 x3 h1

theorem fr_kX2_bestGuess (n0 : SD) (s : JS) (x2 : Int32) (h1 : s.d = n0) : Pt (kX2_bestGuess s x2) (fun y => y.2.d = n0) := by
  unfold kX2_bestGuess
  exact fr_kX2_bestGuess_13L n0 _ s _ _ _ h1

theorem fr_kX2_oddsOverWithin_158 (n0 : SD) (R : JS → Int32 → Int32 → Option (Int32 × JS)) (k55 : JS → Int32 → Int32 → Int32 → Int32 → Int32 → Int32 → Option (Int32 × JS)) (hR : ∀ (a0 : JS) (a1 : Int32) (a2 : Int32), a0.d = n0 → Pt (R a0 a1 a2) (fun y => y.2.d = n0)) (hk55 : ∀ (a0 : JS) (a1 : Int32) (a2 : Int32) (a3 : Int32) (a4 : Int32) (a5 : Int32) (a6 : Int32), a0.d = n0 → Pt (k55 a0 a1 a2 a3 a4 a5 a6) (fun y => y.2.d = n0)) (s : JS) (x2 : Int32) (x3 : Int32) (x4 : Int32) (x5 : Int32) (x6 : Int32) (x7 : Int32) (h1 : s.d = n0) : Pt (kX2_oddsOverWithin_158 R k55 s x2 x3 x4 x5 x6 x7) (fun y => y.2.d = n0) := by
  unfold kX2_oddsOverWithin_158
  exact hk55 _ _ _ _ _ _ _ h1

theorem fr_kX10_likeliest (g0 : GS) (n0 : SD) (s : XS) (h1 : s.g = g0 ∧ s.n = n0) : Pt (kX10_likeliest s) (fun y => y.2.g = g0 ∧ y.2.n = n0) := by
  unfold kX10_likeliest
  exact pt_bindI (P := (fun y => y.2.d = n0)) (fr_kX2_bestGuess n0 (JS.mk s.k s.n) _ h1.2) (fun r2 s1 qs1 => pt_let (P := (fun s : XS => s.g = g0 ∧ s.n = n0)) ⟨h1.1, qs1⟩ (fun s3 qs3 => pt_some qs3))

theorem fr_kX10_safest (g0 : GS) (n0 : SD) (s : XS) (x1 : Int32) (h1 : s.g = g0 ∧ s.n = n0) : Pt (kX10_safest s x1) (fun y => y.2.g = g0 ∧ y.2.n = n0) := by
  unfold kX10_safest
  exact pt_bindI (P := fun _ => True) (fun _ _ => trivial) (fun r2 s1 _ => pt_let (P := (fun s : XS => s.g = g0 ∧ s.n = n0)) ⟨h1.1, h1.2⟩ (fun s3 qs3 => pt_ite (fun _ => pt_some qs3) (fun _ => pt_bindI (P := (fun y => y.2.d = n0)) (fr_kX2_bestGuess n0 (JS.mk s3.k s3.n) _ qs3.2) (fun r7 s6 qs6 => pt_let (P := (fun s : XS => s.g = g0 ∧ s.n = n0)) ⟨qs3.1, qs6⟩ (fun s8 qs8 => pt_some qs8)))))

theorem fr_kX10_sure (g0 : GS) (n0 : SD) (s : XS) (x1 : Int32) (x2 : Int32) (h1 : s.g = g0 ∧ s.n = n0) : Pt (kX10_sure s x1 x2) (fun y => y.2.g = g0 ∧ y.2.n = n0) := by
  unfold kX10_sure
  exact pt_bindI (P := (fun y => y.2.g = g0 ∧ y.2.n = n0)) (fr_kX10_isHere g0 n0 s _ h1) (fun r2 s1 qs1 => pt_ite (fun _ => pt_some qs1) (fun _ => pt_ite (fun _ => pt_some qs1) (fun _ => pt_ite (fun _ => pt_some qs1) (fun _ => pt_ite (fun _ => pt_bindP (P := (fun s : DS => s.e = n0)) (fr_kX6_copyFrom n0 (DS.mk s1.t s1.n) qs1.2) (fun s7 qs7 => pt_let (P := (fun s : XS => s.g = g0 ∧ s.n = n0)) ⟨qs1.1, qs7⟩ (fun s8 qs8 => pt_bindI (P := fun _ => True) (fun _ _ => trivial) (fun r11 s10 _ => pt_let (P := (fun s : XS => s.g = g0 ∧ s.n = n0)) ⟨qs8.1, qs8.2⟩ (fun s12 qs12 => pt_some qs12))))) (fun _ => pt_some qs1)))))

theorem fr_kX10_stuck_50 (g0 : GS) (n0 : SD) (k4 : XS → Int32 → Int32 → Option (Int32 × XS)) (hk4 : ∀ (a0 : XS) (a1 : Int32) (a2 : Int32), a0.g = g0 ∧ a0.n = n0 → Pt (k4 a0 a1 a2) (fun y => y.2.g = g0 ∧ y.2.n = n0)) (s : XS) (x1 : Int32) (x2 : Int32) (h1 : s.g = g0 ∧ s.n = n0) : Pt (kX10_stuck_50 k4 s x1 x2) (fun y => y.2.g = g0 ∧ y.2.n = n0) := by
  unfold kX10_stuck_50
  exact hk4 _ _ _ h1

theorem fr_kX10_stuck_4 (g0 : GS) (n0 : SD) (k4 : XS → Int32 → Int32 → Option (Int32 × XS)) (hk4 : ∀ (a0 : XS) (a1 : Int32) (a2 : Int32), a0.g = g0 ∧ a0.n = n0 → Pt (k4 a0 a1 a2) (fun y => y.2.g = g0 ∧ y.2.n = n0)) (s : XS) (x1 : Int32) (x2 : Int32) (h1 : s.g = g0 ∧ s.n = n0) : Pt (kX10_stuck_4 k4 s x1 x2) (fun y => y.2.g = g0 ∧ y.2.n = n0) := by
  unfold kX10_stuck_4
  exact pt_ite (fun _ => pt_some h1) (fun _ => pt_ite (fun _ => pt_ite (fun _ => pt_bindI (P := (fun y => y.2.d = n0)) (fr_kX2_bestGuess n0 (JS.mk s.k s.n) _ h1.2) (fun r5 s4 qs4 => pt_let (P := (fun s : XS => s.g = g0 ∧ s.n = n0)) ⟨h1.1, qs4⟩ (fun s6 qs6 => pt_ite (fun _ => fr_kX10_stuck_50 g0 n0 _ hk4 s6 _ _ qs6) (fun _ => fr_kX10_stuck_50 g0 n0 _ hk4 s6 _ _ qs6)))) (fun _ => fr_kX10_stuck_50 g0 n0 _ hk4 s _ _ h1)) (fun _ => pt_none))

theorem fr_kX10_stuck_4L (g0 : GS) (n0 : SD) : ∀ (n : Nat) (s : XS) (x1 : Int32) (x2 : Int32), s.g = g0 ∧ s.n = n0 → Pt (kX10_stuck_4L n s x1 x2) (fun y => y.2.g = g0 ∧ y.2.n = n0) := by
  intro n
  induction n with
  | zero => intro _ _ _ _; exact pt_none
  | succ n ih =>
    intro s x1 x2 h1
    exact fr_kX10_stuck_4 g0 n0 (kX10_stuck_4L n) ih s x1 x2 h1

theorem fr_kX10_stuck (g0 : GS) (n0 : SD) (s : XS) (h1 : s.g = g0 ∧ s.n = n0) : Pt (kX10_stuck s) (fun y => y.2.g = g0 ∧ y.2.n = n0) := by
  unfold kX10_stuck
  exact fr_kX10_stuck_4L g0 n0 _ s _ _ h1

theorem fr_kX10_chosen_86 (g0 : GS) (n0 : SD) (k7 : XS → Int32 → Int32 → Int32 → Option (Int32 × XS)) (hk7 : ∀ (a0 : XS) (a1 : Int32) (a2 : Int32) (a3 : Int32), a0.g = g0 ∧ a0.n = n0 → Pt (k7 a0 a1 a2 a3) (fun y => y.2.g = g0 ∧ y.2.n = n0)) (s : XS) (x1 : Int32) (x2 : Int32) (x3 : Int32) (h1 : s.g = g0 ∧ s.n = n0) : Pt (kX10_chosen_86 k7 s x1 x2 x3) (fun y => y.2.g = g0 ∧ y.2.n = n0) := by
  unfold kX10_chosen_86
  exact hk7 _ _ _ _ h1

theorem fr_kX10_chosen_73 (g0 : GS) (n0 : SD) (k7 : XS → Int32 → Int32 → Int32 → Option (Int32 × XS)) (hk7 : ∀ (a0 : XS) (a1 : Int32) (a2 : Int32) (a3 : Int32), a0.g = g0 ∧ a0.n = n0 → Pt (k7 a0 a1 a2 a3) (fun y => y.2.g = g0 ∧ y.2.n = n0)) (s : XS) (x1 : Int32) (x2 : Int32) (x3 : Int32) (t0 : Int32) (h1 : s.g = g0 ∧ s.n = n0) : Pt (kX10_chosen_73 k7 s x1 x2 x3 t0) (fun y => y.2.g = g0 ∧ y.2.n = n0) := by
  unfold kX10_chosen_73
  exact pt_ite (fun _ => fr_kX10_chosen_86 g0 n0 _ hk7 s _ _ _ h1) (fun _ => fr_kX10_chosen_86 g0 n0 _ hk7 s _ _ _ h1)

theorem fr_kX10_chosen_47 (g0 : GS) (n0 : SD) (k7 : XS → Int32 → Int32 → Int32 → Option (Int32 × XS)) (hk7 : ∀ (a0 : XS) (a1 : Int32) (a2 : Int32) (a3 : Int32), a0.g = g0 ∧ a0.n = n0 → Pt (k7 a0 a1 a2 a3) (fun y => y.2.g = g0 ∧ y.2.n = n0)) (s : XS) (x1 : Int32) (x2 : Int32) (x3 : Int32) (t0 : Int32) (h1 : s.g = g0 ∧ s.n = n0) : Pt (kX10_chosen_47 k7 s x1 x2 x3 t0) (fun y => y.2.g = g0 ∧ y.2.n = n0) := by
  unfold kX10_chosen_47
  exact pt_ite (fun _ => fr_kX10_chosen_73 g0 n0 _ hk7 s _ _ _ _ h1) (fun _ => pt_bindI (P := (fun y => y.2.d = n0)) (fr_kX2_oddsOf n0 (JS.mk s.k s.n) _ h1.2) (fun r3 s2 qs2 => pt_let (P := (fun s : XS => s.g = g0 ∧ s.n = n0)) ⟨h1.1, qs2⟩ (fun s4 qs4 => fr_kX10_chosen_73 g0 n0 _ hk7 s4 _ _ _ _ qs4)))

theorem fr_kX10_chosen_7 (g0 : GS) (n0 : SD) (k7 : XS → Int32 → Int32 → Int32 → Option (Int32 × XS)) (hk7 : ∀ (a0 : XS) (a1 : Int32) (a2 : Int32) (a3 : Int32), a0.g = g0 ∧ a0.n = n0 → Pt (k7 a0 a1 a2 a3) (fun y => y.2.g = g0 ∧ y.2.n = n0)) (s : XS) (x1 : Int32) (x2 : Int32) (x3 : Int32) (h1 : s.g = g0 ∧ s.n = n0) : Pt (kX10_chosen_7 k7 s x1 x2 x3) (fun y => y.2.g = g0 ∧ y.2.n = n0) := by
  unfold kX10_chosen_7
  exact pt_ite (fun _ => pt_some h1) (fun _ => pt_ite (fun _ => pt_ite (fun _ => pt_bindI (P := (fun y => y.2.d = n0)) (fr_kX2_bestGuess n0 (JS.mk s.k s.n) _ h1.2) (fun r5 s4 qs4 => pt_let (P := (fun s : XS => s.g = g0 ∧ s.n = n0)) ⟨h1.1, qs4⟩ (fun s6 qs6 => fr_kX10_chosen_47 g0 n0 _ hk7 s6 _ _ _ _ qs6))) (fun _ => fr_kX10_chosen_47 g0 n0 _ hk7 s _ _ _ _ h1)) (fun _ => pt_none))

theorem fr_kX10_chosen_7L (g0 : GS) (n0 : SD) : ∀ (n : Nat) (s : XS) (x1 : Int32) (x2 : Int32) (x3 : Int32), s.g = g0 ∧ s.n = n0 → Pt (kX10_chosen_7L n s x1 x2 x3) (fun y => y.2.g = g0 ∧ y.2.n = n0) := by
  intro n
  induction n with
  | zero => intro _ _ _ _ _; exact pt_none
  | succ n ih =>
    intro s x1 x2 x3 h1
    exact fr_kX10_chosen_7 g0 n0 (kX10_chosen_7L n) ih s x1 x2 x3 h1

theorem fr_kX10_chosen (g0 : GS) (n0 : SD) (s : XS) (h1 : s.g = g0 ∧ s.n = n0) : Pt (kX10_chosen s) (fun y => y.2.g = g0 ∧ y.2.n = n0) := by
  unfold kX10_chosen
  exact fr_kX10_chosen_7L g0 n0 _ s _ _ _ h1
