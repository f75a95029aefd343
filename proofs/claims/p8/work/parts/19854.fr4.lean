/-! ===== what the queries leave as it was ===== -/
theorem fr_kX10_allGo_136 (g0 : GS) (n0 : SD) (s : XS) (t0 : Int32) (h1 : s.g = g0 ∧ s.n = n0) : Pt (kX10_allGo_136 s t0) (fun y => y.2.g = g0 ∧ y.2.n = n0) := by
  unfold kX10_allGo_136
  exact pt_bindI (P := (fun y => y.2.g = g0 ∧ y.2.n = n0)) (fr_kX10_partiesThatAre_t g0 n0 s _ h1) (fun r2 s1 qs1 => pt_bindP (P := fun _ => True) (fun _ _ => trivial) (fun r3 _ => pt_some qs1))

theorem fr_kX10_allGo_95 (g0 : GS) (n0 : SD) (k24 : XS → Int32 → Int32 → Option (Int32 × XS)) (hk24 : ∀ (a0 : XS) (a1 : Int32) (a2 : Int32), a0.g = g0 ∧ a0.n = n0 → Pt (k24 a0 a1 a2) (fun y => y.2.g = g0 ∧ y.2.n = n0)) (s : XS) (x1 : Int32) (x2 : Int32) (h1 : s.g = g0 ∧ s.n = n0) : Pt (kX10_allGo_95 k24 s x1 x2) (fun y => y.2.g = g0 ∧ y.2.n = n0) := by
  unfold kX10_allGo_95
  exact hk24 _ _ _ h1

theorem fr_kX10_allGo_24 (g0 : GS) (n0 : SD) (k24 : XS → Int32 → Int32 → Option (Int32 × XS)) (hk24 : ∀ (a0 : XS) (a1 : Int32) (a2 : Int32), a0.g = g0 ∧ a0.n = n0 → Pt (k24 a0 a1 a2) (fun y => y.2.g = g0 ∧ y.2.n = n0)) (s : XS) (x1 : Int32) (x2 : Int32) (h1 : s.g = g0 ∧ s.n = n0) : Pt (kX10_allGo_24 k24 s x1 x2) (fun y => y.2.g = g0 ∧ y.2.n = n0) := by
  unfold kX10_allGo_24
  exact pt_ite (fun _ => pt_ite (fun _ => pt_some h1) (fun _ => pt_ite (fun _ => fr_kX10_allGo_136 g0 n0 s _ h1) (fun _ => fr_kX10_allGo_136 g0 n0 s _ h1))) (fun _ => pt_ite (fun _ => pt_ite (fun _ => pt_bindI (P := fun _ => True) (fun _ _ => trivial) (fun r7 s6 _ => pt_let (P := (fun s : XS => s.g = g0 ∧ s.n = n0)) ⟨h1.1, h1.2⟩ (fun s8 qs8 => pt_ite (fun _ => fr_kX10_allGo_95 g0 n0 _ hk24 s8 _ _ qs8) (fun _ => pt_bindI (P := fun _ => True) (fun _ _ => trivial) (fun r12 s11 _ => pt_let (P := (fun s : XS => s.g = g0 ∧ s.n = n0)) ⟨qs8.1, qs8.2⟩ (fun s13 qs13 => pt_ite (fun _ => fr_kX10_allGo_95 g0 n0 _ hk24 s13 _ _ qs13) (fun _ => pt_bindI (P := fun _ => True) (fun _ _ => trivial) (fun r17 s16 _ => pt_let (P := (fun s : XS => s.g = g0 ∧ s.n = n0)) ⟨qs13.1, qs13.2⟩ (fun s18 qs18 => fr_kX10_allGo_95 g0 n0 _ hk24 s18 _ _ qs18))))))))) (fun _ => fr_kX10_allGo_95 g0 n0 _ hk24 s _ _ h1)) (fun _ => pt_none))

theorem fr_kX10_allGo_24L (g0 : GS) (n0 : SD) : ∀ (n : Nat) (s : XS) (x1 : Int32) (x2 : Int32), s.g = g0 ∧ s.n = n0 → Pt (kX10_allGo_24L n s x1 x2) (fun y => y.2.g = g0 ∧ y.2.n = n0) := by
  intro n
  induction n with
  | zero => intro _ _ _ _; exact pt_none
  | succ n ih =>
    intro s x1 x2 h1
    exact fr_kX10_allGo_24 g0 n0 (kX10_allGo_24L n) ih s x1 x2 h1

theorem fr_kX10_allGo (g0 : GS) (n0 : SD) (s : XS) (x1 : Int32) (h1 : s.g = g0 ∧ s.n = n0) : Pt (kX10_allGo s x1) (fun y => y.2.g = g0 ∧ y.2.n = n0) := by
  unfold kX10_allGo
  exact pt_ite (fun _ => pt_some h1) (fun _ => pt_ite (fun _ => pt_bindP (P := (fun s : DS => s.e = n0)) (fr_kX6_copyFrom n0 (DS.mk s.t s.n) h1.2) (fun s3 qs3 => pt_let (P := (fun s : XS => s.g = g0 ∧ s.n = n0)) ⟨h1.1, qs3⟩ (fun s4 qs4 => fr_kX10_allGo_24L g0 n0 _ s4 _ _ qs4))) (fun _ => pt_some h1))

theorem fr_kX10_then (g0 : GS) (n0 : SD) (s : XS) (x1 : Int32) (x2 : Int32) (x3 : Int32) (h1 : s.g = g0 ∧ s.n = n0) : Pt (kX10_then s x1 x2 x3) (fun y => y.2.g = g0 ∧ y.2.n = n0) := by
  unfold kX10_then
  exact pt_bindI (P := fun _ => True) (fun _ _ => trivial) (fun r2 s1 _ => pt_let (P := (fun s : XS => s.g = g0 ∧ s.n = n0)) ⟨h1.1, h1.2⟩ (fun s3 qs3 => pt_ite (fun _ => pt_some qs3) (fun _ => pt_ite (fun _ => pt_some qs3) (fun _ => pt_ite (fun _ => pt_bindP (P := (fun s : DS => s.e = n0)) (fr_kX6_copyFrom n0 (DS.mk s3.t s3.n) qs3.2) (fun s8 qs8 => pt_let (P := (fun s : XS => s.g = g0 ∧ s.n = n0)) ⟨qs3.1, qs8⟩ (fun s9 qs9 => pt_bindP (P := fun _ => True) (fun _ _ => trivial) (fun s11 _ => pt_let (P := (fun s : XS => s.g = g0 ∧ s.n = n0)) ⟨qs9.1, qs9.2⟩ (fun s12 qs12 => pt_ite (fun _ => pt_bindI (P := fun _ => True) (fun _ _ => trivial) (fun r16 s15 _ => pt_let (P := (fun s : XS => s.g = g0 ∧ s.n = n0)) ⟨qs12.1, qs12.2⟩ (fun s17 qs17 => pt_some qs17))) (fun _ => pt_ite (fun _ => pt_ite (fun _ => pt_some qs12) (fun _ => pt_none)) (fun _ => pt_ite (fun _ => pt_bindI (P := fun _ => True) (fun _ _ => trivial) (fun r23 s22 _ => pt_let (P := (fun s : XS => s.g = g0 ∧ s.n = n0)) ⟨qs12.1, qs12.2⟩ (fun s24 qs24 => pt_some qs24))) (fun _ => pt_some qs12)))))))) (fun _ => pt_some qs3)))))

theorem fr_kX10_next_26 (g0 : GS) (n0 : SD) (k26 : XS → Int32 → Int32 → Option (Int32 × XS)) (hk26 : ∀ (a0 : XS) (a1 : Int32) (a2 : Int32), a0.g = g0 ∧ a0.n = n0 → Pt (k26 a0 a1 a2) (fun y => y.2.g = g0 ∧ y.2.n = n0)) (s : XS) (x1 : Int32) (x2 : Int32) (h1 : s.g = g0 ∧ s.n = n0) : Pt (kX10_next_26 k26 s x1 x2) (fun y => y.2.g = g0 ∧ y.2.n = n0) := by
  unfold kX10_next_26
  exact pt_ite (fun _ => pt_some h1) (fun _ => pt_bindP (P := fun _ => True) (fun _ _ => trivial) (fun s2 _ => pt_let (P := (fun s : XS => s.g = g0 ∧ s.n = n0)) ⟨h1.1, h1.2⟩ (fun s3 qs3 => pt_ite (fun _ => pt_ite (fun _ => pt_ite (fun _ => hk26 _ _ _ qs3) (fun _ => pt_some qs3)) (fun _ => pt_none)) (fun _ => pt_none))))

theorem fr_kX10_next_26L (g0 : GS) (n0 : SD) : ∀ (n : Nat) (s : XS) (x1 : Int32) (x2 : Int32), s.g = g0 ∧ s.n = n0 → Pt (kX10_next_26L n s x1 x2) (fun y => y.2.g = g0 ∧ y.2.n = n0) := by
  intro n
  induction n with
  | zero => intro _ _ _ _; exact pt_none
  | succ n ih =>
    intro s x1 x2 h1
    exact fr_kX10_next_26 g0 n0 (kX10_next_26L n) ih s x1 x2 h1

theorem fr_kX10_next (g0 : GS) (n0 : SD) (s : XS) (x1 : Int32) (h1 : s.g = g0 ∧ s.n = n0) : Pt (kX10_next s x1) (fun y => y.2.g = g0 ∧ y.2.n = n0) := by
  unfold kX10_next
  exact pt_bindI (P := fun _ => True) (fun _ _ => trivial) (fun r2 s1 _ => pt_let (P := (fun s : XS => s.g = g0 ∧ s.n = n0)) ⟨h1.1, h1.2⟩ (fun s3 qs3 => pt_ite (fun _ => pt_some qs3) (fun _ => pt_bindP (P := (fun s : DS => s.e = n0)) (fr_kX6_copyFrom n0 (DS.mk s3.t s3.n) qs3.2) (fun s6 qs6 => pt_let (P := (fun s : XS => s.g = g0 ∧ s.n = n0)) ⟨qs3.1, qs6⟩ (fun s7 qs7 => fr_kX10_next_26L g0 n0 _ s7 _ _ qs7)))))

theorem fr_kX10_count (g0 : GS) (n0 : SD) (s : XS) (x1 : Int32) (h1 : s.g = g0 ∧ s.n = n0) : Pt (kX10_count s x1) (fun y => y.2.g = g0 ∧ y.2.n = n0) := by
  unfold kX10_count
  exact pt_ite (fun _ => pt_some h1) (fun _ => pt_ite (fun _ => pt_some h1) (fun _ => pt_ite (fun _ => pt_some h1) (fun _ => pt_ite (fun _ => pt_some h1) (fun _ => pt_ite (fun _ => pt_bindI (P := (fun y => y.2.g = g0 ∧ y.2.n = n0)) (fr_kX10_partiesThatAre g0 n0 s _ h1) (fun r7 s6 qs6 => pt_some qs6)) (fun _ => pt_ite (fun _ => pt_bindI (P := (fun y => y.2.g = g0 ∧ y.2.n = n0)) (fr_kX10_partiesThatAre g0 n0 s _ h1) (fun r10 s9 qs9 => pt_some qs9)) (fun _ => pt_ite (fun _ => pt_bindI (P := (fun y => y.2.g = g0 ∧ y.2.n = n0)) (fr_kX10_partiesThatAre g0 n0 s _ h1) (fun r13 s12 qs12 => pt_some qs12)) (fun _ => pt_ite (fun _ => pt_bindI (P := (fun y => y.2 = s.n.f 4)) (fr_kX10_sumOf_6 _ _ rfl) (fun r16 s15 qs15 => pt_let (P := (fun s : XS => s.g = g0 ∧ s.n = n0)) ⟨h1.1, (congrArg (fun a => s.n.sa 4 a) qs15).trans (sda_self.trans h1.2)⟩ (fun s17 qs17 => pt_some qs17))) (fun _ => pt_ite (fun _ => pt_some h1) (fun _ => pt_ite (fun _ => pt_some h1) (fun _ => pt_ite (fun _ => pt_some h1) (fun _ => pt_ite (fun _ => pt_bindI (P := (fun y => y.2 = g0)) (fr_kX3_slotsHeld g0 _ h1.1) (fun r24 s23 qs23 => pt_let (P := (fun s : XS => s.g = g0 ∧ s.n = n0)) ⟨qs23, h1.2⟩ (fun s25 qs25 => pt_some qs25))) (fun _ => pt_ite (fun _ => pt_bindI (P := (fun y => y.2.g = g0 ∧ y.2.n = n0)) (fr_kX10_buoysLying g0 n0 s h1) (fun r29 s28 qs28 => pt_some qs28)) (fun _ => pt_ite (fun _ => pt_bindI (P := (fun y => y.2.g = g0 ∧ y.2.n = n0)) (fr_kX10_wavesFound g0 n0 s h1) (fun r32 s31 qs31 => pt_some qs31)) (fun _ => pt_ite (fun _ => pt_some h1) (fun _ => pt_ite (fun _ => pt_bindI (P := (fun y => y.2.d = n0)) (fr_kX0_guessThere n0 (JS.mk s.k s.n) _ h1.2) (fun r36 s35 qs35 => pt_let (P := (fun s : XS => s.g = g0 ∧ s.n = n0)) ⟨h1.1, qs35⟩ (fun s37 qs37 => pt_some qs37))) (fun _ => pt_ite (fun _ => pt_bindI (P := (fun y => y.2 = s.n.f 2)) (fr_kX10_sumOf_5 _ _ rfl) (fun r41 s40 qs40 => pt_let (P := (fun s : XS => s.g = g0 ∧ s.n = n0)) ⟨h1.1, (congrArg (fun a => s.n.sa 2 a) qs40).trans (sda_self.trans h1.2)⟩ (fun s42 qs42 => pt_some qs42))) (fun _ => pt_ite (fun _ => pt_bindI (P := (fun y => y.2.g = g0 ∧ y.2.n = n0)) (fr_kX10_wavesWithNothing g0 n0 s h1) (fun r46 s45 qs45 => pt_some qs45)) (fun _ => pt_ite (fun _ => pt_bindI (P := (fun y => y.2.g = g0 ∧ y.2.n = n0)) (fr_kX10_faresOfAllHere g0 n0 s h1) (fun r49 s48 qs48 => pt_some qs48)) (fun _ => pt_some h1)))))))))))))))))))
