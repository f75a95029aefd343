section
/-! ===== the reference's constructor ===== -/
noncomputable def r_init_3 (s : RS) : Option RS := (bindP (r_begins s) fun s1 => (bindP (r_keepsRow s1) fun s2 => (some s2)))
noncomputable def r_init_2 (s : RS) : Option RS := (bindP (r_word 108 101 102 116 0 0 0) fun r1 => (letS (s.sg 9 14 r1) fun s2 => (bindP (r_word 121 101 97 114 0 0 0) fun r4 => (letS (s2.sg 9 15 r4) fun s5 => (bindP (r_word 119 104 105 99 104 0 0) fun r7 => (letS (s5.sg 9 16 r7) fun s8 => (bindP (r_word 98 117 111 121 115 0 0) fun r10 => (letS (s8.sg 9 17 r10) fun s11 => (bindP (r_word 103 111 101 115 0 0 0) fun r13 => (letS (s11.sg 9 18 r13) fun s14 => r_init_3 s14))))))))))
noncomputable def r_init_1 (s : RS) : Option RS := (bindP (r_word 105 102 0 0 0 0 0) fun r1 => (letS (s.sg 9 7 r1) fun s2 => (bindP (r_word 116 104 101 110 0 0 0) fun r4 => (letS (s2.sg 9 8 r4) fun s5 => (bindP (r_word 101 108 115 101 0 0 0) fun r7 => (letS (s5.sg 9 9 r7) fun s8 => (bindP (r_word 97 116 0 0 0 0 0) fun r10 => (letS (s8.sg 9 10 r10) fun s11 => (bindP (r_word 111 100 100 115 0 0 0) fun r13 => (letS (s11.sg 9 11 r13) fun s14 => (bindP (r_word 104 101 97 118 121 0 0) fun r16 => (letS (s14.sg 9 12 r16) fun s17 => (bindP (r_word 110 101 114 118 101 0 0) fun r19 => (letS (s17.sg 9 13 r19) fun s20 => r_init_2 s20))))))))))))))
noncomputable def r_init_0 (s : RS) : Option RS := (bindP (r_plain s 0) fun s1 => (bindP (r_plain s1 1) fun s2 => (bindP (r_word 119 97 118 101 0 0 0) fun r3 => (letS (s2.sg 9 0 r3) fun s4 => (bindP (r_word 112 97 114 116 121 0 0) fun r6 => (letS (s4.sg 9 1 r6) fun s7 => (bindP (r_word 110 101 101 100 115 0 0) fun r9 => (letS (s7.sg 9 2 r9) fun s10 => (bindP (r_word 102 97 114 101 115 0 0) fun r12 => (letS (s10.sg 9 3 r12) fun s13 => (bindP (r_word 100 97 114 101 115 0 0) fun r15 => (letS (s13.sg 9 4 r15) fun s16 => (bindP (r_word 115 104 105 102 116 115 0) fun r18 => (letS (s16.sg 9 5 r18) fun s19 => (bindP (r_word 115 101 101 100 0 0 0) fun r21 => (letS (s19.sg 9 6 r21) fun s22 => r_init_1 s22))))))))))))))))
/-- the fresh numbers -/
noncomputable def rs0 : RS := (fun k => if k = 17 then -1 else 0, fun _ _ => 0, fun _ _ => 0)
theorem ok_word (x0 x1 x2 x3 x4 x5 x6 : Int32) : Ok (r_word x0 x1 x2 x3 x4 x5 x6) (fun _ => True) := by
  unfold r_word
  refine ok_bindP (ok_appends _ _) (fun r1 _ => ?_)
  refine ok_bindP (ok_appends _ _) (fun r2 _ => ?_)
  refine ok_bindP (ok_appends _ _) (fun r3 _ => ?_)
  refine ok_bindP (ok_appends _ _) (fun r4 _ => ?_)
  refine ok_bindP (ok_appends _ _) (fun r5 _ => ?_)
  refine ok_bindP (ok_appends _ _) (fun r6 _ => ?_)
  refine ok_bindP (ok_appends _ _) (fun r7 _ => ?_)
  exact ok_some trivial
/-- behind both plain sides -/
noncomputable def B00 (s : RS) : Prop := InvR s ∧ s.v 18 = 0 ∧ (s.f 20 0).toInt = 0 ∧ ∀ k : Nat, k < 4 → s.f 27 (4 * 0 + k) = s.f 28 (4 * 0 + k)
theorem B00.sg {s : RS} {k i : Nat} {x : Int64} (h : B00 s) : B00 (s.sg k i x) := h
theorem ri_3 (s : RS) (h : B00 s) : Ok (r_init_3 s) (fun y => InvR y ∧ Big y) := by
  obtain ⟨hI, h18, h20, hl⟩ := h
  unfold r_init_3
  refine ok_bindP (ok_begins s hI) (fun s1 h1 => ?_)
  obtain ⟨I1, F1, S1⟩ := h1
  refine ok_bindP (ok_r_keepsRow s1 I1) (fun s2 h2 => ?_)
  obtain ⟨I2, F2⟩ := h2
  have e18 : s2.v 18 = 0 := by rw [F2.1 18 (by decide), F1.1 18 (by decide), h18]
  have e (k : Nat) (h1 : 100 + k ∉ [45, 144, 146]) (h2 : 100 + k ∉ [143]) : s2.f k = s.f k := (F2.2 k h2).1.trans (F1.2 k h1).1
  have ec : (0 : Int32).toNatClampNeg = 0 := by decide
  refine ok_some ⟨I2, by rw [(F2.2 46 (by decide)).1]; exact S1, fun w hw => ?_, fun k hk => Or.inl ?_⟩
  · rw [e18, ec, e 20 (by decide) (by decide)] at hw
    omega
  · rw [e18, ec, e 27 (by decide) (by decide), e 28 (by decide) (by decide)]
    exact hl k hk
theorem ri_2 (s : RS) (h : B00 s) : Ok (r_init_2 s) (fun y => InvR y ∧ Big y) := by
  unfold r_init_2
  refine ok_bindP (ok_word _ _ _ _ _ _ _) (fun _ _ => ?_)
  refine ok_let (fun t ht => ?_)
  have h : B00 t := by rw [← ht]; exact h.sg
  clear ht
  revert h
  generalize t = s
  intro h
  refine ok_bindP (ok_word _ _ _ _ _ _ _) (fun _ _ => ?_)
  refine ok_let (fun t ht => ?_)
  have h : B00 t := by rw [← ht]; exact h.sg
  clear ht
  revert h
  generalize t = s
  intro h
  refine ok_bindP (ok_word _ _ _ _ _ _ _) (fun _ _ => ?_)
  refine ok_let (fun t ht => ?_)
  have h : B00 t := by rw [← ht]; exact h.sg
  clear ht
  revert h
  generalize t = s
  intro h
  refine ok_bindP (ok_word _ _ _ _ _ _ _) (fun _ _ => ?_)
  refine ok_let (fun t ht => ?_)
  have h : B00 t := by rw [← ht]; exact h.sg
  clear ht
  revert h
  generalize t = s
  intro h
  refine ok_bindP (ok_word _ _ _ _ _ _ _) (fun _ _ => ?_)
  refine ok_let (fun t ht => ?_)
  have h : B00 t := by rw [← ht]; exact h.sg
  clear ht
  exact ri_3 _ h
theorem ri_1 (s : RS) (h : B00 s) : Ok (r_init_1 s) (fun y => InvR y ∧ Big y) := by
  unfold r_init_1
  refine ok_bindP (ok_word _ _ _ _ _ _ _) (fun _ _ => ?_)
  refine ok_let (fun t ht => ?_)
  have h : B00 t := by rw [← ht]; exact h.sg
  clear ht
  revert h
  generalize t = s
  intro h
  refine ok_bindP (ok_word _ _ _ _ _ _ _) (fun _ _ => ?_)
  refine ok_let (fun t ht => ?_)
  have h : B00 t := by rw [← ht]; exact h.sg
  clear ht
  revert h
  generalize t = s
  intro h
  refine ok_bindP (ok_word _ _ _ _ _ _ _) (fun _ _ => ?_)
  refine ok_let (fun t ht => ?_)
  have h : B00 t := by rw [← ht]; exact h.sg
  clear ht
  revert h
  generalize t = s
  intro h
  refine ok_bindP (ok_word _ _ _ _ _ _ _) (fun _ _ => ?_)
  refine ok_let (fun t ht => ?_)
  have h : B00 t := by rw [← ht]; exact h.sg
  clear ht
  revert h
  generalize t = s
  intro h
  refine ok_bindP (ok_word _ _ _ _ _ _ _) (fun _ _ => ?_)
  refine ok_let (fun t ht => ?_)
  have h : B00 t := by rw [← ht]; exact h.sg
  clear ht
  revert h
  generalize t = s
  intro h
  refine ok_bindP (ok_word _ _ _ _ _ _ _) (fun _ _ => ?_)
  refine ok_let (fun t ht => ?_)
  have h : B00 t := by rw [← ht]; exact h.sg
  clear ht
  revert h
  generalize t = s
  intro h
  refine ok_bindP (ok_word _ _ _ _ _ _ _) (fun _ _ => ?_)
  refine ok_let (fun t ht => ?_)
  have h : B00 t := by rw [← ht]; exact h.sg
  clear ht
  exact ri_2 _ h
theorem ok_r_init : Ok (r_init_0 rs0) (fun y => InvR y ∧ Big y) := by
  have hI : InvR rs0 := by
    refine ⟨fun k => ?_, fun k j => ?_⟩
    · show loVR k ≤ (if k = 17 then (-1 : Int32) else 0).toInt ∧ (if k = 17 then (-1 : Int32) else 0).toInt ≤ hiVR k
      by_cases e : k = 17
      · subst e; decide
      · rw [if_neg e]
        show loVR k ≤ 0 ∧ 0 ≤ hiVR k
        unfold loVR hiVR
        repeat' split
        all_goals omega
    · show loFR k ≤ 0 ∧ 0 ≤ hiFR k
      unfold loFR hiFR
      repeat' split
      all_goals omega
  unfold r_init_0
  refine ok_bindP (ok_plain 0 rs0 0 (by omega) (by decide) hI) (fun s1 h1 => ?_)
  obtain ⟨I1, F1, R1, w1, l1⟩ := h1
  refine ok_bindP (ok_plain 1 s1 1 (by omega) (by decide) I1) (fun s2 h2 => ?_)
  obtain ⟨I2, F2, R2, w2, l2⟩ := h2
  have h : B00 s2 := by
    refine ⟨I2, by rw [F2.1 18 (by decide), F1.1 18 (by decide)]; rfl, by rw [R2.2.2.2.1 0 (by omega)]; exact w1, fun k hk => ?_⟩
    rw [(R2.2.2.1 (4 * 0 + k) (by omega)).1, (R2.2.2.1 (4 * 0 + k) (by omega)).2]
    exact l1 k hk
  clear I1 F1 R1 w1 l1 I2 F2 R2 w2 l2
  revert h
  generalize s2 = s
  intro h
  refine ok_bindP (ok_word _ _ _ _ _ _ _) (fun _ _ => ?_)
  refine ok_let (fun t ht => ?_)
  have h : B00 t := by rw [← ht]; exact h.sg
  clear ht
  revert h
  generalize t = s
  intro h
  refine ok_bindP (ok_word _ _ _ _ _ _ _) (fun _ _ => ?_)
  refine ok_let (fun t ht => ?_)
  have h : B00 t := by rw [← ht]; exact h.sg
  clear ht
  revert h
  generalize t = s
  intro h
  refine ok_bindP (ok_word _ _ _ _ _ _ _) (fun _ _ => ?_)
  refine ok_let (fun t ht => ?_)
  have h : B00 t := by rw [← ht]; exact h.sg
  clear ht
  revert h
  generalize t = s
  intro h
  refine ok_bindP (ok_word _ _ _ _ _ _ _) (fun _ _ => ?_)
  refine ok_let (fun t ht => ?_)
  have h : B00 t := by rw [← ht]; exact h.sg
  clear ht
  revert h
  generalize t = s
  intro h
  refine ok_bindP (ok_word _ _ _ _ _ _ _) (fun _ _ => ?_)
  refine ok_let (fun t ht => ?_)
  have h : B00 t := by rw [← ht]; exact h.sg
  clear ht
  revert h
  generalize t = s
  intro h
  refine ok_bindP (ok_word _ _ _ _ _ _ _) (fun _ _ => ?_)
  refine ok_let (fun t ht => ?_)
  have h : B00 t := by rw [← ht]; exact h.sg
  clear ht
  revert h
  generalize t = s
  intro h
  refine ok_bindP (ok_word _ _ _ _ _ _ _) (fun _ _ => ?_)
  refine ok_let (fun t ht => ?_)
  have h : B00 t := by rw [← ht]; exact h.sg
  clear ht
  exact ri_1 _ h
/-! ===== the words of both sides; what else is so behind the reference's constructor ===== -/
noncomputable def wlst : List (List Nat) := [[5, 22, 1, 23], [25, 20, 18, 1, 16], [19, 4, 5, 5, 14], [19, 5, 18, 1, 6], [19, 5, 18, 1, 4], [19, 20, 6, 9, 8, 19], [4, 5, 5, 19], [6, 9], [14, 5, 8, 20], [5, 19, 12, 5], [20, 1], [19, 4, 4, 15], [25, 22, 1, 5, 8], [5, 22, 18, 5, 14], [20, 6, 5, 12], [18, 1, 5, 25], [8, 3, 9, 8, 23], [19, 25, 15, 21, 2], [19, 5, 15, 7]]
noncomputable def kvF : Nat → Int64 := (vp_updL (vp_updL (vp_updL (vp_updL (vp_updL (vp_updL (vp_updL (vp_updL (vp_updL (vp_updL (vp_updL (vp_updL (vp_updL (vp_updL (vp_updL (vp_updL (vp_updL (vp_updL (vp_updL (fun _ => 0) 0 454037) 1 8536426) 2 7542361) 3 3221605) 4 2158723) 5 277062841) 6 377761) 7 249) 8 399641) 9 107681) 10 47) 11 298288) 12 4351291) 13 7552310) 14 240023) 15 495765) 16 12387257) 17 1487854) 18 148870)
theorem words_ok : ∀ k, k < 19 → (wlst.getD k []).length ≤ 8 ∧ (∀ c ∈ wlst.getD k [], 1 ≤ c ∧ c ≤ 26) ∧ (wdF k).toInt = (lval 32 (wlst.getD k []) : Int) ∧ (kvF k).toInt = (lval 27 (wlst.getD k []) : Int) := by decide +kernel
theorem words_ne : ∀ k, k < 19 → ∀ k', k' < 19 → wdF k = wdF k' → k = k' := by decide +kernel
theorem fr_plain (z : RS) (x : Int32) : Pt (r_plain z x) (FrR [120, 123, 126, 127, 128] z) := by
  intro y h
  unfold r_plain at h
  obtain ⟨_, h⟩ := guard_inv h
  obtain ⟨z2, e2, h⟩ := letS_inv h
  obtain ⟨_, h⟩ := guard_inv h
  obtain ⟨z5, e5, h⟩ := letS_inv h
  obtain ⟨_, h⟩ := guard_inv h
  obtain ⟨z8, e8, h⟩ := letS_inv h
  have F := fr_plainL x fu z8 z8 0 FrR.rfl _ h
  refine FrR.trans (t := z8) ?_ F (by decide)
  rw [← e8, ← e5, ← e2]
  exact ((FrR.rfl.sf (k := 20) (by decide)).sf (k := 23) (by decide)).sf (k := 26) (by decide)
theorem plain_far {z z' : RS} {x : Int32} (h : r_plain z x = some z') : ∀ j, ¬ j = x.toNatClampNeg → z'.f 20 j = z.f 20 j := by
  intro j hj
  unfold r_plain at h
  obtain ⟨_, h⟩ := guard_inv h
  obtain ⟨z2, e2, h⟩ := letS_inv h
  obtain ⟨_, h⟩ := guard_inv h
  obtain ⟨z5, e5, h⟩ := letS_inv h
  obtain ⟨_, h⟩ := guard_inv h
  obtain ⟨z8, e8, h⟩ := letS_inv h
  have F := fr_plainL x fu z8 z8 0 FrR.rfl _ h
  rw [(F.2 20 (by decide)).1, ← e8, ← e5]
  show z2.f 20 j = _
  rw [← e2]
  exact rsf_ne hj
theorem fr_begins_46L : ∀ (n : Nat) (z0 z : RS) (x : Int32), FrR [45, 144, 146] z0 z → Pt (r_begins_46L n z x) (FrR [45, 144, 146] z0) := by
  intro n
  induction n with
  | zero => intro z0 z x _; exact pt_none
  | succ n ih =>
    intro z0 z x h
    show Pt (r_begins_46 (r_begins_46L n) z x) _
    unfold r_begins_46
    refine pt_ite (fun _ => pt_ite (fun _ => ?_) (fun _ => pt_none)) (fun _ => pt_ite (fun _ => pt_ite (fun _ => ?_) (fun _ => pt_none)) (fun _ => pt_none))
    · exact pt_let (P := FrR [45, 144, 146] z0) (h.sv (by decide)) (fun s h => pt_some h)
    · exact pt_let (P := FrR [45, 144, 146] z0) (h.sf (by decide)) (fun s h => ih _ _ _ h)
theorem fr_begins_2L : ∀ (n : Nat) (z0 z : RS) (x : Int32), FrR [45, 144, 146] z0 z → Pt (r_begins_2L n z x) (FrR [45, 144, 146] z0) := by
  intro n
  induction n with
  | zero => intro z0 z x _; exact pt_none
  | succ n ih =>
    intro z0 z x h
    have h30 : ∀ t0 t1, Pt (r_begins_30 (r_begins_2L n) z x t0 t1) (FrR [45, 144, 146] z0) := fun t0 t1 => by
      unfold r_begins_30
      refine pt_ite (fun _ => ?_) (fun _ => pt_none)
      exact pt_let (P := FrR [45, 144, 146] z0) (h.sf (by decide)) (fun s h => ih _ _ _ h)
    show Pt (r_begins_2 (r_begins_2L n) z x) _
    unfold r_begins_2 r_begins_29
    refine pt_ite (fun _ => ?_) (fun _ => pt_ite (fun _ => h30 _ _) (fun _ => pt_ite (fun _ => h30 _ _) (fun _ => h30 _ _)))
    exact pt_let (P := FrR [45, 144, 146] z0) (h.sf (by decide)) (fun s h => fr_begins_46L _ _ _ _ h)
theorem fr_keepsRow : ∀ (n : Nat) (z0 z : RS) (x : Int32), FrR [143] z0 z → Pt (r_keepsRow_2L n z x) (FrR [143] z0) := by
  intro n
  induction n with
  | zero => intro z0 z x _; exact pt_none
  | succ n ih =>
    intro z0 z x h
    show Pt (r_keepsRow_2 (r_keepsRow_2L n) z x) _
    unfold r_keepsRow_2
    refine pt_ite (fun _ => pt_some h) (fun _ => pt_ite (fun _ => pt_ite (fun _ => ?_) (fun _ => pt_none)) (fun _ => pt_none))
    exact pt_let (P := FrR [143] z0) (h.sf (by decide)) (fun s h => ih _ _ _ h)
theorem sg_step {s t : RS} {i : Nat} {x : Int64} (h : s.sg 9 i x = t) : t.v = s.v ∧ t.f = s.f ∧ t.g 9 = vp_updL (s.g 9) i x := by
  subst h
  exact ⟨rfl, rfl, rfl⟩
/-- what the reference's constructor leaves -/
noncomputable def RI (y : RS) : Prop := y.v 2 = 0 ∧ y.v 17 = -1 ∧ y.g 9 = kvF ∧ y.v 18 = 0 ∧ y.f 20 0 = 0 ∧ y.v 51 = 0
theorem z27_plainL (x : Int32) : ∀ (n : Nat) (z : RS) (x2 : Int32), (∀ j, z.f 27 j = 0 ∧ z.f 28 j = 0) → Pt (r_plain_23L n z x x2) (fun y => ∀ j, y.f 27 j = 0 ∧ y.f 28 j = 0) := by
  intro n
  induction n with
  | zero => intro z x2 _; exact pt_none
  | succ n ih =>
    intro z x2 h
    show Pt (r_plain_23 (r_plain_23L n) z x x2) _
    unfold r_plain_23
    refine pt_ite (fun _ => pt_some h) (fun _ => pt_ite (fun _ => pt_let (P := fun t : RS => ∀ j, t.f 27 j = 0 ∧ t.f 28 j = 0) ?_ (fun s3 h3 => pt_ite (fun _ => pt_let (P := fun t : RS => ∀ j, t.f 27 j = 0 ∧ t.f 28 j = 0) ?_ (fun s6 h6 => ih s6 _ h6)) (fun _ => pt_none))) (fun _ => pt_none))
    · intro j
      refine ⟨?_, (h j).2⟩
      rw [rsf_at]
      by_cases e : j = Int32.toNatClampNeg ((4 * x) + x2)
      · rw [if_pos e]
      · rw [if_neg e]; exact (h j).1
    · intro j
      refine ⟨(h3 j).1, ?_⟩
      rw [rsf_at]
      by_cases e : j = Int32.toNatClampNeg ((4 * x) + x2)
      · rw [if_pos e]
      · rw [if_neg e]; exact (h3 j).2
theorem z27_plain {z z' : RS} {x : Int32} (h : ∀ j, z.f 27 j = 0 ∧ z.f 28 j = 0) (hp : r_plain z x = some z') : ∀ j, z'.f 27 j = 0 ∧ z'.f 28 j = 0 := by
  unfold r_plain at hp
  obtain ⟨_, hp⟩ := guard_inv hp
  obtain ⟨z2, e2, hp⟩ := letS_inv hp
  obtain ⟨_, hp⟩ := guard_inv hp
  obtain ⟨z5, e5, hp⟩ := letS_inv hp
  obtain ⟨_, hp⟩ := guard_inv hp
  obtain ⟨z8, e8, hp⟩ := letS_inv hp
  exact z27_plainL x fu z8 0 (by rw [← e8, ← e5, ← e2]; exact h) z' hp
/-- .. and what its standing is then -/
noncomputable def RIB (y : RS) : Prop := (y.f 23 0 = 0 ∧ y.f 26 0 = 0) ∧ (∀ k, k < 4 → y.f 27 k = y.f 28 k) ∧ (∀ i, i < 29 → y.f 43 i = beg i) ∧ (∀ i, i < 6 → y.f 46 i = six6 i) ∧ y.v 48 = 0 ∧ (∀ i, i < 3 → y.f 56 i = 0)
noncomputable def RIR (y : RS) : Prop := RI y ∧ RIB y
theorem ri_of (y : RS) (h : r_init_0 rs0 = some y) : RIR y := by
  unfold r_init_0 at h
  obtain ⟨s1, h1, h⟩ := bindP_inv h
  obtain ⟨s2, h2, h⟩ := bindP_inv h
  have F1 := fr_plain _ _ _ h1
  have F2 := fr_plain _ _ _ h2
  have F : FrR [120, 123, 126, 127, 128] rs0 s2 := F1.trans F2 (by decide)
  rw [show r_word 119 97 118 101 0 0 0 = some 454037 from by decide +kernel, bindP_some] at h
  obtain ⟨t0, d0, h⟩ := letS_inv h
  rw [show r_word 112 97 114 116 121 0 0 = some 8536426 from by decide +kernel, bindP_some] at h
  obtain ⟨t1, d1, h⟩ := letS_inv h
  rw [show r_word 110 101 101 100 115 0 0 = some 7542361 from by decide +kernel, bindP_some] at h
  obtain ⟨t2, d2, h⟩ := letS_inv h
  rw [show r_word 102 97 114 101 115 0 0 = some 3221605 from by decide +kernel, bindP_some] at h
  obtain ⟨t3, d3, h⟩ := letS_inv h
  rw [show r_word 100 97 114 101 115 0 0 = some 2158723 from by decide +kernel, bindP_some] at h
  obtain ⟨t4, d4, h⟩ := letS_inv h
  rw [show r_word 115 104 105 102 116 115 0 = some 277062841 from by decide +kernel, bindP_some] at h
  obtain ⟨t5, d5, h⟩ := letS_inv h
  rw [show r_word 115 101 101 100 0 0 0 = some 377761 from by decide +kernel, bindP_some] at h
  obtain ⟨t6, d6, h⟩ := letS_inv h
  unfold r_init_1 at h
  rw [show r_word 105 102 0 0 0 0 0 = some 249 from by decide +kernel, bindP_some] at h
  obtain ⟨t7, d7, h⟩ := letS_inv h
  rw [show r_word 116 104 101 110 0 0 0 = some 399641 from by decide +kernel, bindP_some] at h
  obtain ⟨t8, d8, h⟩ := letS_inv h
  rw [show r_word 101 108 115 101 0 0 0 = some 107681 from by decide +kernel, bindP_some] at h
  obtain ⟨t9, d9, h⟩ := letS_inv h
  rw [show r_word 97 116 0 0 0 0 0 = some 47 from by decide +kernel, bindP_some] at h
  obtain ⟨t10, d10, h⟩ := letS_inv h
  rw [show r_word 111 100 100 115 0 0 0 = some 298288 from by decide +kernel, bindP_some] at h
  obtain ⟨t11, d11, h⟩ := letS_inv h
  rw [show r_word 104 101 97 118 121 0 0 = some 4351291 from by decide +kernel, bindP_some] at h
  obtain ⟨t12, d12, h⟩ := letS_inv h
  rw [show r_word 110 101 114 118 101 0 0 = some 7552310 from by decide +kernel, bindP_some] at h
  obtain ⟨t13, d13, h⟩ := letS_inv h
  unfold r_init_2 at h
  rw [show r_word 108 101 102 116 0 0 0 = some 240023 from by decide +kernel, bindP_some] at h
  obtain ⟨t14, d14, h⟩ := letS_inv h
  rw [show r_word 121 101 97 114 0 0 0 = some 495765 from by decide +kernel, bindP_some] at h
  obtain ⟨t15, d15, h⟩ := letS_inv h
  rw [show r_word 119 104 105 99 104 0 0 = some 12387257 from by decide +kernel, bindP_some] at h
  obtain ⟨t16, d16, h⟩ := letS_inv h
  rw [show r_word 98 117 111 121 115 0 0 = some 1487854 from by decide +kernel, bindP_some] at h
  obtain ⟨t17, d17, h⟩ := letS_inv h
  rw [show r_word 103 111 101 115 0 0 0 = some 148870 from by decide +kernel, bindP_some] at h
  obtain ⟨t18, d18, h⟩ := letS_inv h
  unfold r_init_3 at h
  obtain ⟨u1, e1, h⟩ := bindP_inv h
  obtain ⟨u2, e2, h⟩ := bindP_inv h
  cases h
  unfold r_begins at e1
  unfold r_keepsRow at e2
  have G1 := fr_begins_2L _ _ _ _ FrR.rfl _ e1
  have G2 := fr_keepsRow _ _ _ _ FrR.rfl _ e2
  have c0 := sg_step d0
  have c1 := sg_step d1
  have c2 := sg_step d2
  have c3 := sg_step d3
  have c4 := sg_step d4
  have c5 := sg_step d5
  have c6 := sg_step d6
  have c7 := sg_step d7
  have c8 := sg_step d8
  have c9 := sg_step d9
  have c10 := sg_step d10
  have c11 := sg_step d11
  have c12 := sg_step d12
  have c13 := sg_step d13
  have c14 := sg_step d14
  have c15 := sg_step d15
  have c16 := sg_step d16
  have c17 := sg_step d17
  have c18 := sg_step d18
  have V : t18.v = s2.v := by rw [c18.1, c17.1, c16.1, c15.1, c14.1, c13.1, c12.1, c11.1, c10.1, c9.1, c8.1, c7.1, c6.1, c5.1, c4.1, c3.1, c2.1, c1.1, c0.1]
  have Fq : t18.f = s2.f := by rw [c18.2.1, c17.2.1, c16.2.1, c15.2.1, c14.2.1, c13.2.1, c12.2.1, c11.2.1, c10.2.1, c9.2.1, c8.2.1, c7.2.1, c6.2.1, c5.2.1, c4.2.1, c3.2.1, c2.2.1, c1.2.1, c0.2.1]
  have v (k : Nat) (hk : k ∉ [45, 144, 146]) (hk2 : k ∉ [143]) (hk3 : k ∉ [120, 123, 126, 127, 128]) : y.v k = rs0.v k := by
    rw [G2.1 k hk2, G1.1 k hk, V]
    exact F.1 k hk3
  have Z2 : ∀ j, s2.f 27 j = 0 ∧ s2.f 28 j = 0 := z27_plain (z27_plain (fun j => ⟨rfl, rfl⟩) h1) h2
  obtain ⟨_, b2, b3, _⟩ := begins_eq fu t18 0 0 (by decide) (by omega) (fun i hi => by omega) e1
  obtain ⟨_, k2, _⟩ := keepsL fu u1 0 0 (by decide) (by omega) e2
  refine ⟨⟨v 2 (by decide) (by decide) (by decide), v 17 (by decide) (by decide) (by decide), ?_, v 18 (by decide) (by decide) (by decide), ?_, v 51 (by decide) (by decide) (by decide)⟩, ⟨?_, ?_⟩, fun k hk => ?_, fun i hi => ?_, fun i hi => ?_, v 48 (by decide) (by decide) (by decide), fun i hi => ?_⟩
  · have g9 : s2.g 9 = (fun _ => 0) := (F.2 9 (by decide)).2
    rw [(G2.2 9 (by decide)).2, (G1.2 9 (by decide)).2, c18.2.2, c17.2.2, c16.2.2, c15.2.2, c14.2.2, c13.2.2, c12.2.2, c11.2.2, c10.2.2, c9.2.2, c8.2.2, c7.2.2, c6.2.2, c5.2.2, c4.2.2, c3.2.2, c2.2.2, c1.2.2, c0.2.2, g9]
    unfold kvF
    rfl
  · rw [(G2.2 20 (by decide)).1, (G1.2 20 (by decide)).1, Fq]
    have far := plain_far h2
    rw [far 0 (by decide)]
    exact (plain_23 h1).1
  · rw [(G2.2 23 (by decide)).1, (G1.2 23 (by decide)).1, Fq, (plain_far2 h2 0 (by decide)).1]
    exact (plain_23 h1).2.1
  · rw [(G2.2 26 (by decide)).1, (G1.2 26 (by decide)).1, Fq, (plain_far2 h2 0 (by decide)).2]
    exact (plain_23 h1).2.2
  · rw [(G2.2 27 (by decide)).1, (G1.2 27 (by decide)).1, (G2.2 28 (by decide)).1, (G1.2 28 (by decide)).1, Fq, (Z2 k).1, (Z2 k).2]
  · rw [k2 i (by omega) hi]
    exact b2 i hi
  · rw [(G2.2 46 (by decide)).1]
    exact b3 i hi
  · rw [(G2.2 56 (by decide)).1, (G1.2 56 (by decide)).1, Fq, (F.2 56 (by decide)).1]
    rfl
theorem ok_r_init2 : Ok (r_init_0 rs0) (fun y => InvR y ∧ Big y ∧ RIR y) := by
  obtain ⟨y, e, h1, h2⟩ := ok_r_init
  exact ⟨y, e, h1, h2, ri_of y e⟩
end
section
theorem ggX11_init_X11_plain : GoodIn wsX11_init wsX11_plain := gi_sub (fun w h => List.mem_cons_of_mem _ (List.mem_append_left _ (List.mem_append_right _ (List.mem_append_left _ h)))) gd_wsX11_plain
set_option maxRecDepth 20000 in
theorem gX11_init_X11_plain : GoodIn wsX11_init (wsV RX11 134 RX11 yX11_plain wsX11_plain) := goodIn_app (goodIn_r _ [39, 40, 41, 42] (by decide +kernel) (by decide +kernel)) ggX11_init_X11_plain
theorem ggX11_init_X11_word : GoodIn wsX11_init wsX11_word := gi_sub (fun w h => List.mem_cons_of_mem _ (List.mem_append_left _ (List.mem_append_right _ (List.mem_append_right _ (List.mem_append_left _ h))))) gd_wsX11_word
set_option maxRecDepth 20000 in
theorem gX11_init_X11_word : GoodIn wsX11_init (va_wsS RX11 138 yX11_word wsX11_word) := goodIn_app (goodIn_of _ (by decide +kernel)) ggX11_init_X11_word
theorem ggX11_init_X11_begins : GoodIn wsX11_init wsX11_begins := gi_sub (fun w h => List.mem_cons_of_mem _ (List.mem_append_left _ (List.mem_append_right _ (List.mem_append_right _ (List.mem_append_right _ (List.mem_append_left _ h)))))) gd_wsX11_begins
set_option maxRecDepth 20000 in
theorem gX11_init_X11_begins : GoodIn wsX11_init (wsV RX11 142 RX11 yX11_begins wsX11_begins) := goodIn_app (goodIn_r _ [45, 46, 47, 42] (by decide +kernel) (by decide +kernel)) ggX11_init_X11_begins
theorem ggX11_init_X11_keepsRow : GoodIn wsX11_init wsX11_keepsRow := gi_sub (fun w h => List.mem_cons_of_mem _ (List.mem_append_left _ (List.mem_append_right _ (List.mem_append_right _ (List.mem_append_right _ (List.mem_append_right _ h)))))) gd_wsX11_keepsRow
set_option maxRecDepth 20000 in
theorem gX11_init_X11_keepsRow : GoodIn wsX11_init (wsV RX11 145 RX11 yX11_keepsRow wsX11_keepsRow) := goodIn_app (goodIn_r _ [48, 49, 50, 42] (by decide +kernel) (by decide +kernel)) ggX11_init_X11_keepsRow
theorem dX11_init_324 : decode cX11_init 324 = .ok (.aload_n 0, 1) := dc1_42 (by decide +kernel)
theorem dX11_init_325 : decode cX11_init 325 = .ok (.iconst 0, 1) := dc1_3 (by decide +kernel)
theorem dX11_init_326 : decode cX11_init 326 = .ok (.invokevirtual 134, 3) := dcw_182 (by decide +kernel)
theorem dX11_init_329 : decode cX11_init 329 = .ok (.aload_n 0, 1) := dc1_42 (by decide +kernel)
theorem dX11_init_330 : decode cX11_init 330 = .ok (.iconst 1, 1) := dc1_4 (by decide +kernel)
theorem dX11_init_331 : decode cX11_init 331 = .ok (.invokevirtual 134, 3) := dcw_182 (by decide +kernel)
theorem dX11_init_334 : decode cX11_init 334 = .ok (.aload_n 0, 1) := dc1_42 (by decide +kernel)
theorem dX11_init_335 : decode cX11_init 335 = .ok (.getfield 34, 3) := dcw_180 (by decide +kernel)
theorem dX11_init_338 : decode cX11_init 338 = .ok (.iconst 0, 1) := dc1_3 (by decide +kernel)
theorem dX11_init_339 : decode cX11_init 339 = .ok (.bipush 119, 2) := dcb_16 (n := 119) (by decide +kernel)
theorem dX11_init_341 : decode cX11_init 341 = .ok (.bipush 97, 2) := dcb_16 (n := 97) (by decide +kernel)
theorem dX11_init_343 : decode cX11_init 343 = .ok (.bipush 118, 2) := dcb_16 (n := 118) (by decide +kernel)
theorem dX11_init_345 : decode cX11_init 345 = .ok (.bipush 101, 2) := dcb_16 (n := 101) (by decide +kernel)
theorem dX11_init_347 : decode cX11_init 347 = .ok (.iconst 0, 1) := dc1_3 (by decide +kernel)
theorem dX11_init_348 : decode cX11_init 348 = .ok (.iconst 0, 1) := dc1_3 (by decide +kernel)
theorem dX11_init_349 : decode cX11_init 349 = .ok (.iconst 0, 1) := dc1_3 (by decide +kernel)
theorem dX11_init_350 : decode cX11_init 350 = .ok (.invokestatic 138, 3) := dcw_184 (by decide +kernel)
theorem dX11_init_353 : decode cX11_init 353 = .ok (.lastore, 1) := dc1_80 (by decide +kernel)
theorem dX11_init_354 : decode cX11_init 354 = .ok (.aload_n 0, 1) := dc1_42 (by decide +kernel)
theorem dX11_init_355 : decode cX11_init 355 = .ok (.getfield 34, 3) := dcw_180 (by decide +kernel)
theorem dX11_init_358 : decode cX11_init 358 = .ok (.iconst 1, 1) := dc1_4 (by decide +kernel)
theorem dX11_init_359 : decode cX11_init 359 = .ok (.bipush 112, 2) := dcb_16 (n := 112) (by decide +kernel)
theorem dX11_init_361 : decode cX11_init 361 = .ok (.bipush 97, 2) := dcb_16 (n := 97) (by decide +kernel)
theorem dX11_init_363 : decode cX11_init 363 = .ok (.bipush 114, 2) := dcb_16 (n := 114) (by decide +kernel)
theorem dX11_init_365 : decode cX11_init 365 = .ok (.bipush 116, 2) := dcb_16 (n := 116) (by decide +kernel)
theorem dX11_init_367 : decode cX11_init 367 = .ok (.bipush 121, 2) := dcb_16 (n := 121) (by decide +kernel)
theorem dX11_init_369 : decode cX11_init 369 = .ok (.iconst 0, 1) := dc1_3 (by decide +kernel)
theorem dX11_init_370 : decode cX11_init 370 = .ok (.iconst 0, 1) := dc1_3 (by decide +kernel)
theorem dX11_init_371 : decode cX11_init 371 = .ok (.invokestatic 138, 3) := dcw_184 (by decide +kernel)
theorem dX11_init_374 : decode cX11_init 374 = .ok (.lastore, 1) := dc1_80 (by decide +kernel)
theorem dX11_init_375 : decode cX11_init 375 = .ok (.aload_n 0, 1) := dc1_42 (by decide +kernel)
theorem dX11_init_376 : decode cX11_init 376 = .ok (.getfield 34, 3) := dcw_180 (by decide +kernel)
theorem dX11_init_379 : decode cX11_init 379 = .ok (.iconst 2, 1) := dc1_5 (by decide +kernel)
theorem dX11_init_380 : decode cX11_init 380 = .ok (.bipush 110, 2) := dcb_16 (n := 110) (by decide +kernel)
theorem dX11_init_382 : decode cX11_init 382 = .ok (.bipush 101, 2) := dcb_16 (n := 101) (by decide +kernel)
theorem dX11_init_384 : decode cX11_init 384 = .ok (.bipush 101, 2) := dcb_16 (n := 101) (by decide +kernel)
theorem dX11_init_386 : decode cX11_init 386 = .ok (.bipush 100, 2) := dcb_16 (n := 100) (by decide +kernel)
theorem dX11_init_388 : decode cX11_init 388 = .ok (.bipush 115, 2) := dcb_16 (n := 115) (by decide +kernel)
theorem dX11_init_390 : decode cX11_init 390 = .ok (.iconst 0, 1) := dc1_3 (by decide +kernel)
theorem dX11_init_391 : decode cX11_init 391 = .ok (.iconst 0, 1) := dc1_3 (by decide +kernel)
theorem dX11_init_392 : decode cX11_init 392 = .ok (.invokestatic 138, 3) := dcw_184 (by decide +kernel)
theorem dX11_init_395 : decode cX11_init 395 = .ok (.lastore, 1) := dc1_80 (by decide +kernel)
theorem dX11_init_396 : decode cX11_init 396 = .ok (.aload_n 0, 1) := dc1_42 (by decide +kernel)
theorem dX11_init_397 : decode cX11_init 397 = .ok (.getfield 34, 3) := dcw_180 (by decide +kernel)
theorem dX11_init_400 : decode cX11_init 400 = .ok (.iconst 3, 1) := dc1_6 (by decide +kernel)
theorem dX11_init_401 : decode cX11_init 401 = .ok (.bipush 102, 2) := dcb_16 (n := 102) (by decide +kernel)
theorem dX11_init_403 : decode cX11_init 403 = .ok (.bipush 97, 2) := dcb_16 (n := 97) (by decide +kernel)
theorem dX11_init_405 : decode cX11_init 405 = .ok (.bipush 114, 2) := dcb_16 (n := 114) (by decide +kernel)
theorem dX11_init_407 : decode cX11_init 407 = .ok (.bipush 101, 2) := dcb_16 (n := 101) (by decide +kernel)
theorem dX11_init_409 : decode cX11_init 409 = .ok (.bipush 115, 2) := dcb_16 (n := 115) (by decide +kernel)
theorem dX11_init_411 : decode cX11_init 411 = .ok (.iconst 0, 1) := dc1_3 (by decide +kernel)
theorem dX11_init_412 : decode cX11_init 412 = .ok (.iconst 0, 1) := dc1_3 (by decide +kernel)
theorem dX11_init_413 : decode cX11_init 413 = .ok (.invokestatic 138, 3) := dcw_184 (by decide +kernel)
theorem dX11_init_416 : decode cX11_init 416 = .ok (.lastore, 1) := dc1_80 (by decide +kernel)
theorem dX11_init_417 : decode cX11_init 417 = .ok (.aload_n 0, 1) := dc1_42 (by decide +kernel)
theorem dX11_init_418 : decode cX11_init 418 = .ok (.getfield 34, 3) := dcw_180 (by decide +kernel)
theorem dX11_init_421 : decode cX11_init 421 = .ok (.iconst 4, 1) := dc1_7 (by decide +kernel)
theorem dX11_init_422 : decode cX11_init 422 = .ok (.bipush 100, 2) := dcb_16 (n := 100) (by decide +kernel)
theorem dX11_init_424 : decode cX11_init 424 = .ok (.bipush 97, 2) := dcb_16 (n := 97) (by decide +kernel)
theorem dX11_init_426 : decode cX11_init 426 = .ok (.bipush 114, 2) := dcb_16 (n := 114) (by decide +kernel)
theorem dX11_init_428 : decode cX11_init 428 = .ok (.bipush 101, 2) := dcb_16 (n := 101) (by decide +kernel)
theorem dX11_init_430 : decode cX11_init 430 = .ok (.bipush 115, 2) := dcb_16 (n := 115) (by decide +kernel)
theorem dX11_init_432 : decode cX11_init 432 = .ok (.iconst 0, 1) := dc1_3 (by decide +kernel)
theorem dX11_init_433 : decode cX11_init 433 = .ok (.iconst 0, 1) := dc1_3 (by decide +kernel)
theorem dX11_init_434 : decode cX11_init 434 = .ok (.invokestatic 138, 3) := dcw_184 (by decide +kernel)
theorem dX11_init_437 : decode cX11_init 437 = .ok (.lastore, 1) := dc1_80 (by decide +kernel)
theorem dX11_init_438 : decode cX11_init 438 = .ok (.aload_n 0, 1) := dc1_42 (by decide +kernel)
theorem dX11_init_439 : decode cX11_init 439 = .ok (.getfield 34, 3) := dcw_180 (by decide +kernel)
theorem dX11_init_442 : decode cX11_init 442 = .ok (.iconst 5, 1) := dc1_8 (by decide +kernel)
theorem dX11_init_443 : decode cX11_init 443 = .ok (.bipush 115, 2) := dcb_16 (n := 115) (by decide +kernel)
theorem dX11_init_445 : decode cX11_init 445 = .ok (.bipush 104, 2) := dcb_16 (n := 104) (by decide +kernel)
theorem dX11_init_447 : decode cX11_init 447 = .ok (.bipush 105, 2) := dcb_16 (n := 105) (by decide +kernel)
theorem dX11_init_449 : decode cX11_init 449 = .ok (.bipush 102, 2) := dcb_16 (n := 102) (by decide +kernel)
theorem dX11_init_451 : decode cX11_init 451 = .ok (.bipush 116, 2) := dcb_16 (n := 116) (by decide +kernel)
theorem dX11_init_453 : decode cX11_init 453 = .ok (.bipush 115, 2) := dcb_16 (n := 115) (by decide +kernel)
theorem dX11_init_455 : decode cX11_init 455 = .ok (.iconst 0, 1) := dc1_3 (by decide +kernel)
theorem dX11_init_456 : decode cX11_init 456 = .ok (.invokestatic 138, 3) := dcw_184 (by decide +kernel)
theorem dX11_init_459 : decode cX11_init 459 = .ok (.lastore, 1) := dc1_80 (by decide +kernel)
theorem dX11_init_460 : decode cX11_init 460 = .ok (.aload_n 0, 1) := dc1_42 (by decide +kernel)
theorem dX11_init_461 : decode cX11_init 461 = .ok (.getfield 34, 3) := dcw_180 (by decide +kernel)
theorem dX11_init_464 : decode cX11_init 464 = .ok (.bipush 6, 2) := dcb_16 (n := 6) (by decide +kernel)
theorem dX11_init_466 : decode cX11_init 466 = .ok (.bipush 115, 2) := dcb_16 (n := 115) (by decide +kernel)
theorem dX11_init_468 : decode cX11_init 468 = .ok (.bipush 101, 2) := dcb_16 (n := 101) (by decide +kernel)
theorem dX11_init_470 : decode cX11_init 470 = .ok (.bipush 101, 2) := dcb_16 (n := 101) (by decide +kernel)
theorem dX11_init_472 : decode cX11_init 472 = .ok (.bipush 100, 2) := dcb_16 (n := 100) (by decide +kernel)
theorem dX11_init_474 : decode cX11_init 474 = .ok (.iconst 0, 1) := dc1_3 (by decide +kernel)
theorem dX11_init_475 : decode cX11_init 475 = .ok (.iconst 0, 1) := dc1_3 (by decide +kernel)
theorem dX11_init_476 : decode cX11_init 476 = .ok (.iconst 0, 1) := dc1_3 (by decide +kernel)
theorem dX11_init_477 : decode cX11_init 477 = .ok (.invokestatic 138, 3) := dcw_184 (by decide +kernel)
theorem dX11_init_480 : decode cX11_init 480 = .ok (.lastore, 1) := dc1_80 (by decide +kernel)
theorem dX11_init_481 : decode cX11_init 481 = .ok (.aload_n 0, 1) := dc1_42 (by decide +kernel)
theorem dX11_init_482 : decode cX11_init 482 = .ok (.getfield 34, 3) := dcw_180 (by decide +kernel)
theorem dX11_init_485 : decode cX11_init 485 = .ok (.bipush 7, 2) := dcb_16 (n := 7) (by decide +kernel)
theorem dX11_init_487 : decode cX11_init 487 = .ok (.bipush 105, 2) := dcb_16 (n := 105) (by decide +kernel)
theorem dX11_init_489 : decode cX11_init 489 = .ok (.bipush 102, 2) := dcb_16 (n := 102) (by decide +kernel)
theorem dX11_init_491 : decode cX11_init 491 = .ok (.iconst 0, 1) := dc1_3 (by decide +kernel)
theorem dX11_init_492 : decode cX11_init 492 = .ok (.iconst 0, 1) := dc1_3 (by decide +kernel)
theorem dX11_init_493 : decode cX11_init 493 = .ok (.iconst 0, 1) := dc1_3 (by decide +kernel)
theorem dX11_init_494 : decode cX11_init 494 = .ok (.iconst 0, 1) := dc1_3 (by decide +kernel)
theorem dX11_init_495 : decode cX11_init 495 = .ok (.iconst 0, 1) := dc1_3 (by decide +kernel)
theorem dX11_init_496 : decode cX11_init 496 = .ok (.invokestatic 138, 3) := dcw_184 (by decide +kernel)
theorem dX11_init_499 : decode cX11_init 499 = .ok (.lastore, 1) := dc1_80 (by decide +kernel)
theorem dX11_init_500 : decode cX11_init 500 = .ok (.aload_n 0, 1) := dc1_42 (by decide +kernel)
theorem dX11_init_501 : decode cX11_init 501 = .ok (.getfield 34, 3) := dcw_180 (by decide +kernel)
theorem dX11_init_504 : decode cX11_init 504 = .ok (.bipush 8, 2) := dcb_16 (n := 8) (by decide +kernel)
theorem dX11_init_506 : decode cX11_init 506 = .ok (.bipush 116, 2) := dcb_16 (n := 116) (by decide +kernel)
theorem dX11_init_508 : decode cX11_init 508 = .ok (.bipush 104, 2) := dcb_16 (n := 104) (by decide +kernel)
theorem dX11_init_510 : decode cX11_init 510 = .ok (.bipush 101, 2) := dcb_16 (n := 101) (by decide +kernel)
theorem dX11_init_512 : decode cX11_init 512 = .ok (.bipush 110, 2) := dcb_16 (n := 110) (by decide +kernel)
theorem dX11_init_514 : decode cX11_init 514 = .ok (.iconst 0, 1) := dc1_3 (by decide +kernel)
theorem dX11_init_515 : decode cX11_init 515 = .ok (.iconst 0, 1) := dc1_3 (by decide +kernel)
theorem dX11_init_516 : decode cX11_init 516 = .ok (.iconst 0, 1) := dc1_3 (by decide +kernel)
theorem dX11_init_517 : decode cX11_init 517 = .ok (.invokestatic 138, 3) := dcw_184 (by decide +kernel)
theorem dX11_init_520 : decode cX11_init 520 = .ok (.lastore, 1) := dc1_80 (by decide +kernel)
theorem dX11_init_521 : decode cX11_init 521 = .ok (.aload_n 0, 1) := dc1_42 (by decide +kernel)
theorem dX11_init_522 : decode cX11_init 522 = .ok (.getfield 34, 3) := dcw_180 (by decide +kernel)
theorem dX11_init_525 : decode cX11_init 525 = .ok (.bipush 9, 2) := dcb_16 (n := 9) (by decide +kernel)
theorem dX11_init_527 : decode cX11_init 527 = .ok (.bipush 101, 2) := dcb_16 (n := 101) (by decide +kernel)
theorem dX11_init_529 : decode cX11_init 529 = .ok (.bipush 108, 2) := dcb_16 (n := 108) (by decide +kernel)
theorem dX11_init_531 : decode cX11_init 531 = .ok (.bipush 115, 2) := dcb_16 (n := 115) (by decide +kernel)
theorem dX11_init_533 : decode cX11_init 533 = .ok (.bipush 101, 2) := dcb_16 (n := 101) (by decide +kernel)
theorem dX11_init_535 : decode cX11_init 535 = .ok (.iconst 0, 1) := dc1_3 (by decide +kernel)
theorem dX11_init_536 : decode cX11_init 536 = .ok (.iconst 0, 1) := dc1_3 (by decide +kernel)
theorem dX11_init_537 : decode cX11_init 537 = .ok (.iconst 0, 1) := dc1_3 (by decide +kernel)
theorem dX11_init_538 : decode cX11_init 538 = .ok (.invokestatic 138, 3) := dcw_184 (by decide +kernel)
theorem dX11_init_541 : decode cX11_init 541 = .ok (.lastore, 1) := dc1_80 (by decide +kernel)
theorem dX11_init_542 : decode cX11_init 542 = .ok (.aload_n 0, 1) := dc1_42 (by decide +kernel)
theorem dX11_init_543 : decode cX11_init 543 = .ok (.getfield 34, 3) := dcw_180 (by decide +kernel)
theorem dX11_init_546 : decode cX11_init 546 = .ok (.bipush 10, 2) := dcb_16 (n := 10) (by decide +kernel)
theorem dX11_init_548 : decode cX11_init 548 = .ok (.bipush 97, 2) := dcb_16 (n := 97) (by decide +kernel)
theorem dX11_init_550 : decode cX11_init 550 = .ok (.bipush 116, 2) := dcb_16 (n := 116) (by decide +kernel)
theorem dX11_init_552 : decode cX11_init 552 = .ok (.iconst 0, 1) := dc1_3 (by decide +kernel)
theorem dX11_init_553 : decode cX11_init 553 = .ok (.iconst 0, 1) := dc1_3 (by decide +kernel)
theorem dX11_init_554 : decode cX11_init 554 = .ok (.iconst 0, 1) := dc1_3 (by decide +kernel)
theorem dX11_init_555 : decode cX11_init 555 = .ok (.iconst 0, 1) := dc1_3 (by decide +kernel)
theorem dX11_init_556 : decode cX11_init 556 = .ok (.iconst 0, 1) := dc1_3 (by decide +kernel)
theorem dX11_init_557 : decode cX11_init 557 = .ok (.invokestatic 138, 3) := dcw_184 (by decide +kernel)
theorem dX11_init_560 : decode cX11_init 560 = .ok (.lastore, 1) := dc1_80 (by decide +kernel)
theorem dX11_init_561 : decode cX11_init 561 = .ok (.aload_n 0, 1) := dc1_42 (by decide +kernel)
theorem dX11_init_562 : decode cX11_init 562 = .ok (.getfield 34, 3) := dcw_180 (by decide +kernel)
theorem dX11_init_565 : decode cX11_init 565 = .ok (.bipush 11, 2) := dcb_16 (n := 11) (by decide +kernel)
theorem dX11_init_567 : decode cX11_init 567 = .ok (.bipush 111, 2) := dcb_16 (n := 111) (by decide +kernel)
theorem dX11_init_569 : decode cX11_init 569 = .ok (.bipush 100, 2) := dcb_16 (n := 100) (by decide +kernel)
theorem dX11_init_571 : decode cX11_init 571 = .ok (.bipush 100, 2) := dcb_16 (n := 100) (by decide +kernel)
theorem dX11_init_573 : decode cX11_init 573 = .ok (.bipush 115, 2) := dcb_16 (n := 115) (by decide +kernel)
theorem dX11_init_575 : decode cX11_init 575 = .ok (.iconst 0, 1) := dc1_3 (by decide +kernel)
theorem dX11_init_576 : decode cX11_init 576 = .ok (.iconst 0, 1) := dc1_3 (by decide +kernel)
theorem dX11_init_577 : decode cX11_init 577 = .ok (.iconst 0, 1) := dc1_3 (by decide +kernel)
theorem dX11_init_578 : decode cX11_init 578 = .ok (.invokestatic 138, 3) := dcw_184 (by decide +kernel)
theorem dX11_init_581 : decode cX11_init 581 = .ok (.lastore, 1) := dc1_80 (by decide +kernel)
theorem dX11_init_582 : decode cX11_init 582 = .ok (.aload_n 0, 1) := dc1_42 (by decide +kernel)
theorem dX11_init_583 : decode cX11_init 583 = .ok (.getfield 34, 3) := dcw_180 (by decide +kernel)
theorem dX11_init_586 : decode cX11_init 586 = .ok (.bipush 12, 2) := dcb_16 (n := 12) (by decide +kernel)
theorem dX11_init_588 : decode cX11_init 588 = .ok (.bipush 104, 2) := dcb_16 (n := 104) (by decide +kernel)
theorem dX11_init_590 : decode cX11_init 590 = .ok (.bipush 101, 2) := dcb_16 (n := 101) (by decide +kernel)
theorem dX11_init_592 : decode cX11_init 592 = .ok (.bipush 97, 2) := dcb_16 (n := 97) (by decide +kernel)
theorem dX11_init_594 : decode cX11_init 594 = .ok (.bipush 118, 2) := dcb_16 (n := 118) (by decide +kernel)
theorem dX11_init_596 : decode cX11_init 596 = .ok (.bipush 121, 2) := dcb_16 (n := 121) (by decide +kernel)
theorem dX11_init_598 : decode cX11_init 598 = .ok (.iconst 0, 1) := dc1_3 (by decide +kernel)
theorem dX11_init_599 : decode cX11_init 599 = .ok (.iconst 0, 1) := dc1_3 (by decide +kernel)
theorem dX11_init_600 : decode cX11_init 600 = .ok (.invokestatic 138, 3) := dcw_184 (by decide +kernel)
theorem dX11_init_603 : decode cX11_init 603 = .ok (.lastore, 1) := dc1_80 (by decide +kernel)
theorem dX11_init_604 : decode cX11_init 604 = .ok (.aload_n 0, 1) := dc1_42 (by decide +kernel)
theorem dX11_init_605 : decode cX11_init 605 = .ok (.getfield 34, 3) := dcw_180 (by decide +kernel)
theorem dX11_init_608 : decode cX11_init 608 = .ok (.bipush 13, 2) := dcb_16 (n := 13) (by decide +kernel)
theorem dX11_init_610 : decode cX11_init 610 = .ok (.bipush 110, 2) := dcb_16 (n := 110) (by decide +kernel)
theorem dX11_init_612 : decode cX11_init 612 = .ok (.bipush 101, 2) := dcb_16 (n := 101) (by decide +kernel)
theorem dX11_init_614 : decode cX11_init 614 = .ok (.bipush 114, 2) := dcb_16 (n := 114) (by decide +kernel)
theorem dX11_init_616 : decode cX11_init 616 = .ok (.bipush 118, 2) := dcb_16 (n := 118) (by decide +kernel)
theorem dX11_init_618 : decode cX11_init 618 = .ok (.bipush 101, 2) := dcb_16 (n := 101) (by decide +kernel)
theorem dX11_init_620 : decode cX11_init 620 = .ok (.iconst 0, 1) := dc1_3 (by decide +kernel)
theorem dX11_init_621 : decode cX11_init 621 = .ok (.iconst 0, 1) := dc1_3 (by decide +kernel)
theorem dX11_init_622 : decode cX11_init 622 = .ok (.invokestatic 138, 3) := dcw_184 (by decide +kernel)
theorem dX11_init_625 : decode cX11_init 625 = .ok (.lastore, 1) := dc1_80 (by decide +kernel)
theorem dX11_init_626 : decode cX11_init 626 = .ok (.aload_n 0, 1) := dc1_42 (by decide +kernel)
theorem dX11_init_627 : decode cX11_init 627 = .ok (.getfield 34, 3) := dcw_180 (by decide +kernel)
theorem dX11_init_630 : decode cX11_init 630 = .ok (.bipush 14, 2) := dcb_16 (n := 14) (by decide +kernel)
theorem dX11_init_632 : decode cX11_init 632 = .ok (.bipush 108, 2) := dcb_16 (n := 108) (by decide +kernel)
theorem dX11_init_634 : decode cX11_init 634 = .ok (.bipush 101, 2) := dcb_16 (n := 101) (by decide +kernel)
theorem dX11_init_636 : decode cX11_init 636 = .ok (.bipush 102, 2) := dcb_16 (n := 102) (by decide +kernel)
theorem dX11_init_638 : decode cX11_init 638 = .ok (.bipush 116, 2) := dcb_16 (n := 116) (by decide +kernel)
theorem dX11_init_640 : decode cX11_init 640 = .ok (.iconst 0, 1) := dc1_3 (by decide +kernel)
theorem dX11_init_641 : decode cX11_init 641 = .ok (.iconst 0, 1) := dc1_3 (by decide +kernel)
theorem dX11_init_642 : decode cX11_init 642 = .ok (.iconst 0, 1) := dc1_3 (by decide +kernel)
theorem dX11_init_643 : decode cX11_init 643 = .ok (.invokestatic 138, 3) := dcw_184 (by decide +kernel)
theorem dX11_init_646 : decode cX11_init 646 = .ok (.lastore, 1) := dc1_80 (by decide +kernel)
theorem dX11_init_647 : decode cX11_init 647 = .ok (.aload_n 0, 1) := dc1_42 (by decide +kernel)
theorem dX11_init_648 : decode cX11_init 648 = .ok (.getfield 34, 3) := dcw_180 (by decide +kernel)
theorem dX11_init_651 : decode cX11_init 651 = .ok (.bipush 15, 2) := dcb_16 (n := 15) (by decide +kernel)
theorem dX11_init_653 : decode cX11_init 653 = .ok (.bipush 121, 2) := dcb_16 (n := 121) (by decide +kernel)
theorem dX11_init_655 : decode cX11_init 655 = .ok (.bipush 101, 2) := dcb_16 (n := 101) (by decide +kernel)
theorem dX11_init_657 : decode cX11_init 657 = .ok (.bipush 97, 2) := dcb_16 (n := 97) (by decide +kernel)
theorem dX11_init_659 : decode cX11_init 659 = .ok (.bipush 114, 2) := dcb_16 (n := 114) (by decide +kernel)
theorem dX11_init_661 : decode cX11_init 661 = .ok (.iconst 0, 1) := dc1_3 (by decide +kernel)
theorem dX11_init_662 : decode cX11_init 662 = .ok (.iconst 0, 1) := dc1_3 (by decide +kernel)
theorem dX11_init_663 : decode cX11_init 663 = .ok (.iconst 0, 1) := dc1_3 (by decide +kernel)
theorem dX11_init_664 : decode cX11_init 664 = .ok (.invokestatic 138, 3) := dcw_184 (by decide +kernel)
theorem dX11_init_667 : decode cX11_init 667 = .ok (.lastore, 1) := dc1_80 (by decide +kernel)
theorem dX11_init_668 : decode cX11_init 668 = .ok (.aload_n 0, 1) := dc1_42 (by decide +kernel)
theorem dX11_init_669 : decode cX11_init 669 = .ok (.getfield 34, 3) := dcw_180 (by decide +kernel)
theorem dX11_init_672 : decode cX11_init 672 = .ok (.bipush 16, 2) := dcb_16 (n := 16) (by decide +kernel)
theorem dX11_init_674 : decode cX11_init 674 = .ok (.bipush 119, 2) := dcb_16 (n := 119) (by decide +kernel)
theorem dX11_init_676 : decode cX11_init 676 = .ok (.bipush 104, 2) := dcb_16 (n := 104) (by decide +kernel)
theorem dX11_init_678 : decode cX11_init 678 = .ok (.bipush 105, 2) := dcb_16 (n := 105) (by decide +kernel)
theorem dX11_init_680 : decode cX11_init 680 = .ok (.bipush 99, 2) := dcb_16 (n := 99) (by decide +kernel)
theorem dX11_init_682 : decode cX11_init 682 = .ok (.bipush 104, 2) := dcb_16 (n := 104) (by decide +kernel)
theorem dX11_init_684 : decode cX11_init 684 = .ok (.iconst 0, 1) := dc1_3 (by decide +kernel)
theorem dX11_init_685 : decode cX11_init 685 = .ok (.iconst 0, 1) := dc1_3 (by decide +kernel)
theorem dX11_init_686 : decode cX11_init 686 = .ok (.invokestatic 138, 3) := dcw_184 (by decide +kernel)
theorem dX11_init_689 : decode cX11_init 689 = .ok (.lastore, 1) := dc1_80 (by decide +kernel)
theorem dX11_init_690 : decode cX11_init 690 = .ok (.aload_n 0, 1) := dc1_42 (by decide +kernel)
theorem dX11_init_691 : decode cX11_init 691 = .ok (.getfield 34, 3) := dcw_180 (by decide +kernel)
theorem dX11_init_694 : decode cX11_init 694 = .ok (.bipush 17, 2) := dcb_16 (n := 17) (by decide +kernel)
theorem dX11_init_696 : decode cX11_init 696 = .ok (.bipush 98, 2) := dcb_16 (n := 98) (by decide +kernel)
theorem dX11_init_698 : decode cX11_init 698 = .ok (.bipush 117, 2) := dcb_16 (n := 117) (by decide +kernel)
theorem dX11_init_700 : decode cX11_init 700 = .ok (.bipush 111, 2) := dcb_16 (n := 111) (by decide +kernel)
theorem dX11_init_702 : decode cX11_init 702 = .ok (.bipush 121, 2) := dcb_16 (n := 121) (by decide +kernel)
theorem dX11_init_704 : decode cX11_init 704 = .ok (.bipush 115, 2) := dcb_16 (n := 115) (by decide +kernel)
theorem dX11_init_706 : decode cX11_init 706 = .ok (.iconst 0, 1) := dc1_3 (by decide +kernel)
theorem dX11_init_707 : decode cX11_init 707 = .ok (.iconst 0, 1) := dc1_3 (by decide +kernel)
theorem dX11_init_708 : decode cX11_init 708 = .ok (.invokestatic 138, 3) := dcw_184 (by decide +kernel)
theorem dX11_init_711 : decode cX11_init 711 = .ok (.lastore, 1) := dc1_80 (by decide +kernel)
theorem dX11_init_712 : decode cX11_init 712 = .ok (.aload_n 0, 1) := dc1_42 (by decide +kernel)
theorem dX11_init_713 : decode cX11_init 713 = .ok (.getfield 34, 3) := dcw_180 (by decide +kernel)
theorem dX11_init_716 : decode cX11_init 716 = .ok (.bipush 18, 2) := dcb_16 (n := 18) (by decide +kernel)
theorem dX11_init_718 : decode cX11_init 718 = .ok (.bipush 103, 2) := dcb_16 (n := 103) (by decide +kernel)
theorem dX11_init_720 : decode cX11_init 720 = .ok (.bipush 111, 2) := dcb_16 (n := 111) (by decide +kernel)
theorem dX11_init_722 : decode cX11_init 722 = .ok (.bipush 101, 2) := dcb_16 (n := 101) (by decide +kernel)
theorem dX11_init_724 : decode cX11_init 724 = .ok (.bipush 115, 2) := dcb_16 (n := 115) (by decide +kernel)
theorem dX11_init_726 : decode cX11_init 726 = .ok (.iconst 0, 1) := dc1_3 (by decide +kernel)
theorem dX11_init_727 : decode cX11_init 727 = .ok (.iconst 0, 1) := dc1_3 (by decide +kernel)
theorem dX11_init_728 : decode cX11_init 728 = .ok (.iconst 0, 1) := dc1_3 (by decide +kernel)
theorem dX11_init_729 : decode cX11_init 729 = .ok (.invokestatic 138, 3) := dcw_184 (by decide +kernel)
theorem dX11_init_732 : decode cX11_init 732 = .ok (.lastore, 1) := dc1_80 (by decide +kernel)
theorem dX11_init_733 : decode cX11_init 733 = .ok (.aload_n 0, 1) := dc1_42 (by decide +kernel)
theorem dX11_init_734 : decode cX11_init 734 = .ok (.invokevirtual 142, 3) := dcw_182 (by decide +kernel)
theorem dX11_init_737 : decode cX11_init 737 = .ok (.aload_n 0, 1) := dc1_42 (by decide +kernel)
theorem dX11_init_738 : decode cX11_init 738 = .ok (.invokevirtual 145, 3) := dcw_182 (by decide +kernel)
theorem dX11_init_741 : decode cX11_init 741 = .ok (.return_, 1) := dc1_177 (by decide +kernel)

set_option maxHeartbeats 4000000 in
set_option maxRecDepth 100000 in
theorem mb_3 (l : Launch) (dC : Nat → ClassId) (dI : Nat → Nat → Nat) (cB cI cJ cZ cS : ClassId) (h : Nat) {p : Program} {e : Env} {s0 : State} {m : MethodId} {below : List Frame} {meth : Method} {c : Code} {A : Nat → Prop} (C : CallFix p m c cX11_init 1 s0 [Value.ref h].toArray wsX11_init yX11_init.cls) (hr : meth.sig.returnType = none) (hlocks : meth.locks = false) (hnm : meth.name = yX11_init.name) (hA : ∀ q, s0.heap.size ≤ q → A q) (hK : va_K (dC, dI) vwCl (tysA cB cI cJ cZ cS) s0) (hN : nw_ok s0) (a : Nat → Nat) (s s' : RS) (hB : r_init_3 s = some s') (hI : InvR s') (hG : Big s') (h2 : RIR s') (H : Heap) (locs : List Loc) (ls : Array Slot) (hP : va_P (dC, dI) vwCl (mwS cB cI cJ cZ h a s) H) (hD : va_D A (mwS cB cI cJ cZ h a s)) (hS : va_S A s0.heap H locs) (hl : lv_has ls 1 [(0, .ref h)]) : W p l e ({ frames := 2, cells := 38, slots := 18381, locals := 48 }) s0 m [Value.ref h].toArray below meth c H locs 38 18381 (MQ below (va_Qv (fun w => ∃ (a : Nat → Nat) (s9 : RS), InvR s9 ∧ Big s9 ∧ RIR s9 ∧ w = mwS cB cI cJ cZ h a s9) (at_W (dC, dI) (tysA cB cI cJ cZ cS) A) A) [Value.ref h].toArray s0 38 18381 A) (F0 m 733 ls []) := by
  obtain ⟨hx, hb, hml, hown, hts⟩ := id C
  unfold r_init_3 at hB
  refine lv_aload_n hx hb dX11_init_733 rfl (lv_at hl 0 rfl) ?_
  obtain ⟨s1, hc, hB⟩ := bindP_inv hB
  refine q_govF (va_runV (As := []) (rest := []) C (cr_begins hc _) (cwV 0 hts gX11_init_X11_begins rfl rfl rfl (by decide +kernel) ⟨Nat.le_of_ble_eq_true rfl, Nat.le_of_ble_eq_true rfl⟩) (q_preV hK hP (ci := 11) (q0 := 0) rfl rfl rfl (q_preF hN hK hP hD)) rfl rfl hl.1 rfl (lv_room (Nat.le_of_ble_eq_true rfl)) dX11_init_734 ⟨Nat.le_of_ble_eq_true rfl, Nat.le_of_ble_eq_true rfl⟩) hD hS hA (fun w1 H locs hw hP hD hS => ?_)
  subst hw
  refine lv_aload_n hx hb dX11_init_737 rfl (lv_at hl 0 rfl) ?_
  obtain ⟨s2, hc, hB⟩ := bindP_inv hB
  refine q_govF (va_runV (As := []) (rest := []) C (cr_keepsRow hc _) (cwV 0 hts gX11_init_X11_keepsRow rfl rfl rfl (by decide +kernel) ⟨Nat.le_of_ble_eq_true rfl, Nat.le_of_ble_eq_true rfl⟩) (q_preV hK hP (ci := 11) (q0 := 0) rfl rfl rfl (q_preF hN hK hP hD)) rfl rfl hl.1 rfl (lv_room (Nat.le_of_ble_eq_true rfl)) dX11_init_738 ⟨Nat.le_of_ble_eq_true rfl, Nat.le_of_ble_eq_true rfl⟩) hD hS hA (fun w1 H locs hw hP hD hS => ?_)
  subst hw
  exact q_vret C hr hlocks hK hP hD hS (Nat.le_of_ble_eq_true rfl) (Nat.le_of_ble_eq_true rfl) dX11_init_741 (by cases hB; exact ⟨a, _, hI, hG, h2, rfl⟩)

theorem LX11_init_34 : Cond.fieldLink RX11 34 "GuessFerryModel" "keys" "[J" ∈ wsX11_init := (List.mem_cons_of_mem _ (List.mem_append_left _ (List.mem_append_left _ (List.mem_of_getElem? (i := 12) rfl))))
theorem inX11_init_X11 : ∀ w ∈ u_ws RX11 TX11 58, w ∈ wsX11_init := fun w h => (List.mem_cons_of_mem _ (List.mem_append_right _ h))
set_option maxHeartbeats 4000000 in
set_option maxRecDepth 100000 in
theorem mb_2 (l : Launch) (dC : Nat → ClassId) (dI : Nat → Nat → Nat) (cB cI cJ cZ cS : ClassId) (h : Nat) {p : Program} {e : Env} {s0 : State} {m : MethodId} {below : List Frame} {meth : Method} {c : Code} {A : Nat → Prop} (C : CallFix p m c cX11_init 1 s0 [Value.ref h].toArray wsX11_init yX11_init.cls) (hr : meth.sig.returnType = none) (hlocks : meth.locks = false) (hnm : meth.name = yX11_init.name) (hA : ∀ q, s0.heap.size ≤ q → A q) (hK : va_K (dC, dI) vwCl (tysA cB cI cJ cZ cS) s0) (hN : nw_ok s0) (a : Nat → Nat) (s s' : RS) (hB : r_init_2 s = some s') (hI : InvR s') (hG : Big s') (h2 : RIR s') (H : Heap) (locs : List Loc) (ls : Array Slot) (hP : va_P (dC, dI) vwCl (mwS cB cI cJ cZ h a s) H) (hD : va_D A (mwS cB cI cJ cZ h a s)) (hS : va_S A s0.heap H locs) (hl : lv_has ls 1 [(0, .ref h)]) : W p l e ({ frames := 2, cells := 38, slots := 18381, locals := 48 }) s0 m [Value.ref h].toArray below meth c H locs 38 18381 (MQ below (va_Qv (fun w => ∃ (a : Nat → Nat) (s9 : RS), InvR s9 ∧ Big s9 ∧ RIR s9 ∧ w = mwS cB cI cJ cZ h a s9) (at_W (dC, dI) (tysA cB cI cJ cZ cS) A) A) [Value.ref h].toArray s0 38 18381 A) (F0 m 626 ls []) := by
  obtain ⟨hx, hb, hml, hown, hts⟩ := id C
  unfold r_init_2 at hB
  refine lv_aload_n hx hb dX11_init_626 rfl (lv_at hl 0 rfl) ?_
  refine q_get (v := .ref (a 9)) C inX11_init_X11 hK hP 0 rfl rfl 9 (by decide) rfl LX11_init_34 rfl dX11_init_627 ?_
  refine lv_bipush (v := 14) hx hb dX11_init_630 (by decide) ?_
  refine lv_bipush (v := 108) hx hb dX11_init_632 (by decide) ?_
  refine lv_bipush (v := 101) hx hb dX11_init_634 (by decide) ?_
  refine lv_bipush (v := 102) hx hb dX11_init_636 (by decide) ?_
  refine lv_bipush (v := 116) hx hb dX11_init_638 (by decide) ?_
  refine lv_iconst (v := 0) hx hb dX11_init_640 (by decide) ?_
  refine lv_iconst (v := 0) hx hb dX11_init_641 (by decide) ?_
  refine lv_iconst (v := 0) hx hb dX11_init_642 (by decide) ?_
  obtain ⟨q_, hc, hB⟩ := bindP_inv hB
  refine q_gol0 (va_runS (As := [.int 108, .int 101, .int 102, .int 116, .int 0, .int 0, .int 0]) (rest := [.int 14, .ref (a 9)]) C (cr_word hc _) (va_cwS 7 hts gX11_init_X11_word rfl rfl rfl (by decide +kernel) ⟨Nat.le_of_ble_eq_true rfl, Nat.le_of_ble_eq_true rfl⟩) (q_pre0 hN hK) rfl rfl hl.1 rfl (lv_room (Nat.le_of_ble_eq_true rfl)) dX11_init_643 ⟨Nat.le_of_ble_eq_true rfl, Nat.le_of_ble_eq_true rfl⟩) hP hD hS hA (fun r1 w1 H locs hw hP hS => ?_)
  subst hw
  obtain ⟨s2, hs3, hB⟩ := letS_inv hB
  refine q_last (f2 := (vp_updL (s.g 9) 14 r1)) (w2 := (mwS cB cI cJ cZ h a s2)) C hK hP hD hS 7 2 rfl rfl (vp_lit (by decide +kernel)) dX11_init_646 rfl (mwS_f9 hs3) (fun H locs hP hD hS => ?_)
  refine lv_aload_n hx hb dX11_init_647 rfl (lv_at hl 0 rfl) ?_
  refine q_get (v := .ref (a 9)) C inX11_init_X11 hK hP 0 rfl rfl 9 (by decide) rfl LX11_init_34 rfl dX11_init_648 ?_
  refine lv_bipush (v := 15) hx hb dX11_init_651 (by decide) ?_
  refine lv_bipush (v := 121) hx hb dX11_init_653 (by decide) ?_
  refine lv_bipush (v := 101) hx hb dX11_init_655 (by decide) ?_
  refine lv_bipush (v := 97) hx hb dX11_init_657 (by decide) ?_
  refine lv_bipush (v := 114) hx hb dX11_init_659 (by decide) ?_
  refine lv_iconst (v := 0) hx hb dX11_init_661 (by decide) ?_
  refine lv_iconst (v := 0) hx hb dX11_init_662 (by decide) ?_
  refine lv_iconst (v := 0) hx hb dX11_init_663 (by decide) ?_
  obtain ⟨q_, hc, hB⟩ := bindP_inv hB
  refine q_gol0 (va_runS (As := [.int 121, .int 101, .int 97, .int 114, .int 0, .int 0, .int 0]) (rest := [.int 15, .ref (a 9)]) C (cr_word hc _) (va_cwS 7 hts gX11_init_X11_word rfl rfl rfl (by decide +kernel) ⟨Nat.le_of_ble_eq_true rfl, Nat.le_of_ble_eq_true rfl⟩) (q_pre0 hN hK) rfl rfl hl.1 rfl (lv_room (Nat.le_of_ble_eq_true rfl)) dX11_init_664 ⟨Nat.le_of_ble_eq_true rfl, Nat.le_of_ble_eq_true rfl⟩) hP hD hS hA (fun r4 w1 H locs hw hP hS => ?_)
  subst hw
  obtain ⟨s5, hs6, hB⟩ := letS_inv hB
  refine q_last (f2 := (vp_updL (s2.g 9) 15 r4)) (w2 := (mwS cB cI cJ cZ h a s5)) C hK hP hD hS 7 2 rfl rfl (vp_lit (by decide +kernel)) dX11_init_667 rfl (mwS_f9 hs6) (fun H locs hP hD hS => ?_)
  refine lv_aload_n hx hb dX11_init_668 rfl (lv_at hl 0 rfl) ?_
  refine q_get (v := .ref (a 9)) C inX11_init_X11 hK hP 0 rfl rfl 9 (by decide) rfl LX11_init_34 rfl dX11_init_669 ?_
  refine lv_bipush (v := 16) hx hb dX11_init_672 (by decide) ?_
  refine lv_bipush (v := 119) hx hb dX11_init_674 (by decide) ?_
  refine lv_bipush (v := 104) hx hb dX11_init_676 (by decide) ?_
  refine lv_bipush (v := 105) hx hb dX11_init_678 (by decide) ?_
  refine lv_bipush (v := 99) hx hb dX11_init_680 (by decide) ?_
  refine lv_bipush (v := 104) hx hb dX11_init_682 (by decide) ?_
  refine lv_iconst (v := 0) hx hb dX11_init_684 (by decide) ?_
  refine lv_iconst (v := 0) hx hb dX11_init_685 (by decide) ?_
  obtain ⟨q_, hc, hB⟩ := bindP_inv hB
  refine q_gol0 (va_runS (As := [.int 119, .int 104, .int 105, .int 99, .int 104, .int 0, .int 0]) (rest := [.int 16, .ref (a 9)]) C (cr_word hc _) (va_cwS 7 hts gX11_init_X11_word rfl rfl rfl (by decide +kernel) ⟨Nat.le_of_ble_eq_true rfl, Nat.le_of_ble_eq_true rfl⟩) (q_pre0 hN hK) rfl rfl hl.1 rfl (lv_room (Nat.le_of_ble_eq_true rfl)) dX11_init_686 ⟨Nat.le_of_ble_eq_true rfl, Nat.le_of_ble_eq_true rfl⟩) hP hD hS hA (fun r7 w1 H locs hw hP hS => ?_)
  subst hw
  obtain ⟨s8, hs9, hB⟩ := letS_inv hB
  refine q_last (f2 := (vp_updL (s5.g 9) 16 r7)) (w2 := (mwS cB cI cJ cZ h a s8)) C hK hP hD hS 7 2 rfl rfl (vp_lit (by decide +kernel)) dX11_init_689 rfl (mwS_f9 hs9) (fun H locs hP hD hS => ?_)
  refine lv_aload_n hx hb dX11_init_690 rfl (lv_at hl 0 rfl) ?_
  refine q_get (v := .ref (a 9)) C inX11_init_X11 hK hP 0 rfl rfl 9 (by decide) rfl LX11_init_34 rfl dX11_init_691 ?_
  refine lv_bipush (v := 17) hx hb dX11_init_694 (by decide) ?_
  refine lv_bipush (v := 98) hx hb dX11_init_696 (by decide) ?_
  refine lv_bipush (v := 117) hx hb dX11_init_698 (by decide) ?_
  refine lv_bipush (v := 111) hx hb dX11_init_700 (by decide) ?_
  refine lv_bipush (v := 121) hx hb dX11_init_702 (by decide) ?_
  refine lv_bipush (v := 115) hx hb dX11_init_704 (by decide) ?_
  refine lv_iconst (v := 0) hx hb dX11_init_706 (by decide) ?_
  refine lv_iconst (v := 0) hx hb dX11_init_707 (by decide) ?_
  obtain ⟨q_, hc, hB⟩ := bindP_inv hB
  refine q_gol0 (va_runS (As := [.int 98, .int 117, .int 111, .int 121, .int 115, .int 0, .int 0]) (rest := [.int 17, .ref (a 9)]) C (cr_word hc _) (va_cwS 7 hts gX11_init_X11_word rfl rfl rfl (by decide +kernel) ⟨Nat.le_of_ble_eq_true rfl, Nat.le_of_ble_eq_true rfl⟩) (q_pre0 hN hK) rfl rfl hl.1 rfl (lv_room (Nat.le_of_ble_eq_true rfl)) dX11_init_708 ⟨Nat.le_of_ble_eq_true rfl, Nat.le_of_ble_eq_true rfl⟩) hP hD hS hA (fun r10 w1 H locs hw hP hS => ?_)
  subst hw
  obtain ⟨s11, hs12, hB⟩ := letS_inv hB
  refine q_last (f2 := (vp_updL (s8.g 9) 17 r10)) (w2 := (mwS cB cI cJ cZ h a s11)) C hK hP hD hS 7 2 rfl rfl (vp_lit (by decide +kernel)) dX11_init_711 rfl (mwS_f9 hs12) (fun H locs hP hD hS => ?_)
  refine lv_aload_n hx hb dX11_init_712 rfl (lv_at hl 0 rfl) ?_
  refine q_get (v := .ref (a 9)) C inX11_init_X11 hK hP 0 rfl rfl 9 (by decide) rfl LX11_init_34 rfl dX11_init_713 ?_
  refine lv_bipush (v := 18) hx hb dX11_init_716 (by decide) ?_
  refine lv_bipush (v := 103) hx hb dX11_init_718 (by decide) ?_
  refine lv_bipush (v := 111) hx hb dX11_init_720 (by decide) ?_
  refine lv_bipush (v := 101) hx hb dX11_init_722 (by decide) ?_
  refine lv_bipush (v := 115) hx hb dX11_init_724 (by decide) ?_
  refine lv_iconst (v := 0) hx hb dX11_init_726 (by decide) ?_
  refine lv_iconst (v := 0) hx hb dX11_init_727 (by decide) ?_
  refine lv_iconst (v := 0) hx hb dX11_init_728 (by decide) ?_
  obtain ⟨q_, hc, hB⟩ := bindP_inv hB
  refine q_gol0 (va_runS (As := [.int 103, .int 111, .int 101, .int 115, .int 0, .int 0, .int 0]) (rest := [.int 18, .ref (a 9)]) C (cr_word hc _) (va_cwS 7 hts gX11_init_X11_word rfl rfl rfl (by decide +kernel) ⟨Nat.le_of_ble_eq_true rfl, Nat.le_of_ble_eq_true rfl⟩) (q_pre0 hN hK) rfl rfl hl.1 rfl (lv_room (Nat.le_of_ble_eq_true rfl)) dX11_init_729 ⟨Nat.le_of_ble_eq_true rfl, Nat.le_of_ble_eq_true rfl⟩) hP hD hS hA (fun r13 w1 H locs hw hP hS => ?_)
  subst hw
  obtain ⟨s14, hs15, hB⟩ := letS_inv hB
  refine q_last (f2 := (vp_updL (s11.g 9) 18 r13)) (w2 := (mwS cB cI cJ cZ h a s14)) C hK hP hD hS 7 2 rfl rfl (vp_lit (by decide +kernel)) dX11_init_732 rfl (mwS_f9 hs15) (fun H locs hP hD hS => ?_)
  exact mb_3 l dC dI cB cI cJ cZ cS h C hr hlocks hnm hA hK hN a _ _ hB hI hG h2 H locs ls hP hD hS hl


set_option maxHeartbeats 4000000 in
set_option maxRecDepth 100000 in
theorem mb_1 (l : Launch) (dC : Nat → ClassId) (dI : Nat → Nat → Nat) (cB cI cJ cZ cS : ClassId) (h : Nat) {p : Program} {e : Env} {s0 : State} {m : MethodId} {below : List Frame} {meth : Method} {c : Code} {A : Nat → Prop} (C : CallFix p m c cX11_init 1 s0 [Value.ref h].toArray wsX11_init yX11_init.cls) (hr : meth.sig.returnType = none) (hlocks : meth.locks = false) (hnm : meth.name = yX11_init.name) (hA : ∀ q, s0.heap.size ≤ q → A q) (hK : va_K (dC, dI) vwCl (tysA cB cI cJ cZ cS) s0) (hN : nw_ok s0) (a : Nat → Nat) (s s' : RS) (hB : r_init_1 s = some s') (hI : InvR s') (hG : Big s') (h2 : RIR s') (H : Heap) (locs : List Loc) (ls : Array Slot) (hP : va_P (dC, dI) vwCl (mwS cB cI cJ cZ h a s) H) (hD : va_D A (mwS cB cI cJ cZ h a s)) (hS : va_S A s0.heap H locs) (hl : lv_has ls 1 [(0, .ref h)]) : W p l e ({ frames := 2, cells := 38, slots := 18381, locals := 48 }) s0 m [Value.ref h].toArray below meth c H locs 38 18381 (MQ below (va_Qv (fun w => ∃ (a : Nat → Nat) (s9 : RS), InvR s9 ∧ Big s9 ∧ RIR s9 ∧ w = mwS cB cI cJ cZ h a s9) (at_W (dC, dI) (tysA cB cI cJ cZ cS) A) A) [Value.ref h].toArray s0 38 18381 A) (F0 m 481 ls []) := by
  obtain ⟨hx, hb, hml, hown, hts⟩ := id C
  unfold r_init_1 at hB
  refine lv_aload_n hx hb dX11_init_481 rfl (lv_at hl 0 rfl) ?_
  refine q_get (v := .ref (a 9)) C inX11_init_X11 hK hP 0 rfl rfl 9 (by decide) rfl LX11_init_34 rfl dX11_init_482 ?_
  refine lv_bipush (v := 7) hx hb dX11_init_485 (by decide) ?_
  refine lv_bipush (v := 105) hx hb dX11_init_487 (by decide) ?_
  refine lv_bipush (v := 102) hx hb dX11_init_489 (by decide) ?_
  refine lv_iconst (v := 0) hx hb dX11_init_491 (by decide) ?_
  refine lv_iconst (v := 0) hx hb dX11_init_492 (by decide) ?_
  refine lv_iconst (v := 0) hx hb dX11_init_493 (by decide) ?_
  refine lv_iconst (v := 0) hx hb dX11_init_494 (by decide) ?_
  refine lv_iconst (v := 0) hx hb dX11_init_495 (by decide) ?_
  obtain ⟨q_, hc, hB⟩ := bindP_inv hB
  refine q_gol0 (va_runS (As := [.int 105, .int 102, .int 0, .int 0, .int 0, .int 0, .int 0]) (rest := [.int 7, .ref (a 9)]) C (cr_word hc _) (va_cwS 7 hts gX11_init_X11_word rfl rfl rfl (by decide +kernel) ⟨Nat.le_of_ble_eq_true rfl, Nat.le_of_ble_eq_true rfl⟩) (q_pre0 hN hK) rfl rfl hl.1 rfl (lv_room (Nat.le_of_ble_eq_true rfl)) dX11_init_496 ⟨Nat.le_of_ble_eq_true rfl, Nat.le_of_ble_eq_true rfl⟩) hP hD hS hA (fun r1 w1 H locs hw hP hS => ?_)
  subst hw
  obtain ⟨s2, hs3, hB⟩ := letS_inv hB
  refine q_last (f2 := (vp_updL (s.g 9) 7 r1)) (w2 := (mwS cB cI cJ cZ h a s2)) C hK hP hD hS 7 2 rfl rfl (vp_lit (by decide +kernel)) dX11_init_499 rfl (mwS_f9 hs3) (fun H locs hP hD hS => ?_)
  refine lv_aload_n hx hb dX11_init_500 rfl (lv_at hl 0 rfl) ?_
  refine q_get (v := .ref (a 9)) C inX11_init_X11 hK hP 0 rfl rfl 9 (by decide) rfl LX11_init_34 rfl dX11_init_501 ?_
  refine lv_bipush (v := 8) hx hb dX11_init_504 (by decide) ?_
  refine lv_bipush (v := 116) hx hb dX11_init_506 (by decide) ?_
  refine lv_bipush (v := 104) hx hb dX11_init_508 (by decide) ?_
  refine lv_bipush (v := 101) hx hb dX11_init_510 (by decide) ?_
  refine lv_bipush (v := 110) hx hb dX11_init_512 (by decide) ?_
  refine lv_iconst (v := 0) hx hb dX11_init_514 (by decide) ?_
  refine lv_iconst (v := 0) hx hb dX11_init_515 (by decide) ?_
  refine lv_iconst (v := 0) hx hb dX11_init_516 (by decide) ?_
  obtain ⟨q_, hc, hB⟩ := bindP_inv hB
  refine q_gol0 (va_runS (As := [.int 116, .int 104, .int 101, .int 110, .int 0, .int 0, .int 0]) (rest := [.int 8, .ref (a 9)]) C (cr_word hc _) (va_cwS 7 hts gX11_init_X11_word rfl rfl rfl (by decide +kernel) ⟨Nat.le_of_ble_eq_true rfl, Nat.le_of_ble_eq_true rfl⟩) (q_pre0 hN hK) rfl rfl hl.1 rfl (lv_room (Nat.le_of_ble_eq_true rfl)) dX11_init_517 ⟨Nat.le_of_ble_eq_true rfl, Nat.le_of_ble_eq_true rfl⟩) hP hD hS hA (fun r4 w1 H locs hw hP hS => ?_)
  subst hw
  obtain ⟨s5, hs6, hB⟩ := letS_inv hB
  refine q_last (f2 := (vp_updL (s2.g 9) 8 r4)) (w2 := (mwS cB cI cJ cZ h a s5)) C hK hP hD hS 7 2 rfl rfl (vp_lit (by decide +kernel)) dX11_init_520 rfl (mwS_f9 hs6) (fun H locs hP hD hS => ?_)
  refine lv_aload_n hx hb dX11_init_521 rfl (lv_at hl 0 rfl) ?_
  refine q_get (v := .ref (a 9)) C inX11_init_X11 hK hP 0 rfl rfl 9 (by decide) rfl LX11_init_34 rfl dX11_init_522 ?_
  refine lv_bipush (v := 9) hx hb dX11_init_525 (by decide) ?_
  refine lv_bipush (v := 101) hx hb dX11_init_527 (by decide) ?_
  refine lv_bipush (v := 108) hx hb dX11_init_529 (by decide) ?_
  refine lv_bipush (v := 115) hx hb dX11_init_531 (by decide) ?_
  refine lv_bipush (v := 101) hx hb dX11_init_533 (by decide) ?_
  refine lv_iconst (v := 0) hx hb dX11_init_535 (by decide) ?_
  refine lv_iconst (v := 0) hx hb dX11_init_536 (by decide) ?_
  refine lv_iconst (v := 0) hx hb dX11_init_537 (by decide) ?_
  obtain ⟨q_, hc, hB⟩ := bindP_inv hB
  refine q_gol0 (va_runS (As := [.int 101, .int 108, .int 115, .int 101, .int 0, .int 0, .int 0]) (rest := [.int 9, .ref (a 9)]) C (cr_word hc _) (va_cwS 7 hts gX11_init_X11_word rfl rfl rfl (by decide +kernel) ⟨Nat.le_of_ble_eq_true rfl, Nat.le_of_ble_eq_true rfl⟩) (q_pre0 hN hK) rfl rfl hl.1 rfl (lv_room (Nat.le_of_ble_eq_true rfl)) dX11_init_538 ⟨Nat.le_of_ble_eq_true rfl, Nat.le_of_ble_eq_true rfl⟩) hP hD hS hA (fun r7 w1 H locs hw hP hS => ?_)
  subst hw
  obtain ⟨s8, hs9, hB⟩ := letS_inv hB
  refine q_last (f2 := (vp_updL (s5.g 9) 9 r7)) (w2 := (mwS cB cI cJ cZ h a s8)) C hK hP hD hS 7 2 rfl rfl (vp_lit (by decide +kernel)) dX11_init_541 rfl (mwS_f9 hs9) (fun H locs hP hD hS => ?_)
  refine lv_aload_n hx hb dX11_init_542 rfl (lv_at hl 0 rfl) ?_
  refine q_get (v := .ref (a 9)) C inX11_init_X11 hK hP 0 rfl rfl 9 (by decide) rfl LX11_init_34 rfl dX11_init_543 ?_
  refine lv_bipush (v := 10) hx hb dX11_init_546 (by decide) ?_
  refine lv_bipush (v := 97) hx hb dX11_init_548 (by decide) ?_
  refine lv_bipush (v := 116) hx hb dX11_init_550 (by decide) ?_
  refine lv_iconst (v := 0) hx hb dX11_init_552 (by decide) ?_
  refine lv_iconst (v := 0) hx hb dX11_init_553 (by decide) ?_
  refine lv_iconst (v := 0) hx hb dX11_init_554 (by decide) ?_
  refine lv_iconst (v := 0) hx hb dX11_init_555 (by decide) ?_
  refine lv_iconst (v := 0) hx hb dX11_init_556 (by decide) ?_
  obtain ⟨q_, hc, hB⟩ := bindP_inv hB
  refine q_gol0 (va_runS (As := [.int 97, .int 116, .int 0, .int 0, .int 0, .int 0, .int 0]) (rest := [.int 10, .ref (a 9)]) C (cr_word hc _) (va_cwS 7 hts gX11_init_X11_word rfl rfl rfl (by decide +kernel) ⟨Nat.le_of_ble_eq_true rfl, Nat.le_of_ble_eq_true rfl⟩) (q_pre0 hN hK) rfl rfl hl.1 rfl (lv_room (Nat.le_of_ble_eq_true rfl)) dX11_init_557 ⟨Nat.le_of_ble_eq_true rfl, Nat.le_of_ble_eq_true rfl⟩) hP hD hS hA (fun r10 w1 H locs hw hP hS => ?_)
  subst hw
  obtain ⟨s11, hs12, hB⟩ := letS_inv hB
  refine q_last (f2 := (vp_updL (s8.g 9) 10 r10)) (w2 := (mwS cB cI cJ cZ h a s11)) C hK hP hD hS 7 2 rfl rfl (vp_lit (by decide +kernel)) dX11_init_560 rfl (mwS_f9 hs12) (fun H locs hP hD hS => ?_)
  refine lv_aload_n hx hb dX11_init_561 rfl (lv_at hl 0 rfl) ?_
  refine q_get (v := .ref (a 9)) C inX11_init_X11 hK hP 0 rfl rfl 9 (by decide) rfl LX11_init_34 rfl dX11_init_562 ?_
  refine lv_bipush (v := 11) hx hb dX11_init_565 (by decide) ?_
  refine lv_bipush (v := 111) hx hb dX11_init_567 (by decide) ?_
  refine lv_bipush (v := 100) hx hb dX11_init_569 (by decide) ?_
  refine lv_bipush (v := 100) hx hb dX11_init_571 (by decide) ?_
  refine lv_bipush (v := 115) hx hb dX11_init_573 (by decide) ?_
  refine lv_iconst (v := 0) hx hb dX11_init_575 (by decide) ?_
  refine lv_iconst (v := 0) hx hb dX11_init_576 (by decide) ?_
  refine lv_iconst (v := 0) hx hb dX11_init_577 (by decide) ?_
  obtain ⟨q_, hc, hB⟩ := bindP_inv hB
  refine q_gol0 (va_runS (As := [.int 111, .int 100, .int 100, .int 115, .int 0, .int 0, .int 0]) (rest := [.int 11, .ref (a 9)]) C (cr_word hc _) (va_cwS 7 hts gX11_init_X11_word rfl rfl rfl (by decide +kernel) ⟨Nat.le_of_ble_eq_true rfl, Nat.le_of_ble_eq_true rfl⟩) (q_pre0 hN hK) rfl rfl hl.1 rfl (lv_room (Nat.le_of_ble_eq_true rfl)) dX11_init_578 ⟨Nat.le_of_ble_eq_true rfl, Nat.le_of_ble_eq_true rfl⟩) hP hD hS hA (fun r13 w1 H locs hw hP hS => ?_)
  subst hw
  obtain ⟨s14, hs15, hB⟩ := letS_inv hB
  refine q_last (f2 := (vp_updL (s11.g 9) 11 r13)) (w2 := (mwS cB cI cJ cZ h a s14)) C hK hP hD hS 7 2 rfl rfl (vp_lit (by decide +kernel)) dX11_init_581 rfl (mwS_f9 hs15) (fun H locs hP hD hS => ?_)
  refine lv_aload_n hx hb dX11_init_582 rfl (lv_at hl 0 rfl) ?_
  refine q_get (v := .ref (a 9)) C inX11_init_X11 hK hP 0 rfl rfl 9 (by decide) rfl LX11_init_34 rfl dX11_init_583 ?_
  refine lv_bipush (v := 12) hx hb dX11_init_586 (by decide) ?_
  refine lv_bipush (v := 104) hx hb dX11_init_588 (by decide) ?_
  refine lv_bipush (v := 101) hx hb dX11_init_590 (by decide) ?_
  refine lv_bipush (v := 97) hx hb dX11_init_592 (by decide) ?_
  refine lv_bipush (v := 118) hx hb dX11_init_594 (by decide) ?_
  refine lv_bipush (v := 121) hx hb dX11_init_596 (by decide) ?_
  refine lv_iconst (v := 0) hx hb dX11_init_598 (by decide) ?_
  refine lv_iconst (v := 0) hx hb dX11_init_599 (by decide) ?_
  obtain ⟨q_, hc, hB⟩ := bindP_inv hB
  refine q_gol0 (va_runS (As := [.int 104, .int 101, .int 97, .int 118, .int 121, .int 0, .int 0]) (rest := [.int 12, .ref (a 9)]) C (cr_word hc _) (va_cwS 7 hts gX11_init_X11_word rfl rfl rfl (by decide +kernel) ⟨Nat.le_of_ble_eq_true rfl, Nat.le_of_ble_eq_true rfl⟩) (q_pre0 hN hK) rfl rfl hl.1 rfl (lv_room (Nat.le_of_ble_eq_true rfl)) dX11_init_600 ⟨Nat.le_of_ble_eq_true rfl, Nat.le_of_ble_eq_true rfl⟩) hP hD hS hA (fun r16 w1 H locs hw hP hS => ?_)
  subst hw
  obtain ⟨s17, hs18, hB⟩ := letS_inv hB
  refine q_last (f2 := (vp_updL (s14.g 9) 12 r16)) (w2 := (mwS cB cI cJ cZ h a s17)) C hK hP hD hS 7 2 rfl rfl (vp_lit (by decide +kernel)) dX11_init_603 rfl (mwS_f9 hs18) (fun H locs hP hD hS => ?_)
  refine lv_aload_n hx hb dX11_init_604 rfl (lv_at hl 0 rfl) ?_
  refine q_get (v := .ref (a 9)) C inX11_init_X11 hK hP 0 rfl rfl 9 (by decide) rfl LX11_init_34 rfl dX11_init_605 ?_
  refine lv_bipush (v := 13) hx hb dX11_init_608 (by decide) ?_
  refine lv_bipush (v := 110) hx hb dX11_init_610 (by decide) ?_
  refine lv_bipush (v := 101) hx hb dX11_init_612 (by decide) ?_
  refine lv_bipush (v := 114) hx hb dX11_init_614 (by decide) ?_
  refine lv_bipush (v := 118) hx hb dX11_init_616 (by decide) ?_
  refine lv_bipush (v := 101) hx hb dX11_init_618 (by decide) ?_
  refine lv_iconst (v := 0) hx hb dX11_init_620 (by decide) ?_
  refine lv_iconst (v := 0) hx hb dX11_init_621 (by decide) ?_
  obtain ⟨q_, hc, hB⟩ := bindP_inv hB
  refine q_gol0 (va_runS (As := [.int 110, .int 101, .int 114, .int 118, .int 101, .int 0, .int 0]) (rest := [.int 13, .ref (a 9)]) C (cr_word hc _) (va_cwS 7 hts gX11_init_X11_word rfl rfl rfl (by decide +kernel) ⟨Nat.le_of_ble_eq_true rfl, Nat.le_of_ble_eq_true rfl⟩) (q_pre0 hN hK) rfl rfl hl.1 rfl (lv_room (Nat.le_of_ble_eq_true rfl)) dX11_init_622 ⟨Nat.le_of_ble_eq_true rfl, Nat.le_of_ble_eq_true rfl⟩) hP hD hS hA (fun r19 w1 H locs hw hP hS => ?_)
  subst hw
  obtain ⟨s20, hs21, hB⟩ := letS_inv hB
  refine q_last (f2 := (vp_updL (s17.g 9) 13 r19)) (w2 := (mwS cB cI cJ cZ h a s20)) C hK hP hD hS 7 2 rfl rfl (vp_lit (by decide +kernel)) dX11_init_625 rfl (mwS_f9 hs21) (fun H locs hP hD hS => ?_)
  exact mb_2 l dC dI cB cI cJ cZ cS h C hr hlocks hnm hA hK hN a _ _ hB hI hG h2 H locs ls hP hD hS hl


set_option maxHeartbeats 4000000 in
set_option maxRecDepth 100000 in
theorem mb_0 (l : Launch) (dC : Nat → ClassId) (dI : Nat → Nat → Nat) (cB cI cJ cZ cS : ClassId) (h : Nat) {p : Program} {e : Env} {s0 : State} {m : MethodId} {below : List Frame} {meth : Method} {c : Code} {A : Nat → Prop} (C : CallFix p m c cX11_init 1 s0 [Value.ref h].toArray wsX11_init yX11_init.cls) (hr : meth.sig.returnType = none) (hlocks : meth.locks = false) (hnm : meth.name = yX11_init.name) (hA : ∀ q, s0.heap.size ≤ q → A q) (hK : va_K (dC, dI) vwCl (tysA cB cI cJ cZ cS) s0) (hN : nw_ok s0) (a : Nat → Nat) (s s' : RS) (hB : r_init_0 s = some s') (hI : InvR s') (hG : Big s') (h2 : RIR s') (H : Heap) (locs : List Loc) (ls : Array Slot) (hP : va_P (dC, dI) vwCl (mwS cB cI cJ cZ h a s) H) (hD : va_D A (mwS cB cI cJ cZ h a s)) (hS : va_S A s0.heap H locs) (hl : lv_has ls 1 [(0, .ref h)]) : W p l e ({ frames := 2, cells := 38, slots := 18381, locals := 48 }) s0 m [Value.ref h].toArray below meth c H locs 38 18381 (MQ below (va_Qv (fun w => ∃ (a : Nat → Nat) (s9 : RS), InvR s9 ∧ Big s9 ∧ RIR s9 ∧ w = mwS cB cI cJ cZ h a s9) (at_W (dC, dI) (tysA cB cI cJ cZ cS) A) A) [Value.ref h].toArray s0 38 18381 A) (F0 m 324 ls []) := by
  obtain ⟨hx, hb, hml, hown, hts⟩ := id C
  unfold r_init_0 at hB
  refine lv_aload_n hx hb dX11_init_324 rfl (lv_at hl 0 rfl) ?_
  refine lv_iconst (v := 0) hx hb dX11_init_325 (by decide) ?_
  obtain ⟨s1, hc, hB⟩ := bindP_inv hB
  refine q_govF (va_runV (As := [.int 0]) (rest := []) C (cr_plain hc _) (cwV 1 hts gX11_init_X11_plain rfl rfl rfl (by decide +kernel) ⟨Nat.le_of_ble_eq_true rfl, Nat.le_of_ble_eq_true rfl⟩) (q_preV hK hP (ci := 11) (q0 := 0) rfl rfl rfl (q_preF hN hK hP hD)) rfl rfl hl.1 rfl (lv_room (Nat.le_of_ble_eq_true rfl)) dX11_init_326 ⟨Nat.le_of_ble_eq_true rfl, Nat.le_of_ble_eq_true rfl⟩) hD hS hA (fun w1 H locs hw hP hD hS => ?_)
  subst hw
  refine lv_aload_n hx hb dX11_init_329 rfl (lv_at hl 0 rfl) ?_
  refine lv_iconst (v := 1) hx hb dX11_init_330 (by decide) ?_
  obtain ⟨s2, hc, hB⟩ := bindP_inv hB
  refine q_govF (va_runV (As := [.int 1]) (rest := []) C (cr_plain hc _) (cwV 1 hts gX11_init_X11_plain rfl rfl rfl (by decide +kernel) ⟨Nat.le_of_ble_eq_true rfl, Nat.le_of_ble_eq_true rfl⟩) (q_preV hK hP (ci := 11) (q0 := 0) rfl rfl rfl (q_preF hN hK hP hD)) rfl rfl hl.1 rfl (lv_room (Nat.le_of_ble_eq_true rfl)) dX11_init_331 ⟨Nat.le_of_ble_eq_true rfl, Nat.le_of_ble_eq_true rfl⟩) hD hS hA (fun w1 H locs hw hP hD hS => ?_)
  subst hw
  refine lv_aload_n hx hb dX11_init_334 rfl (lv_at hl 0 rfl) ?_
  refine q_get (v := .ref (a 9)) C inX11_init_X11 hK hP 0 rfl rfl 9 (by decide) rfl LX11_init_34 rfl dX11_init_335 ?_
  refine lv_iconst (v := 0) hx hb dX11_init_338 (by decide) ?_
  refine lv_bipush (v := 119) hx hb dX11_init_339 (by decide) ?_
  refine lv_bipush (v := 97) hx hb dX11_init_341 (by decide) ?_
  refine lv_bipush (v := 118) hx hb dX11_init_343 (by decide) ?_
  refine lv_bipush (v := 101) hx hb dX11_init_345 (by decide) ?_
  refine lv_iconst (v := 0) hx hb dX11_init_347 (by decide) ?_
  refine lv_iconst (v := 0) hx hb dX11_init_348 (by decide) ?_
  refine lv_iconst (v := 0) hx hb dX11_init_349 (by decide) ?_
  obtain ⟨q_, hc, hB⟩ := bindP_inv hB
  refine q_gol0 (va_runS (As := [.int 119, .int 97, .int 118, .int 101, .int 0, .int 0, .int 0]) (rest := [.int 0, .ref (a 9)]) C (cr_word hc _) (va_cwS 7 hts gX11_init_X11_word rfl rfl rfl (by decide +kernel) ⟨Nat.le_of_ble_eq_true rfl, Nat.le_of_ble_eq_true rfl⟩) (q_pre0 hN hK) rfl rfl hl.1 rfl (lv_room (Nat.le_of_ble_eq_true rfl)) dX11_init_350 ⟨Nat.le_of_ble_eq_true rfl, Nat.le_of_ble_eq_true rfl⟩) hP hD hS hA (fun r3 w1 H locs hw hP hS => ?_)
  subst hw
  obtain ⟨s4, hs5, hB⟩ := letS_inv hB
  refine q_last (f2 := (vp_updL (s2.g 9) 0 r3)) (w2 := (mwS cB cI cJ cZ h a s4)) C hK hP hD hS 7 2 rfl rfl (vp_lit (by decide +kernel)) dX11_init_353 rfl (mwS_f9 hs5) (fun H locs hP hD hS => ?_)
  refine lv_aload_n hx hb dX11_init_354 rfl (lv_at hl 0 rfl) ?_
  refine q_get (v := .ref (a 9)) C inX11_init_X11 hK hP 0 rfl rfl 9 (by decide) rfl LX11_init_34 rfl dX11_init_355 ?_
  refine lv_iconst (v := 1) hx hb dX11_init_358 (by decide) ?_
  refine lv_bipush (v := 112) hx hb dX11_init_359 (by decide) ?_
  refine lv_bipush (v := 97) hx hb dX11_init_361 (by decide) ?_
  refine lv_bipush (v := 114) hx hb dX11_init_363 (by decide) ?_
  refine lv_bipush (v := 116) hx hb dX11_init_365 (by decide) ?_
  refine lv_bipush (v := 121) hx hb dX11_init_367 (by decide) ?_
  refine lv_iconst (v := 0) hx hb dX11_init_369 (by decide) ?_
  refine lv_iconst (v := 0) hx hb dX11_init_370 (by decide) ?_
  obtain ⟨q_, hc, hB⟩ := bindP_inv hB
  refine q_gol0 (va_runS (As := [.int 112, .int 97, .int 114, .int 116, .int 121, .int 0, .int 0]) (rest := [.int 1, .ref (a 9)]) C (cr_word hc _) (va_cwS 7 hts gX11_init_X11_word rfl rfl rfl (by decide +kernel) ⟨Nat.le_of_ble_eq_true rfl, Nat.le_of_ble_eq_true rfl⟩) (q_pre0 hN hK) rfl rfl hl.1 rfl (lv_room (Nat.le_of_ble_eq_true rfl)) dX11_init_371 ⟨Nat.le_of_ble_eq_true rfl, Nat.le_of_ble_eq_true rfl⟩) hP hD hS hA (fun r6 w1 H locs hw hP hS => ?_)
  subst hw
  obtain ⟨s7, hs8, hB⟩ := letS_inv hB
  refine q_last (f2 := (vp_updL (s4.g 9) 1 r6)) (w2 := (mwS cB cI cJ cZ h a s7)) C hK hP hD hS 7 2 rfl rfl (vp_lit (by decide +kernel)) dX11_init_374 rfl (mwS_f9 hs8) (fun H locs hP hD hS => ?_)
  refine lv_aload_n hx hb dX11_init_375 rfl (lv_at hl 0 rfl) ?_
  refine q_get (v := .ref (a 9)) C inX11_init_X11 hK hP 0 rfl rfl 9 (by decide) rfl LX11_init_34 rfl dX11_init_376 ?_
  refine lv_iconst (v := 2) hx hb dX11_init_379 (by decide) ?_
  refine lv_bipush (v := 110) hx hb dX11_init_380 (by decide) ?_
  refine lv_bipush (v := 101) hx hb dX11_init_382 (by decide) ?_
  refine lv_bipush (v := 101) hx hb dX11_init_384 (by decide) ?_
  refine lv_bipush (v := 100) hx hb dX11_init_386 (by decide) ?_
  refine lv_bipush (v := 115) hx hb dX11_init_388 (by decide) ?_
  refine lv_iconst (v := 0) hx hb dX11_init_390 (by decide) ?_
  refine lv_iconst (v := 0) hx hb dX11_init_391 (by decide) ?_
  obtain ⟨q_, hc, hB⟩ := bindP_inv hB
  refine q_gol0 (va_runS (As := [.int 110, .int 101, .int 101, .int 100, .int 115, .int 0, .int 0]) (rest := [.int 2, .ref (a 9)]) C (cr_word hc _) (va_cwS 7 hts gX11_init_X11_word rfl rfl rfl (by decide +kernel) ⟨Nat.le_of_ble_eq_true rfl, Nat.le_of_ble_eq_true rfl⟩) (q_pre0 hN hK) rfl rfl hl.1 rfl (lv_room (Nat.le_of_ble_eq_true rfl)) dX11_init_392 ⟨Nat.le_of_ble_eq_true rfl, Nat.le_of_ble_eq_true rfl⟩) hP hD hS hA (fun r9 w1 H locs hw hP hS => ?_)
  subst hw
  obtain ⟨s10, hs11, hB⟩ := letS_inv hB
  refine q_last (f2 := (vp_updL (s7.g 9) 2 r9)) (w2 := (mwS cB cI cJ cZ h a s10)) C hK hP hD hS 7 2 rfl rfl (vp_lit (by decide +kernel)) dX11_init_395 rfl (mwS_f9 hs11) (fun H locs hP hD hS => ?_)
  refine lv_aload_n hx hb dX11_init_396 rfl (lv_at hl 0 rfl) ?_
  refine q_get (v := .ref (a 9)) C inX11_init_X11 hK hP 0 rfl rfl 9 (by decide) rfl LX11_init_34 rfl dX11_init_397 ?_
  refine lv_iconst (v := 3) hx hb dX11_init_400 (by decide) ?_
  refine lv_bipush (v := 102) hx hb dX11_init_401 (by decide) ?_
  refine lv_bipush (v := 97) hx hb dX11_init_403 (by decide) ?_
  refine lv_bipush (v := 114) hx hb dX11_init_405 (by decide) ?_
  refine lv_bipush (v := 101) hx hb dX11_init_407 (by decide) ?_
  refine lv_bipush (v := 115) hx hb dX11_init_409 (by decide) ?_
  refine lv_iconst (v := 0) hx hb dX11_init_411 (by decide) ?_
  refine lv_iconst (v := 0) hx hb dX11_init_412 (by decide) ?_
  obtain ⟨q_, hc, hB⟩ := bindP_inv hB
  refine q_gol0 (va_runS (As := [.int 102, .int 97, .int 114, .int 101, .int 115, .int 0, .int 0]) (rest := [.int 3, .ref (a 9)]) C (cr_word hc _) (va_cwS 7 hts gX11_init_X11_word rfl rfl rfl (by decide +kernel) ⟨Nat.le_of_ble_eq_true rfl, Nat.le_of_ble_eq_true rfl⟩) (q_pre0 hN hK) rfl rfl hl.1 rfl (lv_room (Nat.le_of_ble_eq_true rfl)) dX11_init_413 ⟨Nat.le_of_ble_eq_true rfl, Nat.le_of_ble_eq_true rfl⟩) hP hD hS hA (fun r12 w1 H locs hw hP hS => ?_)
  subst hw
  obtain ⟨s13, hs14, hB⟩ := letS_inv hB
  refine q_last (f2 := (vp_updL (s10.g 9) 3 r12)) (w2 := (mwS cB cI cJ cZ h a s13)) C hK hP hD hS 7 2 rfl rfl (vp_lit (by decide +kernel)) dX11_init_416 rfl (mwS_f9 hs14) (fun H locs hP hD hS => ?_)
  refine lv_aload_n hx hb dX11_init_417 rfl (lv_at hl 0 rfl) ?_
  refine q_get (v := .ref (a 9)) C inX11_init_X11 hK hP 0 rfl rfl 9 (by decide) rfl LX11_init_34 rfl dX11_init_418 ?_
  refine lv_iconst (v := 4) hx hb dX11_init_421 (by decide) ?_
  refine lv_bipush (v := 100) hx hb dX11_init_422 (by decide) ?_
  refine lv_bipush (v := 97) hx hb dX11_init_424 (by decide) ?_
  refine lv_bipush (v := 114) hx hb dX11_init_426 (by decide) ?_
  refine lv_bipush (v := 101) hx hb dX11_init_428 (by decide) ?_
  refine lv_bipush (v := 115) hx hb dX11_init_430 (by decide) ?_
  refine lv_iconst (v := 0) hx hb dX11_init_432 (by decide) ?_
  refine lv_iconst (v := 0) hx hb dX11_init_433 (by decide) ?_
  obtain ⟨q_, hc, hB⟩ := bindP_inv hB
  refine q_gol0 (va_runS (As := [.int 100, .int 97, .int 114, .int 101, .int 115, .int 0, .int 0]) (rest := [.int 4, .ref (a 9)]) C (cr_word hc _) (va_cwS 7 hts gX11_init_X11_word rfl rfl rfl (by decide +kernel) ⟨Nat.le_of_ble_eq_true rfl, Nat.le_of_ble_eq_true rfl⟩) (q_pre0 hN hK) rfl rfl hl.1 rfl (lv_room (Nat.le_of_ble_eq_true rfl)) dX11_init_434 ⟨Nat.le_of_ble_eq_true rfl, Nat.le_of_ble_eq_true rfl⟩) hP hD hS hA (fun r15 w1 H locs hw hP hS => ?_)
  subst hw
  obtain ⟨s16, hs17, hB⟩ := letS_inv hB
  refine q_last (f2 := (vp_updL (s13.g 9) 4 r15)) (w2 := (mwS cB cI cJ cZ h a s16)) C hK hP hD hS 7 2 rfl rfl (vp_lit (by decide +kernel)) dX11_init_437 rfl (mwS_f9 hs17) (fun H locs hP hD hS => ?_)
  refine lv_aload_n hx hb dX11_init_438 rfl (lv_at hl 0 rfl) ?_
  refine q_get (v := .ref (a 9)) C inX11_init_X11 hK hP 0 rfl rfl 9 (by decide) rfl LX11_init_34 rfl dX11_init_439 ?_
  refine lv_iconst (v := 5) hx hb dX11_init_442 (by decide) ?_
  refine lv_bipush (v := 115) hx hb dX11_init_443 (by decide) ?_
  refine lv_bipush (v := 104) hx hb dX11_init_445 (by decide) ?_
  refine lv_bipush (v := 105) hx hb dX11_init_447 (by decide) ?_
  refine lv_bipush (v := 102) hx hb dX11_init_449 (by decide) ?_
  refine lv_bipush (v := 116) hx hb dX11_init_451 (by decide) ?_
  refine lv_bipush (v := 115) hx hb dX11_init_453 (by decide) ?_
  refine lv_iconst (v := 0) hx hb dX11_init_455 (by decide) ?_
  obtain ⟨q_, hc, hB⟩ := bindP_inv hB
  refine q_gol0 (va_runS (As := [.int 115, .int 104, .int 105, .int 102, .int 116, .int 115, .int 0]) (rest := [.int 5, .ref (a 9)]) C (cr_word hc _) (va_cwS 7 hts gX11_init_X11_word rfl rfl rfl (by decide +kernel) ⟨Nat.le_of_ble_eq_true rfl, Nat.le_of_ble_eq_true rfl⟩) (q_pre0 hN hK) rfl rfl hl.1 rfl (lv_room (Nat.le_of_ble_eq_true rfl)) dX11_init_456 ⟨Nat.le_of_ble_eq_true rfl, Nat.le_of_ble_eq_true rfl⟩) hP hD hS hA (fun r18 w1 H locs hw hP hS => ?_)
  subst hw
  obtain ⟨s19, hs20, hB⟩ := letS_inv hB
  refine q_last (f2 := (vp_updL (s16.g 9) 5 r18)) (w2 := (mwS cB cI cJ cZ h a s19)) C hK hP hD hS 7 2 rfl rfl (vp_lit (by decide +kernel)) dX11_init_459 rfl (mwS_f9 hs20) (fun H locs hP hD hS => ?_)
  refine lv_aload_n hx hb dX11_init_460 rfl (lv_at hl 0 rfl) ?_
  refine q_get (v := .ref (a 9)) C inX11_init_X11 hK hP 0 rfl rfl 9 (by decide) rfl LX11_init_34 rfl dX11_init_461 ?_
  refine lv_bipush (v := 6) hx hb dX11_init_464 (by decide) ?_
  refine lv_bipush (v := 115) hx hb dX11_init_466 (by decide) ?_
  refine lv_bipush (v := 101) hx hb dX11_init_468 (by decide) ?_
  refine lv_bipush (v := 101) hx hb dX11_init_470 (by decide) ?_
  refine lv_bipush (v := 100) hx hb dX11_init_472 (by decide) ?_
  refine lv_iconst (v := 0) hx hb dX11_init_474 (by decide) ?_
  refine lv_iconst (v := 0) hx hb dX11_init_475 (by decide) ?_
  refine lv_iconst (v := 0) hx hb dX11_init_476 (by decide) ?_
  obtain ⟨q_, hc, hB⟩ := bindP_inv hB
  refine q_gol0 (va_runS (As := [.int 115, .int 101, .int 101, .int 100, .int 0, .int 0, .int 0]) (rest := [.int 6, .ref (a 9)]) C (cr_word hc _) (va_cwS 7 hts gX11_init_X11_word rfl rfl rfl (by decide +kernel) ⟨Nat.le_of_ble_eq_true rfl, Nat.le_of_ble_eq_true rfl⟩) (q_pre0 hN hK) rfl rfl hl.1 rfl (lv_room (Nat.le_of_ble_eq_true rfl)) dX11_init_477 ⟨Nat.le_of_ble_eq_true rfl, Nat.le_of_ble_eq_true rfl⟩) hP hD hS hA (fun r21 w1 H locs hw hP hS => ?_)
  subst hw
  obtain ⟨s22, hs23, hB⟩ := letS_inv hB
  refine q_last (f2 := (vp_updL (s19.g 9) 6 r21)) (w2 := (mwS cB cI cJ cZ h a s22)) C hK hP hD hS 7 2 rfl rfl (vp_lit (by decide +kernel)) dX11_init_480 rfl (mwS_f9 hs23) (fun H locs hP hD hS => ?_)
  exact mb_1 l dC dI cB cI cJ cZ cS h C hr hlocks hnm hA hK hN a _ _ hB hI hG h2 H locs ls hP hD hS hl
end
section
theorem dX11_init_252 : decode cX11_init 252 = .ok (.aload_n 0, 1) := dc1_42 (by decide +kernel)
theorem dX11_init_253 : decode cX11_init 253 = .ok (.iconst 5, 1) := dc1_8 (by decide +kernel)
theorem dX11_init_254 : decode cX11_init 254 = .ok (.newarray .boolean, 2) := by decide +kernel
theorem dX11_init_256 : decode cX11_init 256 = .ok (.putfield 107, 3) := dcw_181 (by decide +kernel)
theorem dX11_init_259 : decode cX11_init 259 = .ok (.aload_n 0, 1) := dc1_42 (by decide +kernel)
theorem dX11_init_260 : decode cX11_init 260 = .ok (.sipush 1160, 3) := dcs_17 (n := 1160) (by decide +kernel)
theorem dX11_init_263 : decode cX11_init 263 = .ok (.newarray .int, 2) := by decide +kernel
theorem dX11_init_265 : decode cX11_init 265 = .ok (.putfield 110, 3) := dcw_181 (by decide +kernel)
theorem dX11_init_268 : decode cX11_init 268 = .ok (.aload_n 0, 1) := dc1_42 (by decide +kernel)
theorem dX11_init_269 : decode cX11_init 269 = .ok (.sipush 7776, 3) := dcs_17 (n := 7776) (by decide +kernel)
theorem dX11_init_272 : decode cX11_init 272 = .ok (.newarray .int, 2) := by decide +kernel
theorem dX11_init_274 : decode cX11_init 274 = .ok (.putfield 113, 3) := dcw_181 (by decide +kernel)
theorem dX11_init_277 : decode cX11_init 277 = .ok (.aload_n 0, 1) := dc1_42 (by decide +kernel)
theorem dX11_init_278 : decode cX11_init 278 = .ok (.bipush 20, 2) := dcb_16 (n := 20) (by decide +kernel)
theorem dX11_init_280 : decode cX11_init 280 = .ok (.newarray .int, 2) := by decide +kernel
theorem dX11_init_282 : decode cX11_init 282 = .ok (.putfield 116, 3) := dcw_181 (by decide +kernel)
theorem dX11_init_285 : decode cX11_init 285 = .ok (.aload_n 0, 1) := dc1_42 (by decide +kernel)
theorem dX11_init_286 : decode cX11_init 286 = .ok (.bipush 20, 2) := dcb_16 (n := 20) (by decide +kernel)
theorem dX11_init_288 : decode cX11_init 288 = .ok (.newarray .int, 2) := by decide +kernel
theorem dX11_init_290 : decode cX11_init 290 = .ok (.putfield 119, 3) := dcw_181 (by decide +kernel)
theorem dX11_init_293 : decode cX11_init 293 = .ok (.aload_n 0, 1) := dc1_42 (by decide +kernel)
theorem dX11_init_294 : decode cX11_init 294 = .ok (.bipush 20, 2) := dcb_16 (n := 20) (by decide +kernel)
theorem dX11_init_296 : decode cX11_init 296 = .ok (.newarray .boolean, 2) := by decide +kernel
theorem dX11_init_298 : decode cX11_init 298 = .ok (.putfield 122, 3) := dcw_181 (by decide +kernel)
theorem dX11_init_301 : decode cX11_init 301 = .ok (.aload_n 0, 1) := dc1_42 (by decide +kernel)
theorem dX11_init_302 : decode cX11_init 302 = .ok (.bipush 30, 2) := dcb_16 (n := 30) (by decide +kernel)
theorem dX11_init_304 : decode cX11_init 304 = .ok (.newarray .int, 2) := by decide +kernel
theorem dX11_init_306 : decode cX11_init 306 = .ok (.putfield 125, 3) := dcw_181 (by decide +kernel)
theorem dX11_init_309 : decode cX11_init 309 = .ok (.aload_n 0, 1) := dc1_42 (by decide +kernel)
theorem dX11_init_310 : decode cX11_init 310 = .ok (.iconst 3, 1) := dc1_6 (by decide +kernel)
theorem dX11_init_311 : decode cX11_init 311 = .ok (.newarray .boolean, 2) := by decide +kernel
theorem dX11_init_313 : decode cX11_init 313 = .ok (.putfield 128, 3) := dcw_181 (by decide +kernel)
theorem dX11_init_316 : decode cX11_init 316 = .ok (.aload_n 0, 1) := dc1_42 (by decide +kernel)
theorem dX11_init_317 : decode cX11_init 317 = .ok (.bipush 87, 2) := dcb_16 (n := 87) (by decide +kernel)
theorem dX11_init_319 : decode cX11_init 319 = .ok (.newarray .int, 2) := by decide +kernel
theorem dX11_init_321 : decode cX11_init 321 = .ok (.putfield 131, 3) := dcw_181 (by decide +kernel)
set_option maxHeartbeats 4000000 in
set_option maxRecDepth 100000 in
theorem mi_6 (l : Launch) (dC : Nat → ClassId) (dI : Nat → Nat → Nat) (cB cI cJ cZ cS : ClassId) (h : Nat) {p : Program} {e : Env} {s : State} {m : MethodId} {below : List Frame} {meth : Method} {c : Code} {A : Nat → Prop} (C : CallFix p m c cX11_init 1 s [Value.ref h].toArray wsX11_init yX11_init.cls) (hr : meth.sig.returnType = none) (hlocks : meth.locks = false) (hnm : meth.name = yX11_init.name) (hA : ∀ q, s.heap.size ≤ q → A q) (hK : va_K (dC, dI) vwCl (tysA cB cI cJ cZ cS) s) (hN : nw_ok s) (q_r1 : Nat) (q_r3 : Nat) (q_r5 : Nat) (q_r6 : Nat) (q_r7 : Nat) (q_r8 : Nat) (q_r9 : Nat) (q_r20 : Nat) (q_r21 : Nat) (q_r22 : Nat) (q_r23 : Nat) (q_r24 : Nat) (q_r25 : Nat) (q_r26 : Nat) (q_r27 : Nat) (q_r28 : Nat) (q_r30 : Nat) (q_r31 : Nat) (q_r32 : Nat) (q_r33 : Nat) (q_r34 : Nat) (q_r36 : Nat) (q_r37 : Nat) (q_r38 : Nat) (q_r40 : Nat) (q_r41 : Nat) (q_r43 : Nat) (q_r44 : Nat) (q_r46 : Nat) (q_r47 : Nat) (q_r49 : Nat) (q_r50 : Nat) (q_r52 : Nat) (q_r53 : Nat) (q_r54 : Nat) (H : Heap) (locs : List Loc) (ls : Array Slot) (hP : va_P (dC, dI) vwCl [(h, .inr (11, [.int 0, .ref q_r1, .int 0, .ref q_r3, .int 0, .ref q_r5, .ref q_r6, .ref q_r7, .ref q_r8, .ref q_r9, .int 0, .int 0, .int 0, .int 0, .int 0, .int 0, .int 0, .int (-1), .int 0, .int 0, .ref q_r20, .ref q_r21, .ref q_r22, .ref q_r23, .ref q_r24, .ref q_r25, .ref q_r26, .ref q_r27, .ref q_r28, .int 0, .ref q_r30, .ref q_r31, .ref q_r32, .ref q_r33, .ref q_r34, .int 0, .ref q_r36, .ref q_r37, .ref q_r38, .int 0, .ref q_r40, .ref q_r41, .int 0, .ref q_r43, .ref q_r44, .int 0, .ref q_r46, .ref q_r47, .int 0, .ref q_r49, .ref q_r50, .int 0, .ref q_r52, .ref q_r53, .ref q_r54, .null, .null, .null])), (q_r1, .inl (cB, 2000, .inl (fun _ => 0))), (q_r3, .inl (cB, 2000, .inl (fun _ => 0))), (q_r5, .inl (cI, 403, .inl (fun _ => 0))), (q_r6, .inl (cI, 403, .inl (fun _ => 0))), (q_r7, .inl (cI, 403, .inl (fun _ => 0))), (q_r8, .inl (cJ, 403, .inr (.inl (fun _ => 0)))), (q_r9, .inl (cJ, 19, .inr (.inl (fun _ => 0)))), (q_r20, .inl (cI, 2, .inl (fun _ => 0))), (q_r21, .inl (cI, 60, .inl (fun _ => 0))), (q_r22, .inl (cJ, 6, .inr (.inl (fun _ => 0)))), (q_r23, .inl (cI, 2, .inl (fun _ => 0))), (q_r24, .inl (cI, 12, .inl (fun _ => 0))), (q_r25, .inl (cI, 12, .inl (fun _ => 0))), (q_r26, .inl (cI, 2, .inl (fun _ => 0))), (q_r27, .inl (cI, 8, .inl (fun _ => 0))), (q_r28, .inl (cI, 8, .inl (fun _ => 0))), (q_r30, .inl (cZ, 260, .inl (fun _ => 0))), (q_r31, .inl (cI, 260, .inl (fun _ => 0))), (q_r32, .inl (cI, 260, .inl (fun _ => 0))), (q_r33, .inl (cI, 260, .inl (fun _ => 0))), (q_r34, .inl (cI, 260, .inl (fun _ => 0))), (q_r36, .inl (cI, 840, .inl (fun _ => 0))), (q_r37, .inl (cI, 840, .inl (fun _ => 0))), (q_r38, .inl (cI, 64, .inl (fun _ => 0))), (q_r40, .inl (cI, 9, .inl (fun _ => 0))), (q_r41, .inl (cI, 400, .inl (fun _ => 0))), (q_r43, .inl (cI, 29, .inl (fun _ => 0))), (q_r44, .inl (cI, 29, .inl (fun _ => 0))), (q_r46, .inl (cI, 6, .inl (fun _ => 0))), (q_r47, .inl (cZ, 5, .inl (fun _ => 0))), (q_r49, .inl (cI, 1160, .inl (fun _ => 0))), (q_r50, .inl (cI, 7776, .inl (fun _ => 0))), (q_r52, .inl (cI, 20, .inl (fun _ => 0))), (q_r53, .inl (cI, 20, .inl (fun _ => 0))), (q_r54, .inl (cZ, 20, .inl (fun _ => 0)))] H) (hD : va_D A [(h, .inr (11, [.int 0, .ref q_r1, .int 0, .ref q_r3, .int 0, .ref q_r5, .ref q_r6, .ref q_r7, .ref q_r8, .ref q_r9, .int 0, .int 0, .int 0, .int 0, .int 0, .int 0, .int 0, .int (-1), .int 0, .int 0, .ref q_r20, .ref q_r21, .ref q_r22, .ref q_r23, .ref q_r24, .ref q_r25, .ref q_r26, .ref q_r27, .ref q_r28, .int 0, .ref q_r30, .ref q_r31, .ref q_r32, .ref q_r33, .ref q_r34, .int 0, .ref q_r36, .ref q_r37, .ref q_r38, .int 0, .ref q_r40, .ref q_r41, .int 0, .ref q_r43, .ref q_r44, .int 0, .ref q_r46, .ref q_r47, .int 0, .ref q_r49, .ref q_r50, .int 0, .ref q_r52, .ref q_r53, .ref q_r54, .null, .null, .null])), (q_r1, .inl (cB, 2000, .inl (fun _ => 0))), (q_r3, .inl (cB, 2000, .inl (fun _ => 0))), (q_r5, .inl (cI, 403, .inl (fun _ => 0))), (q_r6, .inl (cI, 403, .inl (fun _ => 0))), (q_r7, .inl (cI, 403, .inl (fun _ => 0))), (q_r8, .inl (cJ, 403, .inr (.inl (fun _ => 0)))), (q_r9, .inl (cJ, 19, .inr (.inl (fun _ => 0)))), (q_r20, .inl (cI, 2, .inl (fun _ => 0))), (q_r21, .inl (cI, 60, .inl (fun _ => 0))), (q_r22, .inl (cJ, 6, .inr (.inl (fun _ => 0)))), (q_r23, .inl (cI, 2, .inl (fun _ => 0))), (q_r24, .inl (cI, 12, .inl (fun _ => 0))), (q_r25, .inl (cI, 12, .inl (fun _ => 0))), (q_r26, .inl (cI, 2, .inl (fun _ => 0))), (q_r27, .inl (cI, 8, .inl (fun _ => 0))), (q_r28, .inl (cI, 8, .inl (fun _ => 0))), (q_r30, .inl (cZ, 260, .inl (fun _ => 0))), (q_r31, .inl (cI, 260, .inl (fun _ => 0))), (q_r32, .inl (cI, 260, .inl (fun _ => 0))), (q_r33, .inl (cI, 260, .inl (fun _ => 0))), (q_r34, .inl (cI, 260, .inl (fun _ => 0))), (q_r36, .inl (cI, 840, .inl (fun _ => 0))), (q_r37, .inl (cI, 840, .inl (fun _ => 0))), (q_r38, .inl (cI, 64, .inl (fun _ => 0))), (q_r40, .inl (cI, 9, .inl (fun _ => 0))), (q_r41, .inl (cI, 400, .inl (fun _ => 0))), (q_r43, .inl (cI, 29, .inl (fun _ => 0))), (q_r44, .inl (cI, 29, .inl (fun _ => 0))), (q_r46, .inl (cI, 6, .inl (fun _ => 0))), (q_r47, .inl (cZ, 5, .inl (fun _ => 0))), (q_r49, .inl (cI, 1160, .inl (fun _ => 0))), (q_r50, .inl (cI, 7776, .inl (fun _ => 0))), (q_r52, .inl (cI, 20, .inl (fun _ => 0))), (q_r53, .inl (cI, 20, .inl (fun _ => 0))), (q_r54, .inl (cZ, 20, .inl (fun _ => 0)))]) (hS : va_S A s.heap H locs) (hl : lv_has ls 1 [(0, .ref h)]) : W p l e ({ frames := 2, cells := 38, slots := 18381, locals := 48 }) s m [Value.ref h].toArray below meth c H locs 35 18261 (MQ below (va_Qv (fun w => ∃ (a : Nat → Nat) (s9 : RS), InvR s9 ∧ Big s9 ∧ RIR s9 ∧ w = mwS cB cI cJ cZ h a s9) (at_W (dC, dI) (tysA cB cI cJ cZ cS) A) A) [Value.ref h].toArray s 38 18381 A) (F0 m 301 ls []) := by
  obtain ⟨hx, hb, hml, hown, hts⟩ := id C
  have inX11 : ∀ w ∈ u_ws RX11 TX11 58, w ∈ wsX11_init := fun w h => (List.mem_cons_of_mem _ (List.mem_append_right _ h))
  have ACI : Cond.arrayClass .int ∈ wsX11_init := (List.mem_cons_of_mem _ (List.mem_append_left _ (List.mem_append_left _ (List.mem_of_getElem? (i := 6) rfl))))
  have ACZ : Cond.arrayClass .boolean ∈ wsX11_init := (List.mem_cons_of_mem _ (List.mem_append_left _ (List.mem_append_left _ (List.mem_of_getElem? (i := 18) rfl))))
  have L125 : Cond.fieldLink RX11 125 "GuessFerryModel" "fitBy" "[I" ∈ wsX11_init := (List.mem_cons_of_mem _ (List.mem_append_left _ (List.mem_append_left _ (List.mem_of_getElem? (i := 35) rfl))))
  have L128 : Cond.fieldLink RX11 128 "GuessFerryModel" "isHeld" "[Z" ∈ wsX11_init := (List.mem_cons_of_mem _ (List.mem_append_left _ (List.mem_append_left _ (List.mem_of_getElem? (i := 36) rfl))))
  have L131 : Cond.fieldLink RX11 131 "GuessFerryModel" "heldRows" "[I" ∈ wsX11_init := (List.mem_cons_of_mem _ (List.mem_append_left _ (List.mem_append_left _ (List.mem_of_getElem? (i := 37) rfl))))
  refine lv_aload_n hx hb dX11_init_301 rfl (lv_at hl 0 rfl) ?_
  refine lv_bipush (v := 30) hx hb dX11_init_302 (by decide) ?_
  refine q_newa (atype := .int) (ty := .int) (N' := 30) (30, .inl (fun _ => 0)) C ACI rfl (fun _ => rfl) hK hP hD hS hA 1 rfl (fun _ => rfl) (by decide) (by decide +kernel) (by decide +kernel) (Nat.le_of_ble_eq_true rfl) (Nat.le_of_ble_eq_true rfl) dX11_init_304 (fun q_r55 H hP hD hS => ?_)
  refine q_putF (ty := .array .int) (w2 := [(h, .inr (11, [.int 0, .ref q_r1, .int 0, .ref q_r3, .int 0, .ref q_r5, .ref q_r6, .ref q_r7, .ref q_r8, .ref q_r9, .int 0, .int 0, .int 0, .int 0, .int 0, .int 0, .int 0, .int (-1), .int 0, .int 0, .ref q_r20, .ref q_r21, .ref q_r22, .ref q_r23, .ref q_r24, .ref q_r25, .ref q_r26, .ref q_r27, .ref q_r28, .int 0, .ref q_r30, .ref q_r31, .ref q_r32, .ref q_r33, .ref q_r34, .int 0, .ref q_r36, .ref q_r37, .ref q_r38, .int 0, .ref q_r40, .ref q_r41, .int 0, .ref q_r43, .ref q_r44, .int 0, .ref q_r46, .ref q_r47, .int 0, .ref q_r49, .ref q_r50, .int 0, .ref q_r52, .ref q_r53, .ref q_r54, .ref q_r55, .null, .null])), (q_r1, .inl (cB, 2000, .inl (fun _ => 0))), (q_r3, .inl (cB, 2000, .inl (fun _ => 0))), (q_r5, .inl (cI, 403, .inl (fun _ => 0))), (q_r6, .inl (cI, 403, .inl (fun _ => 0))), (q_r7, .inl (cI, 403, .inl (fun _ => 0))), (q_r8, .inl (cJ, 403, .inr (.inl (fun _ => 0)))), (q_r9, .inl (cJ, 19, .inr (.inl (fun _ => 0)))), (q_r20, .inl (cI, 2, .inl (fun _ => 0))), (q_r21, .inl (cI, 60, .inl (fun _ => 0))), (q_r22, .inl (cJ, 6, .inr (.inl (fun _ => 0)))), (q_r23, .inl (cI, 2, .inl (fun _ => 0))), (q_r24, .inl (cI, 12, .inl (fun _ => 0))), (q_r25, .inl (cI, 12, .inl (fun _ => 0))), (q_r26, .inl (cI, 2, .inl (fun _ => 0))), (q_r27, .inl (cI, 8, .inl (fun _ => 0))), (q_r28, .inl (cI, 8, .inl (fun _ => 0))), (q_r30, .inl (cZ, 260, .inl (fun _ => 0))), (q_r31, .inl (cI, 260, .inl (fun _ => 0))), (q_r32, .inl (cI, 260, .inl (fun _ => 0))), (q_r33, .inl (cI, 260, .inl (fun _ => 0))), (q_r34, .inl (cI, 260, .inl (fun _ => 0))), (q_r36, .inl (cI, 840, .inl (fun _ => 0))), (q_r37, .inl (cI, 840, .inl (fun _ => 0))), (q_r38, .inl (cI, 64, .inl (fun _ => 0))), (q_r40, .inl (cI, 9, .inl (fun _ => 0))), (q_r41, .inl (cI, 400, .inl (fun _ => 0))), (q_r43, .inl (cI, 29, .inl (fun _ => 0))), (q_r44, .inl (cI, 29, .inl (fun _ => 0))), (q_r46, .inl (cI, 6, .inl (fun _ => 0))), (q_r47, .inl (cZ, 5, .inl (fun _ => 0))), (q_r49, .inl (cI, 1160, .inl (fun _ => 0))), (q_r50, .inl (cI, 7776, .inl (fun _ => 0))), (q_r52, .inl (cI, 20, .inl (fun _ => 0))), (q_r53, .inl (cI, 20, .inl (fun _ => 0))), (q_r54, .inl (cZ, 20, .inl (fun _ => 0))), (q_r55, .inl (cI, 30, .inl (fun _ => 0)))]) tyX11 tyX11_ok nmX11 C inX11 hK hP hD hS 0 rfl rfl 55 (by decide) rfl rfl hnm L125 rfl (by decide +kernel) (rfl) rfl (Nat.le_of_ble_eq_true rfl) dX11_init_306 rfl (fun H locs hP hD hS => ?_)
  refine lv_aload_n hx hb dX11_init_309 rfl (lv_at hl 0 rfl) ?_
  refine lv_iconst (v := 3) hx hb dX11_init_310 (by decide) ?_
  refine q_newa (atype := .boolean) (ty := .boolean) (N' := 3) (3, .inl (fun _ => 0)) C ACZ rfl (fun _ => rfl) hK hP hD hS hA 3 rfl (fun _ => rfl) (by decide) (by decide +kernel) (by decide +kernel) (Nat.le_of_ble_eq_true rfl) (Nat.le_of_ble_eq_true rfl) dX11_init_311 (fun q_r56 H hP hD hS => ?_)
  refine q_putF (ty := .array .boolean) (w2 := [(h, .inr (11, [.int 0, .ref q_r1, .int 0, .ref q_r3, .int 0, .ref q_r5, .ref q_r6, .ref q_r7, .ref q_r8, .ref q_r9, .int 0, .int 0, .int 0, .int 0, .int 0, .int 0, .int 0, .int (-1), .int 0, .int 0, .ref q_r20, .ref q_r21, .ref q_r22, .ref q_r23, .ref q_r24, .ref q_r25, .ref q_r26, .ref q_r27, .ref q_r28, .int 0, .ref q_r30, .ref q_r31, .ref q_r32, .ref q_r33, .ref q_r34, .int 0, .ref q_r36, .ref q_r37, .ref q_r38, .int 0, .ref q_r40, .ref q_r41, .int 0, .ref q_r43, .ref q_r44, .int 0, .ref q_r46, .ref q_r47, .int 0, .ref q_r49, .ref q_r50, .int 0, .ref q_r52, .ref q_r53, .ref q_r54, .ref q_r55, .ref q_r56, .null])), (q_r1, .inl (cB, 2000, .inl (fun _ => 0))), (q_r3, .inl (cB, 2000, .inl (fun _ => 0))), (q_r5, .inl (cI, 403, .inl (fun _ => 0))), (q_r6, .inl (cI, 403, .inl (fun _ => 0))), (q_r7, .inl (cI, 403, .inl (fun _ => 0))), (q_r8, .inl (cJ, 403, .inr (.inl (fun _ => 0)))), (q_r9, .inl (cJ, 19, .inr (.inl (fun _ => 0)))), (q_r20, .inl (cI, 2, .inl (fun _ => 0))), (q_r21, .inl (cI, 60, .inl (fun _ => 0))), (q_r22, .inl (cJ, 6, .inr (.inl (fun _ => 0)))), (q_r23, .inl (cI, 2, .inl (fun _ => 0))), (q_r24, .inl (cI, 12, .inl (fun _ => 0))), (q_r25, .inl (cI, 12, .inl (fun _ => 0))), (q_r26, .inl (cI, 2, .inl (fun _ => 0))), (q_r27, .inl (cI, 8, .inl (fun _ => 0))), (q_r28, .inl (cI, 8, .inl (fun _ => 0))), (q_r30, .inl (cZ, 260, .inl (fun _ => 0))), (q_r31, .inl (cI, 260, .inl (fun _ => 0))), (q_r32, .inl (cI, 260, .inl (fun _ => 0))), (q_r33, .inl (cI, 260, .inl (fun _ => 0))), (q_r34, .inl (cI, 260, .inl (fun _ => 0))), (q_r36, .inl (cI, 840, .inl (fun _ => 0))), (q_r37, .inl (cI, 840, .inl (fun _ => 0))), (q_r38, .inl (cI, 64, .inl (fun _ => 0))), (q_r40, .inl (cI, 9, .inl (fun _ => 0))), (q_r41, .inl (cI, 400, .inl (fun _ => 0))), (q_r43, .inl (cI, 29, .inl (fun _ => 0))), (q_r44, .inl (cI, 29, .inl (fun _ => 0))), (q_r46, .inl (cI, 6, .inl (fun _ => 0))), (q_r47, .inl (cZ, 5, .inl (fun _ => 0))), (q_r49, .inl (cI, 1160, .inl (fun _ => 0))), (q_r50, .inl (cI, 7776, .inl (fun _ => 0))), (q_r52, .inl (cI, 20, .inl (fun _ => 0))), (q_r53, .inl (cI, 20, .inl (fun _ => 0))), (q_r54, .inl (cZ, 20, .inl (fun _ => 0))), (q_r55, .inl (cI, 30, .inl (fun _ => 0))), (q_r56, .inl (cZ, 3, .inl (fun _ => 0)))]) tyX11 tyX11_ok nmX11 C inX11 hK hP hD hS 0 rfl rfl 56 (by decide) rfl rfl hnm L128 rfl (by decide +kernel) (rfl) rfl (Nat.le_of_ble_eq_true rfl) dX11_init_313 rfl (fun H locs hP hD hS => ?_)
  refine lv_aload_n hx hb dX11_init_316 rfl (lv_at hl 0 rfl) ?_
  refine lv_bipush (v := 87) hx hb dX11_init_317 (by decide) ?_
  refine q_newa (atype := .int) (ty := .int) (N' := 87) (87, .inl (fun _ => 0)) C ACI rfl (fun _ => rfl) hK hP hD hS hA 1 rfl (fun _ => rfl) (by decide) (by decide +kernel) (by decide +kernel) (Nat.le_of_ble_eq_true rfl) (Nat.le_of_ble_eq_true rfl) dX11_init_319 (fun q_r57 H hP hD hS => ?_)
  refine q_putF (ty := .array .int) (w2 := [(h, .inr (11, [.int 0, .ref q_r1, .int 0, .ref q_r3, .int 0, .ref q_r5, .ref q_r6, .ref q_r7, .ref q_r8, .ref q_r9, .int 0, .int 0, .int 0, .int 0, .int 0, .int 0, .int 0, .int (-1), .int 0, .int 0, .ref q_r20, .ref q_r21, .ref q_r22, .ref q_r23, .ref q_r24, .ref q_r25, .ref q_r26, .ref q_r27, .ref q_r28, .int 0, .ref q_r30, .ref q_r31, .ref q_r32, .ref q_r33, .ref q_r34, .int 0, .ref q_r36, .ref q_r37, .ref q_r38, .int 0, .ref q_r40, .ref q_r41, .int 0, .ref q_r43, .ref q_r44, .int 0, .ref q_r46, .ref q_r47, .int 0, .ref q_r49, .ref q_r50, .int 0, .ref q_r52, .ref q_r53, .ref q_r54, .ref q_r55, .ref q_r56, .ref q_r57])), (q_r1, .inl (cB, 2000, .inl (fun _ => 0))), (q_r3, .inl (cB, 2000, .inl (fun _ => 0))), (q_r5, .inl (cI, 403, .inl (fun _ => 0))), (q_r6, .inl (cI, 403, .inl (fun _ => 0))), (q_r7, .inl (cI, 403, .inl (fun _ => 0))), (q_r8, .inl (cJ, 403, .inr (.inl (fun _ => 0)))), (q_r9, .inl (cJ, 19, .inr (.inl (fun _ => 0)))), (q_r20, .inl (cI, 2, .inl (fun _ => 0))), (q_r21, .inl (cI, 60, .inl (fun _ => 0))), (q_r22, .inl (cJ, 6, .inr (.inl (fun _ => 0)))), (q_r23, .inl (cI, 2, .inl (fun _ => 0))), (q_r24, .inl (cI, 12, .inl (fun _ => 0))), (q_r25, .inl (cI, 12, .inl (fun _ => 0))), (q_r26, .inl (cI, 2, .inl (fun _ => 0))), (q_r27, .inl (cI, 8, .inl (fun _ => 0))), (q_r28, .inl (cI, 8, .inl (fun _ => 0))), (q_r30, .inl (cZ, 260, .inl (fun _ => 0))), (q_r31, .inl (cI, 260, .inl (fun _ => 0))), (q_r32, .inl (cI, 260, .inl (fun _ => 0))), (q_r33, .inl (cI, 260, .inl (fun _ => 0))), (q_r34, .inl (cI, 260, .inl (fun _ => 0))), (q_r36, .inl (cI, 840, .inl (fun _ => 0))), (q_r37, .inl (cI, 840, .inl (fun _ => 0))), (q_r38, .inl (cI, 64, .inl (fun _ => 0))), (q_r40, .inl (cI, 9, .inl (fun _ => 0))), (q_r41, .inl (cI, 400, .inl (fun _ => 0))), (q_r43, .inl (cI, 29, .inl (fun _ => 0))), (q_r44, .inl (cI, 29, .inl (fun _ => 0))), (q_r46, .inl (cI, 6, .inl (fun _ => 0))), (q_r47, .inl (cZ, 5, .inl (fun _ => 0))), (q_r49, .inl (cI, 1160, .inl (fun _ => 0))), (q_r50, .inl (cI, 7776, .inl (fun _ => 0))), (q_r52, .inl (cI, 20, .inl (fun _ => 0))), (q_r53, .inl (cI, 20, .inl (fun _ => 0))), (q_r54, .inl (cZ, 20, .inl (fun _ => 0))), (q_r55, .inl (cI, 30, .inl (fun _ => 0))), (q_r56, .inl (cZ, 3, .inl (fun _ => 0))), (q_r57, .inl (cI, 87, .inl (fun _ => 0)))]) tyX11 tyX11_ok nmX11 C inX11 hK hP hD hS 0 rfl rfl 57 (by decide) rfl rfl hnm L131 rfl (by decide +kernel) (rfl) rfl (Nat.le_of_ble_eq_true rfl) dX11_init_321 rfl (fun H locs hP hD hS => ?_)
  obtain ⟨s', hB, hI, hG, h2⟩ := ok_r_init2
  exact mb_0 l dC dI cB cI cJ cZ cS h C hr hlocks hnm hA hK hN (fun k => [0, q_r1, 0, q_r3, 0, q_r5, q_r6, q_r7, q_r8, q_r9, 0, 0, 0, 0, 0, 0, 0, 0, 0, 0, q_r20, q_r21, q_r22, q_r23, q_r24, q_r25, q_r26, q_r27, q_r28, 0, q_r30, q_r31, q_r32, q_r33, q_r34, 0, q_r36, q_r37, q_r38, 0, q_r40, q_r41, 0, q_r43, q_r44, 0, q_r46, q_r47, 0, q_r49, q_r50, 0, q_r52, q_r53, q_r54, q_r55, q_r56, q_r57].getD k 0) rs0 s' hB hI hG h2 H locs ls hP hD hS hl

set_option maxHeartbeats 4000000 in
set_option maxRecDepth 100000 in
theorem mi_5 (l : Launch) (dC : Nat → ClassId) (dI : Nat → Nat → Nat) (cB cI cJ cZ cS : ClassId) (h : Nat) {p : Program} {e : Env} {s : State} {m : MethodId} {below : List Frame} {meth : Method} {c : Code} {A : Nat → Prop} (C : CallFix p m c cX11_init 1 s [Value.ref h].toArray wsX11_init yX11_init.cls) (hr : meth.sig.returnType = none) (hlocks : meth.locks = false) (hnm : meth.name = yX11_init.name) (hA : ∀ q, s.heap.size ≤ q → A q) (hK : va_K (dC, dI) vwCl (tysA cB cI cJ cZ cS) s) (hN : nw_ok s) (q_r1 : Nat) (q_r3 : Nat) (q_r5 : Nat) (q_r6 : Nat) (q_r7 : Nat) (q_r8 : Nat) (q_r9 : Nat) (q_r20 : Nat) (q_r21 : Nat) (q_r22 : Nat) (q_r23 : Nat) (q_r24 : Nat) (q_r25 : Nat) (q_r26 : Nat) (q_r27 : Nat) (q_r28 : Nat) (q_r30 : Nat) (q_r31 : Nat) (q_r32 : Nat) (q_r33 : Nat) (q_r34 : Nat) (q_r36 : Nat) (q_r37 : Nat) (q_r38 : Nat) (q_r40 : Nat) (q_r41 : Nat) (q_r43 : Nat) (q_r44 : Nat) (q_r46 : Nat) (H : Heap) (locs : List Loc) (ls : Array Slot) (hP : va_P (dC, dI) vwCl [(h, .inr (11, [.int 0, .ref q_r1, .int 0, .ref q_r3, .int 0, .ref q_r5, .ref q_r6, .ref q_r7, .ref q_r8, .ref q_r9, .int 0, .int 0, .int 0, .int 0, .int 0, .int 0, .int 0, .int (-1), .int 0, .int 0, .ref q_r20, .ref q_r21, .ref q_r22, .ref q_r23, .ref q_r24, .ref q_r25, .ref q_r26, .ref q_r27, .ref q_r28, .int 0, .ref q_r30, .ref q_r31, .ref q_r32, .ref q_r33, .ref q_r34, .int 0, .ref q_r36, .ref q_r37, .ref q_r38, .int 0, .ref q_r40, .ref q_r41, .int 0, .ref q_r43, .ref q_r44, .int 0, .ref q_r46, .null, .int 0, .null, .null, .int 0, .null, .null, .null, .null, .null, .null])), (q_r1, .inl (cB, 2000, .inl (fun _ => 0))), (q_r3, .inl (cB, 2000, .inl (fun _ => 0))), (q_r5, .inl (cI, 403, .inl (fun _ => 0))), (q_r6, .inl (cI, 403, .inl (fun _ => 0))), (q_r7, .inl (cI, 403, .inl (fun _ => 0))), (q_r8, .inl (cJ, 403, .inr (.inl (fun _ => 0)))), (q_r9, .inl (cJ, 19, .inr (.inl (fun _ => 0)))), (q_r20, .inl (cI, 2, .inl (fun _ => 0))), (q_r21, .inl (cI, 60, .inl (fun _ => 0))), (q_r22, .inl (cJ, 6, .inr (.inl (fun _ => 0)))), (q_r23, .inl (cI, 2, .inl (fun _ => 0))), (q_r24, .inl (cI, 12, .inl (fun _ => 0))), (q_r25, .inl (cI, 12, .inl (fun _ => 0))), (q_r26, .inl (cI, 2, .inl (fun _ => 0))), (q_r27, .inl (cI, 8, .inl (fun _ => 0))), (q_r28, .inl (cI, 8, .inl (fun _ => 0))), (q_r30, .inl (cZ, 260, .inl (fun _ => 0))), (q_r31, .inl (cI, 260, .inl (fun _ => 0))), (q_r32, .inl (cI, 260, .inl (fun _ => 0))), (q_r33, .inl (cI, 260, .inl (fun _ => 0))), (q_r34, .inl (cI, 260, .inl (fun _ => 0))), (q_r36, .inl (cI, 840, .inl (fun _ => 0))), (q_r37, .inl (cI, 840, .inl (fun _ => 0))), (q_r38, .inl (cI, 64, .inl (fun _ => 0))), (q_r40, .inl (cI, 9, .inl (fun _ => 0))), (q_r41, .inl (cI, 400, .inl (fun _ => 0))), (q_r43, .inl (cI, 29, .inl (fun _ => 0))), (q_r44, .inl (cI, 29, .inl (fun _ => 0))), (q_r46, .inl (cI, 6, .inl (fun _ => 0)))] H) (hD : va_D A [(h, .inr (11, [.int 0, .ref q_r1, .int 0, .ref q_r3, .int 0, .ref q_r5, .ref q_r6, .ref q_r7, .ref q_r8, .ref q_r9, .int 0, .int 0, .int 0, .int 0, .int 0, .int 0, .int 0, .int (-1), .int 0, .int 0, .ref q_r20, .ref q_r21, .ref q_r22, .ref q_r23, .ref q_r24, .ref q_r25, .ref q_r26, .ref q_r27, .ref q_r28, .int 0, .ref q_r30, .ref q_r31, .ref q_r32, .ref q_r33, .ref q_r34, .int 0, .ref q_r36, .ref q_r37, .ref q_r38, .int 0, .ref q_r40, .ref q_r41, .int 0, .ref q_r43, .ref q_r44, .int 0, .ref q_r46, .null, .int 0, .null, .null, .int 0, .null, .null, .null, .null, .null, .null])), (q_r1, .inl (cB, 2000, .inl (fun _ => 0))), (q_r3, .inl (cB, 2000, .inl (fun _ => 0))), (q_r5, .inl (cI, 403, .inl (fun _ => 0))), (q_r6, .inl (cI, 403, .inl (fun _ => 0))), (q_r7, .inl (cI, 403, .inl (fun _ => 0))), (q_r8, .inl (cJ, 403, .inr (.inl (fun _ => 0)))), (q_r9, .inl (cJ, 19, .inr (.inl (fun _ => 0)))), (q_r20, .inl (cI, 2, .inl (fun _ => 0))), (q_r21, .inl (cI, 60, .inl (fun _ => 0))), (q_r22, .inl (cJ, 6, .inr (.inl (fun _ => 0)))), (q_r23, .inl (cI, 2, .inl (fun _ => 0))), (q_r24, .inl (cI, 12, .inl (fun _ => 0))), (q_r25, .inl (cI, 12, .inl (fun _ => 0))), (q_r26, .inl (cI, 2, .inl (fun _ => 0))), (q_r27, .inl (cI, 8, .inl (fun _ => 0))), (q_r28, .inl (cI, 8, .inl (fun _ => 0))), (q_r30, .inl (cZ, 260, .inl (fun _ => 0))), (q_r31, .inl (cI, 260, .inl (fun _ => 0))), (q_r32, .inl (cI, 260, .inl (fun _ => 0))), (q_r33, .inl (cI, 260, .inl (fun _ => 0))), (q_r34, .inl (cI, 260, .inl (fun _ => 0))), (q_r36, .inl (cI, 840, .inl (fun _ => 0))), (q_r37, .inl (cI, 840, .inl (fun _ => 0))), (q_r38, .inl (cI, 64, .inl (fun _ => 0))), (q_r40, .inl (cI, 9, .inl (fun _ => 0))), (q_r41, .inl (cI, 400, .inl (fun _ => 0))), (q_r43, .inl (cI, 29, .inl (fun _ => 0))), (q_r44, .inl (cI, 29, .inl (fun _ => 0))), (q_r46, .inl (cI, 6, .inl (fun _ => 0)))]) (hS : va_S A s.heap H locs) (hl : lv_has ls 1 [(0, .ref h)]) : W p l e ({ frames := 2, cells := 38, slots := 18381, locals := 48 }) s m [Value.ref h].toArray below meth c H locs 29 9260 (MQ below (va_Qv (fun w => ∃ (a : Nat → Nat) (s9 : RS), InvR s9 ∧ Big s9 ∧ RIR s9 ∧ w = mwS cB cI cJ cZ h a s9) (at_W (dC, dI) (tysA cB cI cJ cZ cS) A) A) [Value.ref h].toArray s 38 18381 A) (F0 m 252 ls []) := by
  obtain ⟨hx, hb, hml, hown, hts⟩ := id C
  have inX11 : ∀ w ∈ u_ws RX11 TX11 58, w ∈ wsX11_init := fun w h => (List.mem_cons_of_mem _ (List.mem_append_right _ h))
  have ACI : Cond.arrayClass .int ∈ wsX11_init := (List.mem_cons_of_mem _ (List.mem_append_left _ (List.mem_append_left _ (List.mem_of_getElem? (i := 6) rfl))))
  have ACZ : Cond.arrayClass .boolean ∈ wsX11_init := (List.mem_cons_of_mem _ (List.mem_append_left _ (List.mem_append_left _ (List.mem_of_getElem? (i := 18) rfl))))
  have L107 : Cond.fieldLink RX11 107 "GuessFerryModel" "shiftsNow" "[Z" ∈ wsX11_init := (List.mem_cons_of_mem _ (List.mem_append_left _ (List.mem_append_left _ (List.mem_of_getElem? (i := 29) rfl))))
  have L110 : Cond.fieldLink RX11 110 "GuessFerryModel" "history" "[I" ∈ wsX11_init := (List.mem_cons_of_mem _ (List.mem_append_left _ (List.mem_append_left _ (List.mem_of_getElem? (i := 30) rfl))))
  have L113 : Cond.fieldLink RX11 113 "GuessFerryModel" "chanceBy" "[I" ∈ wsX11_init := (List.mem_cons_of_mem _ (List.mem_append_left _ (List.mem_append_left _ (List.mem_of_getElem? (i := 31) rfl))))
  have L116 : Cond.fieldLink RX11 116 "GuessFerryModel" "toldWave" "[I" ∈ wsX11_init := (List.mem_cons_of_mem _ (List.mem_append_left _ (List.mem_append_left _ (List.mem_of_getElem? (i := 32) rfl))))
  have L119 : Cond.fieldLink RX11 119 "GuessFerryModel" "toldThings" "[I" ∈ wsX11_init := (List.mem_cons_of_mem _ (List.mem_append_left _ (List.mem_append_left _ (List.mem_of_getElem? (i := 33) rfl))))
  have L122 : Cond.fieldLink RX11 122 "GuessFerryModel" "toldSo" "[Z" ∈ wsX11_init := (List.mem_cons_of_mem _ (List.mem_append_left _ (List.mem_append_left _ (List.mem_of_getElem? (i := 34) rfl))))
  refine lv_aload_n hx hb dX11_init_252 rfl (lv_at hl 0 rfl) ?_
  refine lv_iconst (v := 5) hx hb dX11_init_253 (by decide) ?_
  refine q_newa (atype := .boolean) (ty := .boolean) (N' := 5) (5, .inl (fun _ => 0)) C ACZ rfl (fun _ => rfl) hK hP hD hS hA 3 rfl (fun _ => rfl) (by decide) (by decide +kernel) (by decide +kernel) (Nat.le_of_ble_eq_true rfl) (Nat.le_of_ble_eq_true rfl) dX11_init_254 (fun q_r47 H hP hD hS => ?_)
  refine q_putF (ty := .array .boolean) (w2 := [(h, .inr (11, [.int 0, .ref q_r1, .int 0, .ref q_r3, .int 0, .ref q_r5, .ref q_r6, .ref q_r7, .ref q_r8, .ref q_r9, .int 0, .int 0, .int 0, .int 0, .int 0, .int 0, .int 0, .int (-1), .int 0, .int 0, .ref q_r20, .ref q_r21, .ref q_r22, .ref q_r23, .ref q_r24, .ref q_r25, .ref q_r26, .ref q_r27, .ref q_r28, .int 0, .ref q_r30, .ref q_r31, .ref q_r32, .ref q_r33, .ref q_r34, .int 0, .ref q_r36, .ref q_r37, .ref q_r38, .int 0, .ref q_r40, .ref q_r41, .int 0, .ref q_r43, .ref q_r44, .int 0, .ref q_r46, .ref q_r47, .int 0, .null, .null, .int 0, .null, .null, .null, .null, .null, .null])), (q_r1, .inl (cB, 2000, .inl (fun _ => 0))), (q_r3, .inl (cB, 2000, .inl (fun _ => 0))), (q_r5, .inl (cI, 403, .inl (fun _ => 0))), (q_r6, .inl (cI, 403, .inl (fun _ => 0))), (q_r7, .inl (cI, 403, .inl (fun _ => 0))), (q_r8, .inl (cJ, 403, .inr (.inl (fun _ => 0)))), (q_r9, .inl (cJ, 19, .inr (.inl (fun _ => 0)))), (q_r20, .inl (cI, 2, .inl (fun _ => 0))), (q_r21, .inl (cI, 60, .inl (fun _ => 0))), (q_r22, .inl (cJ, 6, .inr (.inl (fun _ => 0)))), (q_r23, .inl (cI, 2, .inl (fun _ => 0))), (q_r24, .inl (cI, 12, .inl (fun _ => 0))), (q_r25, .inl (cI, 12, .inl (fun _ => 0))), (q_r26, .inl (cI, 2, .inl (fun _ => 0))), (q_r27, .inl (cI, 8, .inl (fun _ => 0))), (q_r28, .inl (cI, 8, .inl (fun _ => 0))), (q_r30, .inl (cZ, 260, .inl (fun _ => 0))), (q_r31, .inl (cI, 260, .inl (fun _ => 0))), (q_r32, .inl (cI, 260, .inl (fun _ => 0))), (q_r33, .inl (cI, 260, .inl (fun _ => 0))), (q_r34, .inl (cI, 260, .inl (fun _ => 0))), (q_r36, .inl (cI, 840, .inl (fun _ => 0))), (q_r37, .inl (cI, 840, .inl (fun _ => 0))), (q_r38, .inl (cI, 64, .inl (fun _ => 0))), (q_r40, .inl (cI, 9, .inl (fun _ => 0))), (q_r41, .inl (cI, 400, .inl (fun _ => 0))), (q_r43, .inl (cI, 29, .inl (fun _ => 0))), (q_r44, .inl (cI, 29, .inl (fun _ => 0))), (q_r46, .inl (cI, 6, .inl (fun _ => 0))), (q_r47, .inl (cZ, 5, .inl (fun _ => 0)))]) tyX11 tyX11_ok nmX11 C inX11 hK hP hD hS 0 rfl rfl 47 (by decide) rfl rfl hnm L107 rfl (by decide +kernel) (rfl) rfl (Nat.le_of_ble_eq_true rfl) dX11_init_256 rfl (fun H locs hP hD hS => ?_)
  refine lv_aload_n hx hb dX11_init_259 rfl (lv_at hl 0 rfl) ?_
  refine lv_sipush (v := 1160) hx hb dX11_init_260 (by decide) ?_
  refine q_newa (atype := .int) (ty := .int) (N' := 1160) (1160, .inl (fun _ => 0)) C ACI rfl (fun _ => rfl) hK hP hD hS hA 1 rfl (fun _ => rfl) (by decide) (by decide +kernel) (by decide +kernel) (Nat.le_of_ble_eq_true rfl) (Nat.le_of_ble_eq_true rfl) dX11_init_263 (fun q_r49 H hP hD hS => ?_)
  refine q_putF (ty := .array .int) (w2 := [(h, .inr (11, [.int 0, .ref q_r1, .int 0, .ref q_r3, .int 0, .ref q_r5, .ref q_r6, .ref q_r7, .ref q_r8, .ref q_r9, .int 0, .int 0, .int 0, .int 0, .int 0, .int 0, .int 0, .int (-1), .int 0, .int 0, .ref q_r20, .ref q_r21, .ref q_r22, .ref q_r23, .ref q_r24, .ref q_r25, .ref q_r26, .ref q_r27, .ref q_r28, .int 0, .ref q_r30, .ref q_r31, .ref q_r32, .ref q_r33, .ref q_r34, .int 0, .ref q_r36, .ref q_r37, .ref q_r38, .int 0, .ref q_r40, .ref q_r41, .int 0, .ref q_r43, .ref q_r44, .int 0, .ref q_r46, .ref q_r47, .int 0, .ref q_r49, .null, .int 0, .null, .null, .null, .null, .null, .null])), (q_r1, .inl (cB, 2000, .inl (fun _ => 0))), (q_r3, .inl (cB, 2000, .inl (fun _ => 0))), (q_r5, .inl (cI, 403, .inl (fun _ => 0))), (q_r6, .inl (cI, 403, .inl (fun _ => 0))), (q_r7, .inl (cI, 403, .inl (fun _ => 0))), (q_r8, .inl (cJ, 403, .inr (.inl (fun _ => 0)))), (q_r9, .inl (cJ, 19, .inr (.inl (fun _ => 0)))), (q_r20, .inl (cI, 2, .inl (fun _ => 0))), (q_r21, .inl (cI, 60, .inl (fun _ => 0))), (q_r22, .inl (cJ, 6, .inr (.inl (fun _ => 0)))), (q_r23, .inl (cI, 2, .inl (fun _ => 0))), (q_r24, .inl (cI, 12, .inl (fun _ => 0))), (q_r25, .inl (cI, 12, .inl (fun _ => 0))), (q_r26, .inl (cI, 2, .inl (fun _ => 0))), (q_r27, .inl (cI, 8, .inl (fun _ => 0))), (q_r28, .inl (cI, 8, .inl (fun _ => 0))), (q_r30, .inl (cZ, 260, .inl (fun _ => 0))), (q_r31, .inl (cI, 260, .inl (fun _ => 0))), (q_r32, .inl (cI, 260, .inl (fun _ => 0))), (q_r33, .inl (cI, 260, .inl (fun _ => 0))), (q_r34, .inl (cI, 260, .inl (fun _ => 0))), (q_r36, .inl (cI, 840, .inl (fun _ => 0))), (q_r37, .inl (cI, 840, .inl (fun _ => 0))), (q_r38, .inl (cI, 64, .inl (fun _ => 0))), (q_r40, .inl (cI, 9, .inl (fun _ => 0))), (q_r41, .inl (cI, 400, .inl (fun _ => 0))), (q_r43, .inl (cI, 29, .inl (fun _ => 0))), (q_r44, .inl (cI, 29, .inl (fun _ => 0))), (q_r46, .inl (cI, 6, .inl (fun _ => 0))), (q_r47, .inl (cZ, 5, .inl (fun _ => 0))), (q_r49, .inl (cI, 1160, .inl (fun _ => 0)))]) tyX11 tyX11_ok nmX11 C inX11 hK hP hD hS 0 rfl rfl 49 (by decide) rfl rfl hnm L110 rfl (by decide +kernel) (rfl) rfl (Nat.le_of_ble_eq_true rfl) dX11_init_265 rfl (fun H locs hP hD hS => ?_)
  refine lv_aload_n hx hb dX11_init_268 rfl (lv_at hl 0 rfl) ?_
  refine lv_sipush (v := 7776) hx hb dX11_init_269 (by decide) ?_
  refine q_newa (atype := .int) (ty := .int) (N' := 7776) (7776, .inl (fun _ => 0)) C ACI rfl (fun _ => rfl) hK hP hD hS hA 1 rfl (fun _ => rfl) (by decide) (by decide +kernel) (by decide +kernel) (Nat.le_of_ble_eq_true rfl) (Nat.le_of_ble_eq_true rfl) dX11_init_272 (fun q_r50 H hP hD hS => ?_)
  refine q_putF (ty := .array .int) (w2 := [(h, .inr (11, [.int 0, .ref q_r1, .int 0, .ref q_r3, .int 0, .ref q_r5, .ref q_r6, .ref q_r7, .ref q_r8, .ref q_r9, .int 0, .int 0, .int 0, .int 0, .int 0, .int 0, .int 0, .int (-1), .int 0, .int 0, .ref q_r20, .ref q_r21, .ref q_r22, .ref q_r23, .ref q_r24, .ref q_r25, .ref q_r26, .ref q_r27, .ref q_r28, .int 0, .ref q_r30, .ref q_r31, .ref q_r32, .ref q_r33, .ref q_r34, .int 0, .ref q_r36, .ref q_r37, .ref q_r38, .int 0, .ref q_r40, .ref q_r41, .int 0, .ref q_r43, .ref q_r44, .int 0, .ref q_r46, .ref q_r47, .int 0, .ref q_r49, .ref q_r50, .int 0, .null, .null, .null, .null, .null, .null])), (q_r1, .inl (cB, 2000, .inl (fun _ => 0))), (q_r3, .inl (cB, 2000, .inl (fun _ => 0))), (q_r5, .inl (cI, 403, .inl (fun _ => 0))), (q_r6, .inl (cI, 403, .inl (fun _ => 0))), (q_r7, .inl (cI, 403, .inl (fun _ => 0))), (q_r8, .inl (cJ, 403, .inr (.inl (fun _ => 0)))), (q_r9, .inl (cJ, 19, .inr (.inl (fun _ => 0)))), (q_r20, .inl (cI, 2, .inl (fun _ => 0))), (q_r21, .inl (cI, 60, .inl (fun _ => 0))), (q_r22, .inl (cJ, 6, .inr (.inl (fun _ => 0)))), (q_r23, .inl (cI, 2, .inl (fun _ => 0))), (q_r24, .inl (cI, 12, .inl (fun _ => 0))), (q_r25, .inl (cI, 12, .inl (fun _ => 0))), (q_r26, .inl (cI, 2, .inl (fun _ => 0))), (q_r27, .inl (cI, 8, .inl (fun _ => 0))), (q_r28, .inl (cI, 8, .inl (fun _ => 0))), (q_r30, .inl (cZ, 260, .inl (fun _ => 0))), (q_r31, .inl (cI, 260, .inl (fun _ => 0))), (q_r32, .inl (cI, 260, .inl (fun _ => 0))), (q_r33, .inl (cI, 260, .inl (fun _ => 0))), (q_r34, .inl (cI, 260, .inl (fun _ => 0))), (q_r36, .inl (cI, 840, .inl (fun _ => 0))), (q_r37, .inl (cI, 840, .inl (fun _ => 0))), (q_r38, .inl (cI, 64, .inl (fun _ => 0))), (q_r40, .inl (cI, 9, .inl (fun _ => 0))), (q_r41, .inl (cI, 400, .inl (fun _ => 0))), (q_r43, .inl (cI, 29, .inl (fun _ => 0))), (q_r44, .inl (cI, 29, .inl (fun _ => 0))), (q_r46, .inl (cI, 6, .inl (fun _ => 0))), (q_r47, .inl (cZ, 5, .inl (fun _ => 0))), (q_r49, .inl (cI, 1160, .inl (fun _ => 0))), (q_r50, .inl (cI, 7776, .inl (fun _ => 0)))]) tyX11 tyX11_ok nmX11 C inX11 hK hP hD hS 0 rfl rfl 50 (by decide) rfl rfl hnm L113 rfl (by decide +kernel) (rfl) rfl (Nat.le_of_ble_eq_true rfl) dX11_init_274 rfl (fun H locs hP hD hS => ?_)
  refine lv_aload_n hx hb dX11_init_277 rfl (lv_at hl 0 rfl) ?_
  refine lv_bipush (v := 20) hx hb dX11_init_278 (by decide) ?_
  refine q_newa (atype := .int) (ty := .int) (N' := 20) (20, .inl (fun _ => 0)) C ACI rfl (fun _ => rfl) hK hP hD hS hA 1 rfl (fun _ => rfl) (by decide) (by decide +kernel) (by decide +kernel) (Nat.le_of_ble_eq_true rfl) (Nat.le_of_ble_eq_true rfl) dX11_init_280 (fun q_r52 H hP hD hS => ?_)
  refine q_putF (ty := .array .int) (w2 := [(h, .inr (11, [.int 0, .ref q_r1, .int 0, .ref q_r3, .int 0, .ref q_r5, .ref q_r6, .ref q_r7, .ref q_r8, .ref q_r9, .int 0, .int 0, .int 0, .int 0, .int 0, .int 0, .int 0, .int (-1), .int 0, .int 0, .ref q_r20, .ref q_r21, .ref q_r22, .ref q_r23, .ref q_r24, .ref q_r25, .ref q_r26, .ref q_r27, .ref q_r28, .int 0, .ref q_r30, .ref q_r31, .ref q_r32, .ref q_r33, .ref q_r34, .int 0, .ref q_r36, .ref q_r37, .ref q_r38, .int 0, .ref q_r40, .ref q_r41, .int 0, .ref q_r43, .ref q_r44, .int 0, .ref q_r46, .ref q_r47, .int 0, .ref q_r49, .ref q_r50, .int 0, .ref q_r52, .null, .null, .null, .null, .null])), (q_r1, .inl (cB, 2000, .inl (fun _ => 0))), (q_r3, .inl (cB, 2000, .inl (fun _ => 0))), (q_r5, .inl (cI, 403, .inl (fun _ => 0))), (q_r6, .inl (cI, 403, .inl (fun _ => 0))), (q_r7, .inl (cI, 403, .inl (fun _ => 0))), (q_r8, .inl (cJ, 403, .inr (.inl (fun _ => 0)))), (q_r9, .inl (cJ, 19, .inr (.inl (fun _ => 0)))), (q_r20, .inl (cI, 2, .inl (fun _ => 0))), (q_r21, .inl (cI, 60, .inl (fun _ => 0))), (q_r22, .inl (cJ, 6, .inr (.inl (fun _ => 0)))), (q_r23, .inl (cI, 2, .inl (fun _ => 0))), (q_r24, .inl (cI, 12, .inl (fun _ => 0))), (q_r25, .inl (cI, 12, .inl (fun _ => 0))), (q_r26, .inl (cI, 2, .inl (fun _ => 0))), (q_r27, .inl (cI, 8, .inl (fun _ => 0))), (q_r28, .inl (cI, 8, .inl (fun _ => 0))), (q_r30, .inl (cZ, 260, .inl (fun _ => 0))), (q_r31, .inl (cI, 260, .inl (fun _ => 0))), (q_r32, .inl (cI, 260, .inl (fun _ => 0))), (q_r33, .inl (cI, 260, .inl (fun _ => 0))), (q_r34, .inl (cI, 260, .inl (fun _ => 0))), (q_r36, .inl (cI, 840, .inl (fun _ => 0))), (q_r37, .inl (cI, 840, .inl (fun _ => 0))), (q_r38, .inl (cI, 64, .inl (fun _ => 0))), (q_r40, .inl (cI, 9, .inl (fun _ => 0))), (q_r41, .inl (cI, 400, .inl (fun _ => 0))), (q_r43, .inl (cI, 29, .inl (fun _ => 0))), (q_r44, .inl (cI, 29, .inl (fun _ => 0))), (q_r46, .inl (cI, 6, .inl (fun _ => 0))), (q_r47, .inl (cZ, 5, .inl (fun _ => 0))), (q_r49, .inl (cI, 1160, .inl (fun _ => 0))), (q_r50, .inl (cI, 7776, .inl (fun _ => 0))), (q_r52, .inl (cI, 20, .inl (fun _ => 0)))]) tyX11 tyX11_ok nmX11 C inX11 hK hP hD hS 0 rfl rfl 52 (by decide) rfl rfl hnm L116 rfl (by decide +kernel) (rfl) rfl (Nat.le_of_ble_eq_true rfl) dX11_init_282 rfl (fun H locs hP hD hS => ?_)
  refine lv_aload_n hx hb dX11_init_285 rfl (lv_at hl 0 rfl) ?_
  refine lv_bipush (v := 20) hx hb dX11_init_286 (by decide) ?_
  refine q_newa (atype := .int) (ty := .int) (N' := 20) (20, .inl (fun _ => 0)) C ACI rfl (fun _ => rfl) hK hP hD hS hA 1 rfl (fun _ => rfl) (by decide) (by decide +kernel) (by decide +kernel) (Nat.le_of_ble_eq_true rfl) (Nat.le_of_ble_eq_true rfl) dX11_init_288 (fun q_r53 H hP hD hS => ?_)
  refine q_putF (ty := .array .int) (w2 := [(h, .inr (11, [.int 0, .ref q_r1, .int 0, .ref q_r3, .int 0, .ref q_r5, .ref q_r6, .ref q_r7, .ref q_r8, .ref q_r9, .int 0, .int 0, .int 0, .int 0, .int 0, .int 0, .int 0, .int (-1), .int 0, .int 0, .ref q_r20, .ref q_r21, .ref q_r22, .ref q_r23, .ref q_r24, .ref q_r25, .ref q_r26, .ref q_r27, .ref q_r28, .int 0, .ref q_r30, .ref q_r31, .ref q_r32, .ref q_r33, .ref q_r34, .int 0, .ref q_r36, .ref q_r37, .ref q_r38, .int 0, .ref q_r40, .ref q_r41, .int 0, .ref q_r43, .ref q_r44, .int 0, .ref q_r46, .ref q_r47, .int 0, .ref q_r49, .ref q_r50, .int 0, .ref q_r52, .ref q_r53, .null, .null, .null, .null])), (q_r1, .inl (cB, 2000, .inl (fun _ => 0))), (q_r3, .inl (cB, 2000, .inl (fun _ => 0))), (q_r5, .inl (cI, 403, .inl (fun _ => 0))), (q_r6, .inl (cI, 403, .inl (fun _ => 0))), (q_r7, .inl (cI, 403, .inl (fun _ => 0))), (q_r8, .inl (cJ, 403, .inr (.inl (fun _ => 0)))), (q_r9, .inl (cJ, 19, .inr (.inl (fun _ => 0)))), (q_r20, .inl (cI, 2, .inl (fun _ => 0))), (q_r21, .inl (cI, 60, .inl (fun _ => 0))), (q_r22, .inl (cJ, 6, .inr (.inl (fun _ => 0)))), (q_r23, .inl (cI, 2, .inl (fun _ => 0))), (q_r24, .inl (cI, 12, .inl (fun _ => 0))), (q_r25, .inl (cI, 12, .inl (fun _ => 0))), (q_r26, .inl (cI, 2, .inl (fun _ => 0))), (q_r27, .inl (cI, 8, .inl (fun _ => 0))), (q_r28, .inl (cI, 8, .inl (fun _ => 0))), (q_r30, .inl (cZ, 260, .inl (fun _ => 0))), (q_r31, .inl (cI, 260, .inl (fun _ => 0))), (q_r32, .inl (cI, 260, .inl (fun _ => 0))), (q_r33, .inl (cI, 260, .inl (fun _ => 0))), (q_r34, .inl (cI, 260, .inl (fun _ => 0))), (q_r36, .inl (cI, 840, .inl (fun _ => 0))), (q_r37, .inl (cI, 840, .inl (fun _ => 0))), (q_r38, .inl (cI, 64, .inl (fun _ => 0))), (q_r40, .inl (cI, 9, .inl (fun _ => 0))), (q_r41, .inl (cI, 400, .inl (fun _ => 0))), (q_r43, .inl (cI, 29, .inl (fun _ => 0))), (q_r44, .inl (cI, 29, .inl (fun _ => 0))), (q_r46, .inl (cI, 6, .inl (fun _ => 0))), (q_r47, .inl (cZ, 5, .inl (fun _ => 0))), (q_r49, .inl (cI, 1160, .inl (fun _ => 0))), (q_r50, .inl (cI, 7776, .inl (fun _ => 0))), (q_r52, .inl (cI, 20, .inl (fun _ => 0))), (q_r53, .inl (cI, 20, .inl (fun _ => 0)))]) tyX11 tyX11_ok nmX11 C inX11 hK hP hD hS 0 rfl rfl 53 (by decide) rfl rfl hnm L119 rfl (by decide +kernel) (rfl) rfl (Nat.le_of_ble_eq_true rfl) dX11_init_290 rfl (fun H locs hP hD hS => ?_)
  refine lv_aload_n hx hb dX11_init_293 rfl (lv_at hl 0 rfl) ?_
  refine lv_bipush (v := 20) hx hb dX11_init_294 (by decide) ?_
  refine q_newa (atype := .boolean) (ty := .boolean) (N' := 20) (20, .inl (fun _ => 0)) C ACZ rfl (fun _ => rfl) hK hP hD hS hA 3 rfl (fun _ => rfl) (by decide) (by decide +kernel) (by decide +kernel) (Nat.le_of_ble_eq_true rfl) (Nat.le_of_ble_eq_true rfl) dX11_init_296 (fun q_r54 H hP hD hS => ?_)
  refine q_putF (ty := .array .boolean) (w2 := [(h, .inr (11, [.int 0, .ref q_r1, .int 0, .ref q_r3, .int 0, .ref q_r5, .ref q_r6, .ref q_r7, .ref q_r8, .ref q_r9, .int 0, .int 0, .int 0, .int 0, .int 0, .int 0, .int 0, .int (-1), .int 0, .int 0, .ref q_r20, .ref q_r21, .ref q_r22, .ref q_r23, .ref q_r24, .ref q_r25, .ref q_r26, .ref q_r27, .ref q_r28, .int 0, .ref q_r30, .ref q_r31, .ref q_r32, .ref q_r33, .ref q_r34, .int 0, .ref q_r36, .ref q_r37, .ref q_r38, .int 0, .ref q_r40, .ref q_r41, .int 0, .ref q_r43, .ref q_r44, .int 0, .ref q_r46, .ref q_r47, .int 0, .ref q_r49, .ref q_r50, .int 0, .ref q_r52, .ref q_r53, .ref q_r54, .null, .null, .null])), (q_r1, .inl (cB, 2000, .inl (fun _ => 0))), (q_r3, .inl (cB, 2000, .inl (fun _ => 0))), (q_r5, .inl (cI, 403, .inl (fun _ => 0))), (q_r6, .inl (cI, 403, .inl (fun _ => 0))), (q_r7, .inl (cI, 403, .inl (fun _ => 0))), (q_r8, .inl (cJ, 403, .inr (.inl (fun _ => 0)))), (q_r9, .inl (cJ, 19, .inr (.inl (fun _ => 0)))), (q_r20, .inl (cI, 2, .inl (fun _ => 0))), (q_r21, .inl (cI, 60, .inl (fun _ => 0))), (q_r22, .inl (cJ, 6, .inr (.inl (fun _ => 0)))), (q_r23, .inl (cI, 2, .inl (fun _ => 0))), (q_r24, .inl (cI, 12, .inl (fun _ => 0))), (q_r25, .inl (cI, 12, .inl (fun _ => 0))), (q_r26, .inl (cI, 2, .inl (fun _ => 0))), (q_r27, .inl (cI, 8, .inl (fun _ => 0))), (q_r28, .inl (cI, 8, .inl (fun _ => 0))), (q_r30, .inl (cZ, 260, .inl (fun _ => 0))), (q_r31, .inl (cI, 260, .inl (fun _ => 0))), (q_r32, .inl (cI, 260, .inl (fun _ => 0))), (q_r33, .inl (cI, 260, .inl (fun _ => 0))), (q_r34, .inl (cI, 260, .inl (fun _ => 0))), (q_r36, .inl (cI, 840, .inl (fun _ => 0))), (q_r37, .inl (cI, 840, .inl (fun _ => 0))), (q_r38, .inl (cI, 64, .inl (fun _ => 0))), (q_r40, .inl (cI, 9, .inl (fun _ => 0))), (q_r41, .inl (cI, 400, .inl (fun _ => 0))), (q_r43, .inl (cI, 29, .inl (fun _ => 0))), (q_r44, .inl (cI, 29, .inl (fun _ => 0))), (q_r46, .inl (cI, 6, .inl (fun _ => 0))), (q_r47, .inl (cZ, 5, .inl (fun _ => 0))), (q_r49, .inl (cI, 1160, .inl (fun _ => 0))), (q_r50, .inl (cI, 7776, .inl (fun _ => 0))), (q_r52, .inl (cI, 20, .inl (fun _ => 0))), (q_r53, .inl (cI, 20, .inl (fun _ => 0))), (q_r54, .inl (cZ, 20, .inl (fun _ => 0)))]) tyX11 tyX11_ok nmX11 C inX11 hK hP hD hS 0 rfl rfl 54 (by decide) rfl rfl hnm L122 rfl (by decide +kernel) (rfl) rfl (Nat.le_of_ble_eq_true rfl) dX11_init_298 rfl (fun H locs hP hD hS => ?_)
  exact mi_6 l dC dI cB cI cJ cZ cS h C hr hlocks hnm hA hK hN q_r1 q_r3 q_r5 q_r6 q_r7 q_r8 q_r9 q_r20 q_r21 q_r22 q_r23 q_r24 q_r25 q_r26 q_r27 q_r28 q_r30 q_r31 q_r32 q_r33 q_r34 q_r36 q_r37 q_r38 q_r40 q_r41 q_r43 q_r44 q_r46 q_r47 q_r49 q_r50 q_r52 q_r53 q_r54 H locs ls hP hD hS hl
end
section
theorem dX11_init_149 : decode cX11_init 149 = .ok (.aload_n 0, 1) := dc1_42 (by decide +kernel)
theorem dX11_init_150 : decode cX11_init 150 = .ok (.sipush 260, 3) := dcs_17 (n := 260) (by decide +kernel)
theorem dX11_init_153 : decode cX11_init 153 = .ok (.newarray .int, 2) := by decide +kernel
theorem dX11_init_155 : decode cX11_init 155 = .ok (.putfield 71, 3) := dcw_181 (by decide +kernel)
theorem dX11_init_158 : decode cX11_init 158 = .ok (.aload_n 0, 1) := dc1_42 (by decide +kernel)
theorem dX11_init_159 : decode cX11_init 159 = .ok (.sipush 260, 3) := dcs_17 (n := 260) (by decide +kernel)
theorem dX11_init_162 : decode cX11_init 162 = .ok (.newarray .int, 2) := by decide +kernel
theorem dX11_init_164 : decode cX11_init 164 = .ok (.putfield 74, 3) := dcw_181 (by decide +kernel)
theorem dX11_init_167 : decode cX11_init 167 = .ok (.aload_n 0, 1) := dc1_42 (by decide +kernel)
theorem dX11_init_168 : decode cX11_init 168 = .ok (.sipush 260, 3) := dcs_17 (n := 260) (by decide +kernel)
theorem dX11_init_171 : decode cX11_init 171 = .ok (.newarray .int, 2) := by decide +kernel
theorem dX11_init_173 : decode cX11_init 173 = .ok (.putfield 77, 3) := dcw_181 (by decide +kernel)
theorem dX11_init_176 : decode cX11_init 176 = .ok (.aload_n 0, 1) := dc1_42 (by decide +kernel)
theorem dX11_init_177 : decode cX11_init 177 = .ok (.sipush 260, 3) := dcs_17 (n := 260) (by decide +kernel)
theorem dX11_init_180 : decode cX11_init 180 = .ok (.newarray .int, 2) := by decide +kernel
theorem dX11_init_182 : decode cX11_init 182 = .ok (.putfield 80, 3) := dcw_181 (by decide +kernel)
theorem dX11_init_185 : decode cX11_init 185 = .ok (.aload_n 0, 1) := dc1_42 (by decide +kernel)
theorem dX11_init_186 : decode cX11_init 186 = .ok (.sipush 840, 3) := dcs_17 (n := 840) (by decide +kernel)
theorem dX11_init_189 : decode cX11_init 189 = .ok (.newarray .int, 2) := by decide +kernel
theorem dX11_init_191 : decode cX11_init 191 = .ok (.putfield 83, 3) := dcw_181 (by decide +kernel)
theorem dX11_init_194 : decode cX11_init 194 = .ok (.aload_n 0, 1) := dc1_42 (by decide +kernel)
theorem dX11_init_195 : decode cX11_init 195 = .ok (.sipush 840, 3) := dcs_17 (n := 840) (by decide +kernel)
theorem dX11_init_198 : decode cX11_init 198 = .ok (.newarray .int, 2) := by decide +kernel
theorem dX11_init_200 : decode cX11_init 200 = .ok (.putfield 86, 3) := dcw_181 (by decide +kernel)
theorem dX11_init_203 : decode cX11_init 203 = .ok (.aload_n 0, 1) := dc1_42 (by decide +kernel)
theorem dX11_init_204 : decode cX11_init 204 = .ok (.bipush 64, 2) := dcb_16 (n := 64) (by decide +kernel)
theorem dX11_init_206 : decode cX11_init 206 = .ok (.newarray .int, 2) := by decide +kernel
theorem dX11_init_208 : decode cX11_init 208 = .ok (.putfield 89, 3) := dcw_181 (by decide +kernel)
theorem dX11_init_211 : decode cX11_init 211 = .ok (.aload_n 0, 1) := dc1_42 (by decide +kernel)
theorem dX11_init_212 : decode cX11_init 212 = .ok (.bipush 9, 2) := dcb_16 (n := 9) (by decide +kernel)
theorem dX11_init_214 : decode cX11_init 214 = .ok (.newarray .int, 2) := by decide +kernel
theorem dX11_init_216 : decode cX11_init 216 = .ok (.putfield 92, 3) := dcw_181 (by decide +kernel)
theorem dX11_init_219 : decode cX11_init 219 = .ok (.aload_n 0, 1) := dc1_42 (by decide +kernel)
theorem dX11_init_220 : decode cX11_init 220 = .ok (.sipush 400, 3) := dcs_17 (n := 400) (by decide +kernel)
theorem dX11_init_223 : decode cX11_init 223 = .ok (.newarray .int, 2) := by decide +kernel
theorem dX11_init_225 : decode cX11_init 225 = .ok (.putfield 95, 3) := dcw_181 (by decide +kernel)
theorem dX11_init_228 : decode cX11_init 228 = .ok (.aload_n 0, 1) := dc1_42 (by decide +kernel)
theorem dX11_init_229 : decode cX11_init 229 = .ok (.bipush 29, 2) := dcb_16 (n := 29) (by decide +kernel)
theorem dX11_init_231 : decode cX11_init 231 = .ok (.newarray .int, 2) := by decide +kernel
theorem dX11_init_233 : decode cX11_init 233 = .ok (.putfield 98, 3) := dcw_181 (by decide +kernel)
theorem dX11_init_236 : decode cX11_init 236 = .ok (.aload_n 0, 1) := dc1_42 (by decide +kernel)
theorem dX11_init_237 : decode cX11_init 237 = .ok (.bipush 29, 2) := dcb_16 (n := 29) (by decide +kernel)
theorem dX11_init_239 : decode cX11_init 239 = .ok (.newarray .int, 2) := by decide +kernel
theorem dX11_init_241 : decode cX11_init 241 = .ok (.putfield 101, 3) := dcw_181 (by decide +kernel)
theorem dX11_init_244 : decode cX11_init 244 = .ok (.aload_n 0, 1) := dc1_42 (by decide +kernel)
theorem dX11_init_245 : decode cX11_init 245 = .ok (.bipush 6, 2) := dcb_16 (n := 6) (by decide +kernel)
theorem dX11_init_247 : decode cX11_init 247 = .ok (.newarray .int, 2) := by decide +kernel
theorem dX11_init_249 : decode cX11_init 249 = .ok (.putfield 104, 3) := dcw_181 (by decide +kernel)
set_option maxHeartbeats 4000000 in
set_option maxRecDepth 100000 in
theorem mi_4 (l : Launch) (dC : Nat → ClassId) (dI : Nat → Nat → Nat) (cB cI cJ cZ cS : ClassId) (h : Nat) {p : Program} {e : Env} {s : State} {m : MethodId} {below : List Frame} {meth : Method} {c : Code} {A : Nat → Prop} (C : CallFix p m c cX11_init 1 s [Value.ref h].toArray wsX11_init yX11_init.cls) (hr : meth.sig.returnType = none) (hlocks : meth.locks = false) (hnm : meth.name = yX11_init.name) (hA : ∀ q, s.heap.size ≤ q → A q) (hK : va_K (dC, dI) vwCl (tysA cB cI cJ cZ cS) s) (hN : nw_ok s) (q_r1 : Nat) (q_r3 : Nat) (q_r5 : Nat) (q_r6 : Nat) (q_r7 : Nat) (q_r8 : Nat) (q_r9 : Nat) (q_r20 : Nat) (q_r21 : Nat) (q_r22 : Nat) (q_r23 : Nat) (q_r24 : Nat) (q_r25 : Nat) (q_r26 : Nat) (q_r27 : Nat) (q_r28 : Nat) (q_r30 : Nat) (q_r31 : Nat) (q_r32 : Nat) (q_r33 : Nat) (q_r34 : Nat) (q_r36 : Nat) (q_r37 : Nat) (H : Heap) (locs : List Loc) (ls : Array Slot) (hP : va_P (dC, dI) vwCl [(h, .inr (11, [.int 0, .ref q_r1, .int 0, .ref q_r3, .int 0, .ref q_r5, .ref q_r6, .ref q_r7, .ref q_r8, .ref q_r9, .int 0, .int 0, .int 0, .int 0, .int 0, .int 0, .int 0, .int (-1), .int 0, .int 0, .ref q_r20, .ref q_r21, .ref q_r22, .ref q_r23, .ref q_r24, .ref q_r25, .ref q_r26, .ref q_r27, .ref q_r28, .int 0, .ref q_r30, .ref q_r31, .ref q_r32, .ref q_r33, .ref q_r34, .int 0, .ref q_r36, .ref q_r37, .null, .int 0, .null, .null, .int 0, .null, .null, .int 0, .null, .null, .int 0, .null, .null, .int 0, .null, .null, .null, .null, .null, .null])), (q_r1, .inl (cB, 2000, .inl (fun _ => 0))), (q_r3, .inl (cB, 2000, .inl (fun _ => 0))), (q_r5, .inl (cI, 403, .inl (fun _ => 0))), (q_r6, .inl (cI, 403, .inl (fun _ => 0))), (q_r7, .inl (cI, 403, .inl (fun _ => 0))), (q_r8, .inl (cJ, 403, .inr (.inl (fun _ => 0)))), (q_r9, .inl (cJ, 19, .inr (.inl (fun _ => 0)))), (q_r20, .inl (cI, 2, .inl (fun _ => 0))), (q_r21, .inl (cI, 60, .inl (fun _ => 0))), (q_r22, .inl (cJ, 6, .inr (.inl (fun _ => 0)))), (q_r23, .inl (cI, 2, .inl (fun _ => 0))), (q_r24, .inl (cI, 12, .inl (fun _ => 0))), (q_r25, .inl (cI, 12, .inl (fun _ => 0))), (q_r26, .inl (cI, 2, .inl (fun _ => 0))), (q_r27, .inl (cI, 8, .inl (fun _ => 0))), (q_r28, .inl (cI, 8, .inl (fun _ => 0))), (q_r30, .inl (cZ, 260, .inl (fun _ => 0))), (q_r31, .inl (cI, 260, .inl (fun _ => 0))), (q_r32, .inl (cI, 260, .inl (fun _ => 0))), (q_r33, .inl (cI, 260, .inl (fun _ => 0))), (q_r34, .inl (cI, 260, .inl (fun _ => 0))), (q_r36, .inl (cI, 840, .inl (fun _ => 0))), (q_r37, .inl (cI, 840, .inl (fun _ => 0)))] H) (hD : va_D A [(h, .inr (11, [.int 0, .ref q_r1, .int 0, .ref q_r3, .int 0, .ref q_r5, .ref q_r6, .ref q_r7, .ref q_r8, .ref q_r9, .int 0, .int 0, .int 0, .int 0, .int 0, .int 0, .int 0, .int (-1), .int 0, .int 0, .ref q_r20, .ref q_r21, .ref q_r22, .ref q_r23, .ref q_r24, .ref q_r25, .ref q_r26, .ref q_r27, .ref q_r28, .int 0, .ref q_r30, .ref q_r31, .ref q_r32, .ref q_r33, .ref q_r34, .int 0, .ref q_r36, .ref q_r37, .null, .int 0, .null, .null, .int 0, .null, .null, .int 0, .null, .null, .int 0, .null, .null, .int 0, .null, .null, .null, .null, .null, .null])), (q_r1, .inl (cB, 2000, .inl (fun _ => 0))), (q_r3, .inl (cB, 2000, .inl (fun _ => 0))), (q_r5, .inl (cI, 403, .inl (fun _ => 0))), (q_r6, .inl (cI, 403, .inl (fun _ => 0))), (q_r7, .inl (cI, 403, .inl (fun _ => 0))), (q_r8, .inl (cJ, 403, .inr (.inl (fun _ => 0)))), (q_r9, .inl (cJ, 19, .inr (.inl (fun _ => 0)))), (q_r20, .inl (cI, 2, .inl (fun _ => 0))), (q_r21, .inl (cI, 60, .inl (fun _ => 0))), (q_r22, .inl (cJ, 6, .inr (.inl (fun _ => 0)))), (q_r23, .inl (cI, 2, .inl (fun _ => 0))), (q_r24, .inl (cI, 12, .inl (fun _ => 0))), (q_r25, .inl (cI, 12, .inl (fun _ => 0))), (q_r26, .inl (cI, 2, .inl (fun _ => 0))), (q_r27, .inl (cI, 8, .inl (fun _ => 0))), (q_r28, .inl (cI, 8, .inl (fun _ => 0))), (q_r30, .inl (cZ, 260, .inl (fun _ => 0))), (q_r31, .inl (cI, 260, .inl (fun _ => 0))), (q_r32, .inl (cI, 260, .inl (fun _ => 0))), (q_r33, .inl (cI, 260, .inl (fun _ => 0))), (q_r34, .inl (cI, 260, .inl (fun _ => 0))), (q_r36, .inl (cI, 840, .inl (fun _ => 0))), (q_r37, .inl (cI, 840, .inl (fun _ => 0)))]) (hS : va_S A s.heap H locs) (hl : lv_has ls 1 [(0, .ref h)]) : W p l e ({ frames := 2, cells := 38, slots := 18381, locals := 48 }) s m [Value.ref h].toArray below meth c H locs 23 8723 (MQ below (va_Qv (fun w => ∃ (a : Nat → Nat) (s9 : RS), InvR s9 ∧ Big s9 ∧ RIR s9 ∧ w = mwS cB cI cJ cZ h a s9) (at_W (dC, dI) (tysA cB cI cJ cZ cS) A) A) [Value.ref h].toArray s 38 18381 A) (F0 m 203 ls []) := by
  obtain ⟨hx, hb, hml, hown, hts⟩ := id C
  have inX11 : ∀ w ∈ u_ws RX11 TX11 58, w ∈ wsX11_init := fun w h => (List.mem_cons_of_mem _ (List.mem_append_right _ h))
  have ACI : Cond.arrayClass .int ∈ wsX11_init := (List.mem_cons_of_mem _ (List.mem_append_left _ (List.mem_append_left _ (List.mem_of_getElem? (i := 6) rfl))))
  have L101 : Cond.fieldLink RX11 101 "GuessFerryModel" "row" "[I" ∈ wsX11_init := (List.mem_cons_of_mem _ (List.mem_append_left _ (List.mem_append_right _ (List.mem_append_right _ (List.mem_append_right _ (List.mem_append_right _ (List.mem_cons_of_mem _ (List.mem_append_left _ (List.mem_of_getElem? (i := 1) rfl)))))))))
  have L104 : Cond.fieldLink RX11 104 "GuessFerryModel" "sixes" "[I" ∈ wsX11_init := (List.mem_cons_of_mem _ (List.mem_append_left _ (List.mem_append_right _ (List.mem_append_right _ (List.mem_append_right _ (List.mem_append_left _ (List.mem_cons_of_mem _ (List.mem_append_left _ (List.mem_of_getElem? (i := 1) rfl)))))))))
  have L89 : Cond.fieldLink RX11 89 "GuessFerryModel" "waits" "[I" ∈ wsX11_init := (List.mem_cons_of_mem _ (List.mem_append_left _ (List.mem_append_left _ (List.mem_of_getElem? (i := 26) rfl))))
  have L92 : Cond.fieldLink RX11 92 "GuessFerryModel" "variables" "[I" ∈ wsX11_init := (List.mem_cons_of_mem _ (List.mem_append_left _ (List.mem_append_left _ (List.mem_of_getElem? (i := 27) rfl))))
  have L95 : Cond.fieldLink RX11 95 "GuessFerryModel" "pile" "[I" ∈ wsX11_init := (List.mem_cons_of_mem _ (List.mem_append_left _ (List.mem_append_left _ (List.mem_of_getElem? (i := 28) rfl))))
  have L98 : Cond.fieldLink RX11 98 "GuessFerryModel" "now" "[I" ∈ wsX11_init := (List.mem_cons_of_mem _ (List.mem_append_left _ (List.mem_append_right _ (List.mem_append_right _ (List.mem_append_right _ (List.mem_append_right _ (List.mem_cons_of_mem _ (List.mem_append_left _ (List.mem_of_getElem? (i := 0) rfl)))))))))
  refine lv_aload_n hx hb dX11_init_203 rfl (lv_at hl 0 rfl) ?_
  refine lv_bipush (v := 64) hx hb dX11_init_204 (by decide) ?_
  refine q_newa (atype := .int) (ty := .int) (N' := 64) (64, .inl (fun _ => 0)) C ACI rfl (fun _ => rfl) hK hP hD hS hA 1 rfl (fun _ => rfl) (by decide) (by decide +kernel) (by decide +kernel) (Nat.le_of_ble_eq_true rfl) (Nat.le_of_ble_eq_true rfl) dX11_init_206 (fun q_r38 H hP hD hS => ?_)
  refine q_putF (ty := .array .int) (w2 := [(h, .inr (11, [.int 0, .ref q_r1, .int 0, .ref q_r3, .int 0, .ref q_r5, .ref q_r6, .ref q_r7, .ref q_r8, .ref q_r9, .int 0, .int 0, .int 0, .int 0, .int 0, .int 0, .int 0, .int (-1), .int 0, .int 0, .ref q_r20, .ref q_r21, .ref q_r22, .ref q_r23, .ref q_r24, .ref q_r25, .ref q_r26, .ref q_r27, .ref q_r28, .int 0, .ref q_r30, .ref q_r31, .ref q_r32, .ref q_r33, .ref q_r34, .int 0, .ref q_r36, .ref q_r37, .ref q_r38, .int 0, .null, .null, .int 0, .null, .null, .int 0, .null, .null, .int 0, .null, .null, .int 0, .null, .null, .null, .null, .null, .null])), (q_r1, .inl (cB, 2000, .inl (fun _ => 0))), (q_r3, .inl (cB, 2000, .inl (fun _ => 0))), (q_r5, .inl (cI, 403, .inl (fun _ => 0))), (q_r6, .inl (cI, 403, .inl (fun _ => 0))), (q_r7, .inl (cI, 403, .inl (fun _ => 0))), (q_r8, .inl (cJ, 403, .inr (.inl (fun _ => 0)))), (q_r9, .inl (cJ, 19, .inr (.inl (fun _ => 0)))), (q_r20, .inl (cI, 2, .inl (fun _ => 0))), (q_r21, .inl (cI, 60, .inl (fun _ => 0))), (q_r22, .inl (cJ, 6, .inr (.inl (fun _ => 0)))), (q_r23, .inl (cI, 2, .inl (fun _ => 0))), (q_r24, .inl (cI, 12, .inl (fun _ => 0))), (q_r25, .inl (cI, 12, .inl (fun _ => 0))), (q_r26, .inl (cI, 2, .inl (fun _ => 0))), (q_r27, .inl (cI, 8, .inl (fun _ => 0))), (q_r28, .inl (cI, 8, .inl (fun _ => 0))), (q_r30, .inl (cZ, 260, .inl (fun _ => 0))), (q_r31, .inl (cI, 260, .inl (fun _ => 0))), (q_r32, .inl (cI, 260, .inl (fun _ => 0))), (q_r33, .inl (cI, 260, .inl (fun _ => 0))), (q_r34, .inl (cI, 260, .inl (fun _ => 0))), (q_r36, .inl (cI, 840, .inl (fun _ => 0))), (q_r37, .inl (cI, 840, .inl (fun _ => 0))), (q_r38, .inl (cI, 64, .inl (fun _ => 0)))]) tyX11 tyX11_ok nmX11 C inX11 hK hP hD hS 0 rfl rfl 38 (by decide) rfl rfl hnm L89 rfl (by decide +kernel) (rfl) rfl (Nat.le_of_ble_eq_true rfl) dX11_init_208 rfl (fun H locs hP hD hS => ?_)
  refine lv_aload_n hx hb dX11_init_211 rfl (lv_at hl 0 rfl) ?_
  refine lv_bipush (v := 9) hx hb dX11_init_212 (by decide) ?_
  refine q_newa (atype := .int) (ty := .int) (N' := 9) (9, .inl (fun _ => 0)) C ACI rfl (fun _ => rfl) hK hP hD hS hA 1 rfl (fun _ => rfl) (by decide) (by decide +kernel) (by decide +kernel) (Nat.le_of_ble_eq_true rfl) (Nat.le_of_ble_eq_true rfl) dX11_init_214 (fun q_r40 H hP hD hS => ?_)
  refine q_putF (ty := .array .int) (w2 := [(h, .inr (11, [.int 0, .ref q_r1, .int 0, .ref q_r3, .int 0, .ref q_r5, .ref q_r6, .ref q_r7, .ref q_r8, .ref q_r9, .int 0, .int 0, .int 0, .int 0, .int 0, .int 0, .int 0, .int (-1), .int 0, .int 0, .ref q_r20, .ref q_r21, .ref q_r22, .ref q_r23, .ref q_r24, .ref q_r25, .ref q_r26, .ref q_r27, .ref q_r28, .int 0, .ref q_r30, .ref q_r31, .ref q_r32, .ref q_r33, .ref q_r34, .int 0, .ref q_r36, .ref q_r37, .ref q_r38, .int 0, .ref q_r40, .null, .int 0, .null, .null, .int 0, .null, .null, .int 0, .null, .null, .int 0, .null, .null, .null, .null, .null, .null])), (q_r1, .inl (cB, 2000, .inl (fun _ => 0))), (q_r3, .inl (cB, 2000, .inl (fun _ => 0))), (q_r5, .inl (cI, 403, .inl (fun _ => 0))), (q_r6, .inl (cI, 403, .inl (fun _ => 0))), (q_r7, .inl (cI, 403, .inl (fun _ => 0))), (q_r8, .inl (cJ, 403, .inr (.inl (fun _ => 0)))), (q_r9, .inl (cJ, 19, .inr (.inl (fun _ => 0)))), (q_r20, .inl (cI, 2, .inl (fun _ => 0))), (q_r21, .inl (cI, 60, .inl (fun _ => 0))), (q_r22, .inl (cJ, 6, .inr (.inl (fun _ => 0)))), (q_r23, .inl (cI, 2, .inl (fun _ => 0))), (q_r24, .inl (cI, 12, .inl (fun _ => 0))), (q_r25, .inl (cI, 12, .inl (fun _ => 0))), (q_r26, .inl (cI, 2, .inl (fun _ => 0))), (q_r27, .inl (cI, 8, .inl (fun _ => 0))), (q_r28, .inl (cI, 8, .inl (fun _ => 0))), (q_r30, .inl (cZ, 260, .inl (fun _ => 0))), (q_r31, .inl (cI, 260, .inl (fun _ => 0))), (q_r32, .inl (cI, 260, .inl (fun _ => 0))), (q_r33, .inl (cI, 260, .inl (fun _ => 0))), (q_r34, .inl (cI, 260, .inl (fun _ => 0))), (q_r36, .inl (cI, 840, .inl (fun _ => 0))), (q_r37, .inl (cI, 840, .inl (fun _ => 0))), (q_r38, .inl (cI, 64, .inl (fun _ => 0))), (q_r40, .inl (cI, 9, .inl (fun _ => 0)))]) tyX11 tyX11_ok nmX11 C inX11 hK hP hD hS 0 rfl rfl 40 (by decide) rfl rfl hnm L92 rfl (by decide +kernel) (rfl) rfl (Nat.le_of_ble_eq_true rfl) dX11_init_216 rfl (fun H locs hP hD hS => ?_)
  refine lv_aload_n hx hb dX11_init_219 rfl (lv_at hl 0 rfl) ?_
  refine lv_sipush (v := 400) hx hb dX11_init_220 (by decide) ?_
  refine q_newa (atype := .int) (ty := .int) (N' := 400) (400, .inl (fun _ => 0)) C ACI rfl (fun _ => rfl) hK hP hD hS hA 1 rfl (fun _ => rfl) (by decide) (by decide +kernel) (by decide +kernel) (Nat.le_of_ble_eq_true rfl) (Nat.le_of_ble_eq_true rfl) dX11_init_223 (fun q_r41 H hP hD hS => ?_)
  refine q_putF (ty := .array .int) (w2 := [(h, .inr (11, [.int 0, .ref q_r1, .int 0, .ref q_r3, .int 0, .ref q_r5, .ref q_r6, .ref q_r7, .ref q_r8, .ref q_r9, .int 0, .int 0, .int 0, .int 0, .int 0, .int 0, .int 0, .int (-1), .int 0, .int 0, .ref q_r20, .ref q_r21, .ref q_r22, .ref q_r23, .ref q_r24, .ref q_r25, .ref q_r26, .ref q_r27, .ref q_r28, .int 0, .ref q_r30, .ref q_r31, .ref q_r32, .ref q_r33, .ref q_r34, .int 0, .ref q_r36, .ref q_r37, .ref q_r38, .int 0, .ref q_r40, .ref q_r41, .int 0, .null, .null, .int 0, .null, .null, .int 0, .null, .null, .int 0, .null, .null, .null, .null, .null, .null])), (q_r1, .inl (cB, 2000, .inl (fun _ => 0))), (q_r3, .inl (cB, 2000, .inl (fun _ => 0))), (q_r5, .inl (cI, 403, .inl (fun _ => 0))), (q_r6, .inl (cI, 403, .inl (fun _ => 0))), (q_r7, .inl (cI, 403, .inl (fun _ => 0))), (q_r8, .inl (cJ, 403, .inr (.inl (fun _ => 0)))), (q_r9, .inl (cJ, 19, .inr (.inl (fun _ => 0)))), (q_r20, .inl (cI, 2, .inl (fun _ => 0))), (q_r21, .inl (cI, 60, .inl (fun _ => 0))), (q_r22, .inl (cJ, 6, .inr (.inl (fun _ => 0)))), (q_r23, .inl (cI, 2, .inl (fun _ => 0))), (q_r24, .inl (cI, 12, .inl (fun _ => 0))), (q_r25, .inl (cI, 12, .inl (fun _ => 0))), (q_r26, .inl (cI, 2, .inl (fun _ => 0))), (q_r27, .inl (cI, 8, .inl (fun _ => 0))), (q_r28, .inl (cI, 8, .inl (fun _ => 0))), (q_r30, .inl (cZ, 260, .inl (fun _ => 0))), (q_r31, .inl (cI, 260, .inl (fun _ => 0))), (q_r32, .inl (cI, 260, .inl (fun _ => 0))), (q_r33, .inl (cI, 260, .inl (fun _ => 0))), (q_r34, .inl (cI, 260, .inl (fun _ => 0))), (q_r36, .inl (cI, 840, .inl (fun _ => 0))), (q_r37, .inl (cI, 840, .inl (fun _ => 0))), (q_r38, .inl (cI, 64, .inl (fun _ => 0))), (q_r40, .inl (cI, 9, .inl (fun _ => 0))), (q_r41, .inl (cI, 400, .inl (fun _ => 0)))]) tyX11 tyX11_ok nmX11 C inX11 hK hP hD hS 0 rfl rfl 41 (by decide) rfl rfl hnm L95 rfl (by decide +kernel) (rfl) rfl (Nat.le_of_ble_eq_true rfl) dX11_init_225 rfl (fun H locs hP hD hS => ?_)
  refine lv_aload_n hx hb dX11_init_228 rfl (lv_at hl 0 rfl) ?_
  refine lv_bipush (v := 29) hx hb dX11_init_229 (by decide) ?_
  refine q_newa (atype := .int) (ty := .int) (N' := 29) (29, .inl (fun _ => 0)) C ACI rfl (fun _ => rfl) hK hP hD hS hA 1 rfl (fun _ => rfl) (by decide) (by decide +kernel) (by decide +kernel) (Nat.le_of_ble_eq_true rfl) (Nat.le_of_ble_eq_true rfl) dX11_init_231 (fun q_r43 H hP hD hS => ?_)
  refine q_putF (ty := .array .int) (w2 := [(h, .inr (11, [.int 0, .ref q_r1, .int 0, .ref q_r3, .int 0, .ref q_r5, .ref q_r6, .ref q_r7, .ref q_r8, .ref q_r9, .int 0, .int 0, .int 0, .int 0, .int 0, .int 0, .int 0, .int (-1), .int 0, .int 0, .ref q_r20, .ref q_r21, .ref q_r22, .ref q_r23, .ref q_r24, .ref q_r25, .ref q_r26, .ref q_r27, .ref q_r28, .int 0, .ref q_r30, .ref q_r31, .ref q_r32, .ref q_r33, .ref q_r34, .int 0, .ref q_r36, .ref q_r37, .ref q_r38, .int 0, .ref q_r40, .ref q_r41, .int 0, .ref q_r43, .null, .int 0, .null, .null, .int 0, .null, .null, .int 0, .null, .null, .null, .null, .null, .null])), (q_r1, .inl (cB, 2000, .inl (fun _ => 0))), (q_r3, .inl (cB, 2000, .inl (fun _ => 0))), (q_r5, .inl (cI, 403, .inl (fun _ => 0))), (q_r6, .inl (cI, 403, .inl (fun _ => 0))), (q_r7, .inl (cI, 403, .inl (fun _ => 0))), (q_r8, .inl (cJ, 403, .inr (.inl (fun _ => 0)))), (q_r9, .inl (cJ, 19, .inr (.inl (fun _ => 0)))), (q_r20, .inl (cI, 2, .inl (fun _ => 0))), (q_r21, .inl (cI, 60, .inl (fun _ => 0))), (q_r22, .inl (cJ, 6, .inr (.inl (fun _ => 0)))), (q_r23, .inl (cI, 2, .inl (fun _ => 0))), (q_r24, .inl (cI, 12, .inl (fun _ => 0))), (q_r25, .inl (cI, 12, .inl (fun _ => 0))), (q_r26, .inl (cI, 2, .inl (fun _ => 0))), (q_r27, .inl (cI, 8, .inl (fun _ => 0))), (q_r28, .inl (cI, 8, .inl (fun _ => 0))), (q_r30, .inl (cZ, 260, .inl (fun _ => 0))), (q_r31, .inl (cI, 260, .inl (fun _ => 0))), (q_r32, .inl (cI, 260, .inl (fun _ => 0))), (q_r33, .inl (cI, 260, .inl (fun _ => 0))), (q_r34, .inl (cI, 260, .inl (fun _ => 0))), (q_r36, .inl (cI, 840, .inl (fun _ => 0))), (q_r37, .inl (cI, 840, .inl (fun _ => 0))), (q_r38, .inl (cI, 64, .inl (fun _ => 0))), (q_r40, .inl (cI, 9, .inl (fun _ => 0))), (q_r41, .inl (cI, 400, .inl (fun _ => 0))), (q_r43, .inl (cI, 29, .inl (fun _ => 0)))]) tyX11 tyX11_ok nmX11 C inX11 hK hP hD hS 0 rfl rfl 43 (by decide) rfl rfl hnm L98 rfl (by decide +kernel) (rfl) rfl (Nat.le_of_ble_eq_true rfl) dX11_init_233 rfl (fun H locs hP hD hS => ?_)
  refine lv_aload_n hx hb dX11_init_236 rfl (lv_at hl 0 rfl) ?_
  refine lv_bipush (v := 29) hx hb dX11_init_237 (by decide) ?_
  refine q_newa (atype := .int) (ty := .int) (N' := 29) (29, .inl (fun _ => 0)) C ACI rfl (fun _ => rfl) hK hP hD hS hA 1 rfl (fun _ => rfl) (by decide) (by decide +kernel) (by decide +kernel) (Nat.le_of_ble_eq_true rfl) (Nat.le_of_ble_eq_true rfl) dX11_init_239 (fun q_r44 H hP hD hS => ?_)
  refine q_putF (ty := .array .int) (w2 := [(h, .inr (11, [.int 0, .ref q_r1, .int 0, .ref q_r3, .int 0, .ref q_r5, .ref q_r6, .ref q_r7, .ref q_r8, .ref q_r9, .int 0, .int 0, .int 0, .int 0, .int 0, .int 0, .int 0, .int (-1), .int 0, .int 0, .ref q_r20, .ref q_r21, .ref q_r22, .ref q_r23, .ref q_r24, .ref q_r25, .ref q_r26, .ref q_r27, .ref q_r28, .int 0, .ref q_r30, .ref q_r31, .ref q_r32, .ref q_r33, .ref q_r34, .int 0, .ref q_r36, .ref q_r37, .ref q_r38, .int 0, .ref q_r40, .ref q_r41, .int 0, .ref q_r43, .ref q_r44, .int 0, .null, .null, .int 0, .null, .null, .int 0, .null, .null, .null, .null, .null, .null])), (q_r1, .inl (cB, 2000, .inl (fun _ => 0))), (q_r3, .inl (cB, 2000, .inl (fun _ => 0))), (q_r5, .inl (cI, 403, .inl (fun _ => 0))), (q_r6, .inl (cI, 403, .inl (fun _ => 0))), (q_r7, .inl (cI, 403, .inl (fun _ => 0))), (q_r8, .inl (cJ, 403, .inr (.inl (fun _ => 0)))), (q_r9, .inl (cJ, 19, .inr (.inl (fun _ => 0)))), (q_r20, .inl (cI, 2, .inl (fun _ => 0))), (q_r21, .inl (cI, 60, .inl (fun _ => 0))), (q_r22, .inl (cJ, 6, .inr (.inl (fun _ => 0)))), (q_r23, .inl (cI, 2, .inl (fun _ => 0))), (q_r24, .inl (cI, 12, .inl (fun _ => 0))), (q_r25, .inl (cI, 12, .inl (fun _ => 0))), (q_r26, .inl (cI, 2, .inl (fun _ => 0))), (q_r27, .inl (cI, 8, .inl (fun _ => 0))), (q_r28, .inl (cI, 8, .inl (fun _ => 0))), (q_r30, .inl (cZ, 260, .inl (fun _ => 0))), (q_r31, .inl (cI, 260, .inl (fun _ => 0))), (q_r32, .inl (cI, 260, .inl (fun _ => 0))), (q_r33, .inl (cI, 260, .inl (fun _ => 0))), (q_r34, .inl (cI, 260, .inl (fun _ => 0))), (q_r36, .inl (cI, 840, .inl (fun _ => 0))), (q_r37, .inl (cI, 840, .inl (fun _ => 0))), (q_r38, .inl (cI, 64, .inl (fun _ => 0))), (q_r40, .inl (cI, 9, .inl (fun _ => 0))), (q_r41, .inl (cI, 400, .inl (fun _ => 0))), (q_r43, .inl (cI, 29, .inl (fun _ => 0))), (q_r44, .inl (cI, 29, .inl (fun _ => 0)))]) tyX11 tyX11_ok nmX11 C inX11 hK hP hD hS 0 rfl rfl 44 (by decide) rfl rfl hnm L101 rfl (by decide +kernel) (rfl) rfl (Nat.le_of_ble_eq_true rfl) dX11_init_241 rfl (fun H locs hP hD hS => ?_)
  refine lv_aload_n hx hb dX11_init_244 rfl (lv_at hl 0 rfl) ?_
  refine lv_bipush (v := 6) hx hb dX11_init_245 (by decide) ?_
  refine q_newa (atype := .int) (ty := .int) (N' := 6) (6, .inl (fun _ => 0)) C ACI rfl (fun _ => rfl) hK hP hD hS hA 1 rfl (fun _ => rfl) (by decide) (by decide +kernel) (by decide +kernel) (Nat.le_of_ble_eq_true rfl) (Nat.le_of_ble_eq_true rfl) dX11_init_247 (fun q_r46 H hP hD hS => ?_)
  refine q_putF (ty := .array .int) (w2 := [(h, .inr (11, [.int 0, .ref q_r1, .int 0, .ref q_r3, .int 0, .ref q_r5, .ref q_r6, .ref q_r7, .ref q_r8, .ref q_r9, .int 0, .int 0, .int 0, .int 0, .int 0, .int 0, .int 0, .int (-1), .int 0, .int 0, .ref q_r20, .ref q_r21, .ref q_r22, .ref q_r23, .ref q_r24, .ref q_r25, .ref q_r26, .ref q_r27, .ref q_r28, .int 0, .ref q_r30, .ref q_r31, .ref q_r32, .ref q_r33, .ref q_r34, .int 0, .ref q_r36, .ref q_r37, .ref q_r38, .int 0, .ref q_r40, .ref q_r41, .int 0, .ref q_r43, .ref q_r44, .int 0, .ref q_r46, .null, .int 0, .null, .null, .int 0, .null, .null, .null, .null, .null, .null])), (q_r1, .inl (cB, 2000, .inl (fun _ => 0))), (q_r3, .inl (cB, 2000, .inl (fun _ => 0))), (q_r5, .inl (cI, 403, .inl (fun _ => 0))), (q_r6, .inl (cI, 403, .inl (fun _ => 0))), (q_r7, .inl (cI, 403, .inl (fun _ => 0))), (q_r8, .inl (cJ, 403, .inr (.inl (fun _ => 0)))), (q_r9, .inl (cJ, 19, .inr (.inl (fun _ => 0)))), (q_r20, .inl (cI, 2, .inl (fun _ => 0))), (q_r21, .inl (cI, 60, .inl (fun _ => 0))), (q_r22, .inl (cJ, 6, .inr (.inl (fun _ => 0)))), (q_r23, .inl (cI, 2, .inl (fun _ => 0))), (q_r24, .inl (cI, 12, .inl (fun _ => 0))), (q_r25, .inl (cI, 12, .inl (fun _ => 0))), (q_r26, .inl (cI, 2, .inl (fun _ => 0))), (q_r27, .inl (cI, 8, .inl (fun _ => 0))), (q_r28, .inl (cI, 8, .inl (fun _ => 0))), (q_r30, .inl (cZ, 260, .inl (fun _ => 0))), (q_r31, .inl (cI, 260, .inl (fun _ => 0))), (q_r32, .inl (cI, 260, .inl (fun _ => 0))), (q_r33, .inl (cI, 260, .inl (fun _ => 0))), (q_r34, .inl (cI, 260, .inl (fun _ => 0))), (q_r36, .inl (cI, 840, .inl (fun _ => 0))), (q_r37, .inl (cI, 840, .inl (fun _ => 0))), (q_r38, .inl (cI, 64, .inl (fun _ => 0))), (q_r40, .inl (cI, 9, .inl (fun _ => 0))), (q_r41, .inl (cI, 400, .inl (fun _ => 0))), (q_r43, .inl (cI, 29, .inl (fun _ => 0))), (q_r44, .inl (cI, 29, .inl (fun _ => 0))), (q_r46, .inl (cI, 6, .inl (fun _ => 0)))]) tyX11 tyX11_ok nmX11 C inX11 hK hP hD hS 0 rfl rfl 46 (by decide) rfl rfl hnm L104 rfl (by decide +kernel) (rfl) rfl (Nat.le_of_ble_eq_true rfl) dX11_init_249 rfl (fun H locs hP hD hS => ?_)
  exact mi_5 l dC dI cB cI cJ cZ cS h C hr hlocks hnm hA hK hN q_r1 q_r3 q_r5 q_r6 q_r7 q_r8 q_r9 q_r20 q_r21 q_r22 q_r23 q_r24 q_r25 q_r26 q_r27 q_r28 q_r30 q_r31 q_r32 q_r33 q_r34 q_r36 q_r37 q_r38 q_r40 q_r41 q_r43 q_r44 q_r46 H locs ls hP hD hS hl

set_option maxHeartbeats 4000000 in
set_option maxRecDepth 100000 in
theorem mi_3 (l : Launch) (dC : Nat → ClassId) (dI : Nat → Nat → Nat) (cB cI cJ cZ cS : ClassId) (h : Nat) {p : Program} {e : Env} {s : State} {m : MethodId} {below : List Frame} {meth : Method} {c : Code} {A : Nat → Prop} (C : CallFix p m c cX11_init 1 s [Value.ref h].toArray wsX11_init yX11_init.cls) (hr : meth.sig.returnType = none) (hlocks : meth.locks = false) (hnm : meth.name = yX11_init.name) (hA : ∀ q, s.heap.size ≤ q → A q) (hK : va_K (dC, dI) vwCl (tysA cB cI cJ cZ cS) s) (hN : nw_ok s) (q_r1 : Nat) (q_r3 : Nat) (q_r5 : Nat) (q_r6 : Nat) (q_r7 : Nat) (q_r8 : Nat) (q_r9 : Nat) (q_r20 : Nat) (q_r21 : Nat) (q_r22 : Nat) (q_r23 : Nat) (q_r24 : Nat) (q_r25 : Nat) (q_r26 : Nat) (q_r27 : Nat) (q_r28 : Nat) (q_r30 : Nat) (H : Heap) (locs : List Loc) (ls : Array Slot) (hP : va_P (dC, dI) vwCl [(h, .inr (11, [.int 0, .ref q_r1, .int 0, .ref q_r3, .int 0, .ref q_r5, .ref q_r6, .ref q_r7, .ref q_r8, .ref q_r9, .int 0, .int 0, .int 0, .int 0, .int 0, .int 0, .int 0, .int (-1), .int 0, .int 0, .ref q_r20, .ref q_r21, .ref q_r22, .ref q_r23, .ref q_r24, .ref q_r25, .ref q_r26, .ref q_r27, .ref q_r28, .int 0, .ref q_r30, .null, .null, .null, .null, .int 0, .null, .null, .null, .int 0, .null, .null, .int 0, .null, .null, .int 0, .null, .null, .int 0, .null, .null, .int 0, .null, .null, .null, .null, .null, .null])), (q_r1, .inl (cB, 2000, .inl (fun _ => 0))), (q_r3, .inl (cB, 2000, .inl (fun _ => 0))), (q_r5, .inl (cI, 403, .inl (fun _ => 0))), (q_r6, .inl (cI, 403, .inl (fun _ => 0))), (q_r7, .inl (cI, 403, .inl (fun _ => 0))), (q_r8, .inl (cJ, 403, .inr (.inl (fun _ => 0)))), (q_r9, .inl (cJ, 19, .inr (.inl (fun _ => 0)))), (q_r20, .inl (cI, 2, .inl (fun _ => 0))), (q_r21, .inl (cI, 60, .inl (fun _ => 0))), (q_r22, .inl (cJ, 6, .inr (.inl (fun _ => 0)))), (q_r23, .inl (cI, 2, .inl (fun _ => 0))), (q_r24, .inl (cI, 12, .inl (fun _ => 0))), (q_r25, .inl (cI, 12, .inl (fun _ => 0))), (q_r26, .inl (cI, 2, .inl (fun _ => 0))), (q_r27, .inl (cI, 8, .inl (fun _ => 0))), (q_r28, .inl (cI, 8, .inl (fun _ => 0))), (q_r30, .inl (cZ, 260, .inl (fun _ => 0)))] H) (hD : va_D A [(h, .inr (11, [.int 0, .ref q_r1, .int 0, .ref q_r3, .int 0, .ref q_r5, .ref q_r6, .ref q_r7, .ref q_r8, .ref q_r9, .int 0, .int 0, .int 0, .int 0, .int 0, .int 0, .int 0, .int (-1), .int 0, .int 0, .ref q_r20, .ref q_r21, .ref q_r22, .ref q_r23, .ref q_r24, .ref q_r25, .ref q_r26, .ref q_r27, .ref q_r28, .int 0, .ref q_r30, .null, .null, .null, .null, .int 0, .null, .null, .null, .int 0, .null, .null, .int 0, .null, .null, .int 0, .null, .null, .int 0, .null, .null, .int 0, .null, .null, .null, .null, .null, .null])), (q_r1, .inl (cB, 2000, .inl (fun _ => 0))), (q_r3, .inl (cB, 2000, .inl (fun _ => 0))), (q_r5, .inl (cI, 403, .inl (fun _ => 0))), (q_r6, .inl (cI, 403, .inl (fun _ => 0))), (q_r7, .inl (cI, 403, .inl (fun _ => 0))), (q_r8, .inl (cJ, 403, .inr (.inl (fun _ => 0)))), (q_r9, .inl (cJ, 19, .inr (.inl (fun _ => 0)))), (q_r20, .inl (cI, 2, .inl (fun _ => 0))), (q_r21, .inl (cI, 60, .inl (fun _ => 0))), (q_r22, .inl (cJ, 6, .inr (.inl (fun _ => 0)))), (q_r23, .inl (cI, 2, .inl (fun _ => 0))), (q_r24, .inl (cI, 12, .inl (fun _ => 0))), (q_r25, .inl (cI, 12, .inl (fun _ => 0))), (q_r26, .inl (cI, 2, .inl (fun _ => 0))), (q_r27, .inl (cI, 8, .inl (fun _ => 0))), (q_r28, .inl (cI, 8, .inl (fun _ => 0))), (q_r30, .inl (cZ, 260, .inl (fun _ => 0)))]) (hS : va_S A s.heap H locs) (hl : lv_has ls 1 [(0, .ref h)]) : W p l e ({ frames := 2, cells := 38, slots := 18381, locals := 48 }) s m [Value.ref h].toArray below meth c H locs 17 6003 (MQ below (va_Qv (fun w => ∃ (a : Nat → Nat) (s9 : RS), InvR s9 ∧ Big s9 ∧ RIR s9 ∧ w = mwS cB cI cJ cZ h a s9) (at_W (dC, dI) (tysA cB cI cJ cZ cS) A) A) [Value.ref h].toArray s 38 18381 A) (F0 m 149 ls []) := by
  obtain ⟨hx, hb, hml, hown, hts⟩ := id C
  have inX11 : ∀ w ∈ u_ws RX11 TX11 58, w ∈ wsX11_init := fun w h => (List.mem_cons_of_mem _ (List.mem_append_right _ h))
  have ACI : Cond.arrayClass .int ∈ wsX11_init := (List.mem_cons_of_mem _ (List.mem_append_left _ (List.mem_append_left _ (List.mem_of_getElem? (i := 6) rfl))))
  have L71 : Cond.fieldLink RX11 71 "GuessFerryModel" "testFrom" "[I" ∈ wsX11_init := (List.mem_cons_of_mem _ (List.mem_append_left _ (List.mem_append_left _ (List.mem_of_getElem? (i := 20) rfl))))
  have L74 : Cond.fieldLink RX11 74 "GuessFerryModel" "testMid" "[I" ∈ wsX11_init := (List.mem_cons_of_mem _ (List.mem_append_left _ (List.mem_append_left _ (List.mem_of_getElem? (i := 21) rfl))))
  have L77 : Cond.fieldLink RX11 77 "GuessFerryModel" "testTo" "[I" ∈ wsX11_init := (List.mem_cons_of_mem _ (List.mem_append_left _ (List.mem_append_left _ (List.mem_of_getElem? (i := 22) rfl))))
  have L80 : Cond.fieldLink RX11 80 "GuessFerryModel" "termTo" "[I" ∈ wsX11_init := (List.mem_cons_of_mem _ (List.mem_append_left _ (List.mem_append_left _ (List.mem_of_getElem? (i := 23) rfl))))
  have L83 : Cond.fieldLink RX11 83 "GuessFerryModel" "code" "[I" ∈ wsX11_init := (List.mem_cons_of_mem _ (List.mem_append_left _ (List.mem_append_left _ (List.mem_of_getElem? (i := 24) rfl))))
  have L86 : Cond.fieldLink RX11 86 "GuessFerryModel" "codeInt" "[I" ∈ wsX11_init := (List.mem_cons_of_mem _ (List.mem_append_left _ (List.mem_append_left _ (List.mem_of_getElem? (i := 25) rfl))))
  refine lv_aload_n hx hb dX11_init_149 rfl (lv_at hl 0 rfl) ?_
  refine lv_sipush (v := 260) hx hb dX11_init_150 (by decide) ?_
  refine q_newa (atype := .int) (ty := .int) (N' := 260) (260, .inl (fun _ => 0)) C ACI rfl (fun _ => rfl) hK hP hD hS hA 1 rfl (fun _ => rfl) (by decide) (by decide +kernel) (by decide +kernel) (Nat.le_of_ble_eq_true rfl) (Nat.le_of_ble_eq_true rfl) dX11_init_153 (fun q_r31 H hP hD hS => ?_)
  refine q_putF (ty := .array .int) (w2 := [(h, .inr (11, [.int 0, .ref q_r1, .int 0, .ref q_r3, .int 0, .ref q_r5, .ref q_r6, .ref q_r7, .ref q_r8, .ref q_r9, .int 0, .int 0, .int 0, .int 0, .int 0, .int 0, .int 0, .int (-1), .int 0, .int 0, .ref q_r20, .ref q_r21, .ref q_r22, .ref q_r23, .ref q_r24, .ref q_r25, .ref q_r26, .ref q_r27, .ref q_r28, .int 0, .ref q_r30, .ref q_r31, .null, .null, .null, .int 0, .null, .null, .null, .int 0, .null, .null, .int 0, .null, .null, .int 0, .null, .null, .int 0, .null, .null, .int 0, .null, .null, .null, .null, .null, .null])), (q_r1, .inl (cB, 2000, .inl (fun _ => 0))), (q_r3, .inl (cB, 2000, .inl (fun _ => 0))), (q_r5, .inl (cI, 403, .inl (fun _ => 0))), (q_r6, .inl (cI, 403, .inl (fun _ => 0))), (q_r7, .inl (cI, 403, .inl (fun _ => 0))), (q_r8, .inl (cJ, 403, .inr (.inl (fun _ => 0)))), (q_r9, .inl (cJ, 19, .inr (.inl (fun _ => 0)))), (q_r20, .inl (cI, 2, .inl (fun _ => 0))), (q_r21, .inl (cI, 60, .inl (fun _ => 0))), (q_r22, .inl (cJ, 6, .inr (.inl (fun _ => 0)))), (q_r23, .inl (cI, 2, .inl (fun _ => 0))), (q_r24, .inl (cI, 12, .inl (fun _ => 0))), (q_r25, .inl (cI, 12, .inl (fun _ => 0))), (q_r26, .inl (cI, 2, .inl (fun _ => 0))), (q_r27, .inl (cI, 8, .inl (fun _ => 0))), (q_r28, .inl (cI, 8, .inl (fun _ => 0))), (q_r30, .inl (cZ, 260, .inl (fun _ => 0))), (q_r31, .inl (cI, 260, .inl (fun _ => 0)))]) tyX11 tyX11_ok nmX11 C inX11 hK hP hD hS 0 rfl rfl 31 (by decide) rfl rfl hnm L71 rfl (by decide +kernel) (rfl) rfl (Nat.le_of_ble_eq_true rfl) dX11_init_155 rfl (fun H locs hP hD hS => ?_)
  refine lv_aload_n hx hb dX11_init_158 rfl (lv_at hl 0 rfl) ?_
  refine lv_sipush (v := 260) hx hb dX11_init_159 (by decide) ?_
  refine q_newa (atype := .int) (ty := .int) (N' := 260) (260, .inl (fun _ => 0)) C ACI rfl (fun _ => rfl) hK hP hD hS hA 1 rfl (fun _ => rfl) (by decide) (by decide +kernel) (by decide +kernel) (Nat.le_of_ble_eq_true rfl) (Nat.le_of_ble_eq_true rfl) dX11_init_162 (fun q_r32 H hP hD hS => ?_)
  refine q_putF (ty := .array .int) (w2 := [(h, .inr (11, [.int 0, .ref q_r1, .int 0, .ref q_r3, .int 0, .ref q_r5, .ref q_r6, .ref q_r7, .ref q_r8, .ref q_r9, .int 0, .int 0, .int 0, .int 0, .int 0, .int 0, .int 0, .int (-1), .int 0, .int 0, .ref q_r20, .ref q_r21, .ref q_r22, .ref q_r23, .ref q_r24, .ref q_r25, .ref q_r26, .ref q_r27, .ref q_r28, .int 0, .ref q_r30, .ref q_r31, .ref q_r32, .null, .null, .int 0, .null, .null, .null, .int 0, .null, .null, .int 0, .null, .null, .int 0, .null, .null, .int 0, .null, .null, .int 0, .null, .null, .null, .null, .null, .null])), (q_r1, .inl (cB, 2000, .inl (fun _ => 0))), (q_r3, .inl (cB, 2000, .inl (fun _ => 0))), (q_r5, .inl (cI, 403, .inl (fun _ => 0))), (q_r6, .inl (cI, 403, .inl (fun _ => 0))), (q_r7, .inl (cI, 403, .inl (fun _ => 0))), (q_r8, .inl (cJ, 403, .inr (.inl (fun _ => 0)))), (q_r9, .inl (cJ, 19, .inr (.inl (fun _ => 0)))), (q_r20, .inl (cI, 2, .inl (fun _ => 0))), (q_r21, .inl (cI, 60, .inl (fun _ => 0))), (q_r22, .inl (cJ, 6, .inr (.inl (fun _ => 0)))), (q_r23, .inl (cI, 2, .inl (fun _ => 0))), (q_r24, .inl (cI, 12, .inl (fun _ => 0))), (q_r25, .inl (cI, 12, .inl (fun _ => 0))), (q_r26, .inl (cI, 2, .inl (fun _ => 0))), (q_r27, .inl (cI, 8, .inl (fun _ => 0))), (q_r28, .inl (cI, 8, .inl (fun _ => 0))), (q_r30, .inl (cZ, 260, .inl (fun _ => 0))), (q_r31, .inl (cI, 260, .inl (fun _ => 0))), (q_r32, .inl (cI, 260, .inl (fun _ => 0)))]) tyX11 tyX11_ok nmX11 C inX11 hK hP hD hS 0 rfl rfl 32 (by decide) rfl rfl hnm L74 rfl (by decide +kernel) (rfl) rfl (Nat.le_of_ble_eq_true rfl) dX11_init_164 rfl (fun H locs hP hD hS => ?_)
  refine lv_aload_n hx hb dX11_init_167 rfl (lv_at hl 0 rfl) ?_
  refine lv_sipush (v := 260) hx hb dX11_init_168 (by decide) ?_
  refine q_newa (atype := .int) (ty := .int) (N' := 260) (260, .inl (fun _ => 0)) C ACI rfl (fun _ => rfl) hK hP hD hS hA 1 rfl (fun _ => rfl) (by decide) (by decide +kernel) (by decide +kernel) (Nat.le_of_ble_eq_true rfl) (Nat.le_of_ble_eq_true rfl) dX11_init_171 (fun q_r33 H hP hD hS => ?_)
  refine q_putF (ty := .array .int) (w2 := [(h, .inr (11, [.int 0, .ref q_r1, .int 0, .ref q_r3, .int 0, .ref q_r5, .ref q_r6, .ref q_r7, .ref q_r8, .ref q_r9, .int 0, .int 0, .int 0, .int 0, .int 0, .int 0, .int 0, .int (-1), .int 0, .int 0, .ref q_r20, .ref q_r21, .ref q_r22, .ref q_r23, .ref q_r24, .ref q_r25, .ref q_r26, .ref q_r27, .ref q_r28, .int 0, .ref q_r30, .ref q_r31, .ref q_r32, .ref q_r33, .null, .int 0, .null, .null, .null, .int 0, .null, .null, .int 0, .null, .null, .int 0, .null, .null, .int 0, .null, .null, .int 0, .null, .null, .null, .null, .null, .null])), (q_r1, .inl (cB, 2000, .inl (fun _ => 0))), (q_r3, .inl (cB, 2000, .inl (fun _ => 0))), (q_r5, .inl (cI, 403, .inl (fun _ => 0))), (q_r6, .inl (cI, 403, .inl (fun _ => 0))), (q_r7, .inl (cI, 403, .inl (fun _ => 0))), (q_r8, .inl (cJ, 403, .inr (.inl (fun _ => 0)))), (q_r9, .inl (cJ, 19, .inr (.inl (fun _ => 0)))), (q_r20, .inl (cI, 2, .inl (fun _ => 0))), (q_r21, .inl (cI, 60, .inl (fun _ => 0))), (q_r22, .inl (cJ, 6, .inr (.inl (fun _ => 0)))), (q_r23, .inl (cI, 2, .inl (fun _ => 0))), (q_r24, .inl (cI, 12, .inl (fun _ => 0))), (q_r25, .inl (cI, 12, .inl (fun _ => 0))), (q_r26, .inl (cI, 2, .inl (fun _ => 0))), (q_r27, .inl (cI, 8, .inl (fun _ => 0))), (q_r28, .inl (cI, 8, .inl (fun _ => 0))), (q_r30, .inl (cZ, 260, .inl (fun _ => 0))), (q_r31, .inl (cI, 260, .inl (fun _ => 0))), (q_r32, .inl (cI, 260, .inl (fun _ => 0))), (q_r33, .inl (cI, 260, .inl (fun _ => 0)))]) tyX11 tyX11_ok nmX11 C inX11 hK hP hD hS 0 rfl rfl 33 (by decide) rfl rfl hnm L77 rfl (by decide +kernel) (rfl) rfl (Nat.le_of_ble_eq_true rfl) dX11_init_173 rfl (fun H locs hP hD hS => ?_)
  refine lv_aload_n hx hb dX11_init_176 rfl (lv_at hl 0 rfl) ?_
  refine lv_sipush (v := 260) hx hb dX11_init_177 (by decide) ?_
  refine q_newa (atype := .int) (ty := .int) (N' := 260) (260, .inl (fun _ => 0)) C ACI rfl (fun _ => rfl) hK hP hD hS hA 1 rfl (fun _ => rfl) (by decide) (by decide +kernel) (by decide +kernel) (Nat.le_of_ble_eq_true rfl) (Nat.le_of_ble_eq_true rfl) dX11_init_180 (fun q_r34 H hP hD hS => ?_)
  refine q_putF (ty := .array .int) (w2 := [(h, .inr (11, [.int 0, .ref q_r1, .int 0, .ref q_r3, .int 0, .ref q_r5, .ref q_r6, .ref q_r7, .ref q_r8, .ref q_r9, .int 0, .int 0, .int 0, .int 0, .int 0, .int 0, .int 0, .int (-1), .int 0, .int 0, .ref q_r20, .ref q_r21, .ref q_r22, .ref q_r23, .ref q_r24, .ref q_r25, .ref q_r26, .ref q_r27, .ref q_r28, .int 0, .ref q_r30, .ref q_r31, .ref q_r32, .ref q_r33, .ref q_r34, .int 0, .null, .null, .null, .int 0, .null, .null, .int 0, .null, .null, .int 0, .null, .null, .int 0, .null, .null, .int 0, .null, .null, .null, .null, .null, .null])), (q_r1, .inl (cB, 2000, .inl (fun _ => 0))), (q_r3, .inl (cB, 2000, .inl (fun _ => 0))), (q_r5, .inl (cI, 403, .inl (fun _ => 0))), (q_r6, .inl (cI, 403, .inl (fun _ => 0))), (q_r7, .inl (cI, 403, .inl (fun _ => 0))), (q_r8, .inl (cJ, 403, .inr (.inl (fun _ => 0)))), (q_r9, .inl (cJ, 19, .inr (.inl (fun _ => 0)))), (q_r20, .inl (cI, 2, .inl (fun _ => 0))), (q_r21, .inl (cI, 60, .inl (fun _ => 0))), (q_r22, .inl (cJ, 6, .inr (.inl (fun _ => 0)))), (q_r23, .inl (cI, 2, .inl (fun _ => 0))), (q_r24, .inl (cI, 12, .inl (fun _ => 0))), (q_r25, .inl (cI, 12, .inl (fun _ => 0))), (q_r26, .inl (cI, 2, .inl (fun _ => 0))), (q_r27, .inl (cI, 8, .inl (fun _ => 0))), (q_r28, .inl (cI, 8, .inl (fun _ => 0))), (q_r30, .inl (cZ, 260, .inl (fun _ => 0))), (q_r31, .inl (cI, 260, .inl (fun _ => 0))), (q_r32, .inl (cI, 260, .inl (fun _ => 0))), (q_r33, .inl (cI, 260, .inl (fun _ => 0))), (q_r34, .inl (cI, 260, .inl (fun _ => 0)))]) tyX11 tyX11_ok nmX11 C inX11 hK hP hD hS 0 rfl rfl 34 (by decide) rfl rfl hnm L80 rfl (by decide +kernel) (rfl) rfl (Nat.le_of_ble_eq_true rfl) dX11_init_182 rfl (fun H locs hP hD hS => ?_)
  refine lv_aload_n hx hb dX11_init_185 rfl (lv_at hl 0 rfl) ?_
  refine lv_sipush (v := 840) hx hb dX11_init_186 (by decide) ?_
  refine q_newa (atype := .int) (ty := .int) (N' := 840) (840, .inl (fun _ => 0)) C ACI rfl (fun _ => rfl) hK hP hD hS hA 1 rfl (fun _ => rfl) (by decide) (by decide +kernel) (by decide +kernel) (Nat.le_of_ble_eq_true rfl) (Nat.le_of_ble_eq_true rfl) dX11_init_189 (fun q_r36 H hP hD hS => ?_)
  refine q_putF (ty := .array .int) (w2 := [(h, .inr (11, [.int 0, .ref q_r1, .int 0, .ref q_r3, .int 0, .ref q_r5, .ref q_r6, .ref q_r7, .ref q_r8, .ref q_r9, .int 0, .int 0, .int 0, .int 0, .int 0, .int 0, .int 0, .int (-1), .int 0, .int 0, .ref q_r20, .ref q_r21, .ref q_r22, .ref q_r23, .ref q_r24, .ref q_r25, .ref q_r26, .ref q_r27, .ref q_r28, .int 0, .ref q_r30, .ref q_r31, .ref q_r32, .ref q_r33, .ref q_r34, .int 0, .ref q_r36, .null, .null, .int 0, .null, .null, .int 0, .null, .null, .int 0, .null, .null, .int 0, .null, .null, .int 0, .null, .null, .null, .null, .null, .null])), (q_r1, .inl (cB, 2000, .inl (fun _ => 0))), (q_r3, .inl (cB, 2000, .inl (fun _ => 0))), (q_r5, .inl (cI, 403, .inl (fun _ => 0))), (q_r6, .inl (cI, 403, .inl (fun _ => 0))), (q_r7, .inl (cI, 403, .inl (fun _ => 0))), (q_r8, .inl (cJ, 403, .inr (.inl (fun _ => 0)))), (q_r9, .inl (cJ, 19, .inr (.inl (fun _ => 0)))), (q_r20, .inl (cI, 2, .inl (fun _ => 0))), (q_r21, .inl (cI, 60, .inl (fun _ => 0))), (q_r22, .inl (cJ, 6, .inr (.inl (fun _ => 0)))), (q_r23, .inl (cI, 2, .inl (fun _ => 0))), (q_r24, .inl (cI, 12, .inl (fun _ => 0))), (q_r25, .inl (cI, 12, .inl (fun _ => 0))), (q_r26, .inl (cI, 2, .inl (fun _ => 0))), (q_r27, .inl (cI, 8, .inl (fun _ => 0))), (q_r28, .inl (cI, 8, .inl (fun _ => 0))), (q_r30, .inl (cZ, 260, .inl (fun _ => 0))), (q_r31, .inl (cI, 260, .inl (fun _ => 0))), (q_r32, .inl (cI, 260, .inl (fun _ => 0))), (q_r33, .inl (cI, 260, .inl (fun _ => 0))), (q_r34, .inl (cI, 260, .inl (fun _ => 0))), (q_r36, .inl (cI, 840, .inl (fun _ => 0)))]) tyX11 tyX11_ok nmX11 C inX11 hK hP hD hS 0 rfl rfl 36 (by decide) rfl rfl hnm L83 rfl (by decide +kernel) (rfl) rfl (Nat.le_of_ble_eq_true rfl) dX11_init_191 rfl (fun H locs hP hD hS => ?_)
  refine lv_aload_n hx hb dX11_init_194 rfl (lv_at hl 0 rfl) ?_
  refine lv_sipush (v := 840) hx hb dX11_init_195 (by decide) ?_
  refine q_newa (atype := .int) (ty := .int) (N' := 840) (840, .inl (fun _ => 0)) C ACI rfl (fun _ => rfl) hK hP hD hS hA 1 rfl (fun _ => rfl) (by decide) (by decide +kernel) (by decide +kernel) (Nat.le_of_ble_eq_true rfl) (Nat.le_of_ble_eq_true rfl) dX11_init_198 (fun q_r37 H hP hD hS => ?_)
  refine q_putF (ty := .array .int) (w2 := [(h, .inr (11, [.int 0, .ref q_r1, .int 0, .ref q_r3, .int 0, .ref q_r5, .ref q_r6, .ref q_r7, .ref q_r8, .ref q_r9, .int 0, .int 0, .int 0, .int 0, .int 0, .int 0, .int 0, .int (-1), .int 0, .int 0, .ref q_r20, .ref q_r21, .ref q_r22, .ref q_r23, .ref q_r24, .ref q_r25, .ref q_r26, .ref q_r27, .ref q_r28, .int 0, .ref q_r30, .ref q_r31, .ref q_r32, .ref q_r33, .ref q_r34, .int 0, .ref q_r36, .ref q_r37, .null, .int 0, .null, .null, .int 0, .null, .null, .int 0, .null, .null, .int 0, .null, .null, .int 0, .null, .null, .null, .null, .null, .null])), (q_r1, .inl (cB, 2000, .inl (fun _ => 0))), (q_r3, .inl (cB, 2000, .inl (fun _ => 0))), (q_r5, .inl (cI, 403, .inl (fun _ => 0))), (q_r6, .inl (cI, 403, .inl (fun _ => 0))), (q_r7, .inl (cI, 403, .inl (fun _ => 0))), (q_r8, .inl (cJ, 403, .inr (.inl (fun _ => 0)))), (q_r9, .inl (cJ, 19, .inr (.inl (fun _ => 0)))), (q_r20, .inl (cI, 2, .inl (fun _ => 0))), (q_r21, .inl (cI, 60, .inl (fun _ => 0))), (q_r22, .inl (cJ, 6, .inr (.inl (fun _ => 0)))), (q_r23, .inl (cI, 2, .inl (fun _ => 0))), (q_r24, .inl (cI, 12, .inl (fun _ => 0))), (q_r25, .inl (cI, 12, .inl (fun _ => 0))), (q_r26, .inl (cI, 2, .inl (fun _ => 0))), (q_r27, .inl (cI, 8, .inl (fun _ => 0))), (q_r28, .inl (cI, 8, .inl (fun _ => 0))), (q_r30, .inl (cZ, 260, .inl (fun _ => 0))), (q_r31, .inl (cI, 260, .inl (fun _ => 0))), (q_r32, .inl (cI, 260, .inl (fun _ => 0))), (q_r33, .inl (cI, 260, .inl (fun _ => 0))), (q_r34, .inl (cI, 260, .inl (fun _ => 0))), (q_r36, .inl (cI, 840, .inl (fun _ => 0))), (q_r37, .inl (cI, 840, .inl (fun _ => 0)))]) tyX11 tyX11_ok nmX11 C inX11 hK hP hD hS 0 rfl rfl 37 (by decide) rfl rfl hnm L86 rfl (by decide +kernel) (rfl) rfl (Nat.le_of_ble_eq_true rfl) dX11_init_200 rfl (fun H locs hP hD hS => ?_)
  exact mi_4 l dC dI cB cI cJ cZ cS h C hr hlocks hnm hA hK hN q_r1 q_r3 q_r5 q_r6 q_r7 q_r8 q_r9 q_r20 q_r21 q_r22 q_r23 q_r24 q_r25 q_r26 q_r27 q_r28 q_r30 q_r31 q_r32 q_r33 q_r34 q_r36 q_r37 H locs ls hP hD hS hl
end
section
theorem dX11_init_4 : decode cX11_init 4 = .ok (.aload_n 0, 1) := dc1_42 (by decide +kernel)
theorem dX11_init_5 : decode cX11_init 5 = .ok (.sipush 2000, 3) := dcs_17 (n := 2000) (by decide +kernel)
theorem dX11_init_8 : decode cX11_init 8 = .ok (.newarray .byte, 2) := by decide +kernel
theorem dX11_init_10 : decode cX11_init 10 = .ok (.putfield 13, 3) := dcw_181 (by decide +kernel)
theorem dX11_init_13 : decode cX11_init 13 = .ok (.aload_n 0, 1) := dc1_42 (by decide +kernel)
theorem dX11_init_14 : decode cX11_init 14 = .ok (.sipush 2000, 3) := dcs_17 (n := 2000) (by decide +kernel)
theorem dX11_init_17 : decode cX11_init 17 = .ok (.newarray .byte, 2) := by decide +kernel
theorem dX11_init_19 : decode cX11_init 19 = .ok (.putfield 17, 3) := dcw_181 (by decide +kernel)
theorem dX11_init_22 : decode cX11_init 22 = .ok (.aload_n 0, 1) := dc1_42 (by decide +kernel)
theorem dX11_init_23 : decode cX11_init 23 = .ok (.sipush 403, 3) := dcs_17 (n := 403) (by decide +kernel)
theorem dX11_init_26 : decode cX11_init 26 = .ok (.newarray .int, 2) := by decide +kernel
theorem dX11_init_28 : decode cX11_init 28 = .ok (.putfield 20, 3) := dcw_181 (by decide +kernel)
theorem dX11_init_31 : decode cX11_init 31 = .ok (.aload_n 0, 1) := dc1_42 (by decide +kernel)
theorem dX11_init_32 : decode cX11_init 32 = .ok (.sipush 403, 3) := dcs_17 (n := 403) (by decide +kernel)
theorem dX11_init_35 : decode cX11_init 35 = .ok (.newarray .int, 2) := by decide +kernel
theorem dX11_init_37 : decode cX11_init 37 = .ok (.putfield 24, 3) := dcw_181 (by decide +kernel)
theorem dX11_init_40 : decode cX11_init 40 = .ok (.aload_n 0, 1) := dc1_42 (by decide +kernel)
theorem dX11_init_41 : decode cX11_init 41 = .ok (.sipush 403, 3) := dcs_17 (n := 403) (by decide +kernel)
theorem dX11_init_44 : decode cX11_init 44 = .ok (.newarray .int, 2) := by decide +kernel
theorem dX11_init_46 : decode cX11_init 46 = .ok (.putfield 27, 3) := dcw_181 (by decide +kernel)
theorem dX11_init_49 : decode cX11_init 49 = .ok (.aload_n 0, 1) := dc1_42 (by decide +kernel)
theorem dX11_init_50 : decode cX11_init 50 = .ok (.sipush 403, 3) := dcs_17 (n := 403) (by decide +kernel)
theorem dX11_init_53 : decode cX11_init 53 = .ok (.newarray .long, 2) := by decide +kernel
theorem dX11_init_55 : decode cX11_init 55 = .ok (.putfield 30, 3) := dcw_181 (by decide +kernel)
theorem dX11_init_58 : decode cX11_init 58 = .ok (.aload_n 0, 1) := dc1_42 (by decide +kernel)
theorem dX11_init_59 : decode cX11_init 59 = .ok (.bipush 19, 2) := dcb_16 (n := 19) (by decide +kernel)
theorem dX11_init_61 : decode cX11_init 61 = .ok (.newarray .long, 2) := by decide +kernel
theorem dX11_init_63 : decode cX11_init 63 = .ok (.putfield 34, 3) := dcw_181 (by decide +kernel)
theorem dX11_init_66 : decode cX11_init 66 = .ok (.aload_n 0, 1) := dc1_42 (by decide +kernel)
theorem dX11_init_67 : decode cX11_init 67 = .ok (.iconst (-1), 1) := dc1_2 (by decide +kernel)
theorem dX11_init_68 : decode cX11_init 68 = .ok (.putfield 37, 3) := dcw_181 (by decide +kernel)
theorem dX11_init_71 : decode cX11_init 71 = .ok (.aload_n 0, 1) := dc1_42 (by decide +kernel)
theorem dX11_init_72 : decode cX11_init 72 = .ok (.iconst 2, 1) := dc1_5 (by decide +kernel)
theorem dX11_init_73 : decode cX11_init 73 = .ok (.newarray .int, 2) := by decide +kernel
theorem dX11_init_75 : decode cX11_init 75 = .ok (.putfield 40, 3) := dcw_181 (by decide +kernel)
theorem dX11_init_78 : decode cX11_init 78 = .ok (.aload_n 0, 1) := dc1_42 (by decide +kernel)
theorem dX11_init_79 : decode cX11_init 79 = .ok (.bipush 60, 2) := dcb_16 (n := 60) (by decide +kernel)
theorem dX11_init_81 : decode cX11_init 81 = .ok (.newarray .int, 2) := by decide +kernel
theorem dX11_init_83 : decode cX11_init 83 = .ok (.putfield 43, 3) := dcw_181 (by decide +kernel)
theorem dX11_init_86 : decode cX11_init 86 = .ok (.aload_n 0, 1) := dc1_42 (by decide +kernel)
theorem dX11_init_87 : decode cX11_init 87 = .ok (.bipush 6, 2) := dcb_16 (n := 6) (by decide +kernel)
theorem dX11_init_89 : decode cX11_init 89 = .ok (.newarray .long, 2) := by decide +kernel
theorem dX11_init_91 : decode cX11_init 91 = .ok (.putfield 46, 3) := dcw_181 (by decide +kernel)
theorem dX11_init_94 : decode cX11_init 94 = .ok (.aload_n 0, 1) := dc1_42 (by decide +kernel)
theorem dX11_init_95 : decode cX11_init 95 = .ok (.iconst 2, 1) := dc1_5 (by decide +kernel)
theorem dX11_init_96 : decode cX11_init 96 = .ok (.newarray .int, 2) := by decide +kernel
theorem dX11_init_98 : decode cX11_init 98 = .ok (.putfield 49, 3) := dcw_181 (by decide +kernel)
theorem dX11_init_101 : decode cX11_init 101 = .ok (.aload_n 0, 1) := dc1_42 (by decide +kernel)
theorem dX11_init_102 : decode cX11_init 102 = .ok (.bipush 12, 2) := dcb_16 (n := 12) (by decide +kernel)
theorem dX11_init_104 : decode cX11_init 104 = .ok (.newarray .int, 2) := by decide +kernel
theorem dX11_init_106 : decode cX11_init 106 = .ok (.putfield 52, 3) := dcw_181 (by decide +kernel)
theorem dX11_init_109 : decode cX11_init 109 = .ok (.aload_n 0, 1) := dc1_42 (by decide +kernel)
theorem dX11_init_110 : decode cX11_init 110 = .ok (.bipush 12, 2) := dcb_16 (n := 12) (by decide +kernel)
theorem dX11_init_112 : decode cX11_init 112 = .ok (.newarray .int, 2) := by decide +kernel
theorem dX11_init_114 : decode cX11_init 114 = .ok (.putfield 55, 3) := dcw_181 (by decide +kernel)
theorem dX11_init_117 : decode cX11_init 117 = .ok (.aload_n 0, 1) := dc1_42 (by decide +kernel)
theorem dX11_init_118 : decode cX11_init 118 = .ok (.iconst 2, 1) := dc1_5 (by decide +kernel)
theorem dX11_init_119 : decode cX11_init 119 = .ok (.newarray .int, 2) := by decide +kernel
theorem dX11_init_121 : decode cX11_init 121 = .ok (.putfield 58, 3) := dcw_181 (by decide +kernel)
theorem dX11_init_124 : decode cX11_init 124 = .ok (.aload_n 0, 1) := dc1_42 (by decide +kernel)
theorem dX11_init_125 : decode cX11_init 125 = .ok (.bipush 8, 2) := dcb_16 (n := 8) (by decide +kernel)
theorem dX11_init_127 : decode cX11_init 127 = .ok (.newarray .int, 2) := by decide +kernel
theorem dX11_init_129 : decode cX11_init 129 = .ok (.putfield 61, 3) := dcw_181 (by decide +kernel)
theorem dX11_init_132 : decode cX11_init 132 = .ok (.aload_n 0, 1) := dc1_42 (by decide +kernel)
theorem dX11_init_133 : decode cX11_init 133 = .ok (.bipush 8, 2) := dcb_16 (n := 8) (by decide +kernel)
theorem dX11_init_135 : decode cX11_init 135 = .ok (.newarray .int, 2) := by decide +kernel
theorem dX11_init_137 : decode cX11_init 137 = .ok (.putfield 64, 3) := dcw_181 (by decide +kernel)
theorem dX11_init_140 : decode cX11_init 140 = .ok (.aload_n 0, 1) := dc1_42 (by decide +kernel)
theorem dX11_init_141 : decode cX11_init 141 = .ok (.sipush 260, 3) := dcs_17 (n := 260) (by decide +kernel)
theorem dX11_init_144 : decode cX11_init 144 = .ok (.newarray .boolean, 2) := by decide +kernel
theorem dX11_init_146 : decode cX11_init 146 = .ok (.putfield 67, 3) := dcw_181 (by decide +kernel)
set_option maxHeartbeats 4000000 in
set_option maxRecDepth 100000 in
theorem mi_2 (l : Launch) (dC : Nat → ClassId) (dI : Nat → Nat → Nat) (cB cI cJ cZ cS : ClassId) (h : Nat) {p : Program} {e : Env} {s : State} {m : MethodId} {below : List Frame} {meth : Method} {c : Code} {A : Nat → Prop} (C : CallFix p m c cX11_init 1 s [Value.ref h].toArray wsX11_init yX11_init.cls) (hr : meth.sig.returnType = none) (hlocks : meth.locks = false) (hnm : meth.name = yX11_init.name) (hA : ∀ q, s.heap.size ≤ q → A q) (hK : va_K (dC, dI) vwCl (tysA cB cI cJ cZ cS) s) (hN : nw_ok s) (q_r1 : Nat) (q_r3 : Nat) (q_r5 : Nat) (q_r6 : Nat) (q_r7 : Nat) (q_r8 : Nat) (q_r9 : Nat) (q_r20 : Nat) (q_r21 : Nat) (q_r22 : Nat) (q_r23 : Nat) (H : Heap) (locs : List Loc) (ls : Array Slot) (hP : va_P (dC, dI) vwCl [(h, .inr (11, [.int 0, .ref q_r1, .int 0, .ref q_r3, .int 0, .ref q_r5, .ref q_r6, .ref q_r7, .ref q_r8, .ref q_r9, .int 0, .int 0, .int 0, .int 0, .int 0, .int 0, .int 0, .int (-1), .int 0, .int 0, .ref q_r20, .ref q_r21, .ref q_r22, .ref q_r23, .null, .null, .null, .null, .null, .int 0, .null, .null, .null, .null, .null, .int 0, .null, .null, .null, .int 0, .null, .null, .int 0, .null, .null, .int 0, .null, .null, .int 0, .null, .null, .int 0, .null, .null, .null, .null, .null, .null])), (q_r1, .inl (cB, 2000, .inl (fun _ => 0))), (q_r3, .inl (cB, 2000, .inl (fun _ => 0))), (q_r5, .inl (cI, 403, .inl (fun _ => 0))), (q_r6, .inl (cI, 403, .inl (fun _ => 0))), (q_r7, .inl (cI, 403, .inl (fun _ => 0))), (q_r8, .inl (cJ, 403, .inr (.inl (fun _ => 0)))), (q_r9, .inl (cJ, 19, .inr (.inl (fun _ => 0)))), (q_r20, .inl (cI, 2, .inl (fun _ => 0))), (q_r21, .inl (cI, 60, .inl (fun _ => 0))), (q_r22, .inl (cJ, 6, .inr (.inl (fun _ => 0)))), (q_r23, .inl (cI, 2, .inl (fun _ => 0)))] H) (hD : va_D A [(h, .inr (11, [.int 0, .ref q_r1, .int 0, .ref q_r3, .int 0, .ref q_r5, .ref q_r6, .ref q_r7, .ref q_r8, .ref q_r9, .int 0, .int 0, .int 0, .int 0, .int 0, .int 0, .int 0, .int (-1), .int 0, .int 0, .ref q_r20, .ref q_r21, .ref q_r22, .ref q_r23, .null, .null, .null, .null, .null, .int 0, .null, .null, .null, .null, .null, .int 0, .null, .null, .null, .int 0, .null, .null, .int 0, .null, .null, .int 0, .null, .null, .int 0, .null, .null, .int 0, .null, .null, .null, .null, .null, .null])), (q_r1, .inl (cB, 2000, .inl (fun _ => 0))), (q_r3, .inl (cB, 2000, .inl (fun _ => 0))), (q_r5, .inl (cI, 403, .inl (fun _ => 0))), (q_r6, .inl (cI, 403, .inl (fun _ => 0))), (q_r7, .inl (cI, 403, .inl (fun _ => 0))), (q_r8, .inl (cJ, 403, .inr (.inl (fun _ => 0)))), (q_r9, .inl (cJ, 19, .inr (.inl (fun _ => 0)))), (q_r20, .inl (cI, 2, .inl (fun _ => 0))), (q_r21, .inl (cI, 60, .inl (fun _ => 0))), (q_r22, .inl (cJ, 6, .inr (.inl (fun _ => 0)))), (q_r23, .inl (cI, 2, .inl (fun _ => 0)))]) (hS : va_S A s.heap H locs) (hl : lv_has ls 1 [(0, .ref h)]) : W p l e ({ frames := 2, cells := 38, slots := 18381, locals := 48 }) s m [Value.ref h].toArray below meth c H locs 11 5701 (MQ below (va_Qv (fun w => ∃ (a : Nat → Nat) (s9 : RS), InvR s9 ∧ Big s9 ∧ RIR s9 ∧ w = mwS cB cI cJ cZ h a s9) (at_W (dC, dI) (tysA cB cI cJ cZ cS) A) A) [Value.ref h].toArray s 38 18381 A) (F0 m 101 ls []) := by
  obtain ⟨hx, hb, hml, hown, hts⟩ := id C
  have inX11 : ∀ w ∈ u_ws RX11 TX11 58, w ∈ wsX11_init := fun w h => (List.mem_cons_of_mem _ (List.mem_append_right _ h))
  have ACI : Cond.arrayClass .int ∈ wsX11_init := (List.mem_cons_of_mem _ (List.mem_append_left _ (List.mem_append_left _ (List.mem_of_getElem? (i := 6) rfl))))
  have ACZ : Cond.arrayClass .boolean ∈ wsX11_init := (List.mem_cons_of_mem _ (List.mem_append_left _ (List.mem_append_left _ (List.mem_of_getElem? (i := 18) rfl))))
  have L52 : Cond.fieldLink RX11 52 "GuessFerryModel" "heavyOf" "[I" ∈ wsX11_init := (List.mem_cons_of_mem _ (List.mem_append_left _ (List.mem_append_left _ (List.mem_of_getElem? (i := 16) rfl))))
  have L55 : Cond.fieldLink RX11 55 "GuessFerryModel" "nerveOf" "[I" ∈ wsX11_init := (List.mem_cons_of_mem _ (List.mem_append_left _ (List.mem_append_left _ (List.mem_of_getElem? (i := 17) rfl))))
  have L58 : Cond.fieldLink RX11 58 "GuessFerryModel" "seed" "[I" ∈ wsX11_init := (List.mem_cons_of_mem _ (List.mem_append_left _ (List.mem_append_right _ (List.mem_append_right _ (List.mem_append_right _ (List.mem_append_left _ (List.mem_cons_of_mem _ (List.mem_append_left _ (List.mem_of_getElem? (i := 2) rfl)))))))))
  have L61 : Cond.fieldLink RX11 61 "GuessFerryModel" "lawFirst" "[I" ∈ wsX11_init := (List.mem_cons_of_mem _ (List.mem_append_left _ (List.mem_append_right _ (List.mem_append_left _ (List.mem_cons_of_mem _ (List.mem_append_left _ (List.mem_of_getElem? (i := 3) rfl)))))))
  have L64 : Cond.fieldLink RX11 64 "GuessFerryModel" "lawLast" "[I" ∈ wsX11_init := (List.mem_cons_of_mem _ (List.mem_append_left _ (List.mem_append_right _ (List.mem_append_left _ (List.mem_cons_of_mem _ (List.mem_append_left _ (List.mem_of_getElem? (i := 4) rfl)))))))
  have L67 : Cond.fieldLink RX11 67 "GuessFerryModel" "hasTest" "[Z" ∈ wsX11_init := (List.mem_cons_of_mem _ (List.mem_append_left _ (List.mem_append_left _ (List.mem_of_getElem? (i := 19) rfl))))
  refine lv_aload_n hx hb dX11_init_101 rfl (lv_at hl 0 rfl) ?_
  refine lv_bipush (v := 12) hx hb dX11_init_102 (by decide) ?_
  refine q_newa (atype := .int) (ty := .int) (N' := 12) (12, .inl (fun _ => 0)) C ACI rfl (fun _ => rfl) hK hP hD hS hA 1 rfl (fun _ => rfl) (by decide) (by decide +kernel) (by decide +kernel) (Nat.le_of_ble_eq_true rfl) (Nat.le_of_ble_eq_true rfl) dX11_init_104 (fun q_r24 H hP hD hS => ?_)
  refine q_putF (ty := .array .int) (w2 := [(h, .inr (11, [.int 0, .ref q_r1, .int 0, .ref q_r3, .int 0, .ref q_r5, .ref q_r6, .ref q_r7, .ref q_r8, .ref q_r9, .int 0, .int 0, .int 0, .int 0, .int 0, .int 0, .int 0, .int (-1), .int 0, .int 0, .ref q_r20, .ref q_r21, .ref q_r22, .ref q_r23, .ref q_r24, .null, .null, .null, .null, .int 0, .null, .null, .null, .null, .null, .int 0, .null, .null, .null, .int 0, .null, .null, .int 0, .null, .null, .int 0, .null, .null, .int 0, .null, .null, .int 0, .null, .null, .null, .null, .null, .null])), (q_r1, .inl (cB, 2000, .inl (fun _ => 0))), (q_r3, .inl (cB, 2000, .inl (fun _ => 0))), (q_r5, .inl (cI, 403, .inl (fun _ => 0))), (q_r6, .inl (cI, 403, .inl (fun _ => 0))), (q_r7, .inl (cI, 403, .inl (fun _ => 0))), (q_r8, .inl (cJ, 403, .inr (.inl (fun _ => 0)))), (q_r9, .inl (cJ, 19, .inr (.inl (fun _ => 0)))), (q_r20, .inl (cI, 2, .inl (fun _ => 0))), (q_r21, .inl (cI, 60, .inl (fun _ => 0))), (q_r22, .inl (cJ, 6, .inr (.inl (fun _ => 0)))), (q_r23, .inl (cI, 2, .inl (fun _ => 0))), (q_r24, .inl (cI, 12, .inl (fun _ => 0)))]) tyX11 tyX11_ok nmX11 C inX11 hK hP hD hS 0 rfl rfl 24 (by decide) rfl rfl hnm L52 rfl (by decide +kernel) (rfl) rfl (Nat.le_of_ble_eq_true rfl) dX11_init_106 rfl (fun H locs hP hD hS => ?_)
  refine lv_aload_n hx hb dX11_init_109 rfl (lv_at hl 0 rfl) ?_
  refine lv_bipush (v := 12) hx hb dX11_init_110 (by decide) ?_
  refine q_newa (atype := .int) (ty := .int) (N' := 12) (12, .inl (fun _ => 0)) C ACI rfl (fun _ => rfl) hK hP hD hS hA 1 rfl (fun _ => rfl) (by decide) (by decide +kernel) (by decide +kernel) (Nat.le_of_ble_eq_true rfl) (Nat.le_of_ble_eq_true rfl) dX11_init_112 (fun q_r25 H hP hD hS => ?_)
  refine q_putF (ty := .array .int) (w2 := [(h, .inr (11, [.int 0, .ref q_r1, .int 0, .ref q_r3, .int 0, .ref q_r5, .ref q_r6, .ref q_r7, .ref q_r8, .ref q_r9, .int 0, .int 0, .int 0, .int 0, .int 0, .int 0, .int 0, .int (-1), .int 0, .int 0, .ref q_r20, .ref q_r21, .ref q_r22, .ref q_r23, .ref q_r24, .ref q_r25, .null, .null, .null, .int 0, .null, .null, .null, .null, .null, .int 0, .null, .null, .null, .int 0, .null, .null, .int 0, .null, .null, .int 0, .null, .null, .int 0, .null, .null, .int 0, .null, .null, .null, .null, .null, .null])), (q_r1, .inl (cB, 2000, .inl (fun _ => 0))), (q_r3, .inl (cB, 2000, .inl (fun _ => 0))), (q_r5, .inl (cI, 403, .inl (fun _ => 0))), (q_r6, .inl (cI, 403, .inl (fun _ => 0))), (q_r7, .inl (cI, 403, .inl (fun _ => 0))), (q_r8, .inl (cJ, 403, .inr (.inl (fun _ => 0)))), (q_r9, .inl (cJ, 19, .inr (.inl (fun _ => 0)))), (q_r20, .inl (cI, 2, .inl (fun _ => 0))), (q_r21, .inl (cI, 60, .inl (fun _ => 0))), (q_r22, .inl (cJ, 6, .inr (.inl (fun _ => 0)))), (q_r23, .inl (cI, 2, .inl (fun _ => 0))), (q_r24, .inl (cI, 12, .inl (fun _ => 0))), (q_r25, .inl (cI, 12, .inl (fun _ => 0)))]) tyX11 tyX11_ok nmX11 C inX11 hK hP hD hS 0 rfl rfl 25 (by decide) rfl rfl hnm L55 rfl (by decide +kernel) (rfl) rfl (Nat.le_of_ble_eq_true rfl) dX11_init_114 rfl (fun H locs hP hD hS => ?_)
  refine lv_aload_n hx hb dX11_init_117 rfl (lv_at hl 0 rfl) ?_
  refine lv_iconst (v := 2) hx hb dX11_init_118 (by decide) ?_
  refine q_newa (atype := .int) (ty := .int) (N' := 2) (2, .inl (fun _ => 0)) C ACI rfl (fun _ => rfl) hK hP hD hS hA 1 rfl (fun _ => rfl) (by decide) (by decide +kernel) (by decide +kernel) (Nat.le_of_ble_eq_true rfl) (Nat.le_of_ble_eq_true rfl) dX11_init_119 (fun q_r26 H hP hD hS => ?_)
  refine q_putF (ty := .array .int) (w2 := [(h, .inr (11, [.int 0, .ref q_r1, .int 0, .ref q_r3, .int 0, .ref q_r5, .ref q_r6, .ref q_r7, .ref q_r8, .ref q_r9, .int 0, .int 0, .int 0, .int 0, .int 0, .int 0, .int 0, .int (-1), .int 0, .int 0, .ref q_r20, .ref q_r21, .ref q_r22, .ref q_r23, .ref q_r24, .ref q_r25, .ref q_r26, .null, .null, .int 0, .null, .null, .null, .null, .null, .int 0, .null, .null, .null, .int 0, .null, .null, .int 0, .null, .null, .int 0, .null, .null, .int 0, .null, .null, .int 0, .null, .null, .null, .null, .null, .null])), (q_r1, .inl (cB, 2000, .inl (fun _ => 0))), (q_r3, .inl (cB, 2000, .inl (fun _ => 0))), (q_r5, .inl (cI, 403, .inl (fun _ => 0))), (q_r6, .inl (cI, 403, .inl (fun _ => 0))), (q_r7, .inl (cI, 403, .inl (fun _ => 0))), (q_r8, .inl (cJ, 403, .inr (.inl (fun _ => 0)))), (q_r9, .inl (cJ, 19, .inr (.inl (fun _ => 0)))), (q_r20, .inl (cI, 2, .inl (fun _ => 0))), (q_r21, .inl (cI, 60, .inl (fun _ => 0))), (q_r22, .inl (cJ, 6, .inr (.inl (fun _ => 0)))), (q_r23, .inl (cI, 2, .inl (fun _ => 0))), (q_r24, .inl (cI, 12, .inl (fun _ => 0))), (q_r25, .inl (cI, 12, .inl (fun _ => 0))), (q_r26, .inl (cI, 2, .inl (fun _ => 0)))]) tyX11 tyX11_ok nmX11 C inX11 hK hP hD hS 0 rfl rfl 26 (by decide) rfl rfl hnm L58 rfl (by decide +kernel) (rfl) rfl (Nat.le_of_ble_eq_true rfl) dX11_init_121 rfl (fun H locs hP hD hS => ?_)
  refine lv_aload_n hx hb dX11_init_124 rfl (lv_at hl 0 rfl) ?_
  refine lv_bipush (v := 8) hx hb dX11_init_125 (by decide) ?_
  refine q_newa (atype := .int) (ty := .int) (N' := 8) (8, .inl (fun _ => 0)) C ACI rfl (fun _ => rfl) hK hP hD hS hA 1 rfl (fun _ => rfl) (by decide) (by decide +kernel) (by decide +kernel) (Nat.le_of_ble_eq_true rfl) (Nat.le_of_ble_eq_true rfl) dX11_init_127 (fun q_r27 H hP hD hS => ?_)
  refine q_putF (ty := .array .int) (w2 := [(h, .inr (11, [.int 0, .ref q_r1, .int 0, .ref q_r3, .int 0, .ref q_r5, .ref q_r6, .ref q_r7, .ref q_r8, .ref q_r9, .int 0, .int 0, .int 0, .int 0, .int 0, .int 0, .int 0, .int (-1), .int 0, .int 0, .ref q_r20, .ref q_r21, .ref q_r22, .ref q_r23, .ref q_r24, .ref q_r25, .ref q_r26, .ref q_r27, .null, .int 0, .null, .null, .null, .null, .null, .int 0, .null, .null, .null, .int 0, .null, .null, .int 0, .null, .null, .int 0, .null, .null, .int 0, .null, .null, .int 0, .null, .null, .null, .null, .null, .null])), (q_r1, .inl (cB, 2000, .inl (fun _ => 0))), (q_r3, .inl (cB, 2000, .inl (fun _ => 0))), (q_r5, .inl (cI, 403, .inl (fun _ => 0))), (q_r6, .inl (cI, 403, .inl (fun _ => 0))), (q_r7, .inl (cI, 403, .inl (fun _ => 0))), (q_r8, .inl (cJ, 403, .inr (.inl (fun _ => 0)))), (q_r9, .inl (cJ, 19, .inr (.inl (fun _ => 0)))), (q_r20, .inl (cI, 2, .inl (fun _ => 0))), (q_r21, .inl (cI, 60, .inl (fun _ => 0))), (q_r22, .inl (cJ, 6, .inr (.inl (fun _ => 0)))), (q_r23, .inl (cI, 2, .inl (fun _ => 0))), (q_r24, .inl (cI, 12, .inl (fun _ => 0))), (q_r25, .inl (cI, 12, .inl (fun _ => 0))), (q_r26, .inl (cI, 2, .inl (fun _ => 0))), (q_r27, .inl (cI, 8, .inl (fun _ => 0)))]) tyX11 tyX11_ok nmX11 C inX11 hK hP hD hS 0 rfl rfl 27 (by decide) rfl rfl hnm L61 rfl (by decide +kernel) (rfl) rfl (Nat.le_of_ble_eq_true rfl) dX11_init_129 rfl (fun H locs hP hD hS => ?_)
  refine lv_aload_n hx hb dX11_init_132 rfl (lv_at hl 0 rfl) ?_
  refine lv_bipush (v := 8) hx hb dX11_init_133 (by decide) ?_
  refine q_newa (atype := .int) (ty := .int) (N' := 8) (8, .inl (fun _ => 0)) C ACI rfl (fun _ => rfl) hK hP hD hS hA 1 rfl (fun _ => rfl) (by decide) (by decide +kernel) (by decide +kernel) (Nat.le_of_ble_eq_true rfl) (Nat.le_of_ble_eq_true rfl) dX11_init_135 (fun q_r28 H hP hD hS => ?_)
  refine q_putF (ty := .array .int) (w2 := [(h, .inr (11, [.int 0, .ref q_r1, .int 0, .ref q_r3, .int 0, .ref q_r5, .ref q_r6, .ref q_r7, .ref q_r8, .ref q_r9, .int 0, .int 0, .int 0, .int 0, .int 0, .int 0, .int 0, .int (-1), .int 0, .int 0, .ref q_r20, .ref q_r21, .ref q_r22, .ref q_r23, .ref q_r24, .ref q_r25, .ref q_r26, .ref q_r27, .ref q_r28, .int 0, .null, .null, .null, .null, .null, .int 0, .null, .null, .null, .int 0, .null, .null, .int 0, .null, .null, .int 0, .null, .null, .int 0, .null, .null, .int 0, .null, .null, .null, .null, .null, .null])), (q_r1, .inl (cB, 2000, .inl (fun _ => 0))), (q_r3, .inl (cB, 2000, .inl (fun _ => 0))), (q_r5, .inl (cI, 403, .inl (fun _ => 0))), (q_r6, .inl (cI, 403, .inl (fun _ => 0))), (q_r7, .inl (cI, 403, .inl (fun _ => 0))), (q_r8, .inl (cJ, 403, .inr (.inl (fun _ => 0)))), (q_r9, .inl (cJ, 19, .inr (.inl (fun _ => 0)))), (q_r20, .inl (cI, 2, .inl (fun _ => 0))), (q_r21, .inl (cI, 60, .inl (fun _ => 0))), (q_r22, .inl (cJ, 6, .inr (.inl (fun _ => 0)))), (q_r23, .inl (cI, 2, .inl (fun _ => 0))), (q_r24, .inl (cI, 12, .inl (fun _ => 0))), (q_r25, .inl (cI, 12, .inl (fun _ => 0))), (q_r26, .inl (cI, 2, .inl (fun _ => 0))), (q_r27, .inl (cI, 8, .inl (fun _ => 0))), (q_r28, .inl (cI, 8, .inl (fun _ => 0)))]) tyX11 tyX11_ok nmX11 C inX11 hK hP hD hS 0 rfl rfl 28 (by decide) rfl rfl hnm L64 rfl (by decide +kernel) (rfl) rfl (Nat.le_of_ble_eq_true rfl) dX11_init_137 rfl (fun H locs hP hD hS => ?_)
  refine lv_aload_n hx hb dX11_init_140 rfl (lv_at hl 0 rfl) ?_
  refine lv_sipush (v := 260) hx hb dX11_init_141 (by decide) ?_
  refine q_newa (atype := .boolean) (ty := .boolean) (N' := 260) (260, .inl (fun _ => 0)) C ACZ rfl (fun _ => rfl) hK hP hD hS hA 3 rfl (fun _ => rfl) (by decide) (by decide +kernel) (by decide +kernel) (Nat.le_of_ble_eq_true rfl) (Nat.le_of_ble_eq_true rfl) dX11_init_144 (fun q_r30 H hP hD hS => ?_)
  refine q_putF (ty := .array .boolean) (w2 := [(h, .inr (11, [.int 0, .ref q_r1, .int 0, .ref q_r3, .int 0, .ref q_r5, .ref q_r6, .ref q_r7, .ref q_r8, .ref q_r9, .int 0, .int 0, .int 0, .int 0, .int 0, .int 0, .int 0, .int (-1), .int 0, .int 0, .ref q_r20, .ref q_r21, .ref q_r22, .ref q_r23, .ref q_r24, .ref q_r25, .ref q_r26, .ref q_r27, .ref q_r28, .int 0, .ref q_r30, .null, .null, .null, .null, .int 0, .null, .null, .null, .int 0, .null, .null, .int 0, .null, .null, .int 0, .null, .null, .int 0, .null, .null, .int 0, .null, .null, .null, .null, .null, .null])), (q_r1, .inl (cB, 2000, .inl (fun _ => 0))), (q_r3, .inl (cB, 2000, .inl (fun _ => 0))), (q_r5, .inl (cI, 403, .inl (fun _ => 0))), (q_r6, .inl (cI, 403, .inl (fun _ => 0))), (q_r7, .inl (cI, 403, .inl (fun _ => 0))), (q_r8, .inl (cJ, 403, .inr (.inl (fun _ => 0)))), (q_r9, .inl (cJ, 19, .inr (.inl (fun _ => 0)))), (q_r20, .inl (cI, 2, .inl (fun _ => 0))), (q_r21, .inl (cI, 60, .inl (fun _ => 0))), (q_r22, .inl (cJ, 6, .inr (.inl (fun _ => 0)))), (q_r23, .inl (cI, 2, .inl (fun _ => 0))), (q_r24, .inl (cI, 12, .inl (fun _ => 0))), (q_r25, .inl (cI, 12, .inl (fun _ => 0))), (q_r26, .inl (cI, 2, .inl (fun _ => 0))), (q_r27, .inl (cI, 8, .inl (fun _ => 0))), (q_r28, .inl (cI, 8, .inl (fun _ => 0))), (q_r30, .inl (cZ, 260, .inl (fun _ => 0)))]) tyX11 tyX11_ok nmX11 C inX11 hK hP hD hS 0 rfl rfl 30 (by decide) rfl rfl hnm L67 rfl (by decide +kernel) (rfl) rfl (Nat.le_of_ble_eq_true rfl) dX11_init_146 rfl (fun H locs hP hD hS => ?_)
  exact mi_3 l dC dI cB cI cJ cZ cS h C hr hlocks hnm hA hK hN q_r1 q_r3 q_r5 q_r6 q_r7 q_r8 q_r9 q_r20 q_r21 q_r22 q_r23 q_r24 q_r25 q_r26 q_r27 q_r28 q_r30 H locs ls hP hD hS hl

set_option maxHeartbeats 4000000 in
set_option maxRecDepth 100000 in
theorem mi_1 (l : Launch) (dC : Nat → ClassId) (dI : Nat → Nat → Nat) (cB cI cJ cZ cS : ClassId) (h : Nat) {p : Program} {e : Env} {s : State} {m : MethodId} {below : List Frame} {meth : Method} {c : Code} {A : Nat → Prop} (C : CallFix p m c cX11_init 1 s [Value.ref h].toArray wsX11_init yX11_init.cls) (hr : meth.sig.returnType = none) (hlocks : meth.locks = false) (hnm : meth.name = yX11_init.name) (hA : ∀ q, s.heap.size ≤ q → A q) (hK : va_K (dC, dI) vwCl (tysA cB cI cJ cZ cS) s) (hN : nw_ok s) (q_r1 : Nat) (q_r3 : Nat) (q_r5 : Nat) (q_r6 : Nat) (q_r7 : Nat) (q_r8 : Nat) (H : Heap) (locs : List Loc) (ls : Array Slot) (hP : va_P (dC, dI) vwCl [(h, .inr (11, [.int 0, .ref q_r1, .int 0, .ref q_r3, .int 0, .ref q_r5, .ref q_r6, .ref q_r7, .ref q_r8, .null, .int 0, .int 0, .int 0, .int 0, .int 0, .int 0, .int 0, .int 0, .int 0, .int 0, .null, .null, .null, .null, .null, .null, .null, .null, .null, .int 0, .null, .null, .null, .null, .null, .int 0, .null, .null, .null, .int 0, .null, .null, .int 0, .null, .null, .int 0, .null, .null, .int 0, .null, .null, .int 0, .null, .null, .null, .null, .null, .null])), (q_r1, .inl (cB, 2000, .inl (fun _ => 0))), (q_r3, .inl (cB, 2000, .inl (fun _ => 0))), (q_r5, .inl (cI, 403, .inl (fun _ => 0))), (q_r6, .inl (cI, 403, .inl (fun _ => 0))), (q_r7, .inl (cI, 403, .inl (fun _ => 0))), (q_r8, .inl (cJ, 403, .inr (.inl (fun _ => 0))))] H) (hD : va_D A [(h, .inr (11, [.int 0, .ref q_r1, .int 0, .ref q_r3, .int 0, .ref q_r5, .ref q_r6, .ref q_r7, .ref q_r8, .null, .int 0, .int 0, .int 0, .int 0, .int 0, .int 0, .int 0, .int 0, .int 0, .int 0, .null, .null, .null, .null, .null, .null, .null, .null, .null, .int 0, .null, .null, .null, .null, .null, .int 0, .null, .null, .null, .int 0, .null, .null, .int 0, .null, .null, .int 0, .null, .null, .int 0, .null, .null, .int 0, .null, .null, .null, .null, .null, .null])), (q_r1, .inl (cB, 2000, .inl (fun _ => 0))), (q_r3, .inl (cB, 2000, .inl (fun _ => 0))), (q_r5, .inl (cI, 403, .inl (fun _ => 0))), (q_r6, .inl (cI, 403, .inl (fun _ => 0))), (q_r7, .inl (cI, 403, .inl (fun _ => 0))), (q_r8, .inl (cJ, 403, .inr (.inl (fun _ => 0))))]) (hS : va_S A s.heap H locs) (hl : lv_has ls 1 [(0, .ref h)]) : W p l e ({ frames := 2, cells := 38, slots := 18381, locals := 48 }) s m [Value.ref h].toArray below meth c H locs 6 5612 (MQ below (va_Qv (fun w => ∃ (a : Nat → Nat) (s9 : RS), InvR s9 ∧ Big s9 ∧ RIR s9 ∧ w = mwS cB cI cJ cZ h a s9) (at_W (dC, dI) (tysA cB cI cJ cZ cS) A) A) [Value.ref h].toArray s 38 18381 A) (F0 m 58 ls []) := by
  obtain ⟨hx, hb, hml, hown, hts⟩ := id C
  have inX11 : ∀ w ∈ u_ws RX11 TX11 58, w ∈ wsX11_init := fun w h => (List.mem_cons_of_mem _ (List.mem_append_right _ h))
  have ACI : Cond.arrayClass .int ∈ wsX11_init := (List.mem_cons_of_mem _ (List.mem_append_left _ (List.mem_append_left _ (List.mem_of_getElem? (i := 6) rfl))))
  have ACJ : Cond.arrayClass .long ∈ wsX11_init := (List.mem_cons_of_mem _ (List.mem_append_left _ (List.mem_append_left _ (List.mem_of_getElem? (i := 10) rfl))))
  have L34 : Cond.fieldLink RX11 34 "GuessFerryModel" "keys" "[J" ∈ wsX11_init := (List.mem_cons_of_mem _ (List.mem_append_left _ (List.mem_append_left _ (List.mem_of_getElem? (i := 12) rfl))))
  have L37 : Cond.fieldLink RX11 37 "GuessFerryModel" "place" "I" ∈ wsX11_init := (List.mem_cons_of_mem _ (List.mem_append_left _ (List.mem_append_left _ (List.mem_of_getElem? (i := 13) rfl))))
  have L40 : Cond.fieldLink RX11 40 "GuessFerryModel" "waves" "[I" ∈ wsX11_init := (List.mem_cons_of_mem _ (List.mem_append_left _ (List.mem_append_right _ (List.mem_append_left _ (List.mem_cons_of_mem _ (List.mem_append_left _ (List.mem_of_getElem? (i := 0) rfl)))))))
  have L43 : Cond.fieldLink RX11 43 "GuessFerryModel" "oddsOf" "[I" ∈ wsX11_init := (List.mem_cons_of_mem _ (List.mem_append_left _ (List.mem_append_left _ (List.mem_of_getElem? (i := 14) rfl))))
  have L46 : Cond.fieldLink RX11 46 "GuessFerryModel" "nameOf" "[J" ∈ wsX11_init := (List.mem_cons_of_mem _ (List.mem_append_left _ (List.mem_append_left _ (List.mem_of_getElem? (i := 15) rfl))))
  have L49 : Cond.fieldLink RX11 49 "GuessFerryModel" "parties" "[I" ∈ wsX11_init := (List.mem_cons_of_mem _ (List.mem_append_left _ (List.mem_append_right _ (List.mem_append_left _ (List.mem_cons_of_mem _ (List.mem_append_left _ (List.mem_of_getElem? (i := 1) rfl)))))))
  refine lv_aload_n hx hb dX11_init_58 rfl (lv_at hl 0 rfl) ?_
  refine lv_bipush (v := 19) hx hb dX11_init_59 (by decide) ?_
  refine q_newa (atype := .long) (ty := .long) (N' := 19) (19, .inr (.inl (fun _ => 0))) C ACJ rfl (fun _ => rfl) hK hP hD hS hA 2 rfl (fun _ => rfl) (by decide) (by decide +kernel) (by decide +kernel) (Nat.le_of_ble_eq_true rfl) (Nat.le_of_ble_eq_true rfl) dX11_init_61 (fun q_r9 H hP hD hS => ?_)
  refine q_putF (ty := .array .long) (w2 := [(h, .inr (11, [.int 0, .ref q_r1, .int 0, .ref q_r3, .int 0, .ref q_r5, .ref q_r6, .ref q_r7, .ref q_r8, .ref q_r9, .int 0, .int 0, .int 0, .int 0, .int 0, .int 0, .int 0, .int 0, .int 0, .int 0, .null, .null, .null, .null, .null, .null, .null, .null, .null, .int 0, .null, .null, .null, .null, .null, .int 0, .null, .null, .null, .int 0, .null, .null, .int 0, .null, .null, .int 0, .null, .null, .int 0, .null, .null, .int 0, .null, .null, .null, .null, .null, .null])), (q_r1, .inl (cB, 2000, .inl (fun _ => 0))), (q_r3, .inl (cB, 2000, .inl (fun _ => 0))), (q_r5, .inl (cI, 403, .inl (fun _ => 0))), (q_r6, .inl (cI, 403, .inl (fun _ => 0))), (q_r7, .inl (cI, 403, .inl (fun _ => 0))), (q_r8, .inl (cJ, 403, .inr (.inl (fun _ => 0)))), (q_r9, .inl (cJ, 19, .inr (.inl (fun _ => 0))))]) tyX11 tyX11_ok nmX11 C inX11 hK hP hD hS 0 rfl rfl 9 (by decide) rfl rfl hnm L34 rfl (by decide +kernel) (rfl) rfl (Nat.le_of_ble_eq_true rfl) dX11_init_63 rfl (fun H locs hP hD hS => ?_)
  refine lv_aload_n hx hb dX11_init_66 rfl (lv_at hl 0 rfl) ?_
  refine lv_iconst (v := (-1)) hx hb dX11_init_67 (by decide) ?_
  refine q_put (ty := .int) (w2 := [(h, .inr (11, [.int 0, .ref q_r1, .int 0, .ref q_r3, .int 0, .ref q_r5, .ref q_r6, .ref q_r7, .ref q_r8, .ref q_r9, .int 0, .int 0, .int 0, .int 0, .int 0, .int 0, .int 0, .int (-1), .int 0, .int 0, .null, .null, .null, .null, .null, .null, .null, .null, .null, .int 0, .null, .null, .null, .null, .null, .int 0, .null, .null, .null, .int 0, .null, .null, .int 0, .null, .null, .int 0, .null, .null, .int 0, .null, .null, .int 0, .null, .null, .null, .null, .null, .null])), (q_r1, .inl (cB, 2000, .inl (fun _ => 0))), (q_r3, .inl (cB, 2000, .inl (fun _ => 0))), (q_r5, .inl (cI, 403, .inl (fun _ => 0))), (q_r6, .inl (cI, 403, .inl (fun _ => 0))), (q_r7, .inl (cI, 403, .inl (fun _ => 0))), (q_r8, .inl (cJ, 403, .inr (.inl (fun _ => 0)))), (q_r9, .inl (cJ, 19, .inr (.inl (fun _ => 0))))]) tyX11 tyX11_ok nmX11 C inX11 hK hP hD hS 0 rfl rfl 17 (by decide) rfl L37 rfl (by decide +kernel) (rfl) rfl (Nat.le_of_ble_eq_true rfl) dX11_init_68 rfl (fun H locs hP hD hS => ?_)
  refine lv_aload_n hx hb dX11_init_71 rfl (lv_at hl 0 rfl) ?_
  refine lv_iconst (v := 2) hx hb dX11_init_72 (by decide) ?_
  refine q_newa (atype := .int) (ty := .int) (N' := 2) (2, .inl (fun _ => 0)) C ACI rfl (fun _ => rfl) hK hP hD hS hA 1 rfl (fun _ => rfl) (by decide) (by decide +kernel) (by decide +kernel) (Nat.le_of_ble_eq_true rfl) (Nat.le_of_ble_eq_true rfl) dX11_init_73 (fun q_r20 H hP hD hS => ?_)
  refine q_putF (ty := .array .int) (w2 := [(h, .inr (11, [.int 0, .ref q_r1, .int 0, .ref q_r3, .int 0, .ref q_r5, .ref q_r6, .ref q_r7, .ref q_r8, .ref q_r9, .int 0, .int 0, .int 0, .int 0, .int 0, .int 0, .int 0, .int (-1), .int 0, .int 0, .ref q_r20, .null, .null, .null, .null, .null, .null, .null, .null, .int 0, .null, .null, .null, .null, .null, .int 0, .null, .null, .null, .int 0, .null, .null, .int 0, .null, .null, .int 0, .null, .null, .int 0, .null, .null, .int 0, .null, .null, .null, .null, .null, .null])), (q_r1, .inl (cB, 2000, .inl (fun _ => 0))), (q_r3, .inl (cB, 2000, .inl (fun _ => 0))), (q_r5, .inl (cI, 403, .inl (fun _ => 0))), (q_r6, .inl (cI, 403, .inl (fun _ => 0))), (q_r7, .inl (cI, 403, .inl (fun _ => 0))), (q_r8, .inl (cJ, 403, .inr (.inl (fun _ => 0)))), (q_r9, .inl (cJ, 19, .inr (.inl (fun _ => 0)))), (q_r20, .inl (cI, 2, .inl (fun _ => 0)))]) tyX11 tyX11_ok nmX11 C inX11 hK hP hD hS 0 rfl rfl 20 (by decide) rfl rfl hnm L40 rfl (by decide +kernel) (rfl) rfl (Nat.le_of_ble_eq_true rfl) dX11_init_75 rfl (fun H locs hP hD hS => ?_)
  refine lv_aload_n hx hb dX11_init_78 rfl (lv_at hl 0 rfl) ?_
  refine lv_bipush (v := 60) hx hb dX11_init_79 (by decide) ?_
  refine q_newa (atype := .int) (ty := .int) (N' := 60) (60, .inl (fun _ => 0)) C ACI rfl (fun _ => rfl) hK hP hD hS hA 1 rfl (fun _ => rfl) (by decide) (by decide +kernel) (by decide +kernel) (Nat.le_of_ble_eq_true rfl) (Nat.le_of_ble_eq_true rfl) dX11_init_81 (fun q_r21 H hP hD hS => ?_)
  refine q_putF (ty := .array .int) (w2 := [(h, .inr (11, [.int 0, .ref q_r1, .int 0, .ref q_r3, .int 0, .ref q_r5, .ref q_r6, .ref q_r7, .ref q_r8, .ref q_r9, .int 0, .int 0, .int 0, .int 0, .int 0, .int 0, .int 0, .int (-1), .int 0, .int 0, .ref q_r20, .ref q_r21, .null, .null, .null, .null, .null, .null, .null, .int 0, .null, .null, .null, .null, .null, .int 0, .null, .null, .null, .int 0, .null, .null, .int 0, .null, .null, .int 0, .null, .null, .int 0, .null, .null, .int 0, .null, .null, .null, .null, .null, .null])), (q_r1, .inl (cB, 2000, .inl (fun _ => 0))), (q_r3, .inl (cB, 2000, .inl (fun _ => 0))), (q_r5, .inl (cI, 403, .inl (fun _ => 0))), (q_r6, .inl (cI, 403, .inl (fun _ => 0))), (q_r7, .inl (cI, 403, .inl (fun _ => 0))), (q_r8, .inl (cJ, 403, .inr (.inl (fun _ => 0)))), (q_r9, .inl (cJ, 19, .inr (.inl (fun _ => 0)))), (q_r20, .inl (cI, 2, .inl (fun _ => 0))), (q_r21, .inl (cI, 60, .inl (fun _ => 0)))]) tyX11 tyX11_ok nmX11 C inX11 hK hP hD hS 0 rfl rfl 21 (by decide) rfl rfl hnm L43 rfl (by decide +kernel) (rfl) rfl (Nat.le_of_ble_eq_true rfl) dX11_init_83 rfl (fun H locs hP hD hS => ?_)
  refine lv_aload_n hx hb dX11_init_86 rfl (lv_at hl 0 rfl) ?_
  refine lv_bipush (v := 6) hx hb dX11_init_87 (by decide) ?_
  refine q_newa (atype := .long) (ty := .long) (N' := 6) (6, .inr (.inl (fun _ => 0))) C ACJ rfl (fun _ => rfl) hK hP hD hS hA 2 rfl (fun _ => rfl) (by decide) (by decide +kernel) (by decide +kernel) (Nat.le_of_ble_eq_true rfl) (Nat.le_of_ble_eq_true rfl) dX11_init_89 (fun q_r22 H hP hD hS => ?_)
  refine q_putF (ty := .array .long) (w2 := [(h, .inr (11, [.int 0, .ref q_r1, .int 0, .ref q_r3, .int 0, .ref q_r5, .ref q_r6, .ref q_r7, .ref q_r8, .ref q_r9, .int 0, .int 0, .int 0, .int 0, .int 0, .int 0, .int 0, .int (-1), .int 0, .int 0, .ref q_r20, .ref q_r21, .ref q_r22, .null, .null, .null, .null, .null, .null, .int 0, .null, .null, .null, .null, .null, .int 0, .null, .null, .null, .int 0, .null, .null, .int 0, .null, .null, .int 0, .null, .null, .int 0, .null, .null, .int 0, .null, .null, .null, .null, .null, .null])), (q_r1, .inl (cB, 2000, .inl (fun _ => 0))), (q_r3, .inl (cB, 2000, .inl (fun _ => 0))), (q_r5, .inl (cI, 403, .inl (fun _ => 0))), (q_r6, .inl (cI, 403, .inl (fun _ => 0))), (q_r7, .inl (cI, 403, .inl (fun _ => 0))), (q_r8, .inl (cJ, 403, .inr (.inl (fun _ => 0)))), (q_r9, .inl (cJ, 19, .inr (.inl (fun _ => 0)))), (q_r20, .inl (cI, 2, .inl (fun _ => 0))), (q_r21, .inl (cI, 60, .inl (fun _ => 0))), (q_r22, .inl (cJ, 6, .inr (.inl (fun _ => 0))))]) tyX11 tyX11_ok nmX11 C inX11 hK hP hD hS 0 rfl rfl 22 (by decide) rfl rfl hnm L46 rfl (by decide +kernel) (rfl) rfl (Nat.le_of_ble_eq_true rfl) dX11_init_91 rfl (fun H locs hP hD hS => ?_)
  refine lv_aload_n hx hb dX11_init_94 rfl (lv_at hl 0 rfl) ?_
  refine lv_iconst (v := 2) hx hb dX11_init_95 (by decide) ?_
  refine q_newa (atype := .int) (ty := .int) (N' := 2) (2, .inl (fun _ => 0)) C ACI rfl (fun _ => rfl) hK hP hD hS hA 1 rfl (fun _ => rfl) (by decide) (by decide +kernel) (by decide +kernel) (Nat.le_of_ble_eq_true rfl) (Nat.le_of_ble_eq_true rfl) dX11_init_96 (fun q_r23 H hP hD hS => ?_)
  refine q_putF (ty := .array .int) (w2 := [(h, .inr (11, [.int 0, .ref q_r1, .int 0, .ref q_r3, .int 0, .ref q_r5, .ref q_r6, .ref q_r7, .ref q_r8, .ref q_r9, .int 0, .int 0, .int 0, .int 0, .int 0, .int 0, .int 0, .int (-1), .int 0, .int 0, .ref q_r20, .ref q_r21, .ref q_r22, .ref q_r23, .null, .null, .null, .null, .null, .int 0, .null, .null, .null, .null, .null, .int 0, .null, .null, .null, .int 0, .null, .null, .int 0, .null, .null, .int 0, .null, .null, .int 0, .null, .null, .int 0, .null, .null, .null, .null, .null, .null])), (q_r1, .inl (cB, 2000, .inl (fun _ => 0))), (q_r3, .inl (cB, 2000, .inl (fun _ => 0))), (q_r5, .inl (cI, 403, .inl (fun _ => 0))), (q_r6, .inl (cI, 403, .inl (fun _ => 0))), (q_r7, .inl (cI, 403, .inl (fun _ => 0))), (q_r8, .inl (cJ, 403, .inr (.inl (fun _ => 0)))), (q_r9, .inl (cJ, 19, .inr (.inl (fun _ => 0)))), (q_r20, .inl (cI, 2, .inl (fun _ => 0))), (q_r21, .inl (cI, 60, .inl (fun _ => 0))), (q_r22, .inl (cJ, 6, .inr (.inl (fun _ => 0)))), (q_r23, .inl (cI, 2, .inl (fun _ => 0)))]) tyX11 tyX11_ok nmX11 C inX11 hK hP hD hS 0 rfl rfl 23 (by decide) rfl rfl hnm L49 rfl (by decide +kernel) (rfl) rfl (Nat.le_of_ble_eq_true rfl) dX11_init_98 rfl (fun H locs hP hD hS => ?_)
  exact mi_2 l dC dI cB cI cJ cZ cS h C hr hlocks hnm hA hK hN q_r1 q_r3 q_r5 q_r6 q_r7 q_r8 q_r9 q_r20 q_r21 q_r22 q_r23 H locs ls hP hD hS hl

set_option maxHeartbeats 4000000 in
set_option maxRecDepth 100000 in
theorem mi_0 (l : Launch) (dC : Nat → ClassId) (dI : Nat → Nat → Nat) (cB cI cJ cZ cS : ClassId) (h : Nat) {p : Program} {e : Env} {s : State} {m : MethodId} {below : List Frame} {meth : Method} {c : Code} {A : Nat → Prop} (C : CallFix p m c cX11_init 1 s [Value.ref h].toArray wsX11_init yX11_init.cls) (hr : meth.sig.returnType = none) (hlocks : meth.locks = false) (hnm : meth.name = yX11_init.name) (hA : ∀ q, s.heap.size ≤ q → A q) (hK : va_K (dC, dI) vwCl (tysA cB cI cJ cZ cS) s) (hN : nw_ok s)  (H : Heap) (locs : List Loc) (ls : Array Slot) (hP : va_P (dC, dI) vwCl [(h, .inr (11, [.int 0, .null, .int 0, .null, .int 0, .null, .null, .null, .null, .null, .int 0, .int 0, .int 0, .int 0, .int 0, .int 0, .int 0, .int 0, .int 0, .int 0, .null, .null, .null, .null, .null, .null, .null, .null, .null, .int 0, .null, .null, .null, .null, .null, .int 0, .null, .null, .null, .int 0, .null, .null, .int 0, .null, .null, .int 0, .null, .null, .int 0, .null, .null, .int 0, .null, .null, .null, .null, .null, .null]))] H) (hD : va_D A [(h, .inr (11, [.int 0, .null, .int 0, .null, .int 0, .null, .null, .null, .null, .null, .int 0, .int 0, .int 0, .int 0, .int 0, .int 0, .int 0, .int 0, .int 0, .int 0, .null, .null, .null, .null, .null, .null, .null, .null, .null, .int 0, .null, .null, .null, .null, .null, .int 0, .null, .null, .null, .int 0, .null, .null, .int 0, .null, .null, .int 0, .null, .null, .int 0, .null, .null, .int 0, .null, .null, .null, .null, .null, .null]))]) (hS : va_S A s.heap H locs) (hl : lv_has ls 1 [(0, .ref h)]) : W p l e ({ frames := 2, cells := 38, slots := 18381, locals := 48 }) s m [Value.ref h].toArray below meth c H locs 0 0 (MQ below (va_Qv (fun w => ∃ (a : Nat → Nat) (s9 : RS), InvR s9 ∧ Big s9 ∧ RIR s9 ∧ w = mwS cB cI cJ cZ h a s9) (at_W (dC, dI) (tysA cB cI cJ cZ cS) A) A) [Value.ref h].toArray s 38 18381 A) (F0 m 4 ls []) := by
  obtain ⟨hx, hb, hml, hown, hts⟩ := id C
  have inX11 : ∀ w ∈ u_ws RX11 TX11 58, w ∈ wsX11_init := fun w h => (List.mem_cons_of_mem _ (List.mem_append_right _ h))
  have ACB : Cond.arrayClass .byte ∈ wsX11_init := (List.mem_cons_of_mem _ (List.mem_append_left _ (List.mem_append_left _ (List.mem_of_getElem? (i := 3) rfl))))
  have ACI : Cond.arrayClass .int ∈ wsX11_init := (List.mem_cons_of_mem _ (List.mem_append_left _ (List.mem_append_left _ (List.mem_of_getElem? (i := 6) rfl))))
  have ACJ : Cond.arrayClass .long ∈ wsX11_init := (List.mem_cons_of_mem _ (List.mem_append_left _ (List.mem_append_left _ (List.mem_of_getElem? (i := 10) rfl))))
  have L13 : Cond.fieldLink RX11 13 "GuessFerryModel" "tape" "[B" ∈ wsX11_init := (List.mem_cons_of_mem _ (List.mem_append_left _ (List.mem_append_left _ (List.mem_of_getElem? (i := 4) rfl))))
  have L17 : Cond.fieldLink RX11 17 "GuessFerryModel" "text" "[B" ∈ wsX11_init := (List.mem_cons_of_mem _ (List.mem_append_left _ (List.mem_append_left _ (List.mem_of_getElem? (i := 5) rfl))))
  have L20 : Cond.fieldLink RX11 20 "GuessFerryModel" "tKind" "[I" ∈ wsX11_init := (List.mem_cons_of_mem _ (List.mem_append_left _ (List.mem_append_left _ (List.mem_of_getElem? (i := 7) rfl))))
  have L24 : Cond.fieldLink RX11 24 "GuessFerryModel" "tPlace" "[I" ∈ wsX11_init := (List.mem_cons_of_mem _ (List.mem_append_left _ (List.mem_append_left _ (List.mem_of_getElem? (i := 8) rfl))))
  have L27 : Cond.fieldLink RX11 27 "GuessFerryModel" "tValue" "[I" ∈ wsX11_init := (List.mem_cons_of_mem _ (List.mem_append_left _ (List.mem_append_left _ (List.mem_of_getElem? (i := 9) rfl))))
  have L30 : Cond.fieldLink RX11 30 "GuessFerryModel" "tName" "[J" ∈ wsX11_init := (List.mem_cons_of_mem _ (List.mem_append_left _ (List.mem_append_left _ (List.mem_of_getElem? (i := 11) rfl))))
  refine lv_aload_n hx hb dX11_init_4 rfl (lv_at hl 0 rfl) ?_
  refine lv_sipush (v := 2000) hx hb dX11_init_5 (by decide) ?_
  refine q_newa (atype := .byte) (ty := .byte) (N' := 2000) (2000, .inl (fun _ => 0)) C ACB rfl (fun _ => rfl) hK hP hD hS hA 0 rfl (fun _ => rfl) (by decide) (by decide +kernel) (by decide +kernel) (Nat.le_of_ble_eq_true rfl) (Nat.le_of_ble_eq_true rfl) dX11_init_8 (fun q_r1 H hP hD hS => ?_)
  refine q_putF (ty := .array .byte) (w2 := [(h, .inr (11, [.int 0, .ref q_r1, .int 0, .null, .int 0, .null, .null, .null, .null, .null, .int 0, .int 0, .int 0, .int 0, .int 0, .int 0, .int 0, .int 0, .int 0, .int 0, .null, .null, .null, .null, .null, .null, .null, .null, .null, .int 0, .null, .null, .null, .null, .null, .int 0, .null, .null, .null, .int 0, .null, .null, .int 0, .null, .null, .int 0, .null, .null, .int 0, .null, .null, .int 0, .null, .null, .null, .null, .null, .null])), (q_r1, .inl (cB, 2000, .inl (fun _ => 0)))]) tyX11 tyX11_ok nmX11 C inX11 hK hP hD hS 0 rfl rfl 1 (by decide) rfl rfl hnm L13 rfl (by decide +kernel) (rfl) rfl (Nat.le_of_ble_eq_true rfl) dX11_init_10 rfl (fun H locs hP hD hS => ?_)
  refine lv_aload_n hx hb dX11_init_13 rfl (lv_at hl 0 rfl) ?_
  refine lv_sipush (v := 2000) hx hb dX11_init_14 (by decide) ?_
  refine q_newa (atype := .byte) (ty := .byte) (N' := 2000) (2000, .inl (fun _ => 0)) C ACB rfl (fun _ => rfl) hK hP hD hS hA 0 rfl (fun _ => rfl) (by decide) (by decide +kernel) (by decide +kernel) (Nat.le_of_ble_eq_true rfl) (Nat.le_of_ble_eq_true rfl) dX11_init_17 (fun q_r3 H hP hD hS => ?_)
  refine q_putF (ty := .array .byte) (w2 := [(h, .inr (11, [.int 0, .ref q_r1, .int 0, .ref q_r3, .int 0, .null, .null, .null, .null, .null, .int 0, .int 0, .int 0, .int 0, .int 0, .int 0, .int 0, .int 0, .int 0, .int 0, .null, .null, .null, .null, .null, .null, .null, .null, .null, .int 0, .null, .null, .null, .null, .null, .int 0, .null, .null, .null, .int 0, .null, .null, .int 0, .null, .null, .int 0, .null, .null, .int 0, .null, .null, .int 0, .null, .null, .null, .null, .null, .null])), (q_r1, .inl (cB, 2000, .inl (fun _ => 0))), (q_r3, .inl (cB, 2000, .inl (fun _ => 0)))]) tyX11 tyX11_ok nmX11 C inX11 hK hP hD hS 0 rfl rfl 3 (by decide) rfl rfl hnm L17 rfl (by decide +kernel) (rfl) rfl (Nat.le_of_ble_eq_true rfl) dX11_init_19 rfl (fun H locs hP hD hS => ?_)
  refine lv_aload_n hx hb dX11_init_22 rfl (lv_at hl 0 rfl) ?_
  refine lv_sipush (v := 403) hx hb dX11_init_23 (by decide) ?_
  refine q_newa (atype := .int) (ty := .int) (N' := 403) (403, .inl (fun _ => 0)) C ACI rfl (fun _ => rfl) hK hP hD hS hA 1 rfl (fun _ => rfl) (by decide) (by decide +kernel) (by decide +kernel) (Nat.le_of_ble_eq_true rfl) (Nat.le_of_ble_eq_true rfl) dX11_init_26 (fun q_r5 H hP hD hS => ?_)
  refine q_putF (ty := .array .int) (w2 := [(h, .inr (11, [.int 0, .ref q_r1, .int 0, .ref q_r3, .int 0, .ref q_r5, .null, .null, .null, .null, .int 0, .int 0, .int 0, .int 0, .int 0, .int 0, .int 0, .int 0, .int 0, .int 0, .null, .null, .null, .null, .null, .null, .null, .null, .null, .int 0, .null, .null, .null, .null, .null, .int 0, .null, .null, .null, .int 0, .null, .null, .int 0, .null, .null, .int 0, .null, .null, .int 0, .null, .null, .int 0, .null, .null, .null, .null, .null, .null])), (q_r1, .inl (cB, 2000, .inl (fun _ => 0))), (q_r3, .inl (cB, 2000, .inl (fun _ => 0))), (q_r5, .inl (cI, 403, .inl (fun _ => 0)))]) tyX11 tyX11_ok nmX11 C inX11 hK hP hD hS 0 rfl rfl 5 (by decide) rfl rfl hnm L20 rfl (by decide +kernel) (rfl) rfl (Nat.le_of_ble_eq_true rfl) dX11_init_28 rfl (fun H locs hP hD hS => ?_)
  refine lv_aload_n hx hb dX11_init_31 rfl (lv_at hl 0 rfl) ?_
  refine lv_sipush (v := 403) hx hb dX11_init_32 (by decide) ?_
  refine q_newa (atype := .int) (ty := .int) (N' := 403) (403, .inl (fun _ => 0)) C ACI rfl (fun _ => rfl) hK hP hD hS hA 1 rfl (fun _ => rfl) (by decide) (by decide +kernel) (by decide +kernel) (Nat.le_of_ble_eq_true rfl) (Nat.le_of_ble_eq_true rfl) dX11_init_35 (fun q_r6 H hP hD hS => ?_)
  refine q_putF (ty := .array .int) (w2 := [(h, .inr (11, [.int 0, .ref q_r1, .int 0, .ref q_r3, .int 0, .ref q_r5, .ref q_r6, .null, .null, .null, .int 0, .int 0, .int 0, .int 0, .int 0, .int 0, .int 0, .int 0, .int 0, .int 0, .null, .null, .null, .null, .null, .null, .null, .null, .null, .int 0, .null, .null, .null, .null, .null, .int 0, .null, .null, .null, .int 0, .null, .null, .int 0, .null, .null, .int 0, .null, .null, .int 0, .null, .null, .int 0, .null, .null, .null, .null, .null, .null])), (q_r1, .inl (cB, 2000, .inl (fun _ => 0))), (q_r3, .inl (cB, 2000, .inl (fun _ => 0))), (q_r5, .inl (cI, 403, .inl (fun _ => 0))), (q_r6, .inl (cI, 403, .inl (fun _ => 0)))]) tyX11 tyX11_ok nmX11 C inX11 hK hP hD hS 0 rfl rfl 6 (by decide) rfl rfl hnm L24 rfl (by decide +kernel) (rfl) rfl (Nat.le_of_ble_eq_true rfl) dX11_init_37 rfl (fun H locs hP hD hS => ?_)
  refine lv_aload_n hx hb dX11_init_40 rfl (lv_at hl 0 rfl) ?_
  refine lv_sipush (v := 403) hx hb dX11_init_41 (by decide) ?_
  refine q_newa (atype := .int) (ty := .int) (N' := 403) (403, .inl (fun _ => 0)) C ACI rfl (fun _ => rfl) hK hP hD hS hA 1 rfl (fun _ => rfl) (by decide) (by decide +kernel) (by decide +kernel) (Nat.le_of_ble_eq_true rfl) (Nat.le_of_ble_eq_true rfl) dX11_init_44 (fun q_r7 H hP hD hS => ?_)
  refine q_putF (ty := .array .int) (w2 := [(h, .inr (11, [.int 0, .ref q_r1, .int 0, .ref q_r3, .int 0, .ref q_r5, .ref q_r6, .ref q_r7, .null, .null, .int 0, .int 0, .int 0, .int 0, .int 0, .int 0, .int 0, .int 0, .int 0, .int 0, .null, .null, .null, .null, .null, .null, .null, .null, .null, .int 0, .null, .null, .null, .null, .null, .int 0, .null, .null, .null, .int 0, .null, .null, .int 0, .null, .null, .int 0, .null, .null, .int 0, .null, .null, .int 0, .null, .null, .null, .null, .null, .null])), (q_r1, .inl (cB, 2000, .inl (fun _ => 0))), (q_r3, .inl (cB, 2000, .inl (fun _ => 0))), (q_r5, .inl (cI, 403, .inl (fun _ => 0))), (q_r6, .inl (cI, 403, .inl (fun _ => 0))), (q_r7, .inl (cI, 403, .inl (fun _ => 0)))]) tyX11 tyX11_ok nmX11 C inX11 hK hP hD hS 0 rfl rfl 7 (by decide) rfl rfl hnm L27 rfl (by decide +kernel) (rfl) rfl (Nat.le_of_ble_eq_true rfl) dX11_init_46 rfl (fun H locs hP hD hS => ?_)
  refine lv_aload_n hx hb dX11_init_49 rfl (lv_at hl 0 rfl) ?_
  refine lv_sipush (v := 403) hx hb dX11_init_50 (by decide) ?_
  refine q_newa (atype := .long) (ty := .long) (N' := 403) (403, .inr (.inl (fun _ => 0))) C ACJ rfl (fun _ => rfl) hK hP hD hS hA 2 rfl (fun _ => rfl) (by decide) (by decide +kernel) (by decide +kernel) (Nat.le_of_ble_eq_true rfl) (Nat.le_of_ble_eq_true rfl) dX11_init_53 (fun q_r8 H hP hD hS => ?_)
  refine q_putF (ty := .array .long) (w2 := [(h, .inr (11, [.int 0, .ref q_r1, .int 0, .ref q_r3, .int 0, .ref q_r5, .ref q_r6, .ref q_r7, .ref q_r8, .null, .int 0, .int 0, .int 0, .int 0, .int 0, .int 0, .int 0, .int 0, .int 0, .int 0, .null, .null, .null, .null, .null, .null, .null, .null, .null, .int 0, .null, .null, .null, .null, .null, .int 0, .null, .null, .null, .int 0, .null, .null, .int 0, .null, .null, .int 0, .null, .null, .int 0, .null, .null, .int 0, .null, .null, .null, .null, .null, .null])), (q_r1, .inl (cB, 2000, .inl (fun _ => 0))), (q_r3, .inl (cB, 2000, .inl (fun _ => 0))), (q_r5, .inl (cI, 403, .inl (fun _ => 0))), (q_r6, .inl (cI, 403, .inl (fun _ => 0))), (q_r7, .inl (cI, 403, .inl (fun _ => 0))), (q_r8, .inl (cJ, 403, .inr (.inl (fun _ => 0))))]) tyX11 tyX11_ok nmX11 C inX11 hK hP hD hS 0 rfl rfl 8 (by decide) rfl rfl hnm L30 rfl (by decide +kernel) (rfl) rfl (Nat.le_of_ble_eq_true rfl) dX11_init_55 rfl (fun H locs hP hD hS => ?_)
  exact mi_1 l dC dI cB cI cJ cZ cS h C hr hlocks hnm hA hK hN q_r1 q_r3 q_r5 q_r6 q_r7 q_r8 H locs ls hP hD hS hl
end
section
theorem dX11_init_0 : decode cX11_init 0 = .ok (.aload_n 0, 1) := dc1_42 (by decide +kernel)
theorem dX11_init_1 : decode cX11_init 1 = .ok (.invokespecial 7, 3) := dcw_183 (by decide +kernel)
set_option maxHeartbeats 4000000 in
set_option maxRecDepth 100000 in
theorem c_init (l : Launch) (dC : Nat → ClassId) (dI : Nat → Nat → Nat) (cB cI cJ cZ cS : ClassId) (h : Nat) : CV l yX11_init wsX11_init ({ frames := 2, cells := 38, slots := 18381, locals := 48 }) (dC, dI) (tysA cB cI cJ cZ cS) [(h, .inr (11, [.int 0, .null, .int 0, .null, .int 0, .null, .null, .null, .null, .null, .int 0, .int 0, .int 0, .int 0, .int 0, .int 0, .int 0, .int 0, .int 0, .int 0, .null, .null, .null, .null, .null, .null, .null, .null, .null, .int 0, .null, .null, .null, .null, .null, .int 0, .null, .null, .null, .int 0, .null, .null, .int 0, .null, .null, .int 0, .null, .null, .int 0, .null, .null, .int 0, .null, .null, .null, .null, .null, .null]))] [.ref h] (fun w => ∃ (a : Nat → Nat) (s9 : RS), InvR s9 ∧ Big s9 ∧ RIR s9 ∧ w = mwS cB cI cJ cZ h a s9) := by
  refine open_V (cc := cX11_init) (maxL := 1) (ret := none) (by decide) rfl (Nat.le_of_ble_eq_true rfl) ?_
  intro p e s m below meth c A ls E
  obtain ⟨C, hr, hlocks, hnm, hA, hP, hK, hD, hN, hl⟩ := E
  obtain ⟨hx, hb, hml, hown, hts⟩ := id C
  have hS : va_S A s.heap s.heap [] := va_S.rf
  have hl : lv_has ls 1 [(0, .ref h)] := hl
  have OC : Cond.code Lib.objectInit ⟨#[0xb1]⟩ 1 none ∈ wsX11_init := by decide +kernel
  have OI : Cond.instanceMethod Lib.objectInit ∈ wsX11_init := by decide +kernel
  have OL7 : Cond.methodLink RX11 7 Lib.objectInit ∈ wsX11_init := by decide +kernel
  refine lv_aload_n hx hb dX11_init_0 rfl (lv_at hl 0 rfl) ?_
  refine W.objInit hx hb hown (hts _ OL7) (hts _ OI) (hts _ OC) rfl (by rw [hml]; exact hl.1) rfl dX11_init_1 (Nat.le_of_ble_eq_true rfl) (Nat.le_of_ble_eq_true rfl) ?_
  refine W.eq (g2 := F0 m 4 ls []) rfl ?_
  exact mi_0 l dC dI cB cI cJ cZ cS h C hr hlocks hnm hA hK hN _ _ ls hP hD hS hl
end
