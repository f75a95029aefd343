/-! ===== the reference's constructor ===== -/
noncomputable def r_init_3 (s : RS) : Option RS := (bindP (r_begins s) fun s1 => (bindP (r_keepsRow s1) fun s2 => (some s2)))
noncomputable def r_init_2 (s : RS) : Option RS := (bindP (r_word 108 101 102 116 0 0 0) fun r1 => (letS (s.sg 9 14 r1) fun s2 => (bindP (r_word 121 101 97 114 0 0 0) fun r4 => (letS (s2.sg 9 15 r4) fun s5 => (bindP (r_word 119 104 105 99 104 0 0) fun r7 => (letS (s5.sg 9 16 r7) fun s8 => (bindP (r_word 98 117 111 121 115 0 0) fun r10 => (letS (s8.sg 9 17 r10) fun s11 => (bindP (r_word 103 111 101 115 0 0 0) fun r13 => (letS (s11.sg 9 18 r13) fun s14 => r_init_3 s14))))))))))
noncomputable def r_init_1 (s : RS) : Option RS := (bindP (r_word 105 102 0 0 0 0 0) fun r1 => (letS (s.sg 9 7 r1) fun s2 => (bindP (r_word 116 104 101 110 0 0 0) fun r4 => (letS (s2.sg 9 8 r4) fun s5 => (bindP (r_word 101 108 115 101 0 0 0) fun r7 => (letS (s5.sg 9 9 r7) fun s8 => (bindP (r_word 97 116 0 0 0 0 0) fun r10 => (letS (s8.sg 9 10 r10) fun s11 => (bindP (r_word 111 100 100 115 0 0 0) fun r13 => (letS (s11.sg 9 11 r13) fun s14 => (bindP (r_word 104 101 97 118 121 0 0) fun r16 => (letS (s14.sg 9 12 r16) fun s17 => (bindP (r_word 110 101 114 118 101 0 0) fun r19 => (letS (s17.sg 9 13 r19) fun s20 => r_init_2 s20))))))))))))))
noncomputable def r_init_0 (s : RS) : Option RS := (bindP (r_plain s 0) fun s1 => (bindP (r_plain s1 1) fun s2 => (bindP (r_word 119 97 118 101 0 0 0) fun r3 => (letS (s2.sg 9 0 r3) fun s4 => (bindP (r_word 112 97 114 116 121 0 0) fun r6 => (letS (s4.sg 9 1 r6) fun s7 => (bindP (r_word 110 101 101 100 115 0 0) fun r9 => (letS (s7.sg 9 2 r9) fun s10 => (bindP (r_word 102 97 114 101 115 0 0) fun r12 => (letS (s10.sg 9 3 r12) fun s13 => (bindP (r_word 100 97 114 101 115 0 0) fun r15 => (letS (s13.sg 9 4 r15) fun s16 => (bindP (r_word 115 104 105 102 116 115 0) fun r18 => (letS (s16.sg 9 5 r18) fun s19 => (bindP (r_word 115 101 101 100 0 0 0) fun r21 => (letS (s19.sg 9 6 r21) fun s22 => r_init_1 s22))))))))))))))))
/-- the fresh numbers -/
noncomputable def rs0 : RS := (fun k => if k = 17 then -1 else 0, fun _ _ => 0, fun _ _ => 0)
theorem ok_word (x0 x1 x2 x3 x4 x5 x6 : Int32) : Ok (r_word x0 x1 x2 x3 x4 x5 x6) (fun _ => True) := by
  unfold r_word
  refine ok_bindP (ok_appends _ _) (fun r1 _ => ?_)
  refine ok_bindP (ok_appends _ _) (fun r2 _ => ?_)
  refine ok_bindP (ok_appends _ _) (fun r3 _ => ?_)
  refine ok_bindP (ok_appends _ _) (fun r4 _ => ?_)
  refine ok_bindP (ok_appends _ _) (fun r5 _ => ?_)
  refine ok_bindP (ok_appends _ _) (fun r6 _ => ?_)
  refine ok_bindP (ok_appends _ _) (fun r7 _ => ?_)
  exact ok_some trivial
/-- behind both plain sides -/
noncomputable def B00 (s : RS) : Prop := InvR s ∧ s.v 18 = 0 ∧ (s.f 20 0).toInt = 0 ∧ ∀ k : Nat, k < 4 → s.f 27 (4 * 0 + k) = s.f 28 (4 * 0 + k)
theorem B00.sg {s : RS} {k i : Nat} {x : Int64} (h : B00 s) : B00 (s.sg k i x) := h
theorem ri_3 (s : RS) (h : B00 s) : Ok (r_init_3 s) (fun y => InvR y ∧ Big y) := by
  obtain ⟨hI, h18, h20, hl⟩ := h
  unfold r_init_3
  refine ok_bindP (ok_begins s hI) (fun s1 h1 => ?_)
  obtain ⟨I1, F1, S1⟩ := h1
  refine ok_bindP (ok_r_keepsRow s1 I1) (fun s2 h2 => ?_)
  obtain ⟨I2, F2⟩ := h2
  have e18 : s2.v 18 = 0 := by rw [F2.1 18 (by decide), F1.1 18 (by decide), h18]
  have e (k : Nat) (h1 : 100 + k ∉ [45, 144, 146]) (h2 : 100 + k ∉ [143]) : s2.f k = s.f k := (F2.2 k h2).1.trans (F1.2 k h1).1
  have ec : (0 : Int32).toNatClampNeg = 0 := by decide
  refine ok_some ⟨I2, by rw [(F2.2 46 (by decide)).1]; exact S1, fun w hw => ?_, fun k hk => Or.inl ?_⟩
  · rw [e18, ec, e 20 (by decide) (by decide)] at hw
    omega
  · rw [e18, ec, e 27 (by decide) (by decide), e 28 (by decide) (by decide)]
    exact hl k hk
theorem ri_2 (s : RS) (h : B00 s) : Ok (r_init_2 s) (fun y => InvR y ∧ Big y) := by
  unfold r_init_2
  refine ok_bindP (ok_word _ _ _ _ _ _ _) (fun _ _ => ?_)
  refine ok_let (fun t ht => ?_)
  have h : B00 t := by rw [← ht]; exact h.sg
  clear ht
  revert h
  generalize t = s
  intro h
  refine ok_bindP (ok_word _ _ _ _ _ _ _) (fun _ _ => ?_)
  refine ok_let (fun t ht => ?_)
  have h : B00 t := by rw [← ht]; exact h.sg
  clear ht
  revert h
  generalize t = s
  intro h
  refine ok_bindP (ok_word _ _ _ _ _ _ _) (fun _ _ => ?_)
  refine ok_let (fun t ht => ?_)
  have h : B00 t := by rw [← ht]; exact h.sg
  clear ht
  revert h
  generalize t = s
  intro h
  refine ok_bindP (ok_word _ _ _ _ _ _ _) (fun _ _ => ?_)
  refine ok_let (fun t ht => ?_)
  have h : B00 t := by rw [← ht]; exact h.sg
  clear ht
  revert h
  generalize t = s
  intro h
  refine ok_bindP (ok_word _ _ _ _ _ _ _) (fun _ _ => ?_)
  refine ok_let (fun t ht => ?_)
  have h : B00 t := by rw [← ht]; exact h.sg
  clear ht
  exact ri_3 _ h
theorem ri_1 (s : RS) (h : B00 s) : Ok (r_init_1 s) (fun y => InvR y ∧ Big y) := by
  unfold r_init_1
  refine ok_bindP (ok_word _ _ _ _ _ _ _) (fun _ _ => ?_)
  refine ok_let (fun t ht => ?_)
  have h : B00 t := by rw [← ht]; exact h.sg
  clear ht
  revert h
  generalize t = s
  intro h
  refine ok_bindP (ok_word _ _ _ _ _ _ _) (fun _ _ => ?_)
  refine ok_let (fun t ht => ?_)
  have h : B00 t := by rw [← ht]; exact h.sg
  clear ht
  revert h
  generalize t = s
  intro h
  refine ok_bindP (ok_word _ _ _ _ _ _ _) (fun _ _ => ?_)
  refine ok_let (fun t ht => ?_)
  have h : B00 t := by rw [← ht]; exact h.sg
  clear ht
  revert h
  generalize t = s
  intro h
  refine ok_bindP (ok_word _ _ _ _ _ _ _) (fun _ _ => ?_)
  refine ok_let (fun t ht => ?_)
  have h : B00 t := by rw [← ht]; exact h.sg
  clear ht
  revert h
  generalize t = s
  intro h
  refine ok_bindP (ok_word _ _ _ _ _ _ _) (fun _ _ => ?_)
  refine ok_let (fun t ht => ?_)
  have h : B00 t := by rw [← ht]; exact h.sg
  clear ht
  revert h
  generalize t = s
  intro h
  refine ok_bindP (ok_word _ _ _ _ _ _ _) (fun _ _ => ?_)
  refine ok_let (fun t ht => ?_)
  have h : B00 t := by rw [← ht]; exact h.sg
  clear ht
  revert h
  generalize t = s
  intro h
  refine ok_bindP (ok_word _ _ _ _ _ _ _) (fun _ _ => ?_)
  refine ok_let (fun t ht => ?_)
  have h : B00 t := by rw [← ht]; exact h.sg
  clear ht
  exact ri_2 _ h
theorem ok_r_init : Ok (r_init_0 rs0) (fun y => InvR y ∧ Big y) := by
  have hI : InvR rs0 := by
    refine ⟨fun k => ?_, fun k j => ?_⟩
    · show loVR k ≤ (if k = 17 then (-1 : Int32) else 0).toInt ∧ (if k = 17 then (-1 : Int32) else 0).toInt ≤ hiVR k
      by_cases e : k = 17
      · subst e; decide
      · rw [if_neg e]
        show loVR k ≤ 0 ∧ 0 ≤ hiVR k
        unfold loVR hiVR
        repeat' split
        all_goals omega
    · show loFR k ≤ 0 ∧ 0 ≤ hiFR k
      unfold loFR hiFR
      repeat' split
      all_goals omega
  unfold r_init_0
  refine ok_bindP (ok_plain 0 rs0 0 (by omega) (by decide) hI) (fun s1 h1 => ?_)
  obtain ⟨I1, F1, R1, w1, l1⟩ := h1
  refine ok_bindP (ok_plain 1 s1 1 (by omega) (by decide) I1) (fun s2 h2 => ?_)
  obtain ⟨I2, F2, R2, w2, l2⟩ := h2
  have h : B00 s2 := by
    refine ⟨I2, by rw [F2.1 18 (by decide), F1.1 18 (by decide)]; rfl, by rw [R2.2.2.2.1 0 (by omega)]; exact w1, fun k hk => ?_⟩
    rw [(R2.2.2.1 (4 * 0 + k) (by omega)).1, (R2.2.2.1 (4 * 0 + k) (by omega)).2]
    exact l1 k hk
  clear I1 F1 R1 w1 l1 I2 F2 R2 w2 l2
  revert h
  generalize s2 = s
  intro h
  refine ok_bindP (ok_word _ _ _ _ _ _ _) (fun _ _ => ?_)
  refine ok_let (fun t ht => ?_)
  have h : B00 t := by rw [← ht]; exact h.sg
  clear ht
  revert h
  generalize t = s
  intro h
  refine ok_bindP (ok_word _ _ _ _ _ _ _) (fun _ _ => ?_)
  refine ok_let (fun t ht => ?_)
  have h : B00 t := by rw [← ht]; exact h.sg
  clear ht
  revert h
  generalize t = s
  intro h
  refine ok_bindP (ok_word _ _ _ _ _ _ _) (fun _ _ => ?_)
  refine ok_let (fun t ht => ?_)
  have h : B00 t := by rw [← ht]; exact h.sg
  clear ht
  revert h
  generalize t = s
  intro h
  refine ok_bindP (ok_word _ _ _ _ _ _ _) (fun _ _ => ?_)
  refine ok_let (fun t ht => ?_)
  have h : B00 t := by rw [← ht]; exact h.sg
  clear ht
  revert h
  generalize t = s
  intro h
  refine ok_bindP (ok_word _ _ _ _ _ _ _) (fun _ _ => ?_)
  refine ok_let (fun t ht => ?_)
  have h : B00 t := by rw [← ht]; exact h.sg
  clear ht
  revert h
  generalize t = s
  intro h
  refine ok_bindP (ok_word _ _ _ _ _ _ _) (fun _ _ => ?_)
  refine ok_let (fun t ht => ?_)
  have h : B00 t := by rw [← ht]; exact h.sg
  clear ht
  revert h
  generalize t = s
  intro h
  refine ok_bindP (ok_word _ _ _ _ _ _ _) (fun _ _ => ?_)
  refine ok_let (fun t ht => ?_)
  have h : B00 t := by rw [← ht]; exact h.sg
  clear ht
  exact ri_1 _ h
/-! ===== the words of both sides; what else is so behind the reference's constructor ===== -/
noncomputable def wlst : List (List Nat) := [[5, 22, 1, 23], [25, 20, 18, 1, 16], [19, 4, 5, 5, 14], [19, 5, 18, 1, 6], [19, 5, 18, 1, 4], [19, 20, 6, 9, 8, 19], [4, 5, 5, 19], [6, 9], [14, 5, 8, 20], [5, 19, 12, 5], [20, 1], [19, 4, 4, 15], [25, 22, 1, 5, 8], [5, 22, 18, 5, 14], [20, 6, 5, 12], [18, 1, 5, 25], [8, 3, 9, 8, 23], [19, 25, 15, 21, 2], [19, 5, 15, 7]]
noncomputable def kvF : Nat → Int64 := (vp_updL (vp_updL (vp_updL (vp_updL (vp_updL (vp_updL (vp_updL (vp_updL (vp_updL (vp_updL (vp_updL (vp_updL (vp_updL (vp_updL (vp_updL (vp_updL (vp_updL (vp_updL (vp_updL (fun _ => 0) 0 454037) 1 8536426) 2 7542361) 3 3221605) 4 2158723) 5 277062841) 6 377761) 7 249) 8 399641) 9 107681) 10 47) 11 298288) 12 4351291) 13 7552310) 14 240023) 15 495765) 16 12387257) 17 1487854) 18 148870)
theorem words_ok : ∀ k, k < 19 → (wlst.getD k []).length ≤ 8 ∧ (∀ c ∈ wlst.getD k [], 1 ≤ c ∧ c ≤ 26) ∧ (wdF k).toInt = (lval 32 (wlst.getD k []) : Int) ∧ (kvF k).toInt = (lval 27 (wlst.getD k []) : Int) := by decide +kernel
theorem words_ne : ∀ k, k < 19 → ∀ k', k' < 19 → wdF k = wdF k' → k = k' := by decide +kernel
theorem fr_plain (z : RS) (x : Int32) : Pt (r_plain z x) (FrR [120, 123, 126, 127, 128] z) := by
  intro y h
  unfold r_plain at h
  obtain ⟨_, h⟩ := guard_inv h
  obtain ⟨z2, e2, h⟩ := letS_inv h
  obtain ⟨_, h⟩ := guard_inv h
  obtain ⟨z5, e5, h⟩ := letS_inv h
  obtain ⟨_, h⟩ := guard_inv h
  obtain ⟨z8, e8, h⟩ := letS_inv h
  have F := fr_plainL x fu z8 z8 0 FrR.rfl _ h
  refine FrR.trans (t := z8) ?_ F (by decide)
  rw [← e8, ← e5, ← e2]
  exact ((FrR.rfl.sf (k := 20) (by decide)).sf (k := 23) (by decide)).sf (k := 26) (by decide)
theorem plain_far {z z' : RS} {x : Int32} (h : r_plain z x = some z') : ∀ j, ¬ j = x.toNatClampNeg → z'.f 20 j = z.f 20 j := by
  intro j hj
  unfold r_plain at h
  obtain ⟨_, h⟩ := guard_inv h
  obtain ⟨z2, e2, h⟩ := letS_inv h
  obtain ⟨_, h⟩ := guard_inv h
  obtain ⟨z5, e5, h⟩ := letS_inv h
  obtain ⟨_, h⟩ := guard_inv h
  obtain ⟨z8, e8, h⟩ := letS_inv h
  have F := fr_plainL x fu z8 z8 0 FrR.rfl _ h
  rw [(F.2 20 (by decide)).1, ← e8, ← e5]
  show z2.f 20 j = _
  rw [← e2]
  exact rsf_ne hj
theorem fr_begins_46L : ∀ (n : Nat) (z0 z : RS) (x : Int32), FrR [45, 144, 146] z0 z → Pt (r_begins_46L n z x) (FrR [45, 144, 146] z0) := by
  intro n
  induction n with
  | zero => intro z0 z x _; exact pt_none
  | succ n ih =>
    intro z0 z x h
    show Pt (r_begins_46 (r_begins_46L n) z x) _
    unfold r_begins_46
    refine pt_ite (fun _ => pt_ite (fun _ => ?_) (fun _ => pt_none)) (fun _ => pt_ite (fun _ => pt_ite (fun _ => ?_) (fun _ => pt_none)) (fun _ => pt_none))
    · exact pt_let (P := FrR [45, 144, 146] z0) (h.sv (by decide)) (fun s h => pt_some h)
    · exact pt_let (P := FrR [45, 144, 146] z0) (h.sf (by decide)) (fun s h => ih _ _ _ h)
theorem fr_begins_2L : ∀ (n : Nat) (z0 z : RS) (x : Int32), FrR [45, 144, 146] z0 z → Pt (r_begins_2L n z x) (FrR [45, 144, 146] z0) := by
  intro n
  induction n with
  | zero => intro z0 z x _; exact pt_none
  | succ n ih =>
    intro z0 z x h
    have h30 : ∀ t0 t1, Pt (r_begins_30 (r_begins_2L n) z x t0 t1) (FrR [45, 144, 146] z0) := fun t0 t1 => by
      unfold r_begins_30
      refine pt_ite (fun _ => ?_) (fun _ => pt_none)
      exact pt_let (P := FrR [45, 144, 146] z0) (h.sf (by decide)) (fun s h => ih _ _ _ h)
    show Pt (r_begins_2 (r_begins_2L n) z x) _
    unfold r_begins_2 r_begins_29
    refine pt_ite (fun _ => ?_) (fun _ => pt_ite (fun _ => h30 _ _) (fun _ => pt_ite (fun _ => h30 _ _) (fun _ => h30 _ _)))
    exact pt_let (P := FrR [45, 144, 146] z0) (h.sf (by decide)) (fun s h => fr_begins_46L _ _ _ _ h)
theorem fr_keepsRow : ∀ (n : Nat) (z0 z : RS) (x : Int32), FrR [143] z0 z → Pt (r_keepsRow_2L n z x) (FrR [143] z0) := by
  intro n
  induction n with
  | zero => intro z0 z x _; exact pt_none
  | succ n ih =>
    intro z0 z x h
    show Pt (r_keepsRow_2 (r_keepsRow_2L n) z x) _
    unfold r_keepsRow_2
    refine pt_ite (fun _ => pt_some h) (fun _ => pt_ite (fun _ => pt_ite (fun _ => ?_) (fun _ => pt_none)) (fun _ => pt_none))
    exact pt_let (P := FrR [143] z0) (h.sf (by decide)) (fun s h => ih _ _ _ h)
theorem sg_step {s t : RS} {i : Nat} {x : Int64} (h : s.sg 9 i x = t) : t.v = s.v ∧ t.f = s.f ∧ t.g 9 = vp_updL (s.g 9) i x := by
  subst h
  exact ⟨rfl, rfl, rfl⟩
/-- what the reference's constructor leaves -/
noncomputable def RI (y : RS) : Prop := y.v 2 = 0 ∧ y.v 17 = -1 ∧ y.g 9 = kvF ∧ y.v 18 = 0 ∧ y.f 20 0 = 0 ∧ y.v 51 = 0
theorem z27_plainL (x : Int32) : ∀ (n : Nat) (z : RS) (x2 : Int32), (∀ j, z.f 27 j = 0 ∧ z.f 28 j = 0) → Pt (r_plain_23L n z x x2) (fun y => ∀ j, y.f 27 j = 0 ∧ y.f 28 j = 0) := by
  intro n
  induction n with
  | zero => intro z x2 _; exact pt_none
  | succ n ih =>
    intro z x2 h
    show Pt (r_plain_23 (r_plain_23L n) z x x2) _
    unfold r_plain_23
    refine pt_ite (fun _ => pt_some h) (fun _ => pt_ite (fun _ => pt_let (P := fun t : RS => ∀ j, t.f 27 j = 0 ∧ t.f 28 j = 0) ?_ (fun s3 h3 => pt_ite (fun _ => pt_let (P := fun t : RS => ∀ j, t.f 27 j = 0 ∧ t.f 28 j = 0) ?_ (fun s6 h6 => ih s6 _ h6)) (fun _ => pt_none))) (fun _ => pt_none))
    · intro j
      refine ⟨?_, (h j).2⟩
      rw [rsf_at]
      by_cases e : j = Int32.toNatClampNeg ((4 * x) + x2)
      · rw [if_pos e]
      · rw [if_neg e]; exact (h j).1
    · intro j
      refine ⟨(h3 j).1, ?_⟩
      rw [rsf_at]
      by_cases e : j = Int32.toNatClampNeg ((4 * x) + x2)
      · rw [if_pos e]
      · rw [if_neg e]; exact (h3 j).2
theorem z27_plain {z z' : RS} {x : Int32} (h : ∀ j, z.f 27 j = 0 ∧ z.f 28 j = 0) (hp : r_plain z x = some z') : ∀ j, z'.f 27 j = 0 ∧ z'.f 28 j = 0 := by
  unfold r_plain at hp
  obtain ⟨_, hp⟩ := guard_inv hp
  obtain ⟨z2, e2, hp⟩ := letS_inv hp
  obtain ⟨_, hp⟩ := guard_inv hp
  obtain ⟨z5, e5, hp⟩ := letS_inv hp
  obtain ⟨_, hp⟩ := guard_inv hp
  obtain ⟨z8, e8, hp⟩ := letS_inv hp
  exact z27_plainL x fu z8 0 (by rw [← e8, ← e5, ← e2]; exact h) z' hp
/-- .. and what its standing is then -/
noncomputable def RIB (y : RS) : Prop := (y.f 23 0 = 0 ∧ y.f 26 0 = 0) ∧ (∀ k, k < 4 → y.f 27 k = y.f 28 k) ∧ (∀ i, i < 29 → y.f 43 i = beg i) ∧ (∀ i, i < 6 → y.f 46 i = six6 i) ∧ y.v 48 = 0 ∧ (∀ i, i < 3 → y.f 56 i = 0)
noncomputable def RIR (y : RS) : Prop := RI y ∧ RIB y
theorem ri_of (y : RS) (h : r_init_0 rs0 = some y) : RIR y := by
  unfold r_init_0 at h
  obtain ⟨s1, h1, h⟩ := bindP_inv h
  obtain ⟨s2, h2, h⟩ := bindP_inv h
  have F1 := fr_plain _ _ _ h1
  have F2 := fr_plain _ _ _ h2
  have F : FrR [120, 123, 126, 127, 128] rs0 s2 := F1.trans F2 (by decide)
  rw [show r_word 119 97 118 101 0 0 0 = some 454037 from by decide +kernel, bindP_some] at h
  obtain ⟨t0, d0, h⟩ := letS_inv h
  rw [show r_word 112 97 114 116 121 0 0 = some 8536426 from by decide +kernel, bindP_some] at h
  obtain ⟨t1, d1, h⟩ := letS_inv h
  rw [show r_word 110 101 101 100 115 0 0 = some 7542361 from by decide +kernel, bindP_some] at h
  obtain ⟨t2, d2, h⟩ := letS_inv h
  rw [show r_word 102 97 114 101 115 0 0 = some 3221605 from by decide +kernel, bindP_some] at h
  obtain ⟨t3, d3, h⟩ := letS_inv h
  rw [show r_word 100 97 114 101 115 0 0 = some 2158723 from by decide +kernel, bindP_some] at h
  obtain ⟨t4, d4, h⟩ := letS_inv h
  rw [show r_word 115 104 105 102 116 115 0 = some 277062841 from by decide +kernel, bindP_some] at h
  obtain ⟨t5, d5, h⟩ := letS_inv h
  rw [show r_word 115 101 101 100 0 0 0 = some 377761 from by decide +kernel, bindP_some] at h
  obtain ⟨t6, d6, h⟩ := letS_inv h
  unfold r_init_1 at h
  rw [show r_word 105 102 0 0 0 0 0 = some 249 from by decide +kernel, bindP_some] at h
  obtain ⟨t7, d7, h⟩ := letS_inv h
  rw [show r_word 116 104 101 110 0 0 0 = some 399641 from by decide +kernel, bindP_some] at h
  obtain ⟨t8, d8, h⟩ := letS_inv h
  rw [show r_word 101 108 115 101 0 0 0 = some 107681 from by decide +kernel, bindP_some] at h
  obtain ⟨t9, d9, h⟩ := letS_inv h
  rw [show r_word 97 116 0 0 0 0 0 = some 47 from by decide +kernel, bindP_some] at h
  obtain ⟨t10, d10, h⟩ := letS_inv h
  rw [show r_word 111 100 100 115 0 0 0 = some 298288 from by decide +kernel, bindP_some] at h
  obtain ⟨t11, d11, h⟩ := letS_inv h
  rw [show r_word 104 101 97 118 121 0 0 = some 4351291 from by decide +kernel, bindP_some] at h
  obtain ⟨t12, d12, h⟩ := letS_inv h
  rw [show r_word 110 101 114 118 101 0 0 = some 7552310 from by decide +kernel, bindP_some] at h
  obtain ⟨t13, d13, h⟩ := letS_inv h
  unfold r_init_2 at h
  rw [show r_word 108 101 102 116 0 0 0 = some 240023 from by decide +kernel, bindP_some] at h
  obtain ⟨t14, d14, h⟩ := letS_inv h
  rw [show r_word 121 101 97 114 0 0 0 = some 495765 from by decide +kernel, bindP_some] at h
  obtain ⟨t15, d15, h⟩ := letS_inv h
  rw [show r_word 119 104 105 99 104 0 0 = some 12387257 from by decide +kernel, bindP_some] at h
  obtain ⟨t16, d16, h⟩ := letS_inv h
  rw [show r_word 98 117 111 121 115 0 0 = some 1487854 from by decide +kernel, bindP_some] at h
  obtain ⟨t17, d17, h⟩ := letS_inv h
  rw [show r_word 103 111 101 115 0 0 0 = some 148870 from by decide +kernel, bindP_some] at h
  obtain ⟨t18, d18, h⟩ := letS_inv h
  unfold r_init_3 at h
  obtain ⟨u1, e1, h⟩ := bindP_inv h
  obtain ⟨u2, e2, h⟩ := bindP_inv h
  cases h
  unfold r_begins at e1
  unfold r_keepsRow at e2
  have G1 := fr_begins_2L _ _ _ _ FrR.rfl _ e1
  have G2 := fr_keepsRow _ _ _ _ FrR.rfl _ e2
  have c0 := sg_step d0
  have c1 := sg_step d1
  have c2 := sg_step d2
  have c3 := sg_step d3
  have c4 := sg_step d4
  have c5 := sg_step d5
  have c6 := sg_step d6
  have c7 := sg_step d7
  have c8 := sg_step d8
  have c9 := sg_step d9
  have c10 := sg_step d10
  have c11 := sg_step d11
  have c12 := sg_step d12
  have c13 := sg_step d13
  have c14 := sg_step d14
  have c15 := sg_step d15
  have c16 := sg_step d16
  have c17 := sg_step d17
  have c18 := sg_step d18
  have V : t18.v = s2.v := by rw [c18.1, c17.1, c16.1, c15.1, c14.1, c13.1, c12.1, c11.1, c10.1, c9.1, c8.1, c7.1, c6.1, c5.1, c4.1, c3.1, c2.1, c1.1, c0.1]
  have Fq : t18.f = s2.f := by rw [c18.2.1, c17.2.1, c16.2.1, c15.2.1, c14.2.1, c13.2.1, c12.2.1, c11.2.1, c10.2.1, c9.2.1, c8.2.1, c7.2.1, c6.2.1, c5.2.1, c4.2.1, c3.2.1, c2.2.1, c1.2.1, c0.2.1]
  have v (k : Nat) (hk : k ∉ [45, 144, 146]) (hk2 : k ∉ [143]) (hk3 : k ∉ [120, 123, 126, 127, 128]) : y.v k = rs0.v k := by
    rw [G2.1 k hk2, G1.1 k hk, V]
    exact F.1 k hk3
  have Z2 : ∀ j, s2.f 27 j = 0 ∧ s2.f 28 j = 0 := z27_plain (z27_plain (fun j => ⟨rfl, rfl⟩) h1) h2
  obtain ⟨_, b2, b3, _⟩ := begins_eq fu t18 0 0 (by decide) (by omega) (fun i hi => by omega) e1
  obtain ⟨_, k2, _⟩ := keepsL fu u1 0 0 (by decide) (by omega) e2
  refine ⟨⟨v 2 (by decide) (by decide) (by decide), v 17 (by decide) (by decide) (by decide), ?_, v 18 (by decide) (by decide) (by decide), ?_, v 51 (by decide) (by decide) (by decide)⟩, ⟨?_, ?_⟩, fun k hk => ?_, fun i hi => ?_, fun i hi => ?_, v 48 (by decide) (by decide) (by decide), fun i hi => ?_⟩
  · have g9 : s2.g 9 = (fun _ => 0) := (F.2 9 (by decide)).2
    rw [(G2.2 9 (by decide)).2, (G1.2 9 (by decide)).2, c18.2.2, c17.2.2, c16.2.2, c15.2.2, c14.2.2, c13.2.2, c12.2.2, c11.2.2, c10.2.2, c9.2.2, c8.2.2, c7.2.2, c6.2.2, c5.2.2, c4.2.2, c3.2.2, c2.2.2, c1.2.2, c0.2.2, g9]
    unfold kvF
    rfl
  · rw [(G2.2 20 (by decide)).1, (G1.2 20 (by decide)).1, Fq]
    have far := plain_far h2
    rw [far 0 (by decide)]
    exact (plain_23 h1).1
  · rw [(G2.2 23 (by decide)).1, (G1.2 23 (by decide)).1, Fq, (plain_far2 h2 0 (by decide)).1]
    exact (plain_23 h1).2.1
  · rw [(G2.2 26 (by decide)).1, (G1.2 26 (by decide)).1, Fq, (plain_far2 h2 0 (by decide)).2]
    exact (plain_23 h1).2.2
  · rw [(G2.2 27 (by decide)).1, (G1.2 27 (by decide)).1, (G2.2 28 (by decide)).1, (G1.2 28 (by decide)).1, Fq, (Z2 k).1, (Z2 k).2]
  · rw [k2 i (by omega) hi]
    exact b2 i hi
  · rw [(G2.2 46 (by decide)).1]
    exact b3 i hi
  · rw [(G2.2 56 (by decide)).1, (G1.2 56 (by decide)).1, Fq, (F.2 56 (by decide)).1]
    rfl
theorem ok_r_init2 : Ok (r_init_0 rs0) (fun y => InvR y ∧ Big y ∧ RIR y) := by
  obtain ⟨y, e, h1, h2⟩ := ok_r_init
  exact ⟨y, e, h1, h2, ri_of y e⟩
