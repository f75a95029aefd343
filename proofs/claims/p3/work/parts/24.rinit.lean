/-! ===== the reference's constructor ===== -/
def r_init_3 (s : RS) : Option RS := (bindP (r_begins s) fun s1 => (bindP (r_keepsRow s1) fun s2 => (some s2)))
def r_init_2 (s : RS) : Option RS := (bindP (r_word 108 101 102 116 0 0 0) fun r1 => (letS (s.sg 9 14 r1) fun s2 => (bindP (r_word 121 101 97 114 0 0 0) fun r4 => (letS (s2.sg 9 15 r4) fun s5 => (bindP (r_word 119 104 105 99 104 0 0) fun r7 => (letS (s5.sg 9 16 r7) fun s8 => (bindP (r_word 98 117 111 121 115 0 0) fun r10 => (letS (s8.sg 9 17 r10) fun s11 => (bindP (r_word 103 111 101 115 0 0 0) fun r13 => (letS (s11.sg 9 18 r13) fun s14 => r_init_3 s14))))))))))
def r_init_1 (s : RS) : Option RS := (bindP (r_word 105 102 0 0 0 0 0) fun r1 => (letS (s.sg 9 7 r1) fun s2 => (bindP (r_word 116 104 101 110 0 0 0) fun r4 => (letS (s2.sg 9 8 r4) fun s5 => (bindP (r_word 101 108 115 101 0 0 0) fun r7 => (letS (s5.sg 9 9 r7) fun s8 => (bindP (r_word 97 116 0 0 0 0 0) fun r10 => (letS (s8.sg 9 10 r10) fun s11 => (bindP (r_word 111 100 100 115 0 0 0) fun r13 => (letS (s11.sg 9 11 r13) fun s14 => (bindP (r_word 104 101 97 118 121 0 0) fun r16 => (letS (s14.sg 9 12 r16) fun s17 => (bindP (r_word 110 101 114 118 101 0 0) fun r19 => (letS (s17.sg 9 13 r19) fun s20 => r_init_2 s20))))))))))))))
def r_init_0 (s : RS) : Option RS := (bindP (r_plain s 0) fun s1 => (bindP (r_plain s1 1) fun s2 => (bindP (r_word 119 97 118 101 0 0 0) fun r3 => (letS (s2.sg 9 0 r3) fun s4 => (bindP (r_word 112 97 114 116 121 0 0) fun r6 => (letS (s4.sg 9 1 r6) fun s7 => (bindP (r_word 110 101 101 100 115 0 0) fun r9 => (letS (s7.sg 9 2 r9) fun s10 => (bindP (r_word 102 97 114 101 115 0 0) fun r12 => (letS (s10.sg 9 3 r12) fun s13 => (bindP (r_word 100 97 114 101 115 0 0) fun r15 => (letS (s13.sg 9 4 r15) fun s16 => (bindP (r_word 115 104 105 102 116 115 0) fun r18 => (letS (s16.sg 9 5 r18) fun s19 => (bindP (r_word 115 101 101 100 0 0 0) fun r21 => (letS (s19.sg 9 6 r21) fun s22 => r_init_1 s22))))))))))))))))
/-- the fresh numbers -/
def rs0 : RS := (fun k => if k = 17 then -1 else 0, fun _ _ => 0, fun _ _ => 0)
theorem ok_word (x0 x1 x2 x3 x4 x5 x6 : Int32) : Ok (r_word x0 x1 x2 x3 x4 x5 x6) (fun _ => True) := by
  unfold r_word
  refine ok_bindP (ok_appends _ _) (fun r1 _ => ?_)
  refine ok_bindP (ok_appends _ _) (fun r2 _ => ?_)
  refine ok_bindP (ok_appends _ _) (fun r3 _ => ?_)
  refine ok_bindP (ok_appends _ _) (fun r4 _ => ?_)
  refine ok_bindP (ok_appends _ _) (fun r5 _ => ?_)
  refine ok_bindP (ok_appends _ _) (fun r6 _ => ?_)
  refine ok_bindP (ok_appends _ _) (fun r7 _ => ?_)
  exact ok_some trivial
/-- behind both plain sides -/
def B00 (s : RS) : Prop := InvR s ∧ s.v 18 = 0 ∧ s.v 2 = 0 ∧ (s.f 20 0).toInt = 0 ∧ ∀ k : Nat, k < 4 → s.f 27 (4 * 0 + k) = s.f 28 (4 * 0 + k)
theorem B00.sg {s : RS} {k i : Nat} {x : Int64} (h : B00 s) : B00 (s.sg k i x) := h
theorem ri_3 (s : RS) (h : B00 s) : Ok (r_init_3 s) (fun y => InvR y ∧ Big y ∧ y.v 2 = 0) := by
  obtain ⟨hI, h18, h02, h20, hl⟩ := h
  unfold r_init_3
  refine ok_bindP (ok_begins s hI) (fun s1 h1 => ?_)
  obtain ⟨I1, F1, S1⟩ := h1
  refine ok_bindP (ok_r_keepsRow s1 I1) (fun s2 h2 => ?_)
  obtain ⟨I2, F2⟩ := h2
  have e18 : s2.v 18 = 0 := by rw [F2.1 18 (by decide), F1.1 18 (by decide), h18]
  have e (k : Nat) (h1 : 100 + k ∉ [45, 144, 146]) (h2 : 100 + k ∉ [143]) : s2.f k = s.f k := (F2.2 k h2).1.trans (F1.2 k h1).1
  have ec : (0 : Int32).toNatClampNeg = 0 := by decide
  refine ok_some ⟨I2, ⟨by rw [(F2.2 46 (by decide)).1]; exact S1, fun w hw => ?_, fun k hk => Or.inl ?_⟩, by rw [F2.1 2 (by decide), F1.1 2 (by decide), h02]⟩
  · rw [e18, ec, e 20 (by decide) (by decide)] at hw
    omega
  · rw [e18, ec, e 27 (by decide) (by decide), e 28 (by decide) (by decide)]
    exact hl k hk
theorem ri_2 (s : RS) (h : B00 s) : Ok (r_init_2 s) (fun y => InvR y ∧ Big y ∧ y.v 2 = 0) := by
  unfold r_init_2
  refine ok_bindP (ok_word _ _ _ _ _ _ _) (fun _ _ => ?_)
  refine ok_let (fun t ht => ?_)
  have h : B00 t := by rw [← ht]; exact h.sg
  clear ht
  revert h
  generalize t = s
  intro h
  refine ok_bindP (ok_word _ _ _ _ _ _ _) (fun _ _ => ?_)
  refine ok_let (fun t ht => ?_)
  have h : B00 t := by rw [← ht]; exact h.sg
  clear ht
  revert h
  generalize t = s
  intro h
  refine ok_bindP (ok_word _ _ _ _ _ _ _) (fun _ _ => ?_)
  refine ok_let (fun t ht => ?_)
  have h : B00 t := by rw [← ht]; exact h.sg
  clear ht
  revert h
  generalize t = s
  intro h
  refine ok_bindP (ok_word _ _ _ _ _ _ _) (fun _ _ => ?_)
  refine ok_let (fun t ht => ?_)
  have h : B00 t := by rw [← ht]; exact h.sg
  clear ht
  revert h
  generalize t = s
  intro h
  refine ok_bindP (ok_word _ _ _ _ _ _ _) (fun _ _ => ?_)
  refine ok_let (fun t ht => ?_)
  have h : B00 t := by rw [← ht]; exact h.sg
  clear ht
  exact ri_3 _ h
theorem ri_1 (s : RS) (h : B00 s) : Ok (r_init_1 s) (fun y => InvR y ∧ Big y ∧ y.v 2 = 0) := by
  unfold r_init_1
  refine ok_bindP (ok_word _ _ _ _ _ _ _) (fun _ _ => ?_)
  refine ok_let (fun t ht => ?_)
  have h : B00 t := by rw [← ht]; exact h.sg
  clear ht
  revert h
  generalize t = s
  intro h
  refine ok_bindP (ok_word _ _ _ _ _ _ _) (fun _ _ => ?_)
  refine ok_let (fun t ht => ?_)
  have h : B00 t := by rw [← ht]; exact h.sg
  clear ht
  revert h
  generalize t = s
  intro h
  refine ok_bindP (ok_word _ _ _ _ _ _ _) (fun _ _ => ?_)
  refine ok_let (fun t ht => ?_)
  have h : B00 t := by rw [← ht]; exact h.sg
  clear ht
  revert h
  generalize t = s
  intro h
  refine ok_bindP (ok_word _ _ _ _ _ _ _) (fun _ _ => ?_)
  refine ok_let (fun t ht => ?_)
  have h : B00 t := by rw [← ht]; exact h.sg
  clear ht
  revert h
  generalize t = s
  intro h
  refine ok_bindP (ok_word _ _ _ _ _ _ _) (fun _ _ => ?_)
  refine ok_let (fun t ht => ?_)
  have h : B00 t := by rw [← ht]; exact h.sg
  clear ht
  revert h
  generalize t = s
  intro h
  refine ok_bindP (ok_word _ _ _ _ _ _ _) (fun _ _ => ?_)
  refine ok_let (fun t ht => ?_)
  have h : B00 t := by rw [← ht]; exact h.sg
  clear ht
  revert h
  generalize t = s
  intro h
  refine ok_bindP (ok_word _ _ _ _ _ _ _) (fun _ _ => ?_)
  refine ok_let (fun t ht => ?_)
  have h : B00 t := by rw [← ht]; exact h.sg
  clear ht
  exact ri_2 _ h
theorem ok_r_init : Ok (r_init_0 rs0) (fun y => InvR y ∧ Big y ∧ y.v 2 = 0) := by
  have hI : InvR rs0 := by
    refine ⟨fun k => ?_, fun k j => ?_⟩
    · show loVR k ≤ (if k = 17 then (-1 : Int32) else 0).toInt ∧ (if k = 17 then (-1 : Int32) else 0).toInt ≤ hiVR k
      by_cases e : k = 17
      · subst e; decide
      · rw [if_neg e]
        show loVR k ≤ 0 ∧ 0 ≤ hiVR k
        unfold loVR hiVR
        repeat' split
        all_goals omega
    · show loFR k ≤ 0 ∧ 0 ≤ hiFR k
      unfold loFR hiFR
      repeat' split
      all_goals omega
  unfold r_init_0
  refine ok_bindP (ok_plain 0 rs0 0 (by omega) (by decide) hI) (fun s1 h1 => ?_)
  obtain ⟨I1, F1, R1, w1, l1⟩ := h1
  refine ok_bindP (ok_plain 1 s1 1 (by omega) (by decide) I1) (fun s2 h2 => ?_)
  obtain ⟨I2, F2, R2, w2, l2⟩ := h2
  have h : B00 s2 := by
    refine ⟨I2, by rw [F2.1 18 (by decide), F1.1 18 (by decide)]; rfl, by rw [F2.1 2 (by decide), F1.1 2 (by decide)]; rfl, by rw [R2.2.2.2.1 0 (by omega)]; exact w1, fun k hk => ?_⟩
    rw [(R2.2.2.1 (4 * 0 + k) (by omega)).1, (R2.2.2.1 (4 * 0 + k) (by omega)).2]
    exact l1 k hk
  clear I1 F1 R1 w1 l1 I2 F2 R2 w2 l2
  revert h
  generalize s2 = s
  intro h
  refine ok_bindP (ok_word _ _ _ _ _ _ _) (fun _ _ => ?_)
  refine ok_let (fun t ht => ?_)
  have h : B00 t := by rw [← ht]; exact h.sg
  clear ht
  revert h
  generalize t = s
  intro h
  refine ok_bindP (ok_word _ _ _ _ _ _ _) (fun _ _ => ?_)
  refine ok_let (fun t ht => ?_)
  have h : B00 t := by rw [← ht]; exact h.sg
  clear ht
  revert h
  generalize t = s
  intro h
  refine ok_bindP (ok_word _ _ _ _ _ _ _) (fun _ _ => ?_)
  refine ok_let (fun t ht => ?_)
  have h : B00 t := by rw [← ht]; exact h.sg
  clear ht
  revert h
  generalize t = s
  intro h
  refine ok_bindP (ok_word _ _ _ _ _ _ _) (fun _ _ => ?_)
  refine ok_let (fun t ht => ?_)
  have h : B00 t := by rw [← ht]; exact h.sg
  clear ht
  revert h
  generalize t = s
  intro h
  refine ok_bindP (ok_word _ _ _ _ _ _ _) (fun _ _ => ?_)
  refine ok_let (fun t ht => ?_)
  have h : B00 t := by rw [← ht]; exact h.sg
  clear ht
  revert h
  generalize t = s
  intro h
  refine ok_bindP (ok_word _ _ _ _ _ _ _) (fun _ _ => ?_)
  refine ok_let (fun t ht => ?_)
  have h : B00 t := by rw [← ht]; exact h.sg
  clear ht
  revert h
  generalize t = s
  intro h
  refine ok_bindP (ok_word _ _ _ _ _ _ _) (fun _ _ => ?_)
  refine ok_let (fun t ht => ?_)
  have h : B00 t := by rw [← ht]; exact h.sg
  clear ht
  exact ri_1 _ h
