/-! ===== what the reference's reading leaves of the other side ===== -/
def Fa3 (sd : Nat) (z0 z : RS) : Prop := FrR WRD z0 z ∧ (z.v 19).toInt = (sd : Int) ∧ (0 ≤ (z.f 23 sd).toInt ∧ (z.f 23 sd).toInt ≤ 6) ∧ (∀ j, ¬ j = sd → z.f 23 j = z0.f 23 j ∧ z.f 26 j = z0.f 26 j) ∧ (∀ j, (j < 6 * sd ∨ 6 * sd + 6 ≤ j) → z.f 24 j = z0.f 24 j ∧ z.f 25 j = z0.f 25 j)
theorem Fa3.sv {sd : Nat} {z0 z : RS} {k : Nat} {x : Int32} (h : Fa3 sd z0 z) (hk : k ∈ WRD) : Fa3 sd z0 (z.sv k x) := by
  obtain ⟨a, b, c⟩ := h
  refine ⟨a.sv hk, ?_, c⟩
  show (va_up z.v k x 19).toInt = _
  unfold va_up
  rw [if_neg (fun e => by rw [← e] at hk; exact absurd hk (by decide))]
  exact b
theorem Fa3.sf {sd : Nat} {z0 z : RS} {k i : Nat} {x : Int32} (h : Fa3 sd z0 z) (hk : 100 + k ∈ WRD) (hn : ¬ k = 23 ∧ ¬ k = 24 ∧ ¬ k = 25 ∧ ¬ k = 26) : Fa3 sd z0 (z.sf k i x) := by
  obtain ⟨a, b, c, d, e⟩ := h
  have g : ∀ m, ¬ k = m → (z.sf k i x).f m = z.f m := fun m hm => by
    show va_up z.f k (upd (z.f k) i x) m = _
    unfold va_up
    rw [if_neg (fun q => hm q.symm)]
  refine ⟨a.sf hk, b, ?_, fun j hj => ?_, fun j hj => ?_⟩
  · rw [g 23 hn.1]; exact c
  · rw [g 23 hn.1, g 26 hn.2.2.2]; exact d j hj
  · rw [g 24 hn.2.1, g 25 hn.2.2.1]; exact e j hj
theorem Fa3.sg {sd : Nat} {z0 z : RS} {k i : Nat} {x : Int64} (h : Fa3 sd z0 z) (hk : 100 + k ∈ WRD) : Fa3 sd z0 (z.sg k i x) := ⟨h.1.sg hk, h.2⟩
theorem fa_r_is {sd : Nat} {z0 : RS} (s : RS) (x1 : Int32) (h1 : Fa3 sd z0 s) : Pt (r_is s x1) (fun y => Fa3 sd z0 y.2) := by
  unfold r_is
  exact pt_ite (fun _ => pt_ite (fun _ => pt_ite (fun _ => pt_some h1) (fun _ => pt_some h1)) (fun _ => pt_none)) (fun _ => pt_some h1)

theorem fa_r_fail {sd : Nat} {z0 : RS} (s : RS) (x1 : Int32) (h1 : Fa3 sd z0 s) : Pt (r_fail s x1) (Fa3 sd z0) := by
  unfold r_fail
  exact pt_ite (fun _ => pt_let (P := Fa3 sd z0) (h1.sv (by decide)) (fun s2 qs2 => pt_ite (fun _ => pt_let (P := Fa3 sd z0) (qs2.sv (by decide)) (fun s5 qs5 => pt_some qs5)) (fun _ => pt_none))) (fun _ => pt_some h1)

theorem fa_r_wrong_46 {sd : Nat} {z0 : RS} (s : RS) (x1 : Int32) (x3 : Int32) (h1 : Fa3 sd z0 s) : Pt (r_wrong_46 s x1 x3) (Fa3 sd z0) := by
  unfold r_wrong_46
  exact pt_let (P := Fa3 sd z0) (h1.sv (by decide)) (fun s1 qs1 => pt_let (P := Fa3 sd z0) (qs1.sv (by decide)) (fun s3 qs3 => pt_some qs3))

theorem fa_r_wrong {sd : Nat} {z0 : RS} (s : RS) (x1 : Int32) (x2 : Int32) (h1 : Fa3 sd z0 s) : Pt (r_wrong s x1 x2) (Fa3 sd z0) := by
  unfold r_wrong
  exact pt_ite (fun _ => pt_ite (fun _ => pt_some h1) (fun _ => pt_ite (fun _ => fa_r_wrong_46 _ _ _ h1) (fun _ => pt_ite (fun _ => pt_some h1) (fun _ => pt_ite (fun _ => pt_ite (fun _ => fa_r_wrong_46 _ _ _ h1) (fun _ => pt_some h1)) (fun _ => fa_r_wrong_46 _ _ _ h1))))) (fun _ => pt_none)

theorem fa_r_goesOn {sd : Nat} {z0 : RS} (s : RS) (h1 : Fa3 sd z0 s) : Pt (r_goesOn s) (Fa3 sd z0) := by
  unfold r_goesOn
  exact pt_ite (fun _ => pt_bindP (P := Fa3 sd z0) (fa_r_fail _ _ h1) (fun s4 qs4 => pt_some qs4)) (fun _ => pt_let (P := Fa3 sd z0) (h1.sv (by decide)) (fun s2 qs2 => pt_some qs2))

theorem fa_r_must {sd : Nat} {z0 : RS} (s : RS) (x1 : Int32) (h1 : Fa3 sd z0 s) : Pt (r_must s x1) (Fa3 sd z0) := by
  unfold r_must
  exact pt_bindI (P := (fun y => Fa3 sd z0 y.2)) (fa_r_is _ _ h1) (fun r2 s1 qs1 => pt_ite (fun _ => pt_bindP (P := Fa3 sd z0) (fa_r_fail _ _ qs1) (fun s4 qs4 => pt_some qs4)) (fun _ => pt_bindP (P := Fa3 sd z0) (fa_r_goesOn _ qs1) (fun s5 qs5 => pt_some qs5)))

theorem fa_r_roomFor_10 {sd : Nat} {z0 : RS} (s : RS) (h1 : Fa3 sd z0 s) : Pt (r_roomFor_10 s) (Fa3 sd z0) := by
  unfold r_roomFor_10
  exact pt_ite (fun _ => pt_bindP (P := Fa3 sd z0) (fa_r_goesOn _ h1) (fun s2 qs2 => pt_some qs2)) (fun _ => pt_some h1)

theorem fa_r_roomFor {sd : Nat} {z0 : RS} (s : RS) (x1 : Int32) (x2 : Int32) (h1 : Fa3 sd z0 s) : Pt (r_roomFor s x1 x2) (Fa3 sd z0) := by
  unfold r_roomFor
  exact pt_ite (fun _ => pt_bindP (P := Fa3 sd z0) (fa_r_fail _ _ h1) (fun s2 qs2 => fa_r_roomFor_10 _ qs2)) (fun _ => fa_r_roomFor_10 _ h1)

theorem fa_r_bounded_15 {sd : Nat} {z0 : RS} (s : RS) (h1 : Fa3 sd z0 s) : Pt (r_bounded_15 s) (fun y => Fa3 sd z0 y.2) := by
  unfold r_bounded_15
  exact pt_bindP (P := Fa3 sd z0) (fa_r_fail _ _ h1) (fun s1 qs1 => pt_some qs1)

theorem fa_r_bounded_46 {sd : Nat} {z0 : RS} (s : RS) (x2 : Int32) (h1 : Fa3 sd z0 s) : Pt (r_bounded_46 s x2) (fun y => Fa3 sd z0 y.2) := by
  unfold r_bounded_46
  exact pt_bindP (P := Fa3 sd z0) (fa_r_goesOn _ h1) (fun s1 qs1 => pt_some qs1)

theorem fa_r_bounded {sd : Nat} {z0 : RS} (s : RS) (x1 : Int32) (h1 : Fa3 sd z0 s) : Pt (r_bounded s x1) (fun y => Fa3 sd z0 y.2) := by
  unfold r_bounded
  exact pt_ite (fun _ => fa_r_bounded_15 _ h1) (fun _ => pt_bindI (P := (fun y => Fa3 sd z0 y.2)) (fa_r_is _ _ h1) (fun r3 s2 qs2 => pt_ite (fun _ => fa_r_bounded_15 _ qs2) (fun _ => pt_ite (fun _ => pt_ite (fun _ => fa_r_bounded_46 _ _ qs2) (fun _ => pt_bindP (P := Fa3 sd z0) (fa_r_wrong _ _ _ qs2) (fun s7 qs7 => fa_r_bounded_46 _ _ qs7))) (fun _ => pt_none))))

theorem fa_r_tellWave_93 {sd : Nat} {z0 : RS} (s : RS) (h1 : Fa3 sd z0 s) : Pt (r_tellWave_93 s) (Fa3 sd z0) := by
  unfold r_tellWave_93
  exact pt_bindP (P := Fa3 sd z0) (fa_r_must _ _ h1) (fun s1 qs1 => pt_ite (fun _ => pt_ite (fun _ => pt_let (P := Fa3 sd z0) (qs1.sf (by decide) (by decide)) (fun s4 qs4 => pt_some qs4)) (fun _ => pt_none)) (fun _ => pt_none))

theorem fa_r_tellWave_31 {sd : Nat} {z0 : RS} (k31 : RS → Int32 → Int32 → Int32 → Int32 → Option RS) (hk31 : ∀ (a0 : RS) (a1 : Int32) (a2 : Int32) (a3 : Int32) (a4 : Int32), Fa3 sd z0 a0 → Pt (k31 a0 a1 a2 a3 a4) (Fa3 sd z0)) (s : RS) (x1 : Int32) (x2 : Int32) (x3 : Int32) (x4 : Int32) (h1 : Fa3 sd z0 s) : Pt (r_tellWave_31 k31 s x1 x2 x3 x4) (Fa3 sd z0) := by
  unfold r_tellWave_31
  exact pt_ite (fun _ => pt_ite (fun _ => pt_ite (fun _ => pt_bindP (P := Fa3 sd z0) (fa_r_wrong _ _ _ h1) (fun s4 qs4 => fa_r_tellWave_93 _ qs4)) (fun _ => fa_r_tellWave_93 _ h1)) (fun _ => fa_r_tellWave_93 _ h1)) (fun _ => pt_bindI (P := (fun y => Fa3 sd z0 y.2)) (fa_r_bounded _ _ h1) (fun r6 s5 qs5 => pt_ite (fun _ => pt_let (P := Fa3 sd z0) (qs5.sf (by decide) (by decide)) (fun s8 qs8 => pt_ite (fun _ => hk31 _ _ _ _ _ qs8) (fun _ => pt_none))) (fun _ => pt_none)))

theorem fa_r_tellWave_31L {sd : Nat} {z0 : RS} : ∀ (n : Nat) (s : RS) (x1 : Int32) (x2 : Int32) (x3 : Int32) (x4 : Int32), Fa3 sd z0 s → Pt (r_tellWave_31L n s x1 x2 x3 x4) (Fa3 sd z0) := by
  intro n
  induction n with
  | zero => intro _ _ _ _ _ _; exact pt_none
  | succ n ih =>
    intro s x1 x2 x3 x4 h1
    exact fa_r_tellWave_31 (r_tellWave_31L n) ih s x1 x2 x3 x4 h1

theorem fa_r_tellWave {sd : Nat} {z0 : RS} (s : RS) (h1 : Fa3 sd z0 s) : Pt (r_tellWave s) (Fa3 sd z0) := by
  unfold r_tellWave
  exact pt_ite (fun _ => fa_r_tellWave_31L _ _ _ _ _ _ h1) (fun _ => pt_none)

theorem fa_r_emit {sd : Nat} {z0 : RS} (s : RS) (x1 : Int32) (x2 : Int32) (h1 : Fa3 sd z0 s) : Pt (r_emit s x1 x2) (Fa3 sd z0) := by
  unfold r_emit
  exact pt_ite (fun _ => pt_let (P := Fa3 sd z0) (h1.sf (by decide) (by decide)) (fun s2 qs2 => pt_ite (fun _ => pt_let (P := Fa3 sd z0) (qs2.sf (by decide) (by decide)) (fun s5 qs5 => pt_let (P := Fa3 sd z0) (qs5.sv (by decide)) (fun s7 qs7 => pt_some qs7))) (fun _ => pt_none))) (fun _ => pt_none)

theorem fa_r_unit_88 {sd : Nat} {z0 : RS} (s : RS) (h1 : Fa3 sd z0 s) : Pt (r_unit_88 s) (Fa3 sd z0) := by
  unfold r_unit_88
  exact pt_bindP (P := Fa3 sd z0) (fa_r_fail _ _ h1) (fun s1 qs1 => pt_some qs1)

theorem fa_r_unit {sd : Nat} {z0 : RS} (s : RS) (h1 : Fa3 sd z0 s) : Pt (r_unit s) (Fa3 sd z0) := by
  unfold r_unit
  exact pt_bindI (P := (fun y => Fa3 sd z0 y.2)) (fa_r_is _ _ h1) (fun r2 s1 qs1 => pt_ite (fun _ => pt_ite (fun _ => pt_ite (fun _ => pt_ite (fun _ => fa_r_unit_88 _ qs1) (fun _ => pt_ite (fun _ => pt_ite (fun _ => fa_r_unit_88 _ qs1) (fun _ => pt_ite (fun _ => pt_bindP (P := Fa3 sd z0) (fa_r_emit _ _ _ qs1) (fun s10 qs10 => pt_bindP (P := Fa3 sd z0) (fa_r_goesOn _ qs10) (fun s11 qs11 => pt_some qs11))) (fun _ => pt_none))) (fun _ => pt_none))) (fun _ => pt_none)) (fun _ => fa_r_unit_88 _ qs1)) (fun _ => pt_ite (fun _ => pt_bindP (P := Fa3 sd z0) (fa_r_emit _ _ _ qs1) (fun s13 qs13 => pt_bindP (P := Fa3 sd z0) (fa_r_goesOn _ qs13) (fun s14 qs14 => pt_some qs14))) (fun _ => pt_none)))

theorem fa_r_comesOut_84 {sd : Nat} {z0 : RS} (k0 : RS → Int32 → Option RS) (hk0 : ∀ (a0 : RS) (a1 : Int32), Fa3 sd z0 a0 → Pt (k0 a0 a1) (Fa3 sd z0)) (s : RS) (x1 : Int32) (t0 : Int32) (h1 : Fa3 sd z0 s) : Pt (r_comesOut_84 k0 s x1 t0) (Fa3 sd z0) := by
  unfold r_comesOut_84
  exact pt_bindP (P := Fa3 sd z0) (fa_r_emit _ _ _ h1) (fun s1 qs1 => hk0 _ _ qs1)

theorem fa_r_comesOut_42 {sd : Nat} {z0 : RS} (k0 : RS → Int32 → Option RS) (hk0 : ∀ (a0 : RS) (a1 : Int32), Fa3 sd z0 a0 → Pt (k0 a0 a1) (Fa3 sd z0)) (s : RS) (x1 : Int32) (x2 : Int32) (h1 : Fa3 sd z0 s) : Pt (r_comesOut_42 k0 s x1 x2) (Fa3 sd z0) := by
  unfold r_comesOut_42
  exact pt_let (P := Fa3 sd z0) (h1.sv (by decide)) (fun s1 qs1 => pt_ite (fun _ => fa_r_comesOut_84 _ hk0 _ _ _ qs1) (fun _ => pt_ite (fun _ => fa_r_comesOut_84 _ hk0 _ _ _ qs1) (fun _ => pt_ite (fun _ => fa_r_comesOut_84 _ hk0 _ _ _ qs1) (fun _ => fa_r_comesOut_84 _ hk0 _ _ _ qs1))))

theorem fa_r_comesOut_0 {sd : Nat} {z0 : RS} (k0 : RS → Int32 → Option RS) (hk0 : ∀ (a0 : RS) (a1 : Int32), Fa3 sd z0 a0 → Pt (k0 a0 a1) (Fa3 sd z0)) (s : RS) (x1 : Int32) (h1 : Fa3 sd z0 s) : Pt (r_comesOut_0 k0 s x1) (Fa3 sd z0) := by
  unfold r_comesOut_0
  exact pt_ite (fun _ => pt_some h1) (fun _ => pt_ite (fun _ => pt_ite (fun _ => pt_some h1) (fun _ => pt_ite (fun _ => fa_r_comesOut_42 _ hk0 _ _ _ h1) (fun _ => pt_ite (fun _ => pt_some h1) (fun _ => pt_ite (fun _ => pt_some h1) (fun _ => fa_r_comesOut_42 _ hk0 _ _ _ h1))))) (fun _ => pt_none))

theorem fa_r_comesOut_0L {sd : Nat} {z0 : RS} : ∀ (n : Nat) (s : RS) (x1 : Int32), Fa3 sd z0 s → Pt (r_comesOut_0L n s x1) (Fa3 sd z0) := by
  intro n
  induction n with
  | zero => intro _ _ _; exact pt_none
  | succ n ih =>
    intro s x1 h1
    exact fa_r_comesOut_0 (r_comesOut_0L n) ih s x1 h1

theorem fa_r_comesOut {sd : Nat} {z0 : RS} (s : RS) (x1 : Int32) (h1 : Fa3 sd z0 s) : Pt (r_comesOut s x1) (Fa3 sd z0) := by
  unfold r_comesOut
  exact fa_r_comesOut_0L _ _ _ h1

theorem fa_r_expression_234 {sd : Nat} {z0 : RS} (k12 : RS → Int32 → Int32 → Option RS) (hk12 : ∀ (a0 : RS) (a1 : Int32) (a2 : Int32), Fa3 sd z0 a0 → Pt (k12 a0 a1 a2) (Fa3 sd z0)) (s : RS) (x1 : Int32) (x2 : Int32) (t0 : Int32) (h1 : Fa3 sd z0 s) : Pt (r_expression_234 k12 s x1 x2 t0) (Fa3 sd z0) := by
  unfold r_expression_234
  exact pt_bindP (P := Fa3 sd z0) (fa_r_comesOut _ _ h1) (fun s1 qs1 => pt_ite (fun _ => pt_ite (fun _ => pt_let (P := Fa3 sd z0) (qs1.sf (by decide) (by decide)) (fun s4 qs4 => pt_let (P := Fa3 sd z0) (qs4.sv (by decide)) (fun s6 qs6 => pt_bindP (P := Fa3 sd z0) (fa_r_goesOn _ qs6) (fun s8 qs8 => hk12 _ _ _ qs8)))) (fun _ => pt_none)) (fun _ => pt_none))

theorem fa_r_expression_229 {sd : Nat} {z0 : RS} (k12 : RS → Int32 → Int32 → Option RS) (hk12 : ∀ (a0 : RS) (a1 : Int32) (a2 : Int32), Fa3 sd z0 a0 → Pt (k12 a0 a1 a2) (Fa3 sd z0)) (s : RS) (x1 : Int32) (x2 : Int32) (h1 : Fa3 sd z0 s) : Pt (r_expression_229 k12 s x1 x2) (Fa3 sd z0) := by
  unfold r_expression_229
  exact fa_r_expression_234 _ hk12 _ _ _ _ h1

theorem fa_r_expression_204 {sd : Nat} {z0 : RS} (s : RS) (h1 : Fa3 sd z0 s) : Pt (r_expression_204 s) (Fa3 sd z0) := by
  unfold r_expression_204
  exact pt_bindP (P := Fa3 sd z0) (fa_r_comesOut _ _ h1) (fun s1 qs1 => pt_some qs1)

theorem fa_r_expression_186 {sd : Nat} {z0 : RS} (k12 : RS → Int32 → Int32 → Option RS) (hk12 : ∀ (a0 : RS) (a1 : Int32) (a2 : Int32), Fa3 sd z0 a0 → Pt (k12 a0 a1 a2) (Fa3 sd z0)) (s : RS) (x1 : Int32) (t0 : Int32) (h1 : Fa3 sd z0 s) : Pt (r_expression_186 k12 s x1 t0) (Fa3 sd z0) := by
  unfold r_expression_186
  exact pt_ite (fun _ => pt_ite (fun _ => fa_r_expression_204 _ h1) (fun _ => pt_bindP (P := Fa3 sd z0) (fa_r_fail _ _ h1) (fun s9 qs9 => fa_r_expression_204 _ qs9))) (fun _ => pt_bindI (P := (fun y => Fa3 sd z0 y.2)) (fa_r_is _ _ h1) (fun r3 s2 qs2 => pt_ite (fun _ => pt_bindI (P := (fun y => Fa3 sd z0 y.2)) (fa_r_is _ _ qs2) (fun r6 s5 qs5 => pt_ite (fun _ => fa_r_expression_234 _ hk12 _ _ _ _ qs5) (fun _ => fa_r_expression_229 _ hk12 _ _ _ qs5))) (fun _ => fa_r_expression_229 _ hk12 _ _ _ qs2)))

theorem fa_r_expression_181 {sd : Nat} {z0 : RS} (k12 : RS → Int32 → Int32 → Option RS) (hk12 : ∀ (a0 : RS) (a1 : Int32) (a2 : Int32), Fa3 sd z0 a0 → Pt (k12 a0 a1 a2) (Fa3 sd z0)) (s : RS) (x1 : Int32) (h1 : Fa3 sd z0 s) : Pt (r_expression_181 k12 s x1) (Fa3 sd z0) := by
  unfold r_expression_181
  exact fa_r_expression_186 _ hk12 _ _ _ h1

theorem fa_r_expression_145 {sd : Nat} {z0 : RS} (k12 : RS → Int32 → Int32 → Option RS) (hk12 : ∀ (a0 : RS) (a1 : Int32) (a2 : Int32), Fa3 sd z0 a0 → Pt (k12 a0 a1 a2) (Fa3 sd z0)) (s : RS) (x1 : Int32) (h1 : Fa3 sd z0 s) : Pt (r_expression_145 k12 s x1) (Fa3 sd z0) := by
  unfold r_expression_145
  exact pt_bindI (P := (fun y => Fa3 sd z0 y.2)) (fa_r_is _ _ h1) (fun r2 s1 qs1 => pt_ite (fun _ => pt_bindI (P := (fun y => Fa3 sd z0 y.2)) (fa_r_is _ _ qs1) (fun r5 s4 qs4 => pt_ite (fun _ => pt_bindI (P := (fun y => Fa3 sd z0 y.2)) (fa_r_is _ _ qs4) (fun r8 s7 qs7 => pt_ite (fun _ => pt_bindI (P := (fun y => Fa3 sd z0 y.2)) (fa_r_is _ _ qs7) (fun r11 s10 qs10 => pt_ite (fun _ => fa_r_expression_186 _ hk12 _ _ _ qs10) (fun _ => fa_r_expression_181 _ hk12 _ _ qs10))) (fun _ => fa_r_expression_181 _ hk12 _ _ qs7))) (fun _ => fa_r_expression_181 _ hk12 _ _ qs4))) (fun _ => fa_r_expression_181 _ hk12 _ _ qs1))

theorem fa_r_expression_96 {sd : Nat} {z0 : RS} (k12 : RS → Int32 → Int32 → Option RS) (k96 : RS → Int32 → Option RS) (hk12 : ∀ (a0 : RS) (a1 : Int32) (a2 : Int32), Fa3 sd z0 a0 → Pt (k12 a0 a1 a2) (Fa3 sd z0)) (hk96 : ∀ (a0 : RS) (a1 : Int32), Fa3 sd z0 a0 → Pt (k96 a0 a1) (Fa3 sd z0)) (s : RS) (x1 : Int32) (h1 : Fa3 sd z0 s) : Pt (r_expression_96 k12 k96 s x1) (Fa3 sd z0) := by
  unfold r_expression_96
  exact pt_bindI (P := (fun y => Fa3 sd z0 y.2)) (fa_r_is _ _ h1) (fun r2 s1 qs1 => pt_ite (fun _ => fa_r_expression_145 _ hk12 _ _ qs1) (fun _ => pt_ite (fun _ => fa_r_expression_145 _ hk12 _ _ qs1) (fun _ => pt_bindP (P := Fa3 sd z0) (fa_r_comesOut _ _ qs1) (fun s5 qs5 => pt_let (P := Fa3 sd z0) (qs5.sv (by decide)) (fun s6 qs6 => pt_let (P := Fa3 sd z0) (qs6.sv (by decide)) (fun s8 qs8 => pt_bindP (P := Fa3 sd z0) (fa_r_goesOn _ qs8) (fun s10 qs10 => hk96 _ _ qs10)))))))

theorem fa_r_expression_96L {sd : Nat} {z0 : RS} (k12 : RS → Int32 → Int32 → Option RS) (hk12 : ∀ (a0 : RS) (a1 : Int32) (a2 : Int32), Fa3 sd z0 a0 → Pt (k12 a0 a1 a2) (Fa3 sd z0)) : ∀ (n : Nat) (s : RS) (x1 : Int32), Fa3 sd z0 s → Pt (r_expression_96L k12 n s x1) (Fa3 sd z0) := by
  intro n
  induction n with
  | zero => intro _ _ _; exact pt_none
  | succ n ih =>
    intro s x1 h1
    exact fa_r_expression_96 k12 (r_expression_96L k12 n) hk12 ih s x1 h1

theorem fa_r_expression_46 {sd : Nat} {z0 : RS} (k12 : RS → Int32 → Int32 → Option RS) (k23 : RS → Int32 → Option RS) (hk12 : ∀ (a0 : RS) (a1 : Int32) (a2 : Int32), Fa3 sd z0 a0 → Pt (k12 a0 a1 a2) (Fa3 sd z0)) (hk23 : ∀ (a0 : RS) (a1 : Int32), Fa3 sd z0 a0 → Pt (k23 a0 a1) (Fa3 sd z0)) (s : RS) (x1 : Int32) (h1 : Fa3 sd z0 s) : Pt (r_expression_46 k12 k23 s x1) (Fa3 sd z0) := by
  unfold r_expression_46
  exact pt_let (P := Fa3 sd z0) (h1.sv (by decide)) (fun s1 qs1 => pt_bindP (P := Fa3 sd z0) (fa_r_goesOn _ qs1) (fun s3 qs3 => pt_ite (fun _ => pt_let (P := Fa3 sd z0) (qs3.sf (by decide) (by decide)) (fun s5 qs5 => pt_let (P := Fa3 sd z0) (qs5.sv (by decide)) (fun s7 qs7 => hk23 _ _ qs7))) (fun _ => pt_none)))

theorem fa_r_expression_23 {sd : Nat} {z0 : RS} (k12 : RS → Int32 → Int32 → Option RS) (k23 : RS → Int32 → Option RS) (hk12 : ∀ (a0 : RS) (a1 : Int32) (a2 : Int32), Fa3 sd z0 a0 → Pt (k12 a0 a1 a2) (Fa3 sd z0)) (hk23 : ∀ (a0 : RS) (a1 : Int32), Fa3 sd z0 a0 → Pt (k23 a0 a1) (Fa3 sd z0)) (s : RS) (x1 : Int32) (h1 : Fa3 sd z0 s) : Pt (r_expression_23 k12 k23 s x1) (Fa3 sd z0) := by
  unfold r_expression_23
  exact pt_bindI (P := (fun y => Fa3 sd z0 y.2)) (fa_r_is _ _ h1) (fun r2 s1 qs1 => pt_ite (fun _ => pt_bindP (P := Fa3 sd z0) (fa_r_unit _ qs1) (fun s4 qs4 => pt_ite (fun _ => fa_r_expression_96L _ hk12 _ _ _ qs4) (fun _ => pt_some qs4))) (fun _ => pt_ite (fun _ => pt_bindP (P := Fa3 sd z0) (fa_r_fail _ _ qs1) (fun s7 qs7 => fa_r_expression_46 _ _ hk12 hk23 _ _ qs7)) (fun _ => fa_r_expression_46 _ _ hk12 hk23 _ _ qs1)))

theorem fa_r_expression_23L {sd : Nat} {z0 : RS} (k12 : RS → Int32 → Int32 → Option RS) (hk12 : ∀ (a0 : RS) (a1 : Int32) (a2 : Int32), Fa3 sd z0 a0 → Pt (k12 a0 a1 a2) (Fa3 sd z0)) : ∀ (n : Nat) (s : RS) (x1 : Int32), Fa3 sd z0 s → Pt (r_expression_23L k12 n s x1) (Fa3 sd z0) := by
  intro n
  induction n with
  | zero => intro _ _ _; exact pt_none
  | succ n ih =>
    intro s x1 h1
    exact fa_r_expression_23 k12 (r_expression_23L k12 n) hk12 ih s x1 h1

theorem fa_r_expression_12 {sd : Nat} {z0 : RS} (k12 : RS → Int32 → Int32 → Option RS) (hk12 : ∀ (a0 : RS) (a1 : Int32) (a2 : Int32), Fa3 sd z0 a0 → Pt (k12 a0 a1 a2) (Fa3 sd z0)) (s : RS) (x1 : Int32) (x2 : Int32) (h1 : Fa3 sd z0 s) : Pt (r_expression_12 k12 s x1 x2) (Fa3 sd z0) := by
  unfold r_expression_12
  exact pt_ite (fun _ => pt_some h1) (fun _ => pt_ite (fun _ => fa_r_expression_23L _ hk12 _ _ _ h1) (fun _ => pt_some h1))

theorem fa_r_expression_12L {sd : Nat} {z0 : RS} : ∀ (n : Nat) (s : RS) (x1 : Int32) (x2 : Int32), Fa3 sd z0 s → Pt (r_expression_12L n s x1 x2) (Fa3 sd z0) := by
  intro n
  induction n with
  | zero => intro _ _ _ _; exact pt_none
  | succ n ih =>
    intro s x1 x2 h1
    exact fa_r_expression_12 (r_expression_12L n) ih s x1 x2 h1

theorem fa_r_expression {sd : Nat} {z0 : RS} (s : RS) (h1 : Fa3 sd z0 s) : Pt (r_expression s) (Fa3 sd z0) := by
  unfold r_expression
  exact pt_let (P := Fa3 sd z0) (h1.sv (by decide)) (fun s1 qs1 => fa_r_expression_12L _ _ _ _ qs1)

theorem fa_r_term_24 {sd : Nat} {z0 : RS} (s : RS) (h1 : Fa3 sd z0 s) : Pt (r_term_24 s) (Fa3 sd z0) := by
  unfold r_term_24
  exact pt_ite (fun _ => pt_let (P := Fa3 sd z0) (h1.sf (by decide) (by decide)) (fun s2 qs2 => pt_let (P := Fa3 sd z0) (qs2.sv (by decide)) (fun s4 qs4 => pt_some qs4))) (fun _ => pt_none)

theorem fa_r_term {sd : Nat} {z0 : RS} (s : RS) (h1 : Fa3 sd z0 s) : Pt (r_term s) (Fa3 sd z0) := by
  unfold r_term
  exact pt_ite (fun _ => pt_let (P := Fa3 sd z0) (h1.sf (by decide) (by decide)) (fun s2 qs2 => pt_ite (fun _ => pt_bindP (P := Fa3 sd z0) (fa_r_expression _ qs2) (fun s5 qs5 => fa_r_term_24 _ qs5)) (fun _ => fa_r_term_24 _ qs2))) (fun _ => pt_none)

theorem fa_r_tellLaw_129 {sd : Nat} {z0 : RS} (s : RS) (x1 : Int32) (x2 : Int32) (h1 : Fa3 sd z0 s) : Pt (r_tellLaw_129 s x1 x2) (Fa3 sd z0) := by
  unfold r_tellLaw_129
  exact pt_ite (fun _ => pt_let (P := Fa3 sd z0) (h1.sf (by decide) (by decide)) (fun s2 qs2 => pt_bindP (P := Fa3 sd z0) (fa_r_term _ qs2) (fun s4 qs4 => pt_bindP (P := Fa3 sd z0) (fa_r_must _ _ qs4) (fun s5 qs5 => pt_ite (fun _ => pt_ite (fun _ => pt_let (P := Fa3 sd z0) (qs5.sf (by decide) (by decide)) (fun s8 qs8 => pt_ite (fun _ => pt_let (P := Fa3 sd z0) (qs8.sf (by decide) (by decide)) (fun s11 qs11 => pt_some qs11)) (fun _ => pt_none))) (fun _ => pt_none)) (fun _ => pt_some qs5))))) (fun _ => pt_none)

theorem fa_r_tellLaw_110 {sd : Nat} {z0 : RS} (k12 : RS → Int32 → Int32 → Int32 → Option RS) (hk12 : ∀ (a0 : RS) (a1 : Int32) (a2 : Int32) (a3 : Int32), Fa3 sd z0 a0 → Pt (k12 a0 a1 a2 a3) (Fa3 sd z0)) (s : RS) (x1 : Int32) (x2 : Int32) (x3 : Int32) (h1 : Fa3 sd z0 s) : Pt (r_tellLaw_110 k12 s x1 x2 x3) (Fa3 sd z0) := by
  unfold r_tellLaw_110
  exact pt_bindP (P := Fa3 sd z0) (fa_r_must _ _ h1) (fun s1 qs1 => pt_bindP (P := Fa3 sd z0) (fa_r_term _ qs1) (fun s2 qs2 => pt_bindP (P := Fa3 sd z0) (fa_r_must _ _ qs2) (fun s3 qs3 => hk12 _ _ _ _ qs3)))

theorem fa_r_tellLaw_38 {sd : Nat} {z0 : RS} (k12 : RS → Int32 → Int32 → Int32 → Option RS) (hk12 : ∀ (a0 : RS) (a1 : Int32) (a2 : Int32) (a3 : Int32), Fa3 sd z0 a0 → Pt (k12 a0 a1 a2 a3) (Fa3 sd z0)) (s : RS) (x1 : Int32) (x2 : Int32) (x3 : Int32) (h1 : Fa3 sd z0 s) : Pt (r_tellLaw_38 k12 s x1 x2 x3) (Fa3 sd z0) := by
  unfold r_tellLaw_38
  exact pt_ite (fun _ => pt_bindP (P := Fa3 sd z0) (fa_r_goesOn _ h1) (fun s2 qs2 => pt_ite (fun _ => pt_let (P := Fa3 sd z0) (qs2.sf (by decide) (by decide)) (fun s4 qs4 => pt_ite (fun _ => pt_let (P := Fa3 sd z0) (qs4.sf (by decide) (by decide)) (fun s7 qs7 => pt_bindP (P := Fa3 sd z0) (fa_r_expression _ qs7) (fun s9 qs9 => pt_bindP (P := Fa3 sd z0) (fa_r_must _ _ qs9) (fun s10 qs10 => pt_ite (fun _ => pt_let (P := Fa3 sd z0) (qs10.sf (by decide) (by decide)) (fun s12 qs12 => pt_ite (fun _ => pt_bindP (P := Fa3 sd z0) (fa_r_expression _ qs12) (fun s15 qs15 => fa_r_tellLaw_110 _ hk12 _ _ _ _ qs15)) (fun _ => fa_r_tellLaw_110 _ hk12 _ _ _ _ qs12))) (fun _ => pt_none))))) (fun _ => pt_none))) (fun _ => pt_none))) (fun _ => pt_some h1)

theorem fa_r_tellLaw_12 {sd : Nat} {z0 : RS} (k12 : RS → Int32 → Int32 → Int32 → Option RS) (hk12 : ∀ (a0 : RS) (a1 : Int32) (a2 : Int32) (a3 : Int32), Fa3 sd z0 a0 → Pt (k12 a0 a1 a2 a3) (Fa3 sd z0)) (s : RS) (x1 : Int32) (x2 : Int32) (x3 : Int32) (h1 : Fa3 sd z0 s) : Pt (r_tellLaw_12 k12 s x1 x2 x3) (Fa3 sd z0) := by
  unfold r_tellLaw_12
  exact pt_ite (fun _ => pt_bindI (P := (fun y => Fa3 sd z0 y.2)) (fa_r_is _ _ h1) (fun r3 s2 qs2 => pt_ite (fun _ => fa_r_tellLaw_129 _ _ _ qs2) (fun _ => pt_ite (fun _ => pt_bindP (P := Fa3 sd z0) (fa_r_fail _ _ qs2) (fun s6 qs6 => fa_r_tellLaw_38 _ hk12 _ _ _ _ qs6)) (fun _ => fa_r_tellLaw_38 _ hk12 _ _ _ _ qs2)))) (fun _ => fa_r_tellLaw_129 _ _ _ h1)

theorem fa_r_tellLaw_12L {sd : Nat} {z0 : RS} : ∀ (n : Nat) (s : RS) (x1 : Int32) (x2 : Int32) (x3 : Int32), Fa3 sd z0 s → Pt (r_tellLaw_12L n s x1 x2 x3) (Fa3 sd z0) := by
  intro n
  induction n with
  | zero => intro _ _ _ _ _; exact pt_none
  | succ n ih =>
    intro s x1 x2 x3 h1
    exact fa_r_tellLaw_12 (r_tellLaw_12L n) ih s x1 x2 x3 h1

theorem fa_r_tellLaw {sd : Nat} {z0 : RS} (s : RS) (x1 : Int32) (h1 : Fa3 sd z0 s) : Pt (r_tellLaw s x1) (Fa3 sd z0) := by
  unfold r_tellLaw
  exact pt_bindP (P := Fa3 sd z0) (fa_r_must _ _ h1) (fun s1 qs1 => fa_r_tellLaw_12L _ _ _ _ _ qs1)

theorem fa_r_tellOne_165 {sd : Nat} {z0 : RS} (s : RS) (x1 : Int32) (h1 : Fa3 sd z0 s) : Pt (r_tellOne_165 s x1) (Fa3 sd z0) := by
  unfold r_tellOne_165
  exact pt_ite (fun _ => pt_bindP (P := Fa3 sd z0) (fa_r_goesOn _ h1) (fun s2 qs2 => pt_bindP (P := Fa3 sd z0) (fa_r_tellLaw _ _ qs2) (fun s3 qs3 => pt_some qs3))) (fun _ => pt_some h1)

theorem fa_r_tellOne_160 {sd : Nat} {z0 : RS} (s : RS) (x1 : Int32) (h1 : Fa3 sd z0 s) : Pt (r_tellOne_160 s x1) (Fa3 sd z0) := by
  unfold r_tellOne_160
  exact pt_bindP (P := Fa3 sd z0) (fa_r_fail _ _ h1) (fun s1 qs1 => fa_r_tellOne_165 _ _ qs1)
