/-! ===== the whole reading ===== -/
theorem sim_loop {N sd : Nat} {z00 : RS} {r1 r2 : Int32} {s' : KS} {z' : RS} : ∀ (n m : Nat) (s : KS) (z : RS) (x : Int32), ML N sd s z → InvK s → (∃ c b, RD z00 sd c b z) → 0 ≤ x.toInt → x.toInt ≤ (s.v 15).toInt → kX4_readTape_41L n s x = some (r1, s') → r_read_107L m z = some (r2, z') → ∃ t w, kX4_readTape_75 t = some (r1, s') ∧ r_read_129 w = some (r2, z') ∧ InvK t ∧ (∃ c b, RD z00 sd c b w) ∧ (ML N sd t w ∨ FR2 t w) := by
  intro n
  induction n with
  | zero => intro m s z x _ _ _ _ _ hs; exact none_ne hs
  | succ n ih =>
    intro m s z x hM hI hR hx0 hx hs hz
    have hs : kX4_readTape_41 (kX4_readTape_41L n) s x = some (r1, s') := hs
    cases m with
    | zero => exact none_ne hz
    | succ m =>
    have hz : r_read_107 (r_read_107L m) z = some (r2, z') := hz
    have hP := hM.1
    have hT := hM.2.1
    have hk := hP.kp hT
    have i0 := kp2 hk (c0 := 302) (r0 := 0) (by decide)
    have b1 := hP.2.2.2.2.1
    have b2 := hP.2.2.2.2.2
    have nx : ¬ 400 < x := fun q => by
      have := tn_lt (a := 400) (by decide) rfl q
      omega
    unfold kX4_readTape_41 at hs
    unfold r_read_107 at hz
    rw [if_neg nx, if_pos hP.1] at hs
    rw [if_pos hP.2.1] at hz
    by_cases c : KAt s = 302
    · rw [kat_yes hP.1 hP.kv c, bindI_some, if_neg z_one] at hs
      rw [zis_yes hP.2.1 hP.zv (i0.mp c), bindI_some, if_neg z_one] at hz
      exact ⟨s, z, hs, hz, hI, hR, Or.inl hM⟩
    · rw [kat_no hP.1 hP.kv c, bindI_some, if_pos rfl] at hs
      rw [zis_no hP.2.1 hP.zv (fun q => c (i0.mpr q)), bindI_some, if_pos rfl] at hz
      obtain ⟨s6, h6, hs⟩ := bindP_inv hs
      obtain ⟨z5, h5, hz⟩ := bindP_inv hz
      obtain ⟨t, et, It, Ft⟩ := ok_kX4_readTell s hI
      rw [h6] at et
      cases et
      obtain ⟨cc, bb, hRD⟩ := hR
      have z13 : (z.v 13).toInt = 0 := by rw [hP.2.1]; decide
      obtain ⟨w, ew, Rw, _⟩ := ok_tellOne z00 sd cc bb z hRD z13
      rw [h5] at ew
      cases ew
      have ax : (x + 1).toInt = x.toInt + 1 := tn_add rfl (by decide) (by omega) (by omega)
      rcases sim_tell hM hI h6 h5 with ⟨hM2, l2⟩ | F
      · exact ih m s6 z5 (x + 1) hM2 It Rw (by omega) (by omega) hs hz
      · refine ⟨s6, z5, ?_, ?_, It, Rw, Or.inr F⟩
        · cases n with
          | zero => exact none_ne hs
          | succ n =>
          have hs : kX4_readTape_41 (kX4_readTape_41L n) s6 (x + 1) = some (r1, s') := hs
          unfold kX4_readTape_41 at hs
          by_cases q : 400 < x + 1
          · rw [if_pos q] at hs; exact hs
          · rw [if_neg q, if_neg F.ne] at hs; exact hs
        · cases m with
          | zero => exact none_ne hz
          | succ m =>
          have hz : r_read_107 (r_read_107L m) z5 = some (r2, z') := hz
          have n13 : ¬ z5.v 13 = 0 := fun q => by
            have := F.1
            rw [q] at this
            exact absurd this (by decide)
          unfold r_read_107 at hz
          rw [if_neg n13] at hz
          exact hz
theorem nar0 : vp_nar .boolean 0 = 0 := by decide
theorem rsf_ne {z : RS} {k i j : Nat} {x : Int32} (h : ¬ j = i) : (z.sf k i x).f k j = z.f k j := by
  show va_up z.f k (upd (z.f k) i x) k j = _
  unfold va_up
  rw [if_pos rfl]
  exact upd_ne h
theorem held_off : ∀ (m : Nat) (z : RS) (x : Int32), 0 ≤ x.toInt → x.toInt ≤ 3 → Pt (r_read_214L m z x) (fun y => y.1 = 0 ∧ FrR [156] z y.2 ∧ (∀ j : Nat, x.toInt ≤ (j : Int) → j < 3 → y.2.f 56 j = 0) ∧ (∀ j : Nat, (j : Int) < x.toInt → y.2.f 56 j = z.f 56 j)) := by
  intro m
  induction m with
  | zero => intro z x _ _; exact pt_none
  | succ m ih =>
    intro z x h0 h3
    show Pt (r_read_214 (r_read_214L m) z x) _
    unfold r_read_214
    refine pt_ite (fun c => ?_) (fun c => pt_ite (fun _ => ?_) (fun _ => pt_none))
    · have c := tn_le (a := 3) (by decide) rfl c
      exact pt_some ⟨rfl, FrR.rfl, fun j h1 h2 => by omega, fun _ _ => rfl⟩
    · have c := tn_nle (a := 3) (by decide) rfl c
      have a : (x + 1).toInt = x.toInt + 1 := tn_add rfl (by decide) (by omega) (by omega)
      have ec := clampI h0
      intro y hy
      obtain ⟨t, et, hy⟩ := letS_inv hy
      obtain ⟨q1, q2, q3, q4⟩ := ih t (x + 1) (by omega) (by omega) y hy
      refine ⟨q1, ?_, fun j h1 h2 => ?_, fun j h1 => ?_⟩
      · refine FrR.trans (t := t) ?_ q2 (by decide)
        rw [← et]
        exact FrR.rfl.sf (by decide)
      · by_cases e : j = x.toNatClampNeg
        · rw [q4 j (by omega), ← et, e, rsf_get]
          exact nar0
        · exact q3 j (by omega) h2
      · rw [q4 j (by omega), ← et]
        exact rsf_ne (by omega)
theorem sim_end {N sd c b : Nat} {z00 w z' : RS} {t s' : KS} {r1 r2 : Int32} (hI : InvK t) (hR : RD z00 sd c b w) (h : ML N sd t w ∨ FR2 t w) (hs : kX4_readTape_75 t = some (r1, s')) (hz : r_read_129 w = some (r2, z')) : r1 = r2 ∧ s'.v 17 = z'.v 17 ∧ FrK [10, 16, 17, 117, 118] t s' ∧ ((r1 = 0 ∧ t.v 8 = w.f 20 sd ∧ z'.v 18 = w.v 19 ∧ z'.v 51 = 0 ∧ (∀ j : Nat, j < 3 → z'.f 56 j = 0) ∧ FrR [17, 18, 45, 48, 51, 143, 144, 146, 156] w z' ∧ ML N sd t w) ∨ (¬ r1 = 0 ∧ FrR [17] w z')) := by
  unfold kX4_readTape_75 kX4_readTape_98 at hs
  unfold r_read_129 r_read_159 at hz
  rcases h with hM | F
  · obtain ⟨hP, hT, hL, h12, h19, e8, e9, hb8, hb9, hNM⟩ := id hM
    rw [if_pos hP.1] at hs
    obtain ⟨s2, d2, hs⟩ := letS_inv hs
    obtain ⟨s4, d4, hs⟩ := letS_inv hs
    have K4 : FrK [10, 16, 17, 117, 118] t s4 := by rw [← d4, ← d2]; exact (FrK.rfl.sv (k := 16) (by decide)).sv (k := 17) (by decide)
    have v16 : s4.v 16 = t.v 18 := by rw [← d4, ← d2]; rfl
    have v17 : s4.v 17 = t.v 19 := by rw [← d4, ← d2]; rfl
    have q13 : w.v 13 ≤ 0 := by rw [hP.2.1]; decide
    obtain ⟨e18, hcs⟩ := hL
    rw [if_pos q13] at hz
    by_cases z15 : w.v 15 = 0
    · have s19 : t.v 19 = -1 := by
        rcases hcs with q | ⟨_, q, _⟩
        · exact q.2
        · rw [z15] at q
          rcases q with q | q <;> exact absurd q (by decide)
      have q15 : w.v 15 ≤ 0 := by rw [z15]; decide
      rw [if_pos (by rw [v16, e18]; exact z15)] at hs
      obtain ⟨s6, h6, hs⟩ := bindP_inv hs
      cases hs
      have I4 : InvK s4 := by
        rw [← d4, ← d2]
        exact (hI.svF (k := 16) rfl rfl).svF (k := 17) rfl rfl
      obtain ⟨y6, f6, I6, F6⟩ := ok_kX5_addUp s4 I4
      rw [h6] at f6
      cases f6
      rw [if_pos q15] at hz
      obtain ⟨z1, g1, hz⟩ := letS_inv hz
      have Ga : FrR [17, 18, 45, 48, 51, 143, 144, 146, 156] w z1 := by rw [← g1]; exact FrR.rfl.sv (by decide)
      rw [if_pos (show z1.v 13 ≤ 0 by rw [Ga.1 13 (by decide)]; exact q13), if_pos (show z1.v 15 ≤ 0 by rw [Ga.1 15 (by decide)]; exact q15)] at hz
      obtain ⟨z5, g5, hz⟩ := letS_inv hz
      obtain ⟨z7, g7, hz⟩ := bindP_inv hz
      obtain ⟨z8, g8, hz⟩ := bindP_inv hz
      obtain ⟨z9, g9, hz⟩ := letS_inv hz
      obtain ⟨z11, g11, hz⟩ := letS_inv hz
      have hIw : InvR w := hR.1.1
      have hsd : sd ≤ 1 := hR.1.2.2.1
      have I1 : InvR z1 := by rw [← g1]; exact hIw.svF (k := 17) rfl rfl
      have e119 : z1.v 19 = w.v 19 := Ga.1 19 (by decide)
      have I5 : InvR z5 := by rw [← g5]; exact I1.sv (k := 18) (show (0 : Int) ≤ (z1.v 19).toInt by rw [e119]; omega) (show (z1.v 19).toInt ≤ (1 : Int) by rw [e119]; omega)
      obtain ⟨y7, f7, I7, F7, _⟩ := ok_begins z5 I5
      rw [g7] at f7
      cases f7
      obtain ⟨y8, f8, I8, F8⟩ := ok_r_keepsRow z7 I7
      rw [g8] at f8
      cases f8
      have G5 : FrR [17, 18, 45, 48, 51, 143, 144, 146, 156] w z5 := by rw [← g5]; exact Ga.sv (by decide)
      have G8 := (G5.trans F7 (by decide)).trans F8 (by decide)
      have G11 : FrR [17, 18, 45, 48, 51, 143, 144, 146, 156] w z11 := by rw [← g11, ← g9]; exact (G8.sv (k := 48) (by decide)).sv (k := 51) (by decide)
      have z0 : (0 : Int32).toInt = 0 := by decide
      obtain ⟨q1, q2, q3, _⟩ := held_off fu z11 0 (by decide) (by decide) _ hz
      have q1 : r2 = 0 := q1
      have r0 : s'.v 16 = 0 := by rw [F6.1 16 (by decide), v16, e18]; exact z15
      have x17 : z11.v 17 = -1 := by
        have a : z11.v 17 = z8.v 17 := by rw [← g11, ← g9]; rfl
        have b : z5.v 17 = z1.v 17 := by rw [← g5]; rfl
        rw [a, F8.1 17 (by decide), F7.1 17 (by decide), b, ← g1]
        rfl
      have x18 : z11.v 18 = w.v 19 := by
        have a : z11.v 18 = z8.v 18 := by rw [← g11, ← g9]; rfl
        have b : z5.v 18 = z1.v 19 := by rw [← g5]; rfl
        rw [a, F8.1 18 (by decide), F7.1 18 (by decide), b, e119]
      have x51 : z11.v 51 = 0 := by rw [← g11]; rfl
      refine ⟨by rw [r0, q1], ?_, K4.trans F6 (by decide), Or.inl ⟨r0, e8, ?_, ?_, fun j hj => q3 j (by omega) hj, G11.trans q2 (by decide), hM⟩⟩
      · show s'.v 17 = _
        rw [F6.1 17 (by decide), v17, s19]
        exact (x17.symm.trans (q2.1 17 (by decide)).symm)
      · exact (q2.1 18 (by decide)).trans x18
      · exact (q2.1 51 (by decide)).trans x51
    · have n15 : ¬ w.v 15 ≤ 0 := fun q => by
        have h1 := tn_le (b := 0) rfl (by decide) q
        rcases hcs with q | ⟨_, q, _⟩
        · exact z15 q.1
        · rcases q with q | q
          · rw [q] at h1; exact absurd h1 (by decide)
          · rw [q] at h1; exact absurd h1 (by decide)
      have n16 : ¬ s4.v 16 = 0 := by rw [v16, e18]; exact z15
      rw [if_neg n16] at hs
      cases hs
      rw [if_neg n15] at hz
      obtain ⟨z1, g1, hz⟩ := letS_inv hz
      have G1 : FrR [17] w z1 := by rw [← g1]; exact FrR.rfl.sv (by decide)
      rw [if_pos (show z1.v 13 ≤ 0 by rw [G1.1 13 (by decide)]; exact q13), if_neg (show ¬ z1.v 15 ≤ 0 by rw [G1.1 15 (by decide)]; exact n15)] at hz
      cases hz
      have s19 : t.v 19 = w.v 16 := by
        rcases hcs with q | ⟨q, _, _⟩
        · exact absurd q.1 z15
        · exact q
      refine ⟨?_, ?_, K4, Or.inr ⟨n16, G1⟩⟩
      · rw [v16, e18, G1.1 15 (by decide)]
      · rw [v17, s19, ← g1]
        rfl
  · have n13 : ¬ w.v 13 ≤ 0 := fun q => by
      have h1 := tn_le (b := 0) rfl (by decide) q
      have h2 := F.1
      omega
    rw [if_neg F.ne, if_neg F.ne] at hs
    cases hs
    rw [if_neg n13] at hz
    obtain ⟨z1, g1, hz⟩ := letS_inv hz
    have G1 : FrR [17] w z1 := by rw [← g1]; exact FrR.rfl.sv (by decide)
    rw [if_neg (show ¬ z1.v 13 ≤ 0 by rw [G1.1 13 (by decide)]; exact n13)] at hz
    cases hz
    refine ⟨?_, ?_, FrK.rfl, Or.inr ⟨F.ne, G1⟩⟩
    · rw [F.2.1, G1.1 13 (by decide)]
    · rw [F.2.2, ← g1]
      rfl
