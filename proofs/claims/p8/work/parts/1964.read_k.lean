/-! all tokens -/
def TK1 (i : Nat) (s : KS) (z : RS) : Prop := KP (s.f 32 i) (z.f 5 i) ∧ s.f 33 i = z.f 6 i ∧ (s.f 32 i = 301 → Int64.toInt32 (s.g 34 i) = z.f 7 i ∧ 0 ≤ (z.f 7 i).toInt ∧ (z.f 7 i).toInt ≤ 9999) ∧ (s.f 32 i = 300 → NmR (s.g 34 i) (z.g 8 i))
theorem TK1.eq {i : Nat} {s s' : KS} {z z' : RS} (h : TK1 i s z) (e1 : s'.f 32 i = s.f 32 i) (e2 : s'.f 33 i = s.f 33 i) (e3 : s'.g 34 i = s.g 34 i) (e4 : z'.f 5 i = z.f 5 i) (e5 : z'.f 6 i = z.f 6 i) (e6 : z'.f 7 i = z.f 7 i) (e7 : z'.g 8 i = z.g 8 i) : TK1 i s' z' := by
  unfold TK1
  rw [e1, e2, e3, e4, e5, e6, e7]
  exact h
theorem sim_split : ∀ (n m : Nat) (s s' : KS) (z out : RS) (kind x : Int32) (X : Nat), TX s z → KWR s z → 0 ≤ (s.v 20).toInt → (s.v 20).toInt ≤ (s.v 0).toInt → z.v 10 = x → x.toInt = (X : Int) → X ≤ 401 → (x = 0 ∨ (¬ kind = 302 ∧ ¬ kind = 303)) → (∀ i, i < X → TK1 i s z) → (∀ i j, i < j → j < X → (z.f 6 i).toInt < (z.f 6 j).toInt) → (∀ i, i < X → (z.f 6 i).toInt < (s.v 20).toInt) → kX9_split_11L n s kind x = some s' → r_cut_7L m z (s.v 20) = some out → ∃ N, N ≤ 400 ∧ TK2 N s' out := by
  intro n
  induction n with
  | zero => intro m s s' z out kind x X _ _ _ _ _ _ _ _ _ _ _ hs; exact none_ne hs
  | succ n ih =>
    intro m s s' z out kind x X hT hW h0 hl e10 hX hX4 hkd hA hB hC hs hz
    have hs : kX9_split_11 (kX9_split_11L n) s kind x = some s' := hs
    have ecl : x.toNatClampNeg = X := clamp_of_int hX
    unfold kX9_split_11 at hs
    by_cases c : 400 < x
    · have c' := tn_lt (a := 400) (by decide) rfl c
      rw [if_pos c] at hs
      cases hs
      cases m with
      | zero => exact none_ne hz
      | succ m =>
      have hz : r_cut_7 (r_cut_7L m) z (s.v 20) = some out := hz
      unfold r_cut_7 at hz
      rw [if_pos (by rw [e10]; exact c)] at hz
      cases hz
      exact ⟨400, Nat.le_refl _, fun i hi => hA i (by omega), Or.inl rfl, fun i j h1 h2 => hB i j h1 (by omega)⟩
    · have c' := tn_nlt (a := 400) (by decide) rfl c
      have hs : kX9_split_36 (kX9_split_11L n) s x = some s' := by
        rw [if_neg c] at hs
        rcases hkd with q | q
        · rw [if_pos q] at hs; exact hs
        · by_cases q0 : x = 0
          · rw [if_pos q0] at hs; exact hs
          · rw [if_neg q0, if_neg q.1, if_neg q.2] at hs; exact hs
      unfold kX9_split_36 at hs
      obtain ⟨s1, h1, hs⟩ := bindP_inv hs
      obtain ⟨_, hs⟩ := guard_inv hs
      obtain ⟨s3, e3, hs⟩ := letS_inv hs
      obtain ⟨r6, s5, h5, hs⟩ := bindI_inv hs
      obtain ⟨_, hs⟩ := guard_inv hs
      obtain ⟨s8, e8, hs⟩ := letS_inv hs
      obtain ⟨_, hs⟩ := guard_inv hs
      obtain ⟨s11, e11, hs⟩ := letS_inv hs
      rw [ecl] at e3 e8 e11
      have z10 : ¬ 400 < z.v 10 := by rw [e10]; exact c
      unfold kX9_skipBlanks at h1
      obtain ⟨m1, hz, K1, l1, l2, nb⟩ := blanks z10 fu m s s1 hT h0 hl h1 hz
      have v01 : s1.v 0 = s.v 0 := K1.1 0 (by decide)
      have f11 : s1.f 1 = s.f 1 := (K1.2 1 (by decide)).1
      have T3 : TX s3 z := by
        rw [← e3]
        show TX s1 z
        unfold TX
        rw [v01, f11]
        exact hT
      have W3 : KWR s3 z := by
        rw [← e3]
        show KWR s1 z
        unfold KWR
        rw [(K1.2 31 (by decide)).2]
        exact hW
      have v203 : s3.v 20 = s1.v 20 := by rw [← e3]; rfl
      have v03 : s3.v 0 = s.v 0 := by rw [← e3]; exact v01
      have nb3 : (s1.v 20).toInt = (s3.v 0).toInt ∨ ¬ IsBl (cb s3 (s1.v 20)) := by
        rw [v03]
        rcases nb with q | q
        · exact Or.inl q
        · right
          rw [← e3]
          exact q
      obtain ⟨K5, hcase⟩ := tok_one T3 W3 z10 (by rw [e10]; omega) v203 (by omega) (by rw [v03]; exact l2) nb3 h5 hz
      rw [v03] at hcase
      -- what the class has written
      have k32 : ∀ i, s11.f 32 i = if i = X then r6 else s.f 32 i := fun i => by
        have q : s5.f 32 = s.f 32 := by rw [(K5.2 32 (by decide)).1, ← e3]; exact (K1.2 32 (by decide)).1
        rw [← e11, ← e8, ← q]
        rfl
      have k33 : ∀ i, s11.f 33 i = if i = X then s1.v 20 else s.f 33 i := fun i => by
        have q : s5.f 33 = upd (s1.f 33) X (s1.v 20) := by rw [(K5.2 33 (by decide)).1, ← e3]; rfl
        have q1 : s1.f 33 = s.f 33 := (K1.2 33 (by decide)).1
        rw [← e11, ← e8]
        show s5.f 33 i = _
        rw [q, q1]
        rfl
      have k34 : ∀ i, s11.g 34 i = if i = X then s5.u 0 else s.g 34 i := fun i => by
        have q : s5.g 34 = s.g 34 := by rw [(K5.2 34 (by decide)).2, ← e3]; exact (K1.2 34 (by decide)).2
        rw [← e11, ← e8, ← q]
        rfl
      have z10c : (z.v 10).toNatClampNeg = X := by rw [e10]; exact ecl
      have t5 : ∀ kd pl v nm i, (ztok z kd pl v nm).f 5 i = if i = X then kd else z.f 5 i := fun kd pl v nm i => by rw [← z10c]; rfl
      have t6 : ∀ kd pl v nm i, (ztok z kd pl v nm).f 6 i = if i = X then pl else z.f 6 i := fun kd pl v nm i => by rw [← z10c]; rfl
      have t7 : ∀ kd pl v nm i, (ztok z kd pl v nm).f 7 i = if i = X then v else z.f 7 i := fun kd pl v nm i => by rw [← z10c]; rfl
      have t8 : ∀ kd pl v nm i, (ztok z kd pl v nm).g 8 i = if i = X then nm else z.g 8 i := fun kd pl v nm i => by rw [← z10c]; rfl
      have newT : ∀ kd v nm, KP r6 kd → (r6 = 301 → Int64.toInt32 (s5.u 0) = v ∧ 0 ≤ v.toInt ∧ v.toInt ≤ 9999) → (r6 = 300 → NmR (s5.u 0) nm) → ∀ i, i ≤ X → TK1 i s11 (ztok z kd (s1.v 20) v nm) := by
        intro kd v nm g1 g2 g3 i hi
        by_cases q : i = X
        · unfold TK1
          rw [k32, k33, k34, t5, t6, t7, t8, if_pos q, if_pos q, if_pos q, if_pos q, if_pos q, if_pos q, if_pos q]
          exact ⟨g1, rfl, g2, g3⟩
        · refine (hA i (by omega)).eq ?_ ?_ ?_ ?_ ?_ ?_ ?_
          · rw [k32, if_neg q]
          · rw [k33, if_neg q]
          · rw [k34, if_neg q]
          · rw [t5, if_neg q]
          · rw [t6, if_neg q]
          · rw [t7, if_neg q]
          · rw [t8, if_neg q]
      have newP : ∀ kd v nm i j, i < j → j ≤ X → ((ztok z kd (s1.v 20) v nm).f 6 i).toInt < ((ztok z kd (s1.v 20) v nm).f 6 j).toInt := by
        intro kd v nm i j h1 h2
        have q : ¬ i = X := by omega
        rw [t6, t6, if_neg q]
        by_cases q2 : j = X
        · rw [if_pos q2]
          have := hC i (by omega)
          omega
        · rw [if_neg q2]
          exact hB i j h1 (by omega)
      have stop : ∀ kd', (kd' = 302 ∨ kd' = 303) → kX9_split_11L n s11 kd' (x + 1) = some s' → s' = s11 := by
        intro kd' hk h
        cases n with
        | zero => exact none_ne h
        | succ n =>
        have h : kX9_split_11 (kX9_split_11L n) s11 kd' (x + 1) = some s' := h
        have ax : (x + 1).toInt = x.toInt + 1 := tn_add rfl (by decide) (by omega) (by omega)
        have nx : ¬ x + 1 = 0 := fun q => by
          have : (x + 1).toInt = 0 := by rw [q]; decide
          omega
        unfold kX9_split_11 at h
        by_cases q : 400 < x + 1
        · rw [if_pos q] at h; cases h; rfl
        · rw [if_neg q, if_neg nx] at h
          rcases hk with e | e
          · rw [if_pos e] at h; cases h; rfl
          · have e2 : ¬ kd' = 302 := by rw [e]; decide
            rw [if_neg e2, if_pos e] at h; cases h; rfl
      rcases hcase with ⟨g1, g2⟩ | ⟨g0, kd, v, nm, m2, g1, g2, g3, g4, g5, g6⟩
      · -- the text's end
        have es := stop r6 (Or.inl g1) hs
        subst es
        subst g2
        refine ⟨X, by omega, fun i hi => newT 0 0 0 ⟨(302, 0), by decide, g1, rfl⟩ (fun q => by rw [g1] at q; exact absurd q (by decide)) (fun q => by rw [g1] at q; exact absurd q (by decide)) i hi, Or.inr (Or.inl ?_), fun i j h1 h2 => newP 0 0 0 i j h1 h2⟩
        rw [k32, if_pos rfl]
        exact g1
      · by_cases c3 : r6 = 303
        · -- no token
          have es := stop r6 (Or.inr c3) hs
          subst es
          have bf := cut_before m2 _ _ _ g1
          have a10 : ((ztok z kd (s1.v 20) v nm).v 10).toInt = (X : Int) + 1 := by
            show ((z.v 10) + 1).toInt = _
            rw [e10, tn_add (y := 1) (b := 1) hX (by decide) (by omega) (by omega)]
          refine ⟨X, by omega, fun i hi => ?_, Or.inr (Or.inr ?_), fun i j h1 h2 => ?_⟩
          · have b := bf i (by rw [a10]; omega)
            exact (newT kd v nm g2 g3 g4 i hi).eq rfl rfl rfl b.1 b.2.1 b.2.2.1 b.2.2.2
          · rw [k32, if_pos rfl]
            exact c3
          · rw [(bf i (by rw [a10]; omega)).2.1, (bf j (by rw [a10]; omega)).2.1]
            exact newP kd v nm i j h1 h2
        · have ax : (x + 1).toInt = ((X + 1 : Nat) : Int) := by rw [tn_add (y := 1) (b := 1) hX (by decide) (by omega) (by omega)]; omega
          have T11 : TX s11 (ztok z kd (s1.v 20) v nm) := by
            have q1 : s11.v 0 = s.v 0 := by
              rw [← e11, ← e8]
              show s5.v 0 = _
              rw [K5.1 0 (by decide)]
              exact v03
            have q2 : s11.f 1 = s.f 1 := by
              rw [← e11, ← e8]
              show s5.f 1 = _
              rw [(K5.2 1 (by decide)).1, ← e3]
              exact f11
            unfold TX
            rw [q1, q2]
            exact hT
          have W11 : KWR s11 (ztok z kd (s1.v 20) v nm) := by
            have q2 : s11.g 31 = s.g 31 := by
              rw [← e11, ← e8]
              show s5.g 31 = _
              rw [(K5.2 31 (by decide)).2, ← e3]
              exact (K1.2 31 (by decide)).2
            unfold KWR
            rw [q2]
            exact hW
          have v2011 : s11.v 20 = s5.v 20 := by rw [← e11, ← e8]; rfl
          have v011 : s11.v 0 = s.v 0 := by
            rw [← e11, ← e8]
            show s5.v 0 = _
            rw [K5.1 0 (by decide)]
            exact v03
          refine ih m2 s11 s' (ztok z kd (s1.v 20) v nm) out r6 (x + 1) (X + 1) T11 W11 ?_ ?_ ?_ ax (by omega) (Or.inr ⟨g0, c3⟩) (fun i hi => newT kd v nm g2 g3 g4 i (by omega)) (fun i j h1 h2 => newP kd v nm i j h1 (by omega)) (fun i hi => ?_) hs ?_
          · rw [v2011]; omega
          · rw [v2011, v011]; exact g6
          · show (z.v 10) + 1 = x + 1
            rw [e10]
          · rw [v2011, t6]
            by_cases q : i = X
            · rw [if_pos q]; exact g5
            · rw [if_neg q]
              have := hC i (by omega)
              omega
          · rw [v2011]; exact g1
theorem sim_tokens {s s' : KS} {z z' : RS} (hT : TX s z) (hW : KWR s z) (hs : kX9_split s = some s') (hz : r_cut z = some z') : ∃ N, N ≤ 400 ∧ TK2 N s' z' := by
  unfold kX9_split at hs
  unfold r_cut at hz
  obtain ⟨s1, e1, hs⟩ := letS_inv hs
  obtain ⟨z1, f1, hz⟩ := letS_inv hz
  have v20 : s1.v 20 = 0 := by rw [← e1]; rfl
  have z0 : (0 : Int32).toInt = 0 := by decide
  have h0 := hT.2.1
  refine sim_split fu fu s1 s' z1 z' 303 0 0 (by rw [← e1, ← f1]; exact hT) (by rw [← e1, ← f1]; exact hW) (by rw [v20]; omega) ?_ (by rw [← f1]; rfl) (by decide) (by omega) (Or.inl rfl) (fun i hi => absurd hi (by omega)) (fun i j _ hj => absurd hj (by omega)) (fun i hi => absurd hi (by omega)) hs (by rw [v20]; exact hz)
  rw [v20, ← e1]
  show (0 : Int32).toInt ≤ (s.v 0).toInt
  omega
