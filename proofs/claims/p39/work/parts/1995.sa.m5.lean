section
/-! ===== queries that ask no law: loops that leave all as it is ===== -/
/-- what a loop gathers from the j-th on, m times -/
noncomputable def fo {α : Type} (G : Nat → α → α) : Nat → Nat → α → α
  | _, 0, x => x
  | j, m + 1, x => fo G (j + 1) m (G j x)
theorem loop_q {α β : Type} {L : Nat → α → Int32 → Option β} {out : β} {N : Nat} {G : Nat → α → α} {Q : α → Prop} (hN : N ≤ 1000000) (h0 : ∀ x y, L 0 x y = some out → False)
    (h1 : ∀ (n : Nat) (x : α) (y : Int32) (j : Nat), y.toInt = (j : Int) → j ≤ N → L (n + 1) x y = some out → (j = N ∧ Q x) ∨ (j < N ∧ L n (G j x) (y + 1) = some out)) :
    ∀ (n : Nat) (x : α) (y : Int32) (j : Nat), y.toInt = (j : Int) → j ≤ N → L n x y = some out → Q (fo G j (N - j) x) := by
  intro n
  induction n with
  | zero => intro x y j _ _ h; exact (h0 x y h).elim
  | succ n ih =>
    intro x y j ey hj h
    rcases h1 n x y j ey hj h with ⟨e, q⟩ | ⟨l, q⟩
    · subst e
      rw [Nat.sub_self]
      exact q
    · have ay : (y + 1).toInt = ((j + 1 : Nat) : Int) := by
        rw [tn_add ey (by decide : (1 : Int32).toInt = 1) (by omega) (by omega)]
        omega
      have r := ih (G j x) (y + 1) (j + 1) ay (by omega) q
      have e : N - j = (N - (j + 1)) + 1 := by omega
      rw [e]
      exact r
theorem loop_up {α β : Type} {L : Nat → α → Int32 → Option β} {out : β} {N : Nat} {G : Nat → α → α} {R : α → β} (hN : N ≤ 1000000) (h0 : ∀ x y, L 0 x y = some out → False)
    (h1 : ∀ (n : Nat) (x : α) (y : Int32) (j : Nat), y.toInt = (j : Int) → j ≤ N → L (n + 1) x y = some out → (j = N ∧ out = R x) ∨ (j < N ∧ L n (G j x) (y + 1) = some out)) (n : Nat) (x : α) (y : Int32) (ey : y.toInt = ((0 : Nat) : Int)) (h : L n x y = some out) : out = R (fo G 0 N x) :=
  loop_q (Q := fun x => out = R x) hN h0 h1 n x y 0 ey (Nat.zero_le _) h
theorem fo_cg {α : Type} {G G' : Nat → α → α} : ∀ (m j : Nat) (x : α), (∀ i, j ≤ i → i < j + m → ∀ x, G i x = G' i x) → fo G j m x = fo G' j m x := by
  intro m
  induction m with
  | zero => intro j x _; rfl
  | succ m ih =>
    intro j x h
    show fo G (j + 1) m (G j x) = fo G' (j + 1) m (G' j x)
    rw [h j (by omega) (by omega) x]
    exact ih (j + 1) _ (fun i h1 h2 => h i (by omega) (by omega))
/-- what may be over a wave has odds, else none -/
noncomputable def OF (k : KS) (d : SD) (w v : Nat) : Int32 := if (((MB k d w) >>> ((Int32.ofNat v) &&& 31)) &&& 1) = 1 then k.f 3 (6 * w + v) else 0
theorem k_has (x0 x1 : Int32) : kX10_has x0 x1 = some (if ((x0 >>> (x1 &&& 31)) &&& 1) = 1 then 1 else 0) := by
  unfold kX10_has
  by_cases c : ((x0 >>> (x1 &&& 31)) &&& 1) = 1
  · rw [if_pos c, if_pos c]
  · rw [if_neg c, if_neg c]
theorem k_cnt {s : JS} {x : Int32} {w : Nat} (hx : x.toInt = (w : Int)) (hw : w < 5) : kX2_mayCount s x = some (bcount (MB s.k s.d w), s) := by
  unfold kX2_mayCount
  rw [k_may hx hw, bindI_some, k_bits_eq, bindP_some]
theorem k_oim {s : JS} {x2 x3 : Int32} {w v : Nat} (h2 : x2.toInt = (w : Int)) (hw : w < 5) (h3 : x3.toInt = (v : Int)) (hv : v < 6) : kX2_oddsIfMay s x2 x3 = some (OF s.k s.d w v, s) := by
  unfold kX2_oddsIfMay OF
  rw [k_may h2 hw, bindI_some, k_has, bindP_some, ← eq_ofnat h3]
  by_cases c : (((MB s.k s.d w) >>> (x3 &&& 31)) &&& 1) = 1
  · rw [if_pos c, if_pos c, if_neg z_one, k_odds h2 hw h3 hv, bindI_some]
    rfl
  · rw [if_neg c, if_neg c, if_pos rfl]
/-- how many waves there are, on both sides -/
theorem JR.nn {s : JS} {z : RS} (h : JR s z) : ∃ N : Nat, (s.k.v 1).toInt = (N : Int) ∧ N ≤ 5 ∧ (z.f 20 (z.v 18).toNatClampNeg).toInt = (N : Int) := by
  have bw : 0 ≤ (s.k.v 1).toInt ∧ (s.k.v 1).toInt ≤ 5 := h.2.2.2.2.1.1 1
  refine ⟨(s.k.v 1).toInt.toNat, by omega, by omega, ?_⟩
  rw [← h.1.1.1]
  omega
theorem JR.may {s : JS} {z z' : RS} {y r : Int32} {j N : Nat} (h : JR s z) (hN : (s.k.v 1).toInt = (N : Int)) (hN5 : N ≤ 5) (ey : y.toInt = (j : Int)) (hj : j < N) (hm : r_mayAt z y = some (r, z')) : z' = z ∧ r = MB s.k s.d j :=
  may_same h.1 (h.2.1.at (by omega)) h.2.2.2.1 h.2.2.2.2.1 ey (by omega) hm
theorem JR.cnt {s : JS} {z : RS} {j N : Nat} (h : JR s z) (hN : (s.k.v 1).toInt = (N : Int)) (hN5 : N ≤ 5) (hj : j < N) : r_bits (MB s.k s.d j) = some (bcount (MB s.k s.d j)) := by
  have b := MB_small (w := j) h.1 (h.2.1.at (by omega)) h.2.2.2.2.1 (by omega)
  rw [r_bits_eq, (bits_same b.1 b.2).1]
theorem JR.maybe {s : JS} {z z' : RS} {y x r : Int32} {j N : Nat} (h : JR s z) (hN : (s.k.v 1).toInt = (N : Int)) (hN5 : N ≤ 5) (ey : y.toInt = (j : Int)) (hj : j < N) (hm : r_mayBe z y x = some (r, z')) : z' = z ∧ r = if (((MB s.k s.d j) >>> (x &&& 31)) &&& 1) = 1 then 1 else 0 := by
  unfold r_mayBe at hm
  replace hm := bindI_inv hm
  obtain ⟨r2, z2, h2, hm⟩ := hm
  obtain ⟨e1, e2⟩ := h.may hN hN5 ey hj h2
  rw [e2, e1] at hm
  by_cases c : (((MB s.k s.d j) >>> (x &&& 31)) &&& 1) = 1
  · rw [if_pos c] at hm
    rw [if_pos c]
    have e := Option.some.inj hm
    exact ⟨(congrArg Prod.snd e).symm, (congrArg Prod.fst e).symm⟩
  · rw [if_neg c] at hm
    rw [if_neg c]
    have e := Option.some.inj hm
    exact ⟨(congrArg Prod.snd e).symm, (congrArg Prod.fst e).symm⟩
theorem JR.odds {s : JS} {z z' : RS} {y x r : Int32} {j v N : Nat} (h : JR s z) (hN : (s.k.v 1).toInt = (N : Int)) (hN5 : N ≤ 5) (ey : y.toInt = (j : Int)) (hj : j < N) (ex : x.toInt = (v : Int)) (hv : v < 6) (hm : r_oddsAt z y x = some (r, z')) : z' = z ∧ r = s.k.f 3 (6 * j + v) := by
  have bl : 0 ≤ (z.v 18).toInt ∧ (z.v 18).toInt ≤ 1 := h.2.2.2.1.1 18
  obtain ⟨l, hl⟩ : ∃ l : Nat, (z.v 18).toInt = (l : Int) := ⟨(z.v 18).toInt.toNat, by omega⟩
  obtain ⟨e1, e2⟩ := r_odds_inv hl (by omega) ey (by omega) ex hv hm
  refine ⟨e1, ?_⟩
  rw [e2, od_eq h.1.2.2.1 hl (by omega) hv]
  exact congrArg (z.f 21) (by omega)
/-! cases -/
theorem k_casesN {s s' : JS} {r : Int32} {N : Nat} (hN : (s.k.v 1).toInt = (N : Int)) (hN5 : N ≤ 5) (h : kX2_caseCount s = some (r, s')) : (r, s') = (fo (fun j x => x * bcount (MB s.k s.d j)) 0 N (1 : Int32), s) := by
  unfold kX2_caseCount at h
  refine loop_up (L := fun n x y => kX2_caseCount_4L n s x y) (R := fun x => (x, s)) (N := N) (by omega) (fun x y e => by cases e) ?_ fu 1 0 (by decide) h
  intro n x y j ey hj h
  replace h : kX2_caseCount_4 (kX2_caseCount_4L n) s x y = some (r, s') := h
  unfold kX2_caseCount_4 at h
  by_cases c : s.k.v 1 ≤ y
  · have c' := ti_le c
    rw [if_pos c] at h
    exact Or.inl ⟨by omega, (Option.some.inj h).symm⟩
  · have c' := ti_nle c
    rw [if_neg c, k_cnt ey (by omega), bindI_some] at h
    exact Or.inr ⟨by omega, h⟩
theorem r_casesN {s : JS} {z z' : RS} {r : Int32} {N : Nat} (hJ : JR s z) (hN : (s.k.v 1).toInt = (N : Int)) (hN5 : N ≤ 5) (hz : (z.f 20 (z.v 18).toNatClampNeg).toInt = (N : Int)) (h : r_casesNow z = some (r, z')) : (r, z') = (fo (fun j x => x * bcount (MB s.k s.d j)) 0 N (1 : Int32), z) := by
  unfold r_casesNow at h
  refine loop_up (L := fun n x y => r_casesNow_4L n z x y) (R := fun x => (x, z)) (N := N) (by omega) (fun x y e => by cases e) ?_ fu 1 0 (by decide) h
  intro n x y j ey hj h
  replace h : r_casesNow_4 (r_casesNow_4L n) z x y = some (r, z') := h
  unfold r_casesNow_4 at h
  replace h := guard_inv h
  obtain ⟨_, h⟩ := h
  by_cases c : z.f 20 (z.v 18).toNatClampNeg ≤ y
  · have c' := ti_le c
    rw [if_pos c] at h
    exact Or.inl ⟨by omega, (Option.some.inj h).symm⟩
  · have c' := ti_nle c
    rw [if_neg c] at h
    replace h := bindI_inv h
    obtain ⟨r4, z3, h3, h⟩ := h
    obtain ⟨e1, e2⟩ := hJ.may hN hN5 ey (by omega) h3
    rw [e2, e1, hJ.cnt hN hN5 (by omega), bindP_some] at h
    exact Or.inr ⟨by omega, h⟩
theorem casesN_same {s s' : JS} {z z' : RS} {r1 r2 : Int32} (hJ : JR s z) (h1 : kX2_caseCount s = some (r1, s')) (h2 : r_casesNow z = some (r2, z')) : r1 = r2 ∧ s' = s ∧ z' = z := by
  obtain ⟨N, hN, hN5, hz⟩ := hJ.nn
  have a := k_casesN hN hN5 h1
  have b := r_casesN hJ hN hN5 hz h2
  exact ⟨(congrArg Prod.fst a).trans (congrArg Prod.fst b).symm, congrArg Prod.snd a, congrArg Prod.snd b⟩
theorem cases_same {y : YS} {x' : XS} {z z' : RS} {r1 r2 : Int32} (h : REL y z) (hK : InvK y.x.k) (hI : InvR z) (hB : Big z) (h1 : kX10_cases y.x = some (r1, x')) (h2 : r_cases z = some (r2, z')) : r1 = r2 ∧ True := by
  refine ⟨?_, trivial⟩
  unfold kX10_cases at h1
  unfold r_cases at h2
  replace h1 := bindI_inv h1
  obtain ⟨q1, s1, u1, h1⟩ := h1
  replace h1 := letS_inv h1
  obtain ⟨s3, _, h1⟩ := h1
  replace h2 := bindP_inv h2
  obtain ⟨z1, w1, h2⟩ := h2
  replace h2 := bindI_inv h2
  obtain ⟨q2, z2, w2, h2⟩ := h2
  obtain ⟨hJ, _⟩ := h.jr hK hI hB w1
  have e := casesN_same hJ u1 w2
  have e1 : q1 = r1 := congrArg Prod.fst (Option.some.inj h1)
  have e2 : q2 = r2 := congrArg Prod.fst (Option.some.inj h2)
  rw [← e1, ← e2]
  exact e.1
/-! chance -/
theorem k_oddsN {s s' : JS} {x2 r : Int32} {g N : Nat} (hN : (s.k.v 1).toInt = (N : Int)) (hN5 : N ≤ 5) (eg : x2.toInt = (g : Int)) (h : kX2_oddsOf s x2 = some (r, s')) : (r, s') = (fo (fun j x => x * OF s.k s.d j (tg g j)) 0 N (1 : Int32), s) := by
  unfold kX2_oddsOf at h
  refine loop_up (L := fun n x y => kX2_oddsOf_5L n s x2 x y) (R := fun x => (x, s)) (N := N) (by omega) (fun x y e => by cases e) ?_ fu 1 0 (by decide) h
  intro n x y j ey hj h
  replace h : kX2_oddsOf_5 (kX2_oddsOf_5L n) s x2 x y = some (r, s') := h
  unfold kX2_oddsOf_5 at h
  by_cases c : s.k.v 1 ≤ y
  · have c' := ti_le c
    rw [if_pos c] at h
    exact Or.inl ⟨by omega, (Option.some.inj h).symm⟩
  · have c' := ti_nle c
    rw [if_neg c] at h
    replace h := bindP_inv h
    obtain ⟨r2, h2, h⟩ := h
    have e2 := k_thing eg ey (by omega) h2
    rw [k_oim ey (by omega) e2 (tg_lt g j), bindI_some] at h
    exact Or.inr ⟨by omega, h⟩
theorem r_chanceN {s : JS} {z z' : RS} {x2 r : Int32} {g N : Nat} (hJ : JR s z) (hN : (s.k.v 1).toInt = (N : Int)) (hN5 : N ≤ 5) (hz : (z.f 20 (z.v 18).toNatClampNeg).toInt = (N : Int)) (eg : x2.toInt = (g : Int)) (h : r_chanceOf z x2 = some (r, z')) : (r, z') = (fo (fun j x => x * OF s.k s.d j (tg g j)) 0 N (1 : Int32), z) := by
  unfold r_chanceOf at h
  refine loop_up (L := fun n x y => r_chanceOf_4L n z x2 x y) (R := fun x => (x, z)) (N := N) (by omega) (fun x y e => by cases e) ?_ fu 1 0 (by decide) h
  intro n x y j ey hj h
  replace h : r_chanceOf_4 (r_chanceOf_4L n) z x2 x y = some (r, z') := h
  unfold r_chanceOf_4 r_chanceOf_47 at h
  replace h := guard_inv h
  obtain ⟨_, h⟩ := h
  by_cases c : z.f 20 (z.v 18).toNatClampNeg ≤ y
  · have c' := ti_le c
    rw [if_pos c] at h
    exact Or.inl ⟨by omega, (Option.some.inj h).symm⟩
  · have c' := ti_nle c
    rw [if_neg c] at h
    replace h := bindI_inv h
    obtain ⟨r4, z3, h3, h⟩ := h
    obtain ⟨e1, e2⟩ := r_thing hJ.1.2.1 eg ey (by omega) h3
    rw [e1] at h
    replace h := bindI_inv h
    obtain ⟨r6, z5, h5, h⟩ := h
    obtain ⟨e3, e4⟩ := hJ.maybe hN hN5 ey (by omega) h5
    rw [e3, e4] at h
    have ev := eq_ofnat e2
    refine Or.inr ⟨by omega, ?_⟩
    show r_chanceOf_4L n z x2 (x * OF s.k s.d j (tg g j)) (y + 1) = _
    unfold OF
    rw [← ev]
    by_cases d : (((MB s.k s.d j) >>> (r4 &&& 31)) &&& 1) = 1
    · rw [if_pos d, if_neg z_one] at h
      rw [if_pos d]
      replace h := bindI_inv h
      obtain ⟨r9, z8, h8, h⟩ := h
      obtain ⟨e5, e6⟩ := hJ.odds hN hN5 ey (by omega) e2 (tg_lt g j) h8
      rw [e5, e6] at h
      exact h
    · rw [if_neg d, if_pos rfl] at h
      rw [if_neg d]
      exact h
theorem odds_of_same {s s' : JS} {z z' : RS} {x r1 r2 : Int32} {g : Nat} (hJ : JR s z) (eg : x.toInt = (g : Int)) (h1 : kX2_oddsOf s x = some (r1, s')) (h2 : r_chanceOf z x = some (r2, z')) : r1 = r2 ∧ s' = s ∧ z' = z := by
  obtain ⟨N, hN, hN5, hz⟩ := hJ.nn
  have a := k_oddsN hN hN5 eg h1
  have b := r_chanceN hJ hN hN5 hz eg h2
  exact ⟨(congrArg Prod.fst a).trans (congrArg Prod.fst b).symm, congrArg Prod.snd a, congrArg Prod.snd b⟩
theorem chance_same {y : YS} {x' : XS} {z z' : RS} {x1 r1 r2 : Int32} (h : REL y z) (hK : InvK y.x.k) (hI : InvR z) (hB : Big z) (h1 : kX10_chance y.x x1 = some (r1, x')) (h2 : r_chance z x1 = some (r2, z')) : r1 = r2 ∧ True := by
  refine ⟨?_, trivial⟩
  unfold kX10_chance at h1
  unfold r_chance at h2
  rw [kg_eq, bindI_some] at h1
  rw [rg_eq hI hK h.1, bindI_some] at h2
  replace h1 := letS_inv h1
  obtain ⟨s3, c3, h1⟩ := h1
  have e3 : s3 = y.x := by rw [← c3]; rfl
  rw [e3] at h1
  by_cases hg : 0 ≤ x1.toInt ∧ x1.toInt < (y.x.k.v 3).toInt
  · rw [if_pos hg, if_neg z_one] at h1 h2
    replace h1 := bindI_inv h1
    obtain ⟨q1, s6, u6, h1⟩ := h1
    replace h1 := letS_inv h1
    obtain ⟨s8, _, h1⟩ := h1
    replace h2 := bindP_inv h2
    obtain ⟨z4, w4, h2⟩ := h2
    replace h2 := bindI_inv h2
    obtain ⟨q2, z5, w5, h2⟩ := h2
    obtain ⟨hJ, _⟩ := h.jr hK hI hB w4
    obtain ⟨g, eg⟩ : ∃ g : Nat, x1.toInt = (g : Int) := ⟨x1.toInt.toNat, by omega⟩
    have e := odds_of_same hJ eg u6 w5
    have e1 : q1 = r1 := congrArg Prod.fst (Option.some.inj h1)
    have e2 : q2 = r2 := congrArg Prod.fst (Option.some.inj h2)
    rw [← e1, ← e2]
    exact e.1
  · rw [if_neg hg, if_pos rfl] at h1 h2
    have e1 : -1 = r1 := congrArg Prod.fst (Option.some.inj h1)
    have e2 : -1 = r2 := congrArg Prod.fst (Option.some.inj h2)
    rw [← e1, ← e2]
end
section
/-! ===== all, share, enough, open, alike ===== -/
noncomputable def SM (k : KS) (d : SD) (w : Nat) : Int32 := fo (fun v a => a + OF k d w v) 0 6 (0 : Int32)
theorem k_sumL {k5 : JS → Int32 → Int32 → Int32 → Option (Int32 × JS)} {s : JS} {out : Int32 × JS} {x2 x3 x4 : Int32} {w : Nat} (e4 : x4.toInt = (w : Int)) (hw : w < 5) (h : kX2_oddsOfAll_29L k5 fu s x2 x3 x4 0 0 = some out) : k5 s x2 (x3 * SM s.k s.d w) (x4 + 1) = some out := by
  refine loop_q (L := fun n x y => kX2_oddsOfAll_29L k5 n s x2 x3 x4 x y) (G := fun v a => a + OF s.k s.d w v) (Q := fun x => k5 s x2 (x3 * x) (x4 + 1) = some out) (N := 6) (by omega) (fun x y e => by cases e) ?_ fu 0 0 0 (by decide) (by omega) h
  intro n x y j ey hj h
  replace h : kX2_oddsOfAll_29 k5 (kX2_oddsOfAll_29L k5 n) s x2 x3 x4 x y = some out := h
  unfold kX2_oddsOfAll_29 kX2_oddsOfAll_61 at h
  by_cases c : 6 ≤ y
  · have c' := tn_le (a := 6) (by decide) rfl c
    rw [if_pos c] at h
    exact Or.inl ⟨by omega, h⟩
  · have c' := tn_nle (a := 6) (by decide) rfl c
    rw [if_neg c, k_oim e4 hw ey (by omega), bindI_some] at h
    exact Or.inr ⟨by omega, h⟩
/-- all waves but one -/
noncomputable def butG (k : KS) (d : SD) (b : Int32) (j : Nat) (x : Int32) : Int32 := if Int32.ofNat j = b then x else x * SM k d j
theorem k_allN {s s' : JS} {x2 r : Int32} {N : Nat} (hN : (s.k.v 1).toInt = (N : Int)) (hN5 : N ≤ 5) (h : kX2_oddsOfAll s x2 = some (r, s')) : (r, s') = (fo (butG s.k s.d x2) 0 N (1 : Int32), s) := by
  unfold kX2_oddsOfAll at h
  refine loop_up (L := fun n x y => kX2_oddsOfAll_5L n s x2 x y) (R := fun x => (x, s)) (N := N) (by omega) (fun x y e => by cases e) ?_ fu 1 0 (by decide) h
  intro n x y j ey hj h
  replace h : kX2_oddsOfAll_5 (kX2_oddsOfAll_5L n) s x2 x y = some (r, s') := h
  unfold kX2_oddsOfAll_5 kX2_oddsOfAll_61 at h
  by_cases c : s.k.v 1 ≤ y
  · have c' := ti_le c
    rw [if_pos c] at h
    exact Or.inl ⟨by omega, (Option.some.inj h).symm⟩
  · have c' := ti_nle c
    rw [if_neg c] at h
    refine Or.inr ⟨by omega, ?_⟩
    show kX2_oddsOfAll_5L n s x2 (butG s.k s.d x2 j x) (y + 1) = _
    unfold butG
    have ej := eq_ofnat ey
    rw [← ej]
    by_cases d : y = x2
    · rw [if_pos d] at h
      rw [if_pos d]
      exact h
    · rw [if_neg d] at h
      rw [if_neg d]
      exact k_sumL ey (by omega) h
theorem r_sumN {s : JS} {z z' : RS} {y r : Int32} {j N : Nat} (hJ : JR s z) (hN : (s.k.v 1).toInt = (N : Int)) (hN5 : N ≤ 5) (ey : y.toInt = (j : Int)) (hj : j < N) (h : r_sumAt z y = some (r, z')) : z' = z ∧ r = SM s.k s.d j := by
  unfold r_sumAt at h
  have e : (r, z') = (SM s.k s.d j, z) := by
    refine loop_up (L := fun n x v => r_sumAt_4L n z y x v) (R := fun x => (x, z)) (N := 6) (by omega) (fun x y e => by cases e) ?_ fu 0 0 (by decide) h
    intro n x v i ev hi h
    replace h : r_sumAt_4 (r_sumAt_4L n) z y x v = some (r, z') := h
    unfold r_sumAt_4 r_sumAt_28 at h
    by_cases c : 6 ≤ v
    · have c' := tn_le (a := 6) (by decide) rfl c
      rw [if_pos c] at h
      exact Or.inl ⟨by omega, (Option.some.inj h).symm⟩
    · have c' := tn_nle (a := 6) (by decide) rfl c
      rw [if_neg c] at h
      replace h := bindI_inv h
      obtain ⟨r3, z2, h2, h⟩ := h
      obtain ⟨e1, e2⟩ := hJ.maybe hN hN5 ey hj h2
      rw [e1, e2] at h
      refine Or.inr ⟨by omega, ?_⟩
      show r_sumAt_4L n z y (x + OF s.k s.d j i) (v + 1) = _
      unfold OF
      rw [← eq_ofnat ev]
      by_cases d : (((MB s.k s.d j) >>> (v &&& 31)) &&& 1) = 1
      · rw [if_pos d, if_neg z_one] at h
        rw [if_pos d]
        replace h := bindI_inv h
        obtain ⟨r6, z5, h5, h⟩ := h
        obtain ⟨e5, e6⟩ := hJ.odds hN hN5 ey hj ev (by omega) h5
        rw [e5, e6] at h
        exact h
      · rw [if_neg d, if_pos rfl] at h
        rw [if_neg d, Int32.add_zero]
        exact h
  exact ⟨congrArg Prod.snd e, congrArg Prod.fst e⟩
theorem all_same {y : YS} {x' : XS} {z z' : RS} {r1 r2 : Int32} (h : REL y z) (hK : InvK y.x.k) (hI : InvR z) (hB : Big z) (h1 : kX10_all y.x = some (r1, x')) (h2 : r_all z = some (r2, z')) : r1 = r2 ∧ True := by
  refine ⟨?_, trivial⟩
  unfold kX10_all at h1
  unfold r_all at h2
  replace h1 := bindI_inv h1
  obtain ⟨q1, s1, u1, h1⟩ := h1
  replace h1 := letS_inv h1
  obtain ⟨s3, _, h1⟩ := h1
  have e1 : q1 = r1 := congrArg Prod.fst (Option.some.inj h1)
  replace h2 := bindP_inv h2
  obtain ⟨z1, w1, h2⟩ := h2
  obtain ⟨hJ, _⟩ := h.jr hK hI hB w1
  obtain ⟨N, hN, hN5, hz⟩ := hJ.nn
  have a := k_allN hN hN5 u1
  have b : (r2, z') = (fo (butG y.x.k y.x.n (-1)) 0 N (1 : Int32), z1) := by
    refine loop_up (L := fun n x v => r_all_8L n z1 x v) (R := fun x => (x, z1)) (N := N) (by omega) (fun x y e => by cases e) ?_ fu 1 0 (by decide) h2
    intro n x v i ev hi h
    replace h : r_all_8 (r_all_8L n) z1 x v = some (r2, z') := h
    unfold r_all_8 at h
    replace h := guard_inv h
    obtain ⟨_, h⟩ := h
    by_cases c : z1.f 20 (z1.v 18).toNatClampNeg ≤ v
    · have c' := ti_le c
      rw [if_pos c] at h
      exact Or.inl ⟨by omega, (Option.some.inj h).symm⟩
    · have c' := ti_nle c
      rw [if_neg c] at h
      replace h := bindI_inv h
      obtain ⟨r4, z3, h3, h⟩ := h
      obtain ⟨e3, e4⟩ := r_sumN hJ hN hN5 ev (by omega) h3
      rw [e3, e4] at h
      refine Or.inr ⟨by omega, ?_⟩
      show r_all_8L n z1 (butG y.x.k y.x.n (-1) i x) (v + 1) = _
      unfold butG
      rw [← eq_ofnat ev, if_neg (fun q => by
        have m1 : (-1 : Int32).toInt = -1 := by decide
        rw [q, m1] at ev
        omega)]
      exact h
  rw [← e1]
  exact (congrArg Prod.fst a).trans (congrArg Prod.fst b).symm
theorem fo_mul {k : KS} {d : SD} {b a : Int32} : ∀ (m j : Nat) (x : Int32), fo (butG k d b) j m (a * x) = a * fo (butG k d b) j m x := by
  intro m
  induction m with
  | zero => intro j x; rfl
  | succ m ih =>
    intro j x
    show fo (butG k d b) (j + 1) m (butG k d b j (a * x)) = a * fo (butG k d b) (j + 1) m (butG k d b j x)
    rw [← ih]
    have e : butG k d b j (a * x) = a * butG k d b j x := by
      unfold butG
      by_cases c : Int32.ofNat j = b
      · rw [if_pos c, if_pos c]
      · rw [if_neg c, if_neg c, Int32.mul_assoc]
    rw [e]
theorem r_shareN {s : JS} {z z' : RS} {x1 t0 r : Int32} {N : Nat} (hJ : JR s z) (hN : (s.k.v 1).toInt = (N : Int)) (hN5 : N ≤ 5) (hz : (z.f 20 (z.v 18).toNatClampNeg).toInt = (N : Int)) (h : r_share_40 z x1 t0 = some (r, z')) : r = t0 * fo (butG s.k s.d x1) 0 N (1 : Int32) := by
  unfold r_share_40 at h
  have b : (r, z') = (fo (butG s.k s.d x1) 0 N t0, z) := by
    refine loop_up (L := fun n x v => r_share_44L n z x1 x v) (R := fun x => (x, z)) (N := N) (by omega) (fun x y e => by cases e) ?_ fu t0 0 (by decide) h
    intro n x v i ev hi h
    replace h : r_share_44 (r_share_44L n) z x1 x v = some (r, z') := h
    unfold r_share_44 r_share_73 at h
    replace h := guard_inv h
    obtain ⟨_, h⟩ := h
    by_cases c : z.f 20 (z.v 18).toNatClampNeg ≤ v
    · have c' := ti_le c
      rw [if_pos c] at h
      exact Or.inl ⟨by omega, (Option.some.inj h).symm⟩
    · have c' := ti_nle c
      rw [if_neg c] at h
      refine Or.inr ⟨by omega, ?_⟩
      show r_share_44L n z x1 (butG s.k s.d x1 i x) (v + 1) = _
      unfold butG
      rw [← eq_ofnat ev]
      by_cases d : v = x1
      · rw [if_pos d] at h
        rw [if_pos d]
        exact h
      · rw [if_neg d] at h
        rw [if_neg d]
        replace h := bindI_inv h
        obtain ⟨r4, z3, h3, h⟩ := h
        obtain ⟨e3, e4⟩ := r_sumN hJ hN hN5 ev (by omega) h3
        rw [e3, e4] at h
        exact h
  have e : r = fo (butG s.k s.d x1) 0 N t0 := congrArg Prod.fst b
  have m := fo_mul (k := s.k) (d := s.d) (b := x1) (a := t0) N 0 1
  rw [Int32.mul_one] at m
  rw [e, m]
theorem share_same {y : YS} {x' : XS} {z z' : RS} {x1 x2 r1 r2 : Int32} (h : REL y z) (hK : InvK y.x.k) (hI : InvR z) (hB : Big z) (h1 : kX10_share y.x x1 x2 = some (r1, x')) (h2 : r_share z x1 x2 = some (r2, z')) : r1 = r2 ∧ True := by
  refine ⟨?_, trivial⟩
  have bw : 0 ≤ (y.x.k.v 1).toInt ∧ (y.x.k.v 1).toInt ≤ 5 := hK.1 1
  unfold kX10_share at h1
  unfold r_share at h2
  rw [kw_eq, bindI_some] at h1
  rw [rw_eq hI, bindI_some, ← h.1.1.1] at h2
  replace h1 := letS_inv h1
  obtain ⟨s3, c3, h1⟩ := h1
  have e3 : s3 = y.x := by rw [← c3]; rfl
  rw [e3] at h1
  by_cases hw : 0 ≤ x1.toInt ∧ x1.toInt < (y.x.k.v 1).toInt
  · rw [if_pos hw, if_neg z_one] at h1 h2
    by_cases ht : 0 ≤ x2.toInt ∧ x2.toInt ≤ 5
    · rw [kt_yes ht.1 ht.2, bindP_some, if_neg z_one] at h1
      rw [rt_yes ht.1 ht.2, bindP_some, if_neg z_one] at h2
      obtain ⟨w, ew⟩ : ∃ w : Nat, x1.toInt = (w : Int) := ⟨x1.toInt.toNat, by omega⟩
      obtain ⟨v, ev⟩ : ∃ v : Nat, x2.toInt = (v : Int) := ⟨x2.toInt.toNat, by omega⟩
      replace h2 := bindP_inv h2
      obtain ⟨z6, w6, h2⟩ := h2
      obtain ⟨hJ, _⟩ := h.jr hK hI hB w6
      obtain ⟨N, hN, hN5, hz⟩ := hJ.nn
      have hN : (y.x.k.v 1).toInt = (N : Int) := hN
      have hJ : JR (JS.mk y.x.k y.x.n) z6 := hJ
      rw [k_may (s := JS.mk y.x.k y.x.n) ew (by omega), bindI_some] at h1
      replace h1 := letS_inv h1
      obtain ⟨s10, c10, h1⟩ := h1
      have e10 : s10 = y.x := by rw [← c10]; rfl
      rw [e10, k_has, bindP_some] at h1
      replace h2 := bindI_inv h2
      obtain ⟨r8, z7, h7, h2⟩ := h2
      obtain ⟨e7, e8⟩ := hJ.maybe hN hN5 ew (by omega) h7
      rw [e7, e8] at h2
      by_cases d : (((MB y.x.k y.x.n w) >>> (x2 &&& 31)) &&& 1) = 1
      · have d' : (((MB (JS.mk y.x.k y.x.n).k (JS.mk y.x.k y.x.n).d w) >>> (x2 &&& 31)) &&& 1) = 1 := d
        rw [if_pos d', if_neg z_one] at h1 h2
        replace h2 := bindI_inv h2
        obtain ⟨r11, z10, w10, h2⟩ := h2
        obtain ⟨e11, e12⟩ := hJ.odds hN hN5 ew (by omega) ev (by omega) w10
        rw [e11, e12] at h2
        have b := r_shareN hJ hN hN5 hz h2
        rw [k_odds ew (by omega) ev (by omega), bindI_some] at h1
        replace h1 := letS_inv h1
        obtain ⟨s16, c16, h1⟩ := h1
        have e16 : s16 = y.x := by rw [← c16]; rfl
        rw [e16] at h1
        replace h1 := bindI_inv h1
        obtain ⟨r19, s18, u18, h1⟩ := h1
        replace h1 := letS_inv h1
        obtain ⟨s20, _, h1⟩ := h1
        have a := congrArg Prod.fst (k_allN (s := JS.mk y.x.k y.x.n) hN hN5 u18)
        have a : r19 = fo (butG y.x.k y.x.n x1) 0 N (1 : Int32) := a
        have e1 : y.x.k.f 3 (6 * w + v) * r19 = r1 := congrArg Prod.fst (Option.some.inj h1)
        rw [← e1, a]
        exact b.symm
      · have d' : ¬ (((MB (JS.mk y.x.k y.x.n).k (JS.mk y.x.k y.x.n).d w) >>> (x2 &&& 31)) &&& 1) = 1 := d
        rw [if_neg d', if_pos rfl] at h1 h2
        have b := r_shareN hJ hN hN5 hz h2
        rw [Int32.zero_mul] at b
        have e1 : 0 = r1 := congrArg Prod.fst (Option.some.inj h1)
        rw [← e1, b]
    · rw [kt_no ht, bindP_some, if_pos rfl] at h1
      rw [rt_no ht, bindP_some, if_pos rfl] at h2
      have e1 : -1 = r1 := congrArg Prod.fst (Option.some.inj h1)
      have e2 : -1 = r2 := congrArg Prod.fst (Option.some.inj h2)
      rw [← e1, ← e2]
  · rw [if_neg hw, if_pos rfl] at h1 h2
    have e1 : -1 = r1 := congrArg Prod.fst (Option.some.inj h1)
    have e2 : -1 = r2 := congrArg Prod.fst (Option.some.inj h2)
    rw [← e1, ← e2]
end
section
/-! ===== enough, open, alike ===== -/
theorem k_enoughN {s s' : JS} {r : Int32} {N : Nat} (hN : (s.k.v 1).toInt = (N : Int)) (hN5 : N ≤ 5) (h : kX2_goesAtMost s = some (r, s')) : (r, s') = (fo (fun j x => x + (bcount (MB s.k s.d j) - 1)) 0 N (1 : Int32), s) := by
  unfold kX2_goesAtMost at h
  refine loop_up (L := fun n x y => kX2_goesAtMost_4L n s x y) (R := fun x => (x, s)) (N := N) (by omega) (fun x y e => by cases e) ?_ fu 1 0 (by decide) h
  intro n x y j ey hj h
  replace h : kX2_goesAtMost_4 (kX2_goesAtMost_4L n) s x y = some (r, s') := h
  unfold kX2_goesAtMost_4 at h
  by_cases c : s.k.v 1 ≤ y
  · have c' := ti_le c
    rw [if_pos c] at h
    exact Or.inl ⟨by omega, (Option.some.inj h).symm⟩
  · have c' := ti_nle c
    rw [if_neg c, k_cnt ey (by omega), bindI_some] at h
    exact Or.inr ⟨by omega, h⟩
theorem r_enoughN {s : JS} {z z' : RS} {r : Int32} {N : Nat} (hJ : JR s z) (hN : (s.k.v 1).toInt = (N : Int)) (hN5 : N ≤ 5) (hz : (z.f 20 (z.v 18).toNatClampNeg).toInt = (N : Int)) (h : r_enough_18L fu z 1 0 = some (r, z')) : (r, z') = (fo (fun j x => x + (bcount (MB s.k s.d j) - 1)) 0 N (1 : Int32), z) := by
  refine loop_up (L := fun n x y => r_enough_18L n z x y) (R := fun x => (x, z)) (N := N) (by omega) (fun x y e => by cases e) ?_ fu 1 0 (by decide) h
  intro n x y j ey hj h
  replace h : r_enough_18 (r_enough_18L n) z x y = some (r, z') := h
  unfold r_enough_18 at h
  replace h := guard_inv h
  obtain ⟨_, h⟩ := h
  by_cases c : z.f 20 (z.v 18).toNatClampNeg ≤ y
  · have c' := ti_le c
    rw [if_pos c] at h
    exact Or.inl ⟨by omega, (Option.some.inj h).symm⟩
  · have c' := ti_nle c
    rw [if_neg c] at h
    replace h := bindI_inv h
    obtain ⟨r4, z3, h3, h⟩ := h
    obtain ⟨e1, e2⟩ := hJ.may hN hN5 ey (by omega) h3
    rw [e2, e1, hJ.cnt hN hN5 (by omega), bindP_some] at h
    exact Or.inr ⟨by omega, h⟩
theorem enough_same {y : YS} {x' : XS} {z z' : RS} {r1 r2 : Int32} (h : REL y z) (hK : InvK y.x.k) (hI : InvR z) (hB : Big z) (h1 : kX10_enough y.x = some (r1, x')) (h2 : r_enough z = some (r2, z')) : r1 = r2 ∧ True := by
  refine ⟨?_, trivial⟩
  unfold kX10_enough at h1
  unfold r_enough at h2
  replace h1 := bindI_inv h1
  obtain ⟨q1, s1, u1, h1⟩ := h1
  replace h1 := letS_inv h1
  obtain ⟨s3, c3, h1⟩ := h1
  replace h2 := bindP_inv h2
  obtain ⟨z1, w1, h2⟩ := h2
  replace h2 := bindI_inv h2
  obtain ⟨q2, z2, w2, h2⟩ := h2
  obtain ⟨hJ, _⟩ := h.jr hK hI hB w1
  obtain ⟨N, hN, hN5, hz⟩ := hJ.nn
  obtain ⟨e1, e2, e3⟩ := casesN_same hJ u1 w2
  have k3 : s3 = y.x := by rw [← c3, e2]; rfl
  rw [k3, e1] at h1
  rw [e3] at h2
  by_cases c : q2 = 0
  · rw [if_pos c] at h1 h2
    have f1 : -2 = r1 := congrArg Prod.fst (Option.some.inj h1)
    have f2 : -2 = r2 := congrArg Prod.fst (Option.some.inj h2)
    rw [← f1, ← f2]
  · rw [if_neg c] at h1 h2
    replace h1 := bindI_inv h1
    obtain ⟨q7, s6, u6, h1⟩ := h1
    replace h1 := letS_inv h1
    obtain ⟨s8, _, h1⟩ := h1
    have f1 : q7 = r1 := congrArg Prod.fst (Option.some.inj h1)
    have a := congrArg Prod.fst (k_enoughN (s := JS.mk y.x.k y.x.n) hN hN5 u6)
    have b := congrArg Prod.fst (r_enoughN hJ hN hN5 hz h2)
    rw [← f1]
    exact a.trans b.symm
/-! open -/
noncomputable def opG (k : KS) (d : SD) (j : Nat) (x : Int32) : Int32 := if bcount (MB k d j) ≤ 1 then x else x ||| ((1 : Int32) <<< ((Int32.ofNat j) &&& 31))
theorem k_openN {s s' : XS} {r : Int32} {N : Nat} (hN : (s.k.v 1).toInt = (N : Int)) (hN5 : N ≤ 5) (h : kX10_open s = some (r, s')) : (r, s') = (fo (opG s.k s.n) 0 N (0 : Int32), s) := by
  unfold kX10_open at h
  refine loop_up (L := fun n x y => kX10_open_4L n s x y) (R := fun x => (x, s)) (N := N) (by omega) (fun x y e => by cases e) ?_ fu 0 0 (by decide) h
  intro n x y j ey hj h
  replace h : kX10_open_4 (kX10_open_4L n) s x y = some (r, s') := h
  unfold kX10_open_4 kX10_open_40 at h
  by_cases c : s.k.v 1 ≤ y
  · have c' := ti_le c
    rw [if_pos c] at h
    exact Or.inl ⟨by omega, (Option.some.inj h).symm⟩
  · have c' := ti_nle c
    rw [if_neg c, k_may (s := JS.mk s.k s.n) ey (by omega), bindI_some] at h
    replace h := letS_inv h
    obtain ⟨s4, c4, h⟩ := h
    have e4 : s4 = s := by rw [← c4]; rfl
    rw [e4, k_bits_eq, bindP_some] at h
    refine Or.inr ⟨by omega, ?_⟩
    show kX10_open_4L n s (opG s.k s.n j x) (y + 1) = _
    unfold opG
    rw [← eq_ofnat ey]
    by_cases d : bcount (MB s.k s.n j) ≤ 1
    · have d' : bcount (MB (JS.mk s.k s.n).k (JS.mk s.k s.n).d j) ≤ 1 := d
      rw [if_pos d'] at h
      rw [if_pos d]
      exact h
    · have d' : ¬ bcount (MB (JS.mk s.k s.n).k (JS.mk s.k s.n).d j) ≤ 1 := d
      rw [if_neg d'] at h
      rw [if_neg d]
      exact h
theorem open_same {y : YS} {x' : XS} {z z' : RS} {r1 r2 : Int32} (h : REL y z) (hK : InvK y.x.k) (hI : InvR z) (hB : Big z) (h1 : kX10_open y.x = some (r1, x')) (h2 : r_open z = some (r2, z')) : r1 = r2 ∧ True := by
  refine ⟨?_, trivial⟩
  unfold r_open at h2
  replace h2 := bindP_inv h2
  obtain ⟨z1, w1, h2⟩ := h2
  obtain ⟨hJ, _⟩ := h.jr hK hI hB w1
  obtain ⟨N, hN, hN5, hz⟩ := hJ.nn
  have a := congrArg Prod.fst (k_openN hN hN5 h1)
  have b : (r2, z') = (fo (opG y.x.k y.x.n) 0 N (0 : Int32), z1) := by
    refine loop_up (L := fun n x v => r_open_8L n z1 x v) (R := fun x => (x, z1)) (N := N) (by omega) (fun x y e => by cases e) ?_ fu 0 0 (by decide) h2
    intro n x v i ev hi h
    replace h : r_open_8 (r_open_8L n) z1 x v = some (r2, z') := h
    unfold r_open_8 r_open_39 at h
    replace h := guard_inv h
    obtain ⟨_, h⟩ := h
    by_cases c : z1.f 20 (z1.v 18).toNatClampNeg ≤ v
    · have c' := ti_le c
      rw [if_pos c] at h
      exact Or.inl ⟨by omega, (Option.some.inj h).symm⟩
    · have c' := ti_nle c
      rw [if_neg c] at h
      replace h := bindI_inv h
      obtain ⟨r4, z3, h3, h⟩ := h
      obtain ⟨e1, e2⟩ := hJ.may hN hN5 ev (by omega) h3
      rw [e2, e1, hJ.cnt hN hN5 (by omega), bindP_some] at h
      refine Or.inr ⟨by omega, ?_⟩
      show r_open_8L n z1 (opG y.x.k y.x.n i x) (v + 1) = _
      unfold opG
      rw [← eq_ofnat ev]
      by_cases d : bcount (MB y.x.k y.x.n i) ≤ 1
      · have d' : bcount (MB (JS.mk y.x.k y.x.n).k (JS.mk y.x.k y.x.n).d i) ≤ 1 := d
        rw [if_pos d'] at h
        rw [if_pos d]
        exact h
      · have d' : ¬ bcount (MB (JS.mk y.x.k y.x.n).k (JS.mk y.x.k y.x.n).d i) ≤ 1 := d
        rw [if_neg d'] at h
        rw [if_neg d]
        exact h
  exact a.trans (congrArg Prod.fst b).symm
/-! alike -/
theorem alikeL {s s' : XS} {z z' : RS} {x1 x2 r1 r2 : Int32} {g o N : Nat} (hS : SO s.k z) (hN : (s.k.v 1).toInt = (N : Int)) (hN5 : N ≤ 5) (e1 : x1.toInt = (g : Int)) (e2 : x2.toInt = (o : Int)) : ∀ (n m : Nat) (y : Int32) (j : Nat), y.toInt = (j : Int) → j ≤ N → kX10_alike_26L n s x1 x2 y = some (r1, s') → r_alike_20L m z x1 x2 y = some (r2, z') → r1 = r2 := by
  intro n
  induction n with
  | zero => intro m y j _ _ h; exact none_ne h
  | succ n ih =>
    intro m y j ey hj h1 h2
    cases m with
    | zero => exact none_ne h2
    | succ m =>
    replace h1 : kX10_alike_26 (kX10_alike_26L n) s x1 x2 y = some (r1, s') := h1
    replace h2 : r_alike_20 (r_alike_20L m) z x1 x2 y = some (r2, z') := h2
    unfold kX10_alike_26 at h1
    unfold r_alike_20 at h2
    replace h2 := guard_inv h2
    obtain ⟨_, h2⟩ := h2
    rw [← hS.1.1] at h2
    by_cases c : s.k.v 1 ≤ y
    · rw [if_pos c] at h1 h2
      have f1 : y = r1 := congrArg Prod.fst (Option.some.inj h1)
      have f2 : y = r2 := congrArg Prod.fst (Option.some.inj h2)
      rw [← f1, ← f2]
    · have c' := ti_nle c
      rw [if_neg c] at h1 h2
      replace h1 := bindP_inv h1
      obtain ⟨a2, u2, h1⟩ := h1
      replace h1 := bindP_inv h1
      obtain ⟨a3, u3, h1⟩ := h1
      replace h2 := bindI_inv h2
      obtain ⟨b4, z3, w3, h2⟩ := h2
      obtain ⟨d1, d2⟩ := r_thing hS.2.1 e1 ey (by omega) w3
      rw [d1] at h2
      replace h2 := bindI_inv h2
      obtain ⟨b6, z5, w5, h2⟩ := h2
      obtain ⟨d3, d4⟩ := r_thing hS.2.1 e2 ey (by omega) w5
      rw [d3] at h2
      have d5 := k_thing e1 ey (by omega) u2
      have d6 := k_thing e2 ey (by omega) u3
      have q1 : a2 = b4 := Int32.toInt_inj.mp (d5.trans d2.symm)
      have q2 : a3 = b6 := Int32.toInt_inj.mp (d6.trans d4.symm)
      rw [q1, q2] at h1
      by_cases d : b4 = b6
      · rw [if_pos d] at h1 h2
        have ay : (y + 1).toInt = ((j + 1 : Nat) : Int) := by
          rw [tn_add ey (by decide : (1 : Int32).toInt = 1) (by omega) (by omega)]
          omega
        exact ih m (y + 1) (j + 1) ay (by omega) h1 h2
      · rw [if_neg d] at h1 h2
        have f1 : y = r1 := congrArg Prod.fst (Option.some.inj h1)
        have f2 : y = r2 := congrArg Prod.fst (Option.some.inj h2)
        rw [← f1, ← f2]
theorem alike_same {y : YS} {x' : XS} {z z' : RS} {x1 x2 r1 r2 : Int32} (h : REL y z) (hK : InvK y.x.k) (hI : InvR z) (hB : Big z) (h1 : kX10_alike y.x x1 x2 = some (r1, x')) (h2 : r_alike z x1 x2 = some (r2, z')) : r1 = r2 ∧ True := by
  refine ⟨?_, trivial⟩
  have bw : 0 ≤ (y.x.k.v 1).toInt ∧ (y.x.k.v 1).toInt ≤ 5 := hK.1 1
  unfold kX10_alike at h1
  unfold r_alike at h2
  rw [kg_eq, bindI_some] at h1
  rw [rg_eq hI hK h.1, bindI_some] at h2
  replace h1 := letS_inv h1
  obtain ⟨s3, c3, h1⟩ := h1
  have e3 : s3 = y.x := by rw [← c3]; rfl
  rw [e3] at h1
  by_cases hg : 0 ≤ x1.toInt ∧ x1.toInt < (y.x.k.v 3).toInt
  · rw [if_pos hg, if_neg z_one] at h1 h2
    rw [kg_eq, bindI_some] at h1
    rw [rg_eq hI hK h.1, bindI_some] at h2
    replace h1 := letS_inv h1
    obtain ⟨s8, c8, h1⟩ := h1
    have e8 : s8 = y.x := by rw [← c8]; rfl
    rw [e8] at h1
    by_cases ho : 0 ≤ x2.toInt ∧ x2.toInt < (y.x.k.v 3).toInt
    · rw [if_pos ho, if_neg z_one] at h1 h2
      obtain ⟨g, eg⟩ : ∃ g : Nat, x1.toInt = (g : Int) := ⟨x1.toInt.toNat, by omega⟩
      obtain ⟨o, eo⟩ : ∃ o : Nat, x2.toInt = (o : Int) := ⟨x2.toInt.toNat, by omega⟩
      obtain ⟨N, hN⟩ : ∃ N : Nat, (y.x.k.v 1).toInt = (N : Int) := ⟨(y.x.k.v 1).toInt.toNat, by omega⟩
      exact alikeL h.1 hN (by omega) eg eo fu fu 0 0 (by decide) (by omega) h1 h2
    · rw [if_neg ho, if_pos rfl] at h1 h2
      have f1 : -1 = r1 := congrArg Prod.fst (Option.some.inj h1)
      have f2 : -1 = r2 := congrArg Prod.fst (Option.some.inj h2)
      rw [← f1, ← f2]
  · rw [if_neg hg, if_pos rfl] at h1 h2
    have f1 : -1 = r1 := congrArg Prod.fst (Option.some.inj h1)
    have f2 : -1 = r2 := congrArg Prod.fst (Option.some.inj h2)
    rw [← f1, ← f2]
end
section
/-! ===== darers, dearest, sunk ===== -/
theorem fare_jr {s s' : JS} {z z' : RS} {x r1 r2 : Int32} {p : Nat} (hJ : JR s z) (e1 : x.toInt = (p : Int)) (hp : (p : Int) < (s.k.v 2).toInt) (h1 : kX0_fareOf s x = some (r1, s')) (h2 : r_faresOf z x = some (r2, z')) : JR s' z' := by
  have bp : 0 ≤ (s.k.v 2).toInt ∧ (s.k.v 2).toInt ≤ 6 := hJ.2.2.2.2.1.1 2
  obtain ⟨y, f, i, _⟩ := ok_kX0_fareOf s x hJ.2.2.2.2.1 (by omega) (by omega)
  rw [h1] at f
  cases f
  obtain ⟨u, g, j, _⟩ := ok_r_faresOf z x hJ.2.2.2.1 hJ.2.2.1 (by omega) (by omega)
  rw [h2] at g
  cases g
  exact (fare_same hJ e1 hp h1 h2).2.jr hJ i j
theorem dare_jr {s s' : JS} {z z' : RS} {x r1 r2 : Int32} {p : Nat} (hJ : JR s z) (e1 : x.toInt = (p : Int)) (hp : (p : Int) < (s.k.v 2).toInt) (h1 : kX0_isDaring s x = some (r1, s')) (h2 : r_doesDare z x = some (r2, z')) : JR s' z' := by
  have bp : 0 ≤ (s.k.v 2).toInt ∧ (s.k.v 2).toInt ≤ 6 := hJ.2.2.2.2.1.1 2
  obtain ⟨y, f, i, _⟩ := ok_kX0_isDaring s x hJ.2.2.2.2.1 (by omega) (by omega)
  rw [h1] at f
  cases f
  obtain ⟨u, g, j, _⟩ := ok_r_doesDare z x hJ.2.2.2.1 hJ.2.2.1 (by omega) (by omega)
  rw [h2] at g
  cases g
  exact (dare_same hJ e1 hp h1 h2).2.jr hJ i j
/-- while all parties are gone through -/
noncomputable def JH (s : XS) (z : RS) : Prop := JR (JS.mk s.k s.n) z ∧ SR s.n (z.f 43)
theorem JH.step {s : XS} {s4 : JS} {z z4 : RS} (h : JH s z) (kp : KeptJ (JS.mk s.k s.n) s4 z z4) (hJ : JR s4 z4) : JH (XS.mk s.g s.t s4.d s4.k) z4 := by
  refine ⟨hJ, ?_⟩
  show SR s4.d (z4.f 43)
  rw [kp.1, (kp.2.2.2 43 (by decide)).1]
  exact h.2
theorem REL.jh {y : YS} {z z1 : RS} (h : REL y z) (hK : InvK y.x.k) (hI : InvR z) (hB : Big z) (h1 : r_copies z = some z1) : JH y.x z1 := by
  obtain ⟨hJ, F⟩ := h.jr hK hI hB h1
  refine ⟨hJ, ?_⟩
  rw [(F.2 43 (by decide)).1]
  exact h.2.1.1
theorem darersL {r1 r2 : Int32} {s' : XS} {z' : RS} : ∀ (n m : Nat) (s : XS) (z : RS) (x y : Int32) (j : Nat), JH s z → y.toInt = (j : Int) → kX10_darers_4L n s x y = some (r1, s') → r_darers_8L m z x y = some (r2, z') → r1 = r2 := by
  intro n
  induction n with
  | zero => intro m s z x y j _ _ h; exact none_ne h
  | succ n ih =>
    intro m s z x y j hH ey h1 h2
    cases m with
    | zero => exact none_ne h2
    | succ m =>
    replace h1 : kX10_darers_4 (kX10_darers_4L n) s x y = some (r1, s') := h1
    replace h2 : r_darers_8 (r_darers_8L m) z x y = some (r2, z') := h2
    have bp : 0 ≤ (s.k.v 2).toInt ∧ (s.k.v 2).toInt ≤ 6 := hH.1.2.2.2.2.1.1 2
    have ep : s.k.v 2 = z.f 23 (z.v 18).toNatClampNeg := hH.1.1.1.2.1
    unfold kX10_darers_4 kX10_darers_48 at h1
    unfold r_darers_8 r_darers_43 at h2
    replace h2 := guard_inv h2
    obtain ⟨_, h2⟩ := h2
    rw [← ep] at h2
    by_cases c : s.k.v 2 ≤ y
    · rw [if_pos c] at h1 h2
      have f1 : x = r1 := congrArg Prod.fst (Option.some.inj h1)
      have f2 : x = r2 := congrArg Prod.fst (Option.some.inj h2)
      rw [← f1, ← f2]
    · have c' := ti_nle c
      rw [if_neg c] at h1 h2
      replace h1 := guard_inv h1
      obtain ⟨_, h1⟩ := h1
      have hs : s.n.f 3 j = z.f 43 (15 + j) := (hH.2.2.1 j (by omega)).1
      rw [rh_eq hH.1.2.2.2.1 ey (by rw [← ep]; omega), bindI_some, ← hs] at h2
      rw [clamp_of_int ey] at h1
      have ay : (y + 1).toInt = ((j + 1 : Nat) : Int) := by
        rw [tn_add ey (by decide : (1 : Int32).toInt = 1) (by omega) (by omega)]
        omega
      by_cases d : s.n.f 3 j = 0
      · rw [if_pos d] at h1
        rw [if_pos d, if_neg z_one] at h2
        replace h1 := bindI_inv h1
        obtain ⟨a5, s4, u4, h1⟩ := h1
        replace h1 := letS_inv h1
        obtain ⟨s6, c6, h1⟩ := h1
        replace h2 := bindI_inv h2
        obtain ⟨b7, z6, w6, h2⟩ := h2
        have hp : (j : Int) < ((JS.mk s.k s.n).k.v 2).toInt := show (j : Int) < (s.k.v 2).toInt by omega
        have q := dare_same hH.1 ey hp u4 w6
        have J := dare_jr hH.1 ey hp u4 w6
        have H : JH s6 z6 := by rw [← c6]; exact hH.step q.2 J
        rw [q.1] at h1
        by_cases e : b7 = 0
        · rw [if_pos e] at h1 h2
          exact ih m s6 z6 x (y + 1) (j + 1) H ay h1 h2
        · rw [if_neg e] at h1 h2
          exact ih m s6 z6 _ (y + 1) (j + 1) H ay h1 h2
      · rw [if_neg d] at h1
        rw [if_neg d, if_pos rfl] at h2
        exact ih m s z x (y + 1) (j + 1) hH ay h1 h2
theorem darers_same {y : YS} {x' : XS} {z z' : RS} {r1 r2 : Int32} (h : REL y z) (hK : InvK y.x.k) (hI : InvR z) (hB : Big z) (h1 : kX10_darers y.x = some (r1, x')) (h2 : r_darers z = some (r2, z')) : r1 = r2 ∧ True := by
  refine ⟨?_, trivial⟩
  unfold kX10_darers at h1
  unfold r_darers at h2
  replace h2 := bindP_inv h2
  obtain ⟨z1, w1, h2⟩ := h2
  exact darersL fu fu y.x z1 0 0 0 (h.jh hK hI hB w1) (by decide) h1 h2
/-! sunk -/
theorem sunkL {r1 r2 x1 : Int32} {s' : XS} {z' : RS} {g : Nat} (eg : x1.toInt = (g : Int)) : ∀ (n m : Nat) (s : XS) (z : RS) (x y : Int32) (j : Nat), JH s z → y.toInt = (j : Int) → kX10_sunk_17L n s x1 x y = some (r1, s') → r_sunk_18L m z x1 x y = some (r2, z') → r1 = r2 := by
  intro n
  induction n with
  | zero => intro m s z x y j _ _ h; exact none_ne h
  | succ n ih =>
    intro m s z x y j hH ey h1 h2
    cases m with
    | zero => exact none_ne h2
    | succ m =>
    replace h1 : kX10_sunk_17 (kX10_sunk_17L n) s x1 x y = some (r1, s') := h1
    replace h2 : r_sunk_18 (r_sunk_18L m) z x1 x y = some (r2, z') := h2
    have bp : 0 ≤ (s.k.v 2).toInt ∧ (s.k.v 2).toInt ≤ 6 := hH.1.2.2.2.2.1.1 2
    have ep : s.k.v 2 = z.f 23 (z.v 18).toNatClampNeg := hH.1.1.1.2.1
    unfold kX10_sunk_17 kX10_sunk_69 at h1
    unfold r_sunk_18 r_sunk_63 at h2
    replace h2 := guard_inv h2
    obtain ⟨_, h2⟩ := h2
    rw [← ep] at h2
    by_cases c : s.k.v 2 ≤ y
    · rw [if_pos c] at h1 h2
      have f1 : x = r1 := congrArg Prod.fst (Option.some.inj h1)
      have f2 : x = r2 := congrArg Prod.fst (Option.some.inj h2)
      rw [← f1, ← f2]
    · have c' := ti_nle c
      rw [if_neg c] at h1 h2
      replace h1 := guard_inv h1
      obtain ⟨_, h1⟩ := h1
      have hs : s.n.f 3 j = z.f 43 (15 + j) := (hH.2.2.1 j (by omega)).1
      rw [rh_eq hH.1.2.2.2.1 ey (by rw [← ep]; omega), bindI_some, ← hs] at h2
      rw [clamp_of_int ey] at h1
      have ay : (y + 1).toInt = ((j + 1 : Nat) : Int) := by
        rw [tn_add ey (by decide : (1 : Int32).toInt = 1) (by omega) (by omega)]
        omega
      by_cases d : s.n.f 3 j = 0
      · rw [if_pos d] at h1
        rw [if_pos d, if_neg z_one] at h2
        replace h1 := bindI_inv h1
        obtain ⟨a5, s4, u4, h1⟩ := h1
        replace h1 := letS_inv h1
        obtain ⟨s6, c6, h1⟩ := h1
        replace h2 := bindI_inv h2
        obtain ⟨b7, z6, w6, h2⟩ := h2
        have hp : (j : Int) < ((JS.mk s.k s.n).k.v 2).toInt := show (j : Int) < (s.k.v 2).toInt by omega
        obtain ⟨q1, q2, J⟩ := borne_same hH.1 ey hp eg u4 w6
        have H : JH s6 z6 := by rw [← c6]; exact hH.step q2 J
        replace h2 := guard_inv h2
        obtain ⟨_, h2⟩ := h2
        have e1 : s6.k.v 1 = z6.f 20 (z6.v 18).toNatClampNeg := H.1.1.1.1
        rw [← e1] at h2
        rw [q1] at h1
        by_cases e : s6.k.v 1 ≤ b7
        · rw [if_pos e] at h1 h2
          exact ih m s6 z6 x (y + 1) (j + 1) H ay h1 h2
        · rw [if_neg e] at h1 h2
          exact ih m s6 z6 _ (y + 1) (j + 1) H ay h1 h2
      · rw [if_neg d] at h1
        rw [if_neg d, if_pos rfl] at h2
        exact ih m s z x (y + 1) (j + 1) hH ay h1 h2
theorem sunk_same {y : YS} {x' : XS} {z z' : RS} {x1 r1 r2 : Int32} (h : REL y z) (hK : InvK y.x.k) (hI : InvR z) (hB : Big z) (h1 : kX10_sunk y.x x1 = some (r1, x')) (h2 : r_sunk z x1 = some (r2, z')) : r1 = r2 ∧ True := by
  refine ⟨?_, trivial⟩
  unfold kX10_sunk at h1
  unfold r_sunk at h2
  rw [kg_eq, bindI_some] at h1
  rw [rg_eq hI hK h.1, bindI_some] at h2
  replace h1 := letS_inv h1
  obtain ⟨s3, c3, h1⟩ := h1
  have e3 : s3 = y.x := by rw [← c3]; rfl
  rw [e3] at h1
  by_cases hg : 0 ≤ x1.toInt ∧ x1.toInt < (y.x.k.v 3).toInt
  · rw [if_pos hg, if_neg z_one] at h1 h2
    obtain ⟨g, eg⟩ : ∃ g : Nat, x1.toInt = (g : Int) := ⟨x1.toInt.toNat, by omega⟩
    replace h2 := bindP_inv h2
    obtain ⟨z4, w4, h2⟩ := h2
    exact sunkL eg fu fu y.x z4 0 0 0 (h.jh hK hI hB w4) (by decide) h1 h2
  · rw [if_neg hg, if_pos rfl] at h1 h2
    have f1 : -1 = r1 := congrArg Prod.fst (Option.some.inj h1)
    have f2 : -1 = r2 := congrArg Prod.fst (Option.some.inj h2)
    rw [← f1, ← f2]
/-! dearest -/
noncomputable def DI (s : XS) (z : RS) (x2 x3 : Int32) : Prop := (x2 = -2 ∧ x3 = -2) ∨ (∃ q : Nat, x2.toInt = (q : Int) ∧ (q : Int) < (s.k.v 2).toInt ∧ 0 ≤ x3.toInt ∧ ∃ a a' : JS, JR a z ∧ a.k.v 2 = s.k.v 2 ∧ kX0_fareOf a x2 = some (x3, a'))
theorem JR.on2 {a : JS} {z z' : RS} (h : JR a z) (G : FrR WSZ z z') (hI : InvR z') : JR a z' := KeptJ.jr (s := a) (s' := a) ⟨rfl, FrK.rfl, G⟩ h h.2.2.2.2.1 hI
theorem dearestL {r1 r2 x1 : Int32} {s' : XS} {z' : RS} : ∀ (n m : Nat) (s : XS) (z : RS) (x2 x3 y : Int32) (j : Nat), JH s z → DI s z x2 x3 → y.toInt = (j : Int) → kX10_dearest_20L n s x1 x2 x3 y = some (r1, s') → r_dearest_20L m z x1 x2 y = some (r2, z') → r1 = r2 := by
  intro n
  induction n with
  | zero => intro m s z x2 x3 y j _ _ _ h; exact none_ne h
  | succ n ih =>
    intro m s z x2 x3 y j hH hD ey h1 h2
    cases m with
    | zero => exact none_ne h2
    | succ m =>
    replace h1 : kX10_dearest_20 (kX10_dearest_20L n) s x1 x2 x3 y = some (r1, s') := h1
    replace h2 : r_dearest_20 (r_dearest_20L m) z x1 x2 y = some (r2, z') := h2
    have bp : 0 ≤ (s.k.v 2).toInt ∧ (s.k.v 2).toInt ≤ 6 := hH.1.2.2.2.2.1.1 2
    have ep : s.k.v 2 = z.f 23 (z.v 18).toNatClampNeg := hH.1.1.1.2.1
    have hIR : InvR z := hH.1.2.2.2.1
    have hBR : Big z := hH.1.2.2.1
    unfold kX10_dearest_20 kX10_dearest_59 at h1
    unfold r_dearest_20 r_dearest_50 r_dearest_52 at h2
    replace h2 := guard_inv h2
    obtain ⟨_, h2⟩ := h2
    rw [← ep] at h2
    by_cases c : s.k.v 2 ≤ y
    · rw [if_pos c] at h1 h2
      rcases hD with ⟨d1, d2⟩ | ⟨q, d1, d2, d3, a, a', d4, d5, d6⟩
      · rw [d1, d2] at h1
        rw [d1, if_pos (by decide)] at h2
        have f2 : -2 = r2 := congrArg Prod.fst (Option.some.inj h2)
        by_cases e : x1 = 0
        · rw [if_pos e] at h1
          have f1 : -2 = r1 := congrArg Prod.fst (Option.some.inj h1)
          rw [← f1, ← f2]
        · rw [if_neg e] at h1
          have f1 : -2 = r1 := congrArg Prod.fst (Option.some.inj h1)
          rw [← f1, ← f2]
      · have n0 : ¬ x2 < 0 := fun q => by
          have := tn_lt (b := 0) rfl (by decide) q
          omega
        rw [if_neg n0] at h2
        by_cases e : x1 = 0
        · rw [if_pos e] at h1 h2
          have f1 : x2 = r1 := congrArg Prod.fst (Option.some.inj h1)
          have f2 : x2 = r2 := congrArg Prod.fst (Option.some.inj h2)
          rw [← f1, ← f2]
        · rw [if_neg e] at h1 h2
          have f1 : x3 = r1 := congrArg Prod.fst (Option.some.inj h1)
          replace h2 := bindI_inv h2
          obtain ⟨b6, z5, w5, h2⟩ := h2
          have f2 : b6 = r2 := congrArg Prod.fst (Option.some.inj h2)
          have q1 := (fare_same d4 d1 (by rw [d5]; exact d2) d6 w5).1
          rw [← f1, ← f2, q1]
    · have c' := ti_nle c
      rw [if_neg c] at h1 h2
      have ay : (y + 1).toInt = ((j + 1 : Nat) : Int) := by
        rw [tn_add ey (by decide : (1 : Int32).toInt = 1) (by omega) (by omega)]
        omega
      replace h1 := bindI_inv h1
      obtain ⟨a4, s3, u3, h1⟩ := h1
      replace h1 := letS_inv h1
      obtain ⟨s5, c5, h1⟩ := h1
      have hp : (j : Int) < ((JS.mk s.k s.n).k.v 2).toInt := show (j : Int) < (s.k.v 2).toInt by omega
      obtain ⟨yk, fk, Ik, Fk, lo, _⟩ := ok_kX0_fareOf (JS.mk s.k s.n) y hH.1.2.2.2.2.1 (by omega) (by omega)
      rw [u3] at fk
      have ek : yk = (a4, s3) := (Option.some.inj fk).symm
      rw [ek] at Ik Fk lo
      have dn : s3.d = s.n := fr_kX0_fareOf s.n (JS.mk s.k s.n) y rfl (a4, s3) u3
      have kv2 : s5.k.v 2 = s.k.v 2 := by rw [← c5]; exact Fk.1 2 (by decide)
      have lo : 0 ≤ a4.toInt := lo
      rcases hD with ⟨d1, d2⟩ | ⟨q, d1, d2, d3, a, a', d4, d5, d6⟩
      · rw [d1, if_pos (by decide)] at h2
        rw [d2, if_neg (fun q => by
          have := tn_le (b := -2) rfl (by decide) q
          omega)] at h1
        have kp : KeptJ (JS.mk s.k s.n) s3 z z := ⟨dn, Fk, FrR.rfl⟩
        have H : JH s5 z := by rw [← c5]; exact hH.step kp (kp.jr hH.1 Ik hIR)
        refine ih m s5 z y a4 (y + 1) (j + 1) H (Or.inr ⟨j, ey, by rw [kv2]; omega, lo, JS.mk s.k s.n, s3, hH.1, kv2.symm, u3⟩) ay h1 h2
      · have n0 : ¬ x2 < 0 := fun q => by
          have := tn_lt (b := 0) rfl (by decide) q
          omega
        rw [if_neg n0] at h2
        replace h2 := bindI_inv h2
        obtain ⟨b9, z8, w8, h2⟩ := h2
        replace h2 := bindI_inv h2
        obtain ⟨b11, z10, w10, h2⟩ := h2
        have q1 := fare_same hH.1 ey hp u3 w8
        have J8 := fare_jr hH.1 ey hp u3 w8
        have a8 : JR a z8 := d4.on2 q1.2.2.2 J8.2.2.2.1
        have hq2 : (q : Int) < (a.k.v 2).toInt := by rw [d5]; exact d2
        have q2 := fare_same a8 d1 hq2 d6 w10
        obtain ⟨yr, fr, Ir, Fr, _⟩ := ok_r_faresOf z8 x2 J8.2.2.2.1 J8.2.2.1 (by omega) (by omega)
        rw [w10] at fr
        have er : yr = (b11, z10) := (Option.some.inj fr).symm
        rw [er] at Ir Fr
        have Ir : InvR z10 := Ir
        have Fr : FrR WSZ z8 z10 := Fr
        have J10 : JR s3 z10 := J8.on2 Fr Ir
        have kp : KeptJ (JS.mk s.k s.n) s3 z z10 := ⟨dn, Fk, q1.2.2.2.trans Fr (fun _ x => x)⟩
        have H : JH s5 z10 := by rw [← c5]; exact hH.step kp J10
        have a10 : JR a z10 := a8.on2 Fr Ir
        rw [← q1.1, ← q2.1] at h2
        by_cases e : a4 ≤ x3
        · rw [if_pos e] at h1 h2
          exact ih m s5 z10 x2 x3 (y + 1) (j + 1) H (Or.inr ⟨q, d1, by rw [kv2]; exact d2, d3, a, a', a10, by rw [kv2]; exact d5, d6⟩) ay h1 h2
        · rw [if_neg e] at h1 h2
          exact ih m s5 z10 y a4 (y + 1) (j + 1) H (Or.inr ⟨j, ey, by rw [kv2]; omega, lo, JS.mk s.k s.n, s3, hH.1.on2 (q1.2.2.2.trans Fr (fun _ x => x)) Ir, kv2.symm, u3⟩) ay h1 h2
theorem dearest_same {y : YS} {x' : XS} {z z' : RS} {x1 r1 r2 : Int32} (h : REL y z) (hK : InvK y.x.k) (hI : InvR z) (hB : Big z) (h1 : kX10_dearest y.x x1 = some (r1, x')) (h2 : r_dearest z x1 = some (r2, z')) : r1 = r2 ∧ True := by
  refine ⟨?_, trivial⟩
  unfold kX10_dearest kX10_dearest_11 at h1
  unfold r_dearest at h2
  by_cases hx : x1 = 0 ∨ x1 = 1
  · have e1 : kX10_dearest_20L fu y.x x1 (-2) (-2) 0 = some (r1, x') := by
      rcases hx with q | q
      · rw [if_pos q] at h1; exact h1
      · have n0 : ¬ x1 = 0 := by rw [q]; decide
        rw [if_neg n0, if_pos q] at h1; exact h1
    have e2 : r_in x1 0 1 = some 1 := by
      rcases hx with q | q
      · rw [q]; exact r_in_yes (by decide) (by decide)
      · rw [q]; exact r_in_yes (by decide) (by decide)
    rw [e2, bindP_some, if_neg z_one] at h2
    replace h2 := bindP_inv h2
    obtain ⟨z3, w3, h2⟩ := h2
    exact dearestL fu fu y.x z3 (-2) (-2) 0 0 (h.jh hK hI hB w3) (Or.inl ⟨rfl, rfl⟩) (by decide) e1 h2
  · have n0 : ¬ x1 = 0 := fun q => hx (Or.inl q)
    have n1 : ¬ x1 = 1 := fun q => hx (Or.inr q)
    rw [if_neg n0, if_neg n1] at h1
    have e2 : r_in x1 0 1 = some 0 := r_in_no (fun q => by
      have z0 : (0 : Int32).toInt = 0 := by decide
      have z1 : (1 : Int32).toInt = 1 := by decide
      have m0 := ne_toInt z0 n0
      have m1 := ne_toInt z1 n1
      omega)
    rw [e2, bindP_some, if_pos rfl] at h2
    have f1 : -1 = r1 := congrArg Prod.fst (Option.some.inj h1)
    have f2 : -1 = r2 := congrArg Prod.fst (Option.some.inj h2)
    rw [← f1, ← f2]
end
section
/-! ===== year, drawn, then ===== -/
/-- what seeds ask: the text, the standing's shifts, the seed that is drawn by -/
noncomputable def SI (k : KS) (d : SD) (z : RS) (sd : Int32) : Prop := SO k z ∧ InvR z ∧ InvK k ∧ Big z ∧ (∀ w, w < 5 → d.f 2 w = z.f 44 (10 + w)) ∧ z.v 45 = sd
theorem JR.si {s : JS} {z : RS} (h : JR s z) : SI s.k s.d z (s.k.v 4) := ⟨h.1, h.2.2.2.1, h.2.2.2.2.1, h.2.2.1, fun w hw => (h.2.1.1 w hw).2.2.2, by rw [h.2.2.2.2.2]; exact h.1.1.2.2.1.symm⟩
theorem SI.next {k : KS} {d : SD} {z : RS} {sd : Int32} (h : SI k d z sd) : SI k d (z.sv 45 ((z.v 45) + 1)) (sd + 1) := by
  obtain ⟨a, b, c, e, f, g⟩ := h
  have F : FrR [45] z (z.sv 45 ((z.v 45) + 1)) := FrR.rfl.sv (by decide)
  refine ⟨a.fr FrK.rfl F (W := []) (by decide) (by decide), b.svF (k := 45) rfl rfl, c, e.fr F (by decide), f, ?_⟩
  show (z.v 45) + 1 = sd + 1
  rw [g]
theorem guess_there {k : KS} {d : SD} {z z' : RS} {s' : JS} {sd r1 r2 : Int32} (h : SI k d z sd) (h1 : kX0_guessThere (JS.mk k d) sd = some (r1, s')) (h2 : r_thereNumber z = some (r2, z')) : r1 = r2 ∧ s' = JS.mk k d ∧ z' = z := by
  obtain ⟨hS, hI, hK, hB, hsh, h45⟩ := h
  have bw : 0 ≤ (k.v 1).toInt ∧ (k.v 1).toInt ≤ 5 := hK.1 1
  obtain ⟨n, hn⟩ : ∃ n : Nat, (k.v 1).toInt = (n : Int) := ⟨(k.v 1).toInt.toNat, by omega⟩
  have hwv : wv z = (n : Int) := by
    unfold wv
    rw [← hS.1.1]
    exact hn
  obtain ⟨e1, e2⟩ := r_number hI hB hS.2.1 hwv (by omega) h2
  unfold kX0_guessThere at h1
  have a1 : (((JS.mk k d).k.v 1) - 1).toInt = (n : Int) - 1 := by
    show ((k.v 1) - 1).toInt = _
    rw [tn_sub hn (by decide : (1 : Int32).toInt = 1) (by omega) (by omega)]
  obtain ⟨e3, e4⟩ := k_numberL hS hI hK hB hn hsh h45.symm fu 0 _ n (Nat.le_refl _) a1 (by rw [Nat.sub_self]; show (0 : Int32).toInt = ((0 : Nat) : Int); decide) h1
  exact ⟨Int32.toInt_inj.mp (e4.trans e2.symm), e3, e1⟩
theorem yearL {s s' : XS} {z' : RS} {x1 x2 r1 r2 : Int32} : ∀ (n m : Nat) (z : RS) (x3 y : Int32), SI s.k s.n z ((s.k.v 4) + y) → kX10_year_29L n s x1 x2 x3 y = some (r1, s') → r_year_29L m z x1 x2 x3 y = some (r2, z') → r1 = r2 := by
  intro n
  induction n with
  | zero => intro m z x3 y _ h; exact none_ne h
  | succ n ih =>
    intro m z x3 y hS h1 h2
    cases m with
    | zero => exact none_ne h2
    | succ m =>
    replace h1 : kX10_year_29 (kX10_year_29L n) s x1 x2 x3 y = some (r1, s') := h1
    replace h2 : r_year_29 (r_year_29L m) z x1 x2 x3 y = some (r2, z') := h2
    unfold kX10_year_29 kX10_year_63 at h1
    unfold r_year_29 r_year_46 at h2
    by_cases c : x2 ≤ y
    · rw [if_pos c] at h1 h2
      have f1 : x3 = r1 := congrArg Prod.fst (Option.some.inj h1)
      have f2 : x3 = r2 := congrArg Prod.fst (Option.some.inj h2)
      rw [← f1, ← f2]
    · rw [if_neg c] at h1 h2
      replace h1 := bindI_inv h1
      obtain ⟨a3, s2, u2, h1⟩ := h1
      replace h1 := letS_inv h1
      obtain ⟨s4, c4, h1⟩ := h1
      replace h2 := bindI_inv h2
      obtain ⟨b3, z2, w2, h2⟩ := h2
      obtain ⟨q1, q2, q3⟩ := guess_there hS u2 w2
      have e4 : s4 = s := by rw [← c4, q2]; rfl
      rw [e4, q1] at h1
      rw [q3] at h2
      have N := hS.next
      rw [Int32.add_assoc] at N
      by_cases d : b3 = x1
      · rw [if_pos d] at h1 h2
        exact ih m _ (x3 + 1) (y + 1) N h1 h2
      · rw [if_neg d] at h1 h2
        exact ih m _ x3 (y + 1) N h1 h2
theorem in_range {x a b : Int32} {A B : Int} (ha : a.toInt = A) (hb : b.toInt = B) : r_in x a b = some (if A ≤ x.toInt ∧ x.toInt ≤ B then 1 else 0) := by
  by_cases c : A ≤ x.toInt ∧ x.toInt ≤ B
  · rw [if_pos c]
    exact r_in_yes (by omega) (by omega)
  · rw [if_neg c]
    exact r_in_no (by rw [ha, hb]; exact c)
theorem year_same {y : YS} {x' : XS} {z z' : RS} {x1 x2 r1 r2 : Int32} (h : REL y z) (hK : InvK y.x.k) (hI : InvR z) (hB : Big z) (h1 : kX10_year y.x x1 x2 = some (r1, x')) (h2 : r_year z x1 x2 = some (r2, z')) : r1 = r2 ∧ True := by
  refine ⟨?_, trivial⟩
  unfold kX10_year at h1
  unfold r_year at h2
  rw [kg_eq, bindI_some] at h1
  rw [rg_eq hI hK h.1, bindI_some] at h2
  replace h1 := letS_inv h1
  obtain ⟨s3, c3, h1⟩ := h1
  have e3 : s3 = y.x := by rw [← c3]; rfl
  rw [e3] at h1
  by_cases hg : 0 ≤ x1.toInt ∧ x1.toInt < (y.x.k.v 3).toInt
  · rw [if_pos hg, if_neg z_one] at h1 h2
    rw [in_range (A := 1) (B := 20) (by decide) (by decide), bindP_some] at h2
    by_cases hx : 1 ≤ x2.toInt ∧ x2.toInt ≤ 20
    · rw [if_pos hx, if_neg z_one] at h2
      have n1 : ¬ x2 < 1 := fun q => by
        have := tn_lt (b := 1) rfl (by decide) q
        omega
      have n2 : x2 ≤ 20 := Int32.le_iff_toInt_le.mpr (by rw [show (20 : Int32).toInt = 20 from by decide]; omega)
      rw [if_neg n1, if_pos n2] at h1
      replace h2 := bindP_inv h2
      obtain ⟨z6, w6, h2⟩ := h2
      obtain ⟨hJ, _⟩ := h.jr hK hI hB w6
      have S : SI y.x.k y.x.n z6 ((y.x.k.v 4) + 0) := by rw [Int32.add_zero]; exact hJ.si
      exact yearL fu fu z6 0 0 S h1 h2
    · rw [if_neg hx, if_pos rfl] at h2
      have f2 : -1 = r2 := congrArg Prod.fst (Option.some.inj h2)
      have f1 : -1 = r1 := by
        by_cases n1 : x2 < 1
        · rw [if_pos n1] at h1
          exact congrArg Prod.fst (Option.some.inj h1)
        · have n1' := tn_nlt (b := 1) rfl (by decide) n1
          have n2 : ¬ x2 ≤ 20 := fun q => by
            have := tn_le (b := 20) rfl (by decide) q
            omega
          rw [if_neg n1, if_neg n2] at h1
          exact congrArg Prod.fst (Option.some.inj h1)
      rw [← f1, ← f2]
  · rw [if_neg hg, if_pos rfl] at h1 h2
    have f1 : -1 = r1 := congrArg Prod.fst (Option.some.inj h1)
    have f2 : -1 = r2 := congrArg Prod.fst (Option.some.inj h2)
    rw [← f1, ← f2]
/-! drawn -/
theorem drawnL {s s' : XS} {z' : RS} {x1 x2 r1 r2 : Int32} {w : Nat} (ew : x1.toInt = (w : Int)) (hw : (w : Int) < (s.k.v 1).toInt) : ∀ (n m : Nat) (z : RS) (x3 y : Int32), SI s.k s.n z ((s.k.v 4) + y) → 0 ≤ x3.toInt → x3.toInt ≤ 63 → kX10_drawn_29L n s x1 x2 x3 y = some (r1, s') → r_drawn_29L m z x1 x2 x3 y = some (r2, z') → r1 = r2 := by
  intro n
  induction n with
  | zero => intro m z x3 y _ _ _ h; exact none_ne h
  | succ n ih =>
    intro m z x3 y hS l0 l1 h1 h2
    cases m with
    | zero => exact none_ne h2
    | succ m =>
    replace h1 : kX10_drawn_29 (kX10_drawn_29L n) s x1 x2 x3 y = some (r1, s') := h1
    replace h2 : r_drawn_29 (r_drawn_29L m) z x1 x2 x3 y = some (r2, z') := h2
    have bw : 0 ≤ (s.k.v 1).toInt ∧ (s.k.v 1).toInt ≤ 5 := hS.2.2.1.1 1
    unfold kX10_drawn_29 at h1
    unfold r_drawn_29 at h2
    by_cases c : x2 ≤ y
    · rw [if_pos c] at h1 h2
      rw [k_bits_eq, bindP_some] at h1
      rw [r_bits_eq, bindP_some] at h2
      have f1 : bcount x3 = r1 := congrArg Prod.fst (Option.some.inj h1)
      have f2 : bsum x3 = r2 := congrArg Prod.fst (Option.some.inj h2)
      rw [← f1, ← f2]
      exact (bits_same l0 l1).1
    · rw [if_neg c] at h1 h2
      replace h1 := guard_inv h1
      obtain ⟨_, h1⟩ := h1
      replace h1 := bindI_inv h1
      obtain ⟨a5, s4, u4, h1⟩ := h1
      replace h1 := letS_inv h1
      obtain ⟨s6, c6, h1⟩ := h1
      replace h2 := bindI_inv h2
      obtain ⟨b4, z3, w3, h2⟩ := h2
      replace h2 := letS_inv h2
      obtain ⟨z5, c5, h2⟩ := h2
      rw [clamp_of_int ew] at u4
      obtain ⟨q1, q2, q3, v, hv, q4, _⟩ := there_same hS.2.2.2.1 hS.1 hS.2.1 hS.2.2.1 ew hw (hS.2.2.2.2.1 w (by omega)) hS.2.2.2.2.2.symm u4 w3
      have e6 : s6 = s := by rw [← c6, q2]; rfl
      rw [e6] at h1
      have N := hS.next
      rw [Int32.add_assoc] at N
      rw [q3] at c5
      rw [c5] at N
      rw [← q1] at h2
      have o := one_shl v hv
      rw [← q4] at o
      have b := or_small l0 l1 o.1 o.2
      exact ih m z5 _ (y + 1) N b.1 b.2 h1 h2
theorem drawn_same {y : YS} {x' : XS} {z z' : RS} {x1 x2 r1 r2 : Int32} (h : REL y z) (hK : InvK y.x.k) (hI : InvR z) (hB : Big z) (h1 : kX10_drawn y.x x1 x2 = some (r1, x')) (h2 : r_drawn z x1 x2 = some (r2, z')) : r1 = r2 ∧ True := by
  refine ⟨?_, trivial⟩
  have bw : 0 ≤ (y.x.k.v 1).toInt ∧ (y.x.k.v 1).toInt ≤ 5 := hK.1 1
  unfold kX10_drawn at h1
  unfold r_drawn at h2
  rw [kw_eq, bindI_some] at h1
  rw [rw_eq hI, bindI_some, ← h.1.1.1] at h2
  replace h1 := letS_inv h1
  obtain ⟨s3, c3, h1⟩ := h1
  have e3 : s3 = y.x := by rw [← c3]; rfl
  rw [e3] at h1
  by_cases hw : 0 ≤ x1.toInt ∧ x1.toInt < (y.x.k.v 1).toInt
  · rw [if_pos hw, if_neg z_one] at h1 h2
    rw [in_range (A := 1) (B := 20) (by decide) (by decide), bindP_some] at h2
    by_cases hx : 1 ≤ x2.toInt ∧ x2.toInt ≤ 20
    · rw [if_pos hx, if_neg z_one] at h2
      have n1 : ¬ x2 < 1 := fun q => by
        have := tn_lt (b := 1) rfl (by decide) q
        omega
      have n2 : x2 ≤ 20 := Int32.le_iff_toInt_le.mpr (by rw [show (20 : Int32).toInt = 20 from by decide]; omega)
      rw [if_neg n1, if_pos n2] at h1
      replace h2 := bindP_inv h2
      obtain ⟨z6, w6, h2⟩ := h2
      obtain ⟨hJ, _⟩ := h.jr hK hI hB w6
      have S : SI y.x.k y.x.n z6 ((y.x.k.v 4) + 0) := by rw [Int32.add_zero]; exact hJ.si
      obtain ⟨w, ew⟩ : ∃ w : Nat, x1.toInt = (w : Int) := ⟨x1.toInt.toNat, by omega⟩
      exact drawnL ew (by omega) fu fu z6 0 0 S (by decide) (by decide) h1 h2
    · rw [if_neg hx, if_pos rfl] at h2
      have f2 : -1 = r2 := congrArg Prod.fst (Option.some.inj h2)
      have f1 : -1 = r1 := by
        by_cases n1 : x2 < 1
        · rw [if_pos n1] at h1
          exact congrArg Prod.fst (Option.some.inj h1)
        · have n1' := tn_nlt (b := 1) rfl (by decide) n1
          have n2 : ¬ x2 ≤ 20 := fun q => by
            have := tn_le (b := 20) rfl (by decide) q
            omega
          rw [if_neg n1, if_neg n2] at h1
          exact congrArg Prod.fst (Option.some.inj h1)
      rw [← f1, ← f2]
  · rw [if_neg hw, if_pos rfl] at h1 h2
    have f1 : -1 = r1 := congrArg Prod.fst (Option.some.inj h1)
    have f2 : -1 = r2 := congrArg Prod.fst (Option.some.inj h2)
    rw [← f1, ← f2]
end
