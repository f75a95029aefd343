section
/-! ===== queries that ask no law: loops that leave all as it is ===== -/
/-- what a loop gathers from the j-th on, m times -/
noncomputable def fo {α : Type} (G : Nat → α → α) : Nat → Nat → α → α
  | _, 0, x => x
  | j, m + 1, x => fo G (j + 1) m (G j x)
theorem loop_q {α β : Type} {L : Nat → α → Int32 → Option β} {out : β} {N : Nat} {G : Nat → α → α} {Q : α → Prop} (hN : N ≤ 1000000) (h0 : ∀ x y, L 0 x y = some out → False)
    (h1 : ∀ (n : Nat) (x : α) (y : Int32) (j : Nat), y.toInt = (j : Int) → j ≤ N → L (n + 1) x y = some out → (j = N ∧ Q x) ∨ (j < N ∧ L n (G j x) (y + 1) = some out)) :
    ∀ (n : Nat) (x : α) (y : Int32) (j : Nat), y.toInt = (j : Int) → j ≤ N → L n x y = some out → Q (fo G j (N - j) x) := by
  intro n
  induction n with
  | zero => intro x y j _ _ h; exact (h0 x y h).elim
  | succ n ih =>
    intro x y j ey hj h
    rcases h1 n x y j ey hj h with ⟨e, q⟩ | ⟨l, q⟩
    · subst e
      rw [Nat.sub_self]
      exact q
    · have ay : (y + 1).toInt = ((j + 1 : Nat) : Int) := by
        rw [tn_add ey (by decide : (1 : Int32).toInt = 1) (by omega) (by omega)]
        omega
      have r := ih (G j x) (y + 1) (j + 1) ay (by omega) q
      have e : N - j = (N - (j + 1)) + 1 := by omega
      rw [e]
      exact r
theorem loop_up {α β : Type} {L : Nat → α → Int32 → Option β} {out : β} {N : Nat} {G : Nat → α → α} {R : α → β} (hN : N ≤ 1000000) (h0 : ∀ x y, L 0 x y = some out → False)
    (h1 : ∀ (n : Nat) (x : α) (y : Int32) (j : Nat), y.toInt = (j : Int) → j ≤ N → L (n + 1) x y = some out → (j = N ∧ out = R x) ∨ (j < N ∧ L n (G j x) (y + 1) = some out)) (n : Nat) (x : α) (y : Int32) (ey : y.toInt = ((0 : Nat) : Int)) (h : L n x y = some out) : out = R (fo G 0 N x) :=
  loop_q (Q := fun x => out = R x) hN h0 h1 n x y 0 ey (Nat.zero_le _) h
theorem fo_cg {α : Type} {G G' : Nat → α → α} : ∀ (m j : Nat) (x : α), (∀ i, j ≤ i → i < j + m → ∀ x, G i x = G' i x) → fo G j m x = fo G' j m x := by
  intro m
  induction m with
  | zero => intro j x _; rfl
  | succ m ih =>
    intro j x h
    show fo G (j + 1) m (G j x) = fo G' (j + 1) m (G' j x)
    rw [h j (by omega) (by omega) x]
    exact ih (j + 1) _ (fun i h1 h2 => h i (by omega) (by omega))
/-- what may be over a wave has odds, else none -/
noncomputable def OF (k : KS) (d : SD) (w v : Nat) : Int32 := if (((MB k d w) >>> ((Int32.ofNat v) &&& 31)) &&& 1) = 1 then k.f 3 (6 * w + v) else 0
theorem k_has (x0 x1 : Int32) : kX10_has x0 x1 = some (if ((x0 >>> (x1 &&& 31)) &&& 1) = 1 then 1 else 0) := by
  unfold kX10_has
  by_cases c : ((x0 >>> (x1 &&& 31)) &&& 1) = 1
  · rw [if_pos c, if_pos c]
  · rw [if_neg c, if_neg c]
theorem k_cnt {s : JS} {x : Int32} {w : Nat} (hx : x.toInt = (w : Int)) (hw : w < 5) : kX2_mayCount s x = some (bcount (MB s.k s.d w), s) := by
  unfold kX2_mayCount
  rw [k_may hx hw, bindI_some, k_bits_eq, bindP_some]
theorem k_oim {s : JS} {x2 x3 : Int32} {w v : Nat} (h2 : x2.toInt = (w : Int)) (hw : w < 5) (h3 : x3.toInt = (v : Int)) (hv : v < 6) : kX2_oddsIfMay s x2 x3 = some (OF s.k s.d w v, s) := by
  unfold kX2_oddsIfMay OF
  rw [k_may h2 hw, bindI_some, k_has, bindP_some, ← eq_ofnat h3]
  by_cases c : (((MB s.k s.d w) >>> (x3 &&& 31)) &&& 1) = 1
  · rw [if_pos c, if_pos c, if_neg z_one, k_odds h2 hw h3 hv, bindI_some]
    rfl
  · rw [if_neg c, if_neg c, if_pos rfl]
/-- how many waves there are, on both sides -/
theorem JR.nn {s : JS} {z : RS} (h : JR s z) : ∃ N : Nat, (s.k.v 1).toInt = (N : Int) ∧ N ≤ 5 ∧ (z.f 20 (z.v 18).toNatClampNeg).toInt = (N : Int) := by
  have bw : 0 ≤ (s.k.v 1).toInt ∧ (s.k.v 1).toInt ≤ 5 := h.2.2.2.2.1.1 1
  refine ⟨(s.k.v 1).toInt.toNat, by omega, by omega, ?_⟩
  rw [← h.1.1.1]
  omega
theorem JR.may {s : JS} {z z' : RS} {y r : Int32} {j N : Nat} (h : JR s z) (hN : (s.k.v 1).toInt = (N : Int)) (hN5 : N ≤ 5) (ey : y.toInt = (j : Int)) (hj : j < N) (hm : r_mayAt z y = some (r, z')) : z' = z ∧ r = MB s.k s.d j :=
  may_same h.1 (h.2.1.at (by omega)) h.2.2.2.1 h.2.2.2.2.1 ey (by omega) hm
theorem JR.cnt {s : JS} {z : RS} {j N : Nat} (h : JR s z) (hN : (s.k.v 1).toInt = (N : Int)) (hN5 : N ≤ 5) (hj : j < N) : r_bits (MB s.k s.d j) = some (bcount (MB s.k s.d j)) := by
  have b := MB_small (w := j) h.1 (h.2.1.at (by omega)) h.2.2.2.2.1 (by omega)
  rw [r_bits_eq, (bits_same b.1 b.2).1]
theorem JR.maybe {s : JS} {z z' : RS} {y x r : Int32} {j N : Nat} (h : JR s z) (hN : (s.k.v 1).toInt = (N : Int)) (hN5 : N ≤ 5) (ey : y.toInt = (j : Int)) (hj : j < N) (hm : r_mayBe z y x = some (r, z')) : z' = z ∧ r = if (((MB s.k s.d j) >>> (x &&& 31)) &&& 1) = 1 then 1 else 0 := by
  unfold r_mayBe at hm
  replace hm := bindI_inv hm
  obtain ⟨r2, z2, h2, hm⟩ := hm
  obtain ⟨e1, e2⟩ := h.may hN hN5 ey hj h2
  rw [e2, e1] at hm
  by_cases c : (((MB s.k s.d j) >>> (x &&& 31)) &&& 1) = 1
  · rw [if_pos c] at hm
    rw [if_pos c]
    have e := Option.some.inj hm
    exact ⟨(congrArg Prod.snd e).symm, (congrArg Prod.fst e).symm⟩
  · rw [if_neg c] at hm
    rw [if_neg c]
    have e := Option.some.inj hm
    exact ⟨(congrArg Prod.snd e).symm, (congrArg Prod.fst e).symm⟩
theorem JR.odds {s : JS} {z z' : RS} {y x r : Int32} {j v N : Nat} (h : JR s z) (hN : (s.k.v 1).toInt = (N : Int)) (hN5 : N ≤ 5) (ey : y.toInt = (j : Int)) (hj : j < N) (ex : x.toInt = (v : Int)) (hv : v < 6) (hm : r_oddsAt z y x = some (r, z')) : z' = z ∧ r = s.k.f 3 (6 * j + v) := by
  have bl : 0 ≤ (z.v 18).toInt ∧ (z.v 18).toInt ≤ 1 := h.2.2.2.1.1 18
  obtain ⟨l, hl⟩ : ∃ l : Nat, (z.v 18).toInt = (l : Int) := ⟨(z.v 18).toInt.toNat, by omega⟩
  obtain ⟨e1, e2⟩ := r_odds_inv hl (by omega) ey (by omega) ex hv hm
  refine ⟨e1, ?_⟩
  rw [e2, od_eq h.1.2.2.1 hl (by omega) hv]
  exact congrArg (z.f 21) (by omega)
/-! cases -/
theorem k_casesN {s s' : JS} {r : Int32} {N : Nat} (hN : (s.k.v 1).toInt = (N : Int)) (hN5 : N ≤ 5) (h : kX2_caseCount s = some (r, s')) : (r, s') = (fo (fun j x => x * bcount (MB s.k s.d j)) 0 N (1 : Int32), s) := by
  unfold kX2_caseCount at h
  refine loop_up (L := fun n x y => kX2_caseCount_4L n s x y) (R := fun x => (x, s)) (N := N) (by omega) (fun x y e => by cases e) ?_ fu 1 0 (by decide) h
  intro n x y j ey hj h
  replace h : kX2_caseCount_4 (kX2_caseCount_4L n) s x y = some (r, s') := h
  unfold kX2_caseCount_4 at h
  by_cases c : s.k.v 1 ≤ y
  · have c' := ti_le c
    rw [if_pos c] at h
    exact Or.inl ⟨by omega, (Option.some.inj h).symm⟩
  · have c' := ti_nle c
    rw [if_neg c, k_cnt ey (by omega), bindI_some] at h
    exact Or.inr ⟨by omega, h⟩
theorem r_casesN {s : JS} {z z' : RS} {r : Int32} {N : Nat} (hJ : JR s z) (hN : (s.k.v 1).toInt = (N : Int)) (hN5 : N ≤ 5) (hz : (z.f 20 (z.v 18).toNatClampNeg).toInt = (N : Int)) (h : r_casesNow z = some (r, z')) : (r, z') = (fo (fun j x => x * bcount (MB s.k s.d j)) 0 N (1 : Int32), z) := by
  unfold r_casesNow at h
  refine loop_up (L := fun n x y => r_casesNow_4L n z x y) (R := fun x => (x, z)) (N := N) (by omega) (fun x y e => by cases e) ?_ fu 1 0 (by decide) h
  intro n x y j ey hj h
  replace h : r_casesNow_4 (r_casesNow_4L n) z x y = some (r, z') := h
  unfold r_casesNow_4 at h
  replace h := guard_inv h
  obtain ⟨_, h⟩ := h
  by_cases c : z.f 20 (z.v 18).toNatClampNeg ≤ y
  · have c' := ti_le c
    rw [if_pos c] at h
    exact Or.inl ⟨by omega, (Option.some.inj h).symm⟩
  · have c' := ti_nle c
    rw [if_neg c] at h
    replace h := bindI_inv h
    obtain ⟨r4, z3, h3, h⟩ := h
    obtain ⟨e1, e2⟩ := hJ.may hN hN5 ey (by omega) h3
    rw [e2, e1, hJ.cnt hN hN5 (by omega), bindP_some] at h
    exact Or.inr ⟨by omega, h⟩
theorem casesN_same {s s' : JS} {z z' : RS} {r1 r2 : Int32} (hJ : JR s z) (h1 : kX2_caseCount s = some (r1, s')) (h2 : r_casesNow z = some (r2, z')) : r1 = r2 ∧ s' = s ∧ z' = z := by
  obtain ⟨N, hN, hN5, hz⟩ := hJ.nn
  have a := k_casesN hN hN5 h1
  have b := r_casesN hJ hN hN5 hz h2
  exact ⟨(congrArg Prod.fst a).trans (congrArg Prod.fst b).symm, congrArg Prod.snd a, congrArg Prod.snd b⟩
theorem cases_same {y : YS} {x' : XS} {z z' : RS} {r1 r2 : Int32} (h : REL y z) (hK : InvK y.x.k) (hI : InvR z) (hB : Big z) (h1 : kX10_cases y.x = some (r1, x')) (h2 : r_cases z = some (r2, z')) : r1 = r2 ∧ True := by
  refine ⟨?_, trivial⟩
  unfold kX10_cases at h1
  unfold r_cases at h2
  replace h1 := bindI_inv h1
  obtain ⟨q1, s1, u1, h1⟩ := h1
  replace h1 := letS_inv h1
  obtain ⟨s3, _, h1⟩ := h1
  replace h2 := bindP_inv h2
  obtain ⟨z1, w1, h2⟩ := h2
  replace h2 := bindI_inv h2
  obtain ⟨q2, z2, w2, h2⟩ := h2
  obtain ⟨hJ, _⟩ := h.jr hK hI hB w1
  have e := casesN_same hJ u1 w2
  have e1 : q1 = r1 := congrArg Prod.fst (Option.some.inj h1)
  have e2 : q2 = r2 := congrArg Prod.fst (Option.some.inj h2)
  rw [← e1, ← e2]
  exact e.1
/-! chance -/
theorem k_oddsN {s s' : JS} {x2 r : Int32} {g N : Nat} (hN : (s.k.v 1).toInt = (N : Int)) (hN5 : N ≤ 5) (eg : x2.toInt = (g : Int)) (h : kX2_oddsOf s x2 = some (r, s')) : (r, s') = (fo (fun j x => x * OF s.k s.d j (tg g j)) 0 N (1 : Int32), s) := by
  unfold kX2_oddsOf at h
  refine loop_up (L := fun n x y => kX2_oddsOf_5L n s x2 x y) (R := fun x => (x, s)) (N := N) (by omega) (fun x y e => by cases e) ?_ fu 1 0 (by decide) h
  intro n x y j ey hj h
  replace h : kX2_oddsOf_5 (kX2_oddsOf_5L n) s x2 x y = some (r, s') := h
  unfold kX2_oddsOf_5 at h
  by_cases c : s.k.v 1 ≤ y
  · have c' := ti_le c
    rw [if_pos c] at h
    exact Or.inl ⟨by omega, (Option.some.inj h).symm⟩
  · have c' := ti_nle c
    rw [if_neg c] at h
    replace h := bindP_inv h
    obtain ⟨r2, h2, h⟩ := h
    have e2 := k_thing eg ey (by omega) h2
    rw [k_oim ey (by omega) e2 (tg_lt g j), bindI_some] at h
    exact Or.inr ⟨by omega, h⟩
theorem r_chanceN {s : JS} {z z' : RS} {x2 r : Int32} {g N : Nat} (hJ : JR s z) (hN : (s.k.v 1).toInt = (N : Int)) (hN5 : N ≤ 5) (hz : (z.f 20 (z.v 18).toNatClampNeg).toInt = (N : Int)) (eg : x2.toInt = (g : Int)) (h : r_chanceOf z x2 = some (r, z')) : (r, z') = (fo (fun j x => x * OF s.k s.d j (tg g j)) 0 N (1 : Int32), z) := by
  unfold r_chanceOf at h
  refine loop_up (L := fun n x y => r_chanceOf_4L n z x2 x y) (R := fun x => (x, z)) (N := N) (by omega) (fun x y e => by cases e) ?_ fu 1 0 (by decide) h
  intro n x y j ey hj h
  replace h : r_chanceOf_4 (r_chanceOf_4L n) z x2 x y = some (r, z') := h
  unfold r_chanceOf_4 r_chanceOf_47 at h
  replace h := guard_inv h
  obtain ⟨_, h⟩ := h
  by_cases c : z.f 20 (z.v 18).toNatClampNeg ≤ y
  · have c' := ti_le c
    rw [if_pos c] at h
    exact Or.inl ⟨by omega, (Option.some.inj h).symm⟩
  · have c' := ti_nle c
    rw [if_neg c] at h
    replace h := bindI_inv h
    obtain ⟨r4, z3, h3, h⟩ := h
    obtain ⟨e1, e2⟩ := r_thing hJ.1.2.1 eg ey (by omega) h3
    rw [e1] at h
    replace h := bindI_inv h
    obtain ⟨r6, z5, h5, h⟩ := h
    obtain ⟨e3, e4⟩ := hJ.maybe hN hN5 ey (by omega) h5
    rw [e3, e4] at h
    have ev := eq_ofnat e2
    refine Or.inr ⟨by omega, ?_⟩
    show r_chanceOf_4L n z x2 (x * OF s.k s.d j (tg g j)) (y + 1) = _
    unfold OF
    rw [← ev]
    by_cases d : (((MB s.k s.d j) >>> (r4 &&& 31)) &&& 1) = 1
    · rw [if_pos d, if_neg z_one] at h
      rw [if_pos d]
      replace h := bindI_inv h
      obtain ⟨r9, z8, h8, h⟩ := h
      obtain ⟨e5, e6⟩ := hJ.odds hN hN5 ey (by omega) e2 (tg_lt g j) h8
      rw [e5, e6] at h
      exact h
    · rw [if_neg d, if_pos rfl] at h
      rw [if_neg d]
      exact h
theorem odds_of_same {s s' : JS} {z z' : RS} {x r1 r2 : Int32} {g : Nat} (hJ : JR s z) (eg : x.toInt = (g : Int)) (h1 : kX2_oddsOf s x = some (r1, s')) (h2 : r_chanceOf z x = some (r2, z')) : r1 = r2 ∧ s' = s ∧ z' = z := by
  obtain ⟨N, hN, hN5, hz⟩ := hJ.nn
  have a := k_oddsN hN hN5 eg h1
  have b := r_chanceN hJ hN hN5 hz eg h2
  exact ⟨(congrArg Prod.fst a).trans (congrArg Prod.fst b).symm, congrArg Prod.snd a, congrArg Prod.snd b⟩
theorem chance_same {y : YS} {x' : XS} {z z' : RS} {x1 r1 r2 : Int32} (h : REL y z) (hK : InvK y.x.k) (hI : InvR z) (hB : Big z) (h1 : kX10_chance y.x x1 = some (r1, x')) (h2 : r_chance z x1 = some (r2, z')) : r1 = r2 ∧ True := by
  refine ⟨?_, trivial⟩
  unfold kX10_chance at h1
  unfold r_chance at h2
  rw [kg_eq, bindI_some] at h1
  rw [rg_eq hI hK h.1, bindI_some] at h2
  replace h1 := letS_inv h1
  obtain ⟨s3, c3, h1⟩ := h1
  have e3 : s3 = y.x := by rw [← c3]; rfl
  rw [e3] at h1
  by_cases hg : 0 ≤ x1.toInt ∧ x1.toInt < (y.x.k.v 3).toInt
  · rw [if_pos hg, if_neg z_one] at h1 h2
    replace h1 := bindI_inv h1
    obtain ⟨q1, s6, u6, h1⟩ := h1
    replace h1 := letS_inv h1
    obtain ⟨s8, _, h1⟩ := h1
    replace h2 := bindP_inv h2
    obtain ⟨z4, w4, h2⟩ := h2
    replace h2 := bindI_inv h2
    obtain ⟨q2, z5, w5, h2⟩ := h2
    obtain ⟨hJ, _⟩ := h.jr hK hI hB w4
    obtain ⟨g, eg⟩ : ∃ g : Nat, x1.toInt = (g : Int) := ⟨x1.toInt.toNat, by omega⟩
    have e := odds_of_same hJ eg u6 w5
    have e1 : q1 = r1 := congrArg Prod.fst (Option.some.inj h1)
    have e2 : q2 = r2 := congrArg Prod.fst (Option.some.inj h2)
    rw [← e1, ← e2]
    exact e.1
  · rw [if_neg hg, if_pos rfl] at h1 h2
    have e1 : -1 = r1 := congrArg Prod.fst (Option.some.inj h1)
    have e2 : -1 = r2 := congrArg Prod.fst (Option.some.inj h2)
    rw [← e1, ← e2]
end
section
/-! ===== all, share, enough, open, alike ===== -/
noncomputable def SM (k : KS) (d : SD) (w : Nat) : Int32 := fo (fun v a => a + OF k d w v) 0 6 (0 : Int32)
theorem k_sumL {k5 : JS → Int32 → Int32 → Int32 → Option (Int32 × JS)} {s : JS} {out : Int32 × JS} {x2 x3 x4 : Int32} {w : Nat} (e4 : x4.toInt = (w : Int)) (hw : w < 5) (h : kX2_oddsOfAll_29L k5 fu s x2 x3 x4 0 0 = some out) : k5 s x2 (x3 * SM s.k s.d w) (x4 + 1) = some out := by
  refine loop_q (L := fun n x y => kX2_oddsOfAll_29L k5 n s x2 x3 x4 x y) (G := fun v a => a + OF s.k s.d w v) (Q := fun x => k5 s x2 (x3 * x) (x4 + 1) = some out) (N := 6) (by omega) (fun x y e => by cases e) ?_ fu 0 0 0 (by decide) (by omega) h
  intro n x y j ey hj h
  replace h : kX2_oddsOfAll_29 k5 (kX2_oddsOfAll_29L k5 n) s x2 x3 x4 x y = some out := h
  unfold kX2_oddsOfAll_29 kX2_oddsOfAll_61 at h
  by_cases c : 6 ≤ y
  · have c' := tn_le (a := 6) (by decide) rfl c
    rw [if_pos c] at h
    exact Or.inl ⟨by omega, h⟩
  · have c' := tn_nle (a := 6) (by decide) rfl c
    rw [if_neg c, k_oim e4 hw ey (by omega), bindI_some] at h
    exact Or.inr ⟨by omega, h⟩
/-- all waves but one -/
noncomputable def butG (k : KS) (d : SD) (b : Int32) (j : Nat) (x : Int32) : Int32 := if Int32.ofNat j = b then x else x * SM k d j
theorem k_allN {s s' : JS} {x2 r : Int32} {N : Nat} (hN : (s.k.v 1).toInt = (N : Int)) (hN5 : N ≤ 5) (h : kX2_oddsOfAll s x2 = some (r, s')) : (r, s') = (fo (butG s.k s.d x2) 0 N (1 : Int32), s) := by
  unfold kX2_oddsOfAll at h
  refine loop_up (L := fun n x y => kX2_oddsOfAll_5L n s x2 x y) (R := fun x => (x, s)) (N := N) (by omega) (fun x y e => by cases e) ?_ fu 1 0 (by decide) h
  intro n x y j ey hj h
  replace h : kX2_oddsOfAll_5 (kX2_oddsOfAll_5L n) s x2 x y = some (r, s') := h
  unfold kX2_oddsOfAll_5 kX2_oddsOfAll_61 at h
  by_cases c : s.k.v 1 ≤ y
  · have c' := ti_le c
    rw [if_pos c] at h
    exact Or.inl ⟨by omega, (Option.some.inj h).symm⟩
  · have c' := ti_nle c
    rw [if_neg c] at h
    refine Or.inr ⟨by omega, ?_⟩
    show kX2_oddsOfAll_5L n s x2 (butG s.k s.d x2 j x) (y + 1) = _
    unfold butG
    have ej := eq_ofnat ey
    rw [← ej]
    by_cases d : y = x2
    · rw [if_pos d] at h
      rw [if_pos d]
      exact h
    · rw [if_neg d] at h
      rw [if_neg d]
      exact k_sumL ey (by omega) h
theorem r_sumN {s : JS} {z z' : RS} {y r : Int32} {j N : Nat} (hJ : JR s z) (hN : (s.k.v 1).toInt = (N : Int)) (hN5 : N ≤ 5) (ey : y.toInt = (j : Int)) (hj : j < N) (h : r_sumAt z y = some (r, z')) : z' = z ∧ r = SM s.k s.d j := by
  unfold r_sumAt at h
  have e : (r, z') = (SM s.k s.d j, z) := by
    refine loop_up (L := fun n x v => r_sumAt_4L n z y x v) (R := fun x => (x, z)) (N := 6) (by omega) (fun x y e => by cases e) ?_ fu 0 0 (by decide) h
    intro n x v i ev hi h
    replace h : r_sumAt_4 (r_sumAt_4L n) z y x v = some (r, z') := h
    unfold r_sumAt_4 r_sumAt_28 at h
    by_cases c : 6 ≤ v
    · have c' := tn_le (a := 6) (by decide) rfl c
      rw [if_pos c] at h
      exact Or.inl ⟨by omega, (Option.some.inj h).symm⟩
    · have c' := tn_nle (a := 6) (by decide) rfl c
      rw [if_neg c] at h
      replace h := bindI_inv h
      obtain ⟨r3, z2, h2, h⟩ := h
      obtain ⟨e1, e2⟩ := hJ.maybe hN hN5 ey hj h2
      rw [e1, e2] at h
      refine Or.inr ⟨by omega, ?_⟩
      show r_sumAt_4L n z y (x + OF s.k s.d j i) (v + 1) = _
      unfold OF
      rw [← eq_ofnat ev]
      by_cases d : (((MB s.k s.d j) >>> (v &&& 31)) &&& 1) = 1
      · rw [if_pos d, if_neg z_one] at h
        rw [if_pos d]
        replace h := bindI_inv h
        obtain ⟨r6, z5, h5, h⟩ := h
        obtain ⟨e5, e6⟩ := hJ.odds hN hN5 ey hj ev (by omega) h5
        rw [e5, e6] at h
        exact h
      · rw [if_neg d, if_pos rfl] at h
        rw [if_neg d, Int32.add_zero]
        exact h
  exact ⟨congrArg Prod.snd e, congrArg Prod.fst e⟩
theorem all_same {y : YS} {x' : XS} {z z' : RS} {r1 r2 : Int32} (h : REL y z) (hK : InvK y.x.k) (hI : InvR z) (hB : Big z) (h1 : kX10_all y.x = some (r1, x')) (h2 : r_all z = some (r2, z')) : r1 = r2 ∧ True := by
  refine ⟨?_, trivial⟩
  unfold kX10_all at h1
  unfold r_all at h2
  replace h1 := bindI_inv h1
  obtain ⟨q1, s1, u1, h1⟩ := h1
  replace h1 := letS_inv h1
  obtain ⟨s3, _, h1⟩ := h1
  have e1 : q1 = r1 := congrArg Prod.fst (Option.some.inj h1)
  replace h2 := bindP_inv h2
  obtain ⟨z1, w1, h2⟩ := h2
  obtain ⟨hJ, _⟩ := h.jr hK hI hB w1
  obtain ⟨N, hN, hN5, hz⟩ := hJ.nn
  have a := k_allN hN hN5 u1
  have b : (r2, z') = (fo (butG y.x.k y.x.n (-1)) 0 N (1 : Int32), z1) := by
    refine loop_up (L := fun n x v => r_all_8L n z1 x v) (R := fun x => (x, z1)) (N := N) (by omega) (fun x y e => by cases e) ?_ fu 1 0 (by decide) h2
    intro n x v i ev hi h
    replace h : r_all_8 (r_all_8L n) z1 x v = some (r2, z') := h
    unfold r_all_8 at h
    replace h := guard_inv h
    obtain ⟨_, h⟩ := h
    by_cases c : z1.f 20 (z1.v 18).toNatClampNeg ≤ v
    · have c' := ti_le c
      rw [if_pos c] at h
      exact Or.inl ⟨by omega, (Option.some.inj h).symm⟩
    · have c' := ti_nle c
      rw [if_neg c] at h
      replace h := bindI_inv h
      obtain ⟨r4, z3, h3, h⟩ := h
      obtain ⟨e3, e4⟩ := r_sumN hJ hN hN5 ev (by omega) h3
      rw [e3, e4] at h
      refine Or.inr ⟨by omega, ?_⟩
      show r_all_8L n z1 (butG y.x.k y.x.n (-1) i x) (v + 1) = _
      unfold butG
      rw [← eq_ofnat ev, if_neg (fun q => by
        have m1 : (-1 : Int32).toInt = -1 := by decide
        rw [q, m1] at ev
        omega)]
      exact h
  rw [← e1]
  exact (congrArg Prod.fst a).trans (congrArg Prod.fst b).symm
theorem fo_mul {k : KS} {d : SD} {b a : Int32} : ∀ (m j : Nat) (x : Int32), fo (butG k d b) j m (a * x) = a * fo (butG k d b) j m x := by
  intro m
  induction m with
  | zero => intro j x; rfl
  | succ m ih =>
    intro j x
    show fo (butG k d b) (j + 1) m (butG k d b j (a * x)) = a * fo (butG k d b) (j + 1) m (butG k d b j x)
    rw [← ih]
    have e : butG k d b j (a * x) = a * butG k d b j x := by
      unfold butG
      by_cases c : Int32.ofNat j = b
      · rw [if_pos c, if_pos c]
      · rw [if_neg c, if_neg c, Int32.mul_assoc]
    rw [e]
theorem r_shareN {s : JS} {z z' : RS} {x1 t0 r : Int32} {N : Nat} (hJ : JR s z) (hN : (s.k.v 1).toInt = (N : Int)) (hN5 : N ≤ 5) (hz : (z.f 20 (z.v 18).toNatClampNeg).toInt = (N : Int)) (h : r_share_40 z x1 t0 = some (r, z')) : r = t0 * fo (butG s.k s.d x1) 0 N (1 : Int32) := by
  unfold r_share_40 at h
  have b : (r, z') = (fo (butG s.k s.d x1) 0 N t0, z) := by
    refine loop_up (L := fun n x v => r_share_44L n z x1 x v) (R := fun x => (x, z)) (N := N) (by omega) (fun x y e => by cases e) ?_ fu t0 0 (by decide) h
    intro n x v i ev hi h
    replace h : r_share_44 (r_share_44L n) z x1 x v = some (r, z') := h
    unfold r_share_44 r_share_73 at h
    replace h := guard_inv h
    obtain ⟨_, h⟩ := h
    by_cases c : z.f 20 (z.v 18).toNatClampNeg ≤ v
    · have c' := ti_le c
      rw [if_pos c] at h
      exact Or.inl ⟨by omega, (Option.some.inj h).symm⟩
    · have c' := ti_nle c
      rw [if_neg c] at h
      refine Or.inr ⟨by omega, ?_⟩
      show r_share_44L n z x1 (butG s.k s.d x1 i x) (v + 1) = _
      unfold butG
      rw [← eq_ofnat ev]
      by_cases d : v = x1
      · rw [if_pos d] at h
        rw [if_pos d]
        exact h
      · rw [if_neg d] at h
        rw [if_neg d]
        replace h := bindI_inv h
        obtain ⟨r4, z3, h3, h⟩ := h
        obtain ⟨e3, e4⟩ := r_sumN hJ hN hN5 ev (by omega) h3
        rw [e3, e4] at h
        exact h
  have e : r = fo (butG s.k s.d x1) 0 N t0 := congrArg Prod.fst b
  have m := fo_mul (k := s.k) (d := s.d) (b := x1) (a := t0) N 0 1
  rw [Int32.mul_one] at m
  rw [e, m]
theorem share_same {y : YS} {x' : XS} {z z' : RS} {x1 x2 r1 r2 : Int32} (h : REL y z) (hK : InvK y.x.k) (hI : InvR z) (hB : Big z) (h1 : kX10_share y.x x1 x2 = some (r1, x')) (h2 : r_share z x1 x2 = some (r2, z')) : r1 = r2 ∧ True := by
  refine ⟨?_, trivial⟩
  have bw : 0 ≤ (y.x.k.v 1).toInt ∧ (y.x.k.v 1).toInt ≤ 5 := hK.1 1
  unfold kX10_share at h1
  unfold r_share at h2
  rw [kw_eq, bindI_some] at h1
  rw [rw_eq hI, bindI_some, ← h.1.1.1] at h2
  replace h1 := letS_inv h1
  obtain ⟨s3, c3, h1⟩ := h1
  have e3 : s3 = y.x := by rw [← c3]; rfl
  rw [e3] at h1
  by_cases hw : 0 ≤ x1.toInt ∧ x1.toInt < (y.x.k.v 1).toInt
  · rw [if_pos hw, if_neg z_one] at h1 h2
    by_cases ht : 0 ≤ x2.toInt ∧ x2.toInt ≤ 5
    · rw [kt_yes ht.1 ht.2, bindP_some, if_neg z_one] at h1
      rw [rt_yes ht.1 ht.2, bindP_some, if_neg z_one] at h2
      obtain ⟨w, ew⟩ : ∃ w : Nat, x1.toInt = (w : Int) := ⟨x1.toInt.toNat, by omega⟩
      obtain ⟨v, ev⟩ : ∃ v : Nat, x2.toInt = (v : Int) := ⟨x2.toInt.toNat, by omega⟩
      replace h2 := bindP_inv h2
      obtain ⟨z6, w6, h2⟩ := h2
      obtain ⟨hJ, _⟩ := h.jr hK hI hB w6
      obtain ⟨N, hN, hN5, hz⟩ := hJ.nn
      have hN : (y.x.k.v 1).toInt = (N : Int) := hN
      have hJ : JR (JS.mk y.x.k y.x.n) z6 := hJ
      rw [k_may (s := JS.mk y.x.k y.x.n) ew (by omega), bindI_some] at h1
      replace h1 := letS_inv h1
      obtain ⟨s10, c10, h1⟩ := h1
      have e10 : s10 = y.x := by rw [← c10]; rfl
      rw [e10, k_has, bindP_some] at h1
      replace h2 := bindI_inv h2
      obtain ⟨r8, z7, h7, h2⟩ := h2
      obtain ⟨e7, e8⟩ := hJ.maybe hN hN5 ew (by omega) h7
      rw [e7, e8] at h2
      by_cases d : (((MB y.x.k y.x.n w) >>> (x2 &&& 31)) &&& 1) = 1
      · have d' : (((MB (JS.mk y.x.k y.x.n).k (JS.mk y.x.k y.x.n).d w) >>> (x2 &&& 31)) &&& 1) = 1 := d
        rw [if_pos d', if_neg z_one] at h1 h2
        replace h2 := bindI_inv h2
        obtain ⟨r11, z10, w10, h2⟩ := h2
        obtain ⟨e11, e12⟩ := hJ.odds hN hN5 ew (by omega) ev (by omega) w10
        rw [e11, e12] at h2
        have b := r_shareN hJ hN hN5 hz h2
        rw [k_odds ew (by omega) ev (by omega), bindI_some] at h1
        replace h1 := letS_inv h1
        obtain ⟨s16, c16, h1⟩ := h1
        have e16 : s16 = y.x := by rw [← c16]; rfl
        rw [e16] at h1
        replace h1 := bindI_inv h1
        obtain ⟨r19, s18, u18, h1⟩ := h1
        replace h1 := letS_inv h1
        obtain ⟨s20, _, h1⟩ := h1
        have a := congrArg Prod.fst (k_allN (s := JS.mk y.x.k y.x.n) hN hN5 u18)
        have a : r19 = fo (butG y.x.k y.x.n x1) 0 N (1 : Int32) := a
        have e1 : y.x.k.f 3 (6 * w + v) * r19 = r1 := congrArg Prod.fst (Option.some.inj h1)
        rw [← e1, a]
        exact b.symm
      · have d' : ¬ (((MB (JS.mk y.x.k y.x.n).k (JS.mk y.x.k y.x.n).d w) >>> (x2 &&& 31)) &&& 1) = 1 := d
        rw [if_neg d', if_pos rfl] at h1 h2
        have b := r_shareN hJ hN hN5 hz h2
        rw [Int32.zero_mul] at b
        have e1 : 0 = r1 := congrArg Prod.fst (Option.some.inj h1)
        rw [← e1, b]
    · rw [kt_no ht, bindP_some, if_pos rfl] at h1
      rw [rt_no ht, bindP_some, if_pos rfl] at h2
      have e1 : -1 = r1 := congrArg Prod.fst (Option.some.inj h1)
      have e2 : -1 = r2 := congrArg Prod.fst (Option.some.inj h2)
      rw [← e1, ← e2]
  · rw [if_neg hw, if_pos rfl] at h1 h2
    have e1 : -1 = r1 := congrArg Prod.fst (Option.some.inj h1)
    have e2 : -1 = r2 := congrArg Prod.fst (Option.some.inj h2)
    rw [← e1, ← e2]
end
section
/-! ===== enough, open, alike ===== -/
theorem k_enoughN {s s' : JS} {r : Int32} {N : Nat} (hN : (s.k.v 1).toInt = (N : Int)) (hN5 : N ≤ 5) (h : kX2_goesAtMost s = some (r, s')) : (r, s') = (fo (fun j x => x + (bcount (MB s.k s.d j) - 1)) 0 N (1 : Int32), s) := by
  unfold kX2_goesAtMost at h
  refine loop_up (L := fun n x y => kX2_goesAtMost_4L n s x y) (R := fun x => (x, s)) (N := N) (by omega) (fun x y e => by cases e) ?_ fu 1 0 (by decide) h
  intro n x y j ey hj h
  replace h : kX2_goesAtMost_4 (kX2_goesAtMost_4L n) s x y = some (r, s') := h
  unfold kX2_goesAtMost_4 at h
  by_cases c : s.k.v 1 ≤ y
  · have c' := ti_le c
    rw [if_pos c] at h
    exact Or.inl ⟨by omega, (Option.some.inj h).symm⟩
  · have c' := ti_nle c
    rw [if_neg c, k_cnt ey (by omega), bindI_some] at h
    exact Or.inr ⟨by omega, h⟩
theorem r_enoughN {s : JS} {z z' : RS} {r : Int32} {N : Nat} (hJ : JR s z) (hN : (s.k.v 1).toInt = (N : Int)) (hN5 : N ≤ 5) (hz : (z.f 20 (z.v 18).toNatClampNeg).toInt = (N : Int)) (h : r_enough_18L fu z 1 0 = some (r, z')) : (r, z') = (fo (fun j x => x + (bcount (MB s.k s.d j) - 1)) 0 N (1 : Int32), z) := by
  refine loop_up (L := fun n x y => r_enough_18L n z x y) (R := fun x => (x, z)) (N := N) (by omega) (fun x y e => by cases e) ?_ fu 1 0 (by decide) h
  intro n x y j ey hj h
  replace h : r_enough_18 (r_enough_18L n) z x y = some (r, z') := h
  unfold r_enough_18 at h
  replace h := guard_inv h
  obtain ⟨_, h⟩ := h
  by_cases c : z.f 20 (z.v 18).toNatClampNeg ≤ y
  · have c' := ti_le c
    rw [if_pos c] at h
    exact Or.inl ⟨by omega, (Option.some.inj h).symm⟩
  · have c' := ti_nle c
    rw [if_neg c] at h
    replace h := bindI_inv h
    obtain ⟨r4, z3, h3, h⟩ := h
    obtain ⟨e1, e2⟩ := hJ.may hN hN5 ey (by omega) h3
    rw [e2, e1, hJ.cnt hN hN5 (by omega), bindP_some] at h
    exact Or.inr ⟨by omega, h⟩
theorem enough_same {y : YS} {x' : XS} {z z' : RS} {r1 r2 : Int32} (h : REL y z) (hK : InvK y.x.k) (hI : InvR z) (hB : Big z) (h1 : kX10_enough y.x = some (r1, x')) (h2 : r_enough z = some (r2, z')) : r1 = r2 ∧ True := by
  refine ⟨?_, trivial⟩
  unfold kX10_enough at h1
  unfold r_enough at h2
  replace h1 := bindI_inv h1
  obtain ⟨q1, s1, u1, h1⟩ := h1
  replace h1 := letS_inv h1
  obtain ⟨s3, c3, h1⟩ := h1
  replace h2 := bindP_inv h2
  obtain ⟨z1, w1, h2⟩ := h2
  replace h2 := bindI_inv h2
  obtain ⟨q2, z2, w2, h2⟩ := h2
  obtain ⟨hJ, _⟩ := h.jr hK hI hB w1
  obtain ⟨N, hN, hN5, hz⟩ := hJ.nn
  obtain ⟨e1, e2, e3⟩ := casesN_same hJ u1 w2
  have k3 : s3 = y.x := by rw [← c3, e2]; rfl
  rw [k3, e1] at h1
  rw [e3] at h2
  by_cases c : q2 = 0
  · rw [if_pos c] at h1 h2
    have f1 : -2 = r1 := congrArg Prod.fst (Option.some.inj h1)
    have f2 : -2 = r2 := congrArg Prod.fst (Option.some.inj h2)
    rw [← f1, ← f2]
  · rw [if_neg c] at h1 h2
    replace h1 := bindI_inv h1
    obtain ⟨q7, s6, u6, h1⟩ := h1
    replace h1 := letS_inv h1
    obtain ⟨s8, _, h1⟩ := h1
    have f1 : q7 = r1 := congrArg Prod.fst (Option.some.inj h1)
    have a := congrArg Prod.fst (k_enoughN (s := JS.mk y.x.k y.x.n) hN hN5 u6)
    have b := congrArg Prod.fst (r_enoughN hJ hN hN5 hz h2)
    rw [← f1]
    exact a.trans b.symm
/-! open -/
noncomputable def opG (k : KS) (d : SD) (j : Nat) (x : Int32) : Int32 := if bcount (MB k d j) ≤ 1 then x else x ||| ((1 : Int32) <<< ((Int32.ofNat j) &&& 31))
theorem k_openN {s s' : XS} {r : Int32} {N : Nat} (hN : (s.k.v 1).toInt = (N : Int)) (hN5 : N ≤ 5) (h : kX10_open s = some (r, s')) : (r, s') = (fo (opG s.k s.n) 0 N (0 : Int32), s) := by
  unfold kX10_open at h
  refine loop_up (L := fun n x y => kX10_open_4L n s x y) (R := fun x => (x, s)) (N := N) (by omega) (fun x y e => by cases e) ?_ fu 0 0 (by decide) h
  intro n x y j ey hj h
  replace h : kX10_open_4 (kX10_open_4L n) s x y = some (r, s') := h
  unfold kX10_open_4 kX10_open_40 at h
  by_cases c : s.k.v 1 ≤ y
  · have c' := ti_le c
    rw [if_pos c] at h
    exact Or.inl ⟨by omega, (Option.some.inj h).symm⟩
  · have c' := ti_nle c
    rw [if_neg c, k_may (s := JS.mk s.k s.n) ey (by omega), bindI_some] at h
    replace h := letS_inv h
    obtain ⟨s4, c4, h⟩ := h
    have e4 : s4 = s := by rw [← c4]; rfl
    rw [e4, k_bits_eq, bindP_some] at h
    refine Or.inr ⟨by omega, ?_⟩
    show kX10_open_4L n s (opG s.k s.n j x) (y + 1) = _
    unfold opG
    rw [← eq_ofnat ey]
    by_cases d : bcount (MB s.k s.n j) ≤ 1
    · have d' : bcount (MB (JS.mk s.k s.n).k (JS.mk s.k s.n).d j) ≤ 1 := d
      rw [if_pos d'] at h
      rw [if_pos d]
      exact h
    · have d' : ¬ bcount (MB (JS.mk s.k s.n).k (JS.mk s.k s.n).d j) ≤ 1 := d
      rw [if_neg d'] at h
      rw [if_neg d]
      exact h
theorem open_same {y : YS} {x' : XS} {z z' : RS} {r1 r2 : Int32} (h : REL y z) (hK : InvK y.x.k) (hI : InvR z) (hB : Big z) (h1 : kX10_open y.x = some (r1, x')) (h2 : r_open z = some (r2, z')) : r1 = r2 ∧ True := by
  refine ⟨?_, trivial⟩
  unfold r_open at h2
  replace h2 := bindP_inv h2
  obtain ⟨z1, w1, h2⟩ := h2
  obtain ⟨hJ, _⟩ := h.jr hK hI hB w1
  obtain ⟨N, hN, hN5, hz⟩ := hJ.nn
  have a := congrArg Prod.fst (k_openN hN hN5 h1)
  have b : (r2, z') = (fo (opG y.x.k y.x.n) 0 N (0 : Int32), z1) := by
    refine loop_up (L := fun n x v => r_open_8L n z1 x v) (R := fun x => (x, z1)) (N := N) (by omega) (fun x y e => by cases e) ?_ fu 0 0 (by decide) h2
    intro n x v i ev hi h
    replace h : r_open_8 (r_open_8L n) z1 x v = some (r2, z') := h
    unfold r_open_8 r_open_39 at h
    replace h := guard_inv h
    obtain ⟨_, h⟩ := h
    by_cases c : z1.f 20 (z1.v 18).toNatClampNeg ≤ v
    · have c' := ti_le c
      rw [if_pos c] at h
      exact Or.inl ⟨by omega, (Option.some.inj h).symm⟩
    · have c' := ti_nle c
      rw [if_neg c] at h
      replace h := bindI_inv h
      obtain ⟨r4, z3, h3, h⟩ := h
      obtain ⟨e1, e2⟩ := hJ.may hN hN5 ev (by omega) h3
      rw [e2, e1, hJ.cnt hN hN5 (by omega), bindP_some] at h
      refine Or.inr ⟨by omega, ?_⟩
      show r_open_8L n z1 (opG y.x.k y.x.n i x) (v + 1) = _
      unfold opG
      rw [← eq_ofnat ev]
      by_cases d : bcount (MB y.x.k y.x.n i) ≤ 1
      · have d' : bcount (MB (JS.mk y.x.k y.x.n).k (JS.mk y.x.k y.x.n).d i) ≤ 1 := d
        rw [if_pos d'] at h
        rw [if_pos d]
        exact h
      · have d' : ¬ bcount (MB (JS.mk y.x.k y.x.n).k (JS.mk y.x.k y.x.n).d i) ≤ 1 := d
        rw [if_neg d'] at h
        rw [if_neg d]
        exact h
  exact a.trans (congrArg Prod.fst b).symm
/-! alike -/
theorem alikeL {s s' : XS} {z z' : RS} {x1 x2 r1 r2 : Int32} {g o N : Nat} (hS : SO s.k z) (hN : (s.k.v 1).toInt = (N : Int)) (hN5 : N ≤ 5) (e1 : x1.toInt = (g : Int)) (e2 : x2.toInt = (o : Int)) : ∀ (n m : Nat) (y : Int32) (j : Nat), y.toInt = (j : Int) → j ≤ N → kX10_alike_26L n s x1 x2 y = some (r1, s') → r_alike_20L m z x1 x2 y = some (r2, z') → r1 = r2 := by
  intro n
  induction n with
  | zero => intro m y j _ _ h; exact none_ne h
  | succ n ih =>
    intro m y j ey hj h1 h2
    cases m with
    | zero => exact none_ne h2
    | succ m =>
    replace h1 : kX10_alike_26 (kX10_alike_26L n) s x1 x2 y = some (r1, s') := h1
    replace h2 : r_alike_20 (r_alike_20L m) z x1 x2 y = some (r2, z') := h2
    unfold kX10_alike_26 at h1
    unfold r_alike_20 at h2
    replace h2 := guard_inv h2
    obtain ⟨_, h2⟩ := h2
    rw [← hS.1.1] at h2
    by_cases c : s.k.v 1 ≤ y
    · rw [if_pos c] at h1 h2
      have f1 : y = r1 := congrArg Prod.fst (Option.some.inj h1)
      have f2 : y = r2 := congrArg Prod.fst (Option.some.inj h2)
      rw [← f1, ← f2]
    · have c' := ti_nle c
      rw [if_neg c] at h1 h2
      replace h1 := bindP_inv h1
      obtain ⟨a2, u2, h1⟩ := h1
      replace h1 := bindP_inv h1
      obtain ⟨a3, u3, h1⟩ := h1
      replace h2 := bindI_inv h2
      obtain ⟨b4, z3, w3, h2⟩ := h2
      obtain ⟨d1, d2⟩ := r_thing hS.2.1 e1 ey (by omega) w3
      rw [d1] at h2
      replace h2 := bindI_inv h2
      obtain ⟨b6, z5, w5, h2⟩ := h2
      obtain ⟨d3, d4⟩ := r_thing hS.2.1 e2 ey (by omega) w5
      rw [d3] at h2
      have d5 := k_thing e1 ey (by omega) u2
      have d6 := k_thing e2 ey (by omega) u3
      have q1 : a2 = b4 := Int32.toInt_inj.mp (d5.trans d2.symm)
      have q2 : a3 = b6 := Int32.toInt_inj.mp (d6.trans d4.symm)
      rw [q1, q2] at h1
      by_cases d : b4 = b6
      · rw [if_pos d] at h1 h2
        have ay : (y + 1).toInt = ((j + 1 : Nat) : Int) := by
          rw [tn_add ey (by decide : (1 : Int32).toInt = 1) (by omega) (by omega)]
          omega
        exact ih m (y + 1) (j + 1) ay (by omega) h1 h2
      · rw [if_neg d] at h1 h2
        have f1 : y = r1 := congrArg Prod.fst (Option.some.inj h1)
        have f2 : y = r2 := congrArg Prod.fst (Option.some.inj h2)
        rw [← f1, ← f2]
theorem alike_same {y : YS} {x' : XS} {z z' : RS} {x1 x2 r1 r2 : Int32} (h : REL y z) (hK : InvK y.x.k) (hI : InvR z) (hB : Big z) (h1 : kX10_alike y.x x1 x2 = some (r1, x')) (h2 : r_alike z x1 x2 = some (r2, z')) : r1 = r2 ∧ True := by
  refine ⟨?_, trivial⟩
  have bw : 0 ≤ (y.x.k.v 1).toInt ∧ (y.x.k.v 1).toInt ≤ 5 := hK.1 1
  unfold kX10_alike at h1
  unfold r_alike at h2
  rw [kg_eq, bindI_some] at h1
  rw [rg_eq hI hK h.1, bindI_some] at h2
  replace h1 := letS_inv h1
  obtain ⟨s3, c3, h1⟩ := h1
  have e3 : s3 = y.x := by rw [← c3]; rfl
  rw [e3] at h1
  by_cases hg : 0 ≤ x1.toInt ∧ x1.toInt < (y.x.k.v 3).toInt
  · rw [if_pos hg, if_neg z_one] at h1 h2
    rw [kg_eq, bindI_some] at h1
    rw [rg_eq hI hK h.1, bindI_some] at h2
    replace h1 := letS_inv h1
    obtain ⟨s8, c8, h1⟩ := h1
    have e8 : s8 = y.x := by rw [← c8]; rfl
    rw [e8] at h1
    by_cases ho : 0 ≤ x2.toInt ∧ x2.toInt < (y.x.k.v 3).toInt
    · rw [if_pos ho, if_neg z_one] at h1 h2
      obtain ⟨g, eg⟩ : ∃ g : Nat, x1.toInt = (g : Int) := ⟨x1.toInt.toNat, by omega⟩
      obtain ⟨o, eo⟩ : ∃ o : Nat, x2.toInt = (o : Int) := ⟨x2.toInt.toNat, by omega⟩
      obtain ⟨N, hN⟩ : ∃ N : Nat, (y.x.k.v 1).toInt = (N : Int) := ⟨(y.x.k.v 1).toInt.toNat, by omega⟩
      exact alikeL h.1 hN (by omega) eg eo fu fu 0 0 (by decide) (by omega) h1 h2
    · rw [if_neg ho, if_pos rfl] at h1 h2
      have f1 : -1 = r1 := congrArg Prod.fst (Option.some.inj h1)
      have f2 : -1 = r2 := congrArg Prod.fst (Option.some.inj h2)
      rw [← f1, ← f2]
  · rw [if_neg hg, if_pos rfl] at h1 h2
    have f1 : -1 = r1 := congrArg Prod.fst (Option.some.inj h1)
    have f2 : -1 = r2 := congrArg Prod.fst (Option.some.inj h2)
    rw [← f1, ← f2]
end
section
/-! ===== darers, dearest, sunk ===== -/
theorem fare_jr {s s' : JS} {z z' : RS} {x r1 r2 : Int32} {p : Nat} (hJ : JR s z) (e1 : x.toInt = (p : Int)) (hp : (p : Int) < (s.k.v 2).toInt) (h1 : kX0_fareOf s x = some (r1, s')) (h2 : r_faresOf z x = some (r2, z')) : JR s' z' := by
  have bp : 0 ≤ (s.k.v 2).toInt ∧ (s.k.v 2).toInt ≤ 6 := hJ.2.2.2.2.1.1 2
  obtain ⟨y, f, i, _⟩ := ok_kX0_fareOf s x hJ.2.2.2.2.1 (by omega) (by omega)
  rw [h1] at f
  cases f
  obtain ⟨u, g, j, _⟩ := ok_r_faresOf z x hJ.2.2.2.1 hJ.2.2.1 (by omega) (by omega)
  rw [h2] at g
  cases g
  exact (fare_same hJ e1 hp h1 h2).2.jr hJ i j
theorem dare_jr {s s' : JS} {z z' : RS} {x r1 r2 : Int32} {p : Nat} (hJ : JR s z) (e1 : x.toInt = (p : Int)) (hp : (p : Int) < (s.k.v 2).toInt) (h1 : kX0_isDaring s x = some (r1, s')) (h2 : r_doesDare z x = some (r2, z')) : JR s' z' := by
  have bp : 0 ≤ (s.k.v 2).toInt ∧ (s.k.v 2).toInt ≤ 6 := hJ.2.2.2.2.1.1 2
  obtain ⟨y, f, i, _⟩ := ok_kX0_isDaring s x hJ.2.2.2.2.1 (by omega) (by omega)
  rw [h1] at f
  cases f
  obtain ⟨u, g, j, _⟩ := ok_r_doesDare z x hJ.2.2.2.1 hJ.2.2.1 (by omega) (by omega)
  rw [h2] at g
  cases g
  exact (dare_same hJ e1 hp h1 h2).2.jr hJ i j
/-- while all parties are gone through -/
noncomputable def JH (s : XS) (z : RS) : Prop := JR (JS.mk s.k s.n) z ∧ SR s.n (z.f 43)
theorem JH.step {s : XS} {s4 : JS} {z z4 : RS} (h : JH s z) (kp : KeptJ (JS.mk s.k s.n) s4 z z4) (hJ : JR s4 z4) : JH (XS.mk s.g s.t s4.d s4.k) z4 := by
  refine ⟨hJ, ?_⟩
  show SR s4.d (z4.f 43)
  rw [kp.1, (kp.2.2.2 43 (by decide)).1]
  exact h.2
theorem REL.jh {y : YS} {z z1 : RS} (h : REL y z) (hK : InvK y.x.k) (hI : InvR z) (hB : Big z) (h1 : r_copies z = some z1) : JH y.x z1 := by
  obtain ⟨hJ, F⟩ := h.jr hK hI hB h1
  refine ⟨hJ, ?_⟩
  rw [(F.2 43 (by decide)).1]
  exact h.2.1.1
theorem darersL {r1 r2 : Int32} {s' : XS} {z' : RS} : ∀ (n m : Nat) (s : XS) (z : RS) (x y : Int32) (j : Nat), JH s z → y.toInt = (j : Int) → kX10_darers_4L n s x y = some (r1, s') → r_darers_8L m z x y = some (r2, z') → r1 = r2 := by
  intro n
  induction n with
  | zero => intro m s z x y j _ _ h; exact none_ne h
  | succ n ih =>
    intro m s z x y j hH ey h1 h2
    cases m with
    | zero => exact none_ne h2
    | succ m =>
    replace h1 : kX10_darers_4 (kX10_darers_4L n) s x y = some (r1, s') := h1
    replace h2 : r_darers_8 (r_darers_8L m) z x y = some (r2, z') := h2
    have bp : 0 ≤ (s.k.v 2).toInt ∧ (s.k.v 2).toInt ≤ 6 := hH.1.2.2.2.2.1.1 2
    have ep : s.k.v 2 = z.f 23 (z.v 18).toNatClampNeg := hH.1.1.1.2.1
    unfold kX10_darers_4 kX10_darers_48 at h1
    unfold r_darers_8 r_darers_43 at h2
    replace h2 := guard_inv h2
    obtain ⟨_, h2⟩ := h2
    rw [← ep] at h2
    by_cases c : s.k.v 2 ≤ y
    · rw [if_pos c] at h1 h2
      have f1 : x = r1 := congrArg Prod.fst (Option.some.inj h1)
      have f2 : x = r2 := congrArg Prod.fst (Option.some.inj h2)
      rw [← f1, ← f2]
    · have c' := ti_nle c
      rw [if_neg c] at h1 h2
      replace h1 := guard_inv h1
      obtain ⟨_, h1⟩ := h1
      have hs : s.n.f 3 j = z.f 43 (15 + j) := (hH.2.2.1 j (by omega)).1
      rw [rh_eq hH.1.2.2.2.1 ey (by rw [← ep]; omega), bindI_some, ← hs] at h2
      rw [clamp_of_int ey] at h1
      have ay : (y + 1).toInt = ((j + 1 : Nat) : Int) := by
        rw [tn_add ey (by decide : (1 : Int32).toInt = 1) (by omega) (by omega)]
        omega
      by_cases d : s.n.f 3 j = 0
      · rw [if_pos d] at h1
        rw [if_pos d, if_neg z_one] at h2
        replace h1 := bindI_inv h1
        obtain ⟨a5, s4, u4, h1⟩ := h1
        replace h1 := letS_inv h1
        obtain ⟨s6, c6, h1⟩ := h1
        replace h2 := bindI_inv h2
        obtain ⟨b7, z6, w6, h2⟩ := h2
        have hp : (j : Int) < ((JS.mk s.k s.n).k.v 2).toInt := show (j : Int) < (s.k.v 2).toInt by omega
        have q := dare_same hH.1 ey hp u4 w6
        have J := dare_jr hH.1 ey hp u4 w6
        have H : JH s6 z6 := by rw [← c6]; exact hH.step q.2 J
        rw [q.1] at h1
        by_cases e : b7 = 0
        · rw [if_pos e] at h1 h2
          exact ih m s6 z6 x (y + 1) (j + 1) H ay h1 h2
        · rw [if_neg e] at h1 h2
          exact ih m s6 z6 _ (y + 1) (j + 1) H ay h1 h2
      · rw [if_neg d] at h1
        rw [if_neg d, if_pos rfl] at h2
        exact ih m s z x (y + 1) (j + 1) hH ay h1 h2
theorem darers_same {y : YS} {x' : XS} {z z' : RS} {r1 r2 : Int32} (h : REL y z) (hK : InvK y.x.k) (hI : InvR z) (hB : Big z) (h1 : kX10_darers y.x = some (r1, x')) (h2 : r_darers z = some (r2, z')) : r1 = r2 ∧ True := by
  refine ⟨?_, trivial⟩
  unfold kX10_darers at h1
  unfold r_darers at h2
  replace h2 := bindP_inv h2
  obtain ⟨z1, w1, h2⟩ := h2
  exact darersL fu fu y.x z1 0 0 0 (h.jh hK hI hB w1) (by decide) h1 h2
/-! sunk -/
theorem sunkL {r1 r2 x1 : Int32} {s' : XS} {z' : RS} {g : Nat} (eg : x1.toInt = (g : Int)) : ∀ (n m : Nat) (s : XS) (z : RS) (x y : Int32) (j : Nat), JH s z → y.toInt = (j : Int) → kX10_sunk_17L n s x1 x y = some (r1, s') → r_sunk_18L m z x1 x y = some (r2, z') → r1 = r2 := by
  intro n
  induction n with
  | zero => intro m s z x y j _ _ h; exact none_ne h
  | succ n ih =>
    intro m s z x y j hH ey h1 h2
    cases m with
    | zero => exact none_ne h2
    | succ m =>
    replace h1 : kX10_sunk_17 (kX10_sunk_17L n) s x1 x y = some (r1, s') := h1
    replace h2 : r_sunk_18 (r_sunk_18L m) z x1 x y = some (r2, z') := h2
    have bp : 0 ≤ (s.k.v 2).toInt ∧ (s.k.v 2).toInt ≤ 6 := hH.1.2.2.2.2.1.1 2
    have ep : s.k.v 2 = z.f 23 (z.v 18).toNatClampNeg := hH.1.1.1.2.1
    unfold kX10_sunk_17 kX10_sunk_69 at h1
    unfold r_sunk_18 r_sunk_63 at h2
    replace h2 := guard_inv h2
    obtain ⟨_, h2⟩ := h2
    rw [← ep] at h2
    by_cases c : s.k.v 2 ≤ y
    · rw [if_pos c] at h1 h2
      have f1 : x = r1 := congrArg Prod.fst (Option.some.inj h1)
      have f2 : x = r2 := congrArg Prod.fst (Option.some.inj h2)
      rw [← f1, ← f2]
    · have c' := ti_nle c
      rw [if_neg c] at h1 h2
      replace h1 := guard_inv h1
      obtain ⟨_, h1⟩ := h1
      have hs : s.n.f 3 j = z.f 43 (15 + j) := (hH.2.2.1 j (by omega)).1
      rw [rh_eq hH.1.2.2.2.1 ey (by rw [← ep]; omega), bindI_some, ← hs] at h2
      rw [clamp_of_int ey] at h1
      have ay : (y + 1).toInt = ((j + 1 : Nat) : Int) := by
        rw [tn_add ey (by decide : (1 : Int32).toInt = 1) (by omega) (by omega)]
        omega
      by_cases d : s.n.f 3 j = 0
      · rw [if_pos d] at h1
        rw [if_pos d, if_neg z_one] at h2
        replace h1 := bindI_inv h1
        obtain ⟨a5, s4, u4, h1⟩ := h1
        replace h1 := letS_inv h1
        obtain ⟨s6, c6, h1⟩ := h1
        replace h2 := bindI_inv h2
        obtain ⟨b7, z6, w6, h2⟩ := h2
        have hp : (j : Int) < ((JS.mk s.k s.n).k.v 2).toInt := show (j : Int) < (s.k.v 2).toInt by omega
        obtain ⟨q1, q2, J⟩ := borne_same hH.1 ey hp eg u4 w6
        have H : JH s6 z6 := by rw [← c6]; exact hH.step q2 J
        replace h2 := guard_inv h2
        obtain ⟨_, h2⟩ := h2
        have e1 : s6.k.v 1 = z6.f 20 (z6.v 18).toNatClampNeg := H.1.1.1.1
        rw [← e1] at h2
        rw [q1] at h1
        by_cases e : s6.k.v 1 ≤ b7
        · rw [if_pos e] at h1 h2
          exact ih m s6 z6 x (y + 1) (j + 1) H ay h1 h2
        · rw [if_neg e] at h1 h2
          exact ih m s6 z6 _ (y + 1) (j + 1) H ay h1 h2
      · rw [if_neg d] at h1
        rw [if_neg d, if_pos rfl] at h2
        exact ih m s z x (y + 1) (j + 1) hH ay h1 h2
theorem sunk_same {y : YS} {x' : XS} {z z' : RS} {x1 r1 r2 : Int32} (h : REL y z) (hK : InvK y.x.k) (hI : InvR z) (hB : Big z) (h1 : kX10_sunk y.x x1 = some (r1, x')) (h2 : r_sunk z x1 = some (r2, z')) : r1 = r2 ∧ True := by
  refine ⟨?_, trivial⟩
  unfold kX10_sunk at h1
  unfold r_sunk at h2
  rw [kg_eq, bindI_some] at h1
  rw [rg_eq hI hK h.1, bindI_some] at h2
  replace h1 := letS_inv h1
  obtain ⟨s3, c3, h1⟩ := h1
  have e3 : s3 = y.x := by rw [← c3]; rfl
  rw [e3] at h1
  by_cases hg : 0 ≤ x1.toInt ∧ x1.toInt < (y.x.k.v 3).toInt
  · rw [if_pos hg, if_neg z_one] at h1 h2
    obtain ⟨g, eg⟩ : ∃ g : Nat, x1.toInt = (g : Int) := ⟨x1.toInt.toNat, by omega⟩
    replace h2 := bindP_inv h2
    obtain ⟨z4, w4, h2⟩ := h2
    exact sunkL eg fu fu y.x z4 0 0 0 (h.jh hK hI hB w4) (by decide) h1 h2
  · rw [if_neg hg, if_pos rfl] at h1 h2
    have f1 : -1 = r1 := congrArg Prod.fst (Option.some.inj h1)
    have f2 : -1 = r2 := congrArg Prod.fst (Option.some.inj h2)
    rw [← f1, ← f2]
/-! dearest -/
noncomputable def DI (s : XS) (z : RS) (x2 x3 : Int32) : Prop := (x2 = -2 ∧ x3 = -2) ∨ (∃ q : Nat, x2.toInt = (q : Int) ∧ (q : Int) < (s.k.v 2).toInt ∧ 0 ≤ x3.toInt ∧ ∃ a a' : JS, JR a z ∧ a.k.v 2 = s.k.v 2 ∧ kX0_fareOf a x2 = some (x3, a'))
theorem JR.on2 {a : JS} {z z' : RS} (h : JR a z) (G : FrR WSZ z z') (hI : InvR z') : JR a z' := KeptJ.jr (s := a) (s' := a) ⟨rfl, FrK.rfl, G⟩ h h.2.2.2.2.1 hI
theorem dearestL {r1 r2 x1 : Int32} {s' : XS} {z' : RS} : ∀ (n m : Nat) (s : XS) (z : RS) (x2 x3 y : Int32) (j : Nat), JH s z → DI s z x2 x3 → y.toInt = (j : Int) → kX10_dearest_20L n s x1 x2 x3 y = some (r1, s') → r_dearest_20L m z x1 x2 y = some (r2, z') → r1 = r2 := by
  intro n
  induction n with
  | zero => intro m s z x2 x3 y j _ _ _ h; exact none_ne h
  | succ n ih =>
    intro m s z x2 x3 y j hH hD ey h1 h2
    cases m with
    | zero => exact none_ne h2
    | succ m =>
    replace h1 : kX10_dearest_20 (kX10_dearest_20L n) s x1 x2 x3 y = some (r1, s') := h1
    replace h2 : r_dearest_20 (r_dearest_20L m) z x1 x2 y = some (r2, z') := h2
    have bp : 0 ≤ (s.k.v 2).toInt ∧ (s.k.v 2).toInt ≤ 6 := hH.1.2.2.2.2.1.1 2
    have ep : s.k.v 2 = z.f 23 (z.v 18).toNatClampNeg := hH.1.1.1.2.1
    have hIR : InvR z := hH.1.2.2.2.1
    have hBR : Big z := hH.1.2.2.1
    unfold kX10_dearest_20 kX10_dearest_59 at h1
    unfold r_dearest_20 r_dearest_50 r_dearest_52 at h2
    replace h2 := guard_inv h2
    obtain ⟨_, h2⟩ := h2
    rw [← ep] at h2
    by_cases c : s.k.v 2 ≤ y
    · rw [if_pos c] at h1 h2
      rcases hD with ⟨d1, d2⟩ | ⟨q, d1, d2, d3, a, a', d4, d5, d6⟩
      · rw [d1, d2] at h1
        rw [d1, if_pos (by decide)] at h2
        have f2 : -2 = r2 := congrArg Prod.fst (Option.some.inj h2)
        by_cases e : x1 = 0
        · rw [if_pos e] at h1
          have f1 : -2 = r1 := congrArg Prod.fst (Option.some.inj h1)
          rw [← f1, ← f2]
        · rw [if_neg e] at h1
          have f1 : -2 = r1 := congrArg Prod.fst (Option.some.inj h1)
          rw [← f1, ← f2]
      · have n0 : ¬ x2 < 0 := fun q => by
          have := tn_lt (b := 0) rfl (by decide) q
          omega
        rw [if_neg n0] at h2
        by_cases e : x1 = 0
        · rw [if_pos e] at h1 h2
          have f1 : x2 = r1 := congrArg Prod.fst (Option.some.inj h1)
          have f2 : x2 = r2 := congrArg Prod.fst (Option.some.inj h2)
          rw [← f1, ← f2]
        · rw [if_neg e] at h1 h2
          have f1 : x3 = r1 := congrArg Prod.fst (Option.some.inj h1)
          replace h2 := bindI_inv h2
          obtain ⟨b6, z5, w5, h2⟩ := h2
          have f2 : b6 = r2 := congrArg Prod.fst (Option.some.inj h2)
          have q1 := (fare_same d4 d1 (by rw [d5]; exact d2) d6 w5).1
          rw [← f1, ← f2, q1]
    · have c' := ti_nle c
      rw [if_neg c] at h1 h2
      have ay : (y + 1).toInt = ((j + 1 : Nat) : Int) := by
        rw [tn_add ey (by decide : (1 : Int32).toInt = 1) (by omega) (by omega)]
        omega
      replace h1 := bindI_inv h1
      obtain ⟨a4, s3, u3, h1⟩ := h1
      replace h1 := letS_inv h1
      obtain ⟨s5, c5, h1⟩ := h1
      have hp : (j : Int) < ((JS.mk s.k s.n).k.v 2).toInt := show (j : Int) < (s.k.v 2).toInt by omega
      obtain ⟨yk, fk, Ik, Fk, lo, _⟩ := ok_kX0_fareOf (JS.mk s.k s.n) y hH.1.2.2.2.2.1 (by omega) (by omega)
      rw [u3] at fk
      have ek : yk = (a4, s3) := (Option.some.inj fk).symm
      rw [ek] at Ik Fk lo
      have dn : s3.d = s.n := fr_kX0_fareOf s.n (JS.mk s.k s.n) y rfl (a4, s3) u3
      have kv2 : s5.k.v 2 = s.k.v 2 := by rw [← c5]; exact Fk.1 2 (by decide)
      have lo : 0 ≤ a4.toInt := lo
      rcases hD with ⟨d1, d2⟩ | ⟨q, d1, d2, d3, a, a', d4, d5, d6⟩
      · rw [d1, if_pos (by decide)] at h2
        rw [d2, if_neg (fun q => by
          have := tn_le (b := -2) rfl (by decide) q
          omega)] at h1
        have kp : KeptJ (JS.mk s.k s.n) s3 z z := ⟨dn, Fk, FrR.rfl⟩
        have H : JH s5 z := by rw [← c5]; exact hH.step kp (kp.jr hH.1 Ik hIR)
        refine ih m s5 z y a4 (y + 1) (j + 1) H (Or.inr ⟨j, ey, by rw [kv2]; omega, lo, JS.mk s.k s.n, s3, hH.1, kv2.symm, u3⟩) ay h1 h2
      · have n0 : ¬ x2 < 0 := fun q => by
          have := tn_lt (b := 0) rfl (by decide) q
          omega
        rw [if_neg n0] at h2
        replace h2 := bindI_inv h2
        obtain ⟨b9, z8, w8, h2⟩ := h2
        replace h2 := bindI_inv h2
        obtain ⟨b11, z10, w10, h2⟩ := h2
        have q1 := fare_same hH.1 ey hp u3 w8
        have J8 := fare_jr hH.1 ey hp u3 w8
        have a8 : JR a z8 := d4.on2 q1.2.2.2 J8.2.2.2.1
        have hq2 : (q : Int) < (a.k.v 2).toInt := by rw [d5]; exact d2
        have q2 := fare_same a8 d1 hq2 d6 w10
        obtain ⟨yr, fr, Ir, Fr, _⟩ := ok_r_faresOf z8 x2 J8.2.2.2.1 J8.2.2.1 (by omega) (by omega)
        rw [w10] at fr
        have er : yr = (b11, z10) := (Option.some.inj fr).symm
        rw [er] at Ir Fr
        have Ir : InvR z10 := Ir
        have Fr : FrR WSZ z8 z10 := Fr
        have J10 : JR s3 z10 := J8.on2 Fr Ir
        have kp : KeptJ (JS.mk s.k s.n) s3 z z10 := ⟨dn, Fk, q1.2.2.2.trans Fr (fun _ x => x)⟩
        have H : JH s5 z10 := by rw [← c5]; exact hH.step kp J10
        have a10 : JR a z10 := a8.on2 Fr Ir
        rw [← q1.1, ← q2.1] at h2
        by_cases e : a4 ≤ x3
        · rw [if_pos e] at h1 h2
          exact ih m s5 z10 x2 x3 (y + 1) (j + 1) H (Or.inr ⟨q, d1, by rw [kv2]; exact d2, d3, a, a', a10, by rw [kv2]; exact d5, d6⟩) ay h1 h2
        · rw [if_neg e] at h1 h2
          exact ih m s5 z10 y a4 (y + 1) (j + 1) H (Or.inr ⟨j, ey, by rw [kv2]; omega, lo, JS.mk s.k s.n, s3, hH.1.on2 (q1.2.2.2.trans Fr (fun _ x => x)) Ir, kv2.symm, u3⟩) ay h1 h2
theorem dearest_same {y : YS} {x' : XS} {z z' : RS} {x1 r1 r2 : Int32} (h : REL y z) (hK : InvK y.x.k) (hI : InvR z) (hB : Big z) (h1 : kX10_dearest y.x x1 = some (r1, x')) (h2 : r_dearest z x1 = some (r2, z')) : r1 = r2 ∧ True := by
  refine ⟨?_, trivial⟩
  unfold kX10_dearest kX10_dearest_11 at h1
  unfold r_dearest at h2
  by_cases hx : x1 = 0 ∨ x1 = 1
  · have e1 : kX10_dearest_20L fu y.x x1 (-2) (-2) 0 = some (r1, x') := by
      rcases hx with q | q
      · rw [if_pos q] at h1; exact h1
      · have n0 : ¬ x1 = 0 := by rw [q]; decide
        rw [if_neg n0, if_pos q] at h1; exact h1
    have e2 : r_in x1 0 1 = some 1 := by
      rcases hx with q | q
      · rw [q]; exact r_in_yes (by decide) (by decide)
      · rw [q]; exact r_in_yes (by decide) (by decide)
    rw [e2, bindP_some, if_neg z_one] at h2
    replace h2 := bindP_inv h2
    obtain ⟨z3, w3, h2⟩ := h2
    exact dearestL fu fu y.x z3 (-2) (-2) 0 0 (h.jh hK hI hB w3) (Or.inl ⟨rfl, rfl⟩) (by decide) e1 h2
  · have n0 : ¬ x1 = 0 := fun q => hx (Or.inl q)
    have n1 : ¬ x1 = 1 := fun q => hx (Or.inr q)
    rw [if_neg n0, if_neg n1] at h1
    have e2 : r_in x1 0 1 = some 0 := r_in_no (fun q => by
      have z0 : (0 : Int32).toInt = 0 := by decide
      have z1 : (1 : Int32).toInt = 1 := by decide
      have m0 := ne_toInt z0 n0
      have m1 := ne_toInt z1 n1
      omega)
    rw [e2, bindP_some, if_pos rfl] at h2
    have f1 : -1 = r1 := congrArg Prod.fst (Option.some.inj h1)
    have f2 : -1 = r2 := congrArg Prod.fst (Option.some.inj h2)
    rw [← f1, ← f2]
end
section
/-! ===== year, drawn, then ===== -/
/-- what seeds ask: the text, the standing's shifts, the seed that is drawn by -/
noncomputable def SI (k : KS) (d : SD) (z : RS) (sd : Int32) : Prop := SO k z ∧ InvR z ∧ InvK k ∧ Big z ∧ (∀ w, w < 5 → d.f 2 w = z.f 44 (10 + w)) ∧ z.v 45 = sd
theorem JR.si {s : JS} {z : RS} (h : JR s z) : SI s.k s.d z (s.k.v 4) := ⟨h.1, h.2.2.2.1, h.2.2.2.2.1, h.2.2.1, fun w hw => (h.2.1.1 w hw).2.2.2, by rw [h.2.2.2.2.2]; exact h.1.1.2.2.1.symm⟩
theorem SI.next {k : KS} {d : SD} {z : RS} {sd : Int32} (h : SI k d z sd) : SI k d (z.sv 45 ((z.v 45) + 1)) (sd + 1) := by
  obtain ⟨a, b, c, e, f, g⟩ := h
  have F : FrR [45] z (z.sv 45 ((z.v 45) + 1)) := FrR.rfl.sv (by decide)
  refine ⟨a.fr FrK.rfl F (W := []) (by decide) (by decide), b.svF (k := 45) rfl rfl, c, e.fr F (by decide), f, ?_⟩
  show (z.v 45) + 1 = sd + 1
  rw [g]
theorem guess_there {k : KS} {d : SD} {z z' : RS} {s' : JS} {sd r1 r2 : Int32} (h : SI k d z sd) (h1 : kX0_guessThere (JS.mk k d) sd = some (r1, s')) (h2 : r_thereNumber z = some (r2, z')) : r1 = r2 ∧ s' = JS.mk k d ∧ z' = z := by
  obtain ⟨hS, hI, hK, hB, hsh, h45⟩ := h
  have bw : 0 ≤ (k.v 1).toInt ∧ (k.v 1).toInt ≤ 5 := hK.1 1
  obtain ⟨n, hn⟩ : ∃ n : Nat, (k.v 1).toInt = (n : Int) := ⟨(k.v 1).toInt.toNat, by omega⟩
  have hwv : wv z = (n : Int) := by
    unfold wv
    rw [← hS.1.1]
    exact hn
  obtain ⟨e1, e2⟩ := r_number hI hB hS.2.1 hwv (by omega) h2
  unfold kX0_guessThere at h1
  have a1 : (((JS.mk k d).k.v 1) - 1).toInt = (n : Int) - 1 := by
    show ((k.v 1) - 1).toInt = _
    rw [tn_sub hn (by decide : (1 : Int32).toInt = 1) (by omega) (by omega)]
  obtain ⟨e3, e4⟩ := k_numberL hS hI hK hB hn hsh h45.symm fu 0 _ n (Nat.le_refl _) a1 (by rw [Nat.sub_self]; show (0 : Int32).toInt = ((0 : Nat) : Int); decide) h1
  exact ⟨Int32.toInt_inj.mp (e4.trans e2.symm), e3, e1⟩
theorem yearL {s s' : XS} {z' : RS} {x1 x2 r1 r2 : Int32} : ∀ (n m : Nat) (z : RS) (x3 y : Int32), SI s.k s.n z ((s.k.v 4) + y) → kX10_year_29L n s x1 x2 x3 y = some (r1, s') → r_year_29L m z x1 x2 x3 y = some (r2, z') → r1 = r2 := by
  intro n
  induction n with
  | zero => intro m z x3 y _ h; exact none_ne h
  | succ n ih =>
    intro m z x3 y hS h1 h2
    cases m with
    | zero => exact none_ne h2
    | succ m =>
    replace h1 : kX10_year_29 (kX10_year_29L n) s x1 x2 x3 y = some (r1, s') := h1
    replace h2 : r_year_29 (r_year_29L m) z x1 x2 x3 y = some (r2, z') := h2
    unfold kX10_year_29 kX10_year_63 at h1
    unfold r_year_29 r_year_46 at h2
    by_cases c : x2 ≤ y
    · rw [if_pos c] at h1 h2
      have f1 : x3 = r1 := congrArg Prod.fst (Option.some.inj h1)
      have f2 : x3 = r2 := congrArg Prod.fst (Option.some.inj h2)
      rw [← f1, ← f2]
    · rw [if_neg c] at h1 h2
      replace h1 := bindI_inv h1
      obtain ⟨a3, s2, u2, h1⟩ := h1
      replace h1 := letS_inv h1
      obtain ⟨s4, c4, h1⟩ := h1
      replace h2 := bindI_inv h2
      obtain ⟨b3, z2, w2, h2⟩ := h2
      obtain ⟨q1, q2, q3⟩ := guess_there hS u2 w2
      have e4 : s4 = s := by rw [← c4, q2]; rfl
      rw [e4, q1] at h1
      rw [q3] at h2
      have N := hS.next
      rw [Int32.add_assoc] at N
      by_cases d : b3 = x1
      · rw [if_pos d] at h1 h2
        exact ih m _ (x3 + 1) (y + 1) N h1 h2
      · rw [if_neg d] at h1 h2
        exact ih m _ x3 (y + 1) N h1 h2
theorem in_range {x a b : Int32} {A B : Int} (ha : a.toInt = A) (hb : b.toInt = B) : r_in x a b = some (if A ≤ x.toInt ∧ x.toInt ≤ B then 1 else 0) := by
  by_cases c : A ≤ x.toInt ∧ x.toInt ≤ B
  · rw [if_pos c]
    exact r_in_yes (by omega) (by omega)
  · rw [if_neg c]
    exact r_in_no (by rw [ha, hb]; exact c)
theorem year_same {y : YS} {x' : XS} {z z' : RS} {x1 x2 r1 r2 : Int32} (h : REL y z) (hK : InvK y.x.k) (hI : InvR z) (hB : Big z) (h1 : kX10_year y.x x1 x2 = some (r1, x')) (h2 : r_year z x1 x2 = some (r2, z')) : r1 = r2 ∧ True := by
  refine ⟨?_, trivial⟩
  unfold kX10_year at h1
  unfold r_year at h2
  rw [kg_eq, bindI_some] at h1
  rw [rg_eq hI hK h.1, bindI_some] at h2
  replace h1 := letS_inv h1
  obtain ⟨s3, c3, h1⟩ := h1
  have e3 : s3 = y.x := by rw [← c3]; rfl
  rw [e3] at h1
  by_cases hg : 0 ≤ x1.toInt ∧ x1.toInt < (y.x.k.v 3).toInt
  · rw [if_pos hg, if_neg z_one] at h1 h2
    rw [in_range (A := 1) (B := 20) (by decide) (by decide), bindP_some] at h2
    by_cases hx : 1 ≤ x2.toInt ∧ x2.toInt ≤ 20
    · rw [if_pos hx, if_neg z_one] at h2
      have n1 : ¬ x2 < 1 := fun q => by
        have := tn_lt (b := 1) rfl (by decide) q
        omega
      have n2 : x2 ≤ 20 := Int32.le_iff_toInt_le.mpr (by rw [show (20 : Int32).toInt = 20 from by decide]; omega)
      rw [if_neg n1, if_pos n2] at h1
      replace h2 := bindP_inv h2
      obtain ⟨z6, w6, h2⟩ := h2
      obtain ⟨hJ, _⟩ := h.jr hK hI hB w6
      have S : SI y.x.k y.x.n z6 ((y.x.k.v 4) + 0) := by rw [Int32.add_zero]; exact hJ.si
      exact yearL fu fu z6 0 0 S h1 h2
    · rw [if_neg hx, if_pos rfl] at h2
      have f2 : -1 = r2 := congrArg Prod.fst (Option.some.inj h2)
      have f1 : -1 = r1 := by
        by_cases n1 : x2 < 1
        · rw [if_pos n1] at h1
          exact congrArg Prod.fst (Option.some.inj h1)
        · have n1' := tn_nlt (b := 1) rfl (by decide) n1
          have n2 : ¬ x2 ≤ 20 := fun q => by
            have := tn_le (b := 20) rfl (by decide) q
            omega
          rw [if_neg n1, if_neg n2] at h1
          exact congrArg Prod.fst (Option.some.inj h1)
      rw [← f1, ← f2]
  · rw [if_neg hg, if_pos rfl] at h1 h2
    have f1 : -1 = r1 := congrArg Prod.fst (Option.some.inj h1)
    have f2 : -1 = r2 := congrArg Prod.fst (Option.some.inj h2)
    rw [← f1, ← f2]
/-! drawn -/
theorem drawnL {s s' : XS} {z' : RS} {x1 x2 r1 r2 : Int32} {w : Nat} (ew : x1.toInt = (w : Int)) (hw : (w : Int) < (s.k.v 1).toInt) : ∀ (n m : Nat) (z : RS) (x3 y : Int32), SI s.k s.n z ((s.k.v 4) + y) → 0 ≤ x3.toInt → x3.toInt ≤ 63 → kX10_drawn_29L n s x1 x2 x3 y = some (r1, s') → r_drawn_29L m z x1 x2 x3 y = some (r2, z') → r1 = r2 := by
  intro n
  induction n with
  | zero => intro m z x3 y _ _ _ h; exact none_ne h
  | succ n ih =>
    intro m z x3 y hS l0 l1 h1 h2
    cases m with
    | zero => exact none_ne h2
    | succ m =>
    replace h1 : kX10_drawn_29 (kX10_drawn_29L n) s x1 x2 x3 y = some (r1, s') := h1
    replace h2 : r_drawn_29 (r_drawn_29L m) z x1 x2 x3 y = some (r2, z') := h2
    have bw : 0 ≤ (s.k.v 1).toInt ∧ (s.k.v 1).toInt ≤ 5 := hS.2.2.1.1 1
    unfold kX10_drawn_29 at h1
    unfold r_drawn_29 at h2
    by_cases c : x2 ≤ y
    · rw [if_pos c] at h1 h2
      rw [k_bits_eq, bindP_some] at h1
      rw [r_bits_eq, bindP_some] at h2
      have f1 : bcount x3 = r1 := congrArg Prod.fst (Option.some.inj h1)
      have f2 : bsum x3 = r2 := congrArg Prod.fst (Option.some.inj h2)
      rw [← f1, ← f2]
      exact (bits_same l0 l1).1
    · rw [if_neg c] at h1 h2
      replace h1 := guard_inv h1
      obtain ⟨_, h1⟩ := h1
      replace h1 := bindI_inv h1
      obtain ⟨a5, s4, u4, h1⟩ := h1
      replace h1 := letS_inv h1
      obtain ⟨s6, c6, h1⟩ := h1
      replace h2 := bindI_inv h2
      obtain ⟨b4, z3, w3, h2⟩ := h2
      replace h2 := letS_inv h2
      obtain ⟨z5, c5, h2⟩ := h2
      rw [clamp_of_int ew] at u4
      obtain ⟨q1, q2, q3, v, hv, q4, _⟩ := there_same hS.2.2.2.1 hS.1 hS.2.1 hS.2.2.1 ew hw (hS.2.2.2.2.1 w (by omega)) hS.2.2.2.2.2.symm u4 w3
      have e6 : s6 = s := by rw [← c6, q2]; rfl
      rw [e6] at h1
      have N := hS.next
      rw [Int32.add_assoc] at N
      rw [q3] at c5
      rw [c5] at N
      rw [← q1] at h2
      have o := one_shl v hv
      rw [← q4] at o
      have b := or_small l0 l1 o.1 o.2
      exact ih m z5 _ (y + 1) N b.1 b.2 h1 h2
theorem drawn_same {y : YS} {x' : XS} {z z' : RS} {x1 x2 r1 r2 : Int32} (h : REL y z) (hK : InvK y.x.k) (hI : InvR z) (hB : Big z) (h1 : kX10_drawn y.x x1 x2 = some (r1, x')) (h2 : r_drawn z x1 x2 = some (r2, z')) : r1 = r2 ∧ True := by
  refine ⟨?_, trivial⟩
  have bw : 0 ≤ (y.x.k.v 1).toInt ∧ (y.x.k.v 1).toInt ≤ 5 := hK.1 1
  unfold kX10_drawn at h1
  unfold r_drawn at h2
  rw [kw_eq, bindI_some] at h1
  rw [rw_eq hI, bindI_some, ← h.1.1.1] at h2
  replace h1 := letS_inv h1
  obtain ⟨s3, c3, h1⟩ := h1
  have e3 : s3 = y.x := by rw [← c3]; rfl
  rw [e3] at h1
  by_cases hw : 0 ≤ x1.toInt ∧ x1.toInt < (y.x.k.v 1).toInt
  · rw [if_pos hw, if_neg z_one] at h1 h2
    rw [in_range (A := 1) (B := 20) (by decide) (by decide), bindP_some] at h2
    by_cases hx : 1 ≤ x2.toInt ∧ x2.toInt ≤ 20
    · rw [if_pos hx, if_neg z_one] at h2
      have n1 : ¬ x2 < 1 := fun q => by
        have := tn_lt (b := 1) rfl (by decide) q
        omega
      have n2 : x2 ≤ 20 := Int32.le_iff_toInt_le.mpr (by rw [show (20 : Int32).toInt = 20 from by decide]; omega)
      rw [if_neg n1, if_pos n2] at h1
      replace h2 := bindP_inv h2
      obtain ⟨z6, w6, h2⟩ := h2
      obtain ⟨hJ, _⟩ := h.jr hK hI hB w6
      have S : SI y.x.k y.x.n z6 ((y.x.k.v 4) + 0) := by rw [Int32.add_zero]; exact hJ.si
      obtain ⟨w, ew⟩ : ∃ w : Nat, x1.toInt = (w : Int) := ⟨x1.toInt.toNat, by omega⟩
      exact drawnL ew (by omega) fu fu z6 0 0 S (by decide) (by decide) h1 h2
    · rw [if_neg hx, if_pos rfl] at h2
      have f2 : -1 = r2 := congrArg Prod.fst (Option.some.inj h2)
      have f1 : -1 = r1 := by
        by_cases n1 : x2 < 1
        · rw [if_pos n1] at h1
          exact congrArg Prod.fst (Option.some.inj h1)
        · have n1' := tn_nlt (b := 1) rfl (by decide) n1
          have n2 : ¬ x2 ≤ 20 := fun q => by
            have := tn_le (b := 20) rfl (by decide) q
            omega
          rw [if_neg n1, if_neg n2] at h1
          exact congrArg Prod.fst (Option.some.inj h1)
      rw [← f1, ← f2]
  · rw [if_neg hw, if_pos rfl] at h1 h2
    have f1 : -1 = r1 := congrArg Prod.fst (Option.some.inj h1)
    have f2 : -1 = r2 := congrArg Prod.fst (Option.some.inj h2)
    rw [← f1, ← f2]
end
section
/-! ===== then ===== -/
theorem JR.q {k : KS} {d e : SD} {z : RS} (h : JR (JS.mk k e) z) (hq : SDq d e) : JR (JS.mk k d) z := ⟨h.1, h.2.1.q hq, h.2.2⟩
theorem there_now {s s' : JS} {z z' : RS} {x r1 r2 : Int32} {w : Nat} (hJ : JR s z) (ew : x.toInt = (w : Int)) (hw : (w : Int) < (s.k.v 1).toInt) (h1 : kX0_thereNow s x = some (r1, s')) (h2 : r_thereAt z x = some (r2, z')) : r1 = r2 := by
  have bw : 0 ≤ (s.k.v 1).toInt ∧ (s.k.v 1).toInt ≤ 5 := hJ.2.2.2.2.1.1 1
  unfold kX0_thereNow at h1
  replace h1 := guard_inv h1
  obtain ⟨_, h1⟩ := h1
  replace h1 := bindI_inv h1
  obtain ⟨a3, s2, u2, h1⟩ := h1
  replace h1 := letS_inv h1
  obtain ⟨s4, _, h1⟩ := h1
  have f1 : a3 = r1 := congrArg Prod.fst (Option.some.inj h1)
  rw [clamp_of_int ew] at u2
  have S := hJ.si
  have q := (there_same S.2.2.2.1 S.1 S.2.1 S.2.2.1 ew hw (S.2.2.2.2.1 w (by omega)) S.2.2.2.2.2.symm u2 h2).1
  rw [← f1]
  exact q
theorem long_eq {x : Int32} : r_isLong x = some (if 0 ≤ x.toInt ∧ x.toInt ≤ 40 then 1 else 0) := by
  unfold r_isLong
  rw [in_range (A := 0) (B := 40) (by decide) (by decide), bindP_some]
  by_cases c : 0 ≤ x.toInt ∧ x.toInt ≤ 40
  · rw [if_pos c]; exact if_pos (Or.inr rfl)
  · rw [if_neg c]; exact if_pos (Or.inl rfl)
theorem then_same {y : YS} {x' : XS} {z z' : RS} {x1 x2 x3 r1 r2 : Int32} (h : REL y z) (hK : InvK y.x.k) (hI : InvR z) (hB : Big z) (h1 : kX10_then y.x x1 x2 x3 = some (r1, x')) (h2 : r_then z x1 x2 x3 = some (r2, z')) : r1 = r2 ∧ True := by
  refine ⟨?_, trivial⟩
  have bw : 0 ≤ (y.x.k.v 1).toInt ∧ (y.x.k.v 1).toInt ≤ 5 := hK.1 1
  unfold kX10_then at h1
  unfold r_then at h2
  rw [kw_eq, bindI_some] at h1
  rw [rw_eq hI, bindI_some, ← h.1.1.1] at h2
  replace h1 := letS_inv h1
  obtain ⟨s3, c3, h1⟩ := h1
  have e3 : s3 = y.x := by rw [← c3]; rfl
  rw [e3] at h1
  by_cases hw : 0 ≤ x1.toInt ∧ x1.toInt < (y.x.k.v 1).toInt
  · rw [if_pos hw, if_neg z_one] at h1 h2
    rw [long_eq, bindP_some] at h2
    by_cases hx : 0 ≤ x2.toInt ∧ x2.toInt ≤ 40
    · rw [if_pos hx, if_neg z_one, in_range (A := 0) (B := 2) (by decide) (by decide), bindP_some] at h2
      have n1 : ¬ x2 < 0 := fun q => by
        have := tn_lt (b := 0) rfl (by decide) q
        omega
      have n2 : x2 ≤ 40 := Int32.le_iff_toInt_le.mpr (by rw [show (40 : Int32).toInt = 40 from by decide]; omega)
      rw [if_neg n1, if_pos n2] at h1
      replace h1 := bindP_inv h1
      obtain ⟨s8, u8, h1⟩ := h1
      replace h1 := letS_inv h1
      obtain ⟨s9, c9, h1⟩ := h1
      replace h1 := bindP_inv h1
      obtain ⟨s11, u11, h1⟩ := h1
      replace h1 := letS_inv h1
      obtain ⟨s12, c12, h1⟩ := h1
      obtain ⟨e8, q8⟩ := copyFrom_eq u8
      have q8 : SDq s8.d y.x.n := q8
      have k9 : JS.mk s9.k s9.t = JS.mk y.x.k s8.d := by rw [← c9]; rfl
      rw [k9] at u11
      have k12 : JS.mk s12.k s12.t = s11 := by rw [← c12]; rfl
      have t12 : s12.t = s11.d := by rw [← c12]; rfl
      obtain ⟨w, ew⟩ : ∃ w : Nat, x1.toInt = (w : Int) := ⟨x1.toInt.toNat, by omega⟩
      by_cases hx3 : 0 ≤ x3.toInt ∧ x3.toInt ≤ 2
      · rw [if_pos hx3, if_neg z_one] at h2
        replace h2 := bindP_inv h2
        obtain ⟨z8, w8, h2⟩ := h2
        replace h2 := bindP_inv h2
        obtain ⟨z9, w9, h2⟩ := h2
        obtain ⟨hJ, _⟩ := h.jr hK hI hB w8
        obtain ⟨Fk, _, J, _⟩ := years_same (hJ.q q8) (h.2.1.2.q hK q8) u11 w9
        have v1 : s11.k.v 1 = y.x.k.v 1 := Fk.1 1 (by decide)
        have hw2 : (w : Int) < (s11.k.v 1).toInt := by rw [v1]; omega
        have a10 : (10 + x1).toInt = ((10 + w : Nat) : Int) := by
          rw [tn_add (by decide : (10 : Int32).toInt = 10) ew (by omega) (by omega)]
          omega
        by_cases d0 : x3 = 0
        · rw [if_pos d0] at h1 h2
          rw [k12, k_may ew (by omega), bindI_some] at h1
          replace h1 := letS_inv h1
          obtain ⟨s17, _, h1⟩ := h1
          have f1 : MB s11.k s11.d w = r1 := congrArg Prod.fst (Option.some.inj h1)
          replace h2 := bindI_inv h2
          obtain ⟨b16, z15, w15, h2⟩ := h2
          have f2 : b16 = r2 := congrArg Prod.fst (Option.some.inj h2)
          have q := (may_same J.1 (J.2.1.at (by omega)) J.2.2.2.1 J.2.2.2.2.1 ew hw2 w15).2
          rw [← f1, ← f2, q]
        · rw [if_neg d0] at h1 h2
          by_cases d1 : x3 = 1
          · rw [if_pos d1] at h1 h2
            replace h1 := guard_inv h1
            obtain ⟨_, h1⟩ := h1
            replace h2 := guard_inv h2
            obtain ⟨_, h2⟩ := h2
            rw [t12, clamp_of_int ew] at h1
            rw [clamp_of_int a10] at h2
            have f1 : s11.d.f 2 w = r1 := congrArg Prod.fst (Option.some.inj h1)
            have f2 : z9.f 44 (10 + w) = r2 := congrArg Prod.fst (Option.some.inj h2)
            rw [← f1, ← f2]
            exact (J.2.1.1 w (by omega)).2.2.2
          · have m0 := ne_toInt (show (0 : Int32).toInt = 0 from by decide) d0
            have m1 := ne_toInt (show (1 : Int32).toInt = 1 from by decide) d1
            have d2 : x3 = 2 := Int32.toInt_inj.mp (by rw [show (2 : Int32).toInt = 2 from by decide]; omega)
            rw [if_neg d1] at h1 h2
            rw [if_pos d2, k12] at h1
            replace h1 := bindI_inv h1
            obtain ⟨a23, s22, u22, h1⟩ := h1
            replace h1 := letS_inv h1
            obtain ⟨s24, _, h1⟩ := h1
            have f1 : a23 = r1 := congrArg Prod.fst (Option.some.inj h1)
            replace h2 := bindI_inv h2
            obtain ⟨b13, z12, w12, h2⟩ := h2
            have f2 : b13 = r2 := congrArg Prod.fst (Option.some.inj h2)
            rw [← f1, ← f2]
            exact there_now J ew hw2 u22 w12
      · rw [if_neg hx3, if_pos rfl] at h2
        have f2 : -1 = r2 := congrArg Prod.fst (Option.some.inj h2)
        have n0 : ¬ x3 = 0 := fun q => hx3 (by rw [q]; decide)
        have n1 : ¬ x3 = 1 := fun q => hx3 (by rw [q]; decide)
        have n2 : ¬ x3 = 2 := fun q => hx3 (by rw [q]; decide)
        rw [if_neg n0, if_neg n1, if_neg n2] at h1
        have f1 : -1 = r1 := congrArg Prod.fst (Option.some.inj h1)
        rw [← f1, ← f2]
    · rw [if_neg hx, if_pos rfl] at h2
      have f2 : -1 = r2 := congrArg Prod.fst (Option.some.inj h2)
      have f1 : -1 = r1 := by
        by_cases n1 : x2 < 0
        · rw [if_pos n1] at h1
          exact congrArg Prod.fst (Option.some.inj h1)
        · have n1' := tn_nlt (b := 0) rfl (by decide) n1
          have n2 : ¬ x2 ≤ 40 := fun q => by
            have := tn_le (b := 40) rfl (by decide) q
            omega
          rw [if_neg n1, if_neg n2] at h1
          exact congrArg Prod.fst (Option.some.inj h1)
      rw [← f1, ← f2]
  · rw [if_neg hw, if_pos rfl] at h1 h2
    have f1 : -1 = r1 := congrArg Prod.fst (Option.some.inj h1)
    have f2 : -1 = r2 := congrArg Prod.fst (Option.some.inj h2)
    rw [← f1, ← f2]
end
section
/-! ===== the likeliest guess, the surest that bears a party ===== -/
/-- a bit of the things that are likely, but for buoys -/
theorem bit_or1 : ∀ v, v < 6 → ∀ j, j < 6 → ∀ a, a < 64 → ((Int32.ofNat a ||| ((1 : Int32) <<< ((Int32.ofNat j) &&& 31))) >>> ((Int32.ofNat v) &&& 31)) &&& 1 = 1 → (Int32.ofNat a >>> ((Int32.ofNat v) &&& 31)) &&& 1 = 1 ∨ j = v := by decide +kernel
theorem bit_or {x : Int32} {j v : Nat} (hx0 : 0 ≤ x.toInt) (hx : x.toInt ≤ 63) (hj : j < 6) (hv : v < 6) (h : ((x ||| ((1 : Int32) <<< ((Int32.ofNat j) &&& 31))) >>> ((Int32.ofNat v) &&& 31)) &&& 1 = 1) : (x >>> ((Int32.ofNat v) &&& 31)) &&& 1 = 1 ∨ j = v := by
  have ex : x = Int32.ofNat x.toInt.toNat := eq_ofnat (by omega)
  rw [ex] at h
  rw [ex]
  exact bit_or1 v hv j hj _ (by omega) h
theorem bit_one : ∀ u, u < 6 → ∀ v, v < 6 → (((1 : Int32) <<< ((Int32.ofNat u) &&& 31)) >>> ((Int32.ofNat v) &&& 31)) &&& 1 = 1 → u = v := by decide +kernel
theorem mays_bit {f : Nat → Int32} {b : Nat} {u : Int32} {v : Nat} (hv : v < 6) : ∀ j, j ≤ 6 → ((mays f b u j) >>> ((Int32.ofNat v) &&& 31)) &&& 1 = 1 → 0 < (f (b + v)).toInt := by
  intro j
  induction j with
  | zero =>
    intro _ h
    have q : ∀ v, v < 6 → ¬ ((0 : Int32) >>> ((Int32.ofNat v) &&& 31)) &&& 1 = 1 := by decide +kernel
    exact absurd h (q v hv)
  | succ j ih =>
    intro hj h
    replace h : ((if f (b + j) ≤ 0 then mays f b u j else if ((u >>> ((Int32.ofNat j) &&& 31)) &&& 1) = 0 then mays f b u j ||| ((1 : Int32) <<< ((Int32.ofNat j) &&& 31)) else mays f b u j) >>> ((Int32.ofNat v) &&& 31)) &&& 1 = 1 := h
    by_cases c : f (b + j) ≤ 0
    · rw [if_pos c] at h
      exact ih (by omega) h
    · have c' := tn_nle (b := 0) rfl (by decide) c
      rw [if_neg c] at h
      by_cases e : ((u >>> ((Int32.ofNat j) &&& 31)) &&& 1) = 0
      · rw [if_pos e] at h
        have s := mays_small (f := f) (b := b) (u := u) j (by omega)
        rcases bit_or s.1 s.2 (show j < 6 by omega) hv h with q | q
        · exact ih (by omega) q
        · subst q
          exact c'
      · rw [if_neg e] at h
        exact ih (by omega) h
/-- what may be there has odds -/
theorem MB_odds {k : KS} {d : SD} {z : RS} {w v : Nat} (hS : SO k z) (hR : SRw d (z.f 44) w) (hF : FO k d) (hw : (w : Int) < (k.v 1).toInt) (hv : v < 6) (h : ((MB k d w) >>> ((Int32.ofNat v) &&& 31)) &&& 1 = 1) : 0 < (k.f 3 (6 * w + v)).toInt := by
  obtain ⟨hf, hb, hb2⟩ := hR
  unfold MB at h
  rcases hf with ⟨f1, f2⟩ | ⟨f1, f2, f3⟩
  · rw [if_pos f1, (hS.2.2.2.2.1 w hw).2, hb, may_fold hb2.1 hb2.2 6 (by omega)] at h
    exact mays_bit hv 6 (by omega) h
  · have n1 : ¬ d.f 0 w = -1 := fun q => by
      rw [← f1, q] at f2
      exact absurd f2 (by decide)
    rw [if_neg n1] at h
    obtain ⟨u, eu⟩ : ∃ u : Nat, (d.f 0 w).toInt = (u : Int) := ⟨(d.f 0 w).toInt.toNat, by rw [f1]; omega⟩
    rw [eq_ofnat eu] at h
    have hu : u < 6 := by rw [f1] at eu; omega
    have := bit_one u hu v hv h
    subst this
    exact hF w u hw eu
/-- the best thing over a wave, so far: class (best, its odds) beside reference (best) -/
noncomputable def BIT (k : KS) (d : SD) (w v : Nat) : Prop := ((MB k d w) >>> ((Int32.ofNat v) &&& 31)) &&& 1 = 1
noncomputable def BR (k : KS) (d : SD) (w : Nat) (bc mo br : Int32) : Prop := (bc = -1 ∧ mo = 0 ∧ br = -2) ∨ (∃ b : Nat, b < 6 ∧ bc = Int32.ofNat b ∧ br = Int32.ofNat b ∧ mo = k.f 3 (6 * w + b) ∧ 0 < mo.toInt ∧ BIT k d w b)
theorem ofnat_nonneg : ∀ b, b < 6 → ¬ Int32.ofNat b < 0 ∧ (0 : Int32) ≤ Int32.ofNat b ∧ ¬ Int32.ofNat b = -1 := by decide +kernel
/-- does a thing bear a party: the class looks at its needs, the reference says it -/
theorem bear_need {s s' : JS} {z z' : RS} {x1 x2 x3 a b : Int32} {p w v : Nat} (hJ : JR s z) (e1 : x1.toInt = (p : Int)) (hp : (p : Int) < (s.k.v 2).toInt) (e2 : x2.toInt = (w : Int)) (hw : (w : Int) < (s.k.v 1).toInt) (e3 : x3.toInt = (v : Int)) (hv : v < 6) (h1 : kX0_needOf s x1 x2 x3 = some (a, s')) (h2 : r_doesBear z x1 x2 x3 = some (b, z')) : (b = if s.k.f 3 (6 * w + v) < a then 0 else 1) ∧ KeptJ s s' z z' ∧ JR s' z' := by
  have bw : 0 ≤ (s.k.v 1).toInt ∧ (s.k.v 1).toInt ≤ 5 := hJ.2.2.2.2.1.1 1
  have bp : 0 ≤ (s.k.v 2).toInt ∧ (s.k.v 2).toInt ≤ 6 := hJ.2.2.2.2.1.1 2
  obtain ⟨N, hN⟩ : ∃ N : Nat, (s.k.v 1).toInt = (N : Int) := ⟨(s.k.v 1).toInt.toNat, by omega⟩
  unfold r_doesBear at h2
  replace h2 := bindI_inv h2
  obtain ⟨o, z1, w1, h2⟩ := h2
  obtain ⟨e4, e5⟩ := hJ.odds hN (by omega) e2 (by omega) e3 hv w1
  rw [e4, e5] at h2
  replace h2 := bindI_inv h2
  obtain ⟨n, z3, w3, h2⟩ := h2
  have q := need_same (hJ.nr (by omega) (by omega)) e1 hp e2 hw e3 hv h1 w3
  have J := need_jr hJ e1 hp e2 hw e3 hv h1 w3
  rw [← q.1] at h2
  by_cases c : s.k.f 3 (6 * w + v) < a
  · rw [if_pos c] at h2
    rw [if_pos c]
    have f1 : 0 = b := congrArg Prod.fst (Option.some.inj h2)
    have f2 : z3 = z' := congrArg Prod.snd (Option.some.inj h2)
    rw [← f1, ← f2]
    exact ⟨rfl, q.2, J⟩
  · rw [if_neg c] at h2
    rw [if_neg c]
    have f1 : 1 = b := congrArg Prod.fst (Option.some.inj h2)
    have f2 : z3 = z' := congrArg Prod.snd (Option.some.inj h2)
    rw [← f1, ← f2]
    exact ⟨rfl, q.2, J⟩
/-- what the reference does with a wave's best thing -/
noncomputable def after (k4 : RS → Int32 → Int32 → Int32 → Option (Int32 × RS)) (z : RS) (x1 x2 x3 x4 : Int32) : Option (Int32 × RS) := if 0 ≤ x4 then (if vpb x3 6 then k4 z x1 (x2 + ((z.f 46 (Int32.toNatClampNeg x3)) * x4)) (x3 + 1) else none) else some ((-2), z)
theorem best_in {k4 : RS → Int32 → Int32 → Int32 → Option (Int32 × RS)} {out : Int32 × RS} {x1 x2 x3 r1 : Int32} {w : Nat} {s' : JS} {s0 : JS} {z0 : RS} (e3 : x3.toInt = (w : Int)) (hx1 : x1 = -1 ∨ ∃ p : Nat, x1.toInt = (p : Int) ∧ (p : Int) < (s0.k.v 2).toInt) (hw0 : (w : Int) < (s0.k.v 1).toInt) (hF : FO s0.k s0.d) : ∀ (n m : Nat) (s : JS) (z : RS) (bc mo br y : Int32) (j : Nat), JR s z → KeptJ s0 s z0 z → y.toInt = (j : Int) → j ≤ 6 → BR s0.k s0.d w bc mo br → kX2_bestThing_9L n s x1 x3 bc mo y = some (r1, s') → r_bestFor_24L k4 m z x1 x2 x3 br y = some out → ∃ z' bc' mo' br', KeptJ s0 s' z0 z' ∧ JR s' z' ∧ BR s0.k s0.d w bc' mo' br' ∧ r1 = bc' ∧ after k4 z' x1 x2 x3 br' = some out := by
  intro n
  induction n with
  | zero => intro m s z bc mo br y j _ _ _ _ _ h; exact none_ne h
  | succ n ih =>
    intro m s z bc mo br y j hJ kp ey hj hB h1 h2
    cases m with
    | zero => exact none_ne h2
    | succ m =>
    replace h1 : kX2_bestThing_9 (kX2_bestThing_9L n) s x1 x3 bc mo y = some (r1, s') := h1
    replace h2 : r_bestFor_24 k4 (r_bestFor_24L k4 m) z x1 x2 x3 br y = some out := h2
    have v1 : s.k.v 1 = s0.k.v 1 := kp.2.1.1 1 (by decide)
    have v2 : s.k.v 2 = s0.k.v 2 := kp.2.1.1 2 (by decide)
    have f3 : s.k.f 3 = s0.k.f 3 := (kp.2.1.2 3 (by decide)).1
    have bw : 0 ≤ (s.k.v 1).toInt ∧ (s.k.v 1).toInt ≤ 5 := hJ.2.2.2.2.1.1 1
    have bp : 0 ≤ (s.k.v 2).toInt ∧ (s.k.v 2).toInt ≤ 6 := hJ.2.2.2.2.1.1 2
    have hw : (w : Int) < (s.k.v 1).toInt := by rw [v1]; exact hw0
    obtain ⟨N, hN⟩ : ∃ N : Nat, (s.k.v 1).toInt = (N : Int) := ⟨(s.k.v 1).toInt.toNat, by omega⟩
    unfold kX2_bestThing_9 kX2_bestThing_55 kX2_bestThing_63 at h1
    unfold r_bestFor_24 r_bestFor_57 r_bestFor_79 r_bestFor_83 at h2
    by_cases c : 6 ≤ y
    · rw [if_pos c] at h1 h2
      have g1 : bc = r1 := congrArg Prod.fst (Option.some.inj h1)
      have g2 : s = s' := congrArg Prod.snd (Option.some.inj h1)
      rw [← g2]
      exact ⟨z, bc, mo, br, kp, hJ, hB, g1.symm, h2⟩
    · have c' := tn_nle (a := 6) (by decide) rfl c
      rw [if_neg c] at h1 h2
      have hv : j < 6 := by omega
      have ay : (y + 1).toInt = ((j + 1 : Nat) : Int) := by
        rw [tn_add ey (by decide : (1 : Int32).toInt = 1) (by omega) (by omega)]
        omega
      have ej : y = Int32.ofNat j := eq_ofnat ey
      rw [k_oim e3 (by omega) ey hv, bindI_some] at h1
      replace h2 := bindI_inv h2
      obtain ⟨b5, z4, w4, h2⟩ := h2
      obtain ⟨m1, m2⟩ := hJ.maybe hN (by omega) e3 (by omega) w4
      rw [m1, m2] at h2
      by_cases d : (((MB s.k s.d w) >>> (y &&& 31)) &&& 1) = 1
      · have d2 : (((MB s.k s.d w) >>> ((Int32.ofNat j) &&& 31)) &&& 1) = 1 := by rw [← ej]; exact d
        have d3 : BIT s0.k s0.d w j := by
          unfold BIT
          rw [← MB_cg (w := w) (kp.2.1.2 5 (by decide)).1 kp.1]
          exact d2
        have eo : OF s.k s.d w j = s0.k.f 3 (6 * w + j) := by
          unfold OF
          rw [if_pos d2, f3]
        have po : 0 < (s0.k.f 3 (6 * w + j)).toInt := by
          rw [← f3]
          have hFs : FO s.k s.d := by rw [kp.1]; exact hF.fr kp.2.1 (by decide)
          exact MB_odds hJ.1 (hJ.2.1.at (by omega)) hFs hw hv d2
        rw [eo] at h1
        rw [if_pos d, if_neg z_one] at h2
        -- the odds of this thing are taken, if it bears
        have tk : ∀ (t : JS) (u : RS), JR t u → KeptJ s0 t z0 u → ¬ s0.k.f 3 (6 * w + j) ≤ mo → kX2_bestThing_9L n t x1 x3 y (s0.k.f 3 (6 * w + j)) (y + 1) = some (r1, s') → (if br < 0 then r_bestFor_24L k4 m u x1 x2 x3 y (y + 1) else bindI (r_oddsAt u x3 y) fun r3 s2 => bindI (r_oddsAt s2 x3 br) fun r5 s4 => if r3 ≤ r5 then r_bestFor_24L k4 m s4 x1 x2 x3 br (y + 1) else r_bestFor_24L k4 m s4 x1 x2 x3 y (y + 1)) = some out → ∃ z' bc' mo' br', KeptJ s0 s' z0 z' ∧ JR s' z' ∧ BR s0.k s0.d w bc' mo' br' ∧ r1 = bc' ∧ after k4 z' x1 x2 x3 br' = some out := by
          intro t u Jt kt nm g1 g2
          have nb : BR s0.k s0.d w y (s0.k.f 3 (6 * w + j)) y := Or.inr ⟨j, hv, ej, ej, rfl, po, d3⟩
          rcases hB with ⟨b1, b2, b3⟩ | ⟨b, b0, b1, b2, b3, b4, b5⟩
          · rw [b3, if_pos (by decide)] at g2
            exact ih m t u y _ y (y + 1) (j + 1) Jt kt ay (by omega) nb g1 g2
          · rw [b2, if_neg (ofnat_nonneg b b0).1] at g2
            have tv1 : t.k.v 1 = s0.k.v 1 := kt.2.1.1 1 (by decide)
            have tf3 : t.k.f 3 = s0.k.f 3 := (kt.2.1.2 3 (by decide)).1
            have tN : (t.k.v 1).toInt = (N : Int) := by rw [tv1, ← v1]; exact hN
            replace g2 := bindI_inv g2
            obtain ⟨o3, u2, y2, g2⟩ := g2
            obtain ⟨p1, p2⟩ := Jt.odds tN (by omega) e3 (by omega) ey hv y2
            rw [p1] at g2
            replace g2 := bindI_inv g2
            obtain ⟨o5, u4, y4, g2⟩ := g2
            obtain ⟨p3, p4⟩ := Jt.odds tN (by omega) e3 (by omega) (ofnat_int (show b < 2147483648 by omega)) b0 y4
            rw [p3, p2, p4, tf3, ← b3, if_neg nm] at g2
            exact ih m t u y _ y (y + 1) (j + 1) Jt kt ay (by omega) nb g1 g2
        -- it is passed over
        have sk : ∀ (t : JS) (u : RS), JR t u → KeptJ s0 t z0 u → kX2_bestThing_9L n t x1 x3 bc mo (y + 1) = some (r1, s') → r_bestFor_24L k4 m u x1 x2 x3 br (y + 1) = some out → ∃ z' bc' mo' br', KeptJ s0 s' z0 z' ∧ JR s' z' ∧ BR s0.k s0.d w bc' mo' br' ∧ r1 = bc' ∧ after k4 z' x1 x2 x3 br' = some out := fun t u Jt kt g1 g2 => ih m t u bc mo br (y + 1) (j + 1) Jt kt ay (by omega) hB g1 g2
        -- its odds are no greater: whatever it bears, nothing changes
        have no : ∀ (t : JS) (u : RS), JR t u → KeptJ s0 t z0 u → s0.k.f 3 (6 * w + j) ≤ mo → kX2_bestThing_9L n t x1 x3 bc mo (y + 1) = some (r1, s') → (if br < 0 then r_bestFor_24L k4 m u x1 x2 x3 y (y + 1) else bindI (r_oddsAt u x3 y) fun r3 s2 => bindI (r_oddsAt s2 x3 br) fun r5 s4 => if r3 ≤ r5 then r_bestFor_24L k4 m s4 x1 x2 x3 br (y + 1) else r_bestFor_24L k4 m s4 x1 x2 x3 y (y + 1)) = some out → ∃ z' bc' mo' br', KeptJ s0 s' z0 z' ∧ JR s' z' ∧ BR s0.k s0.d w bc' mo' br' ∧ r1 = bc' ∧ after k4 z' x1 x2 x3 br' = some out := by
          intro t u Jt kt le g1 g2
          rcases id hB with ⟨b1, b2, b3⟩ | ⟨b, b0, b1, b2, b3, b4, b5⟩
          · have l := ti_le le
            rw [b2] at l
            have z0' : (0 : Int32).toInt = 0 := by decide
            omega
          · rw [b2, if_neg (ofnat_nonneg b b0).1] at g2
            have tv1 : t.k.v 1 = s0.k.v 1 := kt.2.1.1 1 (by decide)
            have tf3 : t.k.f 3 = s0.k.f 3 := (kt.2.1.2 3 (by decide)).1
            have tN : (t.k.v 1).toInt = (N : Int) := by rw [tv1, ← v1]; exact hN
            replace g2 := bindI_inv g2
            obtain ⟨o3, u2, y2, g2⟩ := g2
            obtain ⟨p1, p2⟩ := Jt.odds tN (by omega) e3 (by omega) ey hv y2
            rw [p1] at g2
            replace g2 := bindI_inv g2
            obtain ⟨o5, u4, y4, g2⟩ := g2
            obtain ⟨p3, p4⟩ := Jt.odds tN (by omega) e3 (by omega) (ofnat_int (show b < 2147483648 by omega)) b0 y4
            rw [p3, p2, p4, tf3, ← b3, if_pos le, ← b2] at g2
            exact sk t u Jt kt g1 g2
        by_cases le : s0.k.f 3 (6 * w + j) ≤ mo
        · rw [if_pos le] at h1
          rcases hx1 with q | ⟨p, ep, hp⟩
          · rw [if_pos q] at h2
            exact no s z hJ kp le h1 h2
          · have nq : ¬ x1 = -1 := fun q => by
              have m1 : (-1 : Int32).toInt = -1 := by decide
              rw [q, m1] at ep
              omega
            rw [if_neg nq] at h2
            replace h2 := bindI_inv h2
            obtain ⟨b9, z8, w8, h2⟩ := h2
            obtain ⟨yr, fr, Ir, Fr, _⟩ := ok_r_doesBear z x1 x3 y hJ.2.2.2.1 hJ.2.2.1 (by omega) (by rw [ep]; rw [← v2] at hp; omega) (by omega) (by omega) (by omega) (by omega)
            rw [w8] at fr
            have er : yr = (b9, z8) := (Option.some.inj fr).symm
            rw [er] at Ir Fr
            have Ir : InvR z8 := Ir
            have Fr : FrR WSZ z z8 := Fr
            have J8 := hJ.on2 Fr Ir
            have k8 : KeptJ s0 s z0 z8 := ⟨kp.1, kp.2.1, kp.2.2.trans Fr (fun _ x => x)⟩
            by_cases e : b9 = 0
            · rw [if_pos e] at h2
              exact sk s z8 J8 k8 h1 h2
            · rw [if_neg e] at h2
              exact no s z8 J8 k8 le h1 h2
        · rw [if_neg le] at h1
          rcases hx1 with q | ⟨p, ep, hp⟩
          · rw [if_pos q] at h1 h2
            exact tk s z hJ kp le h1 h2
          · have nq : ¬ x1 = -1 := fun q => by
              have m1 : (-1 : Int32).toInt = -1 := by decide
              rw [q, m1] at ep
              omega
            rw [if_neg nq] at h1 h2
            replace h1 := bindI_inv h1
            obtain ⟨a7, s6, u6, h1⟩ := h1
            replace h2 := bindI_inv h2
            obtain ⟨b9, z8, w8, h2⟩ := h2
            obtain ⟨q1, q2, J8⟩ := bear_need hJ ep (by rw [v2]; exact hp) e3 hw ey hv u6 w8
            rw [f3] at q1
            have k8 : KeptJ s0 s6 z0 z8 := kp.trans q2
            by_cases e : s0.k.f 3 (6 * w + j) < a7
            · rw [if_pos e] at h1 q1
              rw [q1, if_pos rfl] at h2
              exact sk s6 z8 J8 k8 h1 h2
            · rw [if_neg e] at h1 q1
              rw [q1, if_neg z_one] at h2
              exact tk s6 z8 J8 k8 le h1 h2
      · have d2 : ¬ (((MB s.k s.d w) >>> ((Int32.ofNat j) &&& 31)) &&& 1) = 1 := by rw [← ej]; exact d
        have eo : OF s.k s.d w j = 0 := by
          unfold OF
          rw [if_neg d2]
        have le : (0 : Int32) ≤ mo := by
          rcases hB with ⟨_, b2, _⟩ | ⟨b, _, _, _, _, b4, _⟩
          · rw [b2]; decide
          · exact Int32.le_iff_toInt_le.mpr (by rw [show (0 : Int32).toInt = 0 from by decide]; omega)
        rw [eo, if_pos le] at h1
        rw [if_neg d, if_pos rfl] at h2
        exact ih m s z bc mo br (y + 1) (j + 1) hJ kp ay (by omega) hB h1 h2
end
section
/-! ===== the best guess ===== -/
/-- how a state of the class hangs on the one at first -/
noncomputable def KC (s0 s : JS) : Prop := s.d = s0.d ∧ FrK WSK s0.k s.k ∧ InvK s.k
theorem KC.jr {s0 s : JS} {z0 z : RS} (h : KC s0 s) (hJ : JR s0 z0) (G : FrR WSZ z0 z) (hI : InvR z) : JR s z := KeptJ.jr (s := s0) (s' := s) ⟨h.1, h.2.1, G⟩ hJ h.2.2 hI
theorem bt_next {s0 s s' : JS} {x1 x3 r : Int32} {w : Nat} (h : KC s0 s) (hx1 : -1 ≤ x1.toInt ∧ x1.toInt ≤ 5) (e3 : x3.toInt = (w : Int)) (hw : w < 5) (h1 : kX2_bestThing s x1 x3 = some (r, s')) : KC s0 s' ∧ -1 ≤ r.toInt ∧ r.toInt ≤ 5 := by
  obtain ⟨y, f, I, F, l0, l1⟩ := ok_kX2_bestThing s x1 x3 h.2.2 hx1.1 hx1.2 (by omega) (by omega)
  rw [h1] at f
  have e : y = (r, s') := (Option.some.inj f).symm
  rw [e] at I F l0 l1
  have d := fr_kX2_bestThing s.d s x1 x3 rfl (r, s') h1
  exact ⟨⟨d.trans h.1, h.2.1.trans F (fun _ q => q), I⟩, l0, l1⟩
/-- the class's walk, from the last wave down -/
theorem bg_inv {s0 s' : JS} {x1 r : Int32} (hx1 : -1 ≤ x1.toInt ∧ x1.toInt ≤ 5) : ∀ (m : Nat) (s : JS) (x3 x4 : Int32) (j H : Nat), KC s0 s → j ≤ 5 → x4.toInt = (j : Int) - 1 → x3.toInt = (H : Int) → (H + 1) * 6 ^ j ≤ 7776 → kX2_bestGuess_13L m s x1 x3 x4 = some (r, s') → KC s0 s' ∧ ((r = -2 ∧ ∃ w, w < j ∧ ∃ sa sa', KC s0 sa ∧ kX2_bestThing sa x1 (Int32.ofNat w) = some (-1, sa')) ∨ (∃ D : Nat → Nat, (∀ w, w < j → D w < 6 ∧ ∃ sa sa', KC s0 sa ∧ kX2_bestThing sa x1 (Int32.ofNat w) = some (Int32.ofNat (D w), sa')) ∧ r.toInt = ((H * 6 ^ j + dsum D j : Nat) : Int))) := by
  intro m
  induction m with
  | zero => intro s x3 x4 j H _ _ _ _ _ h; exact none_ne h
  | succ m ih =>
    intro s x3 x4 j H hC hj e4 e3 hb h
    replace h : kX2_bestGuess_13 (kX2_bestGuess_13L m) s x1 x3 x4 = some (r, s') := h
    unfold kX2_bestGuess_13 at h
    by_cases c : x4 < 0
    · have c' := tn_lt (b := 0) rfl (by decide) c
      have ej : j = 0 := by omega
      subst ej
      rw [if_pos c] at h
      have g1 : x3 = r := congrArg Prod.fst (Option.some.inj h)
      have g2 : s = s' := congrArg Prod.snd (Option.some.inj h)
      rw [← g2]
      refine ⟨hC, Or.inr ⟨fun _ => 0, fun w hw => by omega, ?_⟩⟩
      rw [← g1, e3]
      show (H : Int) = ((H * 1 + 0 : Nat) : Int)
      omega
    · have c' := tn_nlt (b := 0) rfl (by decide) c
      rw [if_neg c] at h
      obtain ⟨i, rfl⟩ : ∃ i, j = i + 1 := ⟨j - 1, by omega⟩
      have e4 : x4.toInt = (i : Int) := by omega
      have p6 : 6 ^ (i + 1) = 6 ^ i * 6 := Nat.pow_succ _ _
      have pp : 0 < 6 ^ i := Nat.pow_pos (by omega)
      have hH : H ≤ 7775 := by
        have : (H + 1) * 1 ≤ (H + 1) * 6 ^ (i + 1) := Nat.mul_le_mul_left _ (by rw [p6]; omega)
        omega
      replace h := bindI_inv h
      obtain ⟨a3, s2, u2, h⟩ := h
      obtain ⟨C2, l0, l1⟩ := bt_next hC hx1 e4 (by omega) u2
      have e4' : x4 = Int32.ofNat i := eq_ofnat e4
      by_cases d : a3 = -1
      · rw [if_pos d] at h
        have g1 : -2 = r := congrArg Prod.fst (Option.some.inj h)
        have g2 : s2 = s' := congrArg Prod.snd (Option.some.inj h)
        rw [← g2]
        refine ⟨C2, Or.inl ⟨g1.symm, i, by omega, s, s2, hC, ?_⟩⟩
        rw [← e4', u2, d]
      · rw [if_neg d] at h
        have m1 := ne_toInt (show (-1 : Int32).toInt = -1 from by decide) d
        obtain ⟨b, eb⟩ : ∃ b : Nat, a3.toInt = (b : Int) := ⟨a3.toInt.toNat, by omega⟩
        have hb6 : b < 6 := by omega
        have x6 : (x3 * 6).toInt = x3.toInt * 6 := ti_mulc (c := 6) (by decide) (by omega) (by omega)
        have x7 : ((x3 * 6) + a3).toInt = ((H * 6 + b : Nat) : Int) := by
          rw [ti_add (by omega) (by omega)]
          omega
        have x8 : (x4 + (-1)).toInt = (i : Int) - 1 := by
          rw [tn_add e4 (by decide : (-1 : Int32).toInt = -1) (by omega) (by omega)]
          omega
        generalize x4 + (-1) = Y4 at h x8
        generalize (x3 * 6) + a3 = Y3 at h x7
        clear x6
        have hb2 : (H * 6 + b + 1) * 6 ^ i ≤ 7776 := by
          have q1 : (H * 6 + b + 1) * 6 ^ i ≤ ((H + 1) * 6) * 6 ^ i := Nat.mul_le_mul_right _ (by omega)
          have q2 : ((H + 1) * 6) * 6 ^ i = (H + 1) * 6 ^ (i + 1) := by rw [p6, Nat.mul_assoc, Nat.mul_comm 6 (6 ^ i)]
          omega
        obtain ⟨C', r'⟩ := ih s2 _ _ i (H * 6 + b) C2 (by omega) x8 x7 hb2 h
        refine ⟨C', ?_⟩
        rcases r' with ⟨q1, w, q2, q3⟩ | ⟨D, q1, q2⟩
        · exact Or.inl ⟨q1, w, by omega, q3⟩
        · refine Or.inr ⟨fun w => if w = i then b else D w, fun w hw => ?_, ?_⟩
          · dsimp only
            by_cases e : w = i
            · rw [if_pos e, e]
              refine ⟨hb6, s, s2, hC, ?_⟩
              rw [← e4', u2, eq_ofnat eb]
            · rw [if_neg e]
              exact q1 w (by omega)
          · have ds : ∀ n, n ≤ i → dsum (fun w => if w = i then b else D w) n = dsum D n := by
              intro n
              induction n with
              | zero => intro _; rfl
              | succ n ihn =>
                intro hn
                show dsum (fun w => if w = i then b else D w) n + 6 ^ n * (if n = i then b else D n) = dsum D n + 6 ^ n * D n
                rw [ihn (by omega), if_neg (by omega)]
            have dd : dsum (fun w => if w = i then b else D w) (i + 1) = dsum D i + 6 ^ i * b := by
              show dsum (fun w => if w = i then b else D w) i + 6 ^ i * (if i = i then b else D i) = _
              rw [ds i (Nat.le_refl _), if_pos rfl]
            rw [q2, dd, p6]
            have e1 : (H * 6 + b) * 6 ^ i = H * (6 ^ i * 6) + 6 ^ i * b := by
              rw [Nat.add_mul, Nat.mul_assoc, Nat.mul_comm 6 (6 ^ i), Nat.mul_comm b (6 ^ i)]
            rw [e1]
            omega
theorem k_best_total {s0 : JS} {x1 : Int32} (h : InvK s0.k) (hx1 : -1 ≤ x1.toInt ∧ x1.toInt ≤ 5) (w : Nat) (hw : w < 5) : ∃ r sa', kX2_bestThing s0 x1 (Int32.ofNat w) = some (r, sa') := by
  have e := ofnat_int (show w < 2147483648 by omega)
  obtain ⟨y, f, _⟩ := ok_kX2_bestThing s0 x1 (Int32.ofNat w) h hx1.1 hx1.2 (by omega) (by omega)
  exact ⟨y.1, y.2, f⟩
/-- a wave of the reference beside one of the class -/
theorem wave_pair {k4 : RS → Int32 → Int32 → Int32 → Option (Int32 × RS)} {out : Int32 × RS} {s0 sa sa' : JS} {z0 z : RS} {x1 x2 x3 ra : Int32} {w : Nat} (hJ0 : JR s0 z0) (hF : FO s0.k s0.d) (hx1 : x1 = -1 ∨ ∃ p : Nat, x1.toInt = (p : Int) ∧ (p : Int) < (s0.k.v 2).toInt) (e3 : x3.toInt = (w : Int)) (hw : (w : Int) < (s0.k.v 1).toInt) (C : KC s0 sa) (G : FrR WSZ z0 z) (hI : InvR z) (h1 : kX2_bestThing sa x1 (Int32.ofNat w) = some (ra, sa')) (h2 : r_bestFor_24L k4 fu z x1 x2 x3 (-2) 0 = some out) : ∃ z', FrR WSZ z0 z' ∧ InvR z' ∧ ((ra = -1 ∧ out = (-2, z')) ∨ (∃ b : Nat, b < 6 ∧ ra = Int32.ofNat b ∧ BIT s0.k s0.d w b ∧ k4 z' x1 (x2 + ((z'.f 46 w) * Int32.ofNat b)) (x3 + 1) = some out)) := by
  have J := C.jr hJ0 G hI
  unfold kX2_bestThing at h1
  rw [← eq_ofnat e3] at h1
  obtain ⟨z', bc, mo, br, kp, J', B, g1, g2⟩ := best_in e3 hx1 hw hF fu fu sa z (-1) 0 (-2) 0 0 J ⟨C.1, C.2.1, G⟩ (by decide) (by omega) (Or.inl ⟨rfl, rfl, rfl⟩) h1 h2
  refine ⟨z', kp.2.2, J'.2.2.2.1, ?_⟩
  unfold after at g2
  rcases B with ⟨b1, b2, b3⟩ | ⟨b, b0, b1, b2, b3, b4, b5⟩
  · rw [b3, if_neg (by decide)] at g2
    exact Or.inl ⟨g1.trans b1, (Option.some.inj g2).symm⟩
  · rw [b2, if_pos (ofnat_nonneg b b0).2.1] at g2
    replace g2 := guard_inv g2
    obtain ⟨_, g2⟩ := g2
    rw [clamp_of_int e3] at g2
    exact Or.inr ⟨b, b0, g1.trans b1, b5, g2⟩
/-- the reference's walk, from the first wave up, where all have a best thing -/
theorem rb_all {s0 : JS} {z0 z' : RS} {x1 r : Int32} {N : Nat} {D : Nat → Nat} (hJ0 : JR s0 z0) (hF : FO s0.k s0.d) (hx1 : x1 = -1 ∨ ∃ p : Nat, x1.toInt = (p : Int) ∧ (p : Int) < (s0.k.v 2).toInt) (hN : (s0.k.v 1).toInt = (N : Int)) (hN5 : N ≤ 5) (hD : ∀ w, w < N → D w < 6 ∧ ∃ sa sa', KC s0 sa ∧ kX2_bestThing sa x1 (Int32.ofNat w) = some (Int32.ofNat (D w), sa')) : ∀ (m : Nat) (z : RS) (x2 x3 : Int32) (j : Nat), FrR WSZ z0 z → InvR z → x3.toInt = (j : Int) → j ≤ N → x2.toInt = (dsum D j : Int) → r_bestFor_4L m z x1 x2 x3 = some (r, z') → (r.toInt = (dsum D N : Int) ∧ FrR WSZ z0 z' ∧ InvR z') ∧ (∀ w, j ≤ w → w < N → BIT s0.k s0.d w (D w)) := by
  intro m
  induction m with
  | zero => intro z x2 x3 j _ _ _ _ _ h; exact none_ne h
  | succ m ih =>
    intro z x2 x3 j G hI e3 hj e2 h
    replace h : r_bestFor_4 (r_bestFor_4L m) z x1 x2 x3 = some (r, z') := h
    have e20 : z.f 20 (z.v 18).toNatClampNeg = s0.k.v 1 := by rw [(G.2 20 (by decide)).1, G.1 18 (by decide)]; exact hJ0.1.1.1.symm
    unfold r_bestFor_4 at h
    replace h := guard_inv h
    obtain ⟨_, h⟩ := h
    rw [e20] at h
    by_cases c : s0.k.v 1 ≤ x3
    · have c' := ti_le c
      have ej : j = N := by omega
      rw [if_pos c] at h
      have g1 : x2 = r := congrArg Prod.fst (Option.some.inj h)
      have g2 : z = z' := congrArg Prod.snd (Option.some.inj h)
      rw [← g1, ← g2, e2, ej]
      exact ⟨⟨rfl, G, hI⟩, fun w h1 h2 => by omega⟩
    · have c' := ti_nle c
      rw [if_neg c] at h
      obtain ⟨dj, sa, sa', C, u⟩ := hD j (by omega)
      obtain ⟨z2, G2, I2, q⟩ := wave_pair hJ0 hF hx1 e3 (by omega) C G hI u h
      rcases q with ⟨q1, _⟩ | ⟨b, b0, q1, qb, q2⟩
      · exact absurd q1 (ofnat_nonneg (D j) dj).2.2
      · have eb : D j = b := by
          have q3 := congrArg Int32.toInt q1
          rw [ofnat_int (show D j < 2147483648 by omega), ofnat_int (show b < 2147483648 by omega)] at q3
          omega
        have f46 : z2.f 46 j = six6 j := by rw [(G2.2 46 (by decide)).1]; exact hJ0.1.2.1 j (by omega)
        have pl := pow_le j (by omega)
        have dl := dsum_lt j (D := D) (fun w hw => (hD w (by omega)).1)
        have mb := mul_six (r := Int32.ofNat b) j (by omega) (by rw [ofnat_int (show b < 2147483648 by omega)]; omega) (by rw [ofnat_int (show b < 2147483648 by omega)]; omega)
        rw [ofnat_int (show b < 2147483648 by omega)] at mb
        have mm : ((6 ^ j : Nat) : Int) * (b : Int) = ((6 ^ j * b : Nat) : Int) := (Int.natCast_mul _ _).symm
        have mle : 6 ^ j * b ≤ 7776 * 5 := Nat.mul_le_mul pl (by omega)
        rw [f46] at q2
        have a2 : (x2 + six6 j * Int32.ofNat b).toInt = (dsum D (j + 1) : Int) := by
          rw [ti_add (by omega) (by omega), mb, mm, e2]
          show (dsum D j : Int) + ((6 ^ j * b : Nat) : Int) = ((dsum D j + 6 ^ j * D j : Nat) : Int)
          rw [eb]
          omega
        have a3 : (x3 + 1).toInt = ((j + 1 : Nat) : Int) := by
          rw [tn_add e3 (by decide : (1 : Int32).toInt = 1) (by omega) (by omega)]
          omega
        obtain ⟨i1, i2⟩ := ih z2 _ _ (j + 1) G2 I2 a3 (by omega) a2 q2
        refine ⟨i1, fun w h1 h2 => ?_⟩
        by_cases e : w = j
        · rw [e, eb]; exact qb
        · exact i2 w (by omega) h2
/-- .. and where one has none -/
theorem rb_none {s0 : JS} {z0 z' : RS} {x1 r : Int32} {N u : Nat} (hJ0 : JR s0 z0) (hF : FO s0.k s0.d) (hx1 : x1 = -1 ∨ ∃ p : Nat, x1.toInt = (p : Int) ∧ (p : Int) < (s0.k.v 2).toInt) (hx : -1 ≤ x1.toInt ∧ x1.toInt ≤ 5) (hN : (s0.k.v 1).toInt = (N : Int)) (hN5 : N ≤ 5) (hu : u < N) (hD : ∃ sa sa', KC s0 sa ∧ kX2_bestThing sa x1 (Int32.ofNat u) = some (-1, sa')) : ∀ (m : Nat) (z : RS) (x2 x3 : Int32) (j : Nat), FrR WSZ z0 z → InvR z → x3.toInt = (j : Int) → j ≤ u → r_bestFor_4L m z x1 x2 x3 = some (r, z') → r = -2 ∧ FrR WSZ z0 z' ∧ InvR z' := by
  have K0 : KC s0 s0 := ⟨rfl, FrK.rfl, hJ0.2.2.2.2.1⟩
  intro m
  induction m with
  | zero => intro z x2 x3 j _ _ _ _ h; exact none_ne h
  | succ m ih =>
    intro z x2 x3 j G hI e3 hj h
    replace h : r_bestFor_4 (r_bestFor_4L m) z x1 x2 x3 = some (r, z') := h
    have e20 : z.f 20 (z.v 18).toNatClampNeg = s0.k.v 1 := by rw [(G.2 20 (by decide)).1, G.1 18 (by decide)]; exact hJ0.1.1.1.symm
    unfold r_bestFor_4 at h
    replace h := guard_inv h
    obtain ⟨_, h⟩ := h
    rw [e20, if_neg (fun q => by have := ti_le q; omega)] at h
    have a3 : (x3 + 1).toInt = ((j + 1 : Nat) : Int) := by
      rw [tn_add e3 (by decide : (1 : Int32).toInt = 1) (by omega) (by omega)]
      omega
    by_cases e : j = u
    · subst e
      obtain ⟨sa, sa', C, ua⟩ := hD
      obtain ⟨z2, G2, I2, q⟩ := wave_pair hJ0 hF hx1 e3 (by omega) C G hI ua h
      rcases q with ⟨_, q2⟩ | ⟨b, b0, q1, _, _⟩
      · have g1 : r = -2 := congrArg Prod.fst q2
        have g2 : z' = z2 := congrArg Prod.snd q2
        rw [g1, g2]
        exact ⟨rfl, G2, I2⟩
      · exact absurd q1.symm (ofnat_nonneg b b0).2.2
    · obtain ⟨ra, sa', ua⟩ := k_best_total hJ0.2.2.2.2.1 hx j (by omega)
      obtain ⟨z2, G2, I2, q⟩ := wave_pair hJ0 hF hx1 e3 (by omega) K0 G hI ua h
      rcases q with ⟨_, q2⟩ | ⟨b, b0, _, _, q2⟩
      · have g1 : r = -2 := congrArg Prod.fst q2
        have g2 : z' = z2 := congrArg Prod.snd q2
        rw [g1, g2]
        exact ⟨rfl, G2, I2⟩
      · exact ih z2 _ _ (j + 1) G2 I2 a3 (by omega) q2
/-- the best guess is the same: none, or a number of things -/
theorem best_same {s s' : JS} {z z' : RS} {x1 r1 r2 : Int32} (hJ : JR s z) (hF : FO s.k s.d) (hx1 : x1 = -1 ∨ ∃ p : Nat, x1.toInt = (p : Int) ∧ (p : Int) < (s.k.v 2).toInt) (h1 : kX2_bestGuess s x1 = some (r1, s')) (h2 : r_bestFor z x1 = some (r2, z')) : r1 = r2 ∧ KeptJ s s' z z' ∧ JR s' z' ∧ (r1 = -2 ∨ ∃ N D, (s.k.v 1).toInt = ((N : Nat) : Int) ∧ (∀ w, w < N → (D : Nat → Nat) w < 6 ∧ BIT s.k s.d w (D w)) ∧ r1.toInt = (dsum D N : Int)) := by
  have bw : 0 ≤ (s.k.v 1).toInt ∧ (s.k.v 1).toInt ≤ 5 := hJ.2.2.2.2.1.1 1
  have bp : 0 ≤ (s.k.v 2).toInt ∧ (s.k.v 2).toInt ≤ 6 := hJ.2.2.2.2.1.1 2
  obtain ⟨N, hN⟩ : ∃ N : Nat, (s.k.v 1).toInt = (N : Int) := ⟨(s.k.v 1).toInt.toNat, by omega⟩
  have hx : -1 ≤ x1.toInt ∧ x1.toInt ≤ 5 := by
    rcases hx1 with q | ⟨p, q1, q2⟩
    · rw [q]; decide
    · omega
  unfold kX2_bestGuess at h1
  unfold r_bestFor at h2
  have K0 : KC s s := ⟨rfl, FrK.rfl, hJ.2.2.2.2.1⟩
  have a4 : ((s.k.v 1) - 1).toInt = (N : Int) - 1 := tn_sub hN (by decide : (1 : Int32).toInt = 1) (by omega) (by omega)
  have pl := pow_le N (by omega)
  obtain ⟨C, q⟩ := bg_inv hx fu s 0 _ N 0 K0 (by omega) a4 (by decide) (by omega) h1
  rcases q with ⟨q1, u, hu, q2⟩ | ⟨D, q1, q2⟩
  · obtain ⟨g1, G, I⟩ := rb_none hJ hF hx1 hx hN (by omega) hu q2 fu z 0 0 0 FrR.rfl hJ.2.2.2.1 (by decide) (by omega) h2
    exact ⟨q1.trans g1.symm, ⟨C.1, C.2.1, G⟩, C.jr hJ G I, Or.inl q1⟩
  · obtain ⟨⟨g1, G, I⟩, bt⟩ := rb_all hJ hF hx1 hN (by omega) q1 fu z 0 0 0 FrR.rfl hJ.2.2.2.1 (by decide) (by omega) (by show (0 : Int32).toInt = ((0 : Nat) : Int); decide) h2
    rw [Nat.zero_mul, Nat.zero_add] at q2
    exact ⟨Int32.toInt_inj.mp (q2.trans g1.symm), ⟨C.1, C.2.1, G⟩, C.jr hJ G I, Or.inr ⟨N, D, hN, fun w hw => ⟨(q1 w hw).1, bt w (by omega) hw⟩, q2⟩⟩
end
section
/-! ===== likeliest, safest, stuck, chosen ===== -/
theorem likeliest_same {y : YS} {x' : XS} {z z' : RS} {r1 r2 : Int32} (h : REL y z) (hK : InvK y.x.k) (hI : InvR z) (hB : Big z) (h1 : kX10_likeliest y.x = some (r1, x')) (h2 : r_likeliest z = some (r2, z')) : r1 = r2 ∧ True := by
  refine ⟨?_, trivial⟩
  unfold kX10_likeliest at h1
  unfold r_likeliest at h2
  replace h1 := bindI_inv h1
  obtain ⟨q1, s1, u1, h1⟩ := h1
  replace h1 := letS_inv h1
  obtain ⟨s3, _, h1⟩ := h1
  replace h2 := bindP_inv h2
  obtain ⟨z1, w1, h2⟩ := h2
  replace h2 := bindI_inv h2
  obtain ⟨q2, z2, w2, h2⟩ := h2
  obtain ⟨hJ, _⟩ := h.jr hK hI hB w1
  have e := best_same hJ h.2.1.2 (Or.inl rfl) u1 w2
  have f1 : q1 = r1 := congrArg Prod.fst (Option.some.inj h1)
  have f2 : q2 = r2 := congrArg Prod.fst (Option.some.inj h2)
  rw [← f1, ← f2]
  exact e.1
theorem safest_same {y : YS} {x' : XS} {z z' : RS} {x1 r1 r2 : Int32} (h : REL y z) (hK : InvK y.x.k) (hI : InvR z) (hB : Big z) (h1 : kX10_safest y.x x1 = some (r1, x')) (h2 : r_safest z x1 = some (r2, z')) : r1 = r2 ∧ True := by
  refine ⟨?_, trivial⟩
  unfold kX10_safest at h1
  unfold r_safest at h2
  rw [kp_eq, bindI_some] at h1
  rw [rp_eq hI, bindI_some, ← h.1.1.2.1] at h2
  replace h1 := letS_inv h1
  obtain ⟨s3, c3, h1⟩ := h1
  have e3 : s3 = y.x := by rw [← c3]; rfl
  rw [e3] at h1
  by_cases hp : 0 ≤ x1.toInt ∧ x1.toInt < (y.x.k.v 2).toInt
  · rw [if_pos hp, if_neg z_one] at h1 h2
    replace h1 := bindI_inv h1
    obtain ⟨q1, s6, u6, h1⟩ := h1
    replace h1 := letS_inv h1
    obtain ⟨s8, _, h1⟩ := h1
    replace h2 := bindP_inv h2
    obtain ⟨z4, w4, h2⟩ := h2
    replace h2 := bindI_inv h2
    obtain ⟨q2, z5, w5, h2⟩ := h2
    obtain ⟨hJ, _⟩ := h.jr hK hI hB w4
    have e := best_same hJ h.2.1.2 (Or.inr ⟨x1.toInt.toNat, by omega, show ((x1.toInt.toNat : Nat) : Int) < (y.x.k.v 2).toInt by omega⟩) u6 w5
    have f1 : q1 = r1 := congrArg Prod.fst (Option.some.inj h1)
    have f2 : q2 = r2 := congrArg Prod.fst (Option.some.inj h2)
    rw [← f1, ← f2]
    exact e.1
  · rw [if_neg hp, if_pos rfl] at h1 h2
    have f1 : -1 = r1 := congrArg Prod.fst (Option.some.inj h1)
    have f2 : -1 = r2 := congrArg Prod.fst (Option.some.inj h2)
    rw [← f1, ← f2]
theorem FO.step {s : XS} {s4 : JS} {z z4 : RS} (h : FO s.k s.n) (kp : KeptJ (JS.mk s.k s.n) s4 z z4) : FO s4.k s4.d := by
  rw [kp.1]
  exact h.fr kp.2.1 (by decide)
theorem neg2 : ¬ (0 : Int32) ≤ -2 := by decide
theorem stuckL {r1 r2 : Int32} {s' : XS} {z' : RS} : ∀ (n m : Nat) (s : XS) (z : RS) (x y : Int32) (j : Nat), JH s z → FO s.k s.n → y.toInt = (j : Int) → kX10_stuck_4L n s x y = some (r1, s') → r_stuck_8L m z x y = some (r2, z') → r1 = r2 := by
  intro n
  induction n with
  | zero => intro m s z x y j _ _ _ h; exact none_ne h
  | succ n ih =>
    intro m s z x y j hH hF ey h1 h2
    cases m with
    | zero => exact none_ne h2
    | succ m =>
    replace h1 : kX10_stuck_4 (kX10_stuck_4L n) s x y = some (r1, s') := h1
    replace h2 : r_stuck_8 (r_stuck_8L m) z x y = some (r2, z') := h2
    have bp : 0 ≤ (s.k.v 2).toInt ∧ (s.k.v 2).toInt ≤ 6 := hH.1.2.2.2.2.1.1 2
    have ep : s.k.v 2 = z.f 23 (z.v 18).toNatClampNeg := hH.1.1.1.2.1
    unfold kX10_stuck_4 kX10_stuck_50 at h1
    unfold r_stuck_8 r_stuck_43 at h2
    replace h2 := guard_inv h2
    obtain ⟨_, h2⟩ := h2
    rw [← ep] at h2
    by_cases c : s.k.v 2 ≤ y
    · rw [if_pos c] at h1 h2
      have f1 : x = r1 := congrArg Prod.fst (Option.some.inj h1)
      have f2 : x = r2 := congrArg Prod.fst (Option.some.inj h2)
      rw [← f1, ← f2]
    · have c' := ti_nle c
      rw [if_neg c] at h1 h2
      replace h1 := guard_inv h1
      obtain ⟨_, h1⟩ := h1
      have hs : s.n.f 3 j = z.f 43 (15 + j) := (hH.2.2.1 j (by omega)).1
      rw [rh_eq hH.1.2.2.2.1 ey (by rw [← ep]; omega), bindI_some, ← hs] at h2
      rw [clamp_of_int ey] at h1
      have ay : (y + 1).toInt = ((j + 1 : Nat) : Int) := by
        rw [tn_add ey (by decide : (1 : Int32).toInt = 1) (by omega) (by omega)]
        omega
      by_cases d : s.n.f 3 j = 0
      · rw [if_pos d] at h1
        rw [if_pos d, if_neg z_one] at h2
        replace h1 := bindI_inv h1
        obtain ⟨a5, s4, u4, h1⟩ := h1
        replace h1 := letS_inv h1
        obtain ⟨s6, c6, h1⟩ := h1
        replace h2 := bindI_inv h2
        obtain ⟨b7, z6, w6, h2⟩ := h2
        have hp : (j : Int) < ((JS.mk s.k s.n).k.v 2).toInt := show (j : Int) < (s.k.v 2).toInt by omega
        obtain ⟨q1, q2, J, q3⟩ := best_same hH.1 hF (Or.inr ⟨j, ey, hp⟩) u4 w6
        have H : JH s6 z6 := by rw [← c6]; exact hH.step q2 J
        have F6 : FO s6.k s6.n := by rw [← c6]; exact hF.step q2
        rw [← q1] at h2
        rcases q3 with e | ⟨N, D, _, _, e⟩
        · rw [if_pos e] at h1
          rw [e, if_neg neg2] at h2
          exact ih m s6 z6 _ (y + 1) (j + 1) H F6 ay h1 h2
        · have n2 : ¬ a5 = -2 := fun q => by
            have m2 : (-2 : Int32).toInt = -2 := by decide
            rw [q, m2] at e
            omega
          have p0 : (0 : Int32) ≤ a5 := Int32.le_iff_toInt_le.mpr (by rw [show (0 : Int32).toInt = 0 from by decide]; omega)
          rw [if_neg n2] at h1
          rw [if_pos p0] at h2
          exact ih m s6 z6 x (y + 1) (j + 1) H F6 ay h1 h2
      · rw [if_neg d] at h1
        rw [if_neg d, if_pos rfl] at h2
        exact ih m s z x (y + 1) (j + 1) hH hF ay h1 h2
theorem stuck_same {y : YS} {x' : XS} {z z' : RS} {r1 r2 : Int32} (h : REL y z) (hK : InvK y.x.k) (hI : InvR z) (hB : Big z) (h1 : kX10_stuck y.x = some (r1, x')) (h2 : r_stuck z = some (r2, z')) : r1 = r2 ∧ True := by
  refine ⟨?_, trivial⟩
  unfold kX10_stuck at h1
  unfold r_stuck at h2
  replace h2 := bindP_inv h2
  obtain ⟨z1, w1, h2⟩ := h2
  exact stuckL fu fu y.x z1 0 0 0 (h.jh hK hI hB w1) h.2.1.2 (by decide) h1 h2
/-! chosen -/
theorem ti_mulg {x y : Int32} (h1 : -2147483648 ≤ x.toInt * y.toInt) (h2 : x.toInt * y.toInt ≤ 2147483647) : (x * y).toInt = x.toInt * y.toInt := by
  rw [Int32.toInt_mul]
  exact ti_bmod h1 h2
theorem pos_prod {k : KS} {d : SD} {g : Nat → Nat} : ∀ (m j : Nat) (x : Int32), (∀ w, j ≤ w → w < j + m → 1 ≤ (OF k d w (g w)).toInt ∧ (OF k d w (g w)).toInt ≤ 9) → 1 ≤ x.toInt → x.toInt * 9 ^ m ≤ 59049 → 1 ≤ (fo (fun j x => x * OF k d j (g j)) j m x).toInt := by
  intro m
  induction m with
  | zero => intro j x _ h _; exact h
  | succ m ih =>
    intro j x h hx hb
    obtain ⟨o1, o2⟩ := h j (by omega) (by omega)
    have p9 : (9 : Int) ^ (m + 1) = 9 ^ m * 9 := Int.pow_succ _ _
    have pp : 0 < (9 : Int) ^ m := Int.pow_pos (by omega)
    rw [p9] at hb
    generalize (9 : Int) ^ m = q at hb pp ih
    have x9 : x.toInt ≤ 59049 := by
      have : x.toInt * 1 ≤ x.toInt * (q * 9) := Int.mul_le_mul_of_nonneg_left (by omega) (by omega)
      omega
    have e : (x * OF k d j (g j)).toInt = x.toInt * (OF k d j (g j)).toInt := by
      refine ti_mulg ?_ ?_
      · have : 0 ≤ x.toInt * (OF k d j (g j)).toInt := Int.mul_nonneg (by omega) (by omega)
        omega
      · have : x.toInt * (OF k d j (g j)).toInt ≤ x.toInt * 9 := Int.mul_le_mul_of_nonneg_left (by omega) (by omega)
        omega
    show 1 ≤ (fo (fun j x => x * OF k d j (g j)) (j + 1) m (x * OF k d j (g j))).toInt
    refine ih (j + 1) _ (fun w h1 h2 => h w (by omega) (by omega)) ?_ ?_
    · rw [e]
      have : 1 * 1 ≤ x.toInt * (OF k d j (g j)).toInt := Int.mul_le_mul hx o1 (by omega) (by omega)
      omega
    · rw [e]
      have a1 : x.toInt * (OF k d j (g j)).toInt ≤ x.toInt * 9 := Int.mul_le_mul_of_nonneg_left (by omega) (by omega)
      have a2 : x.toInt * (OF k d j (g j)).toInt * q ≤ x.toInt * 9 * q := Int.mul_le_mul_of_nonneg_right a1 (by omega)
      have a3 : x.toInt * 9 * q = x.toInt * (q * 9) := by rw [Int.mul_assoc, Int.mul_comm 9 q]
      omega
/-- the odds of a case are above 0 -/
theorem best_pos {s s' : JS} {z : RS} {x r : Int32} {N : Nat} {D : Nat → Nat} (hJ : JR s z) (hF : FO s.k s.d) (hN : (s.k.v 1).toInt = (N : Int)) (hD : ∀ w, w < N → D w < 6 ∧ BIT s.k s.d w (D w)) (ex : x.toInt = (dsum D N : Int)) (h : kX2_oddsOf s x = some (r, s')) : 1 ≤ r.toInt := by
  have bw : 0 ≤ (s.k.v 1).toInt ∧ (s.k.v 1).toInt ≤ 5 := hJ.2.2.2.2.1.1 1
  have bl : 0 ≤ (z.v 18).toInt ∧ (z.v 18).toInt ≤ 1 := hJ.2.2.2.1.1 18
  obtain ⟨l, hl⟩ : ∃ l : Nat, (z.v 18).toInt = (l : Int) := ⟨(z.v 18).toInt.toNat, by omega⟩
  have a := congrArg Prod.fst (k_oddsN hN (by omega) ex h)
  have a : r = fo (fun j x => x * OF s.k s.d j (tg (dsum D N) j)) 0 N (1 : Int32) := a
  have e : fo (fun j x => x * OF s.k s.d j (tg (dsum D N) j)) 0 N (1 : Int32) = fo (fun j x => x * OF s.k s.d j (D j)) 0 N (1 : Int32) := fo_cg N 0 1 (fun i _ h2 x => by rw [tg_dsum N (fun w hw => (hD w hw).1) i (by omega)])
  rw [a, e]
  refine pos_prod N 0 1 (fun w _ h2 => ?_) (by decide) ?_
  · obtain ⟨d6, bt⟩ := hD w (by omega)
    have bt' : ((MB s.k s.d w) >>> ((Int32.ofNat (D w)) &&& 31)) &&& 1 = 1 := bt
    have eo : OF s.k s.d w (D w) = s.k.f 3 (6 * w + D w) := by
      unfold OF
      rw [if_pos bt']
    rw [eo]
    have p := MB_odds hJ.1 (hJ.2.1.at (by omega)) hF (by omega) d6 bt'
    have q := (od_big hJ.2.2.1 hJ.1 hl (w := w) (by omega)).1 (D w) d6
    omega
  · have z1 : (1 : Int32).toInt = 1 := by decide
    rw [z1]
    rcases (show N = 0 ∨ N = 1 ∨ N = 2 ∨ N = 3 ∨ N = 4 ∨ N = 5 by omega) with e | e | e | e | e | e <;> (rw [e]; decide)
theorem chosenL {r1 r2 : Int32} {s' : XS} {z' : RS} : ∀ (n m : Nat) (s : XS) (z : RS) (x1 x2 y : Int32) (j : Nat), JH s z → FO s.k s.n → ((x1 = -2 ∧ x2 = 0) ∨ (0 ≤ x1.toInt ∧ 0 ≤ x2.toInt)) → y.toInt = (j : Int) → kX10_chosen_7L n s x1 x2 y = some (r1, s') → r_chosen_11L m z x1 x2 y = some (r2, z') → r1 = r2 := by
  intro n
  induction n with
  | zero => intro m s z x1 x2 y j _ _ _ _ h; exact none_ne h
  | succ n ih =>
    intro m s z x1 x2 y j hH hF hc ey h1 h2
    cases m with
    | zero => exact none_ne h2
    | succ m =>
    replace h1 : kX10_chosen_7 (kX10_chosen_7L n) s x1 x2 y = some (r1, s') := h1
    replace h2 : r_chosen_11 (r_chosen_11L m) z x1 x2 y = some (r2, z') := h2
    have bp : 0 ≤ (s.k.v 2).toInt ∧ (s.k.v 2).toInt ≤ 6 := hH.1.2.2.2.2.1.1 2
    have ep : s.k.v 2 = z.f 23 (z.v 18).toNatClampNeg := hH.1.1.1.2.1
    have x20 : (0 : Int32) ≤ x2 := by
      rcases hc with ⟨_, q⟩ | ⟨_, q⟩
      · rw [q]; decide
      · exact Int32.le_iff_toInt_le.mpr (by rw [show (0 : Int32).toInt = 0 from by decide]; exact q)
    unfold kX10_chosen_7 at h1
    unfold r_chosen_11 at h2
    replace h2 := guard_inv h2
    obtain ⟨_, h2⟩ := h2
    rw [← ep] at h2
    by_cases c : s.k.v 2 ≤ y
    · rw [if_pos c] at h1 h2
      have f1 : x1 = r1 := congrArg Prod.fst (Option.some.inj h1)
      have f2 : x1 = r2 := congrArg Prod.fst (Option.some.inj h2)
      rw [← f1, ← f2]
    · have c' := ti_nle c
      rw [if_neg c] at h1 h2
      replace h1 := guard_inv h1
      obtain ⟨_, h1⟩ := h1
      have hs : s.n.f 3 j = z.f 43 (15 + j) := (hH.2.2.1 j (by omega)).1
      rw [rh_eq hH.1.2.2.2.1 ey (by rw [← ep]; omega), bindI_some, ← hs] at h2
      rw [clamp_of_int ey] at h1
      have ay : (y + 1).toInt = ((j + 1 : Nat) : Int) := by
        rw [tn_add ey (by decide : (1 : Int32).toInt = 1) (by omega) (by omega)]
        omega
      -- none: nothing is chosen here
      have none_ : ∀ (t : XS) (u : RS), JH t u → FO t.k t.n → kX10_chosen_47 (kX10_chosen_7L n) t x1 x2 y (-2) = some (r1, s') → r_chosen_42 (r_chosen_11L m) u x1 x2 y (-2) = some (r2, z') → r1 = r2 := by
        intro t u Ht Ft g1 g2
        unfold kX10_chosen_47 kX10_chosen_73 kX10_chosen_86 at g1
        unfold r_chosen_42 r_chosen_75 at g2
        rw [if_pos rfl, if_pos x20] at g1
        rw [if_pos (by decide)] at g2
        exact ih m t u x1 x2 (y + 1) (j + 1) Ht Ft hc ay g1 g2
      by_cases d : s.n.f 3 j = 0
      · rw [if_pos d] at h1
        rw [if_pos d, if_neg z_one] at h2
        replace h1 := bindI_inv h1
        obtain ⟨a5, s4, u4, h1⟩ := h1
        replace h1 := letS_inv h1
        obtain ⟨s6, c6, h1⟩ := h1
        replace h2 := bindI_inv h2
        obtain ⟨b7, z6, w6, h2⟩ := h2
        have hp : (j : Int) < ((JS.mk s.k s.n).k.v 2).toInt := show (j : Int) < (s.k.v 2).toInt by omega
        obtain ⟨q1, q2, J, q3⟩ := best_same hH.1 hF (Or.inr ⟨j, ey, hp⟩) u4 w6
        have H : JH s6 z6 := by rw [← c6]; exact hH.step q2 J
        have F6 : FO s6.k s6.n := by rw [← c6]; exact hF.step q2
        rw [← q1] at h2
        rcases q3 with e | ⟨N, D, hN, hD, e⟩
        · rw [e] at h1 h2
          exact none_ s6 z6 H F6 h1 h2
        · have n2 : ¬ a5 = -2 := fun q => by
            have m2 : (-2 : Int32).toInt = -2 := by decide
            rw [q, m2] at e
            omega
          have n0 : ¬ a5 < 0 := fun q => by
            have := tn_lt (b := 0) rfl (by decide) q
            omega
          unfold kX10_chosen_47 kX10_chosen_73 kX10_chosen_86 at h1
          unfold r_chosen_42 r_chosen_66 r_chosen_75 at h2
          rw [if_neg n2] at h1
          rw [if_neg n0] at h2
          replace h1 := bindI_inv h1
          obtain ⟨o, s2, u2, h1⟩ := h1
          replace h1 := letS_inv h1
          obtain ⟨s8, c8, h1⟩ := h1
          have v1 : s6.k.v 1 = s.k.v 1 := by rw [← c6]; exact q2.2.1.1 1 (by decide)
          have d6 : s6.n = s.n := by rw [← c6]; exact q2.1
          have mb : ∀ w, MB s6.k s6.n w = MB s.k s.n w := fun w => MB_cg (by rw [← c6]; exact (q2.2.1.2 5 (by decide)).1) d6
          have hN6 : ((JS.mk s6.k s6.n).k.v 1).toInt = (N : Int) := by
            show (s6.k.v 1).toInt = (N : Int)
            rw [v1]
            exact hN
          have hD6 : ∀ w, w < N → D w < 6 ∧ BIT (JS.mk s6.k s6.n).k (JS.mk s6.k s6.n).d w (D w) := fun w hw => by
            refine ⟨(hD w hw).1, ?_⟩
            show ((MB s6.k s6.n w) >>> ((Int32.ofNat (D w)) &&& 31)) &&& 1 = 1
            rw [mb w]
            exact (hD w hw).2
          have po := best_pos H.1 F6 hN6 hD6 e u2
          have oth : ∀ (u : RS) (b : Int32) (u' : RS), u = z6 → r_chanceOf u a5 = some (b, u') → b = o ∧ u' = z6 := by
            intro u b u' eu hb
            rw [eu] at hb
            obtain ⟨g1, g2, g3⟩ := odds_of_same H.1 e u2 hb
            exact ⟨g1.symm, g3⟩
          have e8 : s8 = s6 := by
            obtain ⟨b0, u0, hb0⟩ : ∃ b u, r_chanceOf z6 a5 = some (b, u) := by
              by_cases q : x1 < 0
              · rw [if_pos q] at h2
                replace h2 := bindI_inv h2
                obtain ⟨b, u, w, _⟩ := h2
                exact ⟨b, u, w⟩
              · rw [if_neg q] at h2
                replace h2 := bindI_inv h2
                obtain ⟨b, u, w, _⟩ := h2
                exact ⟨b, u, w⟩
            have g := (odds_of_same H.1 e u2 hb0).2.1
            rw [← c8, g]
            rfl
          rw [e8] at h1
          have take : ¬ o ≤ x2 → r_chosen_11L m z6 y o (y + 1) = some (r2, z') → r1 = r2 := by
            intro nl g2
            rw [if_neg nl] at h1
            exact ih m s6 z6 y o (y + 1) (j + 1) H F6 (Or.inr ⟨by omega, by omega⟩) ay h1 g2
          by_cases q : x1 < 0
          · have q' := tn_lt (b := 0) rfl (by decide) q
            rw [if_pos q] at h2
            replace h2 := bindI_inv h2
            obtain ⟨b, u, w, h2⟩ := h2
            obtain ⟨g1, g2⟩ := oth z6 b u rfl w
            rw [g1, g2] at h2
            have x2z : x2 = 0 := by
              rcases hc with ⟨_, r⟩ | ⟨r, _⟩
              · exact r
              · omega
            refine take (fun l => ?_) h2
            have l' := ti_le l
            have z0 : (0 : Int32).toInt = 0 := by decide
            rw [x2z, z0] at l'
            omega
          · rw [if_neg q] at h2
            replace h2 := bindI_inv h2
            obtain ⟨b, u, w, h2⟩ := h2
            obtain ⟨g1, g2⟩ := oth z6 b u rfl w
            rw [g1, g2] at h2
            by_cases lt : x2 < o
            · have lt' := ti_lt lt
              rw [if_pos lt] at h2
              replace h2 := bindI_inv h2
              obtain ⟨b2, u2', w2, h2⟩ := h2
              obtain ⟨g3, g4⟩ := oth z6 b2 u2' rfl w2
              rw [g3, g4] at h2
              exact take (fun l => by have := ti_le l; omega) h2
            · have lt' := ti_nlt lt
              rw [if_neg lt] at h2
              rw [if_pos (Int32.le_iff_toInt_le.mpr lt')] at h1
              exact ih m s6 z6 x1 x2 (y + 1) (j + 1) H F6 hc ay h1 h2
      · rw [if_neg d] at h1
        rw [if_neg d, if_pos rfl] at h2
        exact none_ s z hH hF h1 h2
theorem chosen_same {y : YS} {x' : XS} {z z' : RS} {r1 r2 : Int32} (h : REL y z) (hK : InvK y.x.k) (hI : InvR z) (hB : Big z) (h1 : kX10_chosen y.x = some (r1, x')) (h2 : r_chosen z = some (r2, z')) : r1 = r2 ∧ True := by
  refine ⟨?_, trivial⟩
  unfold kX10_chosen at h1
  unfold r_chosen at h2
  replace h2 := bindP_inv h2
  obtain ⟨z1, w1, h2⟩ := h2
  exact chosenL fu fu y.x z1 (-2) 0 0 0 (h.jh hK hI hB w1) h.2.1.2 (Or.inl ⟨rfl, rfl⟩) (by decide) h1 h2
end
section
/-! ===== left ===== -/
theorem bits_less : ∀ v, v < 6 → ∀ a, a < 64 → bsum ((Int32.ofNat a) &&& (((1 : Int32) <<< ((Int32.ofNat v) &&& 31)) ^^^ (-1 : Int32))) = if ((Int32.ofNat a) >>> ((Int32.ofNat v) &&& 31)) &&& 1 = 1 then bsum (Int32.ofNat a) - 1 else bsum (Int32.ofNat a) := by decide +kernel
theorem bits_has : ∀ v, v < 6 → ∀ a, a < 64 → ((Int32.ofNat a) >>> ((Int32.ofNat v) &&& 31)) &&& 1 = 1 → 1 ≤ (bsum (Int32.ofNat a)).toInt := by decide +kernel
/-- how many things may be over a wave, and the product of those behind it -/
theorem fst_som {α β : Type} {a c : α} {b d : β} (h : some (a, b) = some (c, d)) : a = c := congrArg Prod.fst (Option.some.inj h)
theorem snd_som {α β : Type} {a c : α} {b d : β} (h : some (a, b) = some (c, d)) : b = d := congrArg Prod.snd (Option.some.inj h)
theorem pr_fst {α β : Type} {a c : α} {b d : β} (h : (a, b) = (c, d)) : a = c := congrArg Prod.fst h
theorem pr_snd {α β : Type} {a c : α} {b d : β} (h : (a, b) = (c, d)) : b = d := congrArg Prod.snd h
theorem ksf_ne {s : KS} {k k' i : Nat} {x : Int32} (h : ¬ k' = k) : (s.sf k i x).f k' = s.f k' := by
  show va_up s.f k (upd (s.f k) i x) k' = s.f k'
  exact va_up_ne _ _ h
theorem ksa_ne {s : KS} {k k' : Nat} {x : Nat → Int32} (h : ¬ k' = k) : (s.sa k x).f k' = s.f k' := by
  show va_up s.f k x k' = s.f k'
  exact va_up_ne _ _ h
theorem of_ok {α : Type} {o : Option α} {Q : α → Prop} {y : α} (h : Ok o Q) (e : o = some y) : Q y := by
  obtain ⟨u, u1, u2⟩ := h
  rw [e] at u1
  rw [Option.some.inj u1]
  exact u2
theorem bc_ex : ∃ f : Int32 → Int32, ∀ x, bcount x = f x := ⟨bcount, fun _ => rfl⟩
/-- the same number, not to be opened -/
noncomputable def bc : Int32 → Int32 := Classical.choose bc_ex
theorem bc_eq (x : Int32) : bcount x = bc x := Classical.choose_spec bc_ex x
theorem cw_ex : ∃ f : KS → SD → Nat → Nat, ∀ k d w, f k d w = (bc (MB k d w)).toInt.toNat := ⟨fun k d w => (bc (MB k d w)).toInt.toNat, fun _ _ _ => rfl⟩
noncomputable def cw : KS → SD → Nat → Nat := Classical.choose cw_ex
theorem cw_eq (k : KS) (d : SD) (w : Nat) : cw k d w = (bc (MB k d w)).toInt.toNat := Classical.choose_spec cw_ex k d w
theorem mul_nn {x y : Int32} {a b : Nat} (hx : x.toInt = (a : Int)) (hy : y.toInt = (b : Int)) (h : a * b ≤ 2147483647) : (x * y).toInt = ((a * b : Nat) : Int) := by
  have m : (a : Int) * (b : Int) = ((a * b : Nat) : Int) := (Int.natCast_mul _ _).symm
  generalize a * b = p at h m ⊢
  rw [ti_mulg (by rw [hx, hy, m]; omega) (by rw [hx, hy, m]; omega), hx, hy, m]
theorem add_nn {x y : Int32} {a b : Nat} (hx : x.toInt = (a : Int)) (hy : y.toInt = (b : Int)) (h : a + b ≤ 2147483647) : (x + y).toInt = ((a + b : Nat) : Int) := by
  rw [tn_add hx hy (by omega) (by omega)]
  omega
theorem sub_nn {x y : Int32} {a b : Nat} (hx : x.toInt = (a : Int)) (hy : y.toInt = (b : Int)) (ha : a ≤ 2147483647) (h : b ≤ a) : (x - y).toInt = ((a - b : Nat) : Int) := by
  rw [tn_sub hx hy (by omega) (by omega)]
  omega
noncomputable def Bq (c : Nat → Nat) : Nat → Nat → Nat
  | _, 0 => 1
  | j, m + 1 => c j * Bq c (j + 1) m
/-- left, from the j-th wave of N on: c how many, h whether the guess may be right there -/
noncomputable def Lf (c : Nat → Nat) (h : Nat → Bool) : Nat → Nat → Nat
  | _, 0 => 1
  | j, m + 1 => if h j = true then max (Lf c h (j + 1) m) ((c j - 1) * Bq c (j + 1) m) else c j * Bq c (j + 1) m
theorem Bq_le {c : Nat → Nat} : ∀ m j, (∀ w, j ≤ w → w < j + m → c w ≤ 6) → Bq c j m ≤ 6 ^ m := by
  intro m
  induction m with
  | zero => intro j _; exact Nat.le_refl _
  | succ m ih =>
    intro j h
    have i := ih (j + 1) (fun w h1 h2 => h w (by omega) (by omega))
    have e : 6 ^ (m + 1) = 6 ^ m * 6 := Nat.pow_succ _ _
    show c j * Bq c (j + 1) m ≤ 6 ^ (m + 1)
    rw [e, Nat.mul_comm (6 ^ m) 6]
    exact Nat.mul_le_mul (h j (by omega) (by omega)) i
theorem Bq_pos {c : Nat → Nat} : ∀ m j, (∀ w, j ≤ w → w < j + m → 1 ≤ c w) → 1 ≤ Bq c j m := by
  intro m
  induction m with
  | zero => intro j _; exact Nat.le_refl _
  | succ m ih =>
    intro j h
    have i := ih (j + 1) (fun w h1 h2 => h w (by omega) (by omega))
    show 1 ≤ c j * Bq c (j + 1) m
    exact Nat.mul_pos (h j (by omega) (by omega)) i
theorem Lf_le {c : Nat → Nat} {h : Nat → Bool} : ∀ m j, (∀ w, j ≤ w → w < j + m → c w ≤ 6) → Lf c h j m ≤ 6 ^ m := by
  intro m
  induction m with
  | zero => intro j _; exact Nat.le_refl _
  | succ m ih =>
    intro j hc
    have i := ih (j + 1) (fun w h1 h2 => hc w (by omega) (by omega))
    have b := Bq_le m (j + 1) (c := c) (fun w h1 h2 => hc w (by omega) (by omega))
    have e : 6 ^ (m + 1) = 6 ^ m * 6 := Nat.pow_succ _ _
    have cj := hc j (by omega) (by omega)
    have q1 : c j * Bq c (j + 1) m ≤ 6 * 6 ^ m := Nat.mul_le_mul cj b
    have q2 : (c j - 1) * Bq c (j + 1) m ≤ 6 * 6 ^ m := Nat.mul_le_mul (by omega) b
    show (if h j = true then max (Lf c h (j + 1) m) ((c j - 1) * Bq c (j + 1) m) else c j * Bq c (j + 1) m) ≤ 6 ^ (m + 1)
    rw [e]
    by_cases d : h j = true
    · rw [if_pos d]
      exact Nat.max_le.mpr ⟨by omega, by omega⟩
    · rw [if_neg d]
      omega
theorem mmax_int {a b : Int32} : (mmax a b).toInt = max a.toInt b.toInt := by
  unfold mmax
  by_cases c : a < b
  · have c' := ti_lt c
    rw [if_pos c]
    omega
  · have c' := ti_nlt c
    rw [if_neg c]
    omega
/-- whether a guess may be right over a wave -/
theorem hb_ex : ∃ f : KS → SD → Nat → Nat → Bool, ∀ k d g w, (f k d g w = true ↔ ((MB k d w) >>> ((Int32.ofNat (tg g w)) &&& 31)) &&& 1 = 1) := ⟨fun k d g w => decide (((MB k d w) >>> ((Int32.ofNat (tg g w)) &&& 31)) &&& 1 = 1), fun _ _ _ _ => ⟨fun h => of_decide_eq_true h, fun h => decide_eq_true h⟩⟩
noncomputable def hb : KS → SD → Nat → Nat → Bool := Classical.choose hb_ex
theorem hb_iff (k : KS) (d : SD) (g w : Nat) : hb k d g w = true ↔ ((MB k d w) >>> ((Int32.ofNat (tg g w)) &&& 31)) &&& 1 = 1 := Classical.choose_spec hb_ex k d g w
theorem cw_int {s : JS} {z : RS} {j N : Nat} (h : JR s z) (hN : (s.k.v 1).toInt = (N : Int)) (hN5 : N ≤ 5) (hj : j < N) : (bc (MB s.k s.d j)).toInt = (cw s.k s.d j : Int) ∧ cw s.k s.d j ≤ 6 := by
  have b := MB_small (w := j) h.1 (h.2.1.at (by omega)) h.2.2.2.2.1 (by omega)
  obtain ⟨q1, q2, q3⟩ := bits_same b.1 b.2
  rw [← q1, bc_eq] at q2 q3
  have e := cw_eq s.k s.d j
  clear q1 b
  generalize (bc (MB s.k s.d j)).toInt = B at e q2 q3 ⊢
  generalize cw s.k s.d j = c at e ⊢
  omega
/-- the product of all, as an int -/
theorem fo_prod {s : JS} {z : RS} {N : Nat} (hJ : JR s z) (hN : (s.k.v 1).toInt = (N : Int)) (hN5 : N ≤ 5) : ∀ (m j : Nat) (x : Int32) (X : Nat), j + m = N → x.toInt = (X : Int) → X * 6 ^ m ≤ 7776 → (fo (fun j x => x * bcount (MB s.k s.d j)) j m x).toInt = ((X * Bq (cw s.k s.d) j m : Nat) : Int) := by
  intro m
  induction m with
  | zero =>
    intro j x X _ ex _
    show x.toInt = ((X * 1 : Nat) : Int)
    omega
  | succ m ih =>
    intro j x X hjm ex hb
    have jN : j < N := by omega
    have jm : j + 1 + m = N := by omega
    obtain ⟨c1, c2⟩ := cw_int hJ hN hN5 jN
    show (fo (fun j x => x * bcount (MB s.k s.d j)) (j + 1) m (x * bcount (MB s.k s.d j))).toInt = ((X * (cw s.k s.d j * Bq (cw s.k s.d) (j + 1) m) : Nat) : Int)
    rw [bc_eq (MB s.k s.d j)]
    have pp : 1 ≤ 6 ^ m := Nat.pow_pos (by decide)
    have q1 : X * cw s.k s.d j ≤ X * 6 := Nat.mul_le_mul_left _ c2
    have q2 : X * 6 * 6 ^ m = X * 6 ^ (m + 1) := by rw [Nat.pow_succ, Nat.mul_assoc, Nat.mul_comm 6 (6 ^ m)]
    have q3 : X * cw s.k s.d j * 6 ^ m ≤ X * 6 * 6 ^ m := Nat.mul_le_mul_right _ q1
    have q5 : X * cw s.k s.d j * 6 ^ m ≤ 7776 := Nat.le_trans q3 (by rw [q2]; exact hb)
    have q6 : X * cw s.k s.d j * 1 ≤ 7776 := Nat.le_trans (Nat.mul_le_mul_left _ pp) q5
    have e : (x * bc (MB s.k s.d j)).toInt = ((X * cw s.k s.d j : Nat) : Int) := mul_nn ex c1 (by rw [Nat.mul_one] at q6; exact Nat.le_trans q6 (by decide))
    rw [ih (j + 1) _ _ jm e q5, Nat.mul_assoc]
theorem left_step {x4 B : Int32} {c b : Nat} (hB : B.toInt = (c : Int)) (c6 : c ≤ 6) (e4 : x4.toInt = (b : Int)) (lb : b ≤ 7776) : (x4 * B).toInt = ((c * b : Nat) : Int) ∧ (B * x4).toInt = ((c * b : Nat) : Int) ∧ (1 ≤ c → ((B - 1) * x4).toInt = (((c - 1) * b : Nat) : Int)) := by
  have q : c * b ≤ 2147483647 := Nat.le_trans (Nat.mul_le_mul c6 lb) (by decide)
  have q5 : (c - 1) * b ≤ 2147483647 := Nat.le_trans (Nat.mul_le_mul_right _ (Nat.sub_le _ _)) q
  refine ⟨?_, mul_nn hB e4 q, fun c1 => mul_nn (sub_nn hB (by decide : (1 : Int32).toInt = ((1 : Nat) : Int)) (by omega) c1) e4 q5⟩
  rw [Nat.mul_comm c b]
  exact mul_nn e4 hB (by rw [Nat.mul_comm]; exact q)
/-- what is asked of the numbers and of where the guess may be right -/
noncomputable def CH (k : KS) (d : SD) (N g : Nat) (C : Nat → Nat) (H : Nat → Bool) : Prop := ∀ w, w < N → ((bc (MB k d w)).toInt = (C w : Int) ∧ C w ≤ 6) ∧ (H w = true ↔ ((MB k d w) >>> ((Int32.ofNat (tg g w)) &&& 31)) &&& 1 = 1) ∧ (H w = true → 1 ≤ C w)
theorem ch_cw {s : JS} {z : RS} {N g : Nat} (hJ : JR s z) (hN : (s.k.v 1).toInt = (N : Int)) (hN5 : N ≤ 5) : CH s.k s.d N g (cw s.k s.d) (hb s.k s.d g) := by
  intro w hw
  have b := MB_small (w := w) hJ.1 (hJ.2.1.at (by omega)) hJ.2.2.2.2.1 (by omega)
  have c := cw_int hJ hN hN5 hw
  refine ⟨c, hb_iff s.k s.d g w, fun h => ?_⟩
  have d : ((MB s.k s.d w) >>> ((Int32.ofNat (tg g w)) &&& 31)) &&& 1 = 1 := (hb_iff s.k s.d g w).mp h
  have em : MB s.k s.d w = Int32.ofNat (MB s.k s.d w).toInt.toNat := eq_ofnat (Int.toNat_of_nonneg b.1).symm
  have q := (bits_same b.1 b.2).1
  have lt : (MB s.k s.d w).toInt.toNat < 64 := by
    obtain ⟨b0, b1⟩ := b
    clear c q em d
    generalize (MB s.k s.d w).toInt = m at b0 b1 ⊢
    omega
  have p := bits_has (tg g w) (tg_lt g w) _ lt (by rw [← em]; exact d)
  rw [← em, ← q, bc_eq, c.1] at p
  clear em q c b lt d h
  generalize cw s.k s.d w = C at p ⊢
  omega
theorem k_leftLg {s s' : JS} {z : RS} {x2 r : Int32} {g N : Nat} {C : Nat → Nat} {H : Nat → Bool} (hJ : JR s z) (hN : (s.k.v 1).toInt = (N : Int)) (hN5 : N ≤ 5) (hC : CH s.k s.d N g C H) (eg : x2.toInt = (g : Int)) : ∀ (n : Nat) (x3 x4 x5 : Int32) (j : Nat), j ≤ N → x5.toInt = (j : Int) - 1 → x3.toInt = (Lf C H j (N - j) : Int) → x4.toInt = (Bq C j (N - j) : Int) → kX2_leftBehind_16L n s x2 x3 x4 x5 = some (r, s') → r.toInt = (Lf C H 0 N : Int) ∧ s' = s := by
  intro n
  induction n with
  | zero => intro x3 x4 x5 j _ _ _ _ h; exact none_ne h
  | succ n ih =>
    intro x3 x4 x5 j hj e5 e3 e4 h
    replace h : kX2_leftBehind_16 (kX2_leftBehind_16L n) s x2 x3 x4 x5 = some (r, s') := h
    unfold kX2_leftBehind_16 kX2_leftBehind_73 at h
    by_cases c : x5 < 0
    · have c' := tn_lt (b := 0) rfl (by decide) c
      have ej : j = 0 := by omega
      subst ej
      rw [if_pos c] at h
      have g1 : x3 = r := congrArg Prod.fst (Option.some.inj h)
      have g2 : s = s' := congrArg Prod.snd (Option.some.inj h)
      rw [← g1, ← g2, e3, Nat.sub_zero]
      exact ⟨rfl, rfl⟩
    · have c' := tn_nlt (b := 0) rfl (by decide) c
      rw [if_neg c] at h
      obtain ⟨i, rfl⟩ : ∃ i, j = i + 1 := ⟨j - 1, by omega⟩
      have ei : x5.toInt = (i : Int) := by omega
      have iN : i < N := by omega
      have i5 : i < 5 := by omega
      have eN : N - i = (N - (i + 1)) + 1 := by omega
      have pl := pow_le (N - (i + 1)) (by omega)
      have e5' : (x5 + (-1)).toInt = (i : Int) - 1 := by
        rw [tn_add ei (by decide : (-1 : Int32).toInt = -1) (by omega) (by omega)]
        omega
      rw [k_cnt ei i5, bindI_some, k_may ei i5, bindI_some, bc_eq (MB s.k s.d i)] at h
      replace h := bindP_inv h
      obtain ⟨t6, u6, h⟩ := h
      have e6 := k_thing eg ei (Nat.le_of_lt i5) u6
      rw [k_has, bindP_some, eq_ofnat e6] at h
      obtain ⟨⟨c1, c2⟩, hh, c0⟩ := hC i iN
      generalize bc (MB s.k s.d i) = B at h c1
      generalize MB s.k s.d i = M at h hh
      generalize x5 + (-1) = Y at h e5'
      have cb : ∀ w, i + 1 ≤ w → w < i + 1 + (N - (i + 1)) → C w ≤ 6 := fun w h1 h2 => (hC w (by omega)).1.2
      have bl := Nat.le_trans (Bq_le (N - (i + 1)) (i + 1) cb) pl
      have hBq : Bq C i (N - i) = C i * Bq C (i + 1) (N - (i + 1)) := by rw [eN]; rfl
      have hLf : Lf C H i (N - i) = (if H i = true then max (Lf C H (i + 1) (N - (i + 1))) ((C i - 1) * Bq C (i + 1) (N - (i + 1))) else C i * Bq C (i + 1) (N - (i + 1))) := by rw [eN]; rfl
      generalize Bq C (i + 1) (N - (i + 1)) = b at e4 bl hBq hLf
      generalize Lf C H (i + 1) (N - (i + 1)) = l at e3 hLf
      obtain ⟨m1, m2, m3⟩ := left_step c1 c2 e4 bl
      by_cases d : (M >>> ((Int32.ofNat (tg g i)) &&& 31)) &&& 1 = 1
      · rw [if_pos d, if_neg z_one] at h
        have hi := hh.mpr d
        have m5 := m3 (c0 hi)
        refine ih _ _ _ i (by omega) e5' ?_ (by rw [hBq]; exact m1) h
        rw [mmax_int, e3, m5, hLf, if_pos hi]
        generalize (C i - 1) * b = q
        omega
      · rw [if_neg d, if_pos rfl] at h
        have hi : ¬ H i = true := fun q => d (hh.mp q)
        refine ih _ _ _ i (by omega) e5' ?_ (by rw [hBq]; exact m1) h
        rw [m2, hLf, if_neg hi]
theorem k_leftL {s s' : JS} {z : RS} {x2 r : Int32} {g N : Nat} (hJ : JR s z) (hN : (s.k.v 1).toInt = (N : Int)) (hN5 : N ≤ 5) (eg : x2.toInt = (g : Int)) (n : Nat) (x3 x4 x5 : Int32) (j : Nat) (hj : j ≤ N) (e5 : x5.toInt = (j : Int) - 1) (e3 : x3.toInt = (Lf (cw s.k s.d) (hb s.k s.d g) j (N - j) : Int)) (e4 : x4.toInt = (Bq (cw s.k s.d) j (N - j) : Int)) (h : kX2_leftBehind_16L n s x2 x3 x4 x5 = some (r, s')) : r.toInt = (Lf (cw s.k s.d) (hb s.k s.d g) 0 N : Int) ∧ s' = s :=
  k_leftLg hJ hN hN5 (ch_cw hJ hN hN5) eg n x3 x4 x5 j hj e5 e3 e4 h
theorem r_leftLg {s : JS} {z z' : RS} {x1 r : Int32} {g N : Nat} {C : Nat → Nat} {H : Nat → Bool} (hJ : JR s z) (hN : (s.k.v 1).toInt = (N : Int)) (hN5 : N ≤ 5) (hz : (z.f 20 (z.v 18).toNatClampNeg).toInt = (N : Int)) (eg : x1.toInt = (g : Int)) (hC : CH s.k s.d N g C H) (hc : ∀ w, w < N → 1 ≤ C w) : ∀ (n : Nat) (x2 x3 x4 : Int32) (j M : Nat), j ≤ N → x4.toInt = (j : Int) → x2.toInt = (M : Int) → M ≤ 46656 → x3.toInt = (Bq C j (N - j) : Int) → r_leftOf_10L n z x1 x2 x3 x4 = some (r, z') → r.toInt = (max M (Lf C H j (N - j)) : Int) ∧ z' = z := by
  intro n
  induction n with
  | zero => intro x2 x3 x4 j M _ _ _ _ _ h; exact none_ne h
  | succ n ih =>
    intro x2 x3 x4 j M hj e4 e2 hM e3 h
    replace h : r_leftOf_10 (r_leftOf_10L n) z x1 x2 x3 x4 = some (r, z') := h
    unfold r_leftOf_10 at h
    replace h := guard_inv h
    obtain ⟨_, h⟩ := h
    by_cases c : z.f 20 (z.v 18).toNatClampNeg ≤ x4
    · have c' := ti_le c
      have ej : j = N := by omega
      rw [if_pos c] at h
      rw [ej, Nat.sub_self]
      show r.toInt = (max M 1 : Int) ∧ z' = z
      by_cases d : x2 ≤ 1
      · have d' := tn_le (b := 1) rfl (by decide) d
        rw [if_pos d] at h
        have g1 : 1 = r := congrArg Prod.fst (Option.some.inj h)
        have g2 : z = z' := congrArg Prod.snd (Option.some.inj h)
        rw [← g1, ← g2]
        refine ⟨?_, rfl⟩
        have z1 : (1 : Int32).toInt = 1 := by decide
        rw [z1]
        omega
      · have d' := tn_nle (b := 1) rfl (by decide) d
        rw [if_neg d] at h
        have g1 : x2 = r := congrArg Prod.fst (Option.some.inj h)
        have g2 : z = z' := congrArg Prod.snd (Option.some.inj h)
        rw [← g1, ← g2]
        refine ⟨?_, rfl⟩
        omega
    · have c' := ti_nle c
      have jN : j < N := by omega
      have j5 : j < 5 := by omega
      rw [if_neg c] at h
      have eN : N - j = (N - (j + 1)) + 1 := by omega
      have pl := pow_le (N - (j + 1)) (by omega)
      have a4 : (x4 + 1).toInt = ((j + 1 : Nat) : Int) := add_nn e4 (by decide : (1 : Int32).toInt = ((1 : Nat) : Int)) (by omega)
      replace h := bindI_inv h
      obtain ⟨r5, z4, h4, h⟩ := h
      obtain ⟨f1, f2⟩ := hJ.may hN hN5 e4 jN h4
      have hcnt : r_bits (MB s.k s.d j) = some (bc (MB s.k s.d j)) := by rw [hJ.cnt hN hN5 jN, bc_eq]
      rw [f2, f1, hcnt, bindP_some] at h
      obtain ⟨⟨c1, c2⟩, hh, _⟩ := hC j jN
      have c0 := hc j jN
      have ne0 : ¬ bc (MB s.k s.d j) = 0 := fun q => by
        have z0 : (0 : Int32).toInt = ((0 : Nat) : Int) := by decide
        rw [q, z0] at c1
        have := Int.ofNat_inj.mp c1
        omega
      rw [if_pos ne0] at h
      replace h := bindI_inv h
      obtain ⟨r9, z8, h8, h⟩ := h
      obtain ⟨f3, f4⟩ := r_thing hJ.1.2.1 eg e4 (Nat.le_of_lt j5) h8
      rw [f3, r_bits_eq, bindP_some, eq_ofnat f4] at h
      have bl : bsum ((MB s.k s.d j) &&& (((1 : Int32) <<< ((Int32.ofNat (tg g j)) &&& 31)) ^^^ (-1 : Int32))) = if ((MB s.k s.d j) >>> ((Int32.ofNat (tg g j)) &&& 31)) &&& 1 = 1 then bc (MB s.k s.d j) - 1 else bc (MB s.k s.d j) := by
        have b := MB_small (w := j) hJ.1 (hJ.2.1.at (by omega)) hJ.2.2.2.2.1 (by omega)
        have bsm := (bits_same b.1 b.2).1
        have em : MB s.k s.d j = Int32.ofNat (MB s.k s.d j).toInt.toNat := eq_ofnat (Int.toNat_of_nonneg b.1).symm
        have lt : (MB s.k s.d j).toInt.toNat < 64 := by
          obtain ⟨b0, b1⟩ := b
          clear em bsm c1 c2 hh ne0 f2 f4
          generalize (MB s.k s.d j).toInt = m at b0 b1 ⊢
          omega
        have t := bits_less (tg g j) (tg_lt g j) (MB s.k s.d j).toInt.toNat lt
        rw [← em, ← bsm, bc_eq (MB s.k s.d j)] at t
        exact t
      rw [bl] at h
      clear bl f2 f1 h4
      generalize bc (MB s.k s.d j) = B at h c1 hcnt ne0
      generalize MB s.k s.d j = MM at h hh hcnt
      have cb : ∀ w, j + 1 ≤ w → w < j + 1 + (N - (j + 1)) → C w ≤ 6 := fun w h1 h2 => (hC w (by omega)).1.2
      have ble := Nat.le_trans (Bq_le (N - (j + 1)) (j + 1) cb) pl
      have hBq : Bq C j (N - j) = C j * Bq C (j + 1) (N - (j + 1)) := by rw [eN]; rfl
      have hLf : Lf C H j (N - j) = (if H j = true then max (Lf C H (j + 1) (N - (j + 1))) ((C j - 1) * Bq C (j + 1) (N - (j + 1))) else C j * Bq C (j + 1) (N - (j + 1))) := by rw [eN]; rfl
      obtain ⟨bb, hbb⟩ : ∃ bb, bb = Bq C (j + 1) (N - (j + 1)) := ⟨_, rfl⟩
      obtain ⟨ll, hll⟩ : ∃ ll, ll = Lf C H (j + 1) (N - (j + 1)) := ⟨_, rfl⟩
      have ih' := fun (x2' : Int32) (M' : Nat) (q1 : x2'.toInt = (M' : Int)) (q2 : M' ≤ 46656) (R : Int32) (q3 : R.toInt = (bb : Int)) (q4 : r_leftOf_10L n z x1 x2' R (x4 + 1) = some (r, z')) => ih x2' R (x4 + 1) (j + 1) M' (by omega) a4 q1 q2 (by rw [← hbb]; exact q3) q4
      rw [← hll] at ih' hLf
      rw [← hbb] at ble hBq hLf
      rw [hBq] at e3
      rw [hLf]
      clear hBq hLf hbb hll ih a4 e4 cb pl
      have dv : (x3 / B).toInt = (bb : Int) := by
        rw [ti_div (by rw [e3]; exact Int.natCast_nonneg _) (by omega), e3, c1, ← Int.natCast_ediv, Nat.mul_div_cancel_left _ c0]
      generalize x3 / B = R at h dv
      have big : ∀ O : Nat, O ≤ 6 → O * bb ≤ 46656 := fun O hO => Nat.le_trans (Nat.mul_le_mul hO ble) (by decide)
      -- what is greatest so far
      have upd2 : ∀ (o : Int32) (O : Nat), o.toInt = (O : Int) → O ≤ 6 → (if o * R ≤ x2 then r_leftOf_72 (r_leftOf_10L n) z x1 x2 R x4 MM o else r_leftOf_72 (r_leftOf_10L n) z x1 (o * R) R x4 MM o) = some (r, z') → ∃ y2 : Int32, y2.toInt = ((max M (O * bb) : Nat) : Int) ∧ r_leftOf_72 (r_leftOf_10L n) z x1 y2 R x4 MM o = some (r, z') := by
        intro o O eo hO h
        have bo := big O hO
        have eR : (o * R).toInt = ((O * bb : Nat) : Int) := mul_nn eo dv (Nat.le_trans bo (by decide))
        by_cases l : o * R ≤ x2
        · have l' := ti_le l
          rw [if_pos l] at h
          refine ⟨x2, ?_, h⟩
          rw [eR, e2] at l'
          rw [e2]
          generalize O * bb = q at l' ⊢
          omega
        · have l' := ti_nle l
          rw [if_neg l] at h
          refine ⟨o * R, ?_, h⟩
          rw [eR, e2] at l'
          rw [eR]
          generalize O * bb = q at l' ⊢
          omega
      by_cases d : (MM >>> ((Int32.ofNat (tg g j)) &&& 31)) &&& 1 = 1
      · have hi := hh.mpr d
        rw [if_pos d] at h
        have a1 : (B - 1).toInt = ((C j - 1 : Nat) : Int) := sub_nn c1 (by decide : (1 : Int32).toInt = ((1 : Nat) : Int)) (by omega) c0
        obtain ⟨y2, ey2, h⟩ := upd2 _ (C j - 1) a1 (by omega) h
        unfold r_leftOf_72 at h
        rw [hcnt, bindP_some, if_neg (fun q => by
          have q2 := congrArg Int32.toInt q
          rw [a1, c1] at q2
          have := Int.ofNat_inj.mp q2
          omega)] at h
        have bo := big (C j - 1) (by omega)
        rw [if_pos hi]
        generalize (C j - 1) * bb = q at ey2 bo ⊢
        obtain ⟨i1, i2⟩ := ih' y2 (max M q) ey2 (by omega) R dv h
        refine ⟨?_, i2⟩
        rw [i1]
        omega
      · have hi : ¬ H j = true := fun q => d (hh.mp q)
        rw [if_neg d] at h
        obtain ⟨y2, ey2, h⟩ := upd2 _ (C j) c1 c2 h
        unfold r_leftOf_72 at h
        rw [hcnt, bindP_some, if_pos rfl] at h
        have g1 : y2 = r := congrArg Prod.fst (Option.some.inj h)
        have g2 : z = z' := congrArg Prod.snd (Option.some.inj h)
        rw [← g1, ← g2, ey2, if_neg hi]
        refine ⟨?_, rfl⟩
        generalize C j * bb = q
        omega
theorem r_leftL {s : JS} {z z' : RS} {x1 r : Int32} {g N : Nat} (hJ : JR s z) (hN : (s.k.v 1).toInt = (N : Int)) (hN5 : N ≤ 5) (hz : (z.f 20 (z.v 18).toNatClampNeg).toInt = (N : Int)) (eg : x1.toInt = (g : Int)) (hc : ∀ w, w < N → 1 ≤ cw s.k s.d w) (n : Nat) (x2 x3 x4 : Int32) (j M : Nat) (hj : j ≤ N) (e4 : x4.toInt = (j : Int)) (e2 : x2.toInt = (M : Int)) (hM : M ≤ 46656) (e3 : x3.toInt = (Bq (cw s.k s.d) j (N - j) : Int)) (h : r_leftOf_10L n z x1 x2 x3 x4 = some (r, z')) : r.toInt = (max M (Lf (cw s.k s.d) (hb s.k s.d g) j (N - j)) : Int) ∧ z' = z :=
  r_leftLg hJ hN hN5 hz eg (ch_cw hJ hN hN5) hc n x2 x3 x4 j M hj e4 e2 hM e3 h
/-- left of a guess, as a number: cases being there -/
theorem Bq_zero {c : Nat → Nat} : ∀ m j, ¬ Bq c j m = 0 → ∀ w, j ≤ w → w < j + m → 1 ≤ c w := by
  intro m
  induction m with
  | zero => intro j _ w h1 h2; omega
  | succ m ih =>
    intro j h w h1 h2
    have h : ¬ c j * Bq c (j + 1) m = 0 := h
    have c0 : ¬ c j = 0 := fun q => h (by rw [q, Nat.zero_mul])
    have b0 : ¬ Bq c (j + 1) m = 0 := fun q => h (by rw [q, Nat.mul_zero])
    by_cases e : w = j
    · rw [e]; omega
    · exact ih (j + 1) b0 w (by omega) (by omega)
theorem left_pair {s s' : JS} {z z' : RS} {x r1 r2 q : Int32} {g N : Nat} (hJ : JR s z) (hN : (s.k.v 1).toInt = (N : Int)) (hN5 : N ≤ 5) (hz : (z.f 20 (z.v 18).toNatClampNeg).toInt = (N : Int)) (eg : x.toInt = (g : Int)) (hq : (q, z) = (fo (fun j x => x * bcount (MB s.k s.d j)) 0 N (1 : Int32), z)) (q0 : ¬ q = 0) (h1 : kX2_leftBehind s x = some (r1, s')) (h2 : r_leftOf z x = some (r2, z')) : r1 = r2 ∧ s' = s ∧ z' = z ∧ r1.toInt = (Lf (cw s.k s.d) (hb s.k s.d g) 0 N : Int) := by
  have pl := pow_le N hN5
  have eq : q = fo (fun j x => x * bcount (MB s.k s.d j)) 0 N (1 : Int32) := congrArg Prod.fst hq
  have fp := fo_prod hJ hN hN5 N 0 1 1 (by omega) (by decide) (by rw [Nat.one_mul]; exact pl)
  rw [Nat.one_mul] at fp
  have qi : q.toInt = (Bq (cw s.k s.d) 0 N : Int) := by rw [eq]; exact fp
  have bz : ¬ Bq (cw s.k s.d) 0 N = 0 := fun e => q0 (Int32.toInt_inj.mp (by rw [qi, e]; decide))
  have hc : ∀ w, w < N → 1 ≤ cw s.k s.d w := fun w hw => Bq_zero N 0 bz w (by omega) (by omega)
  unfold kX2_leftBehind at h1
  have a5 : ((s.k.v 1) - 1).toInt = (N : Int) - 1 := tn_sub hN (by decide : (1 : Int32).toInt = 1) (by omega) (by omega)
  obtain ⟨i1, i2⟩ := k_leftL hJ hN hN5 eg fu 1 1 _ N (Nat.le_refl _) a5 (by rw [Nat.sub_self]; show (1 : Int32).toInt = ((1 : Nat) : Int); decide) (by rw [Nat.sub_self]; show (1 : Int32).toInt = ((1 : Nat) : Int); decide) h1
  unfold r_leftOf at h2
  replace h2 := bindI_inv h2
  obtain ⟨q2, z1, w1, h2⟩ := h2
  have e2 := r_casesN hJ hN hN5 hz w1
  have e3 : q2 = q := by rw [eq]; exact congrArg Prod.fst e2
  have e4 : z1 = z := congrArg Prod.snd e2
  rw [e3, e4] at h2
  obtain ⟨i3, i4⟩ := r_leftL hJ hN hN5 hz eg hc fu 0 q 0 0 0 (by omega) (by decide) (by decide) (by omega) (by rw [Nat.sub_zero]; exact qi) h2
  rw [Nat.sub_zero] at i3
  refine ⟨Int32.toInt_inj.mp ?_, i2, i4, i1⟩
  rw [i1, i3]
  generalize Lf (cw s.k s.d) (hb s.k s.d g) 0 N = l
  omega
theorem left_same {y : YS} {x' : XS} {z z' : RS} {x1 r1 r2 : Int32} (h : REL y z) (hK : InvK y.x.k) (hI : InvR z) (hB : Big z) (h1 : kX10_left y.x x1 = some (r1, x')) (h2 : r_left z x1 = some (r2, z')) : r1 = r2 ∧ True := by
  refine ⟨?_, trivial⟩
  unfold kX10_left at h1
  unfold r_left at h2
  rw [kg_eq, bindI_some] at h1
  rw [rg_eq hI hK h.1, bindI_some] at h2
  replace h1 := letS_inv h1
  obtain ⟨s3, c3, h1⟩ := h1
  have e3 : s3 = y.x := by rw [← c3]; rfl
  rw [e3] at h1
  by_cases hg : 0 ≤ x1.toInt ∧ x1.toInt < (y.x.k.v 3).toInt
  · rw [if_pos hg, if_neg z_one] at h1 h2
    replace h1 := bindI_inv h1
    obtain ⟨q1, s6, u6, h1⟩ := h1
    replace h1 := letS_inv h1
    obtain ⟨s8, c8, h1⟩ := h1
    replace h2 := bindP_inv h2
    obtain ⟨z4, w4, h2⟩ := h2
    replace h2 := bindI_inv h2
    obtain ⟨q2, z5, w5, h2⟩ := h2
    obtain ⟨hJ, _⟩ := h.jr hK hI hB w4
    obtain ⟨N, hN, hN5, hz⟩ := hJ.nn
    obtain ⟨g, eg⟩ : ∃ g : Nat, x1.toInt = (g : Int) := ⟨x1.toInt.toNat, by omega⟩
    have a := k_casesN hN hN5 u6
    obtain ⟨e1, e2, e5⟩ := casesN_same hJ u6 w5
    have e8 : s8 = y.x := by rw [← c8, e2]; rfl
    rw [e8] at h1
    rw [e5, ← e1] at h2
    by_cases c : q1 = 0
    · rw [if_pos c] at h1 h2
      have f1 : -2 = r1 := congrArg Prod.fst (Option.some.inj h1)
      have f2 : -2 = r2 := congrArg Prod.fst (Option.some.inj h2)
      rw [← f1, ← f2]
    · rw [if_neg c] at h1 h2
      replace h1 := bindI_inv h1
      obtain ⟨a12, s11, u11, h1⟩ := h1
      replace h1 := letS_inv h1
      obtain ⟨s13, _, h1⟩ := h1
      replace h2 := bindI_inv h2
      obtain ⟨b9, z8, w8, h2⟩ := h2
      have f1 : a12 = r1 := congrArg Prod.fst (Option.some.inj h1)
      have f2 : b9 = r2 := congrArg Prod.fst (Option.some.inj h2)
      have aq : q1 = fo (fun j x => x * bcount (MB y.x.k y.x.n j)) 0 N (1 : Int32) := congrArg Prod.fst a
      have hq : (q1, z4) = (fo (fun j x => x * bcount (MB y.x.k y.x.n j)) 0 N (1 : Int32), z4) := by rw [aq]
      have p := left_pair hJ hN hN5 hz eg hq c u11 w8
      rw [← f1, ← f2]
      exact p.1
  · rw [if_neg hg, if_pos rfl] at h1 h2
    have f1 : -1 = r1 := congrArg Prod.fst (Option.some.inj h1)
    have f2 : -1 = r2 := congrArg Prod.fst (Option.some.inj h2)
    rw [← f1, ← f2]
end
section
/-! ===== spread ===== -/
theorem mmin_int {a b : Int32} : (mmin a b).toInt = min a.toInt b.toInt := by
  unfold mmin
  by_cases c : b < a
  · have c' := ti_lt c
    rw [if_pos c]
    omega
  · have c' := ti_nlt c
    rw [if_neg c]
    omega
noncomputable def SPR (lc mc mr lr : Int32) : Prop := mc = mr ∧ ((lc.toInt = 9 ∧ lr.toInt = 10 ∧ mc.toInt = 0) ∨ (lc = lr ∧ 1 ≤ lc.toInt ∧ lc.toInt ≤ mc.toInt ∧ mc.toInt ≤ 9))
theorem spreadL {s s' : JS} {z z' : RS} {x1 r1 r2 : Int32} {w N : Nat} (hJ : JR s z) (hF : FO s.k s.d) (hN : (s.k.v 1).toInt = (N : Int)) (hN5 : N ≤ 5) (ew : x1.toInt = (w : Int)) (hw : w < N) : ∀ (n m : Nat) (lc mc mr lr y : Int32) (j : Nat), SPR lc mc mr lr → y.toInt = (j : Int) → j ≤ 6 → kX2_oddsApart_9L n s x1 lc mc y = some (r1, s') → r_spread_22L m z x1 mr lr y = some (r2, z') → r1 = r2 := by
  have bl : 0 ≤ (z.v 18).toInt ∧ (z.v 18).toInt ≤ 1 := hJ.2.2.2.1.1 18
  obtain ⟨l, hl⟩ : ∃ l : Nat, (z.v 18).toInt = (l : Int) := ⟨(z.v 18).toInt.toNat, by omega⟩
  have og := (od_big hJ.2.2.1 hJ.1 hl (w := w) (by omega)).1
  intro n
  induction n with
  | zero => intro m lc mc mr lr y j _ _ _ h; exact none_ne h
  | succ n ih =>
    intro m lc mc mr lr y j hS ey hj h1 h2
    cases m with
    | zero => exact none_ne h2
    | succ m =>
    replace h1 : kX2_oddsApart_9 (kX2_oddsApart_9L n) s x1 lc mc y = some (r1, s') := h1
    replace h2 : r_spread_22 (r_spread_22L m) z x1 mr lr y = some (r2, z') := h2
    obtain ⟨em, hc⟩ := hS
    unfold kX2_oddsApart_9 kX2_oddsApart_47 at h1
    unfold r_spread_22 r_spread_61 r_spread_80 at h2
    have z0 : (0 : Int32).toInt = 0 := by decide
    by_cases c : 6 ≤ y
    · rw [if_pos c] at h1 h2
      have f1 : mmax 0 (mc - lc) = r1 := congrArg Prod.fst (Option.some.inj h1)
      refine Int32.toInt_inj.mp ?_
      rw [← f1, mmax_int, z0, tn_sub (x := mc) (y := lc) rfl rfl (by omega) (by omega)]
      rw [← em] at h2
      have lb : 1 ≤ lr.toInt ∧ lr.toInt ≤ 10 := by
        rcases hc with ⟨a1, a2, a3⟩ | ⟨a1, a2, a3, a4⟩
        · exact ⟨by omega, by omega⟩
        · rw [← a1]
          exact ⟨by omega, by omega⟩
      by_cases d : lr ≤ mc
      · have d' := ti_le d
        rw [if_pos d] at h2
        have f2 : mc - lr = r2 := congrArg Prod.fst (Option.some.inj h2)
        rw [← f2, tn_sub (x := mc) (y := lr) rfl rfl (by omega) (by omega)]
        rcases hc with ⟨a1, a2, a3⟩ | ⟨a1, a2, a3, a4⟩
        · omega
        · have a5 := congrArg Int32.toInt a1
          omega
      · have d' := ti_nle d
        rw [if_neg d] at h2
        have f2 : 0 = r2 := congrArg Prod.fst (Option.some.inj h2)
        rw [← f2, z0]
        rcases hc with ⟨a1, a2, a3⟩ | ⟨a1, a2, a3, a4⟩
        · omega
        · rw [← a1] at d'
          omega
    · have c' := tn_nle (a := 6) (by decide) rfl c
      rw [if_neg c] at h1 h2
      have hv : j < 6 := by omega
      have ej : y = Int32.ofNat j := eq_ofnat ey
      have ay : (y + 1).toInt = ((j + 1 : Nat) : Int) := by
        rw [tn_add ey (by decide : (1 : Int32).toInt = 1) (by omega) (by omega)]
        omega
      rw [k_oim ew (by omega) ey hv, bindI_some] at h1
      replace h2 := bindI_inv h2
      obtain ⟨b4, z3, w3, h2⟩ := h2
      obtain ⟨m1, m2⟩ := hJ.maybe hN hN5 ew hw w3
      rw [m1, m2] at h2
      by_cases d : (((MB s.k s.d w) >>> (y &&& 31)) &&& 1) = 1
      · have d2 : (((MB s.k s.d w) >>> ((Int32.ofNat j) &&& 31)) &&& 1) = 1 := by rw [← ej]; exact d
        have eo : OF s.k s.d w j = s.k.f 3 (6 * w + j) := by
          unfold OF
          rw [if_pos d2]
        have po := MB_odds hJ.1 (hJ.2.1.at (by omega)) hF (by omega) hv d2
        have o9 := (og j hv).2
        rw [eo, if_neg (fun q => by
          have := ti_le q
          omega)] at h1
        rw [if_pos d, if_neg z_one] at h2
        have od : ∀ (b : Int32) (u : RS), r_oddsAt z x1 y = some (b, u) → u = z ∧ b = s.k.f 3 (6 * w + j) := fun b u hb => hJ.odds hN hN5 ew hw ey hv hb
        replace h2 := bindI_inv h2
        obtain ⟨b7, z6, w6, h2⟩ := h2
        obtain ⟨g1, g2⟩ := od b7 z6 w6
        rw [g1, g2] at h2
        generalize s.k.f 3 (6 * w + j) = o at h1 h2 po o9 od
        -- the greatest
        have st2 : ∃ mr' : Int32, mr'.toInt = max mc.toInt o.toInt ∧ (bindI (r_oddsAt z x1 y) fun r2 s1 => if lr ≤ r2 then r_spread_22L m s1 x1 mr' lr (y + 1) else bindI (r_oddsAt s1 x1 y) fun r5 s4 => r_spread_22L m s4 x1 mr' r5 (y + 1)) = some (r2, z') := by
          rw [← em] at h2
          by_cases q : o ≤ mc
          · have q' := ti_le q
            rw [if_pos q] at h2
            exact ⟨mc, by omega, h2⟩
          · have q' := ti_nle q
            rw [if_neg q] at h2
            replace h2 := bindI_inv h2
            obtain ⟨b10, z9, w9, h2⟩ := h2
            obtain ⟨g3, g4⟩ := od b10 z9 w9
            rw [g3, g4] at h2
            exact ⟨o, by omega, h2⟩
        obtain ⟨mr', emr, h3⟩ := st2
        replace h3 := bindI_inv h3
        obtain ⟨b2, z1, w1, h3⟩ := h3
        obtain ⟨g5, g6⟩ := od b2 z1 w1
        rw [g5, g6] at h3
        have e1 : mmax mc o = mr' := Int32.toInt_inj.mp (by rw [mmax_int, emr])
        rw [e1] at h1
        -- the least
        have fin : ∀ lr' : Int32, lr'.toInt = min lr.toInt o.toInt → r_spread_22L m z x1 mr' lr' (y + 1) = some (r2, z') → r1 = r2 := by
          intro lr' elr g
          refine ih m _ mr' mr' lr' (y + 1) (j + 1) ⟨rfl, Or.inr ⟨Int32.toInt_inj.mp ?_, ?_, ?_, ?_⟩⟩ ay (by omega) h1 g
          · rw [mmin_int, elr]
            rcases hc with ⟨a1, a2, a3⟩ | ⟨a1, a2, a3, a4⟩
            · omega
            · rw [a1]
          · rw [mmin_int]
            rcases hc with ⟨a1, a2, a3⟩ | ⟨a1, a2, a3, a4⟩ <;> omega
          · rw [mmin_int, emr]
            omega
          · rw [emr]
            rcases hc with ⟨a1, a2, a3⟩ | ⟨a1, a2, a3, a4⟩ <;> omega
        by_cases q : lr ≤ o
        · have q' := ti_le q
          rw [if_pos q] at h3
          exact fin lr (by omega) h3
        · have q' := ti_nle q
          rw [if_neg q] at h3
          replace h3 := bindI_inv h3
          obtain ⟨b5, z4, w4, h3⟩ := h3
          obtain ⟨g7, g8⟩ := od b5 z4 w4
          rw [g7, g8] at h3
          exact fin o (by omega) h3
      · have d2 : ¬ (((MB s.k s.d w) >>> ((Int32.ofNat j) &&& 31)) &&& 1) = 1 := by rw [← ej]; exact d
        have eo : OF s.k s.d w j = 0 := by
          unfold OF
          rw [if_neg d2]
        rw [eo, if_pos (by decide)] at h1
        rw [if_neg d, if_pos rfl] at h2
        exact ih m lc mc mr lr (y + 1) (j + 1) ⟨em, hc⟩ ay (by omega) h1 h2
theorem spread_same {y : YS} {x' : XS} {z z' : RS} {x1 r1 r2 : Int32} (h : REL y z) (hK : InvK y.x.k) (hI : InvR z) (hB : Big z) (h1 : kX10_spread y.x x1 = some (r1, x')) (h2 : r_spread z x1 = some (r2, z')) : r1 = r2 ∧ True := by
  refine ⟨?_, trivial⟩
  unfold kX10_spread at h1
  unfold r_spread at h2
  rw [kw_eq, bindI_some] at h1
  rw [rw_eq hI, bindI_some, ← h.1.1.1] at h2
  replace h1 := letS_inv h1
  obtain ⟨s3, c3, h1⟩ := h1
  have e3 : s3 = y.x := by rw [← c3]; rfl
  rw [e3] at h1
  by_cases hw : 0 ≤ x1.toInt ∧ x1.toInt < (y.x.k.v 1).toInt
  · rw [if_pos hw, if_neg z_one] at h1 h2
    replace h1 := bindI_inv h1
    obtain ⟨q7, s6, u6, h1⟩ := h1
    replace h1 := letS_inv h1
    obtain ⟨s8, _, h1⟩ := h1
    have f1 : q7 = r1 := congrArg Prod.fst (Option.some.inj h1)
    replace h2 := bindP_inv h2
    obtain ⟨z4, w4, h2⟩ := h2
    obtain ⟨hJ, _⟩ := h.jr hK hI hB w4
    obtain ⟨N, hN, hN5, hz⟩ := hJ.nn
    have hN : (y.x.k.v 1).toInt = (N : Int) := hN
    unfold kX2_oddsApart at u6
    rw [← f1]
    exact spreadL (w := x1.toInt.toNat) (s := JS.mk y.x.k y.x.n) hJ h.2.1.2 hN hN5 (by omega) (by omega) fu fu 9 0 0 10 0 0 ⟨rfl, Or.inl ⟨by decide, by decide, by decide⟩⟩ (by decide) (by omega) u6 h2
  · rw [if_neg hw, if_pos rfl] at h1 h2
    have f1 : -1 = r1 := congrArg Prod.fst (Option.some.inj h1)
    have f2 : -1 = r2 := congrArg Prod.fst (Option.some.inj h2)
    rw [← f1, ← f2]
end
section
/-! ===== wisest: the first guess of least left ===== -/
/-- left, where the guess goes wrong at a wave ahead of which there is one case each -/
theorem Lf_one {c : Nat → Nat} {h : Nat → Bool} : ∀ m j, (∀ w, j ≤ w → w < j + m → c w = 1) → Lf c h j m = 1 := by
  intro m
  induction m with
  | zero => intro j _; rfl
  | succ m ih =>
    intro j hc
    have c1 := hc j (by omega) (by omega)
    have i := ih (j + 1) (fun w h1 h2 => hc w (by omega) (by omega))
    have b : ∀ m j, (∀ w, j ≤ w → w < j + m → c w = 1) → Bq c j m = 1 := by
      intro m
      induction m with
      | zero => intro j _; rfl
      | succ m ihm =>
        intro j hq
        show c j * Bq c (j + 1) m = 1
        rw [hq j (by omega) (by omega), ihm (j + 1) (fun w h1 h2 => hq w (by omega) (by omega))]
    have b1 := b m (j + 1) (fun w h1 h2 => hc w (by omega) (by omega))
    show (if h j = true then max (Lf c h (j + 1) m) ((c j - 1) * Bq c (j + 1) m) else c j * Bq c (j + 1) m) = 1
    rw [i, b1, c1]
    by_cases d : h j = true
    · rw [if_pos d]
      omega
    · rw [if_neg d]
/-- never more than all cases from there on -/
theorem Lf_all {c : Nat → Nat} {h : Nat → Bool} : ∀ m j, (∀ w, j ≤ w → w < j + m → 1 ≤ c w) → Lf c h j m ≤ Bq c j m := by
  intro m
  induction m with
  | zero => intro j _; exact Nat.le_refl _
  | succ m ih =>
    intro j hc
    have c1 := hc j (by omega) (by omega)
    have i := ih (j + 1) (fun w h1 h2 => hc w (by omega) (by omega))
    have q1 : 1 * Bq c (j + 1) m ≤ c j * Bq c (j + 1) m := Nat.mul_le_mul_right _ c1
    have q2 : (c j - 1) * Bq c (j + 1) m ≤ c j * Bq c (j + 1) m := Nat.mul_le_mul_right _ (by omega)
    show (if h j = true then max (Lf c h (j + 1) m) ((c j - 1) * Bq c (j + 1) m) else c j * Bq c (j + 1) m) ≤ c j * Bq c (j + 1) m
    by_cases d : h j = true
    · rw [if_pos d]
      omega
    · rw [if_neg d]
      exact Nat.le_refl _
/-- right up to the first open wave and at it: what that wave leaves -/
theorem Lf_open {c : Nat → Nat} {h : Nat → Bool} {o : Nat} : ∀ m j, j ≤ o → o < j + m → (∀ w, j ≤ w → w < j + m → 1 ≤ c w) → (∀ w, j ≤ w → w < o → c w = 1) → 2 ≤ c o → (∀ w, j ≤ w → w ≤ o → h w = true) → Lf c h j m = (c o - 1) * Bq c (o + 1) (j + m - (o + 1)) := by
  intro m
  induction m with
  | zero => intro j h1 h2; omega
  | succ m ih =>
    intro j h1 h2 hc h3 h4 h5
    have hj := h5 j (by omega) h1
    have cj := hc j (by omega) (by omega)
    show (if h j = true then max (Lf c h (j + 1) m) ((c j - 1) * Bq c (j + 1) m) else c j * Bq c (j + 1) m) = _
    rw [if_pos hj]
    by_cases e : j = o
    · subst e
      have l := Lf_all (h := h) m (j + 1) (c := c) (fun w h1 h2 => hc w (by omega) (by omega))
      have q : 1 * Bq c (j + 1) m ≤ (c j - 1) * Bq c (j + 1) m := Nat.mul_le_mul_right _ (by omega)
      have es : j + (m + 1) - (j + 1) = m := by omega
      rw [es]
      omega
    · have i := ih (j + 1) (by omega) (by omega) (fun w h1 h2 => hc w (by omega) (by omega)) (fun w h1 h2 => h3 w (by omega) h2) h4 (fun w h1 h2 => h5 w (by omega) h2)
      have es : j + 1 + m - (o + 1) = j + (m + 1) - (o + 1) := by omega
      rw [i, h3 j (by omega) (by omega), es]
      omega
/-- the cases from j on are those from the first open wave on -/
theorem Bq_open {c : Nat → Nat} {o : Nat} : ∀ m j, j ≤ o → o < j + m → (∀ w, j ≤ w → w < o → c w = 1) → Bq c j m = c o * Bq c (o + 1) (j + m - (o + 1)) := by
  intro m
  induction m with
  | zero => intro j h1 h2; omega
  | succ m ih =>
    intro j h1 h2 h3
    show c j * Bq c (j + 1) m = _
    by_cases e : j = o
    · subst e
      have es : j + (m + 1) - (j + 1) = m := by omega
      rw [es]
    · have es : j + 1 + m - (o + 1) = j + (m + 1) - (o + 1) := by omega
      rw [h3 j (by omega) (by omega), ih (j + 1) (by omega) (by omega) (fun w h1 h2 => h3 w (by omega) h2), es, Nat.one_mul]
/-- wrong somewhere up to it: all cases are left -/
theorem Lf_wrong {c : Nat → Nat} {h : Nat → Bool} {o : Nat} : ∀ m j, j ≤ o → o < j + m → (∀ w, j ≤ w → w < j + m → 1 ≤ c w) → (∀ w, j ≤ w → w < o → c w = 1) → (∃ w, j ≤ w ∧ w ≤ o ∧ ¬ h w = true) → Lf c h j m = Bq c j m := by
  intro m
  induction m with
  | zero => intro j h1 h2; omega
  | succ m ih =>
    intro j h1 h2 hc h3 h5
    obtain ⟨w, w1, w2, w3⟩ := h5
    show (if h j = true then max (Lf c h (j + 1) m) ((c j - 1) * Bq c (j + 1) m) else c j * Bq c (j + 1) m) = c j * Bq c (j + 1) m
    by_cases d : h j = true
    · rw [if_pos d]
      have jw : ¬ j = w := fun q => w3 (by rw [← q]; exact d)
      have cj := h3 j (by omega) (by omega)
      have i := ih (j + 1) (by omega) (by omega) (fun w h1 h2 => hc w (by omega) (by omega)) (fun w h1 h2 => h3 w (by omega) h2) ⟨w, by omega, w2, w3⟩
      rw [i, cj]
      omega
    · rw [if_neg d]
end
section
/-! ===== wisest: both sides ===== -/
/-- a guess as a number of its things -/
theorem tg_split (g : Nat) : ∀ n, dsum (tg g) n + 6 ^ n * (g / 6 ^ n) = g := by
  intro n
  induction n with
  | zero =>
    show 0 + 6 ^ 0 * (g / 6 ^ 0) = g
    rw [Nat.pow_zero, Nat.div_one]
    omega
  | succ n ih =>
    have e6 : 6 ^ (n + 1) = 6 ^ n * 6 := Nat.pow_succ _ _
    have dd : g / 6 ^ n / 6 = g / (6 ^ n * 6) := Nat.div_div_eq_div_mul _ _ _
    have a : 6 * (g / 6 ^ n / 6) + g / 6 ^ n % 6 = g / 6 ^ n := Nat.div_add_mod _ _
    show dsum (tg g) n + 6 ^ n * tg g n + 6 ^ (n + 1) * (g / 6 ^ (n + 1)) = g
    rw [e6, ← dd]
    have m : 6 ^ n * 6 * (g / 6 ^ n / 6) = 6 ^ n * (6 * (g / 6 ^ n / 6)) := Nat.mul_assoc _ _ _
    have s : 6 ^ n * (6 * (g / 6 ^ n / 6) + tg g n) = 6 ^ n * (6 * (g / 6 ^ n / 6)) + 6 ^ n * tg g n := Nat.mul_add _ _ _
    have t : 6 * (g / 6 ^ n / 6) + tg g n = g / 6 ^ n := a
    rw [t] at s
    rw [m]
    omega
theorem dsum_le {D E : Nat → Nat} : ∀ n, (∀ w, w < n → D w ≤ E w) → dsum D n ≤ dsum E n := by
  intro n
  induction n with
  | zero => intro _; exact Nat.le_refl _
  | succ n ih =>
    intro h
    have i := ih (fun w hw => h w (by omega))
    have q : 6 ^ n * D n ≤ 6 ^ n * E n := Nat.mul_le_mul_left _ (h n (by omega))
    show dsum D n + 6 ^ n * D n ≤ dsum E n + 6 ^ n * E n
    omega
theorem dsum_cg {D E : Nat → Nat} : ∀ n, (∀ w, w < n → D w = E w) → dsum D n = dsum E n := by
  intro n
  induction n with
  | zero => intro _; rfl
  | succ n ih =>
    intro h
    show dsum D n + 6 ^ n * D n = dsum E n + 6 ^ n * E n
    rw [ih (fun w hw => h w (by omega)), h n (by omega)]
theorem dsum_tg_le (g n : Nat) : dsum (tg g) n ≤ g := by
  have a := tg_split g n
  omega
theorem pow6_le : ∀ m n : Nat, m ≤ n → 6 ^ m ≤ 6 ^ n := fun m n h => Nat.pow_le_pow_right (by omega) h
/-- the lowest bit -/
noncomputable def bitn (x : Int32) (v : Nat) : Prop := (x >>> ((Int32.ofNat v) &&& 31)) &&& 1 = 1
noncomputable def lowb (x : Int32) : Nat := if (x >>> ((Int32.ofNat 0) &&& 31)) &&& 1 = 1 then 0 else if (x >>> ((Int32.ofNat 1) &&& 31)) &&& 1 = 1 then 1 else if (x >>> ((Int32.ofNat 2) &&& 31)) &&& 1 = 1 then 2 else if (x >>> ((Int32.ofNat 3) &&& 31)) &&& 1 = 1 then 3 else if (x >>> ((Int32.ofNat 4) &&& 31)) &&& 1 = 1 then 4 else 5
theorem low_small : ∀ n, n < 64 → n = 0 ∨ (kJ6_numberOfTrailingZeros_0f7a4 (Int32.ofNat n) = some (Int32.ofNat (lowb (Int32.ofNat n))) ∧ lowb (Int32.ofNat n) < 6 ∧ ((Int32.ofNat n) >>> ((Int32.ofNat (lowb (Int32.ofNat n))) &&& 31)) &&& 1 = 1 ∧ ∀ u, u < lowb (Int32.ofNat n) → ¬ ((Int32.ofNat n) >>> ((Int32.ofNat u) &&& 31)) &&& 1 = 1) := by decide +kernel
theorem low_ok {x : Int32} (h0 : 0 ≤ x.toInt) (h1 : x.toInt ≤ 63) (hz : ¬ x = 0) : kJ6_numberOfTrailingZeros_0f7a4 x = some (Int32.ofNat (lowb x)) ∧ lowb x < 6 ∧ (x >>> ((Int32.ofNat (lowb x)) &&& 31)) &&& 1 = 1 ∧ ∀ u, u < lowb x → ¬ (x >>> ((Int32.ofNat u) &&& 31)) &&& 1 = 1 := by
  obtain ⟨n, en⟩ : ∃ n : Nat, x.toInt = (n : Int) := ⟨x.toInt.toNat, by omega⟩
  have ex : x = Int32.ofNat n := eq_ofnat en
  rcases low_small n (by omega) with e | e
  · exact absurd (by rw [ex, e]; decide) hz
  · rw [ex]
    exact e
theorem bcount_zero : bcount 0 = 0 := by decide
theorem Lo_ex : ∃ f : KS → SD → Nat → Nat, ∀ k d w, f k d w = lowb (MB k d w) := ⟨fun k d w => lowb (MB k d w), fun _ _ _ => rfl⟩
noncomputable def Lo : KS → SD → Nat → Nat := Classical.choose Lo_ex
theorem Lo_eq (k : KS) (d : SD) (w : Nat) : Lo k d w = lowb (MB k d w) := Classical.choose_spec Lo_ex k d w
theorem Lo_ok {s : JS} {z : RS} {j N : Nat} (hJ : JR s z) (hN : (s.k.v 1).toInt = (N : Int)) (hN5 : N ≤ 5) (hj : j < N) (hc : 1 ≤ cw s.k s.d j) : kJ6_numberOfTrailingZeros_0f7a4 (MB s.k s.d j) = some (Int32.ofNat (Lo s.k s.d j)) ∧ Lo s.k s.d j < 6 ∧ ((MB s.k s.d j) >>> ((Int32.ofNat (Lo s.k s.d j)) &&& 31)) &&& 1 = 1 ∧ ∀ u, u < Lo s.k s.d j → ¬ ((MB s.k s.d j) >>> ((Int32.ofNat u) &&& 31)) &&& 1 = 1 := by
  have b := MB_small (w := j) hJ.1 (hJ.2.1.at (by omega)) hJ.2.2.2.2.1 (by omega)
  rw [Lo_eq]
  refine low_ok b.1 b.2 (fun e => ?_)
  have c : cw s.k s.d j = 0 := by
    rw [cw_eq, e, ← bc_eq, bcount_zero]
    decide
  rw [c] at hc
  exact absurd hc (by decide)
/-- the class's wisest: the first open wave -/
theorem k_wisestL {s s' : JS} {z : RS} {r : Int32} {N : Nat} (hJ : JR s z) (hN : (s.k.v 1).toInt = (N : Int)) (hN5 : N ≤ 5) (hc : ∀ w, w < N → 1 ≤ cw s.k s.d w) : ∀ (n : Nat) (x2 x3 x4 : Int32) (j : Nat), j ≤ N → x4.toInt = (j : Int) → x3.toInt = ((6 ^ j : Nat) : Int) → x2.toInt = (dsum (Lo s.k s.d) j : Int) → (∀ w, w < j → cw s.k s.d w = 1) → kX2_wisestGuess_7L n s x2 x3 x4 = some (r, s') → s' = s ∧ (((∀ w, w < N → cw s.k s.d w = 1) ∧ r = 0) ∨ (∃ o, o < N ∧ (∀ w, w < o → cw s.k s.d w = 1) ∧ 2 ≤ cw s.k s.d o ∧ r.toInt = (dsum (Lo s.k s.d) (o + 1) : Int))) := by
  intro n
  induction n with
  | zero => intro x2 x3 x4 j _ _ _ _ _ h; exact none_ne h
  | succ n ih =>
    intro x2 x3 x4 j hj e4 e3 e2 hw h
    replace h : kX2_wisestGuess_7 (kX2_wisestGuess_7L n) s x2 x3 x4 = some (r, s') := h
    unfold kX2_wisestGuess_7 at h
    by_cases c : s.k.v 1 ≤ x4
    · have c' := ti_le c
      rw [if_pos c] at h
      have e := Option.some.inj h
      exact ⟨(congrArg Prod.snd e).symm, Or.inl ⟨fun w q => hw w (by omega), (congrArg Prod.fst e).symm⟩⟩
    · have c' := ti_nle c
      have hjN : j < N := by omega
      obtain ⟨l1, l2, l3, l4⟩ := Lo_ok hJ hN hN5 hjN (hc j hjN)
      obtain ⟨q1, q2⟩ := cw_int hJ hN hN5 hjN
      rw [if_neg c, k_may e4 (by omega), bindI_some, l1, bindP_some, k_cnt e4 (by omega), bindI_some, bc_eq (MB s.k s.d j)] at h
      have ol : (Int32.ofNat (Lo s.k s.d j)).toInt = (Lo s.k s.d j : Int) := ofnat_int (by omega)
      generalize Int32.ofNat (Lo s.k s.d j) = W at h ol
      generalize bc (MB s.k s.d j) = B at h q1
      clear l1 l3 l4
      have p5 : 6 ^ j ≤ 1296 := pow6_le j 4 (by omega)
      have m1 : 6 ^ j * Lo s.k s.d j ≤ 1296 * 5 := Nat.mul_le_mul p5 (by omega)
      have pm : (x3 * W).toInt = ((6 ^ j * Lo s.k s.d j : Nat) : Int) := mul_nn e3 ol (Nat.le_trans m1 (by decide))
      have dl : dsum (Lo s.k s.d) j < 6 ^ j := dsum_lt j (fun w hw => (Lo_ok hJ hN hN5 (by omega) (hc w (by omega))).2.1)
      have a2 : (x2 + (x3 * W)).toInt = (dsum (Lo s.k s.d) (j + 1) : Int) := add_nn e2 pm (Nat.le_trans (Nat.add_le_add (Nat.le_trans (Nat.le_of_lt dl) p5) m1) (by decide))
      have a4 : (x4 + 1).toInt = ((j + 1 : Nat) : Int) := add_nn e4 (by decide : (1 : Int32).toInt = ((1 : Nat) : Int)) (by omega)
      have a3 : (x3 * 6).toInt = ((6 ^ (j + 1) : Nat) : Int) := by
        rw [Nat.pow_succ]
        exact mul_nn e3 (by decide : (6 : Int32).toInt = ((6 : Nat) : Int)) (Nat.le_trans (Nat.mul_le_mul_right 6 p5) (by decide))
      clear pm dl m1 p5 ol
      by_cases b : B ≤ 1
      · have b' := tn_le q1 (by decide : (1 : Int32).toInt = 1) b
        rw [if_pos b] at h
        have c1 : cw s.k s.d j = 1 := by
          have := hc j hjN
          generalize cw s.k s.d j = C at this b' ⊢
          omega
        exact ih _ _ _ (j + 1) (by omega) a4 a3 a2 (fun w q => by
          by_cases e : w = j
          · rw [e]; exact c1
          · exact hw w (by omega)) h
      · have b' := tn_nle q1 (by decide : (1 : Int32).toInt = 1) b
        rw [if_neg b] at h
        have e := Option.some.inj h
        refine ⟨(congrArg Prod.snd e).symm, Or.inr ⟨j, hjN, hw, by omega, ?_⟩⟩
        rw [← pr_fst e]
        exact a2
/-- what it leaves is least, and it is the first such -/
noncomputable def LFg (k : KS) (d : SD) (N g : Nat) : Nat := Lf (cw k d) (hb k d g) 0 N
theorem wise_least {s : JS} {z : RS} {N o : Nat} (hJ : JR s z) (hN : (s.k.v 1).toInt = (N : Int)) (hN5 : N ≤ 5) (hc : ∀ w, w < N → 1 ≤ cw s.k s.d w) (ho : o < N) (h1 : ∀ w, w < o → cw s.k s.d w = 1) (h2 : 2 ≤ cw s.k s.d o) (g : Nat) : LFg s.k s.d N (dsum (Lo s.k s.d) (o + 1)) ≤ LFg s.k s.d N g ∧ (g < dsum (Lo s.k s.d) (o + 1) → LFg s.k s.d N (dsum (Lo s.k s.d) (o + 1)) < LFg s.k s.d N g) := by
  have L : ∀ w, w < o + 1 → Lo s.k s.d w < 6 := fun w hw => (Lo_ok hJ hN hN5 (by omega) (hc w (by omega))).2.1
  have right : ∀ w, 0 ≤ w → w ≤ o → hb s.k s.d (dsum (Lo s.k s.d) (o + 1)) w = true := by
    intro w _ hw
    refine (hb_iff _ _ _ _).mpr ?_
    rw [tg_dsum (o + 1) L w (by omega)]
    exact (Lo_ok hJ hN hN5 (by omega) (hc w (by omega))).2.2.1
  have e1 : LFg s.k s.d N (dsum (Lo s.k s.d) (o + 1)) = (cw s.k s.d o - 1) * Bq (cw s.k s.d) (o + 1) (0 + N - (o + 1)) := Lf_open N 0 (by omega) (by omega) (fun w _ q => hc w (by omega)) (fun w _ q => h1 w q) h2 right
  have bp : 1 ≤ Bq (cw s.k s.d) (o + 1) (0 + N - (o + 1)) := Bq_pos _ _ (fun w q1 q2 => hc w (by omega))
  by_cases r : ∀ w, w ≤ o → hb s.k s.d g w = true
  · have e2 : LFg s.k s.d N g = (cw s.k s.d o - 1) * Bq (cw s.k s.d) (o + 1) (0 + N - (o + 1)) := Lf_open N 0 (by omega) (by omega) (fun w _ q => hc w (by omega)) (fun w _ q => h1 w q) h2 (fun w _ q => r w q)
    refine ⟨by rw [e1, e2]; exact Nat.le_refl _, fun lt => ?_⟩
    have le : dsum (Lo s.k s.d) (o + 1) ≤ dsum (tg g) (o + 1) := dsum_le (o + 1) (fun w hw => by
      have a := (hb_iff _ _ _ _).mp (r w (by omega))
      refine Nat.le_of_not_lt (fun q => ?_)
      exact (Lo_ok hJ hN hN5 (by omega) (hc w (by omega))).2.2.2 _ q a)
    have gl := dsum_tg_le g (o + 1)
    omega
  · have w' : ∃ w, 0 ≤ w ∧ w ≤ o ∧ ¬ hb s.k s.d g w = true := by
      refine Classical.byContradiction (fun q => r (fun w hw => ?_))
      exact Classical.byContradiction (fun q2 => q ⟨w, Nat.zero_le _, hw, q2⟩)
    have e2 : LFg s.k s.d N g = Bq (cw s.k s.d) 0 N := Lf_wrong N 0 (by omega) (by omega) (fun w _ q => hc w (by omega)) (fun w _ q => h1 w q) w'
    have e3 : Bq (cw s.k s.d) 0 N = cw s.k s.d o * Bq (cw s.k s.d) (o + 1) (0 + N - (o + 1)) := Bq_open N 0 (by omega) (by omega) (fun w _ q => h1 w q)
    have q : (cw s.k s.d o - 1) * Bq (cw s.k s.d) (o + 1) (0 + N - (o + 1)) + Bq (cw s.k s.d) (o + 1) (0 + N - (o + 1)) = cw s.k s.d o * Bq (cw s.k s.d) (o + 1) (0 + N - (o + 1)) := by
      obtain ⟨m, em⟩ : ∃ m, cw s.k s.d o = m + 1 := ⟨cw s.k s.d o - 1, by omega⟩
      rw [em, Nat.add_sub_cancel, Nat.add_mul, Nat.one_mul]
    rw [e1, e2, e3]
    exact ⟨by omega, fun _ => by omega⟩
theorem wise_one {s : JS} {N : Nat} (h1 : ∀ w, w < N → cw s.k s.d w = 1) (g : Nat) : LFg s.k s.d N g = 1 := Lf_one N 0 (fun w _ q => h1 w (by omega))
/-- the reference alone: what a guess leaves, how many guesses there are -/
theorem r_left_one {s : JS} {z z' : RS} {x r2 : Int32} {g N : Nat} (hJ : JR s z) (hN : (s.k.v 1).toInt = (N : Int)) (hN5 : N ≤ 5) (hz : (z.f 20 (z.v 18).toNatClampNeg).toInt = (N : Int)) (eg : x.toInt = (g : Int)) (hc : ∀ w, w < N → 1 ≤ cw s.k s.d w) (h2 : r_leftOf z x = some (r2, z')) : r2.toInt = (LFg s.k s.d N g : Int) ∧ z' = z := by
  have pl := pow_le N hN5
  have fp := fo_prod hJ hN hN5 N 0 1 1 (by omega) (by decide) (by rw [Nat.one_mul]; exact pl)
  rw [Nat.one_mul] at fp
  unfold r_leftOf at h2
  replace h2 := bindI_inv h2
  obtain ⟨q2, z1, w1, h2⟩ := h2
  have e2 := r_casesN hJ hN hN5 hz w1
  have e3 : q2 = fo (fun j x => x * bcount (MB s.k s.d j)) 0 N (1 : Int32) := congrArg Prod.fst e2
  have e4 : z1 = z := congrArg Prod.snd e2
  rw [e4] at h2
  obtain ⟨i3, i4⟩ := r_leftL hJ hN hN5 hz eg hc fu 0 q2 0 0 0 (by omega) (by decide) (by decide) (by omega) (by rw [Nat.sub_zero, e3]; exact fp) h2
  rw [Nat.sub_zero] at i3
  refine ⟨?_, i4⟩
  rw [i3]
  show (max 0 (LFg s.k s.d N g) : Int) = (LFg s.k s.d N g : Int)
  generalize LFg s.k s.d N g = l
  omega
theorem r_guessN {z z' : RS} {r : Int32} {N : Nat} (h6 : ∀ j, j < 6 → z.f 46 j = six6 j) (hN5 : N ≤ 5) (hz : (z.f 20 (z.v 18).toNatClampNeg).toInt = (N : Int)) (h : r_guesses z = some (r, z')) : z' = z ∧ r.toInt = ((6 ^ N : Nat) : Int) := by
  unfold r_guesses at h
  replace h := guard_inv h
  obtain ⟨_, h⟩ := h
  replace h := guard_inv h
  obtain ⟨_, h⟩ := h
  rw [clamp_of_int hz] at h
  have e := Option.some.inj h
  refine ⟨(congrArg Prod.snd e).symm, ?_⟩
  rw [← pr_fst e]
  show (z.f 46 N).toInt = _
  rw [h6 N (by omega), six_pow N hN5]
theorem r_wisestL {s : JS} {z z' : RS} {x1 r : Int32} {N G : Nat} (hJ : JR s z) (hN : (s.k.v 1).toInt = (N : Int)) (hN5 : N ≤ 5) (hz : (z.f 20 (z.v 18).toNatClampNeg).toInt = (N : Int)) (hc : ∀ w, w < N → 1 ≤ cw s.k s.d w) (hG : G < 6 ^ N) (hm : ∀ g, LFg s.k s.d N G ≤ LFg s.k s.d N g ∧ (g < G → LFg s.k s.d N G < LFg s.k s.d N g)) : ∀ (n : Nat) (x2 x3 x4 : Int32) (b j : Nat), x2.toInt = (b : Int) → x3.toInt = (LFg s.k s.d N b : Int) → x4.toInt = (j : Int) → j ≤ 6 ^ N → (G < j → b = G) → b < j → r_wisest_36L n z x1 x2 x3 x4 = some (r, z') → (x1 = 0 → r.toInt = (G : Int)) ∧ (¬ x1 = 0 → r.toInt = (LFg s.k s.d N G : Int)) := by
  have pl := pow_le N hN5
  intro n
  induction n with
  | zero => intro x2 x3 x4 b j _ _ _ _ _ _ h; exact none_ne h
  | succ n ih =>
    intro x2 x3 x4 b j e2 e3 e4 hj hb1 hb2 h
    replace h : r_wisest_36 (r_wisest_36L n) z x1 x2 x3 x4 = some (r, z') := h
    unfold r_wisest_36 at h
    replace h := bindI_inv h
    obtain ⟨q, z1, h1, h⟩ := h
    obtain ⟨ez, eq⟩ := r_guessN hJ.1.2.1 hN5 hz h1
    rw [ez] at h
    by_cases c : q ≤ x4
    · have c' := tn_le eq e4 c
      rw [if_pos c] at h
      have bG : b = G := hb1 (by omega)
      by_cases d : x1 = 0
      · rw [if_pos d] at h
        refine ⟨fun _ => ?_, fun q => absurd d q⟩
        rw [← fst_som h, ← bG]
        exact e2
      · rw [if_neg d] at h
        refine ⟨fun q => absurd q d, fun _ => ?_⟩
        rw [← fst_som h, ← bG]
        exact e3
    · have c' := tn_nle eq e4 c
      rw [if_neg c] at h
      replace h := bindI_inv h
      obtain ⟨r6, z5, h5, h⟩ := h
      obtain ⟨e6, ez5⟩ := r_left_one hJ hN hN5 hz e4 hc h5
      rw [ez5] at h
      have a4 : (x4 + 1).toInt = ((j + 1 : Nat) : Int) := by
        rw [tn_add e4 (by decide : (1 : Int32).toInt = 1) (by omega) (by omega)]
        omega
      obtain ⟨m1, m2⟩ := hm j
      obtain ⟨m3, m4⟩ := hm b
      by_cases d : r6 < x3
      · have d' := tn_lt e6 e3 d
        rw [if_pos d] at h
        unfold r_wisest_68 at h
        refine ih x4 r6 (x4 + 1) j (j + 1) e4 e6 a4 (by omega) (fun q => ?_) (by omega) h
        by_cases e : j = G
        · exact e
        · have := hb1 (by omega)
          rw [this] at d'
          omega
      · have d' := tn_nlt e6 e3 d
        rw [if_neg d] at h
        unfold r_wisest_68 at h
        refine ih x2 x3 (x4 + 1) b (j + 1) e2 e3 a4 (by omega) (fun q => ?_) (by omega) h
        by_cases e : j = G
        · have bG : b < G := by omega
          have := m4 bG
          rw [e] at d'
          omega
        · exact hb1 (by omega)
theorem wisest_core {y : XS} {x' : XS} {z z' : RS} {x1 r1 r2 : Int32} (hJ : JR (JS.mk y.k y.n) z) (hx : x1 = 0 ∨ x1 = 1) (h1 : kX10_wisest_11 y x1 = some (r1, x')) (h2 : (bindI (r_casesNow z) fun r5 s4 => (if r5 = 0 then (some ((-2), s4)) else (bindI (r_leftOf s4 0) fun r8 s7 => r_wisest_36L fu s7 x1 0 r8 1))) = some (r2, z')) : r1 = r2 := by
  obtain ⟨N, hN, hN5, hz⟩ := hJ.nn
  have pl := pow_le N hN5
  unfold kX10_wisest_11 at h1
  replace h1 := bindI_inv h1
  obtain ⟨q1, s1, u1, h1⟩ := h1
  replace h1 := letS_inv h1
  obtain ⟨s3, c3, h1⟩ := h1
  replace h2 := bindI_inv h2
  obtain ⟨q2, z4, w4, h2⟩ := h2
  have a := k_casesN hN hN5 u1
  obtain ⟨e1, e2, e5⟩ := casesN_same hJ u1 w4
  have e3 : s3 = y := by rw [← c3, e2]; rfl
  rw [e3] at h1
  rw [e5, ← e1] at h2
  by_cases c : q1 = 0
  · rw [if_pos c] at h1 h2
    have f1 : -2 = r1 := congrArg Prod.fst (Option.some.inj h1)
    have f2 : -2 = r2 := congrArg Prod.fst (Option.some.inj h2)
    rw [← f1, ← f2]
  · rw [if_neg c] at h1 h2
    have fp := fo_prod hJ hN hN5 N 0 1 1 (by omega) (by decide) (by rw [Nat.one_mul]; exact pl)
    rw [Nat.one_mul] at fp
    have qi : q1.toInt = (Bq (cw y.k y.n) 0 N : Int) := by
      have t : q1 = fo (fun j x => x * bcount (MB y.k y.n j)) 0 N (1 : Int32) := congrArg Prod.fst a
      rw [t]
      exact fp
    have bz : ¬ Bq (cw y.k y.n) 0 N = 0 := fun e => c (Int32.toInt_inj.mp (by rw [qi, e]; decide))
    have hc : ∀ w, w < N → 1 ≤ cw y.k y.n w := fun w hw => Bq_zero N 0 bz w (by omega) (by omega)
    replace h1 := bindI_inv h1
    obtain ⟨q7, s6, u6, h1⟩ := h1
    replace h1 := letS_inv h1
    obtain ⟨s8, c8, h1⟩ := h1
    unfold kX2_wisestGuess at u6
    obtain ⟨i1, i2⟩ := k_wisestL hJ hN hN5 hc fu 0 1 0 0 (by omega) (by decide) (by decide) (show (0 : Int32).toInt = ((0 : Nat) : Int) from by decide) (fun w hw => by omega) u6
    have e8 : s8 = y := by rw [← c8, i1]; rfl
    rw [e8] at h1
    replace h2 := bindI_inv h2
    obtain ⟨q8, z7, w7, h2⟩ := h2
    obtain ⟨i8, ez7⟩ := r_left_one hJ hN hN5 hz (by decide : (0 : Int32).toInt = ((0 : Nat) : Int)) hc w7
    rw [ez7] at h2
    have big : ∃ G : Nat, q7.toInt = (G : Int) ∧ G < 6 ^ N ∧ ∀ g, LFg y.k y.n N G ≤ LFg y.k y.n N g ∧ (g < G → LFg y.k y.n N G < LFg y.k y.n N g) := by
      rcases i2 with ⟨i3, i4⟩ | ⟨o, i3, i4, i5, i6⟩
      · refine ⟨0, by rw [i4]; decide, Nat.pow_pos (by omega), fun g => ?_⟩
        have w1 := wise_one (s := JS.mk y.k y.n) i3 0
        have w2 := wise_one (s := JS.mk y.k y.n) i3 g
        have w1 : LFg y.k y.n N 0 = 1 := w1
        have w2 : LFg y.k y.n N g = 1 := w2
        rw [w1, w2]
        exact ⟨Nat.le_refl _, fun q => absurd q (Nat.not_lt_zero _)⟩
      · have l := dsum_lt (D := Lo y.k y.n) (o + 1) (fun w hw => (Lo_ok hJ hN hN5 (by omega) (hc w (by omega))).2.1)
        have p := pow6_le (o + 1) N (by omega)
        exact ⟨dsum (Lo y.k y.n) (o + 1), i6, by omega, fun g => wise_least hJ hN hN5 hc i3 i4 i5 g⟩
    obtain ⟨G, g1, g2, g3⟩ := big
    have p1 : 1 ≤ 6 ^ N := Nat.pow_pos (by omega)
    obtain ⟨t1, t2⟩ := r_wisestL hJ hN hN5 hz hc g2 g3 fu 0 q8 1 0 1 (by decide) i8 (by decide) p1 (fun q => by omega) (by omega) h2
    by_cases d : x1 = 0
    · rw [if_pos d] at h1
      rw [← fst_som h1]
      exact Int32.toInt_inj.mp (g1.trans (t1 d).symm)
    · rw [if_neg d] at h1
      replace h1 := bindI_inv h1
      obtain ⟨q12, s11, u11, h1⟩ := h1
      replace h1 := letS_inv h1
      obtain ⟨s13, _, h1⟩ := h1
      unfold kX2_leftBehind at u11
      have a5 : ((y.k.v 1) - 1).toInt = (N : Int) - 1 := tn_sub hN (by decide : (1 : Int32).toInt = 1) (by omega) (by omega)
      obtain ⟨j1, _⟩ := k_leftL hJ hN hN5 g1 fu 1 1 _ N (Nat.le_refl _) a5 (by rw [Nat.sub_self]; show (1 : Int32).toInt = ((1 : Nat) : Int); decide) (by rw [Nat.sub_self]; show (1 : Int32).toInt = ((1 : Nat) : Int); decide) u11
      rw [← fst_som h1]
      exact Int32.toInt_inj.mp (j1.trans (t2 d).symm)
theorem wisest_same {y : YS} {x' : XS} {z z' : RS} {x1 r1 r2 : Int32} (h : REL y z) (hK : InvK y.x.k) (hI : InvR z) (hB : Big z) (h1 : kX10_wisest y.x x1 = some (r1, x')) (h2 : r_wisest z x1 = some (r2, z')) : r1 = r2 ∧ True := by
  refine ⟨?_, trivial⟩
  unfold kX10_wisest at h1
  unfold r_wisest at h2
  rw [in_range (A := 0) (B := 1) (by decide) (by decide), bindP_some] at h2
  by_cases c : 0 ≤ x1.toInt ∧ x1.toInt ≤ 1
  · rw [if_pos c, if_neg z_one] at h2
    replace h2 := bindP_inv h2
    obtain ⟨z3, w3, h2⟩ := h2
    obtain ⟨hJ, _⟩ := h.jr hK hI hB w3
    by_cases d : x1 = 0
    · rw [if_pos d] at h1
      exact wisest_core hJ (Or.inl d) h1 h2
    · have d1 : x1 = 1 := Int32.toInt_inj.mp (by
        have := ne_toInt (k := 0) (by decide) d
        have o : (1 : Int32).toInt = 1 := by decide
        omega)
      rw [if_neg d, if_pos d1] at h1
      exact wisest_core hJ (Or.inr d1) h1 h2
  · rw [if_neg c, if_pos rfl] at h2
    have d : ¬ x1 = 0 := fun e => c (by rw [e]; decide)
    have d1 : ¬ x1 = 1 := fun e => c (by rw [e]; decide)
    rw [if_neg d, if_neg d1] at h1
    have f1 : -1 = r1 := congrArg Prod.fst (Option.some.inj h1)
    have f2 : -1 = r2 := congrArg Prod.fst (Option.some.inj h2)
    rw [← f1, ← f2]
end
section
/-! ===== the odds of all guesses: a row on either side ===== -/
/-- odds of what a guess has over m waves from a on -/
noncomputable def prd (k : KS) (d : SD) (a g : Nat) : Nat → Int32
  | 0 => 1
  | m + 1 => prd k d a g m * OF k d (a + m) (tg g m)
theorem fo_last {α : Type} {G : Nat → α → α} : ∀ (m j : Nat) (x : α), fo G j (m + 1) x = G (j + m) (fo G j m x) := by
  intro m
  induction m with
  | zero => intro j x; rfl
  | succ m ih =>
    intro j x
    show fo G (j + 1) (m + 1) (G j x) = G (j + (m + 1)) (fo G (j + 1) m (G j x))
    rw [ih (j + 1) (G j x)]
    exact congrArg (fun i => G i (fo G (j + 1) m (G j x))) (by omega)
theorem fo_app {α : Type} {G : Nat → α → α} : ∀ (m j n : Nat) (x : α), fo G j (m + n) x = fo G (j + m) n (fo G j m x) := by
  intro m
  induction m with
  | zero =>
    intro j n x
    rw [Nat.zero_add]
    rfl
  | succ m ih =>
    intro j n x
    have e : m + 1 + n = (m + n) + 1 := by omega
    have e2 : j + (m + 1) = j + 1 + m := by omega
    rw [e, e2]
    exact ih (j + 1) n (G j x)
theorem chance_prd {k : KS} {d : SD} {g : Nat} : ∀ m, fo (fun j x => x * OF k d j (tg g j)) 0 m (1 : Int32) = prd k d 0 g m := by
  intro m
  induction m with
  | zero => rfl
  | succ m ih =>
    rw [fo_last, ih]
    show prd k d 0 g m * OF k d (0 + m) (tg g (0 + m)) = prd k d 0 g m * OF k d (0 + m) (tg g m)
    rw [Nat.zero_add]
theorem tg_high {r q m i : Nat} (hi : i < m) : tg (r + 6 ^ m * q) i = tg r i := by
  obtain ⟨e, em⟩ : ∃ e, m = i + 1 + e := ⟨m - (i + 1), by omega⟩
  subst em
  have pw : 0 < 6 ^ i := Nat.pow_pos (by omega)
  have e6 : 6 ^ (i + 1 + e) * q = 6 ^ i * (6 * (6 ^ e * q)) := by
    rw [Nat.pow_add, Nat.pow_add, Nat.pow_one, Nat.mul_assoc, Nat.mul_assoc]
  unfold tg
  rw [e6, Nat.add_mul_div_left _ _ pw, Nat.add_mul_mod_self_left]
theorem tg_mod {g m i : Nat} (hi : i < m) : tg g i = tg (g % 6 ^ m) i := by
  have d := Nat.mod_add_div g (6 ^ m)
  have t := tg_high (r := g % 6 ^ m) (q := g / 6 ^ m) hi
  rw [d] at t
  exact t
theorem tg_div {g a m : Nat} : tg (g / 6 ^ a) m = tg g (a + m) := by
  unfold tg
  rw [Nat.div_div_eq_div_mul, ← Nat.pow_add]
theorem prd_cg {k : KS} {d : SD} {a g h : Nat} : ∀ m, (∀ i, i < m → tg g i = tg h i) → prd k d a g m = prd k d a h m := by
  intro m
  induction m with
  | zero => intro _; rfl
  | succ m ih =>
    intro q
    show prd k d a g m * OF k d (a + m) (tg g m) = prd k d a h m * OF k d (a + m) (tg h m)
    rw [ih (fun i hi => q i (by omega)), q m (by omega)]
theorem prd_split {k : KS} {d : SD} {g a : Nat} : ∀ m, prd k d 0 g (a + m) = prd k d 0 g a * prd k d a (g / 6 ^ a) m := by
  intro m
  induction m with
  | zero =>
    show prd k d 0 g a = prd k d 0 g a * 1
    rw [Int32.mul_one]
  | succ m ih =>
    show prd k d 0 g (a + m) * OF k d (0 + (a + m)) (tg g (a + m)) = prd k d 0 g a * (prd k d a (g / 6 ^ a) m * OF k d (a + m) (tg (g / 6 ^ a) m))
    rw [ih, tg_div, Nat.zero_add, Int32.mul_assoc]
theorem OF_fr {k k' : KS} {d d' : SD} {W : List Nat} {w v : Nat} (K : FrK W k k') (hW : 103 ∉ W ∧ 105 ∉ W) (e : d' = d) : OF k' d' w v = OF k d w v := by
  subst e
  unfold OF MB
  rw [(K.2 3 hW.1).1, (K.2 5 hW.2).1]
theorem prd_fr {k k' : KS} {d d' : SD} {W : List Nat} {a g : Nat} (K : FrK W k k') (hW : 103 ∉ W ∧ 105 ∉ W) (e : d' = d) : ∀ m, prd k' d' a g m = prd k d a g m := by
  intro m
  induction m with
  | zero => rfl
  | succ m ih =>
    show prd k' d' a g m * OF k' d' (a + m) (tg g m) = prd k d a g m * OF k d (a + m) (tg g m)
    rw [ih, OF_fr K hW e]
/-- the near row of the class: one thing of one wave -/
theorem near39 {k10 : JS → Int32 → Int32 → Int32 → Option (Int32 × JS)} {k20 : JS → Int32 → Int32 → Int32 → Int32 → Option (Int32 × JS)} {out : Int32 × JS} {x4 x5 x6 x7 x8 : Int32} {S v : Nat} (e5 : x5.toInt = (S : Int)) (hS : S ≤ 216) (e7 : x7.toInt = (v : Int)) (hv : v < 6) : ∀ (n : Nat) (s : JS) (x9 : Int32) (j : Nat), x9.toInt = (j : Int) → j ≤ S → kX2_fillRow_near_39L k10 k20 n s x4 x5 x6 x7 x8 x9 = some out → ∃ t : JS, k20 t x4 x5 x6 (x7 + (-1)) = some out ∧ t.d = s.d ∧ FrK [137] s.k t.k ∧ (∀ i, j ≤ i → i < S → t.k.f 37 (v * S + i) = s.k.f 37 i * x8) ∧ (∀ u, (u < v * S + j ∨ v * S + S ≤ u) → t.k.f 37 u = s.k.f 37 u) := by
  intro n
  induction n with
  | zero => intro s x9 j _ _ h; exact none_ne h
  | succ n ih =>
    intro s x9 j e9 hj h
    replace h : kX2_fillRow_near_39 k10 k20 (kX2_fillRow_near_39L k10 k20 n) s x4 x5 x6 x7 x8 x9 = some out := h
    unfold kX2_fillRow_near_39 at h
    by_cases c : x5 ≤ x9
    · have c' := tn_le e5 e9 c
      rw [if_pos c] at h
      exact ⟨s, h, rfl, FrK.rfl, fun i h1 h2 => by omega, fun u _ => rfl⟩
    · have c' := tn_nle e5 e9 c
      rw [if_neg c] at h
      replace h := guard_inv h
      obtain ⟨_, h⟩ := h
      replace h := guard_inv h
      obtain ⟨_, h⟩ := h
      replace h := letS_inv h
      obtain ⟨s4, c4, h⟩ := h
      have m1 : v * S ≤ 5 * S := Nat.mul_le_mul_right _ (by omega)
      have m2 : (x7 * x5).toInt = ((v * S : Nat) : Int) := by
        have t : x7.toInt * x5.toInt = ((v * S : Nat) : Int) := by
          rw [e7, e5]
          exact (Int.natCast_mul _ _).symm
        rw [ti_mulg (by omega) (by omega)]
        exact t
      have m3 : ((x7 * x5) + x9).toInt = ((v * S + j : Nat) : Int) := by
        rw [tn_add m2 e9 (by omega) (by omega)]
        omega
      rw [clamp_of_int m3, clamp_of_int e9] at c4
      have a9 : (x9 + 1).toInt = ((j + 1 : Nat) : Int) := by
        rw [tn_add e9 (by decide : (1 : Int32).toInt = 1) (by omega) (by omega)]
        omega
      have row : ∀ u, s4.k.f 37 u = if u = v * S + j then s.k.f 37 j * x8 else s.k.f 37 u := fun u => by
        rw [← c4]
        exact ksf_at
      have F4 : s4.d = s.d ∧ FrK [137] s.k s4.k := by
        rw [← c4]
        exact ⟨rfl, FrK.sf FrK.rfl (by decide)⟩
      obtain ⟨t, t1, t2, t3, t4, t5⟩ := ih s4 (x9 + 1) (j + 1) a9 (by omega) h
      refine ⟨t, t1, t2.trans F4.1, F4.2.trans t3 (fun _ q => q), fun i h1 h2 => ?_, fun u hu => ?_⟩
      · by_cases e : i = j
        · rw [e, t5 (v * S + j) (Or.inl (by omega)), row, if_pos rfl]
        · have ne : ¬ i = v * S + j := by
            intro q
            rcases Nat.eq_zero_or_pos v with z | z
            · rw [z, Nat.zero_mul] at q
              omega
            · have m4 : 1 * S ≤ v * S := Nat.mul_le_mul_right _ z
              omega
          rw [t4 i (by omega) h2, row, if_neg ne]
      · rw [t5 u (by omega), row, if_neg (by omega)]
theorem near20 {k10 : JS → Int32 → Int32 → Int32 → Option (Int32 × JS)} {out : Int32 × JS} {x4 x5 x6 : Int32} {S w : Nat} (e5 : x5.toInt = (S : Int)) (hS : S ≤ 216) (e6 : x6.toInt = (w : Int)) (hw : w < 5) {s0 : JS} : ∀ (n : Nat) (s : JS) (x7 : Int32) (c : Nat), c ≤ 6 → x7.toInt = (c : Int) - 1 → s.d = s0.d → FrK [137] s0.k s.k → (∀ u, c ≤ u → u < 6 → ∀ i, i < S → s.k.f 37 (u * S + i) = s0.k.f 37 i * OF s0.k s0.d w u) → (0 < c → ∀ i, i < S → s.k.f 37 i = s0.k.f 37 i) → kX2_fillRow_near_20L k10 n s x4 x5 x6 x7 = some out → ∃ t : JS, k10 t x4 (x5 * 6) (x6 + 1) = some out ∧ t.d = s0.d ∧ FrK [137] s0.k t.k ∧ ∀ u, u < 6 → ∀ i, i < S → t.k.f 37 (u * S + i) = s0.k.f 37 i * OF s0.k s0.d w u := by
  intro n
  induction n with
  | zero => intro s x7 c _ _ _ _ _ _ h; exact none_ne h
  | succ n ih =>
    intro s x7 c hc e7 hd hF h1 h2 h
    replace h : kX2_fillRow_near_20 k10 (kX2_fillRow_near_20L k10 n) s x4 x5 x6 x7 = some out := h
    unfold kX2_fillRow_near_20 at h
    by_cases q : x7 < 0
    · have q' := tn_lt e7 (by decide : (0 : Int32).toInt = 0) q
      rw [if_pos q] at h
      exact ⟨s, h, hd, hF, fun u hu i hi => h1 u (by omega) hu i hi⟩
    · have q' := tn_nlt e7 (by decide : (0 : Int32).toInt = 0) q
      have e8 : x7.toInt = ((c - 1 : Nat) : Int) := by omega
      rw [if_neg q, k_oim e6 hw e8 (by omega), bindI_some] at h
      have ofe : OF s.k s.d w (c - 1) = OF s0.k s0.d w (c - 1) := OF_fr hF (by decide) hd
      obtain ⟨t, t1, t2, t3, t4, t5⟩ := near39 e5 hS e8 (by omega) fu s 0 0 (by decide) (Nat.zero_le _) h
      have a7 : (x7 + (-1)).toInt = ((c - 1 : Nat) : Int) - 1 := by
        rw [tn_add e7 (by decide : (-1 : Int32).toInt = -1) (by omega) (by omega)]
        omega
      generalize x7 + (-1) = Y7 at t1 a7
      refine ih t Y7 (c - 1) (by omega) a7 (t2.trans hd) (hF.trans t3 (fun _ q => q)) (fun u hu1 hu2 i hi => ?_) (fun hp i hi => ?_) t1
      · by_cases e : u = c - 1
        · rw [e, t4 i (Nat.zero_le _) hi, ofe, h2 (by omega) i hi]
        · have m : (c - 1 + 1) * S ≤ u * S := Nat.mul_le_mul_right _ (by omega)
          have m2 : (c - 1 + 1) * S = (c - 1) * S + S := Nat.succ_mul _ _
          rw [t5 (u * S + i) (Or.inr (by omega))]
          exact h1 u (by omega) hu2 i hi
      · have m : 1 * S ≤ (c - 1) * S := Nat.mul_le_mul_right _ hp
        rw [t5 i (Or.inl (by omega))]
        exact h2 (by omega) i hi
theorem near10 {x4 r : Int32} {s' : JS} {a M : Nat} (hM : M ≤ 3) (ha : a + M ≤ 5) (l4 : x4.toInt ≤ ((a + M : Nat) : Int)) (l5 : 0 < M → x4.toInt = ((a + M : Nat) : Int)) {s0 : JS} : ∀ (n : Nat) (s : JS) (x5 x6 : Int32) (m : Nat), m ≤ M → x6.toInt = ((a + m : Nat) : Int) → x5.toInt = ((6 ^ m : Nat) : Int) → s.d = s0.d → FrK [137] s0.k s.k → (∀ g, g < 6 ^ m → s.k.f 37 g = prd s0.k s0.d a g m) → kX2_fillRow_near_10L n s x4 x5 x6 = some (r, s') → r.toInt = ((6 ^ M : Nat) : Int) ∧ s'.d = s0.d ∧ FrK [137] s0.k s'.k ∧ ∀ g, g < 6 ^ M → s'.k.f 37 g = prd s0.k s0.d a g M := by
  intro n
  induction n with
  | zero => intro s x5 x6 m _ _ _ _ _ _ h; exact none_ne h
  | succ n ih =>
    intro s x5 x6 m hm e6 e5 hd hF hg h
    replace h : kX2_fillRow_near_10 (kX2_fillRow_near_10L n) s x4 x5 x6 = some (r, s') := h
    unfold kX2_fillRow_near_10 at h
    by_cases c : x4 ≤ x6
    · have c' := ti_le c
      rw [if_pos c] at h
      have e := Option.some.inj h
      have em : m = M := by
        rcases Nat.eq_zero_or_pos M with z | z
        · omega
        · have := l5 z
          omega
      rw [← pr_fst e, ← pr_snd e, ← em]
      exact ⟨e5, hd, hF, hg⟩
    · have c' := ti_nle c
      rw [if_neg c] at h
      have p2 : 6 ^ m ≤ 6 ^ 2 := pow6_le m 2 (by omega)
      have p3 : (6 : Nat) ^ 2 = 36 := by decide
      have pp : 0 < 6 ^ m := Nat.pow_pos (by omega)
      obtain ⟨t, t1, t2, t3, t4⟩ := near20 (s0 := s) e5 (by omega) e6 (by omega) fu s 5 6 (Nat.le_refl _) (by decide) rfl FrK.rfl (fun u h1 h2 => by omega) (fun _ i _ => rfl) h
      have a5 : (x5 * 6).toInt = ((6 ^ (m + 1) : Nat) : Int) := by
        rw [ti_mulc (c := 6) (by decide) (by omega) (by omega), e5, Nat.pow_succ]
        omega
      have a6 : (x6 + 1).toInt = ((a + (m + 1) : Nat) : Int) := by
        rw [tn_add e6 (by decide : (1 : Int32).toInt = 1) (by omega) (by omega)]
        omega
      refine ih t (x5 * 6) (x6 + 1) (m + 1) (by omega) a6 a5 (t2.trans hd) (hF.trans t3 (fun _ q => q)) (fun g hg2 => ?_) t1
      have e6p : 6 ^ (m + 1) = 6 ^ m * 6 := Nat.pow_succ _ _
      have dm : 6 ^ m * (g / 6 ^ m) + g % 6 ^ m = g := Nat.div_add_mod _ _
      have lm : g % 6 ^ m < 6 ^ m := Nat.mod_lt _ pp
      have ld : g / 6 ^ m < 6 := Nat.div_lt_of_lt_mul (by omega)
      have cm : g / 6 ^ m * 6 ^ m = 6 ^ m * (g / 6 ^ m) := Nat.mul_comm _ _
      have q := t4 (g / 6 ^ m) ld (g % 6 ^ m) lm
      rw [cm, dm, hg _ lm, OF_fr hF (by decide) hd] at q
      have tq : tg g m = g / 6 ^ m := Nat.mod_eq_of_lt ld
      show t.k.f 37 g = prd s0.k s0.d a g m * OF s0.k s0.d (a + m) (tg g m)
      rw [q, tq, prd_cg (g := g) m (fun i hi => tg_mod hi)]
/-- the far row of the class: one thing of one wave -/
theorem far39 {k10 : JS → Int32 → Int32 → Int32 → Option (Int32 × JS)} {k20 : JS → Int32 → Int32 → Int32 → Int32 → Option (Int32 × JS)} {out : Int32 × JS} {x4 x5 x6 x7 x8 : Int32} {S v : Nat} (e5 : x5.toInt = (S : Int)) (hS : S ≤ 216) (e7 : x7.toInt = (v : Int)) (hv : v < 6) : ∀ (n : Nat) (s : JS) (x9 : Int32) (j : Nat), x9.toInt = (j : Int) → j ≤ S → kX2_fillRow_far_39L k10 k20 n s x4 x5 x6 x7 x8 x9 = some out → ∃ t : JS, k20 t x4 x5 x6 (x7 + (-1)) = some out ∧ t.d = s.d ∧ FrK [138] s.k t.k ∧ (∀ i, j ≤ i → i < S → t.k.f 38 (v * S + i) = s.k.f 38 i * x8) ∧ (∀ u, (u < v * S + j ∨ v * S + S ≤ u) → t.k.f 38 u = s.k.f 38 u) := by
  intro n
  induction n with
  | zero => intro s x9 j _ _ h; exact none_ne h
  | succ n ih =>
    intro s x9 j e9 hj h
    replace h : kX2_fillRow_far_39 k10 k20 (kX2_fillRow_far_39L k10 k20 n) s x4 x5 x6 x7 x8 x9 = some out := h
    unfold kX2_fillRow_far_39 at h
    by_cases c : x5 ≤ x9
    · have c' := tn_le e5 e9 c
      rw [if_pos c] at h
      exact ⟨s, h, rfl, FrK.rfl, fun i h1 h2 => by omega, fun u _ => rfl⟩
    · have c' := tn_nle e5 e9 c
      rw [if_neg c] at h
      replace h := guard_inv h
      obtain ⟨_, h⟩ := h
      replace h := guard_inv h
      obtain ⟨_, h⟩ := h
      replace h := letS_inv h
      obtain ⟨s4, c4, h⟩ := h
      have m1 : v * S ≤ 5 * S := Nat.mul_le_mul_right _ (by omega)
      have m2 : (x7 * x5).toInt = ((v * S : Nat) : Int) := by
        have t : x7.toInt * x5.toInt = ((v * S : Nat) : Int) := by
          rw [e7, e5]
          exact (Int.natCast_mul _ _).symm
        rw [ti_mulg (by omega) (by omega)]
        exact t
      have m3 : ((x7 * x5) + x9).toInt = ((v * S + j : Nat) : Int) := by
        rw [tn_add m2 e9 (by omega) (by omega)]
        omega
      rw [clamp_of_int m3, clamp_of_int e9] at c4
      have a9 : (x9 + 1).toInt = ((j + 1 : Nat) : Int) := by
        rw [tn_add e9 (by decide : (1 : Int32).toInt = 1) (by omega) (by omega)]
        omega
      have row : ∀ u, s4.k.f 38 u = if u = v * S + j then s.k.f 38 j * x8 else s.k.f 38 u := fun u => by
        rw [← c4]
        exact ksf_at
      have F4 : s4.d = s.d ∧ FrK [138] s.k s4.k := by
        rw [← c4]
        exact ⟨rfl, FrK.sf FrK.rfl (by decide)⟩
      obtain ⟨t, t1, t2, t3, t4, t5⟩ := ih s4 (x9 + 1) (j + 1) a9 (by omega) h
      refine ⟨t, t1, t2.trans F4.1, F4.2.trans t3 (fun _ q => q), fun i h1 h2 => ?_, fun u hu => ?_⟩
      · by_cases e : i = j
        · rw [e, t5 (v * S + j) (Or.inl (by omega)), row, if_pos rfl]
        · have ne : ¬ i = v * S + j := by
            intro q
            rcases Nat.eq_zero_or_pos v with z | z
            · rw [z, Nat.zero_mul] at q
              omega
            · have m4 : 1 * S ≤ v * S := Nat.mul_le_mul_right _ z
              omega
          rw [t4 i (by omega) h2, row, if_neg ne]
      · rw [t5 u (by omega), row, if_neg (by omega)]
theorem far20 {k10 : JS → Int32 → Int32 → Int32 → Option (Int32 × JS)} {out : Int32 × JS} {x4 x5 x6 : Int32} {S w : Nat} (e5 : x5.toInt = (S : Int)) (hS : S ≤ 216) (e6 : x6.toInt = (w : Int)) (hw : w < 5) {s0 : JS} : ∀ (n : Nat) (s : JS) (x7 : Int32) (c : Nat), c ≤ 6 → x7.toInt = (c : Int) - 1 → s.d = s0.d → FrK [138] s0.k s.k → (∀ u, c ≤ u → u < 6 → ∀ i, i < S → s.k.f 38 (u * S + i) = s0.k.f 38 i * OF s0.k s0.d w u) → (0 < c → ∀ i, i < S → s.k.f 38 i = s0.k.f 38 i) → kX2_fillRow_far_20L k10 n s x4 x5 x6 x7 = some out → ∃ t : JS, k10 t x4 (x5 * 6) (x6 + 1) = some out ∧ t.d = s0.d ∧ FrK [138] s0.k t.k ∧ ∀ u, u < 6 → ∀ i, i < S → t.k.f 38 (u * S + i) = s0.k.f 38 i * OF s0.k s0.d w u := by
  intro n
  induction n with
  | zero => intro s x7 c _ _ _ _ _ _ h; exact none_ne h
  | succ n ih =>
    intro s x7 c hc e7 hd hF h1 h2 h
    replace h : kX2_fillRow_far_20 k10 (kX2_fillRow_far_20L k10 n) s x4 x5 x6 x7 = some out := h
    unfold kX2_fillRow_far_20 at h
    by_cases q : x7 < 0
    · have q' := tn_lt e7 (by decide : (0 : Int32).toInt = 0) q
      rw [if_pos q] at h
      exact ⟨s, h, hd, hF, fun u hu i hi => h1 u (by omega) hu i hi⟩
    · have q' := tn_nlt e7 (by decide : (0 : Int32).toInt = 0) q
      have e8 : x7.toInt = ((c - 1 : Nat) : Int) := by omega
      rw [if_neg q, k_oim e6 hw e8 (by omega), bindI_some] at h
      have ofe : OF s.k s.d w (c - 1) = OF s0.k s0.d w (c - 1) := OF_fr hF (by decide) hd
      obtain ⟨t, t1, t2, t3, t4, t5⟩ := far39 e5 hS e8 (by omega) fu s 0 0 (by decide) (Nat.zero_le _) h
      have a7 : (x7 + (-1)).toInt = ((c - 1 : Nat) : Int) - 1 := by
        rw [tn_add e7 (by decide : (-1 : Int32).toInt = -1) (by omega) (by omega)]
        omega
      generalize x7 + (-1) = Y7 at t1 a7
      refine ih t Y7 (c - 1) (by omega) a7 (t2.trans hd) (hF.trans t3 (fun _ q => q)) (fun u hu1 hu2 i hi => ?_) (fun hp i hi => ?_) t1
      · by_cases e : u = c - 1
        · rw [e, t4 i (Nat.zero_le _) hi, ofe, h2 (by omega) i hi]
        · have m : (c - 1 + 1) * S ≤ u * S := Nat.mul_le_mul_right _ (by omega)
          have m2 : (c - 1 + 1) * S = (c - 1) * S + S := Nat.succ_mul _ _
          rw [t5 (u * S + i) (Or.inr (by omega))]
          exact h1 u (by omega) hu2 i hi
      · have m : 1 * S ≤ (c - 1) * S := Nat.mul_le_mul_right _ hp
        rw [t5 i (Or.inl (by omega))]
        exact h2 (by omega) i hi
theorem far10 {x4 r : Int32} {s' : JS} {a M : Nat} (hM : M ≤ 3) (ha : a + M ≤ 5) (l4 : x4.toInt ≤ ((a + M : Nat) : Int)) (l5 : 0 < M → x4.toInt = ((a + M : Nat) : Int)) {s0 : JS} : ∀ (n : Nat) (s : JS) (x5 x6 : Int32) (m : Nat), m ≤ M → x6.toInt = ((a + m : Nat) : Int) → x5.toInt = ((6 ^ m : Nat) : Int) → s.d = s0.d → FrK [138] s0.k s.k → (∀ g, g < 6 ^ m → s.k.f 38 g = prd s0.k s0.d a g m) → kX2_fillRow_far_10L n s x4 x5 x6 = some (r, s') → r.toInt = ((6 ^ M : Nat) : Int) ∧ s'.d = s0.d ∧ FrK [138] s0.k s'.k ∧ ∀ g, g < 6 ^ M → s'.k.f 38 g = prd s0.k s0.d a g M := by
  intro n
  induction n with
  | zero => intro s x5 x6 m _ _ _ _ _ _ h; exact none_ne h
  | succ n ih =>
    intro s x5 x6 m hm e6 e5 hd hF hg h
    replace h : kX2_fillRow_far_10 (kX2_fillRow_far_10L n) s x4 x5 x6 = some (r, s') := h
    unfold kX2_fillRow_far_10 at h
    by_cases c : x4 ≤ x6
    · have c' := ti_le c
      rw [if_pos c] at h
      have e := Option.some.inj h
      have em : m = M := by
        rcases Nat.eq_zero_or_pos M with z | z
        · omega
        · have := l5 z
          omega
      rw [← pr_fst e, ← pr_snd e, ← em]
      exact ⟨e5, hd, hF, hg⟩
    · have c' := ti_nle c
      rw [if_neg c] at h
      have p2 : 6 ^ m ≤ 6 ^ 2 := pow6_le m 2 (by omega)
      have p3 : (6 : Nat) ^ 2 = 36 := by decide
      have pp : 0 < 6 ^ m := Nat.pow_pos (by omega)
      obtain ⟨t, t1, t2, t3, t4⟩ := far20 (s0 := s) e5 (by omega) e6 (by omega) fu s 5 6 (Nat.le_refl _) (by decide) rfl FrK.rfl (fun u h1 h2 => by omega) (fun _ i _ => rfl) h
      have a5 : (x5 * 6).toInt = ((6 ^ (m + 1) : Nat) : Int) := by
        rw [ti_mulc (c := 6) (by decide) (by omega) (by omega), e5, Nat.pow_succ]
        omega
      have a6 : (x6 + 1).toInt = ((a + (m + 1) : Nat) : Int) := by
        rw [tn_add e6 (by decide : (1 : Int32).toInt = 1) (by omega) (by omega)]
        omega
      refine ih t (x5 * 6) (x6 + 1) (m + 1) (by omega) a6 a5 (t2.trans hd) (hF.trans t3 (fun _ q => q)) (fun g hg2 => ?_) t1
      have e6p : 6 ^ (m + 1) = 6 ^ m * 6 := Nat.pow_succ _ _
      have dm : 6 ^ m * (g / 6 ^ m) + g % 6 ^ m = g := Nat.div_add_mod _ _
      have lm : g % 6 ^ m < 6 ^ m := Nat.mod_lt _ pp
      have ld : g / 6 ^ m < 6 := Nat.div_lt_of_lt_mul (by omega)
      have cm : g / 6 ^ m * 6 ^ m = 6 ^ m * (g / 6 ^ m) := Nat.mul_comm _ _
      have q := t4 (g / 6 ^ m) ld (g % 6 ^ m) lm
      rw [cm, dm, hg _ lm, OF_fr hF (by decide) hd] at q
      have tq : tg g m = g / 6 ^ m := Nat.mod_eq_of_lt ld
      show t.k.f 38 g = prd s0.k s0.d a g m * OF s0.k s0.d (a + m) (tg g m)
      rw [q, tq, prd_cg (g := g) m (fun i hi => tg_mod hi)]
/-- both rows: the odds of each guess -/
theorem fill_both {s s1 s2 : JS} {r2 r4 : Int32} {N : Nat} (hN : (s.k.v 1).toInt = (N : Int)) (hN5 : N ≤ 5) (h1 : kX2_fillNear s = some (r2, s1)) (h2 : kX2_fillFar s1 = some (r4, s2)) : ∃ A M : Nat, A + M = N ∧ A ≤ 3 ∧ M ≤ 2 ∧ r2.toInt = ((6 ^ A : Nat) : Int) ∧ r4.toInt = ((6 ^ M : Nat) : Int) ∧ s2.d = s.d ∧ FrK [137, 138] s.k s2.k ∧ ∀ g, g < 6 ^ N → s2.k.f 38 (g / 6 ^ A) * s2.k.f 37 (g % 6 ^ A) = prd s.k s.d 0 g N := by
  obtain ⟨A, M, hA, hM, hAM⟩ : ∃ A M : Nat, A = min 3 N ∧ M = N - 3 ∧ A + M = N := ⟨min 3 N, N - 3, rfl, rfl, by omega⟩
  have c3 : (3 : Int32).toInt = 3 := by decide
  unfold kX2_fillNear at h1
  replace h1 := bindI_inv h1
  obtain ⟨q2, t1, u1, h1⟩ := h1
  have g1 := Option.some.inj h1
  have g1a : q2 = r2 := congrArg Prod.fst g1
  have g1b : t1 = s1 := congrArg Prod.snd g1
  unfold kX2_fillRow_near at u1
  replace u1 := letS_inv u1
  obtain ⟨s0, c0, u1⟩ := u1
  have row0 : ∀ u, s0.k.f 37 u = if u = 0 then 1 else s.k.f 37 u := fun u => by
    rw [← c0]
    exact ksf_at
  have F0 : s0.d = s.d ∧ FrK [137] s.k s0.k := by
    rw [← c0]
    exact ⟨rfl, FrK.sf FrK.rfl (by decide)⟩
  have mm : (mmin 3 (s.k.v 1)).toInt = ((0 + A : Nat) : Int) := by
    rw [mmin_int, hN, c3]
    omega
  obtain ⟨n1, n2, n3, n4⟩ := near10 (a := 0) (M := A) (s0 := s) (by omega) (by omega) (by omega) (fun _ => mm) fu s0 1 0 0 (Nat.zero_le _) (by decide) (by decide) F0.1 F0.2 (fun g hg => by
    have : g = 0 := by
      have p : (6 : Nat) ^ 0 = 1 := by decide
      omega
    rw [this, row0, if_pos rfl]
    rfl) u1
  unfold kX2_fillFar at h2
  replace h2 := bindI_inv h2
  obtain ⟨q4, t2, u2, h2⟩ := h2
  have g2 := Option.some.inj h2
  have g2a : q4 = r4 := congrArg Prod.fst g2
  have g2b : t2 = s2 := congrArg Prod.snd g2
  unfold kX2_fillRow_far at u2
  replace u2 := letS_inv u2
  obtain ⟨s5, c5, u2⟩ := u2
  rw [g1b] at n2 n3 n4
  have row5 : ∀ u, s5.k.f 38 u = if u = 0 then 1 else s1.k.f 38 u := fun u => by
    rw [← c5]
    exact ksf_at
  have F5 : s5.d = s1.d ∧ FrK [138] s1.k s5.k := by
    rw [← c5]
    exact ⟨rfl, FrK.sf FrK.rfl (by decide)⟩
  have v1 : (s1.k.v 1).toInt = (N : Int) := by
    rw [n3.1 1 (by decide)]
    exact hN
  obtain ⟨m1, m2, m3, m4⟩ := far10 (a := 3) (M := M) (s0 := s1) (by omega) (by omega) (by omega) (fun z => by omega) fu s5 1 3 0 (Nat.zero_le _) (by decide) (by decide) F5.1 F5.2 (fun g hg => by
    have : g = 0 := by
      have p : (6 : Nat) ^ 0 = 1 := by decide
      omega
    rw [this, row5, if_pos rfl]
    rfl) u2
  rw [g2b] at m2 m3 m4
  refine ⟨A, M, hAM, by omega, by omega, by rw [← g1a]; exact n1, by rw [← g2a]; exact m1, m2.trans n2, ?_, fun g hg => ?_⟩
  · exact ((FrK.rfl (W := [137, 138])).trans n3 (by decide)).trans m3 (by decide)
  · have p6 : 6 ^ N = 6 ^ A * 6 ^ M := by rw [← hAM, Nat.pow_add]
    have pp : 0 < 6 ^ A := Nat.pow_pos (by omega)
    have lA : g % 6 ^ A < 6 ^ A := Nat.mod_lt _ pp
    have ld : g / 6 ^ A < 6 ^ M := Nat.div_lt_of_lt_mul (by omega)
    have e38 := m4 (g / 6 ^ A) ld
    have e37 := n4 (g % 6 ^ A) lA
    have f37 : s2.k.f 37 = s1.k.f 37 := (m3.2 37 (by decide)).1
    rw [e38, f37, e37, prd_fr n3 (by decide) n2, Int32.mul_comm, ← prd_cg A (fun i hi => tg_mod hi)]
    have sp := prd_split (k := s.k) (d := s.d) (g := g) (a := A) M
    rw [hAM] at sp
    rw [sp]
    rcases Nat.eq_zero_or_pos M with z | z
    · rw [z]
      rfl
    · have : A = 3 := by omega
      rw [this]
/-! rank -/
noncomputable def ahd (C : Nat → Int32) (own gs : Int32) (g : Nat) (a : Int32) : Int32 := if own < C g then a + 1 else if C g = own then (if gs ≤ Int32.ofNat g then a else a + 1) else a
theorem ahead33 {s : JS} {k23 : JS → Int32 → Int32 → Int32 → Int32 → Int32 → Int32 → Int32 → Option (Int32 × JS)} {out : Int32 × JS} {x2 x3 x4 x5 x8 : Int32} {S i : Nat} {C : Nat → Int32} (hS : S ≤ 216) (e4 : x4.toInt = (S : Int)) (e8 : x8.toInt = (i : Int)) (hi : i ≤ 36) (hC : ∀ j, j < S → s.k.f 38 i * s.k.f 37 j = C (i * S + j)) : ∀ (n : Nat) (x6 x7 x9 : Int32) (j : Nat), x9.toInt = (j : Int) → j ≤ S → x7.toInt = ((i * S + j : Nat) : Int) → kX2_casesAheadOf_33L k23 n s x2 x3 x4 x5 x6 x7 x8 x9 = some out → ∃ y7, k23 s x2 x3 x4 x5 (fo (ahd C x3 x2) (i * S + j) (S - j) x6) y7 (x8 + 1) = some out ∧ y7.toInt = (((i + 1) * S : Nat) : Int) := by
  have big : i * S ≤ 36 * 216 := Nat.mul_le_mul hi hS
  intro n
  induction n with
  | zero => intro x6 x7 x9 j _ _ _ h; exact none_ne h
  | succ n ih =>
    intro x6 x7 x9 j e9 hj e7 h
    replace h : kX2_casesAheadOf_33 k23 (kX2_casesAheadOf_33L k23 n) s x2 x3 x4 x5 x6 x7 x8 x9 = some out := h
    unfold kX2_casesAheadOf_33 at h
    by_cases c : x4 ≤ x9
    · have c' := tn_le e4 e9 c
      rw [if_pos c] at h
      have ej : S - j = 0 := by omega
      have em : (i + 1) * S = i * S + S := Nat.succ_mul _ _
      refine ⟨x7, ?_, by rw [e7]; omega⟩
      rw [ej]
      exact h
    · have c' := tn_nle e4 e9 c
      rw [if_neg c] at h
      replace h := guard_inv h
      obtain ⟨_, h⟩ := h
      replace h := guard_inv h
      obtain ⟨_, h⟩ := h
      rw [clamp_of_int e8, clamp_of_int e9, hC j (by omega)] at h
      have e7o : x7 = Int32.ofNat (i * S + j) := eq_ofnat e7
      have st : kX2_casesAheadOf_33L k23 n s x2 x3 x4 x5 (ahd C x3 x2 (i * S + j) x6) (x7 + 1) x8 (x9 + 1) = some out := by
        unfold ahd
        rw [← e7o]
        by_cases d1 : x3 < C (i * S + j)
        · rw [if_pos d1] at h ⊢
          exact h
        · rw [if_neg d1] at h ⊢
          by_cases d2 : C (i * S + j) = x3
          · rw [if_pos d2] at h ⊢
            by_cases d3 : x2 ≤ x7
            · rw [if_pos d3] at h ⊢
              exact h
            · rw [if_neg d3] at h ⊢
              exact h
          · rw [if_neg d2] at h ⊢
            exact h
      have a9 : (x9 + 1).toInt = ((j + 1 : Nat) : Int) := by
        rw [tn_add e9 (by decide : (1 : Int32).toInt = 1) (by omega) (by omega)]
        omega
      have a7 : (x7 + 1).toInt = ((i * S + (j + 1) : Nat) : Int) := by
        rw [tn_add e7 (by decide : (1 : Int32).toInt = 1) (by omega) (by omega)]
        omega
      have r := ih _ (x7 + 1) (x9 + 1) (j + 1) a9 (by omega) a7 st
      have es : S - j = (S - (j + 1)) + 1 := by omega
      rw [es]
      exact r
theorem ahead23 {s s' : JS} {x2 x3 x4 x5 r : Int32} {S T : Nat} {C : Nat → Int32} (hS : S ≤ 216) (hT : T ≤ 36) (e4 : x4.toInt = (S : Int)) (e5 : x5.toInt = (T : Int)) (hC : ∀ i, i < T → ∀ j, j < S → s.k.f 38 i * s.k.f 37 j = C (i * S + j)) : ∀ (n : Nat) (x6 x7 x8 : Int32) (i : Nat), x8.toInt = (i : Int) → i ≤ T → x7.toInt = ((i * S : Nat) : Int) → x6 = fo (ahd C x3 x2) 0 (i * S) 0 → kX2_casesAheadOf_23L n s x2 x3 x4 x5 x6 x7 x8 = some (r, s') → r = fo (ahd C x3 x2) 0 (T * S) 0 := by
  intro n
  induction n with
  | zero => intro x6 x7 x8 i _ _ _ _ h; exact none_ne h
  | succ n ih =>
    intro x6 x7 x8 i e8 hi e7 e6 h
    replace h : kX2_casesAheadOf_23 (kX2_casesAheadOf_23L n) s x2 x3 x4 x5 x6 x7 x8 = some (r, s') := h
    unfold kX2_casesAheadOf_23 at h
    by_cases c : x5 ≤ x8
    · have c' := tn_le e5 e8 c
      rw [if_pos c] at h
      have ei : i = T := by omega
      rw [← fst_som h, ← ei]
      exact e6
    · have c' := tn_nle e5 e8 c
      rw [if_neg c] at h
      obtain ⟨y7, h1, h2⟩ := ahead33 hS e4 e8 (by omega) (hC i (by omega)) fu x6 x7 0 0 (by decide) (Nat.zero_le _) e7 h
      have a8 : (x8 + 1).toInt = ((i + 1 : Nat) : Int) := by
        rw [tn_add e8 (by decide : (1 : Int32).toInt = 1) (by omega) (by omega)]
        omega
      refine ih _ y7 (x8 + 1) (i + 1) a8 (by omega) h2 ?_ h1
      have em : (i + 1) * S = i * S + S := Nat.succ_mul _ _
      rw [em, fo_app, e6, Nat.zero_add]
      rfl
theorem k_ahead {s s' : JS} {x2 x3 r : Int32} {N : Nat} (hN : (s.k.v 1).toInt = (N : Int)) (hN5 : N ≤ 5) (h : kX2_casesAheadOf s x2 x3 = some (r, s')) : r = fo (ahd (fun g => prd s.k s.d 0 g N) x3 x2) 0 (6 ^ N) 0 := by
  unfold kX2_casesAheadOf at h
  replace h := bindI_inv h
  obtain ⟨r2, s1, u1, h⟩ := h
  replace h := bindI_inv h
  obtain ⟨r4, s2, u2, h⟩ := h
  obtain ⟨A, M, hAM, hA, hM, e2, e4, _, _, hC⟩ := fill_both hN hN5 u1 u2
  have p6 : 6 ^ N = 6 ^ M * 6 ^ A := by rw [← hAM, Nat.pow_add, Nat.mul_comm]
  have pA : 6 ^ A ≤ 6 ^ 3 := pow6_le A 3 hA
  have pM : 6 ^ M ≤ 6 ^ 2 := pow6_le M 2 hM
  have c3 : (6 : Nat) ^ 3 = 216 := by decide
  have c2 : (6 : Nat) ^ 2 = 36 := by decide
  have pp : 0 < 6 ^ A := Nat.pow_pos (by omega)
  rw [p6]
  refine ahead23 (S := 6 ^ A) (T := 6 ^ M) (by omega) (by omega) e2 e4 (fun i hi j hj => ?_) fu 0 0 0 0 (by decide) (Nat.zero_le _) (by rw [Nat.zero_mul]; decide) (by rw [Nat.zero_mul]; rfl) h
  have lt : i * 6 ^ A + j < 6 ^ N := by
    have m : (i + 1) * 6 ^ A ≤ 6 ^ M * 6 ^ A := Nat.mul_le_mul_right _ hi
    have m2 : (i + 1) * 6 ^ A = i * 6 ^ A + 6 ^ A := Nat.succ_mul _ _
    omega
  have q := hC (i * 6 ^ A + j) lt
  have d1 : (i * 6 ^ A + j) / 6 ^ A = i := by
    rw [Nat.add_comm, Nat.add_mul_div_right _ _ pp, Nat.div_eq_of_lt hj, Nat.zero_add]
  have d2 : (i * 6 ^ A + j) % 6 ^ A = j := by
    rw [Nat.add_comm, Nat.add_mul_mod_self_right, Nat.mod_eq_of_lt hj]
  rw [d1, d2] at q
  exact q
/-- the reference's row -/
theorem JR.f50 {s : JS} {z z' : RS} (h : JR s z) (G : FrR [150] z z') (hI : InvR z') : JR s z' := by
  obtain ⟨a1, a2, a3, a4, a5, a6⟩ := h
  refine ⟨a1.fr (FrK.rfl (W := [])) G (by decide) (by decide), by rw [(G.2 44 (by decide)).1]; exact a2, a3.fr G (by decide), hI, a5, ?_⟩
  rw [G.1 45 (by decide), G.1 18 (by decide), (G.2 26 (by decide)).1]
  exact a6
theorem r_fillsL {s : JS} {z' : RS} {N : Nat} (hN : (s.k.v 1).toInt = (N : Int)) (hN5 : N ≤ 5) : ∀ (n : Nat) (z : RS) (x1 : Int32) (j : Nat), JR s z → x1.toInt = (j : Int) → j ≤ 6 ^ N → (∀ g, g < j → z.f 50 g = prd s.k s.d 0 g N) → r_fillsChances_6L n z x1 = some z' → JR s z' ∧ FrR [150] z z' ∧ ∀ g, g < 6 ^ N → z'.f 50 g = prd s.k s.d 0 g N := by
  have pl := pow_le N hN5
  intro n
  induction n with
  | zero => intro z x1 j _ _ _ _ h; exact none_ne h
  | succ n ih =>
    intro z x1 j hJ e1 hj hg h
    replace h : r_fillsChances_6 (r_fillsChances_6L n) z x1 = some z' := h
    unfold r_fillsChances_6 at h
    replace h := bindI_inv h
    obtain ⟨q, z1, h1, h⟩ := h
    have hz : (z.f 20 (z.v 18).toNatClampNeg).toInt = (N : Int) := by rw [← hJ.1.1.1]; exact hN
    obtain ⟨ez, eq⟩ := r_guessN hJ.1.2.1 hN5 hz h1
    rw [ez] at h
    by_cases c : q ≤ x1
    · have c' := tn_le eq e1 c
      rw [if_pos c] at h
      have ej : j = 6 ^ N := by omega
      rw [← Option.some.inj h]
      exact ⟨hJ, FrR.rfl, fun g hl => hg g (by omega)⟩
    · have c' := tn_nle eq e1 c
      rw [if_neg c] at h
      replace h := bindI_inv h
      obtain ⟨r5, z4, h5, h⟩ := h
      have cv := r_chanceN hJ hN hN5 hz e1 h5
      rw [chance_prd] at cv
      have e5 : r5 = prd s.k s.d 0 j N := congrArg Prod.fst cv
      have e4 : z4 = z := congrArg Prod.snd cv
      rw [e4] at h
      replace h := guard_inv h
      obtain ⟨_, h⟩ := h
      rw [clamp_of_int e1] at h
      replace h := letS_inv h
      obtain ⟨z7, c7, h⟩ := h
      have F : FrR [150] z z7 := by
        rw [← c7]
        exact FrR.sf FrR.rfl (by decide)
      have I7 : InvR z7 := by
        rw [← c7]
        exact hJ.2.2.2.1.sfF (by decide) (by decide)
      have row : ∀ u, z7.f 50 u = if u = j then r5 else z.f 50 u := fun u => by
        rw [← c7]
        exact rsf_at
      have a1 : (x1 + 1).toInt = ((j + 1 : Nat) : Int) := by
        rw [tn_add e1 (by decide : (1 : Int32).toInt = 1) (by omega) (by omega)]
        omega
      obtain ⟨i1, i2, i3⟩ := ih z7 (x1 + 1) (j + 1) (hJ.f50 F I7) a1 (by omega) (fun g hl => by
        rw [row]
        by_cases e : g = j
        · rw [if_pos e, e5, e]
        · rw [if_neg e]
          exact hg g (by omega)) h
      exact ⟨i1, F.trans i2 (fun _ q => q), i3⟩
theorem r_fills {y : YS} {z z' : RS} (h : REL y z) (hK : InvK y.x.k) (hI : InvR z) (hB : Big z) (h1 : r_fillsChances z = some z') : JR (JS.mk y.x.k y.x.n) z' ∧ FrR [45, 144, 150] z z' ∧ ∃ N : Nat, (y.x.k.v 1).toInt = (N : Int) ∧ N ≤ 5 ∧ (z'.f 20 (z'.v 18).toNatClampNeg).toInt = (N : Int) ∧ ∀ g, g < 6 ^ N → z'.f 50 g = prd y.x.k y.x.n 0 g N := by
  unfold r_fillsChances at h1
  replace h1 := bindP_inv h1
  obtain ⟨z1, w1, h1⟩ := h1
  obtain ⟨hJ, G⟩ := h.jr hK hI hB w1
  obtain ⟨N, hN, hN5, hz⟩ := hJ.nn
  obtain ⟨i1, i2, i3⟩ := r_fillsL hN hN5 fu z1 0 0 hJ (by decide) (Nat.zero_le _) (fun g hg => by omega) h1
  exact ⟨i1, ((FrR.rfl (W := [45, 144, 150])).trans G (by decide)).trans i2 (by decide), N, hN, hN5, by rw [← i1.1.1.1]; exact hN, i3⟩
/-- whether one is ahead of another -/
theorem r_ahead_val {z z' : RS} {x y r : Int32} {C : Nat → Int32} {N g o : Nat} (hC : ∀ g, g < 6 ^ N → z.f 50 g = C g) (ex : x.toInt = (g : Int)) (hg : g < 6 ^ N) (ey : y.toInt = (o : Int)) (ho : o < 6 ^ N) (h : r_isAhead z x y = some (r, z')) : z' = z ∧ r = if C o < C g then 1 else if C g = C o then (if y ≤ x then 0 else 1) else 0 := by
  unfold r_isAhead at h
  replace h := guard_inv h
  obtain ⟨_, h⟩ := h
  replace h := guard_inv h
  obtain ⟨_, h⟩ := h
  rw [clamp_of_int ex, clamp_of_int ey, hC g hg, hC o ho] at h
  by_cases c : C o < C g
  · rw [if_pos c] at h ⊢
    have e := Option.some.inj h
    exact ⟨(congrArg Prod.snd e).symm, (congrArg Prod.fst e).symm⟩
  · rw [if_neg c] at h ⊢
    replace h := guard_inv h
    obtain ⟨_, h⟩ := h
    replace h := guard_inv h
    obtain ⟨_, h⟩ := h
    by_cases d : C g = C o
    · rw [if_pos d] at h ⊢
      by_cases f : y ≤ x
      · rw [if_pos f] at h ⊢
        have e := Option.some.inj h
        exact ⟨(congrArg Prod.snd e).symm, (congrArg Prod.fst e).symm⟩
      · rw [if_neg f] at h ⊢
        have e := Option.some.inj h
        exact ⟨(congrArg Prod.snd e).symm, (congrArg Prod.fst e).symm⟩
    · rw [if_neg d] at h ⊢
      have e := Option.some.inj h
      exact ⟨(congrArg Prod.snd e).symm, (congrArg Prod.fst e).symm⟩
theorem r_rankL {z z' : RS} {x1 r : Int32} {C : Nat → Int32} {N o : Nat} (hN5 : N ≤ 5) (h6 : ∀ j, j < 6 → z.f 46 j = six6 j) (hz : (z.f 20 (z.v 18).toNatClampNeg).toInt = (N : Int)) (hC : ∀ g, g < 6 ^ N → z.f 50 g = C g) (e1 : x1.toInt = (o : Int)) (ho : o < 6 ^ N) : ∀ (n : Nat) (x2 x3 : Int32) (j : Nat), x3.toInt = (j : Int) → j ≤ 6 ^ N → x2 = fo (ahd C (C o) x1) 0 j 0 → r_rank_29L n z x1 x2 x3 = some (r, z') → r = fo (ahd C (C o) x1) 0 (6 ^ N) 0 := by
  have pl := pow_le N hN5
  intro n
  induction n with
  | zero => intro x2 x3 j _ _ _ h; exact none_ne h
  | succ n ih =>
    intro x2 x3 j e3 hj e2 h
    replace h : r_rank_29 (r_rank_29L n) z x1 x2 x3 = some (r, z') := h
    unfold r_rank_29 at h
    replace h := bindI_inv h
    obtain ⟨q, z1, h1, h⟩ := h
    obtain ⟨ez, eq⟩ := r_guessN h6 hN5 hz h1
    rw [ez] at h
    by_cases c : q ≤ x3
    · have c' := tn_le eq e3 c
      rw [if_pos c] at h
      have ej : j = 6 ^ N := by omega
      rw [← fst_som h, ← ej]
      exact e2
    · have c' := tn_nle eq e3 c
      rw [if_neg c] at h
      replace h := bindI_inv h
      obtain ⟨r5, z4, h5, h⟩ := h
      obtain ⟨ez4, e5⟩ := r_ahead_val hC e3 (by omega) e1 ho h5
      rw [ez4] at h
      have a3 : (x3 + 1).toInt = ((j + 1 : Nat) : Int) := by
        rw [tn_add e3 (by decide : (1 : Int32).toInt = 1) (by omega) (by omega)]
        omega
      have e3o : x3 = Int32.ofNat j := eq_ofnat e3
      have st : r_rank_29L n z x1 (ahd C (C o) x1 j x2) (x3 + 1) = some (r, z') := by
        unfold ahd
        rw [← e3o]
        by_cases d1 : C o < C j
        · rw [if_pos d1] at e5 ⊢
          rw [e5, if_neg z_one] at h
          exact h
        · rw [if_neg d1] at e5 ⊢
          by_cases d2 : C j = C o
          · rw [if_pos d2] at e5 ⊢
            by_cases d3 : x1 ≤ x3
            · rw [if_pos d3] at e5 ⊢
              rw [e5, if_pos rfl] at h
              exact h
            · rw [if_neg d3] at e5 ⊢
              rw [e5, if_neg z_one] at h
              exact h
          · rw [if_neg d2] at e5 ⊢
            rw [e5, if_pos rfl] at h
            exact h
      refine ih _ (x3 + 1) (j + 1) a3 (by omega) ?_ st
      rw [fo_last, e2, Nat.zero_add]
/-- a case has odds above 0, all else has none -/
theorem prd_zero {k : KS} {d : SD} {g w : Nat} : ∀ m, w < m → ¬ BIT k d w (tg g w) → prd k d 0 g m = 0 := by
  intro m
  induction m with
  | zero => intro h _; omega
  | succ m ih =>
    intro hw hb
    show prd k d 0 g m * OF k d (0 + m) (tg g m) = 0
    by_cases e : w = m
    · have o : OF k d (0 + m) (tg g m) = 0 := by
        rw [Nat.zero_add, ← e]
        unfold OF
        exact if_neg hb
      rw [o, Int32.mul_zero]
    · rw [ih (by omega) hb, Int32.zero_mul]
theorem r_isCaseL {s : JS} {z z' : RS} {x1 r : Int32} {g N : Nat} (hJ : JR s z) (hN : (s.k.v 1).toInt = (N : Int)) (hN5 : N ≤ 5) (hz : (z.f 20 (z.v 18).toNatClampNeg).toInt = (N : Int)) (eg : x1.toInt = (g : Int)) : ∀ (n : Nat) (x2 : Int32) (j : Nat), x2.toInt = (j : Int) → j ≤ N → (∀ w, w < j → BIT s.k s.d w (tg g w)) → r_isCase_2L n z x1 x2 = some (r, z') → z' = z ∧ ((r = 1 ∧ ∀ w, w < N → BIT s.k s.d w (tg g w)) ∨ (r = 0 ∧ ∃ w, w < N ∧ ¬ BIT s.k s.d w (tg g w))) := by
  intro n
  induction n with
  | zero => intro x2 j _ _ _ h; exact none_ne h
  | succ n ih =>
    intro x2 j e2 hj hw h
    replace h : r_isCase_2 (r_isCase_2L n) z x1 x2 = some (r, z') := h
    unfold r_isCase_2 at h
    replace h := guard_inv h
    obtain ⟨_, h⟩ := h
    by_cases c : z.f 20 (z.v 18).toNatClampNeg ≤ x2
    · have c' := ti_le c
      rw [if_pos c] at h
      have e := Option.some.inj h
      exact ⟨(congrArg Prod.snd e).symm, Or.inl ⟨(congrArg Prod.fst e).symm, fun w q => hw w (by omega)⟩⟩
    · have c' := ti_nle c
      rw [if_neg c] at h
      replace h := bindI_inv h
      obtain ⟨r4, z3, h3, h⟩ := h
      obtain ⟨ez3, e4⟩ := r_thing hJ.1.2.1 eg e2 (by omega) h3
      rw [ez3] at h
      replace h := bindI_inv h
      obtain ⟨r6, z5, h5, h⟩ := h
      obtain ⟨ez5, e6⟩ := hJ.maybe hN hN5 e2 (by omega) h5
      rw [ez5] at h
      have e4o : r4 = Int32.ofNat (tg g j) := eq_ofnat e4
      rw [e4o] at e6
      have a2 : (x2 + 1).toInt = ((j + 1 : Nat) : Int) := by
        rw [tn_add e2 (by decide : (1 : Int32).toInt = 1) (by omega) (by omega)]
        omega
      by_cases d : BIT s.k s.d j (tg g j)
      · have e6' : r6 = 1 := by rw [e6]; exact if_pos d
        rw [e6', if_neg z_one] at h
        exact ih (x2 + 1) (j + 1) a2 (by omega) (fun w q => by
          by_cases e : w = j
          · rw [e]; exact d
          · exact hw w (by omega)) h
      · have e6' : r6 = 0 := by rw [e6]; exact if_neg d
        rw [e6', if_pos rfl] at h
        have e := Option.some.inj h
        exact ⟨(congrArg Prod.snd e).symm, Or.inr ⟨(congrArg Prod.fst e).symm, j, by omega, d⟩⟩
theorem prd_pos {s s' : JS} {z : RS} {x r : Int32} {g N : Nat} (hJ : JR s z) (hF : FO s.k s.d) (hN : (s.k.v 1).toInt = (N : Int)) (ex : x.toInt = (g : Int)) (hg : g < 6 ^ N) (hb : ∀ w, w < N → BIT s.k s.d w (tg g w)) (h : kX2_oddsOf s x = some (r, s')) : 1 ≤ r.toInt := by
  have e : dsum (tg g) N = g := by
    have t := tg_split g N
    rw [Nat.div_eq_of_lt hg, Nat.mul_zero, Nat.add_zero] at t
    exact t
  exact best_pos hJ hF hN (D := tg g) (fun w hw => ⟨tg_lt g w, hb w hw⟩) (by rw [e]; exact ex) h
theorem rank_same {y : YS} {x' : XS} {z z' : RS} {x1 r1 r2 : Int32} (h : REL y z) (hK : InvK y.x.k) (hI : InvR z) (hB : Big z) (h1 : kX10_rank y.x x1 = some (r1, x')) (h2 : r_rank z x1 = some (r2, z')) : r1 = r2 ∧ True := by
  refine ⟨?_, trivial⟩
  unfold kX10_rank at h1
  unfold r_rank at h2
  rw [kg_eq, bindI_some] at h1
  rw [rg_eq hI hK h.1, bindI_some] at h2
  replace h1 := letS_inv h1
  obtain ⟨s3, c3, h1⟩ := h1
  have e3 : s3 = y.x := by rw [← c3]; rfl
  rw [e3] at h1
  by_cases hg : 0 ≤ x1.toInt ∧ x1.toInt < (y.x.k.v 3).toInt
  · rw [if_pos hg, if_neg z_one] at h1 h2
    replace h2 := bindP_inv h2
    obtain ⟨z4, w4, h2⟩ := h2
    obtain ⟨hJ, _, N, hN, hN5, hz, hC⟩ := r_fills h hK hI hB w4
    obtain ⟨g, eg⟩ : ∃ g : Nat, x1.toInt = (g : Int) := ⟨x1.toInt.toNat, by omega⟩
    have v3 : (y.x.k.v 3).toInt = ((6 ^ N : Nat) : Int) := by
      rw [h.1.1.2.2.2, clamp_of_int hN, six_pow N hN5]
    have gl : g < 6 ^ N := by omega
    replace h1 := bindI_inv h1
    obtain ⟨q7, s6, u6, h1⟩ := h1
    replace h1 := letS_inv h1
    obtain ⟨s8, c8, h1⟩ := h1
    have cv := k_oddsN (s := JS.mk y.x.k y.x.n) hN hN5 eg u6
    rw [chance_prd] at cv
    have e7 : q7 = prd y.x.k y.x.n 0 g N := congrArg Prod.fst cv
    have e6 : s6 = JS.mk y.x.k y.x.n := congrArg Prod.snd cv
    have e8 : s8 = y.x := by rw [← c8, e6]; rfl
    rw [e8] at h1
    replace h2 := bindI_inv h2
    obtain ⟨q6, z5, w5, h2⟩ := h2
    unfold r_isCase at w5
    obtain ⟨ez5, ic⟩ := r_isCaseL hJ hN hN5 hz eg fu 0 0 (by decide) (Nat.zero_le _) (fun w hw => by omega) w5
    rw [ez5] at h2
    rcases ic with ⟨i1, i2⟩ | ⟨i1, w, i2, i3⟩
    · have p := prd_pos hJ h.2.1.2 hN eg gl i2 u6
      have nz : ¬ q7 = 0 := by
        intro e
        rw [e] at p
        exact absurd p (by decide)
      rw [if_neg nz] at h1
      rw [i1, if_neg z_one] at h2
      replace h1 := bindI_inv h1
      obtain ⟨q12, s11, u11, h1⟩ := h1
      replace h1 := letS_inv h1
      obtain ⟨s13, _, h1⟩ := h1
      have k := k_ahead (s := JS.mk y.x.k y.x.n) hN hN5 u11
      have m := r_rankL (C := fun g => prd y.x.k y.x.n 0 g N) hN5 hJ.1.2.1 hz hC eg gl fu 0 0 0 (by decide) (Nat.zero_le _) rfl h2
      rw [← fst_som h1]
      show q12 = r2
      rw [k, m, e7]
      rfl
    · have z0 : q7 = 0 := by rw [e7]; exact prd_zero N i2 i3
      rw [if_pos z0] at h1
      rw [i1, if_pos rfl] at h2
      have f1 : -2 = r1 := congrArg Prod.fst (Option.some.inj h1)
      have f2 : -2 = r2 := congrArg Prod.fst (Option.some.inj h2)
      rw [← f1, ← f2]
  · rw [if_neg hg, if_pos rfl] at h1 h2
    have f1 : -1 = r1 := congrArg Prod.fst (Option.some.inj h1)
    have f2 : -1 = r2 := congrArg Prod.fst (Option.some.inj h2)
    rw [← f1, ← f2]
end
section
/-! ===== ranked: the best of those that came, one behind another ===== -/
noncomputable def ahN (c : Nat → Int) (g o : Nat) : Prop := c o < c g ∨ (c g = c o ∧ g < o)
theorem ahN_trans {c : Nat → Int} {a b d : Nat} (h1 : ahN c a b) (h2 : ahN c b d) : ahN c a d := by
  unfold ahN at *
  omega
theorem ahN_asym {c : Nat → Int} {a b : Nat} (h1 : ahN c a b) (h2 : ahN c b a) : False := by
  unfold ahN at *
  omega
/-- the first R + 1 of those below n, in their order: L there are; the rest of the row is empty -/
noncomputable def TOPg (c : Nat → Int) (R n : Nat) (G : Nat → Nat) (L : Nat) : Prop := L ≤ R + 1 ∧ (∀ t, t < L → 0 < c (G t) ∧ G t < n) ∧ (∀ t, t + 1 < L → ahN c (G t) (G (t + 1))) ∧ (∀ h, h < n → 0 < c h → (∃ t, t < L ∧ G t = h) ∨ (L = R + 1 ∧ ahN c (G R) h))
noncomputable def ROWg (C : Nat → Int32) (R : Nat) (G : Nat → Nat) (L : Nat) (tv tn : Nat → Int32) : Prop := (∀ t, t < L → tv t = C (G t) ∧ tn t = Int32.ofNat (G t)) ∧ (∀ t, L ≤ t → t ≤ R → tv t = 0 ∧ tn t = -1)
theorem TOPg.sort {c : Nat → Int} {R n : Nat} {G : Nat → Nat} {L : Nat} (h : TOPg c R n G L) : ∀ m t, t + m < L → m = 0 ∨ ahN c (G t) (G (t + m)) := by
  intro m
  induction m with
  | zero => intro t _; exact Or.inl rfl
  | succ m ih =>
    intro t ht
    refine Or.inr ?_
    have s := h.2.2.1 (t + m) (by omega)
    rcases ih t (by omega) with e | e
    · subst e
      exact s
    · exact ahN_trans e s
/-- one that isn't better than the last -/
theorem TOPg.skip {c : Nat → Int} {R n : Nat} {G : Nat → Nat} {L : Nat} (h : TOPg c R n G L) (hn : (L = R + 1 ∧ c n ≤ c (G R)) ∨ c n ≤ 0) : TOPg c R (n + 1) G L := by
  obtain ⟨a, b, d, e⟩ := h
  refine ⟨a, fun t ht => ⟨(b t ht).1, by have := (b t ht).2; omega⟩, d, fun k hk hc => ?_⟩
  by_cases q : k = n
  · subst q
    rcases hn with ⟨l, m⟩ | m
    · refine Or.inr ⟨l, ?_⟩
      have := (b R (by omega)).2
      unfold ahN
      omega
    · omega
  · exact e k (by omega) hc
/-- one that is put among them, at p -/
noncomputable def insG (G : Nat → Nat) (p n t : Nat) : Nat := if t < p then G t else if t = p then n else G (t - 1)
theorem TOPg.ins {c : Nat → Int} {R n p : Nat} {G : Nat → Nat} {L : Nat} (h : TOPg c R n G L) (hp : p ≤ R) (hpL : p ≤ L) (hc : 0 < c n) (h1 : ∀ t, p ≤ t → t < L → c (G t) < c n) (h2 : ∀ t, t < p → c n ≤ c (G t)) : TOPg c R (n + 1) (insG G p n) (if L = R + 1 then L else L + 1) := by
  have so := h.sort
  obtain ⟨a, b, d, e⟩ := h
  have gl : ∀ t, t < p → insG G p n t = G t := fun t q => by unfold insG; rw [if_pos q]
  have ge : insG G p n p = n := by unfold insG; rw [if_neg (by omega), if_pos rfl]
  have gg : ∀ t, p < t → insG G p n t = G (t - 1) := fun t q => by unfold insG; rw [if_neg (by omega), if_neg (by omega)]
  obtain ⟨K, hK⟩ : ∃ K, K = if L = R + 1 then L else L + 1 := ⟨_, rfl⟩
  rw [← hK]
  have K1 : K ≤ R + 1 ∧ K ≤ L + 1 ∧ L ≤ K ∧ (K = L → L = R + 1) := by
    by_cases q : L = R + 1
    · rw [if_pos q] at hK
      omega
    · rw [if_neg q] at hK
      omega
  have dr : L = R + 1 → ahN c (insG G p n R) (G R) := by
    intro l
    by_cases q : p = R
    · rw [← q, ge]
      have := h1 p (Nat.le_refl _) (by omega)
      unfold ahN
      omega
    · rw [gg R (by omega)]
      have s := d (R - 1) (by omega)
      have er : R - 1 + 1 = R := by omega
      rw [er] at s
      exact s
  refine ⟨K1.1, fun t ht => ?_, fun t ht => ?_, fun k hk hck => ?_⟩
  · by_cases q : t < p
    · rw [gl t q]
      have := b t (by omega)
      exact ⟨this.1, by omega⟩
    · by_cases q2 : t = p
      · rw [q2, ge]
        exact ⟨hc, by omega⟩
      · rw [gg t (by omega)]
        have := b (t - 1) (by omega)
        exact ⟨this.1, by omega⟩
  · by_cases q : t + 1 < p
    · rw [gl t (by omega), gl (t + 1) q]
      exact d t (by omega)
    · by_cases q2 : t + 1 = p
      · rw [gl t (by omega), q2, ge]
        have x1 := h2 t (by omega)
        have x2 := (b t (by omega)).2
        unfold ahN
        omega
      · by_cases q3 : t = p
        · rw [q3, ge, gg (p + 1) (by omega)]
          have e1 : p + 1 - 1 = p := by omega
          rw [e1]
          have := h1 p (Nat.le_refl _) (by omega)
          unfold ahN
          omega
        · rw [gg t (by omega), gg (t + 1) (by omega)]
          have s := d (t - 1) (by omega)
          have e1 : t - 1 + 1 = t + 1 - 1 := by omega
          rw [e1] at s
          exact s
  · by_cases q : k = n
    · exact Or.inl ⟨p, by omega, by rw [ge]; exact q.symm⟩
    · rcases e k (by omega) hck with ⟨t, t1, t2⟩ | ⟨l, m⟩
      · by_cases q1 : t < p
        · exact Or.inl ⟨t, by omega, by rw [gl t q1]; exact t2⟩
        · by_cases q2 : t + 1 < K
          · exact Or.inl ⟨t + 1, q2, by rw [gg (t + 1) (by omega)]; exact t2⟩
          · have l : L = R + 1 := by omega
            have tR : t = R := by omega
            refine Or.inr ⟨by omega, ?_⟩
            rw [← t2, tR]
            exact dr l
      · exact Or.inr ⟨by omega, ahN_trans (dr l) m⟩
/-- the class puts one on top -/
theorem putL {x1 x2 : Int32} {s' : KS} : ∀ (n : Nat) (s : KS) (x4 : Int32) (a : Nat), x4.toInt = (a : Int) → a ≤ 19 → kX2_putOnTop_3L n s x1 x2 x4 = some s' → ∃ p, p ≤ a ∧ (∀ t, p ≤ t → t < a → (s.f 40 t).toInt < x2.toInt) ∧ (p = 0 ∨ x2.toInt ≤ (s.f 40 (p - 1)).toInt) ∧ FrK [139, 140] s s' ∧ (∀ t, s'.f 40 t = if t < p then s.f 40 t else if t = p then x2 else if t ≤ a then s.f 40 (t - 1) else s.f 40 t) ∧ (∀ t, s'.f 39 t = if t < p then s.f 39 t else if t = p then x1 else if t ≤ a then s.f 39 (t - 1) else s.f 39 t) := by
  intro n
  induction n with
  | zero => intro s x4 a _ _ h; exact none_ne h
  | succ n ih =>
    intro s x4 a e4 ha h
    have fin : kX2_putOnTop_59 s x1 x2 x4 = some s' → FrK [139, 140] s s' ∧ (∀ t, s'.f 40 t = if t < a then s.f 40 t else if t = a then x2 else if t ≤ a then s.f 40 (t - 1) else s.f 40 t) ∧ (∀ t, s'.f 39 t = if t < a then s.f 39 t else if t = a then x1 else if t ≤ a then s.f 39 (t - 1) else s.f 39 t) := by
      intro g
      unfold kX2_putOnTop_59 at g
      replace g := guard_inv g
      obtain ⟨_, g⟩ := g
      replace g := letS_inv g
      obtain ⟨s2, c2, g⟩ := g
      replace g := guard_inv g
      obtain ⟨_, g⟩ := g
      replace g := letS_inv g
      obtain ⟨s5, c5, g⟩ := g
      rw [clamp_of_int e4] at c2 c5
      have e5 : s5 = s' := Option.some.inj g
      rw [← e5, ← c5, ← c2]
      refine ⟨FrK.sf (FrK.sf FrK.rfl (by decide)) (by decide), fun t => ?_, fun t => ?_⟩
      · have r1 : ((s.sf 40 a x2).sf 39 a x1).f 40 t = (s.sf 40 a x2).f 40 t := congrFun (ksf_ne (by decide)) t
        rw [r1, ksf_at]
        by_cases q : t = a
        · rw [if_pos q, if_neg (by omega), if_pos q]
        · rw [if_neg q]
          by_cases q2 : t < a
          · rw [if_pos q2]
          · rw [if_neg q2, if_neg q, if_neg (by omega)]
      · have r1 : (s.sf 40 a x2).f 39 = s.f 39 := ksf_ne (by decide)
        rw [ksf_at, r1]
        by_cases q : t = a
        · rw [if_pos q, if_neg (by omega), if_pos q]
        · rw [if_neg q]
          by_cases q2 : t < a
          · rw [if_pos q2]
          · rw [if_neg q2, if_neg q, if_neg (by omega)]
    replace h : kX2_putOnTop_3 (kX2_putOnTop_3L n) s x1 x2 x4 = some s' := h
    unfold kX2_putOnTop_3 at h
    by_cases c : x4 ≤ 0
    · have c' := tn_le e4 (by decide : (0 : Int32).toInt = 0) c
      rw [if_pos c] at h
      obtain ⟨f1, f2, f3⟩ := fin h
      exact ⟨a, Nat.le_refl _, fun t h1 h2 => by omega, Or.inl (by omega), f1, f2, f3⟩
    · have c' := tn_nle e4 (by decide : (0 : Int32).toInt = 0) c
      rw [if_neg c] at h
      have a4 : (x4 - 1).toInt = ((a - 1 : Nat) : Int) := by
        rw [tn_sub e4 (by decide : (1 : Int32).toInt = 1) (by omega) (by omega)]
        omega
      have a5 : (x4 + (-1)).toInt = ((a - 1 : Nat) : Int) := by
        rw [tn_add e4 (by decide : (-1 : Int32).toInt = -1) (by omega) (by omega)]
        omega
      generalize x4 + (-1) = Y4 at h a5
      replace h := guard_inv h
      obtain ⟨_, h⟩ := h
      rw [clamp_of_int a4] at h
      by_cases d : x2 ≤ s.f 40 (a - 1)
      · have d' := ti_le d
        rw [if_pos d] at h
        obtain ⟨f1, f2, f3⟩ := fin h
        exact ⟨a, Nat.le_refl _, fun t h1 h2 => by omega, Or.inr d', f1, f2, f3⟩
      · have d' := ti_nle d
        rw [if_neg d] at h
        replace h := guard_inv h
        obtain ⟨_, h⟩ := h
        replace h := guard_inv h
        obtain ⟨_, h⟩ := h
        replace h := letS_inv h
        obtain ⟨s6, c6, h⟩ := h
        replace h := guard_inv h
        obtain ⟨_, h⟩ := h
        replace h := guard_inv h
        obtain ⟨_, h⟩ := h
        replace h := letS_inv h
        obtain ⟨s10, c10, h⟩ := h
        rw [clamp_of_int e4] at c6 c10
        have r39 : s6.f 39 = s.f 39 := by
          rw [← c6]
          exact ksf_ne (by decide)
        have w40 : ∀ t, s10.f 40 t = if t = a then s.f 40 (a - 1) else s.f 40 t := fun t => by
          have r1 : s10.f 40 = s6.f 40 := by
            rw [← c10]
            exact ksf_ne (by decide)
          rw [r1, ← c6, ksf_at]
        have w39 : ∀ t, s10.f 39 t = if t = a then s.f 39 (a - 1) else s.f 39 t := fun t => by
          rw [← c10, ksf_at, r39]
        have F : FrK [139, 140] s s10 := by
          rw [← c10, ← c6]
          exact FrK.sf (FrK.sf FrK.rfl (by decide)) (by decide)
        obtain ⟨p, p1, p2, p3, p4, p5, p6⟩ := ih s10 Y4 (a - 1) a5 (by omega) h
        refine ⟨p, by omega, fun t h1 h2 => ?_, ?_, F.trans p4 (fun _ q => q), fun t => ?_, fun t => ?_⟩
        · by_cases q : t = a - 1
          · rw [q]
            exact d'
          · have := p2 t h1 (by omega)
            rw [w40, if_neg (by omega)] at this
            exact this
        · rcases p3 with z | z
          · exact Or.inl z
          · rw [w40, if_neg (by omega)] at z
            exact Or.inr z
        · rw [p5 t]
          by_cases q1 : t < p
          · rw [if_pos q1, if_pos q1, w40, if_neg (by omega)]
          · rw [if_neg q1, if_neg q1]
            by_cases q2 : t = p
            · rw [if_pos q2, if_pos q2]
            · rw [if_neg q2, if_neg q2]
              by_cases q3 : t ≤ a - 1
              · rw [if_pos q3, if_pos (by omega), w40, if_neg (by omega)]
              · rw [if_neg q3, w40]
                by_cases q4 : t = a
                · rw [if_pos q4, if_pos (by omega), q4]
                · rw [if_neg q4, if_neg (by omega)]
        · rw [p6 t]
          by_cases q1 : t < p
          · rw [if_pos q1, if_pos q1, w39, if_neg (by omega)]
          · rw [if_neg q1, if_neg q1]
            by_cases q2 : t = p
            · rw [if_pos q2, if_pos q2]
            · rw [if_neg q2, if_neg q2]
              by_cases q3 : t ≤ a - 1
              · rw [if_pos q3, if_pos (by omega), w39, if_neg (by omega)]
              · rw [if_neg q3, w39]
                by_cases q4 : t = a
                · rw [if_pos q4, if_pos (by omega), q4]
                · rw [if_neg q4, if_neg (by omega)]
/-- the class's row behind n guesses -/
noncomputable def RK (C : Nat → Int32) (R n : Nat) (s : KS) : Prop := ∃ G L, TOPg (fun g => (C g).toInt) R n G L ∧ ROWg C R G L (s.f 40) (s.f 39)
theorem RK.skip {C : Nat → Int32} {R n : Nat} {s : KS} (h : RK C R n s) (hn : C n ≤ s.f 40 R) : RK C R (n + 1) s := by
  obtain ⟨G, L, t, r⟩ := h
  have hn' := ti_le hn
  have l := t.1
  refine ⟨G, L, t.skip ?_, r⟩
  by_cases q : L = R + 1
  · rw [(r.1 R (by omega)).1] at hn'
    exact Or.inl ⟨q, hn'⟩
  · rw [(r.2 R (by omega) (Nat.le_refl _)).1] at hn'
    have z : (0 : Int32).toInt = 0 := by decide
    exact Or.inr (by omega)
theorem RK.put {C : Nat → Int32} {R n : Nat} {s s' : KS} {x1 x4 : Int32} (h : RK C R n s) (hR : R ≤ 19) (e1 : x1 = Int32.ofNat n) (e4 : x4.toInt = (R : Int)) (hn : ¬ C n ≤ s.f 40 R) (hp : kX2_putOnTop s x1 (C n) x4 = some s') : RK C R (n + 1) s' ∧ FrK [139, 140] s s' := by
  obtain ⟨G, L, t, r⟩ := h
  have hn' := ti_nle hn
  have z : (0 : Int32).toInt = 0 := by decide
  have lR := t.1
  unfold kX2_putOnTop at hp
  obtain ⟨p, p1, p2, p3, p4, p5, p6⟩ := putL fu s x4 R e4 hR hp
  have pos : 0 < (C n).toInt := by
    by_cases q : L = R + 1
    · rw [(r.1 R (by omega)).1] at hn'
      have := (t.2.1 R (by omega)).1
      have : 0 < (C (G R)).toInt := this
      omega
    · rw [(r.2 R (by omega) (Nat.le_refl _)).1] at hn'
      omega
  have pL : p ≤ L := by
    refine Nat.le_of_not_lt (fun q => ?_)
    rcases p3 with e | e
    · omega
    · rw [(r.2 (p - 1) (by omega) (by omega)).1] at e
      omega
  have b1 : ∀ u, p ≤ u → u < L → (C (G u)).toInt < (C n).toInt := by
    intro u h1 h2
    by_cases q : u < R
    · have := p2 u h1 q
      rw [(r.1 u h2).1] at this
      exact this
    · have uR : u = R := by omega
      rw [uR] at h2 ⊢
      rw [(r.1 R h2).1] at hn'
      exact hn'
  have b2 : ∀ u, u < p → (C n).toInt ≤ (C (G u)).toInt := by
    intro u h1
    rcases p3 with e | e
    · omega
    · rw [(r.1 (p - 1) (by omega)).1] at e
      rcases t.sort (p - 1 - u) u (by omega) with m | m
      · have : u = p - 1 := by omega
        rw [this]
        exact e
      · have es : u + (p - 1 - u) = p - 1 := by omega
        rw [es] at m
        have m : (C (G (p - 1))).toInt < (C (G u)).toInt ∨ ((C (G u)).toInt = (C (G (p - 1))).toInt ∧ G u < G (p - 1)) := m
        omega
  have ti := t.ins p1 pL pos b1 b2
  refine ⟨⟨insG G p n, if L = R + 1 then L else L + 1, ti, ?_⟩, p4⟩
  obtain ⟨K, hK⟩ : ∃ K, K = if L = R + 1 then L else L + 1 := ⟨_, rfl⟩
  rw [← hK]
  have K1 : K ≤ R + 1 ∧ K ≤ L + 1 ∧ L ≤ K ∧ (K = L → L = R + 1) := by
    by_cases q : L = R + 1
    · rw [if_pos q] at hK
      omega
    · rw [if_neg q] at hK
      omega
  refine ⟨fun u hu => ?_, fun u h1 h2 => ?_⟩
  · rw [p5 u, p6 u]
    unfold insG
    by_cases q1 : u < p
    · rw [if_pos q1, if_pos q1, if_pos q1]
      exact r.1 u (by omega)
    · rw [if_neg q1, if_neg q1, if_neg q1]
      by_cases q2 : u = p
      · rw [if_pos q2, if_pos q2, if_pos q2]
        exact ⟨rfl, e1⟩
      · rw [if_neg q2, if_neg q2, if_neg q2, if_pos (by omega), if_pos (by omega)]
        exact r.1 (u - 1) (by omega)
  · rw [p5 u, p6 u, if_neg (by omega), if_neg (by omega), if_pos (by omega), if_neg (by omega), if_neg (by omega), if_pos (by omega)]
    exact r.2 (u - 1) (by omega) (by omega)
theorem RK.fr {C : Nat → Int32} {R n : Nat} {s s' : KS} (h : RK C R n s) (e1 : s'.f 40 = s.f 40) (e2 : s'.f 39 = s.f 39) : RK C R n s' := by
  unfold RK at *
  rw [e1, e2]
  exact h
theorem rank45 {k35 : JS → Int32 → Int32 → Int32 → Int32 → Int32 → Option (Int32 × JS)} {out : Int32 × JS} {x2 x3 x4 x6 : Int32} {S i R : Nat} {C : Nat → Int32} {s0 : JS} (hS : S ≤ 216) (hR : R ≤ 19) (e2 : x2.toInt = (R : Int)) (e3 : x3.toInt = (S : Int)) (e6 : x6.toInt = (i : Int)) (hi : i ≤ 36) (hC : ∀ j, j < S → s0.k.f 38 i * s0.k.f 37 j = C (i * S + j)) : ∀ (n : Nat) (s : JS) (x5 x7 : Int32) (j : Nat), x7.toInt = (j : Int) → j ≤ S → x5.toInt = ((i * S + j : Nat) : Int) → FrK [139, 140] s0.k s.k → RK C R (i * S + j) s.k → kX2_caseAtRank_45L k35 n s x2 x3 x4 x5 x6 x7 = some out → ∃ t y5, k35 t x2 x3 x4 y5 (x6 + 1) = some out ∧ y5.toInt = (((i + 1) * S : Nat) : Int) ∧ FrK [139, 140] s0.k t.k ∧ RK C R ((i + 1) * S) t.k := by
  have big : i * S ≤ 36 * 216 := Nat.mul_le_mul hi hS
  intro n
  induction n with
  | zero => intro s x5 x7 j _ _ _ _ _ h; exact none_ne h
  | succ n ih =>
    intro s x5 x7 j e7 hj e5 hF hK h
    replace h : kX2_caseAtRank_45 k35 (kX2_caseAtRank_45L k35 n) s x2 x3 x4 x5 x6 x7 = some out := h
    unfold kX2_caseAtRank_45 at h
    have em : (i + 1) * S = i * S + S := Nat.succ_mul _ _
    by_cases c : x3 ≤ x7
    · have c' := tn_le e3 e7 c
      rw [if_pos c] at h
      have ej : i * S + j = (i + 1) * S := by omega
      rw [ej] at e5 hK
      exact ⟨s, x5, h, e5, hF, hK⟩
    · have c' := tn_nle e3 e7 c
      rw [if_neg c] at h
      replace h := guard_inv h
      obtain ⟨_, h⟩ := h
      replace h := guard_inv h
      obtain ⟨_, h⟩ := h
      replace h := guard_inv h
      obtain ⟨_, h⟩ := h
      have f38 : s.k.f 38 = s0.k.f 38 := (hF.2 38 (by decide)).1
      have f37 : s.k.f 37 = s0.k.f 37 := (hF.2 37 (by decide)).1
      rw [clamp_of_int e6, clamp_of_int e7, clamp_of_int e2, f38, f37, hC j (by omega)] at h
      have a7 : (x7 + 1).toInt = ((j + 1 : Nat) : Int) := by
        rw [tn_add e7 (by decide : (1 : Int32).toInt = 1) (by omega) (by omega)]
        omega
      have a5 : (x5 + 1).toInt = ((i * S + (j + 1) : Nat) : Int) := by
        rw [tn_add e5 (by decide : (1 : Int32).toInt = 1) (by omega) (by omega)]
        omega
      by_cases d : C (i * S + j) ≤ s.k.f 40 R
      · rw [if_pos d] at h
        unfold kX2_caseAtRank_88 at h
        exact ih s (x5 + 1) (x7 + 1) (j + 1) a7 (by omega) a5 hF (hK.skip d) h
      · rw [if_neg d] at h
        replace h := bindP_inv h
        obtain ⟨t6, h6, h⟩ := h
        replace h := letS_inv h
        obtain ⟨s7, c7, h⟩ := h
        unfold kX2_caseAtRank_88 at h
        obtain ⟨p1, p2⟩ := hK.put hR (eq_ofnat e5) e2 d h6
        have e7k : s7.k = t6 := by rw [← c7]; rfl
        rw [← e7k] at p1 p2
        exact ih s7 (x5 + 1) (x7 + 1) (j + 1) a7 (by omega) a5 (hF.trans p2 (fun _ q => q)) p1 h
theorem rank35 {x2 x3 x4 r : Int32} {s' : JS} {S T R : Nat} {C : Nat → Int32} {s0 : JS} (hS : S ≤ 216) (hT : T ≤ 36) (hR : R ≤ 19) (e2 : x2.toInt = (R : Int)) (e3 : x3.toInt = (S : Int)) (e4 : x4.toInt = (T : Int)) (hC : ∀ i, i < T → ∀ j, j < S → s0.k.f 38 i * s0.k.f 37 j = C (i * S + j)) : ∀ (n : Nat) (s : JS) (x5 x6 : Int32) (i : Nat), x6.toInt = (i : Int) → i ≤ T → x5.toInt = ((i * S : Nat) : Int) → FrK [139, 140] s0.k s.k → RK C R (i * S) s.k → kX2_caseAtRank_35L n s x2 x3 x4 x5 x6 = some (r, s') → ∃ t : KS, RK C R (T * S) t ∧ r = t.f 39 R := by
  intro n
  induction n with
  | zero => intro s x5 x6 i _ _ _ _ _ h; exact none_ne h
  | succ n ih =>
    intro s x5 x6 i e6 hi e5 hF hK h
    replace h : kX2_caseAtRank_35 (kX2_caseAtRank_35L n) s x2 x3 x4 x5 x6 = some (r, s') := h
    unfold kX2_caseAtRank_35 at h
    by_cases c : x4 ≤ x6
    · have c' := tn_le e4 e6 c
      rw [if_pos c] at h
      replace h := guard_inv h
      obtain ⟨_, h⟩ := h
      rw [clamp_of_int e2] at h
      have ei : i = T := by omega
      rw [ei] at hK
      exact ⟨s.k, hK, (congrArg Prod.fst (Option.some.inj h)).symm⟩
    · have c' := tn_nle e4 e6 c
      rw [if_neg c] at h
      obtain ⟨t, y5, t1, t2, t3, t4⟩ := rank45 hS hR e2 e3 e6 (by omega) (hC i (by omega)) fu s x5 0 0 (by decide) (Nat.zero_le _) e5 hF hK h
      have a6 : (x6 + 1).toInt = ((i + 1 : Nat) : Int) := by
        rw [tn_add e6 (by decide : (1 : Int32).toInt = 1) (by omega) (by omega)]
        omega
      exact ih t y5 (x6 + 1) (i + 1) a6 (by omega) t2 t3 t4 t1
theorem fill20 {x1 : Int32} {s' : Nat → Int32} : ∀ (n : Nat) (s : Nat → Int32) (x2 : Int32) (j : Nat), x2.toInt = (j : Int) → j ≤ 20 → kJ7_fill_53178_20_5L n s x1 x2 20 = some s' → (∀ i, j ≤ i → i < 20 → s' i = x1) ∧ (∀ i, (i < j ∨ 20 ≤ i) → s' i = s i) := by
  intro n
  induction n with
  | zero => intro s x2 j _ _ h; exact none_ne h
  | succ n ih =>
    intro s x2 j h2 hj h
    replace h : kJ7_fill_53178_20_5 (kJ7_fill_53178_20_5L n) s x1 x2 20 = some s' := h
    unfold kJ7_fill_53178_20_5 at h
    by_cases c : 20 ≤ x2
    · have c' := tn_le (a := 20) (by decide) rfl c
      rw [if_pos c] at h
      cases h
      exact ⟨fun i h1 h2 => by omega, fun i _ => rfl⟩
    · have c' := tn_nle (a := 20) (by decide) rfl c
      rw [if_neg c] at h
      replace h := guard_inv h
      obtain ⟨_, h⟩ := h
      replace h := letS_inv h
      obtain ⟨s3, d3, h⟩ := h
      rw [clamp_of_int h2] at d3
      have a2 : (x2 + 1).toInt = ((j + 1 : Nat) : Int) := by
        rw [tn_add h2 (by decide : (1 : Int32).toInt = 1) (by omega) (by omega)]
        omega
      obtain ⟨q1, q2⟩ := ih s3 (x2 + 1) (j + 1) a2 (by omega) h
      refine ⟨fun i h1 h2 => ?_, fun i hi => ?_⟩
      · by_cases e : i = j
        · rw [q2 i (by omega), ← d3, e]
          exact upd_same
        · exact q1 i (by omega) h2
      · rw [q2 i (by omega), ← d3]
        exact upd_ne (by omega)
theorem k_ranked {s s' : JS} {x2 r : Int32} {N R : Nat} (hN : (s.k.v 1).toInt = (N : Int)) (hN5 : N ≤ 5) (hR : R ≤ 19) (e2 : x2.toInt = (R : Int)) (h : kX2_caseAtRank s x2 = some (r, s')) : ∃ t : KS, RK (fun g => prd s.k s.d 0 g N) R (6 ^ N) t ∧ r = t.f 39 R := by
  unfold kX2_caseAtRank at h
  replace h := bindI_inv h
  obtain ⟨r2, s1, u1, h⟩ := h
  replace h := bindI_inv h
  obtain ⟨r4, s2, u2, h⟩ := h
  obtain ⟨A, M, hAM, hA, hM, f2, f4, _, _, hC⟩ := fill_both hN hN5 u1 u2
  replace h := bindP_inv h
  obtain ⟨t5, u5, h⟩ := h
  replace h := letS_inv h
  obtain ⟨s6, c6, h⟩ := h
  replace h := bindP_inv h
  obtain ⟨t8, u8, h⟩ := h
  replace h := letS_inv h
  obtain ⟨s9, c9, h⟩ := h
  unfold kJ7_fill_53178_20 at u5 u8
  obtain ⟨g5, _⟩ := fill20 fu _ 0 0 (by decide) (by omega) u5
  obtain ⟨g8, _⟩ := fill20 fu _ 0 0 (by decide) (by omega) u8
  have F9 : FrK [139, 140] s2.k s9.k := by
    rw [← c9, ← c6]
    exact FrK.sa (FrK.sa FrK.rfl (by decide)) (by decide)
  have r40 : s9.k.f 40 = t5 := by
    rw [← c9, ← c6]
    show ((s2.k.sa 40 t5).sa 39 t8).f 40 = t5
    have q : ((s2.k.sa 40 t5).sa 39 t8).f 40 = (s2.k.sa 40 t5).f 40 := ksa_ne (by decide)
    rw [q, ksa_at]
  have r39 : s9.k.f 39 = t8 := by
    rw [← c9]
    exact ksa_at
  have p6 : 6 ^ N = 6 ^ M * 6 ^ A := by rw [← hAM, Nat.pow_add, Nat.mul_comm]
  have pA : 6 ^ A ≤ 6 ^ 3 := pow6_le A 3 hA
  have pM : 6 ^ M ≤ 6 ^ 2 := pow6_le M 2 hM
  have c3 : (6 : Nat) ^ 3 = 216 := by decide
  have c2 : (6 : Nat) ^ 2 = 36 := by decide
  have pp : 0 < 6 ^ A := Nat.pow_pos (by omega)
  rw [p6]
  refine rank35 (S := 6 ^ A) (T := 6 ^ M) (s0 := s2) (by omega) (by omega) hR e2 f2 f4 (fun i hi j hj => ?_) fu s9 0 0 0 (by decide) (Nat.zero_le _) (by rw [Nat.zero_mul]; decide) F9 ?_ h
  · have lt : i * 6 ^ A + j < 6 ^ N := by
      have m : (i + 1) * 6 ^ A ≤ 6 ^ M * 6 ^ A := Nat.mul_le_mul_right _ hi
      have m2 : (i + 1) * 6 ^ A = i * 6 ^ A + 6 ^ A := Nat.succ_mul _ _
      omega
    have q := hC (i * 6 ^ A + j) lt
    have d1 : (i * 6 ^ A + j) / 6 ^ A = i := by
      rw [Nat.add_comm, Nat.add_mul_div_right _ _ pp, Nat.div_eq_of_lt hj, Nat.zero_add]
    have d2 : (i * 6 ^ A + j) % 6 ^ A = j := by
      rw [Nat.add_comm, Nat.add_mul_mod_self_right, Nat.mod_eq_of_lt hj]
    rw [d1, d2] at q
    exact q
  · rw [Nat.zero_mul]
    refine ⟨fun _ => 0, 0, ⟨Nat.zero_le _, fun t ht => by omega, fun t ht => by omega, fun k hk => by omega⟩, fun t ht => by omega, fun t _ ht => ?_⟩
    rw [r40, r39]
    exact ⟨g5 t (Nat.zero_le _) (by omega), g8 t (Nat.zero_le _) (by omega)⟩
/-! the reference: the best of those behind the last one, again and again -/
noncomputable def PQ (c : Nat → Int) (k : Nat) (G : Nat → Nat) (g : Nat) : Prop := 0 < c g ∧ (k = 0 ∨ ahN c (G (k - 1)) g)
theorem r_pick {z z' : RS} {k20 : RS → Int32 → Int32 → Int32 → Option (Int32 × RS)} {x1 x2 x3 r : Int32} {C : Nat → Int32} {N k : Nat} {G : Nat → Nat} (hN5 : N ≤ 5) (h6 : ∀ j, j < 6 → z.f 46 j = six6 j) (hz : (z.f 20 (z.v 18).toNatClampNeg).toInt = (N : Int)) (hC : ∀ g, g < 6 ^ N → z.f 50 g = C g) (hl : (k = 0 ∧ x2 = -1) ∨ (0 < k ∧ x2.toInt = (G (k - 1) : Int) ∧ G (k - 1) < 6 ^ N)) : ∀ (n : Nat) (x4 x5 : Int32) (j : Nat), x5.toInt = (j : Int) → j ≤ 6 ^ N → ((x4 = -1 ∧ ∀ g, g < j → ¬ PQ (fun g => (C g).toInt) k G g) ∨ (∃ b : Nat, x4.toInt = (b : Int) ∧ b < j ∧ PQ (fun g => (C g).toInt) k G b ∧ ∀ g, g < j → PQ (fun g => (C g).toInt) k G g → g = b ∨ ahN (fun g => (C g).toInt) b g)) → r_ranked_31L k20 n z x1 x2 x3 x4 x5 = some (r, z') → (r = -1 ∧ ∀ g, g < 6 ^ N → ¬ PQ (fun g => (C g).toInt) k G g) ∨ (∃ (b : Nat) (y : Int32), y.toInt = (b : Int) ∧ b < 6 ^ N ∧ PQ (fun g => (C g).toInt) k G b ∧ (∀ g, g < 6 ^ N → PQ (fun g => (C g).toInt) k G g → g = b ∨ ahN (fun g => (C g).toInt) b g) ∧ k20 z x1 y (x3 + 1) = some (r, z')) := by
  have pl := pow_le N hN5
  have neg : ∀ {x : Int32} {b : Nat}, x.toInt = (b : Int) → ¬ x < 0 ∧ (0 : Int32) ≤ x := by
    intro x b e
    have z0 : (0 : Int32).toInt = 0 := by decide
    exact ⟨fun q => by have := ti_lt q; omega, Int32.le_iff_toInt_le.mpr (by omega)⟩
  intro n
  induction n with
  | zero => intro x4 x5 j _ _ _ h; exact none_ne h
  | succ n ih =>
    intro x4 x5 j e5 hj hb h
    replace h : r_ranked_31 k20 (r_ranked_31L k20 n) z x1 x2 x3 x4 x5 = some (r, z') := h
    unfold r_ranked_31 at h
    replace h := bindI_inv h
    obtain ⟨q, z1, h1, h⟩ := h
    obtain ⟨ez, eq⟩ := r_guessN h6 hN5 hz h1
    rw [ez] at h
    by_cases c : q ≤ x5
    · have c' := tn_le eq e5 c
      have ej : j = 6 ^ N := by omega
      rw [ej] at hb
      rw [if_pos c] at h
      rcases hb with ⟨b1, b2⟩ | ⟨b, b1, b2, b3, b4⟩
      · rw [b1, if_neg (by decide)] at h
        exact Or.inl ⟨(congrArg Prod.fst (Option.some.inj h)).symm, b2⟩
      · rw [if_pos (neg b1).2] at h
        exact Or.inr ⟨b, x4, b1, b2, b3, b4, h⟩
    · have c' := tn_nle eq e5 c
      rw [if_neg c] at h
      have hjN : j < 6 ^ N := by omega
      have a5 : (x5 + 1).toInt = ((j + 1 : Nat) : Int) := by
        rw [tn_add e5 (by decide : (1 : Int32).toInt = 1) (by omega) (by omega)]
        omega
      replace h := guard_inv h
      obtain ⟨_, h⟩ := h
      rw [clamp_of_int e5, hC j hjN] at h
      -- one that isn't of them
      have no : ¬ PQ (fun g => (C g).toInt) k G j → r_ranked_31L k20 n z x1 x2 x3 x4 (x5 + 1) = some (r, z') → (r = -1 ∧ ∀ g, g < 6 ^ N → ¬ PQ (fun g => (C g).toInt) k G g) ∨ (∃ (b : Nat) (y : Int32), y.toInt = (b : Int) ∧ b < 6 ^ N ∧ PQ (fun g => (C g).toInt) k G b ∧ (∀ g, g < 6 ^ N → PQ (fun g => (C g).toInt) k G g → g = b ∨ ahN (fun g => (C g).toInt) b g) ∧ k20 z x1 y (x3 + 1) = some (r, z')) := by
        intro np g
        refine ih x4 (x5 + 1) (j + 1) a5 (by omega) ?_ g
        rcases hb with ⟨b1, b2⟩ | ⟨b, b1, b2, b3, b4⟩
        · refine Or.inl ⟨b1, fun g hg => ?_⟩
          by_cases e : g = j
          · rw [e]; exact np
          · exact b2 g (by omega)
        · refine Or.inr ⟨b, b1, by omega, b3, fun g hg hp => ?_⟩
          by_cases e : g = j
          · rw [e] at hp; exact absurd hp np
          · exact b4 g (by omega) hp
      -- one that is of them
      have yes : PQ (fun g => (C g).toInt) k G j → r_ranked_64 k20 (r_ranked_31L k20 n) z x1 x2 x3 x4 x5 = some (r, z') → (r = -1 ∧ ∀ g, g < 6 ^ N → ¬ PQ (fun g => (C g).toInt) k G g) ∨ (∃ (b : Nat) (y : Int32), y.toInt = (b : Int) ∧ b < 6 ^ N ∧ PQ (fun g => (C g).toInt) k G b ∧ (∀ g, g < 6 ^ N → PQ (fun g => (C g).toInt) k G g → g = b ∨ ahN (fun g => (C g).toInt) b g) ∧ k20 z x1 y (x3 + 1) = some (r, z')) := by
        intro pj g
        unfold r_ranked_64 at g
        rcases hb with ⟨b1, b2⟩ | ⟨b, b1, b2, b3, b4⟩
        · rw [b1, if_pos (by decide)] at g
          unfold r_ranked_80 r_ranked_84 at g
          refine ih x5 (x5 + 1) (j + 1) a5 (by omega) (Or.inr ⟨j, e5, by omega, pj, fun g hg hp => ?_⟩) g
          by_cases e : g = j
          · exact Or.inl e
          · exact absurd hp (b2 g (by omega))
        · rw [if_neg (neg b1).1] at g
          replace g := bindI_inv g
          obtain ⟨r3, z3, h3, g⟩ := g
          obtain ⟨ez3, e3⟩ := r_ahead_val hC e5 hjN b1 (by omega) h3
          rw [ez3] at g
          -- b stands ahead of j
          have stay : ¬ (C b).toInt < (C j).toInt → r_ranked_31L k20 n z x1 x2 x3 x4 (x5 + 1) = some (r, z') → (r = -1 ∧ ∀ g, g < 6 ^ N → ¬ PQ (fun g => (C g).toInt) k G g) ∨ (∃ (b : Nat) (y : Int32), y.toInt = (b : Int) ∧ b < 6 ^ N ∧ PQ (fun g => (C g).toInt) k G b ∧ (∀ g, g < 6 ^ N → PQ (fun g => (C g).toInt) k G g → g = b ∨ ahN (fun g => (C g).toInt) b g) ∧ k20 z x1 y (x3 + 1) = some (r, z')) := by
            intro le g
            refine ih x4 (x5 + 1) (j + 1) a5 (by omega) (Or.inr ⟨b, b1, by omega, b3, fun g hg hp => ?_⟩) g
            by_cases e : g = j
            · refine Or.inr ?_
              rw [e]
              show (C j).toInt < (C b).toInt ∨ ((C b).toInt = (C j).toInt ∧ b < j)
              omega
            · exact b4 g (by omega) hp
          by_cases d1 : C b < C j
          · have d1' := ti_lt d1
            rw [if_pos d1] at e3
            rw [e3, if_neg z_one] at g
            unfold r_ranked_80 r_ranked_84 at g
            refine ih x5 (x5 + 1) (j + 1) a5 (by omega) (Or.inr ⟨j, e5, by omega, pj, fun g hg hp => ?_⟩) g
            by_cases e : g = j
            · exact Or.inl e
            · refine Or.inr ?_
              have jb : ahN (fun g => (C g).toInt) j b := Or.inl d1'
              rcases b4 g (by omega) hp with e2 | e2
              · rw [e2]; exact jb
              · exact ahN_trans jb e2
          · have d1' := ti_nlt d1
            rw [if_neg d1] at e3
            have z0 : r3 = 0 := by
              rw [e3]
              by_cases d2 : C j = C b
              · rw [if_pos d2, if_pos (Int32.le_iff_toInt_le.mpr (by omega))]
              · rw [if_neg d2]
            rw [z0, if_pos rfl] at g
            unfold r_ranked_84 at g
            exact stay (by omega) g
      by_cases d : C j ≤ 0
      · have d' := tn_le (rfl : (C j).toInt = (C j).toInt) (by decide : (0 : Int32).toInt = 0) d
        rw [if_pos d] at h
        unfold r_ranked_84 at h
        exact no (fun q => by have q1 : 0 < (C j).toInt := q.1; omega) h
      · have d' := tn_nle (rfl : (C j).toInt = (C j).toInt) (by decide : (0 : Int32).toInt = 0) d
        rw [if_neg d] at h
        rcases hl with ⟨l1, l2⟩ | ⟨l1, l2, l3⟩
        · rw [l2, if_pos (by decide)] at h
          rw [← l2] at h
          exact yes ⟨d', Or.inl l1⟩ h
        · rw [if_neg (neg l2).1] at h
          replace h := bindI_inv h
          obtain ⟨r9, z8, h8, h⟩ := h
          obtain ⟨ez8, e9⟩ := r_ahead_val hC l2 l3 e5 hjN h8
          rw [ez8] at h
          by_cases a : ahN (fun g => (C g).toInt) (G (k - 1)) j
          · have a' : (C j).toInt < (C (G (k - 1))).toInt ∨ ((C (G (k - 1))).toInt = (C j).toInt ∧ G (k - 1) < j) := a
            have one : r9 = 1 := by
              rw [e9]
              by_cases f : C j < C (G (k - 1))
              · rw [if_pos f]
              · have f' := ti_nlt f
                rw [if_neg f, if_pos (Int32.toInt_inj.mp (by omega)), if_neg (fun q => by have := ti_le q; omega)]
            rw [one, if_neg z_one] at h
            exact yes ⟨d', Or.inr a⟩ h
          · have a' : ¬ ((C j).toInt < (C (G (k - 1))).toInt ∨ ((C (G (k - 1))).toInt = (C j).toInt ∧ G (k - 1) < j)) := a
            have zero : r9 = 0 := by
              rw [e9]
              by_cases f : C j < C (G (k - 1))
              · have f' := ti_lt f
                omega
              · rw [if_neg f]
                by_cases f2 : C (G (k - 1)) = C j
                · rw [if_pos f2, if_pos (Int32.le_iff_toInt_le.mpr (by rw [f2] at a'; omega))]
                · rw [if_neg f2]
            rw [zero, if_pos rfl] at h
            unfold r_ranked_84 at h
            exact no (fun q => by
              rcases q.2 with q2 | q2
              · omega
              · exact a q2) h
theorem r_rankedL {z z' : RS} {x1 r : Int32} {C : Nat → Int32} {N R L : Nat} {G : Nat → Nat} (hN5 : N ≤ 5) (h6 : ∀ j, j < 6 → z.f 46 j = six6 j) (hz : (z.f 20 (z.v 18).toNatClampNeg).toInt = (N : Int)) (hC : ∀ g, g < 6 ^ N → z.f 50 g = C g) (e1 : x1.toInt = (R : Int)) (hR : R ≤ 19) (t : TOPg (fun g => (C g).toInt) R (6 ^ N) G L) : ∀ (n : Nat) (x2 x3 : Int32) (k : Nat), x3.toInt = (k : Int) → k ≤ R + 1 → k ≤ L → ((k = 0 ∧ x2 = -1) ∨ (0 < k ∧ x2.toInt = (G (k - 1) : Int))) → r_ranked_20L n z x1 x2 x3 = some (r, z') → (L = R + 1 ∧ r.toInt = (G R : Int)) ∨ (L < R + 1 ∧ r = -1) := by
  intro n
  induction n with
  | zero => intro x2 x3 k _ _ _ _ h; exact none_ne h
  | succ n ih =>
    intro x2 x3 k e3 hk hkL e2 h
    have l := t.1
    replace h : r_ranked_20 (r_ranked_20L n) z x1 x2 x3 = some (r, z') := h
    unfold r_ranked_20 at h
    by_cases c : x1 < x3
    · have c' := tn_lt e1 e3 c
      rw [if_pos c] at h
      have kR : k = R + 1 := by omega
      rcases e2 with ⟨a, _⟩ | ⟨_, a⟩
      · omega
      · refine Or.inl ⟨by omega, ?_⟩
        rw [← fst_som h]
        have er : k - 1 = R := by omega
        rw [er] at a
        exact a
    · have c' := tn_nlt e1 e3 c
      rw [if_neg c] at h
      have hl : (k = 0 ∧ x2 = -1) ∨ (0 < k ∧ x2.toInt = (G (k - 1) : Int) ∧ G (k - 1) < 6 ^ N) := by
        rcases e2 with a | ⟨a, b⟩
        · exact Or.inl a
        · exact Or.inr ⟨a, b, (t.2.1 (k - 1) (by omega)).2⟩
      have pk := r_pick (k20 := r_ranked_20L n) (x1 := x1) (x3 := x3) (C := C) (G := G) (k := k) hN5 h6 hz hC hl fu (-1) 0 0 (by decide) (Nat.zero_le _) (Or.inl ⟨rfl, fun g hg => by omega⟩) h
      have mem : k < L → PQ (fun g => (C g).toInt) k G (G k) := by
        intro q
        refine ⟨(t.2.1 k q).1, ?_⟩
        rcases Nat.eq_zero_or_pos k with e | e
        · exact Or.inl e
        · have s := t.2.2.1 (k - 1) (by omega)
          have er : k - 1 + 1 = k := by omega
          rw [er] at s
          exact Or.inr s
      have min : ∀ g, g < 6 ^ N → PQ (fun g => (C g).toInt) k G g → k < L ∧ (g = G k ∨ ahN (fun g => (C g).toInt) (G k) g) := by
        intro g hg hp
        rcases t.2.2.2 g hg hp.1 with ⟨u, u1, u2⟩ | ⟨u1, u2⟩
        · have ku : k ≤ u := by
            refine Nat.le_of_not_lt (fun q => ?_)
            rcases hp.2 with z0 | z0
            · omega
            · rw [← u2] at z0
              rcases t.sort (k - 1 - u) u (by omega) with m | m
              · have eu : u = k - 1 := by omega
                rw [eu] at z0
                exact ahN_asym z0 z0
              · have es : u + (k - 1 - u) = k - 1 := by omega
                rw [es] at m
                exact ahN_asym z0 m
          refine ⟨by omega, ?_⟩
          rcases t.sort (u - k) k (by omega) with m | m
          · have eu : u = k := by omega
            rw [eu] at u2
            exact Or.inl u2.symm
          · have es : k + (u - k) = u := by omega
            rw [es, u2] at m
            exact Or.inr m
        · refine ⟨by omega, Or.inr ?_⟩
          rcases t.sort (R - k) k (by omega) with m | m
          · have eu : R = k := by omega
            rw [eu] at u2
            exact u2
          · have es : k + (R - k) = R := by omega
            rw [es] at m
            exact ahN_trans m u2
      rcases pk with ⟨p1, p2⟩ | ⟨b, y, p1, p2, p3, p4, p5⟩
      · refine Or.inr ⟨?_, p1⟩
        refine Nat.lt_of_not_le (fun q => ?_)
        exact p2 (G k) (t.2.1 k (by omega)).2 (mem (by omega))
      · obtain ⟨m1, m2⟩ := min b p2 p3
        have bk : b = G k := by
          rcases m2 with e | e
          · exact e
          · rcases p4 (G k) (t.2.1 k m1).2 (mem m1) with e' | e'
            · exact e'.symm
            · exact (ahN_asym e e').elim
        have a3 : (x3 + 1).toInt = ((k + 1 : Nat) : Int) := by
          rw [tn_add e3 (by decide : (1 : Int32).toInt = 1) (by omega) (by omega)]
          omega
        refine ih y (x3 + 1) (k + 1) a3 (by omega) (by omega) (Or.inr ⟨by omega, ?_⟩) p5
        rw [p1, bk]
        rfl
theorem ranked_same {y : YS} {x' : XS} {z z' : RS} {x1 r1 r2 : Int32} (h : REL y z) (hK : InvK y.x.k) (hI : InvR z) (hB : Big z) (h1 : kX10_ranked y.x x1 = some (r1, x')) (h2 : r_ranked z x1 = some (r2, z')) : r1 = r2 ∧ True := by
  refine ⟨?_, trivial⟩
  have z0 : (0 : Int32).toInt = 0 := by decide
  have z20 : (20 : Int32).toInt = 20 := by decide
  unfold kX10_ranked at h1
  unfold r_ranked at h2
  rw [in_range (A := 0) (B := 19) (by decide) (by decide), bindP_some] at h2
  by_cases c : 0 ≤ x1.toInt ∧ x1.toInt ≤ 19
  · rw [if_pos c, if_neg z_one] at h2
    rw [if_neg (fun q => by have := ti_lt q; omega), if_pos (Int32.lt_iff_toInt_lt.mpr (by omega))] at h1
    replace h2 := bindP_inv h2
    obtain ⟨z4, w4, h2⟩ := h2
    obtain ⟨hJ, _, N, hN, hN5, hz, hC⟩ := r_fills h hK hI hB w4
    obtain ⟨R, eR⟩ : ∃ R : Nat, x1.toInt = (R : Int) := ⟨x1.toInt.toNat, by omega⟩
    replace h1 := bindI_inv h1
    obtain ⟨q4, s3, u3, h1⟩ := h1
    replace h1 := letS_inv h1
    obtain ⟨s5, _, h1⟩ := h1
    obtain ⟨t, ⟨G, L, t1, t2⟩, t3⟩ := k_ranked (s := JS.mk y.x.k y.x.n) hN hN5 (by omega) eR u3
    have m := r_rankedL (C := fun g => prd y.x.k y.x.n 0 g N) hN5 hJ.1.2.1 hz hC eR (by omega) t1 fu (-1) 0 0 (by decide) (Nat.zero_le _) (Nat.zero_le _) (Or.inl ⟨rfl, rfl⟩) h2
    rw [← fst_som h1]
    show q4 = r2
    rw [t3]
    rcases m with ⟨m1, m2⟩ | ⟨m1, m2⟩
    · rw [(t2.1 R (by omega)).2, eq_ofnat m2]
    · rw [(t2.2 R (by omega) (Nat.le_refl _)).2, m2]
  · rw [if_neg c, if_pos rfl] at h2
    have f2 : -1 = r2 := congrArg Prod.fst (Option.some.inj h2)
    rw [← f2]
    by_cases d : x1 < 0
    · rw [if_pos d] at h1
      exact (congrArg Prod.fst (Option.some.inj h1)).symm
    · have d' := ti_nlt d
      rw [if_neg d, if_neg (fun q => by have := ti_lt q; omega)] at h1
      exact (congrArg Prod.fst (Option.some.inj h1)).symm
end
section
/-! ===== by lies, wave by wave, against all guesses ===== -/
noncomputable def wsum (F : Nat → Int32) (n : Nat) : Int32 := fo (fun g a => a + F g) 0 n (0 : Int32)
theorem wsum_zero {F : Nat → Int32} : wsum F 0 = 0 := rfl
theorem wsum_succ {F : Nat → Int32} {n : Nat} : wsum F (n + 1) = wsum F n + F n := by
  unfold wsum
  rw [fo_last, Nat.zero_add]
theorem wsum_cg {F H : Nat → Int32} : ∀ n, (∀ g, g < n → F g = H g) → wsum F n = wsum H n := by
  intro n
  induction n with
  | zero => intro _; rfl
  | succ n ih =>
    intro h
    rw [wsum_succ, wsum_succ, ih (fun g hg => h g (by omega)), h n (by omega)]
theorem wsum_none {F : Nat → Int32} : ∀ n, (∀ g, g < n → F g = 0) → wsum F n = 0 := by
  intro n
  induction n with
  | zero => intro _; rfl
  | succ n ih =>
    intro h
    rw [wsum_succ, ih (fun g hg => h g (by omega)), h n (by omega), Int32.add_zero]
theorem wsum_add {F : Nat → Int32} {m : Nat} : ∀ n, wsum F (m + n) = wsum F m + wsum (fun g => F (m + g)) n := by
  intro n
  induction n with
  | zero => rw [wsum_zero, Int32.add_zero, Nat.add_zero]
  | succ n ih =>
    have e : m + (n + 1) = (m + n) + 1 := by omega
    rw [e, wsum_succ, wsum_succ, ih, Int32.add_assoc]
theorem wsum_mul {F : Nat → Int32} {c : Int32} : ∀ n, wsum (fun g => F g * c) n = wsum F n * c := by
  intro n
  induction n with
  | zero => rw [wsum_zero, wsum_zero, Int32.zero_mul]
  | succ n ih => rw [wsum_succ, wsum_succ, ih, Int32.add_mul]
theorem add_four (a b c d : Int32) : (a + b) + (c + d) = (a + c) + (b + d) := by
  rw [Int32.add_assoc, Int32.add_assoc, ← Int32.add_assoc b c d, Int32.add_comm b c, Int32.add_assoc c b d]
theorem wsum_plus {F H : Nat → Int32} : ∀ n, wsum (fun g => F g + H g) n = wsum F n + wsum H n := by
  intro n
  induction n with
  | zero => rw [wsum_zero, wsum_zero, wsum_zero, Int32.add_zero]
  | succ n ih => rw [wsum_succ, wsum_succ, wsum_succ, ih, add_four]
theorem wsum_blocks {F : Nat → Int32} {S : Nat} : ∀ n, wsum F (n * S) = wsum (fun v => wsum (fun i => F (v * S + i)) S) n := by
  intro n
  induction n with
  | zero => rw [Nat.zero_mul]; rfl
  | succ n ih =>
    have e : (n + 1) * S = n * S + S := Nat.succ_mul _ _
    rw [e, wsum_add, wsum_succ, ih]
/-- weights and lies of a guess over m waves -/
noncomputable def PW (wt : Nat → Nat → Int32) (g : Nat) : Nat → Int32
  | 0 => 1
  | m + 1 => PW wt g m * wt m (tg g m)
noncomputable def LB (bl : Nat → Nat → Nat) (g : Nat) : Nat → Nat
  | 0 => 0
  | m + 1 => LB bl g m + bl m (tg g m)
theorem PW_cg {wt : Nat → Nat → Int32} {g h : Nat} : ∀ m, (∀ i, i < m → tg g i = tg h i) → PW wt g m = PW wt h m := by
  intro m
  induction m with
  | zero => intro _; rfl
  | succ m ih =>
    intro q
    show PW wt g m * wt m (tg g m) = PW wt h m * wt m (tg h m)
    rw [ih (fun i hi => q i (by omega)), q m (by omega)]
theorem LB_cg {bl : Nat → Nat → Nat} {g h : Nat} : ∀ m, (∀ i, i < m → tg g i = tg h i) → LB bl g m = LB bl h m := by
  intro m
  induction m with
  | zero => intro _; rfl
  | succ m ih =>
    intro q
    show LB bl g m + bl m (tg g m) = LB bl h m + bl m (tg h m)
    rw [ih (fun i hi => q i (by omega)), q m (by omega)]
/-- rows of things with x lies: their weights, added -/
noncomputable def DP (wt : Nat → Nat → Int32) (bl : Nat → Nat → Nat) (m x : Nat) : Int32 := wsum (fun g => if LB bl g m = x then PW wt g m else 0) (6 ^ m)
theorem DP_zero {wt : Nat → Nat → Int32} {bl : Nat → Nat → Nat} {x : Nat} : DP wt bl 0 x = if x = 0 then 1 else 0 := by
  unfold DP
  show wsum _ 1 = _
  rw [wsum_succ, wsum_zero, Int32.zero_add]
  by_cases c : x = 0
  · rw [if_pos c, if_pos (show LB bl 0 0 = x from c.symm)]
    rfl
  · rw [if_neg c]
    exact if_neg (fun q => c (Eq.symm q))
theorem tg_top {m i v : Nat} (hi : i < 6 ^ m) (hv : v < 6) : tg (v * 6 ^ m + i) m = v := by
  have pp : 0 < 6 ^ m := Nat.pow_pos (by omega)
  unfold tg
  rw [Nat.add_comm, Nat.add_mul_div_right _ _ pp, Nat.div_eq_of_lt hi, Nat.zero_add]
  exact Nat.mod_eq_of_lt hv
theorem tg_low {m i v j : Nat} (hj : j < m) : tg (v * 6 ^ m + i) j = tg i j := by
  have e : v * 6 ^ m + i = i + 6 ^ m * v := by rw [Nat.mul_comm, Nat.add_comm]
  rw [e]
  exact tg_high hj
theorem DP_succ {wt : Nat → Nat → Int32} {bl : Nat → Nat → Nat} {m x : Nat} : DP wt bl (m + 1) x = wsum (fun v => if bl m v ≤ x then DP wt bl m (x - bl m v) * wt m v else 0) 6 := by
  have e : 6 ^ (m + 1) = 6 * 6 ^ m := by rw [Nat.pow_succ, Nat.mul_comm]
  show wsum _ (6 ^ (m + 1)) = _
  rw [e, wsum_blocks]
  refine wsum_cg 6 (fun v hv => ?_)
  by_cases c : bl m v ≤ x
  · rw [if_pos c]
    show _ = wsum _ (6 ^ m) * wt m v
    rw [← wsum_mul]
    refine wsum_cg _ (fun i hi => ?_)
    show (if LB bl (v * 6 ^ m + i) m + bl m (tg (v * 6 ^ m + i) m) = x then PW wt (v * 6 ^ m + i) m * wt m (tg (v * 6 ^ m + i) m) else 0) = (if LB bl i m = x - bl m v then PW wt i m else 0) * wt m v
    rw [tg_top hi hv, PW_cg m (fun j hj => tg_low hj), LB_cg m (fun j hj => tg_low hj)]
    by_cases d : LB bl i m = x - bl m v
    · rw [if_pos d, if_pos (by omega)]
    · rw [if_neg d, if_neg (by omega), Int32.zero_mul]
  · rw [if_neg c]
    refine wsum_none _ (fun i hi => ?_)
    show (if LB bl (v * 6 ^ m + i) m + bl m (tg (v * 6 ^ m + i) m) = x then PW wt (v * 6 ^ m + i) m * wt m (tg (v * 6 ^ m + i) m) else 0) = 0
    rw [tg_top hi hv]
    exact if_neg (by omega)
/-- a wave that is left out: one thing of weight 1, no lies -/
theorem one_of6 {F : Nat → Int32} {v0 : Nat} (hv : v0 < 6) : wsum (fun v => if v = v0 then F v else 0) 6 = F v0 := by
  have e : ∀ n, n ≤ 6 → wsum (fun v => if v = v0 then F v else 0) n = if v0 < n then F v0 else 0 := by
    intro n
    induction n with
    | zero => intro _; rw [if_neg (by omega)]; rfl
    | succ n ih =>
      intro hn
      rw [wsum_succ, ih (by omega)]
      by_cases c : n = v0
      · rw [if_pos c, if_neg (by omega), if_pos (by omega), Int32.zero_add, c]
      · rw [if_neg c, Int32.add_zero]
        by_cases d : v0 < n
        · rw [if_pos d, if_pos (by omega)]
        · rw [if_neg d, if_neg (by omega)]
  rw [e 6 (Nat.le_refl _), if_pos hv]
theorem DP_skip {wt : Nat → Nat → Int32} {bl : Nat → Nat → Nat} {m x v0 : Nat} (hv : v0 < 6) (h1 : ∀ v, wt m v = if v = v0 then 1 else 0) (h2 : ∀ v, bl m v = 0) : DP wt bl (m + 1) x = DP wt bl m x := by
  rw [DP_succ]
  have e : wsum (fun v => if bl m v ≤ x then DP wt bl m (x - bl m v) * wt m v else 0) 6 = wsum (fun v => if v = v0 then DP wt bl m x else 0) 6 := by
    refine wsum_cg 6 (fun v _ => ?_)
    show (if bl m v ≤ x then DP wt bl m (x - bl m v) * wt m v else 0) = if v = v0 then DP wt bl m x else 0
    rw [h2 v, h1 v, if_pos (Nat.zero_le _), Nat.sub_zero]
    by_cases c : v = v0
    · rw [if_pos c, if_pos c, Int32.mul_one]
    · rw [if_neg c, if_neg c, Int32.mul_zero]
  rw [e]
  exact one_of6 (F := fun _ => DP wt bl m x) hv
theorem DP_upto {wt : Nat → Nat → Int32} {bl : Nat → Nat → Nat} {m : Nat} : ∀ q, wsum (fun x => DP wt bl m x) q = wsum (fun g => if LB bl g m < q then PW wt g m else 0) (6 ^ m) := by
  intro q
  induction q with
  | zero =>
    rw [wsum_zero]
    exact (wsum_none _ (fun g _ => if_neg (by omega))).symm
  | succ q ih =>
    rw [wsum_succ, ih]
    show _ + wsum _ (6 ^ m) = _
    rw [← wsum_plus]
    refine wsum_cg _ (fun g _ => ?_)
    show (if LB bl g m < q then PW wt g m else 0) + (if LB bl g m = q then PW wt g m else 0) = if LB bl g m < q + 1 then PW wt g m else 0
    by_cases c : LB bl g m < q
    · rw [if_pos c, if_neg (by omega), if_pos (by omega), Int32.add_zero]
    · rw [if_neg c, Int32.zero_add]
      by_cases d : LB bl g m = q
      · rw [if_pos d, if_pos (by omega)]
      · rw [if_neg d, if_neg (by omega)]
/-! the class -/
/-- what believe has put: odds of what may be there, how many told ones each thing belies -/
noncomputable def BEL (k : KS) (OD : Nat → Nat → Int32) (BY : Nat → Nat → Nat) (N : Nat) : Prop := ∀ w, w < N → ∀ v, v < 6 → k.f 44 (6 * w + v) = OD w v ∧ (k.f 45 (6 * w + v)).toInt = (BY w v : Int)
noncomputable def wtO (OD : Nat → Nat → Int32) (x3 : Int32) (w v : Nat) : Int32 := if OD w v ≤ 0 then 0 else if x3 = 0 then 1 else OD w v
theorem k_at30 {x1 x5 : Int32} {w v : Nat} (e1 : x1.toInt = (w : Int)) (hw : w < 5) (e5 : x5.toInt = (v : Int)) (hv : v < 6) : (x1 * 6 + x5).toInt = ((6 * w + v : Nat) : Int) := by
  have m1 : (x1 * 6).toInt = x1.toInt * 6 := ti_mulc (c := 6) (by decide) (by omega) (by omega)
  rw [ti_add (by omega) (by omega)]
  omega
theorem withWave_eq {s s' : KS} {x1 x2 x3 r : Int32} {OD : Nat → Nat → Int32} {BY : Nat → Nat → Nat} {N w x : Nat} {B : Nat → Int32} (hB : BEL s OD BY N) (e1 : x1.toInt = (w : Int)) (hw : w < N) (hN5 : N ≤ 5) (e2 : x2.toInt = (x : Int)) (hx : x ≤ 3) (hf : ∀ t, t ≤ x → s.f 46 t = B t) (h : kX8_withWave s x1 x2 x3 = some (r, s')) : s' = s ∧ r = wsum (fun v => if BY w v ≤ x then B (x - BY w v) * wtO OD x3 w v else 0) 6 := by
  unfold kX8_withWave at h
  have go : ∀ (n : Nat) (x4 x5 : Int32) (j : Nat), x5.toInt = (j : Int) → j ≤ 6 → x4 = wsum (fun v => if BY w v ≤ x then B (x - BY w v) * wtO OD x3 w v else 0) j → kX8_withWave_6L n s x1 x2 x3 x4 x5 = some (r, s') → s' = s ∧ r = wsum (fun v => if BY w v ≤ x then B (x - BY w v) * wtO OD x3 w v else 0) 6 := by
    intro n
    induction n with
    | zero => intro x4 x5 j _ _ _ h; exact none_ne h
    | succ n ih =>
      intro x4 x5 j e5 hj e4 h
      replace h : kX8_withWave_6 (kX8_withWave_6L n) s x1 x2 x3 x4 x5 = some (r, s') := h
      unfold kX8_withWave_6 at h
      by_cases c : 6 ≤ x5
      · have c' := tn_le (a := 6) (by decide) e5 c
        rw [if_pos c] at h
        have e := Option.some.inj h
        have ej : j = 6 := by omega
        refine ⟨(congrArg Prod.snd e).symm, ?_⟩
        rw [← pr_fst e, ← ej]
        exact e4
      · have c' := tn_nle (a := 6) (by decide) e5 c
        rw [if_neg c] at h
        have at30 := k_at30 e1 (by omega) e5 (by omega)
        obtain ⟨b1, b2⟩ := hB w hw j (by omega)
        have a5 : (x5 + 1).toInt = ((j + 1 : Nat) : Int) := by
          rw [tn_add e5 (by decide : (1 : Int32).toInt = 1) (by omega) (by omega)]
          omega
        replace h := guard_inv h
        obtain ⟨_, h⟩ := h
        rw [clamp_of_int at30, b1] at h
        have nothing : (if BY w j ≤ x then B (x - BY w j) * wtO OD x3 w j else 0) = 0 → kX8_withWave_6L n s x1 x2 x3 x4 (x5 + 1) = some (r, s') → s' = s ∧ r = wsum (fun v => if BY w v ≤ x then B (x - BY w v) * wtO OD x3 w v else 0) 6 := by
          intro z g
          refine ih x4 (x5 + 1) (j + 1) a5 (by omega) ?_ g
          rw [wsum_succ, z, Int32.add_zero]
          exact e4
        by_cases d : OD w j ≤ 0
        · rw [if_pos d] at h
          unfold kX8_withWave_78 at h
          refine nothing ?_ h
          have : wtO OD x3 w j = 0 := by unfold wtO; exact if_pos d
          rw [this, Int32.mul_zero]
          exact ite_self _
        · rw [if_neg d] at h
          replace h := guard_inv h
          obtain ⟨_, h⟩ := h
          by_cases f : x2 < s.f 45 (6 * w + j)
          · have f' := tn_lt e2 b2 f
            rw [if_pos f] at h
            unfold kX8_withWave_78 at h
            exact nothing (if_neg (by omega)) h
          · have f' := tn_nlt e2 b2 f
            rw [if_neg f] at h
            replace h := guard_inv h
            obtain ⟨_, h⟩ := h
            replace h := guard_inv h
            obtain ⟨_, h⟩ := h
            have i46 : (x2 - s.f 45 (6 * w + j)).toInt = ((x - BY w j : Nat) : Int) := by
              rw [tn_sub e2 b2 (by omega) (by omega)]
              omega
            have st : kX8_withWave_6L n s x1 x2 x3 (x4 + B (x - BY w j) * wtO OD x3 w j) (x5 + 1) = some (r, s') := by
              have ow : wtO OD x3 w j = if x3 = 0 then 1 else OD w j := by unfold wtO; exact if_neg d
              rw [ow]
              by_cases g : x3 = 0
              · rw [if_pos g] at h ⊢
                unfold kX8_withWave_74 kX8_withWave_78 at h
                rw [clamp_of_int i46, hf _ (by omega)] at h
                exact h
              · rw [if_neg g] at h ⊢
                replace h := guard_inv h
                obtain ⟨_, h⟩ := h
                unfold kX8_withWave_74 kX8_withWave_78 at h
                rw [clamp_of_int i46, hf _ (by omega)] at h
                exact h
            refine ih _ (x5 + 1) (j + 1) a5 (by omega) ?_ st
            rw [wsum_succ, ← e4, if_pos (by omega)]
  exact go fu 0 0 0 (by decide) (Nat.zero_le _) rfl h
/-- one wave of sortByLies -/
theorem sort36 {k17 : KS → Int32 → Int32 → Int32 → Option KS} {out : KS} {x1 x2 x3 : Int32} {OD : Nat → Nat → Int32} {BY : Nat → Nat → Nat} {N m : Nat} {wt : Nat → Nat → Int32} {bl : Nat → Nat → Nat} (hN5 : N ≤ 5) (hm : m < N) (e3 : x3.toInt = (m : Int)) (hwt : ∀ v, v < 6 → wt m v = wtO OD x2 m v) (hbl : ∀ v, v < 6 → bl m v = BY m v) : ∀ (n : Nat) (s : KS) (x4 : Int32) (c : Nat), c ≤ 4 → x4.toInt = (c : Int) - 1 → BEL s OD BY N → (∀ t, t < c → s.f 46 t = DP wt bl m t) → (∀ t, c ≤ t → t < 4 → s.f 46 t = DP wt bl (m + 1) t) → kX8_sortByLies_36L k17 n s x1 x2 x3 x4 = some out → ∃ t, k17 t x1 x2 (x3 + 1) = some out ∧ FrK [146] s t ∧ ∀ u, u < 4 → t.f 46 u = DP wt bl (m + 1) u := by
  intro n
  induction n with
  | zero => intro s x4 c _ _ _ _ _ h; exact none_ne h
  | succ n ih =>
    intro s x4 c hc e4 hB h1 h2 h
    replace h : kX8_sortByLies_36 k17 (kX8_sortByLies_36L k17 n) s x1 x2 x3 x4 = some out := h
    unfold kX8_sortByLies_36 at h
    by_cases q : x4 < 0
    · have q' := tn_lt e4 (by decide : (0 : Int32).toInt = 0) q
      rw [if_pos q] at h
      unfold kX8_sortByLies_62 at h
      exact ⟨s, h, FrK.rfl, fun u hu => h2 u (by omega) hu⟩
    · have q' := tn_nlt e4 (by decide : (0 : Int32).toInt = 0) q
      have e4n : x4.toInt = ((c - 1 : Nat) : Int) := by omega
      rw [if_neg q] at h
      replace h := bindI_inv h
      obtain ⟨r3, s2, w3, h⟩ := h
      obtain ⟨es, er⟩ := withWave_eq (B := fun t => DP wt bl m t) hB e3 hm hN5 e4n (by omega) (fun t ht => h1 t (by omega)) w3
      rw [es] at h
      have er2 : r3 = DP wt bl (m + 1) (c - 1) := by
        rw [er, DP_succ]
        refine wsum_cg 6 (fun v hv => ?_)
        show (if BY m v ≤ c - 1 then DP wt bl m (c - 1 - BY m v) * wtO OD x2 m v else 0) = (if bl m v ≤ c - 1 then DP wt bl m (c - 1 - bl m v) * wt m v else 0)
        rw [hwt v hv, hbl v hv]
      replace h := guard_inv h
      obtain ⟨_, h⟩ := h
      rw [clamp_of_int e4n] at h
      replace h := letS_inv h
      obtain ⟨s5, c5, h⟩ := h
      have F : FrK [146] s s5 := by
        rw [← c5]
        exact FrK.sf FrK.rfl (by decide)
      have row : ∀ u, s5.f 46 u = if u = c - 1 then r3 else s.f 46 u := fun u => by
        rw [← c5]
        exact ksf_at
      have a4 : (x4 + (-1)).toInt = ((c - 1 : Nat) : Int) - 1 := by
        rw [tn_add e4 (by decide : (-1 : Int32).toInt = -1) (by omega) (by omega)]
        omega
      generalize x4 + (-1) = Y4 at h a4
      have B5 : BEL s5 OD BY N := fun w hw v hv => by
        rw [(F.2 44 (by decide)).1, (F.2 45 (by decide)).1]
        exact hB w hw v hv
      obtain ⟨t, t1, t2, t3⟩ := ih s5 Y4 (c - 1) (by omega) a4 B5 (fun t ht => by
        rw [row, if_neg (by omega)]
        exact h1 t (by omega)) (fun t ht1 ht2 => by
        rw [row]
        by_cases e : t = c - 1
        · rw [if_pos e, er2, e]
        · rw [if_neg e]
          exact h2 t (by omega) ht2) h
      exact ⟨t, t1, F.trans t2 (fun _ q => q), t3⟩
/-- the wave that is left out has one thing of weight 1 -/
noncomputable def but (b v0 : Nat) (wt : Nat → Nat → Int32) (w v : Nat) : Int32 := if w = b then (if v = v0 then 1 else 0) else wt w v
noncomputable def butL (b : Nat) (bl : Nat → Nat → Nat) (w v : Nat) : Nat := if w = b then 0 else bl w v
theorem sort17 {x1 x2 : Int32} {s' : KS} {OD : Nat → Nat → Int32} {BY : Nat → Nat → Nat} {N b v0 : Nat} (hN5 : N ≤ 5) (hv0 : v0 < 6) (hb : ∀ w, w < N → (w = b ↔ x1 = Int32.ofNat w)) : ∀ (n : Nat) (s : KS) (x3 : Int32) (m : Nat), (s.v 1).toInt = (N : Int) → m ≤ N → x3.toInt = (m : Int) → BEL s OD BY N → (∀ u, u < 4 → s.f 46 u = DP (but b v0 (wtO OD x2)) (butL b BY) m u) → kX8_sortByLies_17L n s x1 x2 x3 = some s' → FrK [146] s s' ∧ ∀ u, u < 4 → s'.f 46 u = DP (but b v0 (wtO OD x2)) (butL b BY) N u := by
  intro n
  induction n with
  | zero => intro s x3 m _ _ _ _ _ h; exact none_ne h
  | succ n ih =>
    intro s x3 m hN hm e3 hB hf h
    replace h : kX8_sortByLies_17 (kX8_sortByLies_17L n) s x1 x2 x3 = some s' := h
    unfold kX8_sortByLies_17 at h
    by_cases c : s.v 1 ≤ x3
    · have c' := tn_le hN e3 c
      rw [if_pos c] at h
      have em : m = N := by omega
      rw [← Option.some.inj h, ← em]
      exact ⟨FrK.rfl, hf⟩
    · have c' := tn_nle hN e3 c
      rw [if_neg c] at h
      have e3o : x3 = Int32.ofNat m := eq_ofnat e3
      have a3 : (x3 + 1).toInt = ((m + 1 : Nat) : Int) := by
        rw [tn_add e3 (by decide : (1 : Int32).toInt = 1) (by omega) (by omega)]
        omega
      by_cases d : x3 = x1
      · have mb : m = b := (hb m (by omega)).mpr (by rw [← d]; exact e3o)
        rw [if_pos d] at h
        unfold kX8_sortByLies_62 at h
        refine ih s (x3 + 1) (m + 1) hN (by omega) a3 hB (fun u hu => ?_) h
        rw [DP_skip hv0 (fun v => by unfold but; exact if_pos mb) (fun v => by unfold butL; exact if_pos mb)]
        exact hf u hu
      · have mb : ¬ m = b := fun q => d (by rw [(hb m (by omega)).mp q]; exact e3o)
        rw [if_neg d] at h
        obtain ⟨t, t1, t2, t3⟩ := sort36 (OD := OD) (BY := BY) (wt := but b v0 (wtO OD x2)) (bl := butL b BY) hN5 (by omega) e3 (fun v _ => by unfold but; exact if_neg mb) (fun v _ => by unfold butL; exact if_neg mb) fu s 3 4 (Nat.le_refl _) (by decide) hB (fun t ht => hf t ht) (fun t h1 h2 => by omega) h
        have B5 : BEL t OD BY N := fun w hw v hv => by
          rw [(t2.2 44 (by decide)).1, (t2.2 45 (by decide)).1]
          exact hB w hw v hv
        obtain ⟨i1, i2⟩ := ih t (x3 + 1) (m + 1) (by rw [t2.1 1 (by decide)]; exact hN) (by omega) a3 B5 t3 t1
        exact ⟨t2.trans i1 (fun _ q => q), i2⟩
theorem fill4 {x1 : Int32} {s' : Nat → Int32} : ∀ (n : Nat) (s : Nat → Int32) (x2 : Int32) (j : Nat), x2.toInt = (j : Int) → j ≤ 4 → kJ7_fill_53178_4_5L n s x1 x2 4 = some s' → (∀ i, j ≤ i → i < 4 → s' i = x1) ∧ (∀ i, (i < j ∨ 4 ≤ i) → s' i = s i) := by
  intro n
  induction n with
  | zero => intro s x2 j _ _ h; exact none_ne h
  | succ n ih =>
    intro s x2 j h2 hj h
    replace h : kJ7_fill_53178_4_5 (kJ7_fill_53178_4_5L n) s x1 x2 4 = some s' := h
    unfold kJ7_fill_53178_4_5 at h
    by_cases c : 4 ≤ x2
    · have c' := tn_le (a := 4) (by decide) rfl c
      rw [if_pos c] at h
      cases h
      exact ⟨fun i h1 h2 => by omega, fun i _ => rfl⟩
    · have c' := tn_nle (a := 4) (by decide) rfl c
      rw [if_neg c] at h
      replace h := guard_inv h
      obtain ⟨_, h⟩ := h
      replace h := letS_inv h
      obtain ⟨s3, d3, h⟩ := h
      rw [clamp_of_int h2] at d3
      have a2 : (x2 + 1).toInt = ((j + 1 : Nat) : Int) := by
        rw [tn_add h2 (by decide : (1 : Int32).toInt = 1) (by omega) (by omega)]
        omega
      obtain ⟨q1, q2⟩ := ih s3 (x2 + 1) (j + 1) a2 (by omega) h
      refine ⟨fun i h1 h2 => ?_, fun i hi => ?_⟩
      · by_cases e : i = j
        · rw [q2 i (by omega), ← d3, e]
          exact upd_same
        · exact q1 i (by omega) h2
      · rw [q2 i (by omega), ← d3]
        exact upd_ne (by omega)
theorem sort_eq {x1 x2 : Int32} {s s' : KS} {OD : Nat → Nat → Int32} {BY : Nat → Nat → Nat} {N b v0 : Nat} (hN : (s.v 1).toInt = (N : Int)) (hN5 : N ≤ 5) (hv0 : v0 < 6) (hb : ∀ w, w < N → (w = b ↔ x1 = Int32.ofNat w)) (hB : BEL s OD BY N) (h : kX8_sortByLies s x1 x2 = some s') : FrK [146] s s' ∧ ∀ u, u < 4 → s'.f 46 u = DP (but b v0 (wtO OD x2)) (butL b BY) N u := by
  unfold kX8_sortByLies at h
  replace h := bindP_inv h
  obtain ⟨t1, u1, h⟩ := h
  replace h := letS_inv h
  obtain ⟨s2, c2, h⟩ := h
  replace h := letS_inv h
  obtain ⟨s4, c4, h⟩ := h
  unfold kJ7_fill_53178_4 at u1
  obtain ⟨g1, _⟩ := fill4 fu _ 0 0 (by decide) (by omega) u1
  have F : FrK [146] s s4 := by
    rw [← c4, ← c2]
    exact FrK.sf (FrK.sa FrK.rfl (by decide)) (by decide)
  have row : ∀ u, u < 4 → s4.f 46 u = if u = 0 then 1 else 0 := fun u hu => by
    rw [← c4, ksf_at]
    by_cases e : u = 0
    · rw [if_pos e, if_pos e]
    · rw [if_neg e, if_neg e, ← c2, ksa_at]
      exact g1 u (Nat.zero_le _) hu
  have B4 : BEL s4 OD BY N := fun w hw v hv => by
    rw [(F.2 44 (by decide)).1, (F.2 45 (by decide)).1]
    exact hB w hw v hv
  obtain ⟨i1, i2⟩ := sort17 hN5 hv0 hb fu s4 0 0 (by rw [F.1 1 (by decide)]; exact hN) (Nat.zero_le _) (by decide) B4 (fun u hu => by rw [row u hu, DP_zero]) h
  exact ⟨F.trans i1 (fun _ q => q), i2⟩
theorem upTo_eq {s s' : KS} {x1 r : Int32} {D : Nat → Int32} {q : Nat} (hD : ∀ u, u < 4 → s.f 46 u = D u) (hq : q ≤ 4) (e1 : (q : Int) = x1.toInt + 1 ∨ (q = 0 ∧ x1.toInt < 0)) (h : kX8_upTo s x1 = some (r, s')) : s' = s ∧ r = wsum D q := by
  unfold kX8_upTo at h
  have go : ∀ (n : Nat) (x2 x3 : Int32) (j : Nat), x3.toInt = (j : Int) → j ≤ q → x2 = wsum D j → kX8_upTo_4L n s x1 x2 x3 = some (r, s') → s' = s ∧ r = wsum D q := by
    intro n
    induction n with
    | zero => intro x2 x3 j _ _ _ h; exact none_ne h
    | succ n ih =>
      intro x2 x3 j e3 hj e2 h
      replace h : kX8_upTo_4 (kX8_upTo_4L n) s x1 x2 x3 = some (r, s') := h
      unfold kX8_upTo_4 at h
      have stop : j = q → some (x2, s) = some (r, s') → s' = s ∧ r = wsum D q := by
        intro ej g
        have e := Option.some.inj g
        refine ⟨(congrArg Prod.snd e).symm, ?_⟩
        rw [← pr_fst e, ← ej]
        exact e2
      by_cases c : x1 < x3
      · have c' := ti_lt c
        rw [if_pos c] at h
        exact stop (by omega) h
      · have c' := ti_nlt c
        rw [if_neg c] at h
        by_cases d : 3 < x3
        · have d' := tn_lt (a := 3) (by decide) e3 d
          rw [if_pos d] at h
          exact stop (by omega) h
        · have d' := tn_nlt (a := 3) (by decide) e3 d
          rw [if_neg d] at h
          replace h := guard_inv h
          obtain ⟨_, h⟩ := h
          rw [clamp_of_int e3, hD j (by omega)] at h
          have a3 : (x3 + 1).toInt = ((j + 1 : Nat) : Int) := by
            rw [tn_add e3 (by decide : (1 : Int32).toInt = 1) (by omega) (by omega)]
            omega
          exact ih _ (x3 + 1) (j + 1) a3 (by omega) (by rw [wsum_succ, ← e2]) h
  exact go fu 0 0 0 (by decide) (Nat.zero_le _) rfl h
end
section
/-! ===== fit: what is told, on both sides ===== -/
noncomputable def tw (k : KS) (i : Nat) : Nat := (k.f 42 i).toInt.toNat
noncomputable def sob (k : KS) (i v : Nat) : Bool := decide (((k.f 43 i) >>> ((Int32.ofNat v) &&& 31)) &&& 1 = 1)
noncomputable def bly (k : KS) (w v : Nat) : Nat → Nat
  | 0 => 0
  | K + 1 => bly k w v K + (if tw k K = w ∧ sob k K v = false then 1 else 0)
noncomputable def lyr (k : KS) (g : Nat) : Nat → Nat
  | 0 => 0
  | K + 1 => lyr k g K + (if sob k K (tg g (tw k K)) = false then 1 else 0)
theorem bly_le {k : KS} {w v : Nat} : ∀ K, bly k w v K ≤ K := by
  intro K
  induction K with
  | zero => exact Nat.le_refl _
  | succ K ih =>
    show bly k w v K + (if tw k K = w ∧ sob k K v = false then 1 else 0) ≤ K + 1
    by_cases c : tw k K = w ∧ sob k K v = false
    · rw [if_pos c]; omega
    · rw [if_neg c]; omega
theorem lyr_le {k : KS} {g : Nat} : ∀ K, lyr k g K ≤ K := by
  intro K
  induction K with
  | zero => exact Nat.le_refl _
  | succ K ih =>
    show lyr k g K + (if sob k K (tg g (tw k K)) = false then 1 else 0) ≤ K + 1
    by_cases c : sob k K (tg g (tw k K)) = false
    · rw [if_pos c]; omega
    · rw [if_neg c]; omega
theorem LB_plus {a b : Nat → Nat → Nat} {g : Nat} : ∀ N, LB (fun w v => a w v + b w v) g N = LB a g N + LB b g N := by
  intro N
  induction N with
  | zero => rfl
  | succ N ih =>
    show LB (fun w v => a w v + b w v) g N + (a N (tg g N) + b N (tg g N)) = LB a g N + a N (tg g N) + (LB b g N + b N (tg g N))
    rw [ih]
    omega
theorem LB_one {P : Nat → Bool} {w0 g : Nat} : ∀ N, LB (fun w v => if w0 = w ∧ P v = false then 1 else 0) g N = if w0 < N then (if P (tg g w0) = false then 1 else 0) else 0 := by
  intro N
  induction N with
  | zero => rw [if_neg (Nat.not_lt_zero _)]; rfl
  | succ N ih =>
    show LB (fun w v => if w0 = w ∧ P v = false then 1 else 0) g N + (if w0 = N ∧ P (tg g N) = false then 1 else 0) = _
    rw [ih]
    by_cases c : w0 = N
    · subst c
      rw [if_neg (Nat.lt_irrefl _), if_pos (Nat.lt_succ_self _), Nat.zero_add]
      by_cases d : P (tg g w0) = false
      · rw [if_pos d, if_pos ⟨rfl, d⟩]
      · rw [if_neg d, if_neg (fun q => d q.2)]
    · rw [if_neg (show ¬ (w0 = N ∧ P (tg g N) = false) from fun q => c q.1), Nat.add_zero]
      by_cases d : w0 < N
      · rw [if_pos d, if_pos (show w0 < N + 1 by omega)]
      · rw [if_neg d, if_neg (show ¬ w0 < N + 1 by omega)]
/-- wave by wave as many lies as told one by told one -/
theorem lies_same {k : KS} {g N : Nat} : ∀ K, (∀ i, i < K → tw k i < N) → LB (fun w v => bly k w v K) g N = lyr k g K := by
  intro K
  induction K with
  | zero =>
    intro _
    have z : ∀ n, LB (fun w v => bly k w v 0) g n = 0 := by
      intro n
      induction n with
      | zero => rfl
      | succ n ih =>
        show LB (fun w v => bly k w v 0) g n + 0 = 0
        rw [ih]
    exact z N
  | succ K ih =>
    intro h
    have e : LB (fun w v => bly k w v (K + 1)) g N = LB (fun w v => bly k w v K + (if tw k K = w ∧ sob k K v = false then 1 else 0)) g N := rfl
    have o : LB (fun w v => if tw k K = w ∧ sob k K v = false then 1 else 0) g N = if tw k K < N then (if sob k K (tg g (tw k K)) = false then 1 else 0) else 0 := LB_one (P := sob k K) N
    rw [e, LB_plus (a := fun w v => bly k w v K) (b := fun w v => if tw k K = w ∧ sob k K v = false then 1 else 0), o, ih (fun i hi => h i (by omega)), if_pos (h K (by omega))]
    rfl
/-- a weight that is 1 or 0 -/
theorem PW_bit {wt : Nat → Nat → Int32} {ok : Nat → Nat → Bool} {g : Nat} (h : ∀ w v, wt w v = if ok w v = true then 1 else 0) : ∀ N, ((∀ w, w < N → ok w (tg g w) = true) → PW wt g N = 1) ∧ ((∃ w, w < N ∧ ok w (tg g w) = false) → PW wt g N = 0) := by
  intro N
  induction N with
  | zero => exact ⟨fun _ => rfl, fun ⟨w, q, _⟩ => by omega⟩
  | succ N ih =>
    refine ⟨fun q => ?_, fun ⟨w, q1, q2⟩ => ?_⟩
    · show PW wt g N * wt N (tg g N) = 1
      rw [ih.1 (fun w hw => q w (by omega)), h, if_pos (q N (by omega)), Int32.mul_one]
    · show PW wt g N * wt N (tg g N) = 0
      by_cases e : w = N
      · rw [h, ← e, if_neg (by rw [q2]; decide), Int32.mul_zero]
      · rw [ih.2 ⟨w, by omega, q2⟩, Int32.zero_mul]
/-! the class: believe -/
theorem bel_by {s s' : KS} {x1 x2 x3 r : Int32} {w v K : Nat} (e1 : x1.toInt = (w : Int)) (e2 : x2.toInt = (v : Int)) (e3 : x3.toInt = (K : Int)) (hK : K ≤ 20) (ht : ∀ i, i < K → 0 ≤ (s.f 42 i).toInt) (h : kX8_beliedBy s x1 x2 x3 = some (r, s')) : s' = s ∧ r.toInt = (bly s w v K : Int) := by
  unfold kX8_beliedBy at h
  have go : ∀ (n : Nat) (x4 x5 : Int32) (j : Nat), x5.toInt = (j : Int) → j ≤ K → x4.toInt = (bly s w v j : Int) → kX8_beliedBy_6L n s x1 x2 x3 x4 x5 = some (r, s') → s' = s ∧ r.toInt = (bly s w v K : Int) := by
    intro n
    induction n with
    | zero => intro x4 x5 j _ _ _ h; exact none_ne h
    | succ n ih =>
      intro x4 x5 j e5 hj e4 h
      replace h : kX8_beliedBy_6 (kX8_beliedBy_6L n) s x1 x2 x3 x4 x5 = some (r, s') := h
      unfold kX8_beliedBy_6 at h
      by_cases c : x3 ≤ x5
      · have c' := tn_le e3 e5 c
        rw [if_pos c] at h
        have e := Option.some.inj h
        have ej : j = K := by omega
        refine ⟨(congrArg Prod.snd e).symm, ?_⟩
        rw [← pr_fst e, ← ej]
        exact e4
      · have c' := tn_nle e3 e5 c
        rw [if_neg c] at h
        have bl := bly_le (k := s) (w := w) (v := v) j
        have a5 : (x5 + 1).toInt = ((j + 1 : Nat) : Int) := by
          rw [tn_add e5 (by decide : (1 : Int32).toInt = 1) (by omega) (by omega)]
          omega
        have a4 : (x4 + 1).toInt = ((bly s w v j + 1 : Nat) : Int) := by
          rw [tn_add e4 (by decide : (1 : Int32).toInt = 1) (by omega) (by omega)]
          omega
        have st : bly s w v (j + 1) = bly s w v j + (if tw s j = w ∧ sob s j v = false then 1 else 0) := rfl
        replace h := guard_inv h
        obtain ⟨_, h⟩ := h
        rw [clamp_of_int e5] at h
        by_cases d : s.f 42 j = x1
        · have dw : tw s j = w := by
            unfold tw
            rw [d]
            omega
          rw [if_pos d] at h
          replace h := guard_inv h
          obtain ⟨_, h⟩ := h
          rw [k_has, bindP_some, eq_ofnat e2] at h
          by_cases f : ((s.f 43 j) >>> ((Int32.ofNat v) &&& 31)) &&& 1 = 1
          · rw [if_pos f, if_neg z_one] at h
            unfold kX8_beliedBy_40 at h
            have sf : sob s j v = true := decide_eq_true f
            refine ih x4 (x5 + 1) (j + 1) a5 (by omega) ?_ (by rw [eq_ofnat e2]; exact h)
            rw [st, if_neg (fun q => by rw [sf] at q; exact absurd q.2 (by decide)), Nat.add_zero]
            exact e4
          · rw [if_neg f, if_pos rfl] at h
            unfold kX8_beliedBy_40 at h
            have sf : sob s j v = false := decide_eq_false f
            refine ih (x4 + 1) (x5 + 1) (j + 1) a5 (by omega) ?_ (by rw [eq_ofnat e2]; exact h)
            rw [st, if_pos ⟨dw, sf⟩]
            exact a4
        · have dw : ¬ tw s j = w := by
            intro q
            have p := ht j (by omega)
            refine d (Int32.toInt_inj.mp ?_)
            unfold tw at q
            omega
          rw [if_neg d] at h
          unfold kX8_beliedBy_40 at h
          refine ih x4 (x5 + 1) (j + 1) a5 (by omega) ?_ h
          rw [st, if_neg (fun q => dw q.1), Nat.add_zero]
          exact e4
  exact go fu 0 0 0 (by decide) (Nat.zero_le _) (by show (0 : Int32).toInt = ((0 : Nat) : Int); decide) h
theorem bly_fr {k k' : KS} (e2 : k'.f 42 = k.f 42) (e3 : k'.f 43 = k.f 43) {w v : Nat} : ∀ K, bly k' w v K = bly k w v K := by
  intro K
  induction K with
  | zero => rfl
  | succ K ih =>
    show bly k' w v K + (if tw k' K = w ∧ sob k' K v = false then 1 else 0) = bly k w v K + (if tw k K = w ∧ sob k K v = false then 1 else 0)
    unfold tw sob
    rw [ih, e2, e3]
theorem lyr_fr {k k' : KS} (e2 : k'.f 42 = k.f 42) (e3 : k'.f 43 = k.f 43) {g : Nat} : ∀ K, lyr k' g K = lyr k g K := by
  intro K
  induction K with
  | zero => rfl
  | succ K ih =>
    show lyr k' g K + (if sob k' K (tg g (tw k' K)) = false then 1 else 0) = lyr k g K + (if sob k K (tg g (tw k K)) = false then 1 else 0)
    unfold tw sob
    rw [ih, e2, e3]
theorem bel_in {k2 : JS → Int32 → Int32 → Option JS} {out : JS} {x2 x3 x4 : Int32} {w K N : Nat} {s0 : JS} (e2 : x2.toInt = (K : Int)) (hK : K ≤ 20) (ht : ∀ i, i < K → 0 ≤ (s0.k.f 42 i).toInt) (e3 : x3.toInt = (w : Int)) (hw : w < 5) (e4 : x4 = MB s0.k s0.d w) : ∀ (n : Nat) (s : JS) (x5 : Int32) (j : Nat), x5.toInt = (j : Int) → j ≤ 6 → s.d = s0.d → FrK [144, 145] s0.k s.k → (∀ v, v < j → s.k.f 44 (6 * w + v) = OF s0.k s0.d w v ∧ (s.k.f 45 (6 * w + v)).toInt = (bly s0.k w v K : Int)) → (∀ u, u < 6 * w → s.k.f 44 u = s0.k.f 44 u ∧ s.k.f 45 u = s0.k.f 45 u) → kX8_believe_27L k2 n s x2 x3 x4 x5 = some out → ∃ t, k2 t x2 (x3 + 1) = some out ∧ t.d = s0.d ∧ FrK [144, 145] s0.k t.k ∧ (∀ v, v < 6 → t.k.f 44 (6 * w + v) = OF s0.k s0.d w v ∧ (t.k.f 45 (6 * w + v)).toInt = (bly s0.k w v K : Int)) ∧ (∀ u, u < 6 * w → t.k.f 44 u = s0.k.f 44 u ∧ t.k.f 45 u = s0.k.f 45 u) := by
  intro n
  induction n with
  | zero => intro s x5 j _ _ _ _ _ _ h; exact none_ne h
  | succ n ih =>
    intro s x5 j e5 hj hd hF h1 h2 h
    replace h : kX8_believe_27 k2 (kX8_believe_27L k2 n) s x2 x3 x4 x5 = some out := h
    unfold kX8_believe_27 at h
    by_cases c : 6 ≤ x5
    · have c' := tn_le (a := 6) (by decide) e5 c
      rw [if_pos c] at h
      exact ⟨s, h, hd, hF, fun v hv => h1 v (by omega), h2⟩
    · have c' := tn_nle (a := 6) (by decide) e5 c
      rw [if_neg c] at h
      have at30 : ((x3 * 6) + x5).toInt = ((6 * w + j : Nat) : Int) := k_at30 e3 hw e5 (by omega)
      have a5 : (x5 + 1).toInt = ((j + 1 : Nat) : Int) := by
        rw [tn_add e5 (by decide : (1 : Int32).toInt = 1) (by omega) (by omega)]
        omega
      have one : ∀ t0 : Int32, t0 = OF s0.k s0.d w j → kX8_believe_73 k2 (kX8_believe_27L k2 n) s x2 x3 x4 x5 ((x3 * 6) + x5) t0 ((x3 * 6) + x5) = some out → ∃ t, k2 t x2 (x3 + 1) = some out ∧ t.d = s0.d ∧ FrK [144, 145] s0.k t.k ∧ (∀ v, v < 6 → t.k.f 44 (6 * w + v) = OF s0.k s0.d w v ∧ (t.k.f 45 (6 * w + v)).toInt = (bly s0.k w v K : Int)) ∧ (∀ u, u < 6 * w → t.k.f 44 u = s0.k.f 44 u ∧ t.k.f 45 u = s0.k.f 45 u) := by
        intro t0 et g
        unfold kX8_believe_73 at g
        replace g := guard_inv g
        obtain ⟨_, g⟩ := g
        replace g := letS_inv g
        obtain ⟨s2, c2, g⟩ := g
        replace g := bindI_inv g
        obtain ⟨r5, s4, w5, g⟩ := g
        replace g := letS_inv g
        obtain ⟨s6, c6, g⟩ := g
        replace g := guard_inv g
        obtain ⟨_, g⟩ := g
        replace g := letS_inv g
        obtain ⟨s9, c9, g⟩ := g
        rw [clamp_of_int at30] at c2 c9
        have F2 : s2.d = s.d ∧ FrK [144, 145] s.k s2.k := by
          rw [← c2]
          exact ⟨rfl, FrK.sf FrK.rfl (by decide)⟩
        have f42 : s2.k.f 42 = s0.k.f 42 := by rw [(F2.2.2 42 (by decide)).1, (hF.2 42 (by decide)).1]
        have f43 : s2.k.f 43 = s0.k.f 43 := by rw [(F2.2.2 43 (by decide)).1, (hF.2 43 (by decide)).1]
        obtain ⟨es, er⟩ := bel_by (K := K) e3 e5 e2 hK (fun i hi => by rw [f42]; exact ht i hi) w5
        rw [bly_fr f42 f43] at er
        have e6 : s6.k = s2.k ∧ s6.d = s2.d := by
          rw [← c6, es]
          exact ⟨rfl, rfl⟩
        have F9 : s9.d = s6.d ∧ FrK [144, 145] s6.k s9.k := by
          rw [← c9]
          exact ⟨rfl, FrK.sf FrK.rfl (by decide)⟩
        rw [e6.1, e6.2] at F9
        have w44 : ∀ u, s9.k.f 44 u = if u = 6 * w + j then t0 else s.k.f 44 u := fun u => by
          have r1 : s9.k.f 44 = s6.k.f 44 := by
            rw [← c9]
            exact ksf_ne (by decide)
          rw [r1, e6.1, ← c2]
          exact ksf_at
        have w45 : ∀ u, s9.k.f 45 u = if u = 6 * w + j then r5 else s.k.f 45 u := fun u => by
          have r1 : s2.k.f 45 = s.k.f 45 := by
            rw [← c2]
            exact ksf_ne (by decide)
          rw [← r1, ← e6.1, ← c9]
          exact ksf_at
        refine ih s9 (x5 + 1) (j + 1) a5 (by omega) (F9.1.trans (F2.1.trans hd)) ((hF.trans F2.2 (fun _ q => q)).trans F9.2 (fun _ q => q)) (fun v hv => ?_) (fun u hu => ?_) g
        · rw [w44, w45]
          by_cases e : v = j
          · rw [if_pos (by omega), if_pos (by omega), e]
            exact ⟨et, er⟩
          · rw [if_neg (by omega), if_neg (by omega)]
            exact h1 v (by omega)
        · rw [w44, w45, if_neg (by omega), if_neg (by omega)]
          exact h2 u hu
      have f3 : s.k.f 3 = s0.k.f 3 := (hF.2 3 (by decide)).1
      rw [k_has, bindP_some] at h
      have e5o : x5 = Int32.ofNat j := eq_ofnat e5
      by_cases d : (x4 >>> (x5 &&& 31)) &&& 1 = 1
      · rw [if_pos d, if_neg z_one, k_odds e3 hw e5 (by omega), bindI_some] at h
        replace h := letS_inv h
        obtain ⟨s6, c6, h⟩ := h
        have e6 : s6 = s := by rw [← c6]; rfl
        rw [e6] at h
        refine one _ ?_ h
        unfold OF
        rw [← e4, ← e5o, if_pos d, f3]
      · rw [if_neg d, if_pos rfl] at h
        refine one 0 ?_ h
        unfold OF
        rw [← e4, ← e5o, if_neg d]
theorem believe_eq {s s' : JS} {x2 : Int32} {K N : Nat} (hN : (s.k.v 1).toInt = (N : Int)) (hN5 : N ≤ 5) (e2 : x2.toInt = (K : Int)) (hK : K ≤ 20) (ht : ∀ i, i < K → 0 ≤ (s.k.f 42 i).toInt) (h : kX8_believe s x2 = some s') : s'.d = s.d ∧ FrK [144, 145] s.k s'.k ∧ BEL s'.k (OF s.k s.d) (fun w v => bly s.k w v K) N := by
  unfold kX8_believe at h
  have go : ∀ (n : Nat) (t : JS) (x3 : Int32) (m : Nat), x3.toInt = (m : Int) → m ≤ N → t.d = s.d → FrK [144, 145] s.k t.k → (∀ w, w < m → ∀ v, v < 6 → t.k.f 44 (6 * w + v) = OF s.k s.d w v ∧ (t.k.f 45 (6 * w + v)).toInt = (bly s.k w v K : Int)) → kX8_believe_2L n t x2 x3 = some s' → s'.d = s.d ∧ FrK [144, 145] s.k s'.k ∧ BEL s'.k (OF s.k s.d) (fun w v => bly s.k w v K) N := by
    intro n
    induction n with
    | zero => intro t x3 m _ _ _ _ _ h; exact none_ne h
    | succ n ih =>
      intro t x3 m e3 hm hd hF hb h
      replace h : kX8_believe_2 (kX8_believe_2L n) t x2 x3 = some s' := h
      unfold kX8_believe_2 at h
      have tN : (t.k.v 1).toInt = (N : Int) := by rw [hF.1 1 (by decide)]; exact hN
      by_cases c : t.k.v 1 ≤ x3
      · have c' := tn_le tN e3 c
        rw [if_pos c] at h
        rw [← Option.some.inj h]
        exact ⟨hd, hF, fun w hw v hv => hb w (by omega) v hv⟩
      · have c' := tn_nle tN e3 c
        rw [if_neg c, k_may e3 (by omega), bindI_some] at h
        have f42 : t.k.f 42 = s.k.f 42 := (hF.2 42 (by decide)).1
        have f43 : t.k.f 43 = s.k.f 43 := (hF.2 43 (by decide)).1
        have ofe : ∀ w v, OF t.k t.d w v = OF s.k s.d w v := fun w v => OF_fr hF (by decide) hd
        have bfe : ∀ w v, bly t.k w v K = bly s.k w v K := fun w v => bly_fr f42 f43 K
        obtain ⟨u, u1, u2, u3, u4, u5⟩ := bel_in (N := N) (s0 := t) e2 hK (fun i hi => by rw [f42]; exact ht i hi) e3 (by omega) rfl fu t 0 0 (by decide) (Nat.zero_le _) rfl FrK.rfl (fun v hv => by omega) (fun _ _ => ⟨rfl, rfl⟩) h
        have a3 : (x3 + 1).toInt = ((m + 1 : Nat) : Int) := by
          rw [tn_add e3 (by decide : (1 : Int32).toInt = 1) (by omega) (by omega)]
          omega
        refine ih u (x3 + 1) (m + 1) a3 (by omega) (u2.trans hd) (hF.trans u3 (fun _ q => q)) (fun w hw v hv => ?_) u1
        by_cases e : w = m
        · rw [e, ← ofe, ← bfe]
          exact u4 v hv
        · obtain ⟨p1, p2⟩ := u5 (6 * w + v) (by omega)
          rw [p1, p2]
          exact hb w (by omega) v hv
  exact go fu s 0 0 (by decide) (Nat.zero_le _) rfl FrK.rfl (fun w hw => by omega) h
/-! the reference -/
theorem not_bit : ∀ v, v < 6 → ∀ a, a < 64 → ((((63 : Int32) &&& ((Int32.ofNat a) ^^^ (-1 : Int32))) >>> ((Int32.ofNat v) &&& 31)) &&& 1 = 1 ↔ ¬ ((Int32.ofNat a) >>> ((Int32.ofNat v) &&& 31)) &&& 1 = 1) := by decide +kernel
theorem r_isSo_eq {k : KS} {z z' : RS} {x1 x2 r : Int32} {g i N K : Nat} (hT : TEL k z) (hN : (k.v 1).toInt = (N : Int)) (hN5 : N ≤ 5) (hK : (K : Int) ≤ (k.v 21).toInt) (h6 : ∀ j, j < 6 → z.f 46 j = six6 j) (e1 : x1.toInt = (g : Int)) (e2 : x2.toInt = (i : Int)) (hi : i < K) (h : r_isSo z x1 x2 = some (r, z')) : z' = z ∧ r = if sob k i (tg g (tw k i)) = true then 1 else 0 := by
  obtain ⟨t1, t2, t3, t4, t5⟩ := hT i (by omega)
  have w0 : (z.f 52 i).toInt = (tw k i : Int) := by
    unfold tw
    rw [← t1]
    omega
  have wl : tw k i < 5 := by
    unfold tw
    omega
  unfold r_isSo at h
  replace h := guard_inv h
  obtain ⟨_, h⟩ := h
  replace h := guard_inv h
  obtain ⟨_, h⟩ := h
  rw [clamp_of_int e2] at h
  replace h := bindI_inv h
  obtain ⟨r4, z3, h3, h⟩ := h
  obtain ⟨ez, er⟩ := r_thing h6 e1 w0 (by omega) h3
  rw [ez, eq_ofnat er] at h
  have fin : ∀ t0 : Int32, r_isSo_29 z x2 t0 = some (r, z') → z' = z ∧ r = if t0 = z.f 54 i then 1 else 0 := by
    intro t0 q
    unfold r_isSo_29 at q
    replace q := guard_inv q
    obtain ⟨_, q⟩ := q
    rw [clamp_of_int e2] at q
    by_cases c : t0 = z.f 54 i
    · rw [if_pos c] at q ⊢
      have e := Option.some.inj q
      exact ⟨(congrArg Prod.snd e).symm, (congrArg Prod.fst e).symm⟩
    · rw [if_neg c] at q ⊢
      have e := Option.some.inj q
      exact ⟨(congrArg Prod.snd e).symm, (congrArg Prod.fst e).symm⟩
  have tl := tg_lt g (tw k i)
  obtain ⟨a, ea⟩ : ∃ a : Nat, (z.f 53 i).toInt = (a : Int) := ⟨(z.f 53 i).toInt.toNat, by omega⟩
  have nb := not_bit (tg g (tw k i)) tl a (by omega)
  rw [← eq_ofnat ea] at nb
  have cf : (sob k i (tg g (tw k i)) = true) = (((k.f 43 i) >>> ((Int32.ofNat (tg g (tw k i))) &&& 31)) &&& 1 = 1) := propext ⟨fun q => of_decide_eq_true q, fun q => decide_eq_true q⟩
  by_cases c : ((z.f 53 i) >>> ((Int32.ofNat (tg g (tw k i))) &&& 31)) &&& 1 = 1
  · rw [if_pos c] at h
    obtain ⟨f1, f2⟩ := fin 1 h
    refine ⟨f1, ?_⟩
    rw [f2]
    rcases t5 with ⟨s1, s2⟩ | ⟨s1, s2⟩
    · rw [s1, if_pos rfl, if_pos (by rw [cf, s2]; exact c)]
    · rw [s1, if_neg z_one, if_neg (by rw [cf, s2]; exact fun q => nb.mp q c)]
  · rw [if_neg c] at h
    obtain ⟨f1, f2⟩ := fin 0 h
    refine ⟨f1, ?_⟩
    rw [f2]
    rcases t5 with ⟨s1, s2⟩ | ⟨s1, s2⟩
    · rw [s1, if_neg (fun q => z_one q.symm), if_neg (by rw [cf, s2]; exact c)]
    · rw [s1, if_pos rfl, if_pos (by rw [cf, s2]; exact nb.mpr c)]
/-- one that fits by l -/
noncomputable def fitB (k : KS) (C : Nat → Int32) (K l g : Nat) : Bool := decide (¬ C g = 0) && decide (lyr k g K ≤ l)
theorem r_doesFit_eq {k : KS} {z z' : RS} {x1 x2 x3 r : Int32} {C : Nat → Int32} {g N K l T : Nat} (hT : TEL k z) (hN : (k.v 1).toInt = (N : Int)) (hN5 : N ≤ 5) (hK : (K : Int) ≤ (k.v 21).toInt) (hK2 : K ≤ 20) (h6 : ∀ j, j < 6 → z.f 46 j = six6 j) (hC : ∀ g, g < T → z.f 50 g = C g) (e1 : x1.toInt = (g : Int)) (hg : g < T) (e2 : x2.toInt = (K : Int)) (e3 : x3.toInt = (l : Int)) (h : r_doesFit z x1 x2 x3 = some (r, z')) : z' = z ∧ r = if fitB k C K l g = true then 1 else 0 := by
  unfold r_doesFit at h
  replace h := guard_inv h
  obtain ⟨_, h⟩ := h
  rw [clamp_of_int e1, hC g hg] at h
  by_cases c : C g = 0
  · rw [if_pos c] at h
    have e := Option.some.inj h
    refine ⟨(congrArg Prod.snd e).symm, ?_⟩
    have f : fitB k C K l g = false := by
      unfold fitB
      rw [decide_eq_false (fun q => q c)]
      rfl
    rw [f, if_neg (by decide)]
    exact (congrArg Prod.fst e).symm
  · rw [if_neg c] at h
    have go : ∀ (n : Nat) (x4 x5 : Int32) (j : Nat), x5.toInt = (j : Int) → j ≤ K → x4.toInt = (lyr k g j : Int) → r_doesFit_17L n z x1 x2 x3 x4 x5 = some (r, z') → z' = z ∧ r = if lyr k g K ≤ l then 1 else 0 := by
      intro n
      induction n with
      | zero => intro x4 x5 j _ _ _ h; exact none_ne h
      | succ n ih =>
        intro x4 x5 j e5 hj e4 h
        replace h : r_doesFit_17 (r_doesFit_17L n) z x1 x2 x3 x4 x5 = some (r, z') := h
        unfold r_doesFit_17 at h
        by_cases c : x2 ≤ x5
        · have c' := tn_le e2 e5 c
          have ej : j = K := by omega
          rw [ej] at e4
          rw [if_pos c] at h
          by_cases d : x3 < x4
          · have d' := tn_lt e3 e4 d
            rw [if_pos d] at h
            have e := Option.some.inj h
            rw [if_neg (by omega)]
            exact ⟨(congrArg Prod.snd e).symm, (congrArg Prod.fst e).symm⟩
          · have d' := tn_nlt e3 e4 d
            rw [if_neg d] at h
            have e := Option.some.inj h
            rw [if_pos (by omega)]
            exact ⟨(congrArg Prod.snd e).symm, (congrArg Prod.fst e).symm⟩
        · have c' := tn_nle e2 e5 c
          rw [if_neg c] at h
          replace h := bindI_inv h
          obtain ⟨r4, z3, h3, h⟩ := h
          obtain ⟨ez, er⟩ := r_isSo_eq hT hN hN5 hK h6 e1 e5 (by omega) h3
          rw [ez] at h
          have ll := lyr_le (k := k) (g := g) j
          have a5 : (x5 + 1).toInt = ((j + 1 : Nat) : Int) := by
            rw [tn_add e5 (by decide : (1 : Int32).toInt = 1) (by omega) (by omega)]
            omega
          have st : lyr k g (j + 1) = lyr k g j + (if sob k j (tg g (tw k j)) = false then 1 else 0) := rfl
          by_cases d : sob k j (tg g (tw k j)) = true
          · rw [if_pos d] at er
            rw [er, if_neg z_one] at h
            unfold r_doesFit_36 at h
            refine ih x4 (x5 + 1) (j + 1) a5 (by omega) ?_ h
            rw [st, if_neg (by rw [d]; decide), Nat.add_zero]
            exact e4
          · have d2 : sob k j (tg g (tw k j)) = false := Bool.eq_false_iff.mpr d
            rw [if_neg d] at er
            rw [er, if_pos rfl] at h
            unfold r_doesFit_36 at h
            refine ih (x4 + 1) (x5 + 1) (j + 1) a5 (by omega) ?_ h
            rw [st, if_pos d2, tn_add e4 (by decide : (1 : Int32).toInt = 1) (by omega) (by omega)]
            omega
    obtain ⟨i1, i2⟩ := go fu 0 0 0 (by decide) (Nat.zero_le _) (by show (0 : Int32).toInt = ((0 : Nat) : Int); decide) h
    refine ⟨i1, ?_⟩
    rw [i2]
    unfold fitB
    rw [decide_eq_true c, Bool.true_and]
    by_cases d : lyr k g K ≤ l
    · rw [if_pos d, if_pos (decide_eq_true d)]
    · rw [if_neg d, if_neg (by rw [decide_eq_false d]; decide)]
theorem r_asked {z : RS} {x1 x2 : Int32} : r_isAsked z x1 x2 = some ((if 0 ≤ x1.toInt ∧ x1.toInt ≤ (z.v 51).toInt ∧ 0 ≤ x2.toInt ∧ x2.toInt ≤ 3 then 1 else 0), z) := by
  unfold r_isAsked
  rw [in_range (A := 0) (B := (z.v 51).toInt) (by decide) rfl, bindP_some]
  by_cases c : 0 ≤ x1.toInt ∧ x1.toInt ≤ (z.v 51).toInt
  · rw [if_pos c, if_neg z_one, in_range (A := 0) (B := 3) (by decide) (by decide), bindP_some]
    by_cases d : 0 ≤ x2.toInt ∧ x2.toInt ≤ 3
    · rw [if_pos d, if_neg z_one, if_pos ⟨c.1, c.2, d.1, d.2⟩]
    · rw [if_neg d, if_pos rfl, if_neg (fun q => d q.2.2)]
  · rw [if_neg c, if_pos rfl, if_neg (fun q => c ⟨q.1, q.2.1⟩)]
theorem k_such {s : KS} {x1 x2 : Int32} : kX8_areSuch s x1 x2 = some ((if 0 ≤ x1.toInt ∧ x1.toInt ≤ (s.v 21).toInt ∧ 0 ≤ x2.toInt ∧ x2.toInt ≤ 3 then 1 else 0), s) := by
  have z0 : (0 : Int32).toInt = 0 := by decide
  have z3 : (3 : Int32).toInt = 3 := by decide
  unfold kX8_areSuch
  by_cases a : x1 < 0
  · have a' := ti_lt a
    rw [if_pos a, if_neg (fun q => by omega)]
  · have a' := ti_nlt a
    rw [if_neg a]
    by_cases b : s.v 21 < x1
    · have b' := ti_lt b
      rw [if_pos b, if_neg (fun q => by omega)]
    · have b' := ti_nlt b
      rw [if_neg b]
      by_cases c : x2 < 0
      · have c' := ti_lt c
        rw [if_pos c, if_neg (fun q => by omega)]
      · have c' := ti_nlt c
        rw [if_neg c]
        by_cases d : 3 < x2
        · have d' := ti_lt d
          rw [if_pos d, if_neg (fun q => by omega)]
        · have d' := ti_nlt d
          rw [if_neg d, if_pos ⟨by omega, by omega, by omega, by omega⟩]
end
section
/-! ===== fit, lie, ask: both sides ===== -/
/-- odds of what may be are 1 .. 9, of all else 0 -/
theorem OF_rng {s : JS} {z : RS} {w v N : Nat} (hJ : JR s z) (hF : FO s.k s.d) (hN : (s.k.v 1).toInt = (N : Int)) (hN5 : N ≤ 5) (hw : w < N) (hv : v < 6) : (BIT s.k s.d w v → 1 ≤ (OF s.k s.d w v).toInt ∧ (OF s.k s.d w v).toInt ≤ 9) ∧ (¬ BIT s.k s.d w v → OF s.k s.d w v = 0) := by
  have bl : 0 ≤ (z.v 18).toInt ∧ (z.v 18).toInt ≤ 1 := hJ.2.2.2.1.1 18
  obtain ⟨l, hl⟩ : ∃ l : Nat, (z.v 18).toInt = (l : Int) := ⟨(z.v 18).toInt.toNat, by omega⟩
  refine ⟨fun b => ?_, fun b => ?_⟩
  · have b' : ((MB s.k s.d w) >>> ((Int32.ofNat v) &&& 31)) &&& 1 = 1 := b
    have eo : OF s.k s.d w v = s.k.f 3 (6 * w + v) := by
      unfold OF
      rw [if_pos b']
    rw [eo]
    have p := MB_odds hJ.1 (hJ.2.1.at (by omega)) hF (by omega) hv b'
    have q := (od_big hJ.2.2.1 hJ.1 hl (w := w) (by omega)).1 v hv
    omega
  · unfold OF
    exact if_neg b
theorem prd_case {s : JS} {z : RS} {g N : Nat} (hJ : JR s z) (hF : FO s.k s.d) (hN : (s.k.v 1).toInt = (N : Int)) (hN5 : N ≤ 5) : ((∀ w, w < N → BIT s.k s.d w (tg g w)) → 1 ≤ (prd s.k s.d 0 g N).toInt) ∧ ((∃ w, w < N ∧ ¬ BIT s.k s.d w (tg g w)) → prd s.k s.d 0 g N = 0) := by
  refine ⟨fun b => ?_, fun ⟨w, h1, h2⟩ => prd_zero N h1 h2⟩
  rw [← chance_prd]
  refine pos_prod (g := tg g) N 0 1 (fun w _ h2 => (OF_rng hJ hF hN hN5 (by omega) (tg_lt g w)).1 (b w (by omega))) (by decide) ?_
  have z1 : (1 : Int32).toInt = 1 := by decide
  rw [z1]
  rcases (show N = 0 ∨ N = 1 ∨ N = 2 ∨ N = 3 ∨ N = 4 ∨ N = 5 by omega) with e | e | e | e | e | e <;> (rw [e]; decide)
noncomputable def mayB (k : KS) (d : SD) (w v : Nat) : Bool := decide (¬ OF k d w v ≤ 0)
theorem mayB_bit {s : JS} {z : RS} {w v N : Nat} (hJ : JR s z) (hF : FO s.k s.d) (hN : (s.k.v 1).toInt = (N : Int)) (hN5 : N ≤ 5) (hw : w < N) (hv : v < 6) : mayB s.k s.d w v = true ↔ BIT s.k s.d w v := by
  have z0 : (0 : Int32).toInt = 0 := by decide
  obtain ⟨o1, o2⟩ := OF_rng hJ hF hN hN5 hw hv
  unfold mayB
  refine ⟨fun q => ?_, fun q => decide_eq_true (fun l => by have := ti_le l; have := o1 q; omega)⟩
  have q' := of_decide_eq_true q
  refine Classical.byContradiction (fun n => q' ?_)
  rw [o2 n]
  exact Int32.le_iff_toInt_le.mpr (Int.le_refl _)
theorem case_iff {s : JS} {z : RS} {g N : Nat} (hJ : JR s z) (hF : FO s.k s.d) (hN : (s.k.v 1).toInt = (N : Int)) (hN5 : N ≤ 5) : ¬ prd s.k s.d 0 g N = 0 ↔ ∀ w, w < N → mayB s.k s.d w (tg g w) = true := by
  obtain ⟨p1, p2⟩ := prd_case (g := g) hJ hF hN hN5
  refine ⟨fun q w hw => ?_, fun q e => ?_⟩
  · rw [mayB_bit hJ hF hN hN5 hw (tg_lt g w)]
    exact Classical.byContradiction (fun n => q (p2 ⟨w, hw, n⟩))
  · have := p1 (fun w hw => (mayB_bit hJ hF hN hN5 hw (tg_lt g w)).mp (q w hw))
    rw [e] at this
    exact absurd this (by decide)
theorem PW_ext {wt wt' : Nat → Nat → Int32} {g : Nat} : ∀ N, (∀ w, w < N → wt w (tg g w) = wt' w (tg g w)) → PW wt g N = PW wt' g N := by
  intro N
  induction N with
  | zero => intro _; rfl
  | succ N ih =>
    intro h
    show PW wt g N * wt N (tg g N) = PW wt' g N * wt' N (tg g N)
    rw [ih (fun w hw => h w (by omega)), h N (by omega)]
theorem LB_ext {bl bl' : Nat → Nat → Nat} {g : Nat} : ∀ N, (∀ w, w < N → bl w (tg g w) = bl' w (tg g w)) → LB bl g N = LB bl' g N := by
  intro N
  induction N with
  | zero => intro _; rfl
  | succ N ih =>
    intro h
    show LB bl g N + bl N (tg g N) = LB bl' g N + bl' N (tg g N)
    rw [ih (fun w hw => h w (by omega)), h N (by omega)]
theorem PW_prd {k : KS} {d : SD} {g : Nat} : ∀ N, PW (OF k d) g N = prd k d 0 g N := by
  intro N
  induction N with
  | zero => rfl
  | succ N ih =>
    show PW (OF k d) g N * OF k d N (tg g N) = prd k d 0 g N * OF k d (0 + N) (tg g N)
    rw [ih, Nat.zero_add]
/-- the told ones' waves are waves -/
theorem tel_tw {k : KS} {z : RS} {K N : Nat} (hT : TEL k z) (hN : (k.v 1).toInt = (N : Int)) (hK : (K : Int) ≤ (k.v 21).toInt) : ∀ i, i < K → 0 ≤ (k.f 42 i).toInt ∧ tw k i < N := by
  intro i hi
  obtain ⟨_, t2, t3, _⟩ := hT i (by omega)
  refine ⟨t2, ?_⟩
  unfold tw
  omega
/-- the class counts those that fit -/
theorem k_fit {s : KS} {s' : KS} {k0 : KS} {d0 : SD} {z : RS} {x1 x2 r : Int32} {N K l : Nat} (hJ : JR (JS.mk k0 d0) z) (hF : FO k0 d0) (hT : TEL k0 z) (hN : (k0.v 1).toInt = (N : Int)) (hN5 : N ≤ 5) (hK : (K : Int) ≤ (k0.v 21).toInt) (sN : (s.v 1).toInt = (N : Int)) (hB : BEL s (OF k0 d0) (fun w v => bly k0 w v K) N) (e1 : x1.toInt = (l : Int)) (hl : l ≤ 3) (e2 : x2 = 0 ∨ x2 = 1) (h : kX8_fitting s x1 x2 = some (r, s')) : r = wsum (fun g => if fitB k0 (fun g => prd k0 d0 0 g N) K l g = true then (if x2 = 0 then 1 else prd k0 d0 0 g N) else 0) (6 ^ N) := by
  unfold kX8_fitting at h
  replace h := bindP_inv h
  obtain ⟨s1, u1, h⟩ := h
  replace h := bindI_inv h
  obtain ⟨r3, s2, u2, h⟩ := h
  have hr : r3 = r := congrArg Prod.fst (Option.some.inj h)
  obtain ⟨f1, f2⟩ := sort_eq (b := N) (v0 := 0) sN hN5 (by omega) (fun w hw => ⟨fun q => by omega, fun q => by
    have e := ofnat_int (n := w) (by omega)
    rw [← q] at e
    have m1 : (-1 : Int32).toInt = -1 := by decide
    omega⟩) hB u1
  obtain ⟨_, g2⟩ := upTo_eq (q := l + 1) (x1 := x1) f2 (by omega) (Or.inl (by omega)) u2
  rw [← hr, g2, DP_upto]
  refine wsum_cg _ (fun g hg => ?_)
  have lb : LB (butL N (fun w v => bly k0 w v K)) g N = lyr k0 g K := by
    rw [LB_ext (bl' := fun w v => bly k0 w v K) N (fun w hw => by unfold butL; exact if_neg (by omega))]
    exact lies_same K (fun i hi => (tel_tw hT hN hK i hi).2)
  have pw : PW (but N 0 (wtO (OF k0 d0) x2)) g N = PW (wtO (OF k0 d0) x2) g N := PW_ext N (fun w hw => by unfold but; exact if_neg (by omega))
  rw [lb, pw]
  have ci := case_iff (g := g) hJ hF hN hN5
  have val : PW (wtO (OF k0 d0) x2) g N = if x2 = 0 then (if prd k0 d0 0 g N = 0 then 0 else 1) else prd k0 d0 0 g N := by
    by_cases c : x2 = 0
    · rw [if_pos c]
      have pb := PW_bit (wt := wtO (OF k0 d0) x2) (ok := mayB k0 d0) (g := g) (fun w v => by
        unfold wtO mayB
        by_cases q : OF k0 d0 w v ≤ 0
        · rw [if_pos q, if_neg (by rw [decide_eq_false (fun n => n q)]; decide)]
        · rw [if_neg q, if_pos c, if_pos (decide_eq_true q)]) N
      by_cases e : prd k0 d0 0 g N = 0
      · rw [if_pos e]
        refine pb.2 (Classical.byContradiction (fun n => ci.mpr (fun w hw => ?_) e))
        exact Classical.byContradiction (fun m => n ⟨w, hw, Bool.eq_false_iff.mpr m⟩)
      · rw [if_neg e]
        exact pb.1 (ci.mp e)
    · rw [if_neg c, ← PW_prd]
      refine PW_ext N (fun w hw => ?_)
      obtain ⟨o1, o2⟩ := OF_rng hJ hF hN hN5 hw (tg_lt g w)
      unfold wtO
      by_cases q : OF k0 d0 w (tg g w) ≤ 0
      · rw [if_pos q]
        by_cases b : BIT k0 d0 w (tg g w)
        · have := o1 b
          have q' := ti_le q
          have z0 : (0 : Int32).toInt = 0 := by decide
          have this : 1 ≤ (OF k0 d0 w (tg g w)).toInt := this.1
          omega
        · exact (o2 b).symm
      · rw [if_neg q, if_neg c]
  show (if lyr k0 g K < l + 1 then PW (wtO (OF k0 d0) x2) g N else 0) = _
  rw [val]
  unfold fitB
  by_cases a : prd k0 d0 0 g N = 0
  · have f : (decide (¬ (fun g => prd k0 d0 0 g N) g = 0) && decide (lyr k0 g K ≤ l)) = false := by
      rw [decide_eq_false (fun n => n a)]
      rfl
    rw [f, if_neg (show ¬ (false = true) from Bool.false_ne_true), if_pos a, a, ite_self, ite_self]
  · rw [if_neg a]
    by_cases b : lyr k0 g K ≤ l
    · have f : (decide (¬ (fun g => prd k0 d0 0 g N) g = 0) && decide (lyr k0 g K ≤ l)) = true := by
        rw [Bool.and_eq_true]
        exact ⟨decide_eq_true a, decide_eq_true b⟩
      rw [if_pos (show lyr k0 g K < l + 1 by omega), if_pos f]
    · have f : (decide (¬ (fun g => prd k0 d0 0 g N) g = 0) && decide (lyr k0 g K ≤ l)) = false := by
        rw [decide_eq_false b, Bool.and_false]
      rw [if_neg (show ¬ lyr k0 g K < l + 1 by omega), f, if_neg (show ¬ (false = true) from Bool.false_ne_true)]
theorem r_fitL {k : KS} {z z' : RS} {x1 x2 x3 r : Int32} {C : Nat → Int32} {N K l : Nat} (hT : TEL k z) (hN : (k.v 1).toInt = (N : Int)) (hN5 : N ≤ 5) (hK : (K : Int) ≤ (k.v 21).toInt) (hK2 : K ≤ 20) (h6 : ∀ j, j < 6 → z.f 46 j = six6 j) (hz : (z.f 20 (z.v 18).toNatClampNeg).toInt = (N : Int)) (hC : ∀ g, g < 6 ^ N → z.f 50 g = C g) (e1 : x1.toInt = (K : Int)) (e2 : x2.toInt = (l : Int)) : ∀ (n : Nat) (x4 x5 : Int32) (j : Nat), x5.toInt = (j : Int) → j ≤ 6 ^ N → x4 = wsum (fun g => if fitB k C K l g = true then (if x3 = 0 then 1 else C g) else 0) j → r_fit_30L n z x1 x2 x3 x4 x5 = some (r, z') → r = wsum (fun g => if fitB k C K l g = true then (if x3 = 0 then 1 else C g) else 0) (6 ^ N) := by
  have pl := pow_le N hN5
  intro n
  induction n with
  | zero => intro x4 x5 j _ _ _ h; exact none_ne h
  | succ n ih =>
    intro x4 x5 j e5 hj e4 h
    replace h : r_fit_30 (r_fit_30L n) z x1 x2 x3 x4 x5 = some (r, z') := h
    unfold r_fit_30 at h
    replace h := bindI_inv h
    obtain ⟨q, z1, h1, h⟩ := h
    obtain ⟨ez, eq⟩ := r_guessN h6 hN5 hz h1
    rw [ez] at h
    by_cases c : q ≤ x5
    · have c' := tn_le eq e5 c
      rw [if_pos c] at h
      have ej : j = 6 ^ N := by omega
      rw [← fst_som h, ← ej]
      exact e4
    · have c' := tn_nle eq e5 c
      rw [if_neg c] at h
      replace h := bindI_inv h
      obtain ⟨r5, z4, h5, h⟩ := h
      obtain ⟨ez4, e6⟩ := r_doesFit_eq hT hN hN5 hK hK2 h6 hC e5 (by omega) e1 e2 h5
      rw [ez4] at h
      have a5 : (x5 + 1).toInt = ((j + 1 : Nat) : Int) := by
        rw [tn_add e5 (by decide : (1 : Int32).toInt = 1) (by omega) (by omega)]
        omega
      by_cases d : fitB k C K l j = true
      · rw [if_pos d] at e6
        rw [e6, if_neg z_one] at h
        by_cases f : x3 = 0
        · rw [if_pos f] at h
          unfold r_fit_67 r_fit_70 at h
          refine ih _ (x5 + 1) (j + 1) a5 (by omega) ?_ h
          rw [wsum_succ, ← e4, if_pos d, if_pos f]
        · rw [if_neg f] at h
          replace h := guard_inv h
          obtain ⟨_, h⟩ := h
          rw [clamp_of_int e5, hC j (by omega)] at h
          unfold r_fit_67 r_fit_70 at h
          refine ih _ (x5 + 1) (j + 1) a5 (by omega) ?_ h
          rw [wsum_succ, ← e4, if_pos d, if_neg f]
      · rw [if_neg d] at e6
        rw [e6, if_pos rfl] at h
        unfold r_fit_70 at h
        refine ih _ (x5 + 1) (j + 1) a5 (by omega) ?_ h
        rw [wsum_succ, ← e4, if_neg d, Int32.add_zero]
/-- what both begin with -/
theorem told_begin {y : YS} {z : RS} {x1 x2 : Int32} (hP : TPk y.x.k z) (hK : InvK y.x.k) (c : 0 ≤ x1.toInt ∧ x1.toInt ≤ (y.x.k.v 21).toInt ∧ 0 ≤ x2.toInt ∧ x2.toInt ≤ 3) : ∃ K l : Nat, x1.toInt = (K : Int) ∧ x2.toInt = (l : Int) ∧ l ≤ 3 ∧ K ≤ 20 ∧ (K : Int) ≤ (y.x.k.v 21).toInt := by
  have b : (y.x.k.v 21).toInt ≤ 20 := (hK.1 21).2
  exact ⟨x1.toInt.toNat, x2.toInt.toNat, by omega, by omega, by omega, by omega, by omega⟩
theorem TEL.f50 {k : KS} {z z' : RS} (h : TEL k z) (G : FrR [45, 144, 150] z z') : TEL k z' := by
  intro i hi
  have q := h i hi
  rw [(G.2 52 (by decide)).1, (G.2 53 (by decide)).1, (G.2 54 (by decide)).1]
  exact q
theorem fit_same {y : YS} {x' : XS} {z z' : RS} {x1 x2 x3 r1 r2 : Int32} (hP : TPk y.x.k z) (h : REL y z) (hK : InvK y.x.k) (hI : InvR z) (hB : Big z) (h1 : kX10_fit y.x x1 x2 x3 = some (r1, x')) (h2 : r_fit z x1 x2 x3 = some (r2, z')) : r1 = r2 ∧ True := by
  refine ⟨?_, trivial⟩
  have e21 : y.x.k.v 21 = z.v 51 := hP.2.2.2.2.1
  unfold kX10_fit at h1
  unfold r_fit at h2
  rw [k_such, bindI_some] at h1
  rw [r_asked, ← e21, bindI_some] at h2
  replace h1 := letS_inv h1
  obtain ⟨s3, c3, h1⟩ := h1
  have e3 : s3 = y.x := by rw [← c3]; rfl
  rw [e3] at h1
  have z0 : (0 : Int32).toInt = 0 := by decide
  have z1 : (1 : Int32).toInt = 1 := by decide
  by_cases c : 0 ≤ x1.toInt ∧ x1.toInt ≤ (y.x.k.v 21).toInt ∧ 0 ≤ x2.toInt ∧ x2.toInt ≤ 3
  · rw [if_pos c, if_neg z_one] at h1 h2
    rw [in_range (A := 0) (B := 1) (by decide) (by decide), bindP_some] at h2
    by_cases d : 0 ≤ x3.toInt ∧ x3.toInt ≤ 1
    · rw [if_pos d, if_neg z_one] at h2
      rw [if_neg (fun q => by have := ti_lt q; omega), if_pos (Int32.le_iff_toInt_le.mpr (by omega))] at h1
      obtain ⟨K, l, k1, k2, k3, k4, k5⟩ := told_begin hP hK c
      replace h2 := bindP_inv h2
      obtain ⟨z6, w6, h2⟩ := h2
      obtain ⟨hJ, G, N, hN, hN5, hz, hC⟩ := r_fills h hK hI hB w6
      have hT : TEL y.x.k z6 := h.2.2.2.2.f50 G
      have m := r_fitL (C := fun g => prd y.x.k y.x.n 0 g N) (x3 := x3) hT hN hN5 k5 k4 hJ.1.2.1 hz hC k1 k2 fu 0 0 0 (by decide) (Nat.zero_le _) rfl h2
      replace h1 := bindP_inv h1
      obtain ⟨s8, w8, h1⟩ := h1
      replace h1 := letS_inv h1
      obtain ⟨s9, c9, h1⟩ := h1
      obtain ⟨b1, b2, b3⟩ := believe_eq (s := JS.mk y.x.k y.x.n) hN hN5 k1 k4 (fun i hi => (tel_tw hT hN k5 i hi).1) w8
      have e9 : s9.k = s8.k := by rw [← c9]; rfl
      have sN : (s8.k.v 1).toInt = (N : Int) := by
        rw [b2.1 1 (by decide)]
        exact hN
      have fin : ∀ t0 : Int32, (t0 = 0 ∨ t0 = 1) → (t0 = 0 ↔ x3 = 0) → kX10_fit_50 s9 t0 x2 = some (r1, x') → r1 = r2 := by
        intro t0 ht tx g
        unfold kX10_fit_50 at g
        replace g := bindI_inv g
        obtain ⟨q2, s1, u1, g⟩ := g
        replace g := letS_inv g
        obtain ⟨s5, _, g⟩ := g
        rw [e9] at u1
        have f := k_fit (k0 := y.x.k) (d0 := y.x.n) hJ h.2.1.2 hT hN hN5 k5 sN b3 k2 k3 ht u1
        rw [← fst_som g]
        show q2 = r2
        rw [f, m]
        refine wsum_cg _ (fun g _ => ?_)
        by_cases w : x3 = 0
        · rw [if_pos (tx.mpr w), if_pos w]
        · rw [if_neg (fun q => w (tx.mp q)), if_neg w]
      by_cases f : x3 = 1
      · rw [if_pos f] at h1
        exact fin 1 (Or.inr rfl) ⟨fun q => absurd q z_one, fun q => by rw [f] at q; exact absurd q z_one⟩ h1
      · rw [if_neg f] at h1
        have x0 : x3 = 0 := Int32.toInt_inj.mp (by
          have := ne_toInt (k := 1) (by decide) f
          omega)
        exact fin 0 (Or.inl rfl) ⟨fun _ => x0, fun _ => rfl⟩ h1
    · rw [if_neg d, if_pos rfl] at h2
      have f2 : -1 = r2 := congrArg Prod.fst (Option.some.inj h2)
      rw [← f2]
      by_cases f : x3 < 0
      · rw [if_pos f] at h1
        exact (congrArg Prod.fst (Option.some.inj h1)).symm
      · have f' := ti_nlt f
        rw [if_neg f, if_neg (fun q => by have := ti_le q; omega)] at h1
        exact (congrArg Prod.fst (Option.some.inj h1)).symm
  · rw [if_neg c, if_pos rfl] at h1 h2
    have f1 : -1 = r1 := congrArg Prod.fst (Option.some.inj h1)
    have f2 : -1 = r2 := congrArg Prod.fst (Option.some.inj h2)
    rw [← f1, ← f2]
end
section
/-! ===== lie ===== -/
noncomputable def btx (x : Int32) (i : Nat) : Bool := x.toBitVec.getLsbD i
theorem bt_ext {x y : Int32} (h : ∀ i, i < 32 → btx x i = btx y i) : x = y := Int32.toBitVec_inj.mp (BitVec.eq_of_getLsbD_eq (fun i hi => h i hi))
theorem bt_or {x y : Int32} {i : Nat} : btx (x ||| y) i = (btx x i || btx y i) := by
  show (x.toBitVec ||| y.toBitVec).getLsbD i = _
  exact BitVec.getLsbD_or
theorem bt_m1 : ∀ i, i < 32 → (-1 : Int32).toBitVec.getLsbD i = true := by decide +kernel
theorem bt_andn {x y : Int32} {i : Nat} (hi : i < 32) : btx (x &&& (y ^^^ (-1 : Int32))) i = (btx x i && !btx y i) := by
  show (x.toBitVec &&& (y.toBitVec ^^^ (-1 : Int32).toBitVec)).getLsbD i = _
  rw [BitVec.getLsbD_and, BitVec.getLsbD_xor, bt_m1 i hi, Bool.xor_true]
  rfl
theorem bt_one : ∀ j, j < 20 → ∀ i, i < 32 → (((1 : Int32) <<< ((Int32.ofNat j) &&& 31)).toBitVec.getLsbD i = true ↔ i = j) := by decide +kernel
theorem bt_mask : ∀ k, k < 21 → ∀ i, i < 32 → ((((1 : Int32) <<< ((Int32.ofNat k) &&& 31)) - 1).toBitVec.getLsbD i = true ↔ i < k) := by decide +kernel
theorem bt_zero {i : Nat} : btx 0 i = false := by
  show (0#32).getLsbD i = false
  exact BitVec.getLsbD_zero
theorem bt_iff {x y : Int32} (h : ∀ i, i < 32 → (btx x i = true ↔ btx y i = true)) : x = y := bt_ext (fun i hi => Bool.eq_iff_iff.mpr (h i hi))
theorem and_none : ∀ a, a < 64 → ∀ b, b < 64 → ((Int32.ofNat a) &&& (Int32.ofNat b) = 0 ↔ ∀ v, v < 6 → ((Int32.ofNat a) >>> ((Int32.ofNat v) &&& 31)) &&& 1 = 1 → ¬ ((Int32.ofNat b) >>> ((Int32.ofNat v) &&& 31)) &&& 1 = 1) := by decide +kernel
theorem or_bit : ∀ a, a < 64 → ∀ j, j < 6 → ∀ v, v < 6 → ((((Int32.ofNat a) ||| ((1 : Int32) <<< ((Int32.ofNat j) &&& 31))) >>> ((Int32.ofNat v) &&& 31)) &&& 1 = 1 ↔ (((Int32.ofNat a) >>> ((Int32.ofNat v) &&& 31)) &&& 1 = 1 ∨ v = j)) := by decide +kernel
theorem not_rng : ∀ a, a < 64 → 0 ≤ ((63 : Int32) &&& ((Int32.ofNat a) ^^^ (-1 : Int32))).toInt ∧ ((63 : Int32) &&& ((Int32.ofNat a) ^^^ (-1 : Int32))).toInt ≤ 63 := by decide +kernel
theorem tel_rng {k : KS} {z : RS} {i : Nat} (hT : TEL k z) (hi : (i : Int) < (k.v 21).toInt) : 0 ≤ (k.f 43 i).toInt ∧ (k.f 43 i).toInt ≤ 63 := by
  obtain ⟨_, _, _, t4, t5⟩ := hT i hi
  rcases t5 with ⟨_, s2⟩ | ⟨_, s2⟩
  · rw [s2]
    omega
  · obtain ⟨a, ea⟩ : ∃ a : Nat, (z.f 53 i).toInt = (a : Int) := ⟨(z.f 53 i).toInt.toNat, by omega⟩
    rw [s2, eq_ofnat ea]
    exact not_rng a (by omega)
/-- how many there are, as an int -/
theorem cnt {P : Nat → Bool} : ∀ m, m ≤ 7776 → ∃ c : Nat, (wsum (fun g => if P g = true then 1 else 0) m).toInt = (c : Int) ∧ c ≤ m ∧ (0 < c ↔ ∃ g, g < m ∧ P g = true) := by
  intro m
  induction m with
  | zero => exact fun _ => ⟨0, by rw [wsum_zero]; decide, Nat.le_refl _, ⟨fun q => by omega, fun ⟨g, q, _⟩ => by omega⟩⟩
  | succ m ih =>
    intro hm
    obtain ⟨c, c1, c2, c3⟩ := ih (by omega)
    rw [wsum_succ]
    by_cases d : P m = true
    · refine ⟨c + 1, ?_, by omega, ⟨fun _ => ⟨m, by omega, d⟩, fun _ => by omega⟩⟩
      rw [if_pos d, tn_add c1 (by decide : (1 : Int32).toInt = 1) (by omega) (by omega)]
      omega
    · refine ⟨c, ?_, by omega, ⟨fun q => ?_, fun ⟨g, g1, g2⟩ => ?_⟩⟩
      · rw [if_neg d, Int32.add_zero]
        exact c1
      · obtain ⟨g, g1, g2⟩ := c3.mp q
        exact ⟨g, by omega, g2⟩
      · refine c3.mpr ⟨g, ?_, g2⟩
        by_cases e : g = m
        · rw [e] at g2
          exact absurd g2 d
        · omega
/-- those that fit with a thing over a wave -/
noncomputable def CTw (k : KS) (C : Nat → Int32) (K l N w v : Nat) : Int32 := wsum (fun g => if (decide (tg g w = v) && fitB k C K l g) = true then 1 else 0) (6 ^ N)
theorem LB_at {f : Nat → Nat} {w g : Nat} : ∀ N, LB (fun u x => if u = w then f x else 0) g N = if w < N then f (tg g w) else 0 := by
  intro N
  induction N with
  | zero => rw [if_neg (Nat.not_lt_zero _)]; rfl
  | succ N ih =>
    show LB (fun u x => if u = w then f x else 0) g N + (if N = w then f (tg g N) else 0) = _
    rw [ih]
    by_cases c : N = w
    · subst c
      rw [if_neg (Nat.lt_irrefl _), if_pos rfl, if_pos (Nat.lt_succ_self _), Nat.zero_add]
    · rw [if_neg c, Nat.add_zero]
      by_cases d : w < N
      · rw [if_pos d, if_pos (by omega)]
      · rw [if_neg d, if_neg (by omega)]
theorem fw_eq {s s' : KS} {k0 : KS} {d0 : SD} {z : RS} {x1 x2 x3 r : Int32} {N K l w v : Nat} (hJ : JR (JS.mk k0 d0) z) (hF : FO k0 d0) (hT : TEL k0 z) (hN : (k0.v 1).toInt = (N : Int)) (hN5 : N ≤ 5) (hK : (K : Int) ≤ (k0.v 21).toInt) (hB : BEL s (OF k0 d0) (fun w v => bly k0 w v K) N) (hK20 : K ≤ 20) (e1 : x1.toInt = (w : Int)) (hw : w < N) (e2 : x2.toInt = (v : Int)) (hv : v < 6) (e3 : x3.toInt = (l : Int)) (hl : l ≤ 3) (hD : ∀ u, u < 4 → s.f 46 u = DP (but w v (wtO (OF k0 d0) 0)) (butL w (fun w v => bly k0 w v K)) N u) (h : kX8_fittingWith s x1 x2 x3 = some (r, s')) : s' = s ∧ r = CTw k0 (fun g => prd k0 d0 0 g N) K l N w v := by
  have at30 : ((x1 * 6) + x2).toInt = ((6 * w + v : Nat) : Int) := k_at30 e1 (by omega) e2 hv
  obtain ⟨b1, b2⟩ := hB w hw v hv
  unfold kX8_fittingWith at h
  replace h := guard_inv h
  obtain ⟨_, h⟩ := h
  rw [clamp_of_int at30, b1] at h
  by_cases c : OF k0 d0 w v ≤ 0
  · rw [if_pos c] at h
    have e := Option.some.inj h
    refine ⟨(congrArg Prod.snd e).symm, ?_⟩
    rw [← pr_fst e]
    refine (wsum_none _ (fun g hg => ?_)).symm
    refine if_neg (fun q => ?_)
    rw [Bool.and_eq_true] at q
    have t := of_decide_eq_true q.1
    have f : ¬ prd k0 d0 0 g N = 0 := by
      have f := q.2
      unfold fitB at f
      rw [Bool.and_eq_true] at f
      exact of_decide_eq_true f.1
    have m := (case_iff hJ hF hN hN5).mp f w hw
    rw [t] at m
    unfold mayB at m
    exact of_decide_eq_true m c
  · rw [if_neg c] at h
    replace h := guard_inv h
    obtain ⟨_, h⟩ := h
    replace h := bindI_inv h
    obtain ⟨r5, s4, u4, h⟩ := h
    have bl := bly_le (k := k0) (w := w) (v := v) K
    have i3 : (x3 - s.f 45 (6 * w + v)).toInt = (l : Int) - (bly k0 w v K : Int) := tn_sub e3 b2 (by omega) (by omega)
    obtain ⟨q, hq, hq4⟩ : ∃ q : Nat, ((q : Int) = (l : Int) - (bly k0 w v K : Int) + 1 ∨ (q = 0 ∧ (l : Int) - (bly k0 w v K : Int) < 0)) ∧ q ≤ 4 := by
      by_cases d : bly k0 w v K ≤ l
      · exact ⟨l - bly k0 w v K + 1, by omega, by omega⟩
      · exact ⟨0, by omega, by omega⟩
    obtain ⟨g1, g2⟩ := upTo_eq (q := q) hD hq4 (by rw [i3]; exact hq) u4
    have e := Option.some.inj h
    refine ⟨by rw [← g1]; exact (congrArg Prod.snd e).symm, ?_⟩
    rw [← pr_fst e]
    show r5 = _
    rw [g2, DP_upto]
    refine wsum_cg _ (fun g hg => ?_)
    have lb : LB (butL w (fun w v => bly k0 w v K)) g N + bly k0 w (tg g w) K = lyr k0 g K := by
      rw [← lies_same (N := N) K (fun i hi => (tel_tw hT hN hK i hi).2)]
      have s1 : LB (fun u x => bly k0 u x K) g N = LB (fun u x => butL w (fun w v => bly k0 w v K) u x + (if u = w then bly k0 w x K else 0)) g N := LB_ext N (fun u _ => by
        unfold butL
        by_cases e : u = w
        · rw [if_pos e, if_pos e, e, Nat.zero_add]
        · rw [if_neg e, if_neg e, Nat.add_zero])
      rw [s1, LB_plus (a := butL w (fun w v => bly k0 w v K)) (b := fun u x => if u = w then bly k0 w x K else 0), LB_at (f := fun x => bly k0 w x K) N, if_pos hw]
    have ci := case_iff (g := g) hJ hF hN hN5
    have pb := PW_bit (wt := but w v (wtO (OF k0 d0) 0)) (ok := fun u x => if u = w then decide (x = v) else mayB k0 d0 u x) (g := g) (fun u x => by
      unfold but wtO mayB
      by_cases e : u = w
      · rw [if_pos e, if_pos e]
        by_cases f : x = v
        · rw [if_pos f, if_pos (decide_eq_true f)]
        · rw [if_neg f, if_neg (by rw [decide_eq_false f]; decide)]
      · rw [if_neg e, if_neg e]
        by_cases f : OF k0 d0 u x ≤ 0
        · rw [if_pos f, if_neg (by rw [decide_eq_false (fun n => n f)]; decide)]
        · rw [if_neg f, if_pos rfl, if_pos (decide_eq_true f)]) N
    show (if LB (butL w (fun w v => bly k0 w v K)) g N < q then PW (but w v (wtO (OF k0 d0) 0)) g N else 0) = _
    by_cases t : tg g w = v
    · rw [decide_eq_true t, Bool.true_and]
      rw [t] at lb
      have mv : mayB k0 d0 w v = true := decide_eq_true c
      by_cases a : prd k0 d0 0 g N = 0
      · have p0 : PW (but w v (wtO (OF k0 d0) 0)) g N = 0 := by
          refine pb.2 (Classical.byContradiction (fun n => ci.mpr (fun u hu => ?_) a))
          refine Classical.byContradiction (fun m => n ⟨u, hu, ?_⟩)
          have ne : ¬ u = w := fun e => m (by rw [e, t]; exact mv)
          show (if u = w then decide (tg g u = v) else mayB k0 d0 u (tg g u)) = false
          rw [if_neg ne]
          exact Bool.eq_false_iff.mpr m
        rw [p0, ite_self, if_neg]
        unfold fitB
        rw [decide_eq_false (fun n => n a), Bool.false_and]
        decide
      · have p1 : PW (but w v (wtO (OF k0 d0) 0)) g N = 1 := by
          refine pb.1 (fun u hu => ?_)
          show (if u = w then decide (tg g u = v) else mayB k0 d0 u (tg g u)) = true
          by_cases e : u = w
          · rw [if_pos e, e]
            exact decide_eq_true t
          · rw [if_neg e]
            exact ci.mp a u hu
        rw [p1]
        unfold fitB
        rw [decide_eq_true a, Bool.true_and]
        by_cases d : lyr k0 g K ≤ l
        · rw [if_pos (by omega), if_pos (decide_eq_true d)]
        · rw [if_neg (by omega), if_neg (by rw [decide_eq_false d]; decide)]
    · have p0 : PW (but w v (wtO (OF k0 d0) 0)) g N = 0 := by
        refine pb.2 ⟨w, hw, ?_⟩
        show (if w = w then decide (tg g w = v) else mayB k0 d0 w (tg g w)) = false
        rw [if_pos rfl]
        exact decide_eq_false t
      rw [p0, ite_self, decide_eq_false t, Bool.false_and, if_neg (by decide)]
/-- what stands of a told one that is so in none -/
noncomputable def LIE (k : KS) (C : Nat → Int32) (K l N i : Nat) : Prop := ∀ g, g < 6 ^ N → fitB k C K l g = true → sob k i (tg g (tw k i)) = false
theorem liars71 {k5 : KS → Int32 → Int32 → Int32 → Int32 → Option (Int32 × KS)} {out : Int32 × KS} {s : KS} {x1 x2 x4 x5 : Int32} {K w : Nat} (hK20 : K ≤ 20) (e1 : x1.toInt = (K : Int)) (e4 : x4.toInt = (w : Int)) (ht : ∀ i, i < K → 0 ≤ (s.f 42 i).toInt) : ∀ (n : Nat) (x3 x6 : Int32) (j : Nat), x6.toInt = (j : Int) → j ≤ K → kX8_liars_71L k5 n s x1 x2 x3 x4 x5 x6 = some out → ∃ y3, k5 s x1 x2 y3 (x4 + 1) = some out ∧ ∀ i, i < 32 → (btx y3 i = true ↔ (btx x3 i = true ∨ (j ≤ i ∧ i < K ∧ tw s i = w ∧ (s.f 43 i) &&& x5 = 0))) := by
  intro n
  induction n with
  | zero => intro x3 x6 j _ _ h; exact none_ne h
  | succ n ih =>
    intro x3 x6 j e6 hj h
    replace h : kX8_liars_71 k5 (kX8_liars_71L k5 n) s x1 x2 x3 x4 x5 x6 = some out := h
    unfold kX8_liars_71 at h
    by_cases c : x1 ≤ x6
    · have c' := tn_le e1 e6 c
      rw [if_pos c] at h
      refine ⟨x3, h, fun i hi => ⟨fun q => Or.inl q, fun q => ?_⟩⟩
      rcases q with q | q
      · exact q
      · omega
    · have c' := tn_nle e1 e6 c
      rw [if_neg c] at h
      have a6 : (x6 + 1).toInt = ((j + 1 : Nat) : Int) := by
        rw [tn_add e6 (by decide : (1 : Int32).toInt = 1) (by omega) (by omega)]
        omega
      replace h := guard_inv h
      obtain ⟨_, h⟩ := h
      rw [clamp_of_int e6] at h
      have skip : ¬ (tw s j = w ∧ (s.f 43 j) &&& x5 = 0) → kX8_liars_71L k5 n s x1 x2 (x3 ||| 0) x4 x5 (x6 + 1) = some out → ∃ y3, k5 s x1 x2 y3 (x4 + 1) = some out ∧ ∀ i, i < 32 → (btx y3 i = true ↔ (btx x3 i = true ∨ (j ≤ i ∧ i < K ∧ tw s i = w ∧ (s.f 43 i) &&& x5 = 0))) := by
        intro nq g
        rw [or_zero32] at g
        obtain ⟨y3, y1, y2⟩ := ih x3 (x6 + 1) (j + 1) a6 (by omega) g
        refine ⟨y3, y1, fun i hi => ?_⟩
        rw [y2 i hi]
        refine ⟨fun q => ?_, fun q => ?_⟩
        · rcases q with q | q
          · exact Or.inl q
          · exact Or.inr ⟨by omega, q.2⟩
        · rcases q with q | q
          · exact Or.inl q
          · by_cases e : i = j
            · rw [e] at q
              exact absurd q.2.2 nq
            · exact Or.inr ⟨by omega, q.2⟩
      by_cases d : s.f 42 j = x4
      · have dw : tw s j = w := by
          unfold tw
          rw [d]
          omega
        rw [if_pos d] at h
        replace h := guard_inv h
        obtain ⟨_, h⟩ := h
        by_cases f : (s.f 43 j) &&& x5 = 0
        · rw [if_pos f] at h
          unfold kX8_liars_111 at h
          obtain ⟨y3, y1, y2⟩ := ih _ (x6 + 1) (j + 1) a6 (by omega) h
          refine ⟨y3, y1, fun i hi => ?_⟩
          rw [y2 i hi, bt_or, Bool.or_eq_true]
          have o := bt_one j (by omega) i hi
          rw [← eq_ofnat e6] at o
          have o : btx ((1 : Int32) <<< (x6 &&& 31)) i = true ↔ i = j := o
          rw [o]
          refine ⟨fun q => ?_, fun q => ?_⟩
          · rcases q with (q | q) | q
            · exact Or.inl q
            · rw [q]
              exact Or.inr ⟨Nat.le_refl _, by omega, dw, f⟩
            · exact Or.inr ⟨by omega, q.2⟩
          · rcases q with q | q
            · exact Or.inl (Or.inl q)
            · by_cases e : i = j
              · exact Or.inl (Or.inr e)
              · exact Or.inr ⟨by omega, q.2⟩
        · rw [if_neg f] at h
          unfold kX8_liars_110 kX8_liars_111 at h
          exact skip (fun q => f q.2) h
      · rw [if_neg d] at h
        unfold kX8_liars_110 kX8_liars_111 at h
        have dw : ¬ tw s j = w := by
          intro q
          have p := ht j (by omega)
          refine d (Int32.toInt_inj.mp ?_)
          unfold tw at q
          omega
        exact skip (fun q => dw q.1) h
theorem liars30 {k5 : KS → Int32 → Int32 → Int32 → Int32 → Option (Int32 × KS)} {out : Int32 × KS} {s k0 : KS} {d0 : SD} {z : RS} {x1 x2 x3 x4 : Int32} {N K l w : Nat} (hJ : JR (JS.mk k0 d0) z) (hF : FO k0 d0) (hT : TEL k0 z) (hN : (k0.v 1).toInt = (N : Int)) (hN5 : N ≤ 5) (hK : (K : Int) ≤ (k0.v 21).toInt) (hB : BEL s (OF k0 d0) (fun w v => bly k0 w v K) N) (hK20 : K ≤ 20) (e4 : x4.toInt = (w : Int)) (hw : w < N) (e2 : x2.toInt = (l : Int)) (hl : l ≤ 3) (hD : ∀ v, v < 6 → ∀ u, u < 4 → s.f 46 u = DP (but w v (wtO (OF k0 d0) 0)) (butL w (fun w v => bly k0 w v K)) N u) : ∀ (n : Nat) (x5 x6 : Int32) (j : Nat), x6.toInt = (j : Int) → j ≤ 6 → (0 ≤ x5.toInt ∧ x5.toInt ≤ 63 ∧ ∀ v, v < 6 → ((x5 >>> ((Int32.ofNat v) &&& 31)) &&& 1 = 1 ↔ (v < j ∧ ∃ g, g < 6 ^ N ∧ tg g w = v ∧ fitB k0 (fun g => prd k0 d0 0 g N) K l g = true))) → kX8_liars_30L k5 n s x1 x2 x3 x4 x5 x6 = some out → ∃ y5, kX8_liars_71L k5 fu s x1 x2 x3 x4 y5 0 = some out ∧ 0 ≤ y5.toInt ∧ y5.toInt ≤ 63 ∧ ∀ v, v < 6 → ((y5 >>> ((Int32.ofNat v) &&& 31)) &&& 1 = 1 ↔ ∃ g, g < 6 ^ N ∧ tg g w = v ∧ fitB k0 (fun g => prd k0 d0 0 g N) K l g = true) := by
  have pl := pow_le N hN5
  intro n
  induction n with
  | zero => intro x5 x6 j _ _ _ h; exact none_ne h
  | succ n ih =>
    intro x5 x6 j e6 hj h5 h
    replace h : kX8_liars_30 k5 (kX8_liars_30L k5 n) s x1 x2 x3 x4 x5 x6 = some out := h
    unfold kX8_liars_30 at h
    by_cases c : 6 ≤ x6
    · have c' := tn_le (a := 6) (by decide) e6 c
      rw [if_pos c] at h
      refine ⟨x5, h, h5.1, h5.2.1, fun v hv => ?_⟩
      rw [h5.2.2 v hv]
      exact ⟨fun q => q.2, fun q => ⟨by omega, q⟩⟩
    · have c' := tn_nle (a := 6) (by decide) e6 c
      rw [if_neg c] at h
      replace h := bindI_inv h
      obtain ⟨r3, s2, u2, h⟩ := h
      obtain ⟨es, er⟩ := fw_eq hJ hF hT hN hN5 hK hB hK20 e4 hw e6 (by omega) e2 hl (hD j (by omega)) u2
      rw [es] at h
      obtain ⟨ct, c1, c2, c3⟩ := cnt (P := fun g => decide (tg g w = j) && fitB k0 (fun g => prd k0 d0 0 g N) K l g) (6 ^ N) pl
      have c1 : r3.toInt = (ct : Int) := by rw [er]; exact c1
      have a6 : (x6 + 1).toInt = ((j + 1 : Nat) : Int) := by
        rw [tn_add e6 (by decide : (1 : Int32).toInt = 1) (by omega) (by omega)]
        omega
      have ex : (0 < ct) ↔ ∃ g, g < 6 ^ N ∧ tg g w = j ∧ fitB k0 (fun g => prd k0 d0 0 g N) K l g = true := by
        rw [c3]
        refine ⟨fun ⟨g, g1, g2⟩ => ?_, fun ⟨g, g1, g2, g3⟩ => ⟨g, g1, ?_⟩⟩
        · rw [Bool.and_eq_true] at g2
          exact ⟨g, g1, of_decide_eq_true g2.1, g2.2⟩
        · show (decide (tg g w = j) && _) = true
          rw [decide_eq_true g2, Bool.true_and]
          exact g3
      obtain ⟨a, ea⟩ : ∃ a : Nat, x5.toInt = (a : Int) := ⟨x5.toInt.toNat, by omega⟩
      have ob := or_bit a (by omega) j (by omega)
      rw [← eq_ofnat ea, ← eq_ofnat e6] at ob
      by_cases d : r3 ≤ 0
      · have d' := tn_le c1 (by decide : (0 : Int32).toInt = 0) d
        rw [if_pos d] at h
        unfold kX8_liars_59 at h
        rw [or_zero32] at h
        refine ih x5 (x6 + 1) (j + 1) a6 (by omega) ⟨h5.1, h5.2.1, fun v hv => ?_⟩ h
        rw [h5.2.2 v hv]
        refine ⟨fun q => ⟨by omega, q.2⟩, fun q => ⟨?_, q.2⟩⟩
        by_cases e : v = j
        · have := ex.mpr (by rw [← e]; exact q.2)
          omega
        · omega
      · have d' := tn_nle c1 (by decide : (0 : Int32).toInt = 0) d
        rw [if_neg d] at h
        unfold kX8_liars_59 at h
        have o1 := one_shl j (by omega)
        rw [← eq_ofnat e6] at o1
        have os := or_small (x := x5) (y := (1 : Int32) <<< (x6 &&& 31)) h5.1 h5.2.1 o1.1 o1.2
        refine ih _ (x6 + 1) (j + 1) a6 (by omega) ⟨os.1, os.2, fun v hv => ?_⟩ h
        rw [ob v hv, h5.2.2 v hv]
        refine ⟨fun q => ?_, fun q => ?_⟩
        · rcases q with q | q
          · exact ⟨by omega, q.2⟩
          · rw [q]
            exact ⟨by omega, ex.mp (by omega)⟩
        · by_cases e : v = j
          · exact Or.inr e
          · exact Or.inl ⟨by omega, q.2⟩
theorem k_lie {s s' k0 : KS} {d0 : SD} {z : RS} {x1 x2 r : Int32} {N K l : Nat} (hJ : JR (JS.mk k0 d0) z) (hF : FO k0 d0) (hT : TEL k0 z) (hN : (k0.v 1).toInt = (N : Int)) (hN5 : N ≤ 5) (hK : (K : Int) ≤ (k0.v 21).toInt) (hB : BEL s (OF k0 d0) (fun w v => bly k0 w v K) N) (hK20 : K ≤ 20) (hFr : FrK [144, 145, 146] k0 s) (e1 : x1.toInt = (K : Int)) (e2 : x2.toInt = (l : Int)) (hl : l ≤ 3) (h : kX8_liars s x1 x2 = some (r, s')) : ∀ i, i < 32 → (btx r i = true ↔ (i < K ∧ LIE k0 (fun g => prd k0 d0 0 g N) K l N i)) := by
  unfold kX8_liars at h
  have go : ∀ (n : Nat) (t : KS) (x3 x4 : Int32) (m : Nat), x4.toInt = (m : Int) → m ≤ N → FrK [144, 145, 146] k0 t → BEL t (OF k0 d0) (fun w v => bly k0 w v K) N → (∀ i, i < 32 → (btx x3 i = true ↔ (i < K ∧ tw k0 i < m ∧ LIE k0 (fun g => prd k0 d0 0 g N) K l N i))) → kX8_liars_5L n t x1 x2 x3 x4 = some (r, s') → ∀ i, i < 32 → (btx r i = true ↔ (i < K ∧ LIE k0 (fun g => prd k0 d0 0 g N) K l N i)) := by
    intro n
    induction n with
    | zero => intro t x3 x4 m _ _ _ _ _ h; exact none_ne h
    | succ n ih =>
      intro t x3 x4 m e4 hm hFt hBt h3 h
      replace h : kX8_liars_5 (kX8_liars_5L n) t x1 x2 x3 x4 = some (r, s') := h
      unfold kX8_liars_5 at h
      have tN : (t.v 1).toInt = (N : Int) := by rw [hFt.1 1 (by decide)]; exact hN
      by_cases c : t.v 1 ≤ x4
      · have c' := tn_le tN e4 c
        rw [if_pos c] at h
        intro i hi
        rw [← fst_som h, h3 i hi]
        refine ⟨fun q => ⟨q.1, q.2.2⟩, fun q => ⟨q.1, ?_, q.2⟩⟩
        have := (tel_tw hT hN hK i q.1).2
        omega
      · have c' := tn_nle tN e4 c
        have hmN : m < N := by omega
        rw [if_neg c] at h
        replace h := bindP_inv h
        obtain ⟨s2, u2, h⟩ := h
        have bw : ∀ w, w < N → (w = m ↔ x4 = Int32.ofNat w) := by
          intro w hw
          refine ⟨fun q => by rw [q]; exact eq_ofnat e4, fun q => ?_⟩
          have e := ofnat_int (n := w) (by omega)
          rw [← q] at e
          omega
        have srt : ∀ v, v < 6 → FrK [146] t s2 ∧ ∀ u, u < 4 → s2.f 46 u = DP (but m v (wtO (OF k0 d0) 0)) (butL m (fun w v => bly k0 w v K)) N u := fun v hv => sort_eq tN hN5 hv bw hBt u2
        have F2 := (srt 0 (by omega)).1
        have B2 : BEL s2 (OF k0 d0) (fun w v => bly k0 w v K) N := fun w hw v hv => by
          rw [(F2.2 44 (by decide)).1, (F2.2 45 (by decide)).1]
          exact hBt w hw v hv
        have F20 : FrK [144, 145, 146] k0 s2 := hFt.trans F2 (by decide)
        have f42 : s2.f 42 = k0.f 42 := (F20.2 42 (by decide)).1
        have f43 : s2.f 43 = k0.f 43 := (F20.2 43 (by decide)).1
        obtain ⟨y5, y1, y2, y3, y4⟩ := liars30 hJ hF hT hN hN5 hK B2 hK20 e4 hmN e2 hl (fun v hv => (srt v hv).2) fu 0 0 0 (by decide) (Nat.zero_le _) ⟨by decide, by decide, fun v hv => ⟨fun q => by
          have zz : ∀ v, v < 6 → ¬ (((0 : Int32) >>> ((Int32.ofNat v) &&& 31)) &&& 1 = 1) := by decide +kernel
          exact absurd q (zz v hv), fun q => by omega⟩⟩ h
        obtain ⟨w3, w1, w2⟩ := liars71 hK20 e1 e4 (fun i hi => by rw [f42]; exact (tel_tw hT hN hK i hi).1) fu x3 0 0 (by decide) (Nat.zero_le _) y1
        have a4 : (x4 + 1).toInt = ((m + 1 : Nat) : Int) := by
          rw [tn_add e4 (by decide : (1 : Int32).toInt = 1) (by omega) (by omega)]
          omega
        refine ih s2 w3 (x4 + 1) (m + 1) a4 (by omega) F20 B2 (fun i hi => ?_) w1
        rw [w2 i hi, h3 i hi]
        have tws : tw s2 i = tw k0 i := by unfold tw; rw [f42]
        rw [tws, f43]
        have lie : i < K → tw k0 i = m → ((k0.f 43 i) &&& y5 = 0 ↔ LIE k0 (fun g => prd k0 d0 0 g N) K l N i) := by
          intro iK im
          obtain ⟨r1, r2⟩ := tel_rng hT (i := i) (by omega)
          obtain ⟨a, ea⟩ : ∃ a : Nat, (k0.f 43 i).toInt = (a : Int) := ⟨(k0.f 43 i).toInt.toNat, by omega⟩
          obtain ⟨b, eb⟩ : ∃ b : Nat, y5.toInt = (b : Int) := ⟨y5.toInt.toNat, by omega⟩
          have an := and_none a (by omega) b (by omega)
          rw [← eq_ofnat ea, ← eq_ofnat eb] at an
          rw [an]
          refine ⟨fun q g hg hf => ?_, fun q v hv b1 b2 => ?_⟩
          · rw [im]
            refine decide_eq_false (fun b1 => ?_)
            exact q (tg g m) (tg_lt g m) b1 ((y4 (tg g m) (tg_lt g m)).mpr ⟨g, hg, rfl, hf⟩)
          · obtain ⟨g, g1, g2, g3⟩ := (y4 v hv).mp b2
            have l := q g g1 g3
            rw [im, g2] at l
            exact of_decide_eq_false l b1
        refine ⟨fun q => ?_, fun q => ?_⟩
        · rcases q with q | q
          · exact ⟨q.1, by omega, q.2.2⟩
          · exact ⟨q.2.1, by omega, (lie q.2.1 q.2.2.1).mp q.2.2.2⟩
        · by_cases e : tw k0 i = m
          · exact Or.inr ⟨Nat.zero_le _, q.1, e, (lie q.1 e).mpr q.2.2⟩
          · exact Or.inl ⟨q.1, by omega, q.2.2⟩
  exact go fu s 0 0 0 (by decide) (Nat.zero_le _) hFr hB (fun i hi => by
    rw [bt_zero]
    exact ⟨fun q => absurd q (by decide), fun q => by omega⟩) h
theorem r_lie50 {k : KS} {z z' : RS} {k24 : RS → Int32 → Int32 → Int32 → Int32 → Option (Int32 × RS)} {r x1 x2 x4 : Int32} {N K g : Nat} (hT : TEL k z) (hN : (k.v 1).toInt = (N : Int)) (hN5 : N ≤ 5) (hK : (K : Int) ≤ (k.v 21).toInt) (hK2 : K ≤ 20) (h6 : ∀ j, j < 6 → z.f 46 j = six6 j) (e1 : x1.toInt = (K : Int)) (e4 : x4.toInt = (g : Int)) : ∀ (n : Nat) (x3 x5 : Int32) (j : Nat), x5.toInt = (j : Int) → j ≤ K → r_lie_50L k24 n z x1 x2 x3 x4 x5 = some (r, z') → ∃ y3, k24 z x1 x2 y3 (x4 + 1) = some (r, z') ∧ ∀ i, i < 32 → (btx y3 i = true ↔ (btx x3 i = true ∧ ¬ (j ≤ i ∧ i < K ∧ sob k i (tg g (tw k i)) = true))) := by
  intro n
  induction n with
  | zero => intro x3 x5 j _ _ h; exact none_ne h
  | succ n ih =>
    intro x3 x5 j e5 hj h
    replace h : r_lie_50 k24 (r_lie_50L k24 n) z x1 x2 x3 x4 x5 = some (r, z') := h
    unfold r_lie_50 at h
    by_cases c : x1 ≤ x5
    · have c' := tn_le e1 e5 c
      rw [if_pos c] at h
      unfold r_lie_82 at h
      exact ⟨x3, h, fun i hi => ⟨fun q => ⟨q, fun n => by omega⟩, fun q => q.1⟩⟩
    · have c' := tn_nle e1 e5 c
      rw [if_neg c] at h
      replace h := bindI_inv h
      obtain ⟨r3, z2, h2, h⟩ := h
      obtain ⟨ez, er⟩ := r_isSo_eq hT hN hN5 hK h6 e4 e5 (by omega) h2
      rw [ez] at h
      have a5 : (x5 + 1).toInt = ((j + 1 : Nat) : Int) := by
        rw [tn_add e5 (by decide : (1 : Int32).toInt = 1) (by omega) (by omega)]
        omega
      by_cases d : sob k j (tg g (tw k j)) = true
      · rw [if_pos d] at er
        rw [er, if_neg z_one] at h
        unfold r_lie_76 at h
        obtain ⟨y3, y1, y2⟩ := ih _ (x5 + 1) (j + 1) a5 (by omega) h
        refine ⟨y3, y1, fun i hi => ?_⟩
        rw [y2 i hi, bt_andn hi, Bool.and_eq_true]
        have o := bt_one j (by omega) i hi
        rw [← eq_ofnat e5] at o
        have o : btx ((1 : Int32) <<< (x5 &&& 31)) i = true ↔ i = j := o
        refine ⟨fun q => ⟨q.1.1, fun n => ?_⟩, fun q => ⟨⟨q.1, ?_⟩, fun n => q.2 ⟨by omega, n.2⟩⟩⟩
        · by_cases e : i = j
          · have b := o.mpr e
            have nb := q.1.2
            rw [b] at nb
            exact absurd nb (by decide)
          · exact q.2 ⟨by omega, n.2⟩
        · by_cases e : i = j
          · exact absurd ⟨by omega, by omega, by rw [e]; exact d⟩ q.2
          · have b : btx ((1 : Int32) <<< (x5 &&& 31)) i = false := Bool.eq_false_iff.mpr (fun n => e (o.mp n))
            rw [b]
            rfl
      · rw [if_neg d] at er
        rw [er, if_pos rfl] at h
        unfold r_lie_76 at h
        obtain ⟨y3, y1, y2⟩ := ih _ (x5 + 1) (j + 1) a5 (by omega) h
        refine ⟨y3, y1, fun i hi => ?_⟩
        rw [y2 i hi]
        refine ⟨fun q => ⟨q.1, fun n => ?_⟩, fun q => ⟨q.1, fun n => q.2 ⟨by omega, n.2⟩⟩⟩
        by_cases e : i = j
        · rw [e] at n
          exact d n.2.2
        · exact q.2 ⟨by omega, n.2⟩
theorem r_lieL {k : KS} {z z' : RS} {x1 x2 r : Int32} {C : Nat → Int32} {N K l : Nat} (hT : TEL k z) (hN : (k.v 1).toInt = (N : Int)) (hN5 : N ≤ 5) (hK : (K : Int) ≤ (k.v 21).toInt) (hK2 : K ≤ 20) (h6 : ∀ j, j < 6 → z.f 46 j = six6 j) (hz : (z.f 20 (z.v 18).toNatClampNeg).toInt = (N : Int)) (hC : ∀ g, g < 6 ^ N → z.f 50 g = C g) (e1 : x1.toInt = (K : Int)) (e2 : x2.toInt = (l : Int)) : ∀ (n : Nat) (x3 x4 : Int32) (j : Nat), x4.toInt = (j : Int) → j ≤ 6 ^ N → (∀ i, i < 32 → (btx x3 i = true ↔ (i < K ∧ ∀ g, g < j → fitB k C K l g = true → sob k i (tg g (tw k i)) = false))) → r_lie_24L n z x1 x2 x3 x4 = some (r, z') → ∀ i, i < 32 → (btx r i = true ↔ (i < K ∧ LIE k C K l N i)) := by
  have pl := pow_le N hN5
  intro n
  induction n with
  | zero => intro x3 x4 j _ _ _ h; exact none_ne h
  | succ n ih =>
    intro x3 x4 j e4 hj h3 h
    replace h : r_lie_24 (r_lie_24L n) z x1 x2 x3 x4 = some (r, z') := h
    unfold r_lie_24 at h
    replace h := bindI_inv h
    obtain ⟨q, z1, h1, h⟩ := h
    obtain ⟨ez, eq⟩ := r_guessN h6 hN5 hz h1
    rw [ez] at h
    by_cases c : q ≤ x4
    · have c' := tn_le eq e4 c
      rw [if_pos c] at h
      have ej : j = 6 ^ N := by omega
      rw [← fst_som h]
      rw [ej] at h3
      exact h3
    · have c' := tn_nle eq e4 c
      rw [if_neg c] at h
      replace h := bindI_inv h
      obtain ⟨r5, z4, h5, h⟩ := h
      obtain ⟨ez4, e6⟩ := r_doesFit_eq hT hN hN5 hK hK2 h6 hC e4 (by omega) e1 e2 h5
      rw [ez4] at h
      have a4 : (x4 + 1).toInt = ((j + 1 : Nat) : Int) := by
        rw [tn_add e4 (by decide : (1 : Int32).toInt = 1) (by omega) (by omega)]
        omega
      by_cases d : fitB k C K l j = true
      · rw [if_pos d] at e6
        rw [e6, if_neg z_one] at h
        obtain ⟨y3, y1, y2⟩ := r_lie50 hT hN hN5 hK hK2 h6 e1 e4 fu x3 0 0 (by decide) (Nat.zero_le _) h
        refine ih y3 (x4 + 1) (j + 1) a4 (by omega) (fun i hi => ?_) y1
        rw [y2 i hi, h3 i hi]
        refine ⟨fun q => ⟨q.1.1, fun g hg hf => ?_⟩, fun q => ⟨⟨q.1, fun g hg hf => q.2 g (by omega) hf⟩, fun n => ?_⟩⟩
        · by_cases e : g = j
          · rw [e]
            exact Bool.eq_false_iff.mpr (fun n => q.2 ⟨Nat.zero_le _, q.1.1, n⟩)
          · exact q.1.2 g (by omega) hf
        · have := q.2 j (by omega) d
          rw [n.2.2] at this
          exact absurd this (by decide)
      · rw [if_neg d] at e6
        rw [e6, if_pos rfl] at h
        unfold r_lie_82 at h
        refine ih x3 (x4 + 1) (j + 1) a4 (by omega) (fun i hi => ?_) h
        rw [h3 i hi]
        refine ⟨fun q => ⟨q.1, fun g hg hf => ?_⟩, fun q => ⟨q.1, fun g hg hf => q.2 g (by omega) hf⟩⟩
        by_cases e : g = j
        · rw [e] at hf
          exact absurd hf d
        · exact q.2 g (by omega) hf
theorem lie_same {y : YS} {x' : XS} {z z' : RS} {x1 x2 r1 r2 : Int32} (hP : TPk y.x.k z) (h : REL y z) (hK : InvK y.x.k) (hI : InvR z) (hB : Big z) (h1 : kX10_lie y.x x1 x2 = some (r1, x')) (h2 : r_lie z x1 x2 = some (r2, z')) : r1 = r2 ∧ True := by
  refine ⟨?_, trivial⟩
  have e21 : y.x.k.v 21 = z.v 51 := hP.2.2.2.2.1
  unfold kX10_lie at h1
  unfold r_lie at h2
  rw [k_such, bindI_some] at h1
  rw [r_asked, ← e21, bindI_some] at h2
  replace h1 := letS_inv h1
  obtain ⟨s3, c3, h1⟩ := h1
  have e3 : s3 = y.x := by rw [← c3]; rfl
  rw [e3] at h1
  by_cases c : 0 ≤ x1.toInt ∧ x1.toInt ≤ (y.x.k.v 21).toInt ∧ 0 ≤ x2.toInt ∧ x2.toInt ≤ 3
  · rw [if_pos c, if_neg z_one] at h1 h2
    obtain ⟨K, l, k1, k2, k3, k4, k5⟩ := told_begin hP hK c
    replace h2 := bindP_inv h2
    obtain ⟨z6, w6, h2⟩ := h2
    obtain ⟨hJ, G, N, hN, hN5, hz, hC⟩ := r_fills h hK hI hB w6
    have hT : TEL y.x.k z6 := h.2.2.2.2.f50 G
    replace h1 := bindP_inv h1
    obtain ⟨s8, w8, h1⟩ := h1
    replace h1 := letS_inv h1
    obtain ⟨s9, c9, h1⟩ := h1
    obtain ⟨b1, b2, b3⟩ := believe_eq (s := JS.mk y.x.k y.x.n) hN hN5 k1 k4 (fun i hi => (tel_tw hT hN k5 i hi).1) w8
    have e9 : s9.k = s8.k := by rw [← c9]; rfl
    replace h1 := bindI_inv h1
    obtain ⟨q10, s10, u10, h1⟩ := h1
    replace h1 := letS_inv h1
    obtain ⟨s11, _, h1⟩ := h1
    rw [e9] at u10
    have F : FrK [144, 145, 146] y.x.k s8.k := (FrK.rfl (W := [144, 145, 146])).trans b2 (by decide)
    have kl := k_lie (k0 := y.x.k) (d0 := y.x.n) hJ h.2.1.2 hT hN hN5 k5 b3 k4 F k1 k2 k3 u10
    have rl := r_lieL (C := fun g => prd y.x.k y.x.n 0 g N) hT hN hN5 k5 k4 hJ.1.2.1 hz hC k1 k2 fu _ 0 0 (by decide) (Nat.zero_le _) (fun i hi => by
      have m := bt_mask K (by omega) i hi
      rw [← eq_ofnat k1] at m
      have m : btx (((1 : Int32) <<< (x1 &&& 31)) - 1) i = true ↔ i < K := m
      rw [m]
      exact ⟨fun q => ⟨q, fun g hg => by omega⟩, fun q => q.1⟩) h2
    rw [← fst_som h1]
    exact bt_iff (fun i hi => (kl i hi).trans (rl i hi).symm)
  · rw [if_neg c, if_pos rfl] at h1 h2
    have f1 : -1 = r1 := congrArg Prod.fst (Option.some.inj h1)
    have f2 : -1 = r2 := congrArg Prod.fst (Option.some.inj h2)
    rw [← f1, ← f2]
end
section
/-! ===== ask ===== -/
noncomputable def mxI (F : Nat → Int32) : Nat → Int
  | 0 => 0
  | n + 1 => max (mxI F n) (F n).toInt
theorem mxI_cg {F H : Nat → Int32} : ∀ n, (∀ v, v < n → F v = H v) → mxI F n = mxI H n := by
  intro n
  induction n with
  | zero => intro _; rfl
  | succ n ih =>
    intro h
    show max (mxI F n) (F n).toInt = max (mxI H n) (H n).toInt
    rw [ih (fun v hv => h v (by omega)), h n (by omega)]
theorem mxI_ge {F : Nat → Int32} {v : Nat} : ∀ n, v < n → (F v).toInt ≤ mxI F n := by
  intro n
  induction n with
  | zero => intro h; omega
  | succ n ih =>
    intro h
    show (F v).toInt ≤ max (mxI F n) (F n).toInt
    by_cases e : v = n
    · rw [e]; omega
    · have := ih (by omega)
      omega
theorem mxI_zero {F : Nat → Int32} : ∀ n, (∀ v, v < n → (F v).toInt ≤ 0) → mxI F n = 0 := by
  intro n
  induction n with
  | zero => intro _; rfl
  | succ n ih =>
    intro h
    show max (mxI F n) (F n).toInt = 0
    have a := ih (fun v hv => h v (by omega))
    have b := h n (by omega)
    omega
/-- the class: how many are left of a wave at worst -/
theorem ask33 {k8 : KS → Int32 → Int32 → Int32 → Int32 → Option (Int32 × KS)} {out : Int32 × KS} {s k0 : KS} {d0 : SD} {z : RS} {x1 x2 x3 x4 : Int32} {N K l w : Nat} (hJ : JR (JS.mk k0 d0) z) (hF : FO k0 d0) (hT : TEL k0 z) (hN : (k0.v 1).toInt = (N : Int)) (hN5 : N ≤ 5) (hK : (K : Int) ≤ (k0.v 21).toInt) (hB : BEL s (OF k0 d0) (fun w v => bly k0 w v K) N) (hK20 : K ≤ 20) (e4 : x4.toInt = (w : Int)) (hw : w < N) (e1 : x1.toInt = (l : Int)) (hl : l ≤ 3) (hD : ∀ v, v < 6 → ∀ u, u < 4 → s.f 46 u = DP (but w v (wtO (OF k0 d0) 0)) (butL w (fun w v => bly k0 w v K)) N u) : ∀ (n : Nat) (x5 x6 : Int32) (j : Nat), x6.toInt = (j : Int) → j ≤ 6 → x5.toInt = mxI (CTw k0 (fun g => prd k0 d0 0 g N) K l N w) j → kX8_waveToAsk_33L k8 n s x1 x2 x3 x4 x5 x6 = some out → ∃ y5 : Int32, y5.toInt = mxI (CTw k0 (fun g => prd k0 d0 0 g N) K l N w) 6 ∧ (if y5 ≤ 0 then k8 s x1 x2 x3 (x4 + 1) else (if x2 = (-2) then k8 s x1 x4 y5 (x4 + 1) else (if x3 ≤ y5 then k8 s x1 x2 x3 (x4 + 1) else k8 s x1 x4 y5 (x4 + 1)))) = some out := by
  intro n
  induction n with
  | zero => intro x5 x6 j _ _ _ h; exact none_ne h
  | succ n ih =>
    intro x5 x6 j e6 hj h5 h
    replace h : kX8_waveToAsk_33 k8 (kX8_waveToAsk_33L k8 n) s x1 x2 x3 x4 x5 x6 = some out := h
    unfold kX8_waveToAsk_33 at h
    by_cases c : 6 ≤ x6
    · have c' := tn_le (a := 6) (by decide) e6 c
      rw [if_pos c] at h
      have ej : j = 6 := by omega
      rw [ej] at h5
      exact ⟨x5, h5, h⟩
    · have c' := tn_nle (a := 6) (by decide) e6 c
      rw [if_neg c] at h
      replace h := bindI_inv h
      obtain ⟨r6, s5, u5, h⟩ := h
      obtain ⟨es, er⟩ := fw_eq hJ hF hT hN hN5 hK hB hK20 e4 hw e6 (by omega) e1 hl (hD j (by omega)) u5
      rw [es] at h
      have a6 : (x6 + 1).toInt = ((j + 1 : Nat) : Int) := by
        rw [tn_add e6 (by decide : (1 : Int32).toInt = 1) (by omega) (by omega)]
        omega
      refine ih (mmax x5 r6) (x6 + 1) (j + 1) a6 (by omega) ?_ h
      rw [mmax_int, h5, er]
      rfl
/-- the reference: as many at worst -/
theorem r_worst {z z' : RS} {x1 r : Int32} {F : Nat → Int32} {w : Nat} (e1 : x1.toInt = (w : Int)) (hw : w < 5) (hF : ∀ v, v < 6 → z.f 55 (6 * w + v) = F v) (h : r_worstAt z x1 = some (r, z')) : z' = z ∧ r.toInt = mxI F 6 := by
  unfold r_worstAt at h
  have go : ∀ (n : Nat) (x2 x3 : Int32) (j : Nat), x3.toInt = (j : Int) → j ≤ 6 → x2.toInt = mxI F j → r_worstAt_4L n z x1 x2 x3 = some (r, z') → z' = z ∧ r.toInt = mxI F 6 := by
    intro n
    induction n with
    | zero => intro x2 x3 j _ _ _ h; exact none_ne h
    | succ n ih =>
      intro x2 x3 j e3 hj e2 h
      replace h : r_worstAt_4 (r_worstAt_4L n) z x1 x2 x3 = some (r, z') := h
      unfold r_worstAt_4 at h
      by_cases c : 6 ≤ x3
      · have c' := tn_le (a := 6) (by decide) e3 c
        rw [if_pos c] at h
        have e := Option.some.inj h
        have ej : j = 6 := by omega
        refine ⟨(congrArg Prod.snd e).symm, ?_⟩
        rw [← pr_fst e, ← ej]
        exact e2
      · have c' := tn_nle (a := 6) (by decide) e3 c
        rw [if_neg c] at h
        have m1 : (6 * x1).toInt = x1.toInt * 6 := ti_cmul (c := 6) (by decide) (by omega) (by omega)
        have at30 : ((6 * x1) + x3).toInt = ((6 * w + j : Nat) : Int) := by
          rw [ti_add (by omega) (by omega)]
          omega
        have a3 : (x3 + 1).toInt = ((j + 1 : Nat) : Int) := by
          rw [tn_add e3 (by decide : (1 : Int32).toInt = 1) (by omega) (by omega)]
          omega
        have st : mxI F (j + 1) = max (mxI F j) (F j).toInt := rfl
        replace h := guard_inv h
        obtain ⟨_, h⟩ := h
        rw [clamp_of_int at30, hF j (by omega)] at h
        by_cases d : F j ≤ x2
        · have d' := ti_le d
          rw [if_pos d] at h
          unfold r_worstAt_37 at h
          refine ih x2 (x3 + 1) (j + 1) a3 (by omega) ?_ h
          rw [st]
          omega
        · have d' := ti_nle d
          rw [if_neg d] at h
          replace h := guard_inv h
          obtain ⟨_, h⟩ := h
          unfold r_worstAt_37 at h
          refine ih (F j) (x3 + 1) (j + 1) a3 (by omega) ?_ h
          rw [st]
          omega
  exact go fu 0 0 0 (by decide) (Nat.zero_le _) (by show (0 : Int32).toInt = 0; decide) h
/-- both look for the wave of least worst -/
theorem askL {k0 : KS} {d0 : SD} {z : RS} {x1 xn r1 r2 : Int32} {s' : KS} {z' : RS} {N K l : Nat} (hJ : JR (JS.mk k0 d0) z) (hF : FO k0 d0) (hT : TEL k0 z) (hN : (k0.v 1).toInt = (N : Int)) (hN5 : N ≤ 5) (hz : (z.f 20 (z.v 18).toNatClampNeg).toInt = (N : Int)) (hK : (K : Int) ≤ (k0.v 21).toInt) (hK20 : K ≤ 20) (e1 : x1.toInt = (l : Int)) (hl : l ≤ 3) (hC : ∀ w, w < N → ∀ v, v < 6 → z.f 55 (6 * w + v) = CTw k0 (fun g => prd k0 d0 0 g N) K l N w v) (hn : ∀ w, w < N → (xn.toInt ≤ 0 ↔ mxI (CTw k0 (fun g => prd k0 d0 0 g N) K l N w) 6 ≤ 0)) : ∀ (n m : Nat) (t : KS) (x2 x3 x4 : Int32) (u : Nat), x4.toInt = (u : Int) → u ≤ N → FrK [144, 145, 146] k0 t → BEL t (OF k0 d0) (fun w v => bly k0 w v K) N → ((x2 = -2) ∨ (∃ b, b < N ∧ x2 = Int32.ofNat b ∧ x3.toInt = mxI (CTw k0 (fun g => prd k0 d0 0 g N) K l N b) 6 ∧ 0 < xn.toInt)) → kX8_waveToAsk_8L n t x1 x2 x3 x4 = some (r1, s') → r_ask_126L m z xn x2 x4 = some (r2, z') → r1 = r2 := by
  have z0 : (0 : Int32).toInt = 0 := by decide
  intro n
  induction n with
  | zero => intro m t x2 x3 x4 u _ _ _ _ _ h; exact none_ne h
  | succ n ih =>
    intro m t x2 x3 x4 u e4 hu hFt hBt h2 h1 h3
    cases m with
    | zero => exact none_ne h3
    | succ m =>
    replace h1 : kX8_waveToAsk_8 (kX8_waveToAsk_8L n) t x1 x2 x3 x4 = some (r1, s') := h1
    replace h3 : r_ask_126 (r_ask_126L m) z xn x2 x4 = some (r2, z') := h3
    unfold kX8_waveToAsk_8 at h1
    unfold r_ask_126 at h3
    replace h3 := guard_inv h3
    obtain ⟨_, h3⟩ := h3
    have tN : (t.v 1).toInt = (N : Int) := by rw [hFt.1 1 (by decide)]; exact hN
    by_cases c : t.v 1 ≤ x4
    · have c' := tn_le tN e4 c
      rw [if_pos c] at h1
      rw [if_pos (Int32.le_iff_toInt_le.mpr (by omega))] at h3
      rw [← fst_som h1, ← fst_som h3]
    · have c' := tn_nle tN e4 c
      have huN : u < N := by omega
      rw [if_neg c] at h1
      rw [if_neg (fun q => by have := ti_le q; omega)] at h3
      replace h1 := bindP_inv h1
      obtain ⟨s2, u2, h1⟩ := h1
      have bw : ∀ w, w < N → (w = u ↔ x4 = Int32.ofNat w) := by
        intro w hw
        refine ⟨fun q => by rw [q]; exact eq_ofnat e4, fun q => ?_⟩
        have e := ofnat_int (n := w) (by omega)
        rw [← q] at e
        omega
      have srt : ∀ v, v < 6 → FrK [146] t s2 ∧ ∀ i, i < 4 → s2.f 46 i = DP (but u v (wtO (OF k0 d0) 0)) (butL u (fun w v => bly k0 w v K)) N i := fun v hv => sort_eq tN hN5 hv bw hBt u2
      have F2 := (srt 0 (by omega)).1
      have B2 : BEL s2 (OF k0 d0) (fun w v => bly k0 w v K) N := fun w hw v hv => by
        rw [(F2.2 44 (by decide)).1, (F2.2 45 (by decide)).1]
        exact hBt w hw v hv
      have F20 : FrK [144, 145, 146] k0 s2 := hFt.trans F2 (by decide)
      obtain ⟨y5, y1, y2⟩ := ask33 hJ hF hT hN hN5 hK B2 hK20 e4 huN e1 hl (fun v hv => (srt v hv).2) fu 0 0 0 (by decide) (Nat.zero_le _) (by show (0 : Int32).toInt = 0; decide) h1
      have a4 : (x4 + 1).toInt = ((u + 1 : Nat) : Int) := by
        rw [tn_add e4 (by decide : (1 : Int32).toInt = 1) (by omega) (by omega)]
        omega
      have hnu := hn u huN
      by_cases d : xn ≤ 0
      · -- none fits: nothing is found any more
        have d' := tn_le (rfl : xn.toInt = xn.toInt) z0 d
        rw [if_pos d] at h3
        have x2e : x2 = -2 := by
          rcases h2 with q | ⟨b, _, _, _, q⟩
          · exact q
          · omega
        rw [if_pos (Int32.le_iff_toInt_le.mpr (by rw [y1, z0]; exact hnu.mp d'))] at y2
        have all : ∀ (n : Nat) (t : KS) (x4 : Int32) (u : Nat), x4.toInt = (u : Int) → u ≤ N → FrK [144, 145, 146] k0 t → BEL t (OF k0 d0) (fun w v => bly k0 w v K) N → kX8_waveToAsk_8L n t x1 x2 x3 x4 = some (r1, s') → r1 = x2 := by
          intro n
          induction n with
          | zero => intro t x4 u _ _ _ _ h; exact none_ne h
          | succ n ih2 =>
            intro t x4 u e4 hu hFt hBt h1
            replace h1 : kX8_waveToAsk_8 (kX8_waveToAsk_8L n) t x1 x2 x3 x4 = some (r1, s') := h1
            unfold kX8_waveToAsk_8 at h1
            have tN : (t.v 1).toInt = (N : Int) := by rw [hFt.1 1 (by decide)]; exact hN
            by_cases c : t.v 1 ≤ x4
            · rw [if_pos c] at h1
              exact (congrArg Prod.fst (Option.some.inj h1)).symm
            · have c' := tn_nle tN e4 c
              rw [if_neg c] at h1
              replace h1 := bindP_inv h1
              obtain ⟨s2, u2, h1⟩ := h1
              have bw : ∀ w, w < N → (w = u ↔ x4 = Int32.ofNat w) := by
                intro w hw
                refine ⟨fun q => by rw [q]; exact eq_ofnat e4, fun q => ?_⟩
                have e := ofnat_int (n := w) (by omega)
                rw [← q] at e
                omega
              have srt : ∀ v, v < 6 → FrK [146] t s2 ∧ ∀ i, i < 4 → s2.f 46 i = DP (but u v (wtO (OF k0 d0) 0)) (butL u (fun w v => bly k0 w v K)) N i := fun v hv => sort_eq tN hN5 hv bw hBt u2
              have F2 := (srt 0 (by omega)).1
              have B2 : BEL s2 (OF k0 d0) (fun w v => bly k0 w v K) N := fun w hw v hv => by
                rw [(F2.2 44 (by decide)).1, (F2.2 45 (by decide)).1]
                exact hBt w hw v hv
              have F20 : FrK [144, 145, 146] k0 s2 := hFt.trans F2 (by decide)
              obtain ⟨y5, y1, y2⟩ := ask33 hJ hF hT hN hN5 hK B2 hK20 e4 (by omega) e1 hl (fun v hv => (srt v hv).2) fu 0 0 0 (by decide) (Nat.zero_le _) (by show (0 : Int32).toInt = 0; decide) h1
              rw [if_pos (Int32.le_iff_toInt_le.mpr (by rw [y1, z0]; exact (hn u (by omega)).mp d'))] at y2
              have a4 : (x4 + 1).toInt = ((u + 1 : Nat) : Int) := by
                rw [tn_add e4 (by decide : (1 : Int32).toInt = 1) (by omega) (by omega)]
                omega
              exact ih2 s2 (x4 + 1) (u + 1) a4 (by omega) F20 B2 y2
        rw [all n s2 (x4 + 1) (u + 1) a4 (by omega) F20 B2 y2]
        exact congrArg Prod.fst (Option.some.inj h3)
      · have d' := tn_nle (rfl : xn.toInt = xn.toInt) z0 d
        rw [if_neg d] at h3
        have y5p : ¬ y5 ≤ 0 := fun q => by
          have q' := ti_le q
          have : ¬ xn.toInt ≤ 0 := by omega
          exact this (hnu.mpr (by omega))
        rw [if_neg y5p] at y2
        have x4o : x4 = Int32.ofNat u := eq_ofnat e4
        rcases h2 with q | ⟨b, b1, b2, b3, b4⟩
        · rw [if_pos q] at y2
          rw [q, if_pos (by decide)] at h3
          unfold r_ask_164 r_ask_168 at h3
          exact ih m s2 x4 y5 (x4 + 1) (u + 1) a4 (by omega) F20 B2 (Or.inr ⟨u, huN, x4o, y1, d'⟩) y2 h3
        · have bi : x2.toInt = (b : Int) := by rw [b2]; exact ofnat_int (by omega)
          have n2 : ¬ x2 = -2 := fun q => by
            rw [q] at bi
            have : (-2 : Int32).toInt = -2 := by decide
            omega
          rw [if_neg n2] at y2
          rw [if_neg (fun q => by have := ti_lt q; omega)] at h3
          replace h3 := bindI_inv h3
          obtain ⟨r6, z5, w5, h3⟩ := h3
          obtain ⟨ez5, e6⟩ := r_worst e4 (by omega) (hC u huN) w5
          rw [ez5] at h3
          replace h3 := bindI_inv h3
          obtain ⟨r8, z7, w7, h3⟩ := h3
          obtain ⟨ez7, e8⟩ := r_worst bi (by omega) (hC b b1) w7
          rw [ez7] at h3
          by_cases f : x3 ≤ y5
          · have f' := ti_le f
            rw [if_pos f] at y2
            rw [if_pos (Int32.le_iff_toInt_le.mpr (by rw [e8, e6, ← b3, ← y1]; exact f'))] at h3
            unfold r_ask_168 at h3
            exact ih m s2 x2 x3 (x4 + 1) (u + 1) a4 (by omega) F20 B2 (Or.inr ⟨b, b1, b2, b3, b4⟩) y2 h3
          · have f' := ti_nle f
            rw [if_neg f] at y2
            rw [if_neg (fun q => by have := ti_le q; rw [e8, e6, ← b3, ← y1] at this; omega)] at h3
            unfold r_ask_164 r_ask_168 at h3
            exact ih m s2 x4 y5 (x4 + 1) (u + 1) a4 (by omega) F20 B2 (Or.inr ⟨u, huN, x4o, y1, d'⟩) y2 h3
/-- the reference counts those that fit, thing by thing -/
noncomputable def CTj (k : KS) (C : Nat → Int32) (K l w v j : Nat) : Int32 := wsum (fun g => if (decide (tg g w = v) && fitB k C K l g) = true then 1 else 0) j
theorem r55_at {z t : RS} {i : Nat} {x : Int32} (h : z.sf 55 i x = t) : ∀ j, t.f 55 j = if j = i then x else z.f 55 j := fun j => by
  rw [← h]
  exact rsf_at
theorem FrR.one {z t : RS} {k i : Nat} {x : Int32} (h : z.sf k i x = t) : FrR [100 + k] z t := by
  rw [← h]
  exact FrR.sf FrR.rfl (List.mem_cons_self ..)
theorem r_ask70 {z0 z' : RS} {k41 : RS → Int32 → Int32 → Int32 → Int32 → Option (Int32 × RS)} {r x1 x2 x3 x4 : Int32} {N g : Nat} (hN5 : N ≤ 5) (h6 : ∀ j, j < 6 → z0.f 46 j = six6 j) (hz : (z0.f 20 (z0.v 18).toNatClampNeg).toInt = (N : Int)) (e4 : x4.toInt = (g : Int)) : ∀ (n : Nat) (z : RS) (x5 : Int32) (m : Nat), FrR [155] z0 z → x5.toInt = (m : Int) → m ≤ N → (∀ w, w < N → ∀ v, v < 6 → z.f 55 (6 * w + v) = z0.f 55 (6 * w + v) + (if w < m ∧ tg g w = v then 1 else 0)) → r_ask_70L k41 n z x1 x2 x3 x4 x5 = some (r, z') → ∃ t, k41 t x1 x2 x3 (x4 + 1) = some (r, z') ∧ FrR [155] z0 t ∧ ∀ w, w < N → ∀ v, v < 6 → t.f 55 (6 * w + v) = z0.f 55 (6 * w + v) + (if tg g w = v then 1 else 0) := by
  intro n
  induction n with
  | zero => intro z x5 m _ _ _ _ h; exact none_ne h
  | succ n ih =>
    intro z x5 m F e5 hm hf h
    replace h : r_ask_70 k41 (r_ask_70L k41 n) z x1 x2 x3 x4 x5 = some (r, z') := h
    unfold r_ask_70 at h
    replace h := guard_inv h
    obtain ⟨_, h⟩ := h
    have hzz : (z.f 20 (z.v 18).toNatClampNeg).toInt = (N : Int) := by
      rw [F.1 18 (by decide), (F.2 20 (by decide)).1]
      exact hz
    by_cases c : z.f 20 (z.v 18).toNatClampNeg ≤ x5
    · have c' := tn_le hzz e5 c
      rw [if_pos c] at h
      unfold r_ask_113 at h
      refine ⟨z, h, F, fun w hw v hv => ?_⟩
      rw [hf w hw v hv]
      by_cases d : tg g w = v
      · rw [if_pos ⟨by omega, d⟩, if_pos d]
      · rw [if_neg (fun q => d q.2), if_neg d]
    · have c' := tn_nle hzz e5 c
      rw [if_neg c] at h
      replace h := bindI_inv h
      obtain ⟨r4, z3, h3, h⟩ := h
      obtain ⟨ez, er⟩ := r_thing (fun j hj => by rw [(F.2 46 (by decide)).1]; exact h6 j hj) e4 e5 (by omega) h3
      rw [ez] at h
      have tl := tg_lt g m
      have m1 : (6 * x5).toInt = x5.toInt * 6 := ti_cmul (c := 6) (by decide) (by omega) (by omega)
      have at30 : ((6 * x5) + r4).toInt = ((6 * m + tg g m : Nat) : Int) := by
        rw [ti_add (by omega) (by omega)]
        omega
      replace h := guard_inv h
      obtain ⟨_, h⟩ := h
      replace h := guard_inv h
      obtain ⟨_, h⟩ := h
      rw [clamp_of_int at30] at h
      replace h := letS_inv h
      obtain ⟨z7, c7, h⟩ := h
      have row := r55_at c7
      have F7 : FrR [155] z0 z7 := F.trans (FrR.one c7) (fun _ q => q)
      have a5 : (x5 + 1).toInt = ((m + 1 : Nat) : Int) := by
        rw [tn_add e5 (by decide : (1 : Int32).toInt = 1) (by omega) (by omega)]
        omega
      refine ih z7 (x5 + 1) (m + 1) F7 a5 (by omega) (fun w hw v hv => ?_) h
      rw [row]
      by_cases e : w = m
      · by_cases d : tg g w = v
        · rw [if_pos (by rw [← d, e]), e, hf m (by omega) (tg g m) tl, if_neg (fun q => by omega), Int32.add_zero, if_pos ⟨by omega, by rw [← e]; exact d⟩]
          rw [← d, e]
        · rw [if_neg (fun q => d (by rw [e] at q ⊢; omega)), hf w hw v hv, if_neg (fun q => d q.2), if_neg (fun q => d q.2)]
      · rw [if_neg (fun q => by omega), hf w hw v hv]
        by_cases d : tg g w = v
        · by_cases f : w < m
          · rw [if_pos ⟨f, d⟩, if_pos ⟨by omega, d⟩]
          · rw [if_neg (fun q => f q.1), if_neg (fun q => by omega)]
        · rw [if_neg (fun q => d q.2), if_neg (fun q => d q.2)]
theorem TEL.f55 {k : KS} {z z' : RS} (h : TEL k z) (G : FrR [155] z z') : TEL k z' := by
  intro i hi
  have q := h i hi
  rw [(G.2 52 (by decide)).1, (G.2 53 (by decide)).1, (G.2 54 (by decide)).1]
  exact q
theorem JR.f55 {s : JS} {z z' : RS} (h : JR s z) (G : FrR [155] z z') (hI : InvR z') : JR s z' := by
  obtain ⟨a1, a2, a3, a4, a5, a6⟩ := h
  refine ⟨a1.fr (FrK.rfl (W := [])) G (by decide) (by decide), by rw [(G.2 44 (by decide)).1]; exact a2, a3.fr G (by decide), hI, a5, ?_⟩
  rw [G.1 45 (by decide), G.1 18 (by decide), (G.2 26 (by decide)).1]
  exact a6
/-- of a row that is no narrower than any ints, and whose other cells are kept -/
theorem InvR.f55 {z z' : RS} (h : InvR z) (G : FrR [155] z z') : InvR z' := by
  refine ⟨fun k => ?_, fun k j => ?_⟩
  · have e : z'.v k = z.v k ∨ k = 155 := by
      by_cases q : k ∈ [155]
      · exact Or.inr (List.mem_singleton.mp q)
      · exact Or.inl (G.1 k q)
    rcases e with e | e
    · rw [e]; exact h.1 k
    · have l1 : loVR k = -2147483648 := by rw [e]; decide
      have l2 : hiVR k = 2147483647 := by rw [e]; decide
      rw [l1, l2]
      exact ti_rng _
  · by_cases q : k = 55
    · have l1 : loFR k = -2147483648 := by rw [q]; decide
      have l2 : hiFR k = 2147483647 := by rw [q]; decide
      rw [l1, l2]
      exact ti_rng _
    · have m : 100 + k ∉ [155] := fun m => q (by have := List.mem_singleton.mp m; omega)
      rw [(G.2 k m).1]
      exact h.2 k j
theorem r_ask41 {k : KS} {d : SD} {z0 z' : RS} {x1 x2 r : Int32} {C : Nat → Int32} {N K l : Nat} (hJ : JR (JS.mk k d) z0) (hT : TEL k z0) (hN : (k.v 1).toInt = (N : Int)) (hN5 : N ≤ 5) (hK : (K : Int) ≤ (k.v 21).toInt) (hK2 : K ≤ 20) (hz : (z0.f 20 (z0.v 18).toNatClampNeg).toInt = (N : Int)) (hC : ∀ g, g < 6 ^ N → z0.f 50 g = C g) (e1 : x1.toInt = (K : Int)) (e2 : x2.toInt = (l : Int)) : ∀ (n : Nat) (z : RS) (x3 x4 : Int32) (j : Nat), FrR [155] z0 z → x4.toInt = (j : Int) → j ≤ 6 ^ N → x3 = wsum (fun g => if fitB k C K l g = true then 1 else 0) j → (∀ w, w < N → ∀ v, v < 6 → z.f 55 (6 * w + v) = CTj k C K l w v j) → r_ask_41L n z x1 x2 x3 x4 = some (r, z') → ∃ t y3, r_ask_126L fu t y3 (-2) 0 = some (r, z') ∧ FrR [155] z0 t ∧ y3 = wsum (fun g => if fitB k C K l g = true then 1 else 0) (6 ^ N) ∧ ∀ w, w < N → ∀ v, v < 6 → t.f 55 (6 * w + v) = CTj k C K l w v (6 ^ N) := by
  have pl := pow_le N hN5
  intro n
  induction n with
  | zero => intro z x3 x4 j _ _ _ _ _ h; exact none_ne h
  | succ n ih =>
    intro z x3 x4 j F e4 hj e3 hf h
    replace h : r_ask_41 (r_ask_41L n) z x1 x2 x3 x4 = some (r, z') := h
    unfold r_ask_41 at h
    have h6 : ∀ j, j < 6 → z.f 46 j = six6 j := fun j hj => by
      rw [(F.2 46 (by decide)).1]
      exact hJ.1.2.1 j hj
    have hzz : (z.f 20 (z.v 18).toNatClampNeg).toInt = (N : Int) := by
      rw [F.1 18 (by decide), (F.2 20 (by decide)).1]
      exact hz
    replace h := bindI_inv h
    obtain ⟨q, z1, h1, h⟩ := h
    obtain ⟨ez, eq⟩ := r_guessN h6 hN5 hzz h1
    rw [ez] at h
    by_cases c : q ≤ x4
    · have c' := tn_le eq e4 c
      rw [if_pos c] at h
      have ej : j = 6 ^ N := by omega
      rw [ej] at e3 hf
      exact ⟨z, x3, h, F, e3, hf⟩
    · have c' := tn_nle eq e4 c
      rw [if_neg c] at h
      replace h := bindI_inv h
      obtain ⟨r5, z4, h5, h⟩ := h
      obtain ⟨ez4, e6⟩ := r_doesFit_eq (C := C) (T := 6 ^ N) (hT.f55 F) hN hN5 hK hK2 h6 (fun g hg => by rw [(F.2 50 (by decide)).1]; exact hC g hg) e4 (by omega) e1 e2 h5
      rw [ez4] at h
      have a4 : (x4 + 1).toInt = ((j + 1 : Nat) : Int) := by
        rw [tn_add e4 (by decide : (1 : Int32).toInt = 1) (by omega) (by omega)]
        omega
      by_cases dd : fitB k C K l j = true
      · rw [if_pos dd] at e6
        rw [e6, if_neg z_one] at h
        obtain ⟨t, t1, t2, t3⟩ := r_ask70 (z0 := z) hN5 h6 hzz e4 fu z 0 0 FrR.rfl (by decide) (Nat.zero_le _) (fun w hw v hv => by rw [if_neg (fun q => by omega), Int32.add_zero]) h
        refine ih t (x3 + 1) (x4 + 1) (j + 1) (F.trans t2 (fun _ q => q)) a4 (by omega) (by rw [wsum_succ, ← e3, if_pos dd]) (fun w hw v hv => ?_) t1
        rw [t3 w hw v hv, hf w hw v hv]
        unfold CTj
        rw [wsum_succ]
        by_cases f : tg j w = v
        · rw [if_pos f, if_pos (by rw [decide_eq_true f, dd]; rfl)]
        · rw [if_neg f, if_neg (by rw [decide_eq_false f, Bool.false_and]; exact Bool.false_ne_true)]
      · rw [if_neg dd] at e6
        rw [e6, if_pos rfl] at h
        unfold r_ask_113 at h
        have df : fitB k C K l j = false := Bool.eq_false_iff.mpr dd
        refine ih z x3 (x4 + 1) (j + 1) F a4 (by omega) (by rw [wsum_succ, ← e3, if_neg dd, Int32.add_zero]) (fun w hw v hv => ?_) h
        rw [hf w hw v hv]
        unfold CTj
        rw [wsum_succ, df, Bool.and_false, if_neg (by decide), Int32.add_zero]
theorem r_ask17 {z0 z' : RS} {x1 x2 r : Int32} : ∀ (n : Nat) (z : RS) (x3 : Int32) (j : Nat), FrR [155] z0 z → x3.toInt = (j : Int) → j ≤ 30 → (∀ i, i < j → z.f 55 i = 0) → r_ask_17L n z x1 x2 x3 = some (r, z') → ∃ t, r_ask_41L fu t x1 x2 0 0 = some (r, z') ∧ FrR [155] z0 t ∧ ∀ i, i < 30 → t.f 55 i = 0 := by
  intro n
  induction n with
  | zero => intro z x3 j _ _ _ _ h; exact none_ne h
  | succ n ih =>
    intro z x3 j F e3 hj hf h
    replace h : r_ask_17 (r_ask_17L n) z x1 x2 x3 = some (r, z') := h
    unfold r_ask_17 at h
    by_cases c : 30 ≤ x3
    · have c' := tn_le (a := 30) (by decide) e3 c
      rw [if_pos c] at h
      exact ⟨z, h, F, fun i hi => hf i (by omega)⟩
    · have c' := tn_nle (a := 30) (by decide) e3 c
      rw [if_neg c] at h
      replace h := guard_inv h
      obtain ⟨_, h⟩ := h
      rw [clamp_of_int e3] at h
      replace h := letS_inv h
      obtain ⟨z3, c3, h⟩ := h
      have row := r55_at c3
      have a3 : (x3 + 1).toInt = ((j + 1 : Nat) : Int) := by
        rw [tn_add e3 (by decide : (1 : Int32).toInt = 1) (by omega) (by omega)]
        omega
      refine ih z3 (x3 + 1) (j + 1) (F.trans (FrR.one c3) (fun _ q => q)) a3 (by omega) (fun i hi => ?_) h
      rw [row]
      by_cases e : i = j
      · rw [if_pos e]
      · rw [if_neg e]
        exact hf i (by omega)
theorem ask_same {y : YS} {x' : XS} {z z' : RS} {x1 x2 r1 r2 : Int32} (hP : TPk y.x.k z) (h : REL y z) (hK : InvK y.x.k) (hI : InvR z) (hB : Big z) (h1 : kX10_ask y.x x1 x2 = some (r1, x')) (h2 : r_ask z x1 x2 = some (r2, z')) : r1 = r2 ∧ True := by
  refine ⟨?_, trivial⟩
  have e21 : y.x.k.v 21 = z.v 51 := hP.2.2.2.2.1
  unfold kX10_ask at h1
  unfold r_ask at h2
  rw [k_such, bindI_some] at h1
  rw [r_asked, ← e21, bindI_some] at h2
  replace h1 := letS_inv h1
  obtain ⟨s3, c3, h1⟩ := h1
  have e3 : s3 = y.x := by rw [← c3]; rfl
  rw [e3] at h1
  by_cases c : 0 ≤ x1.toInt ∧ x1.toInt ≤ (y.x.k.v 21).toInt ∧ 0 ≤ x2.toInt ∧ x2.toInt ≤ 3
  · rw [if_pos c, if_neg z_one] at h1 h2
    obtain ⟨K, l, k1, k2, k3, k4, k5⟩ := told_begin hP hK c
    replace h2 := bindP_inv h2
    obtain ⟨z6, w6, h2⟩ := h2
    obtain ⟨hJ, G, N, hN, hN5, hz, hC⟩ := r_fills h hK hI hB w6
    have pl := pow_le N hN5
    have hT : TEL y.x.k z6 := h.2.2.2.2.f50 G
    obtain ⟨za, za1, za2, za3⟩ := r_ask17 (z0 := z6) fu z6 0 0 FrR.rfl (by decide) (Nat.zero_le _) (fun i hi => by omega) h2
    have Ja := hJ.f55 za2 (hJ.2.2.2.1.f55 za2)
    obtain ⟨zb, y3, zb1, zb2, zb3, zb4⟩ := r_ask41 (C := fun g => prd y.x.k y.x.n 0 g N) Ja (hT.f55 za2) hN hN5 k5 k4 (by rw [za2.1 18 (by decide), (za2.2 20 (by decide)).1]; exact hz) (fun g hg => by rw [(za2.2 50 (by decide)).1]; exact hC g hg) k1 k2 fu za 0 0 0 FrR.rfl (by decide) (Nat.zero_le _) rfl (fun w hw v hv => by rw [za3 _ (by omega)]; rfl) za1
    have Jb := Ja.f55 zb2 (Ja.2.2.2.1.f55 zb2)
    have Tb := (hT.f55 za2).f55 zb2
    replace h1 := bindP_inv h1
    obtain ⟨s8, w8, h1⟩ := h1
    replace h1 := letS_inv h1
    obtain ⟨s9, c9, h1⟩ := h1
    obtain ⟨b1, b2, b3⟩ := believe_eq (s := JS.mk y.x.k y.x.n) hN hN5 k1 k4 (fun i hi => (tel_tw hT hN k5 i hi).1) w8
    have e9 : s9.k = s8.k := by rw [← c9]; rfl
    replace h1 := bindI_inv h1
    obtain ⟨q10, s10, u10, h1⟩ := h1
    replace h1 := letS_inv h1
    obtain ⟨s11, _, h1⟩ := h1
    rw [e9] at u10
    have F : FrK [144, 145, 146] y.x.k s8.k := (FrK.rfl (W := [144, 145, 146])).trans b2 (by decide)
    obtain ⟨ct, c1, _, cc⟩ := cnt (P := fitB y.x.k (fun g => prd y.x.k y.x.n 0 g N) K l) (6 ^ N) pl
    have y3i : y3.toInt = (ct : Int) := by rw [zb3]; exact c1
    unfold kX8_waveToAsk at u10
    rw [← fst_som h1]
    refine askL (xn := y3) (N := N) Jb h.2.1.2 Tb hN hN5 (by rw [← Jb.1.1.1]; exact hN) k5 k4 k2 k3 (fun w hw v hv => zb4 w hw v hv) (fun w hw => ?_) fu fu s8.k (-2) 0 0 0 (by decide) (Nat.zero_le _) F b3 (Or.inl rfl) u10 zb1
    have one : ∀ v, ∃ cv : Nat, (CTw y.x.k (fun g => prd y.x.k y.x.n 0 g N) K l N w v).toInt = (cv : Int) ∧ (0 < cv ↔ ∃ g, g < 6 ^ N ∧ (decide (tg g w = v) && fitB y.x.k (fun g => prd y.x.k y.x.n 0 g N) K l g) = true) := fun v => by
      obtain ⟨cv, v1, _, v3⟩ := cnt (P := fun g => decide (tg g w = v) && fitB y.x.k (fun g => prd y.x.k y.x.n 0 g N) K l g) (6 ^ N) pl
      exact ⟨cv, v1, v3⟩
    refine ⟨fun q => ?_, fun q => ?_⟩
    · have c0 : ct = 0 := by omega
      have mz := mxI_zero (F := CTw y.x.k (fun g => prd y.x.k y.x.n 0 g N) K l N w) 6 (fun v _ => by
        obtain ⟨cv, v1, v3⟩ := one v
        have : ¬ 0 < cv := fun p => by
          obtain ⟨g, g1, g2⟩ := v3.mp p
          rw [Bool.and_eq_true] at g2
          have := cc.mpr ⟨g, g1, g2.2⟩
          omega
        omega)
      omega
    · refine Int.not_lt.mp (fun p => ?_)
      obtain ⟨g, g1, g2⟩ := cc.mp (by omega)
      obtain ⟨cv, v1, v3⟩ := one (tg g w)
      have cp := v3.mpr ⟨g, g1, by rw [decide_eq_true (rfl : tg g w = tg g w), Bool.true_and]; exact g2⟩
      have ge := mxI_ge (F := CTw y.x.k (fun g => prd y.x.k y.x.n 0 g N) K l N w) 6 (tg_lt g w)
      omega
  · rw [if_neg c, if_pos rfl] at h1 h2
    have f1 : -1 = r1 := congrArg Prod.fst (Option.some.inj h1)
    have f2 : -1 = r2 := congrArg Prod.fst (Option.some.inj h2)
    rw [← f1, ← f2]
end
section
/-! ===== count ===== -/
theorem parties_same {s s' : XS} {z z' : RS} {x1 r1 r2 : Int32} (h : JH s z) (hk : s.k.v 2 = z.f 23 (z.v 18).toNatClampNeg) (hp : (s.k.v 2).toInt ≤ 6) : ∀ (n m : Nat) (x y : Int32) (j : Nat), y.toInt = (j : Int) → kX10_partiesThatAre_5L n s x1 x y = some (r1, s') → r_partiesIn_4L m z x1 x y = some (r2, z') → r1 = r2 := by
  intro n
  induction n with
  | zero => intro m x y j _ h1; exact none_ne h1
  | succ n ih =>
    intro m x y j ey h1 h2
    cases m with
    | zero => exact none_ne h2
    | succ m =>
    replace h1 : kX10_partiesThatAre_5 (kX10_partiesThatAre_5L n) s x1 x y = some (r1, s') := h1
    replace h2 : r_partiesIn_4 (r_partiesIn_4L m) z x1 x y = some (r2, z') := h2
    unfold kX10_partiesThatAre_5 at h1
    unfold r_partiesIn_4 at h2
    replace h2 := guard_inv h2
    obtain ⟨_, h2⟩ := h2
    rw [← hk] at h2
    by_cases c : s.k.v 2 ≤ y
    · rw [if_pos c] at h1 h2
      rw [← fst_som h1, ← fst_som h2]
    · have c' := ti_nle c
      rw [if_neg c] at h1 h2
      replace h1 := guard_inv h1
      obtain ⟨_, h1⟩ := h1
      replace h2 := guard_inv h2
      obtain ⟨_, h2⟩ := h2
      have a15 : (15 + y).toInt = ((15 + j : Nat) : Int) := by
        rw [tn_add (by decide : (15 : Int32).toInt = 15) ey (by omega) (by omega)]
        omega
      have ay : (y + 1).toInt = ((j + 1 : Nat) : Int) := by
        rw [tn_add ey (by decide : (1 : Int32).toInt = 1) (by omega) (by omega)]
        omega
      rw [clamp_of_int ey] at h1
      rw [clamp_of_int a15] at h2
      have e : s.n.f 3 j = z.f 44 (15 + j) := (h.1.2.1.2.1 j (by omega)).1
      rw [e] at h1
      by_cases d : z.f 44 (15 + j) = x1
      · rw [if_pos d] at h1 h2
        unfold kX10_partiesThatAre_35 at h1
        unfold r_partiesIn_36 at h2
        exact ih m _ (y + 1) (j + 1) ay h1 h2
      · rw [if_neg d] at h1 h2
        unfold kX10_partiesThatAre_35 at h1
        unfold r_partiesIn_36 at h2
        exact ih m _ (y + 1) (j + 1) ay h1 h2
theorem sum6_same {s s' : Nat → Int32} {z z' : RS} {r1 r2 : Int32} (h : ∀ j, j < 6 → s j = z.f 43 (21 + j)) : ∀ (n m : Nat) (x y y2 : Int32) (j : Nat), y.toInt = (j : Int) → y2.toInt = ((21 + j : Nat) : Int) → kX10_sumOf_6_4L n s x y = some (r1, s') → r_sumNow_5L m z 21 6 x y2 = some (r2, z') → r1 = r2 := by
  have t27 : ((21 : Int32) + 6).toInt = 27 := by decide
  intro n
  induction n with
  | zero => intro m x y y2 j _ _ h1; exact none_ne h1
  | succ n ih =>
    intro m x y y2 j ey ey2 h1 h2
    cases m with
    | zero => exact none_ne h2
    | succ m =>
    replace h1 : kX10_sumOf_6_4 (kX10_sumOf_6_4L n) s x y = some (r1, s') := h1
    replace h2 : r_sumNow_5 (r_sumNow_5L m) z 21 6 x y2 = some (r2, z') := h2
    unfold kX10_sumOf_6_4 at h1
    unfold r_sumNow_5 at h2
    by_cases c : 6 ≤ y
    · have c' := tn_le (a := 6) (by decide) ey c
      rw [if_pos c] at h1
      rw [if_pos (Int32.le_iff_toInt_le.mpr (by omega))] at h2
      rw [← fst_som h1, ← fst_som h2]
    · have c' := tn_nle (a := 6) (by decide) ey c
      rw [if_neg c] at h1
      rw [if_neg (fun q => by have := ti_le q; omega)] at h2
      replace h1 := guard_inv h1
      obtain ⟨_, h1⟩ := h1
      replace h2 := guard_inv h2
      obtain ⟨_, h2⟩ := h2
      have ay : (y + 1).toInt = ((j + 1 : Nat) : Int) := by
        rw [tn_add ey (by decide : (1 : Int32).toInt = 1) (by omega) (by omega)]
        omega
      have ay2 : (y2 + 1).toInt = ((21 + (j + 1) : Nat) : Int) := by
        rw [tn_add ey2 (by decide : (1 : Int32).toInt = 1) (by omega) (by omega)]
        omega
      rw [clamp_of_int ey, h j (by omega)] at h1
      rw [clamp_of_int ey2] at h2
      exact ih m _ (y + 1) (y2 + 1) (j + 1) ay ay2 h1 h2
theorem sum5_same {s s' : Nat → Int32} {z z' : RS} {r1 r2 : Int32} (h : ∀ j, j < 5 → s j = z.f 43 (10 + j)) : ∀ (n m : Nat) (x y y2 : Int32) (j : Nat), y.toInt = (j : Int) → y2.toInt = ((10 + j : Nat) : Int) → kX10_sumOf_5_4L n s x y = some (r1, s') → r_sumNow_5L m z 10 5 x y2 = some (r2, z') → r1 = r2 := by
  have t27 : ((10 : Int32) + 5).toInt = 15 := by decide
  intro n
  induction n with
  | zero => intro m x y y2 j _ _ h1; exact none_ne h1
  | succ n ih =>
    intro m x y y2 j ey ey2 h1 h2
    cases m with
    | zero => exact none_ne h2
    | succ m =>
    replace h1 : kX10_sumOf_5_4 (kX10_sumOf_5_4L n) s x y = some (r1, s') := h1
    replace h2 : r_sumNow_5 (r_sumNow_5L m) z 10 5 x y2 = some (r2, z') := h2
    unfold kX10_sumOf_5_4 at h1
    unfold r_sumNow_5 at h2
    by_cases c : 5 ≤ y
    · have c' := tn_le (a := 5) (by decide) ey c
      rw [if_pos c] at h1
      rw [if_pos (Int32.le_iff_toInt_le.mpr (by omega))] at h2
      rw [← fst_som h1, ← fst_som h2]
    · have c' := tn_nle (a := 5) (by decide) ey c
      rw [if_neg c] at h1
      rw [if_neg (fun q => by have := ti_le q; omega)] at h2
      replace h1 := guard_inv h1
      obtain ⟨_, h1⟩ := h1
      replace h2 := guard_inv h2
      obtain ⟨_, h2⟩ := h2
      have ay : (y + 1).toInt = ((j + 1 : Nat) : Int) := by
        rw [tn_add ey (by decide : (1 : Int32).toInt = 1) (by omega) (by omega)]
        omega
      have ay2 : (y2 + 1).toInt = ((10 + (j + 1) : Nat) : Int) := by
        rw [tn_add ey2 (by decide : (1 : Int32).toInt = 1) (by omega) (by omega)]
        omega
      rw [clamp_of_int ey, h j (by omega)] at h1
      rw [clamp_of_int ey2] at h2
      exact ih m _ (y + 1) (y2 + 1) (j + 1) ay ay2 h1 h2
theorem found_same {s s' : XS} {z z' : RS} {r1 r2 : Int32} {N : Nat} (h : JH s z) (hN : (s.k.v 1).toInt = (N : Int)) (hN5 : N ≤ 5) (hk : s.k.v 1 = z.f 20 (z.v 18).toNatClampNeg) : ∀ (n m : Nat) (x y : Int32) (j : Nat), y.toInt = (j : Int) → kX10_wavesFound_4L n s x y = some (r1, s') → r_count_271L m z x y = some (r2, z') → r1 = r2 := by
  intro n
  induction n with
  | zero => intro m x y j _ h1; exact none_ne h1
  | succ n ih =>
    intro m x y j ey h1 h2
    cases m with
    | zero => exact none_ne h2
    | succ m =>
    replace h1 : kX10_wavesFound_4 (kX10_wavesFound_4L n) s x y = some (r1, s') := h1
    replace h2 : r_count_271 (r_count_271L m) z x y = some (r2, z') := h2
    unfold kX10_wavesFound_4 at h1
    unfold r_count_271 at h2
    replace h2 := guard_inv h2
    obtain ⟨_, h2⟩ := h2
    rw [← hk] at h2
    by_cases c : s.k.v 1 ≤ y
    · rw [if_pos c] at h1 h2
      rw [← fst_som h1, ← fst_som h2]
    · have c' := ti_nle c
      rw [if_neg c] at h1 h2
      replace h1 := guard_inv h1
      obtain ⟨_, h1⟩ := h1
      replace h2 := guard_inv h2
      obtain ⟨_, h2⟩ := h2
      have a5 : (5 + y).toInt = ((5 + j : Nat) : Int) := by
        rw [tn_add (by decide : (5 : Int32).toInt = 5) ey (by omega) (by omega)]
        omega
      have ay : (y + 1).toInt = ((j + 1 : Nat) : Int) := by
        rw [tn_add ey (by decide : (1 : Int32).toInt = 1) (by omega) (by omega)]
        omega
      rw [clamp_of_int ey] at h1
      rw [clamp_of_int a5] at h2
      have z0 : (0 : Int32).toInt = 0 := by decide
      have m1 : (-1 : Int32).toInt = -1 := by decide
      rcases (h.1.2.1.1 j (by omega)).1 with ⟨f1, f2⟩ | ⟨f1, f2, f3⟩
      · have f1 : s.n.f 0 j = -1 := f1
        rw [if_pos f1] at h1
        rw [if_pos (by rw [f2]; decide)] at h2
        unfold kX10_wavesFound_34 at h1
        unfold r_count_301 at h2
        exact ih m _ (y + 1) (j + 1) ay h1 h2
      · have f1 : s.n.f 0 j = z.f 44 (5 + j) := f1
        rw [if_neg (fun q => by rw [f1] at q; rw [q, m1] at f2; omega)] at h1
        rw [if_neg (fun q => by have := ti_lt q; omega)] at h2
        unfold kX10_wavesFound_34 at h1
        unfold r_count_301 at h2
        exact ih m _ (y + 1) (j + 1) ay h1 h2
theorem nothing_same {s s' : XS} {z z' : RS} {r1 r2 : Int32} {N : Nat} (h : JH s z) (hN : (s.k.v 1).toInt = (N : Int)) (hN5 : N ≤ 5) (hk : s.k.v 1 = z.f 20 (z.v 18).toNatClampNeg) : ∀ (n m : Nat) (x y : Int32) (j : Nat), y.toInt = (j : Int) → kX10_wavesWithNothing_4L n s x y = some (r1, s') → r_count_329L m z x y = some (r2, z') → r1 = r2 := by
  intro n
  induction n with
  | zero => intro m x y j _ h1; exact none_ne h1
  | succ n ih =>
    intro m x y j ey h1 h2
    cases m with
    | zero => exact none_ne h2
    | succ m =>
    replace h1 : kX10_wavesWithNothing_4 (kX10_wavesWithNothing_4L n) s x y = some (r1, s') := h1
    replace h2 : r_count_329 (r_count_329L m) z x y = some (r2, z') := h2
    unfold kX10_wavesWithNothing_4 at h1
    unfold r_count_329 at h2
    replace h2 := guard_inv h2
    obtain ⟨_, h2⟩ := h2
    rw [← hk] at h2
    by_cases c : s.k.v 1 ≤ y
    · rw [if_pos c] at h1 h2
      rw [← fst_som h1, ← fst_som h2]
    · have c' := ti_nle c
      rw [if_neg c] at h1 h2
      have ay : (y + 1).toInt = ((j + 1 : Nat) : Int) := by
        rw [tn_add ey (by decide : (1 : Int32).toInt = 1) (by omega) (by omega)]
        omega
      rw [k_may (s := JS.mk s.k s.n) ey (by omega), bindI_some] at h1
      replace h1 := letS_inv h1
      obtain ⟨s4, c4, h1⟩ := h1
      have e4 : s4 = s := by rw [← c4]; rfl
      rw [e4] at h1
      replace h2 := bindI_inv h2
      obtain ⟨r4, z3, h3, h2⟩ := h2
      obtain ⟨ez, er⟩ := h.1.may hN hN5 ey (by omega) h3
      rw [ez, er] at h2
      have h1 : (if MB s.k s.n j = 0 then kX10_wavesWithNothing_36 (kX10_wavesWithNothing_4L n) s (x ||| (1 <<< (y &&& 31))) y else kX10_wavesWithNothing_36 (kX10_wavesWithNothing_4L n) s x y) = some (r1, s') := h1
      have h2 : (if MB s.k s.n j = 0 then r_count_356 (r_count_329L m) z (x ||| (1 <<< (y &&& 31))) y else r_count_356 (r_count_329L m) z x y) = some (r2, z') := h2
      by_cases d : MB s.k s.n j = 0
      · rw [if_pos d] at h1 h2
        unfold kX10_wavesWithNothing_36 at h1
        unfold r_count_356 at h2
        exact ih m _ (y + 1) (j + 1) ay h1 h2
      · rw [if_neg d] at h1 h2
        unfold kX10_wavesWithNothing_36 at h1
        unfold r_count_356 at h2
        exact ih m _ (y + 1) (j + 1) ay h1 h2
theorem fares_same {r1 r2 : Int32} {s' : XS} {z' : RS} : ∀ (n m : Nat) (s : XS) (z : RS) (x y : Int32) (j : Nat), JH s z → y.toInt = (j : Int) → kX10_faresOfAllHere_4L n s x y = some (r1, s') → r_count_366L m z x y = some (r2, z') → r1 = r2 := by
  intro n
  induction n with
  | zero => intro m s z x y j _ _ h1; exact none_ne h1
  | succ n ih =>
    intro m s z x y j h ey h1 h2
    cases m with
    | zero => exact none_ne h2
    | succ m =>
    replace h1 : kX10_faresOfAllHere_4 (kX10_faresOfAllHere_4L n) s x y = some (r1, s') := h1
    replace h2 : r_count_366 (r_count_366L m) z x y = some (r2, z') := h2
    have bp : 0 ≤ (s.k.v 2).toInt ∧ (s.k.v 2).toInt ≤ 6 := h.1.2.2.2.2.1.1 2
    have hk : s.k.v 2 = z.f 23 (z.v 18).toNatClampNeg := h.1.1.1.2.1
    unfold kX10_faresOfAllHere_4 at h1
    unfold r_count_366 at h2
    replace h2 := guard_inv h2
    obtain ⟨_, h2⟩ := h2
    rw [← hk] at h2
    by_cases c : s.k.v 2 ≤ y
    · rw [if_pos c] at h1 h2
      rw [← fst_som h1, ← fst_som h2]
    · have c' := ti_nle c
      rw [if_neg c] at h1 h2
      replace h1 := guard_inv h1
      obtain ⟨_, h1⟩ := h1
      have ay : (y + 1).toInt = ((j + 1 : Nat) : Int) := by
        rw [tn_add ey (by decide : (1 : Int32).toInt = 1) (by omega) (by omega)]
        omega
      rw [clamp_of_int ey] at h1
      rw [rh_eq h.1.2.2.2.1 ey (by rw [← hk]; omega), bindI_some] at h2
      have e : s.n.f 3 j = z.f 43 (15 + j) := (h.2.2.1 j (by omega)).1
      rw [e] at h1
      by_cases d : z.f 43 (15 + j) = 0
      · rw [if_pos d] at h1 h2
        rw [if_neg z_one] at h2
        replace h1 := bindI_inv h1
        obtain ⟨r5, s4, u4, h1⟩ := h1
        replace h1 := letS_inv h1
        obtain ⟨s6, c6, h1⟩ := h1
        replace h2 := bindI_inv h2
        obtain ⟨r7, z6, w6, h2⟩ := h2
        obtain ⟨er, kp⟩ := fare_same h.1 ey (show (j : Int) < (s.k.v 2).toInt by omega) u4 w6
        have hJ := fare_jr h.1 ey (show (j : Int) < (s.k.v 2).toInt by omega) u4 w6
        have hs := h.step kp hJ
        rw [c6] at hs
        unfold kX10_faresOfAllHere_42 at h1
        unfold r_count_395 at h2
        rw [er] at h1
        exact ih m s6 z6 _ (y + 1) (j + 1) hs ay h1 h2
      · rw [if_neg d] at h1 h2
        rw [if_pos rfl] at h2
        unfold kX10_faresOfAllHere_42 at h1
        unfold r_count_395 at h2
        exact ih m s z _ (y + 1) (j + 1) h ay h1 h2
theorem buoys_same {s s' : XS} {z : RS} {r1 : Int32} {N : Nat} (h : JH s z) (hN : (s.k.v 1).toInt = (N : Int)) (hN5 : N ≤ 5) (hZ : ∀ w, w < 5 → N ≤ w → z.f 44 w = 0) (h1 : kX10_buoysLying s = some (r1, s')) : r1 = ((((bsum (z.f 44 0)) + (bsum (z.f 44 1))) + (bsum (z.f 44 2))) + (bsum (z.f 44 3))) + (bsum (z.f 44 4)) := by
  unfold kX10_buoysLying at h1
  have b0 : bsum 0 = 0 := by decide
  have go : ∀ (n : Nat) (x y : Int32) (j : Nat), y.toInt = (j : Int) → j ≤ N → x = fo (fun i a => a + bsum (z.f 44 i)) 0 j (0 : Int32) → kX10_buoysLying_4L n s x y = some (r1, s') → r1 = fo (fun i a => a + bsum (z.f 44 i)) 0 N (0 : Int32) := by
    intro n
    induction n with
    | zero => intro x y j _ _ _ h1; exact none_ne h1
    | succ n ih =>
      intro x y j ey hj hx h1
      replace h1 : kX10_buoysLying_4 (kX10_buoysLying_4L n) s x y = some (r1, s') := h1
      unfold kX10_buoysLying_4 at h1
      by_cases c : s.k.v 1 ≤ y
      · have c' := tn_le hN ey c
        rw [if_pos c] at h1
        have ej : j = N := by omega
        rw [← fst_som h1, ← ej]
        exact hx
      · have c' := tn_nle hN ey c
        rw [if_neg c] at h1
        replace h1 := guard_inv h1
        obtain ⟨_, h1⟩ := h1
        have ay : (y + 1).toInt = ((j + 1 : Nat) : Int) := by
          rw [tn_add ey (by decide : (1 : Int32).toInt = 1) (by omega) (by omega)]
          omega
        have q := h.1.2.1.1 j (by omega)
        have e : s.n.f 1 j = z.f 44 j := q.2.1
        have b := bits_same q.2.2.1.1 q.2.2.1.2
        rw [clamp_of_int ey, e, k_bits_eq, bindP_some, b.1] at h1
        exact ih _ (y + 1) (j + 1) ay (by omega) (by rw [fo_last, Nat.zero_add, ← hx]) h1
  have r := go fu 0 0 0 (by decide) (Nat.zero_le _) rfl h1
  have all : ∀ m, N + m ≤ 5 → fo (fun i a => a + bsum (z.f 44 i)) 0 (N + m) (0 : Int32) = fo (fun i a => a + bsum (z.f 44 i)) 0 N (0 : Int32) := by
    intro m
    induction m with
    | zero => intro _; rfl
    | succ m ih =>
      intro hm
      have e : N + (m + 1) = (N + m) + 1 := by omega
      rw [e, fo_last, Nat.zero_add, ih (by omega), hZ (N + m) (by omega) (by omega), b0, Int32.add_zero]
  have a5 := all (5 - N) (by omega)
  have e5 : N + (5 - N) = 5 := by omega
  rw [e5] at a5
  rw [r, ← a5]
  show ((((0 + bsum (z.f 44 0)) + bsum (z.f 44 1)) + bsum (z.f 44 2)) + bsum (z.f 44 3)) + bsum (z.f 44 4) = _
  rw [Int32.zero_add]
theorem slots_same {s s' : GS} {r1 a b c : Int32} (h0 : s.f 4 0 = a) (h1 : s.f 4 1 = b) (h2 : s.f 4 2 = c) (h : kX3_slotsHeld s = some (r1, s')) : r1 = ((0 + (if a = 0 then 0 else 1)) + (if b = 0 then 0 else 1)) + (if c = 0 then 0 else 1) := by
  unfold kX3_slotsHeld at h
  have one : ∀ (n : Nat) (x y : Int32) (j : Nat) (v : Int32), y.toInt = (j : Int) → j < 3 → s.f 4 j = v → kX3_slotsHeld_4L (n + 1) s x y = some (r1, s') → kX3_slotsHeld_4L n s (x + (if v = 0 then 0 else 1)) (y + 1) = some (r1, s') := by
    intro n x y j v ey hj ev g
    replace g : kX3_slotsHeld_4 (kX3_slotsHeld_4L n) s x y = some (r1, s') := g
    unfold kX3_slotsHeld_4 at g
    rw [if_neg (fun q => by have := tn_le (a := 3) (by decide) ey q; omega)] at g
    replace g := guard_inv g
    obtain ⟨_, g⟩ := g
    rw [clamp_of_int ey, ev] at g
    by_cases d : v = 0
    · rw [if_pos d] at g ⊢
      unfold kX3_slotsHeld_24 at g
      exact g
    · rw [if_neg d] at g ⊢
      unfold kX3_slotsHeld_24 at g
      exact g
  have g0 := one 19999 0 0 0 a (by decide) (by omega) h0 h
  have g1 := one 19998 _ (0 + 1) 1 b (by decide) (by omega) h1 g0
  have g2 := one 19997 _ (0 + 1 + 1) 2 c (by decide) (by omega) h2 g1
  replace g2 : kX3_slotsHeld_4 (kX3_slotsHeld_4L 19996) s _ (0 + 1 + 1 + 1) = some (r1, s') := g2
  unfold kX3_slotsHeld_4 at g2
  rw [if_pos (by decide)] at g2
  exact (congrArg Prod.fst (Option.some.inj g2)).symm
theorem count_same {y : YS} {x' : XS} {z z' : RS} {x1 r1 r2 : Int32} (hP : TPk y.x.k z) (h : REL y z) (hK : InvK y.x.k) (hI : InvR z) (hB : Big z) (hZ : ∀ w : Nat, w < 5 → (y.x.k.v 1).toInt ≤ (w : Int) → z.f 43 w = 0) (h1 : kX10_count y.x x1 = some (r1, x')) (h2 : r_count z x1 = some (r2, z')) : r1 = r2 ∧ True := by
  refine ⟨?_, trivial⟩
  unfold kX10_count at h1
  unfold r_count at h2
  replace h2 := bindP_inv h2
  obtain ⟨z1, w1, h2⟩ := h2
  have hH := h.jh hK hI hB w1
  have hJ := hH.1
  obtain ⟨_, G⟩ := h.jr hK hI hB w1
  obtain ⟨N, hN, hN5, hz⟩ := hJ.nn
  have bp : 0 ≤ (y.x.k.v 2).toInt ∧ (y.x.k.v 2).toInt ≤ 6 := hK.1 2
  have e1 : y.x.k.v 1 = z1.f 20 (z1.v 18).toNatClampNeg := hJ.1.1.1
  have e2 : y.x.k.v 2 = z1.f 23 (z1.v 18).toNatClampNeg := hJ.1.1.2.1
  have f43 : z1.f 43 = z.f 43 := (G.2 43 (by decide)).1
  have pf : ∀ {a b : Int32} {s : XS} {t : RS}, some (a, s) = some (r1, x') → some (b, t) = some (r2, z') → a = b → r1 = r2 := by
    intro a b s t p q e
    rw [← fst_som p, ← fst_som q]
    exact e
  by_cases c0 : x1 = 0
  · rw [if_pos c0] at h1 h2
    replace h2 := guard_inv h2
    exact pf h1 h2.2 e1
  rw [if_neg c0] at h1 h2
  by_cases c1 : x1 = 1
  · rw [if_pos c1] at h1 h2
    replace h2 := guard_inv h2
    exact pf h1 h2.2 e2
  rw [if_neg c1] at h1 h2
  by_cases c2 : x1 = 2
  · rw [if_pos c2] at h1 h2
    exact pf h1 h2 hJ.2.1.2.2.1
  rw [if_neg c2] at h1 h2
  by_cases c3 : x1 = 3
  · rw [if_pos c3] at h1 h2
    exact pf h1 h2 hJ.2.1.2.2.2
  rw [if_neg c3] at h1 h2
  have part : ∀ {a b : Int32} {st : Int32} {s : XS} {t : RS}, kX10_partiesThatAre y.x st = some (a, s) → r_partiesIn z1 st = some (b, t) → a = b := by
    intro a b st s t p q
    unfold kX10_partiesThatAre at p
    unfold r_partiesIn at q
    exact parties_same hH e2 bp.2 fu fu 0 0 0 (by decide) p q
  by_cases c4 : x1 = 4
  · rw [if_pos c4] at h1 h2
    replace h1 := bindI_inv h1
    obtain ⟨a, s, u, h1⟩ := h1
    replace h2 := bindI_inv h2
    obtain ⟨b, t, w, h2⟩ := h2
    exact pf h1 h2 (part u w)
  rw [if_neg c4] at h1 h2
  by_cases c5 : x1 = 5
  · rw [if_pos c5] at h1 h2
    replace h1 := bindI_inv h1
    obtain ⟨a, s, u, h1⟩ := h1
    replace h2 := bindI_inv h2
    obtain ⟨b, t, w, h2⟩ := h2
    exact pf h1 h2 (part u w)
  rw [if_neg c5] at h1 h2
  by_cases c6 : x1 = 6
  · rw [if_pos c6] at h1 h2
    replace h1 := bindI_inv h1
    obtain ⟨a, s, u, h1⟩ := h1
    replace h2 := bindI_inv h2
    obtain ⟨b, t, w, h2⟩ := h2
    exact pf h1 h2 (part u w)
  rw [if_neg c6] at h1 h2
  by_cases c7 : x1 = 7
  · rw [if_pos c7] at h1 h2
    replace h1 := bindI_inv h1
    obtain ⟨a, s, u, h1⟩ := h1
    replace h1 := letS_inv h1
    obtain ⟨s17, _, h1⟩ := h1
    replace h2 := bindI_inv h2
    obtain ⟨b, t, w, h2⟩ := h2
    unfold kX10_sumOf_6 at u
    unfold r_sumNow at w
    exact pf h1 h2 (sum6_same (fun j hj => (hH.2.2.1 j hj).2) fu fu 0 0 21 0 (by decide) (by decide) u w)
  rw [if_neg c7] at h1 h2
  by_cases c8 : x1 = 8
  · rw [if_pos c8] at h1 h2
    refine pf h1 h2 ?_
    rw [G.1 2 (by decide)]
    exact hP.1.1
  rw [if_neg c8] at h1 h2
  by_cases c9 : x1 = 9
  · rw [if_pos c9] at h1 h2
    refine pf h1 h2 ?_
    rw [G.1 48 (by decide)]
    exact h.2.2.1.1
  rw [if_neg c9] at h1 h2
  by_cases c10 : x1 = 10
  · rw [if_pos c10] at h1 h2
    refine pf h1 h2 ?_
    rw [G.1 51 (by decide)]
    exact hP.2.2.2.2.1
  rw [if_neg c10] at h1 h2
  by_cases c11 : x1 = 11
  · rw [if_pos c11] at h1 h2
    replace h1 := bindI_inv h1
    obtain ⟨a, s, u, h1⟩ := h1
    replace h1 := letS_inv h1
    obtain ⟨s25, _, h1⟩ := h1
    have f56 : z1.f 56 = z.f 56 := (G.2 56 (by decide)).1
    have q := slots_same (h.2.2.2.1 0 (by omega)).1 (h.2.2.2.1 1 (by omega)).1 (h.2.2.2.1 2 (by omega)).1 u
    rw [f56] at h2
    have zo : (0 : Int32) + 0 = 0 := by decide
    have oz : (0 : Int32) + 1 = 1 := by decide
    have two : ∀ t0 t1 : Int32, r_count_202 z1 t0 t1 = some (r2, z') → r2 = (t1 + t0) + (if z.f 56 2 = 0 then 0 else 1) := by
      intro t0 t1 g
      unfold r_count_202 at g
      rw [f56] at g
      by_cases d : z.f 56 2 = 0
      · rw [if_pos d] at g ⊢
        exact (congrArg Prod.fst (Option.some.inj g)).symm
      · rw [if_neg d] at g ⊢
        exact (congrArg Prod.fst (Option.some.inj g)).symm
    have mid : ∀ t0 : Int32, r_count_188 z1 t0 = some (r2, z') → r2 = (t0 + (if z.f 56 1 = 0 then 0 else 1)) + (if z.f 56 2 = 0 then 0 else 1) := by
      intro t0 g
      unfold r_count_188 at g
      rw [f56] at g
      by_cases d : z.f 56 1 = 0
      · rw [if_pos d] at g ⊢
        exact two 0 t0 g
      · rw [if_neg d] at g ⊢
        exact two 1 t0 g
    rw [← fst_som h1]
    show a = r2
    rw [q]
    by_cases d : z.f 56 0 = 0
    · rw [if_pos d] at h2 ⊢
      rw [mid 0 h2, zo]
    · rw [if_neg d] at h2 ⊢
      rw [mid 1 h2, oz]
  rw [if_neg c11] at h1 h2
  by_cases c12 : x1 = 12
  · rw [if_pos c12] at h1 h2
    replace h1 := bindI_inv h1
    obtain ⟨a, s, u, h1⟩ := h1
    rw [r_bits_eq, bindP_some, r_bits_eq, bindP_some, r_bits_eq, bindP_some, r_bits_eq, bindP_some, r_bits_eq, bindP_some] at h2
    refine pf h1 h2 ?_
    unfold r_copies at w1
    obtain ⟨cp, _, _⟩ := copiesL fu z 0 0 (by decide) (by omega) w1
    exact buoys_same hH hN hN5 (fun w hw hl => by
      rw [cp w (Nat.zero_le _) (by omega)]
      exact hZ w hw (by have hN : (y.x.k.v 1).toInt = (N : Int) := hN; omega)) u
  rw [if_neg c12] at h1 h2
  by_cases c13 : x1 = 13
  · rw [if_pos c13] at h1 h2
    replace h1 := bindI_inv h1
    obtain ⟨a, s, u, h1⟩ := h1
    unfold kX10_wavesFound at u
    rw [← fst_som h1]
    exact found_same hH hN hN5 e1 fu fu 0 0 0 (by decide) u h2
  rw [if_neg c13] at h1 h2
  by_cases c14 : x1 = 14
  · rw [if_pos c14] at h1 h2
    replace h2 := bindI_inv h2
    obtain ⟨b, t, w, h2⟩ := h2
    obtain ⟨_, eb⟩ := r_guessN hJ.1.2.1 hN5 hz w
    refine pf h1 h2 (Int32.toInt_inj.mp ?_)
    have k3 : y.x.k.v 3 = six6 (y.x.k.v 1).toNatClampNeg := hJ.1.1.2.2.2
    have hN1 : (y.x.k.v 1).toInt = (N : Int) := hN
    rw [eb, k3, clamp_of_int hN1, six_pow N hN5]
  rw [if_neg c14] at h1 h2
  by_cases c15 : x1 = 15
  · rw [if_pos c15] at h1 h2
    replace h1 := bindI_inv h1
    obtain ⟨a, s, u, h1⟩ := h1
    replace h1 := letS_inv h1
    obtain ⟨s37, _, h1⟩ := h1
    replace h2 := bindI_inv h2
    obtain ⟨b, t, w, h2⟩ := h2
    exact pf h1 h2 (guess_there hJ.si u w).1
  rw [if_neg c15] at h1 h2
  by_cases c16 : x1 = 16
  · rw [if_pos c16] at h1 h2
    replace h1 := bindI_inv h1
    obtain ⟨a, s, u, h1⟩ := h1
    replace h1 := letS_inv h1
    obtain ⟨s42, _, h1⟩ := h1
    replace h2 := bindI_inv h2
    obtain ⟨b, t, w, h2⟩ := h2
    unfold kX10_sumOf_5 at u
    unfold r_sumNow at w
    exact pf h1 h2 (sum5_same (fun j hj => (hH.2.1 j hj).2.2.2) fu fu 0 0 10 0 (by decide) (by decide) u w)
  rw [if_neg c16] at h1 h2
  by_cases c17 : x1 = 17
  · rw [if_pos c17] at h1 h2
    replace h1 := bindI_inv h1
    obtain ⟨a, s, u, h1⟩ := h1
    unfold kX10_wavesWithNothing at u
    rw [← fst_som h1]
    exact nothing_same hH hN hN5 e1 fu fu 0 0 0 (by decide) u h2
  rw [if_neg c17] at h1 h2
  by_cases c18 : x1 = 18
  · rw [if_pos c18] at h1 h2
    replace h1 := bindI_inv h1
    obtain ⟨a, s, u, h1⟩ := h1
    unfold kX10_faresOfAllHere at u
    rw [← fst_som h1]
    exact fares_same fu fu y.x z1 0 0 0 hH (by decide) u h2
  rw [if_neg c18] at h1 h2
  exact pf h1 h2 rfl
end
section
/-! ===== buoys behind the waves, how often a wave shifted: the reference's rows ===== -/
noncomputable def wvz (z : RS) : Int := (z.f 20 (z.v 18).toNatClampNeg).toInt
noncomputable def RWz (n b : Int) (f : Nat → Int32) : Prop := ∀ w : Nat, w < 5 → (n ≤ (w : Int) → f w = 0) ∧ 0 ≤ (f (10 + w)).toInt ∧ (f (10 + w)).toInt ≤ b
noncomputable def RB (b : Int) (z : RS) : Prop := RWz (wvz z) b (z.f 43) ∧ (∀ i : Nat, (i : Int) < (z.v 48).toInt → RWz (wvz z) b (fun j => z.f 49 (29 * i + j))) ∧ (∀ s : Nat, s < 3 → ¬ z.f 56 s = 0 → RWz (wvz z) b (fun j => z.f 57 (29 * s + j)))
theorem RWz.mono {n b b' : Int} {f : Nat → Int32} (h : RWz n b f) (l : b ≤ b') : RWz n b' f := fun w hw => ⟨(h w hw).1, (h w hw).2.1, by have := (h w hw).2.2; omega⟩
theorem RWz.cg {n b : Int} {f f' : Nat → Int32} (h : RWz n b f) (e : ∀ i, i < 29 → f' i = f i) : RWz n b f' := fun w hw => by
  rw [e w (by omega), e (10 + w) (by omega)]
  exact h w hw
theorem RB.mono {b b' : Int} {z : RS} (h : RB b z) (l : b ≤ b') : RB b' z := ⟨h.1.mono l, fun i hi => (h.2.1 i hi).mono l, fun s hs q => (h.2.2 s hs q).mono l⟩
theorem RB.fr {b : Int} {z z' : RS} {W : List Nat} (h : RB b z) (G : FrR W z z') (hW : 18 ∉ W ∧ 120 ∉ W ∧ 143 ∉ W ∧ 48 ∉ W ∧ 149 ∉ W ∧ 156 ∉ W ∧ 157 ∉ W) : RB b z' := by
  have ew : wvz z' = wvz z := by
    unfold wvz
    rw [G.1 18 hW.1, (G.2 20 hW.2.1).1]
  unfold RB
  rw [ew, (G.2 43 hW.2.2.1).1, G.1 48 hW.2.2.2.1, (G.2 49 hW.2.2.2.2.1).1, (G.2 56 hW.2.2.2.2.2.1).1, (G.2 57 hW.2.2.2.2.2.2).1]
  exact h
theorem RB.records {b b' : Int} {z z' : RS} (h : RB b z) (l : b ≤ b') (hr : RWz (wvz z) b' (z.f 44)) (hI : InvR z) (h1 : r_records z = some z') : RB b' z' := by
  have bu : 0 ≤ (z.v 48).toInt ∧ (z.v 48).toInt ≤ 40 := hI.1 48
  obtain ⟨U, hU⟩ : ∃ U : Nat, (z.v 48).toInt = (U : Int) := ⟨(z.v 48).toInt.toNat, by omega⟩
  obtain ⟨G, e43, e⟩ := records_eq hU (by omega) h1
  have ew : wvz z' = wvz z := by
    unfold wvz
    rw [G.1 18 (by decide), (G.2 20 (by decide)).1]
  have h0 := h.1.mono l
  refine ⟨by rw [ew]; exact hr.cg e43, fun i hi => ?_, fun s hs q => ?_⟩
  · rw [ew]
    rcases e with ⟨u1, u2, u3, u4⟩ | ⟨u1, u2, u3, u4⟩
    · by_cases q : i = U
      · refine h0.cg (fun j hj => ?_)
        rw [q]
        exact u3 j hj
      · refine ((h.2.1 i (by omega)).mono l).cg (fun j hj => ?_)
        exact u4 (29 * i + j) (by omega)
    · by_cases q : i = 39
      · refine h0.cg (fun j hj => ?_)
        rw [q]
        exact u3 j hj
      · refine ((h.2.1 (i + 1) (by omega)).mono l).cg (fun j hj => ?_)
        show z'.f 49 (29 * i + j) = z.f 49 (29 * (i + 1) + j)
        rw [u4 (29 * i + j) (by omega)]
        exact congrArg (z.f 49) (by omega)
  · rw [ew, (G.2 57 (by decide)).1]
    rw [(G.2 56 (by decide)).1] at q
    exact (h.2.2 s hs q).mono l
/-- what a year does to them -/
noncomputable def LOW (n : Nat) (y z' : RS) (d : Bool) : Prop := ∀ w, w < 5 → (n ≤ w → z'.f 44 w = y.f 44 w) ∧ (z'.f 44 (10 + w) = y.f 44 (10 + w) ∨ (d = true ∧ z'.f 44 (10 + w) = y.f 44 (10 + w) + 1))
theorem year64 {z' y0 : RS} {n : Nat} (hn5 : n ≤ 5) : ∀ (m : Nat) (y : RS) (x : Int32) (j : Nat), (y.f 20 (y.v 18).toNatClampNeg).toInt = (n : Int) → x.toInt = (j : Int) → j ≤ n → (∀ w, w < 5 → (n ≤ w → y.f 44 w = y0.f 44 w) ∧ (j ≤ w → y.f 44 (10 + w) = y0.f 44 (10 + w)) ∧ (y.f 44 (10 + w) = y0.f 44 (10 + w) ∨ y.f 44 (10 + w) = y0.f 44 (10 + w) + 1)) → r_yearGoes_64L m y x = some z' → LOW n y0 z' true := by
  intro m
  induction m with
  | zero => intro y x j _ _ _ _ h; exact none_ne h
  | succ m ih =>
    intro y x j hn ex hj hl h
    replace h : r_yearGoes_64 (r_yearGoes_64L m) y x = some z' := h
    unfold r_yearGoes_64 at h
    replace h := guard_inv h
    obtain ⟨_, h⟩ := h
    by_cases c : y.f 20 (y.v 18).toNatClampNeg ≤ x
    · rw [if_pos c] at h
      replace h := letS_inv h
      obtain ⟨s3, c3, h⟩ := h
      have e3 : s3 = z' := Option.some.inj h
      have row := r44_at c3
      rw [e3] at row
      intro w hw
      obtain ⟨l1, _, l3⟩ := hl w hw
      rw [row, row, if_neg (by omega), if_neg (by omega)]
      refine ⟨l1, ?_⟩
      rcases l3 with q | q
      · exact Or.inl q
      · exact Or.inr ⟨rfl, q⟩
    · have c' := tn_nle hn ex c
      rw [if_neg c] at h
      have a1 : (x + 1).toInt = ((j + 1 : Nat) : Int) := by
        rw [tn_add ex (by decide : (1 : Int32).toInt = 1) (by omega) (by omega)]
        omega
      replace h := guard_inv h
      obtain ⟨_, h⟩ := h
      by_cases d : y.f 47 x.toNatClampNeg = 0
      · rw [if_pos d] at h
        unfold r_yearGoes_119 at h
        exact ih y (x + 1) (j + 1) hn a1 (by omega) (fun w hw => ⟨(hl w hw).1, fun q => (hl w hw).2.1 (by omega), (hl w hw).2.2⟩) h
      · rw [if_neg d] at h
        have a5 : (5 + x).toInt = ((5 + j : Nat) : Int) := by
          rw [tn_add (by decide : (5 : Int32).toInt = 5) ex (by omega) (by omega)]
          omega
        have a10 : (10 + x).toInt = ((10 + j : Nat) : Int) := by
          rw [tn_add (by decide : (10 : Int32).toInt = 10) ex (by omega) (by omega)]
          omega
        replace h := guard_inv h
        obtain ⟨_, h⟩ := h
        replace h := letS_inv h
        obtain ⟨s8, c8, h⟩ := h
        replace h := guard_inv h
        obtain ⟨_, h⟩ := h
        replace h := letS_inv h
        obtain ⟨s11, c11, h⟩ := h
        replace h := guard_inv h
        obtain ⟨_, h⟩ := h
        replace h := guard_inv h
        obtain ⟨_, h⟩ := h
        replace h := letS_inv h
        obtain ⟨s15, c15, h⟩ := h
        unfold r_yearGoes_119 at h
        rw [clamp_of_int ex] at c8
        rw [clamp_of_int a5] at c11
        rw [clamp_of_int a10] at c15
        have r8 := r44_at c8
        have r11 := r44_at c11
        have r15 := r44_at c15
        have F : FrR [144] y s15 := ((FrR.one c8).trans (FrR.one c11) (fun _ q => q)).trans (FrR.one c15) (fun _ q => q)
        have row : ∀ u, ¬ u = 5 + j → s15.f 44 u = if u = 10 + j then y.f 44 (10 + j) + 1 else if u = j then 0 else y.f 44 u := fun u hu => by
          rw [r15 u]
          by_cases q : u = 10 + j
          · rw [if_pos q, if_pos q, r11, if_neg (by omega), r8, if_neg (by omega)]
          · rw [if_neg q, if_neg q, r11, if_neg hu, r8]
        refine ih s15 (x + 1) (j + 1) (by rw [F.1 18 (by decide), (F.2 20 (by decide)).1]; exact hn) a1 (by omega) (fun w hw => ?_) h
        obtain ⟨l1, l2, l3⟩ := hl w hw
        rw [row w (by omega), row (10 + w) (by omega), if_neg (by omega)]
        refine ⟨fun q => ?_, fun q => ?_, ?_⟩
        · rw [if_neg (by omega)]
          exact l1 q
        · rw [if_neg (by omega), if_neg (by omega)]
          exact l2 (by omega)
        · by_cases q : w = j
          · rw [if_pos (by omega), ← q, l2 (by omega)]
            exact Or.inr rfl
          · rw [if_neg (by omega), if_neg (by omega)]
            exact l3
theorem year_low {z z' : RS} {n : Nat} (hn : wvz z = (n : Int)) (hn5 : n ≤ 5) (hB : Big z) (hI : InvR z) (h : r_yearGoes z = some z') : LOW n z z' true ∧ FrR (144 :: WYZ) z z' := by
  have Q := ok_r_yearGoes z hI hB
  obtain ⟨q, q1, q2⟩ := Q
  rw [h] at q1
  have eq : q = z' := (Option.some.inj q1).symm
  rw [eq] at q2
  unfold r_yearGoes at h
  obtain ⟨y, y1, y2, _, _, _⟩ := year_first (z0 := z) hn hn5 hB fu z 0 0 FrR.rfl hI (by decide) (Nat.zero_le _) h
  have L := year64 (y0 := y) hn5 fu y 0 0 (by
    have := hn
    unfold wvz at this
    rw [y2.1 18 (by decide), (y2.2 20 (by decide)).1]
    exact this) (by decide) (Nat.zero_le _) (fun w _ => ⟨fun _ => rfl, fun _ => rfl, Or.inl rfl⟩) y1
  have f44 : y.f 44 = z.f 44 := (y2.2 44 (by decide)).1
  refine ⟨fun w hw => ?_, (FrR.rfl (W := 144 :: WYZ)).trans q2.2 (by decide)⟩
  have := L w hw
  rw [f44] at this
  exact this
theorem years_low {z' : RS} {n : Nat} (hn5 : n ≤ 5) {x : Int32} : ∀ (m : Nat) (z : RS) (x2 : Int32) (j : Nat) (b : Int), wvz z = (n : Int) → Big z → InvR z → x2.toInt = (j : Int) → (j : Int) ≤ x.toInt → x.toInt ≤ 40 → b ≤ 1000000 → RWz (n : Int) (b + (j : Int)) (z.f 44) → r_yearsGo_2L m z x x2 = some z' → RWz (n : Int) (b + x.toInt) (z'.f 44) ∧ FrR (144 :: WYZ) z z' ∧ InvR z' := by
  intro m
  induction m with
  | zero => intro z x2 j b _ _ _ _ _ _ _ _ h; exact none_ne h
  | succ m ih =>
    intro z x2 j b hn hB hI e2 hj hx hb hr h
    replace h : r_yearsGo_2 (r_yearsGo_2L m) z x x2 = some z' := h
    unfold r_yearsGo_2 at h
    by_cases c : x ≤ x2
    · have c' := ti_le c
      rw [if_pos c] at h
      rw [← Option.some.inj h]
      have ej : x.toInt = (j : Int) := by omega
      rw [ej]
      exact ⟨hr, FrR.rfl, hI⟩
    · have c' := ti_nle c
      rw [if_neg c] at h
      replace h := bindP_inv h
      obtain ⟨z2, w2, h⟩ := h
      obtain ⟨L, G⟩ := year_low hn hn5 hB hI w2
      have I2 : InvR z2 := by
        obtain ⟨q, q1, q2⟩ := ok_r_yearGoes z hI hB
        rw [w2] at q1
        rw [Option.some.inj q1]
        exact q2.1
      have a2 : (x2 + 1).toInt = ((j + 1 : Nat) : Int) := by
        rw [tn_add e2 (by decide : (1 : Int32).toInt = 1) (by omega) (by omega)]
        omega
      have r2 : RWz (n : Int) (b + ((j + 1 : Nat) : Int)) (z2.f 44) := fun w hw => by
        obtain ⟨l1, l2⟩ := L w hw
        obtain ⟨h1, h2, h3⟩ := hr w hw
        refine ⟨fun q => by rw [l1 (by omega)]; exact h1 q, ?_⟩
        rcases l2 with e | ⟨_, e⟩
        · rw [e]
          omega
        · rw [e, tn_add (rfl : (z.f 44 (10 + w)).toInt = _) (by decide : (1 : Int32).toInt = 1) (by omega) (by omega)]
          omega
      obtain ⟨i1, i2, i3⟩ := ih z2 (x2 + 1) (j + 1) b (by unfold wvz at *; rw [G.1 18 (by decide), (G.2 20 (by decide)).1]; exact hn) (hB.fr G (by decide)) I2 a2 (by omega) hx hb r2 h
      exact ⟨i1, G.trans i2 (fun _ q => q), i3⟩
/-- next -/
theorem one_year {s s' : JS} {z z' : RS} (hJ : JR s z) (hF : FO s.k s.d) (h1 : kX0_passYears s 1 = some s') (h2 : r_yearGoes z = some z') : FrK WSK s.k s'.k ∧ FrR (144 :: WYZ) z z' ∧ JR s' z' ∧ FO s'.k s'.d := by
  refine years_same hJ hF h1 ?_
  unfold r_yearsGo
  show r_yearsGo_2 (r_yearsGo_2L 19999) z 1 0 = some z'
  unfold r_yearsGo_2
  rw [if_neg (by decide), h2, bindP_some]
  show r_yearsGo_2 (r_yearsGo_2L 19998) z' 1 (0 + 1) = some z'
  unfold r_yearsGo_2
  exact if_pos (by decide)
theorem nextL {x1 r1 r2 : Int32} {s' : XS} {z' : RS} {w N : Nat} (ew : x1.toInt = (w : Int)) (hN5 : N ≤ 5) (hw : w < N) : ∀ (n m : Nat) (s : XS) (z : RS) (x2 : Int32), (s.k.v 1).toInt = (N : Int) → JR (JS.mk s.k s.t) z → FO s.k s.t → s.n.f 2 w = z.f 43 (10 + w) → z.f 44 (10 + w) = z.f 43 (10 + w) → (z.f 43 (10 + w)).toInt ≤ 1000000 → kX10_next_26L n s x1 x2 = some (r1, s') → r_next_16L m z x1 x2 = some (r2, z') → r1 = r2 := by
  intro n
  induction n with
  | zero => intro m s z x2 _ _ _ _ _ _ h1; exact none_ne h1
  | succ n ih =>
    intro m s z x2 hN hJ hF e1 e2 hb h1 h2
    cases m with
    | zero => exact none_ne h2
    | succ m =>
    replace h1 : kX10_next_26 (kX10_next_26L n) s x1 x2 = some (r1, s') := h1
    replace h2 : r_next_16 (r_next_16L m) z x1 x2 = some (r2, z') := h2
    unfold kX10_next_26 at h1
    unfold r_next_16 at h2
    by_cases c : 40 < x2
    · rw [if_pos c] at h1 h2
      rw [← fst_som h1, ← fst_som h2]
    · rw [if_neg c] at h1 h2
      replace h1 := bindP_inv h1
      obtain ⟨s2, u2, h1⟩ := h1
      replace h1 := letS_inv h1
      obtain ⟨s3, c3, h1⟩ := h1
      replace h2 := bindP_inv h2
      obtain ⟨z2, w2, h2⟩ := h2
      obtain ⟨Fk, G, J2, F2⟩ := one_year hJ hF u2 w2
      have hz : wvz z = (N : Int) := by
        unfold wvz
        rw [← hJ.1.1.1]
        exact hN
      obtain ⟨L, _⟩ := year_low hz hN5 hJ.2.2.1 hJ.2.2.2.1 w2
      have a10 : (10 + x1).toInt = ((10 + w : Nat) : Int) := by
        rw [tn_add (by decide : (10 : Int32).toInt = 10) ew (by omega) (by omega)]
        omega
      have k3 : s3.k = s2.k ∧ s3.t = s2.d ∧ s3.n = s.n := by
        rw [← c3]
        exact ⟨rfl, rfl, rfl⟩
      have f43 : z2.f 43 = z.f 43 := (G.2 43 (by decide)).1
      replace h1 := guard_inv h1
      obtain ⟨_, h1⟩ := h1
      replace h1 := guard_inv h1
      obtain ⟨_, h1⟩ := h1
      replace h2 := guard_inv h2
      obtain ⟨_, h2⟩ := h2
      replace h2 := guard_inv h2
      obtain ⟨_, h2⟩ := h2
      have t2 : s3.t.f 2 w = z2.f 44 (10 + w) := by
        rw [k3.2.1]
        exact (J2.2.1.1 w (by omega)).2.2.2
      have n2 : s3.n.f 2 w = z.f 43 (10 + w) := by
        rw [k3.2.2]
        exact e1
      rw [clamp_of_int ew, t2, n2] at h1
      rw [clamp_of_int a10, f43] at h2
      rcases (L w (by omega)).2 with q | ⟨_, q⟩
      · rw [q, e2] at h1 h2
        rw [if_pos rfl] at h1
        rw [if_pos (Int32.le_iff_toInt_le.mpr (Int.le_refl _))] at h2
        refine ih m s3 z2 (x2 + 1) ?_ ?_ ?_ ?_ ?_ ?_ h1 h2
        · rw [k3.1, Fk.1 1 (by decide)]
          exact hN
        · have e : JS.mk s3.k s3.t = s2 := by rw [k3.1, k3.2.1]; rfl
          rw [e]
          exact J2
        · rw [k3.1, k3.2.1]
          exact F2
        · rw [n2, f43]
        · rw [q, e2, f43]
        · rw [f43]
          exact hb
      · have up : (z2.f 44 (10 + w)).toInt = (z.f 43 (10 + w)).toInt + 1 := by
          rw [q, e2, tn_add (rfl : (z.f 43 (10 + w)).toInt = _) (by decide : (1 : Int32).toInt = 1) (by have := ti_rng (z.f 43 (10 + w)); omega) (by omega)]
        rw [if_neg (fun e => by rw [e] at up; omega)] at h1
        rw [if_neg (fun e => by have := ti_le e; omega)] at h2
        rw [← fst_som h1, ← fst_som h2]
theorem next_same {y : YS} {x' : XS} {z z' : RS} {x1 r1 r2 : Int32} {b : Int} (h : REL y z) (hK : InvK y.x.k) (hI : InvR z) (hB : Big z) (hR : RB b z) (hb : b ≤ 1000000) (h1 : kX10_next y.x x1 = some (r1, x')) (h2 : r_next z x1 = some (r2, z')) : r1 = r2 ∧ True := by
  refine ⟨?_, trivial⟩
  have bw : 0 ≤ (y.x.k.v 1).toInt ∧ (y.x.k.v 1).toInt ≤ 5 := hK.1 1
  have ev : y.x.k.v 1 = z.f 20 (z.v 18).toNatClampNeg := h.1.1.1
  unfold kX10_next at h1
  unfold r_next at h2
  rw [kw_eq, bindI_some] at h1
  rw [rw_eq hI, ← ev, bindI_some] at h2
  replace h1 := letS_inv h1
  obtain ⟨s3, c3, h1⟩ := h1
  have e3 : s3 = y.x := by rw [← c3]; rfl
  rw [e3] at h1
  by_cases hx : 0 ≤ x1.toInt ∧ x1.toInt < (y.x.k.v 1).toInt
  · rw [if_pos hx, if_neg z_one] at h1 h2
    replace h1 := bindP_inv h1
    obtain ⟨s6, u6, h1⟩ := h1
    replace h1 := letS_inv h1
    obtain ⟨s7, c7, h1⟩ := h1
    replace h2 := bindP_inv h2
    obtain ⟨z4, w4, h2⟩ := h2
    obtain ⟨e6, q6⟩ := copyFrom_eq u6
    have q6 : SDq s6.d y.x.n := q6
    have e6 : s6.e = y.x.n := e6
    obtain ⟨hJ, G⟩ := h.jr hK hI hB w4
    obtain ⟨w, ew⟩ : ∃ w : Nat, x1.toInt = (w : Int) := ⟨x1.toInt.toNat, by omega⟩
    obtain ⟨N, hN⟩ : ∃ N : Nat, (y.x.k.v 1).toInt = (N : Int) := ⟨(y.x.k.v 1).toInt.toNat, by omega⟩
    have k7 : s7.k = y.x.k ∧ s7.t = s6.d ∧ s7.n = y.x.n := by
      rw [← c7, e6]
      exact ⟨rfl, rfl, rfl⟩
    have f43 : z4.f 43 = z.f 43 := (G.2 43 (by decide)).1
    unfold r_copies at w4
    obtain ⟨cp, _, _⟩ := copiesL fu z 0 0 (by decide) (by omega) w4
    refine nextL (N := N) ew (by omega) (by omega) fu fu s7 z4 1 ?_ ?_ ?_ ?_ ?_ ?_ h1 h2
    · rw [k7.1]
      exact hN
    · rw [k7.1, k7.2.1]
      exact hJ.q q6
    · rw [k7.1, k7.2.1]
      exact h.2.1.2.q hK q6
    · rw [k7.2.2, f43]
      exact (h.2.1.1.1 w (by omega)).2.2.2
    · rw [cp (10 + w) (Nat.zero_le _) (by omega), f43]
    · rw [f43]
      have := (hR.1 w (by omega)).2.2
      omega
  · rw [if_neg hx, if_pos rfl] at h1 h2
    have f1 : -1 = r1 := congrArg Prod.fst (Option.some.inj h1)
    have f2 : -1 = r2 := congrArg Prod.fst (Option.some.inj h2)
    rw [← f1, ← f2]
end
section
/-! ===== the reference's rows through all calls ===== -/
noncomputable def RBn (i : Nat) (z : RS) : Prop := RB (7 * (i : Int)) z
theorem RBn.q {i : Nat} {z z' : RS} {W : List Nat} (h : RBn i z) (G : FrR W z z') (hW : 18 ∉ W ∧ 120 ∉ W ∧ 143 ∉ W ∧ 48 ∉ W ∧ 149 ∉ W ∧ 156 ∉ W ∧ 157 ∉ W) : RBn (i + 6) z' := (h.fr G hW).mono (by omega)
theorem RBn.up {i : Nat} {z : RS} {b : Int} (h : RB b z) (l : b ≤ 7 * (i : Int) + 42) : RBn (i + 6) z := h.mono (by omega)
theorem thing_st {z z' : RS} {a b r : Int32} (h : r_thingAt z a b = some (r, z')) : z' = z := by
  unfold r_thingAt at h
  replace h := guard_inv h
  obtain ⟨_, h⟩ := h
  replace h := guard_inv h
  obtain ⟨_, h⟩ := h
  exact (congrArg Prod.snd (Option.some.inj h)).symm
theorem goes39 {x1 x2 x3 x4 r : Int32} {z' y0 : RS} {n p : Nat} (hn5 : n ≤ 5) (e1 : x1.toInt = (p : Int)) (hp : p < 6) : ∀ (m : Nat) (y : RS) (x : Int32) (j : Nat), (y.f 20 (y.v 18).toNatClampNeg).toInt = (n : Int) → x.toInt = (j : Int) → j ≤ n → LOW n y0 y false → r_goesBy_39L m y x1 x2 x3 x4 x = some (r, z') → LOW n y0 z' false := by
  have a15 : (15 + x1).toInt = ((15 + p : Nat) : Int) := by
    rw [tn_add (by decide : (15 : Int32).toInt = 15) e1 (by omega) (by omega)]
    omega
  have low : ∀ {y t : RS} {i : Nat} {v : Int32}, y.sf 44 i v = t → LOW n y0 y false → (i < n ∨ (5 ≤ i ∧ i < 10) ∨ 15 ≤ i) → LOW n y0 t false := by
    intro y t i v c L hi w hw
    obtain ⟨l1, l2⟩ := L w hw
    have row := r44_at c
    rw [row, row, if_neg (show ¬ 10 + w = i by omega)]
    refine ⟨fun q => ?_, l2⟩
    rw [if_neg (by omega)]
    exact l1 q
  intro m
  induction m with
  | zero => intro y x j _ _ _ _ h; exact none_ne h
  | succ m ih =>
    intro y x j hn ex hj L h
    replace h : r_goesBy_39 (r_goesBy_39L m) y x1 x2 x3 x4 x = some (r, z') := h
    unfold r_goesBy_39 at h
    replace h := guard_inv h
    obtain ⟨_, h⟩ := h
    by_cases c : y.f 20 (y.v 18).toNatClampNeg ≤ x
    · rw [if_pos c] at h
      replace h := guard_inv h
      obtain ⟨_, h⟩ := h
      replace h := letS_inv h
      obtain ⟨s4, c4, h⟩ := h
      replace h := guard_inv h
      obtain ⟨_, h⟩ := h
      rw [clamp_of_int a15] at c4
      rw [← snd_som h]
      exact low c4 L (by omega)
    · have c' := tn_nle hn ex c
      rw [if_neg c] at h
      replace h := bindI_inv h
      obtain ⟨r8, s7, h7, h⟩ := h
      rw [thing_st h7] at h
      by_cases d : x = x4
      · rw [if_pos d] at h
        replace h := guard_inv h
        obtain ⟨_, h⟩ := h
        replace h := letS_inv h
        obtain ⟨s21, c21, h⟩ := h
        rw [clamp_of_int a15] at c21
        rw [← snd_som h]
        exact low c21 L (by omega)
      · rw [if_neg d] at h
        replace h := bindI_inv h
        obtain ⟨r11, s10, h10, h⟩ := h
        rw [thing_st h10] at h
        by_cases f : r8 = r11
        · rw [if_pos f] at h
          replace h := guard_inv h
          obtain ⟨_, h⟩ := h
          replace h := letS_inv h
          obtain ⟨s14, c14, h⟩ := h
          have a5 : (5 + x).toInt = ((5 + j : Nat) : Int) := by
            rw [tn_add (by decide : (5 : Int32).toInt = 5) ex (by omega) (by omega)]
            omega
          rw [clamp_of_int a5] at c14
          have F : FrR [144] y s14 := FrR.one c14
          have a1 : (x + 1).toInt = ((j + 1 : Nat) : Int) := by
            rw [tn_add ex (by decide : (1 : Int32).toInt = 1) (by omega) (by omega)]
            omega
          exact ih s14 (x + 1) (j + 1) (by rw [F.1 18 (by decide), (F.2 20 (by decide)).1]; exact hn) a1 (by omega) (low c14 L (by omega)) h
        · rw [if_neg f] at h
          replace h := guard_inv h
          obtain ⟨_, h⟩ := h
          replace h := guard_inv h
          obtain ⟨_, h⟩ := h
          replace h := letS_inv h
          obtain ⟨s18, c18, h⟩ := h
          rw [clamp_of_int ex] at c18
          rw [← snd_som h]
          exact low c18 L (by omega)
theorem LOW.rw {n : Nat} {b : Int} {y z : RS} {f : Nat → Int32} (h : LOW n y z false) (hf : ∀ i, i < 29 → y.f 44 i = f i) (hr : RWz (n : Int) b f) : RWz (n : Int) b (z.f 44) := fun w hw => by
  obtain ⟨l1, l2⟩ := h w hw
  obtain ⟨h1, h2⟩ := hr w hw
  refine ⟨fun q => ?_, ?_⟩
  · rw [l1 (by omega), hf w (by omega)]
    exact h1 q
  · rcases l2 with e | ⟨e, _⟩
    · rw [e, hf (10 + w) (by omega)]
      exact h2
    · exact absurd e (by decide)
theorem goes_low {z z' : RS} {x1 x2 x3 r : Int32} {n p : Nat} (hn : wvz z = (n : Int)) (hn5 : n ≤ 5) (hI : InvR z) (hB : Big z) (e1 : x1.toInt = (p : Int)) (hp : p < 6) (b2 : 0 ≤ x2.toInt ∧ x2.toInt ≤ 194400) (h : r_goesBy z x1 x2 x3 = some (r, z')) : LOW n z z' false := by
  unfold r_goesBy at h
  replace h := bindI_inv h
  obtain ⟨rb, s1, h1, h⟩ := h
  have Q1 := of_ok (ok_r_bearsBy z x1 x2 hI hB (by omega) (by omega) b2.1 b2.2) h1
  replace h := bindI_inv h
  obtain ⟨r4, s3, h3, h⟩ := h
  have Q3 := of_ok (ok_r_faresOf s1 x1 Q1.1 (hB.fr Q1.2.1 (by decide)) (by omega) (by omega)) h3
  replace h := letS_inv h
  obtain ⟨s5, c5, h⟩ := h
  replace h := guard_inv h
  obtain ⟨_, h⟩ := h
  replace h := guard_inv h
  obtain ⟨_, h⟩ := h
  replace h := letS_inv h
  obtain ⟨s9, c9, h⟩ := h
  have a21 : (21 + x1).toInt = ((21 + p : Nat) : Int) := by
    rw [tn_add (by decide : (21 : Int32).toInt = 21) e1 (by omega) (by omega)]
    omega
  rw [clamp_of_int a21] at c9
  have r5 := r44_at c5
  have r9 := r44_at c9
  have f1 : s1.f 44 = z.f 44 := (Q1.2.1.2 44 (by decide)).1
  have f3 : s3.f 44 = s1.f 44 := (Q3.2.1.2 44 (by decide)).1
  have G : FrR (144 :: WSZ) z s9 := ((((FrR.rfl (W := 144 :: WSZ)).trans Q1.2.1 (by decide)).trans Q3.2.1 (by decide)).trans (FrR.one c5) (by decide)).trans (FrR.one c9) (by decide)
  refine goes39 (y0 := z) hn5 e1 hp fu s9 0 0 (by
    have := hn
    unfold wvz at this
    rw [G.1 18 (by decide), (G.2 20 (by decide)).1]
    exact this) (by decide) (Nat.zero_le _) (fun w hw => ?_) h
  have e : ∀ u, u < 15 → s9.f 44 u = z.f 44 u := fun u hu => by
    rw [r9, if_neg (by omega), r5, if_neg (by omega), f3, f1]
  rw [e w (by omega), e (10 + w) (by omega)]
  exact ⟨fun _ => rfl, Or.inl rfl⟩
theorem wvz_nat {z : RS} (hI : InvR z) : ∃ n : Nat, wvz z = (n : Int) ∧ n ≤ 5 := by
  have b : 0 ≤ wvz z ∧ wvz z ≤ 5 := hI.2 20 _
  exact ⟨(wvz z).toNat, by omega, by omega⟩
theorem wvz_fr {z z' : RS} {W : List Nat} (G : FrR W z z') (hW : 18 ∉ W ∧ 120 ∉ W) : wvz z' = wvz z := by
  unfold wvz
  rw [G.1 18 hW.1, (G.2 20 hW.2).1]
theorem rb_copies {z z1 : RS} (h : r_copies z = some z1) : ∀ i, i < 29 → z1.f 44 i = z.f 43 i := by
  unfold r_copies at h
  obtain ⟨cp, _, _⟩ := copiesL fu z 0 0 (by decide) (by omega) h
  exact fun i hi => cp i (Nat.zero_le _) hi
theorem isGuess_st {z z' : RS} {x r : Int32} (h : r_isGuess z x = some (r, z')) (h6 : ∀ j, j < 6 → z.f 46 j = six6 j) {n : Nat} (hn : wvz z = (n : Int)) (hn5 : n ≤ 5) : z' = z ∧ (¬ r = 0 → 0 ≤ x.toInt ∧ x.toInt ≤ 7775) := by
  unfold r_isGuess at h
  replace h := bindI_inv h
  obtain ⟨q, z1, h1, h⟩ := h
  obtain ⟨ez, eq⟩ := r_guessN h6 hn5 hn h1
  have pl := pow_le n hn5
  have pp : 0 < 6 ^ n := Nat.pow_pos (by omega)
  have q1 : (q - 1).toInt = ((6 ^ n : Nat) : Int) - 1 := tn_sub eq (by decide : (1 : Int32).toInt = 1) (by omega) (by omega)
  rw [in_range (A := 0) (B := ((6 ^ n : Nat) : Int) - 1) (by decide) q1, bindP_some] at h
  by_cases c : 0 ≤ x.toInt ∧ x.toInt ≤ ((6 ^ n : Nat) : Int) - 1
  · rw [if_pos c, if_pos (Or.inr rfl)] at h
    have e := Option.some.inj h
    exact ⟨by rw [← ez]; exact (congrArg Prod.snd e).symm, fun _ => ⟨c.1, by omega⟩⟩
  · rw [if_neg c, if_pos (Or.inl rfl)] at h
    have e := Option.some.inj h
    exact ⟨by rw [← ez]; exact (congrArg Prod.snd e).symm, fun q => absurd (congrArg Prod.fst e).symm q⟩
theorem rb_go {i : Nat} {z z' : RS} {x1 x2 r : Int32} (h : RBn i z) (h6 : ∀ j, j < 6 → z.f 46 j = six6 j) (hI : InvR z) (hB : Big z) (h2 : r_go z x1 x2 = some (r, z')) : RBn (i + 6) z' := by
  obtain ⟨n, hn, hn5⟩ := wvz_nat hI
  have bp : 0 ≤ (z.f 23 (z.v 18).toNatClampNeg).toInt ∧ (z.f 23 (z.v 18).toNatClampNeg).toInt ≤ 6 := hI.2 23 _
  have same : z' = z → RBn (i + 6) z' := fun e => by
    rw [e]
    exact RBn.up h (by omega)
  unfold r_go at h2
  by_cases hp : 0 ≤ x1.toInt ∧ x1.toInt < (z.f 23 (z.v 18).toNatClampNeg).toInt
  · obtain ⟨p, ep⟩ : ∃ p : Nat, x1.toInt = (p : Int) := ⟨x1.toInt.toNat, by omega⟩
    rw [rh_eq hI ep (by omega), bindI_some] at h2
    by_cases c : z.f 43 (15 + p) = 0
    · rw [if_pos c, if_neg z_one] at h2
      replace h2 := guard_inv h2
      obtain ⟨_, h2⟩ := h2
      by_cases cw : z.f 20 (z.v 18).toNatClampNeg = 0
      · rw [if_pos cw] at h2
        exact same (congrArg Prod.snd (Option.some.inj h2)).symm
      · rw [if_neg cw] at h2
        replace h2 := bindI_inv h2
        obtain ⟨r7, z6, w6, h2⟩ := h2
        obtain ⟨e6, gb⟩ := isGuess_st w6 h6 hn hn5
        by_cases cg : r7 = 0
        · rw [if_pos cg] at h2
          exact same ((congrArg Prod.snd (Option.some.inj h2)).symm.trans e6)
        · obtain ⟨g1, g2⟩ := gb cg
          rw [if_neg cg, e6] at h2
          replace h2 := bindP_inv h2
          obtain ⟨z9, w9, h2⟩ := h2
          replace h2 := bindI_inv h2
          obtain ⟨q11, z10, w11, h2⟩ := h2
          replace h2 := bindI_inv h2
          obtain ⟨q13, z12, w13, h2⟩ := h2
          replace h2 := bindP_inv h2
          obtain ⟨z14, w14, h2⟩ := h2
          rw [← snd_som h2]
          have Q9 := of_ok (ok_r_copies z hI) w9
          have B9 := hB.fr Q9.2 (by decide)
          have Q10 := of_ok (ok_r_thereNumber z9 Q9.1 B9) w11
          have e10 : z10 = z9 := Q10.2.1.eq
          rw [e10] at w13
          have Q12 := of_ok (ok_r_goesBy z9 x1 x2 q11 Q9.1 B9 (by omega) (by omega) g1 (by omega) Q10.2.2.1 Q10.2.2.2) w13
          have L := goes_low (n := n) (by rw [wvz_fr Q9.2 (by decide)]; exact hn) hn5 Q9.1 B9 ep (by omega) ⟨g1, by omega⟩ w13
          have G : FrR [42, 45, 140, 141, 144] z z12 := ((FrR.rfl (W := [42, 45, 140, 141, 144])).trans Q9.2 (by decide)).trans Q12.2.1 (by decide)
          have R := h.fr G (by decide)
          have rw12 : RWz (n : Int) (7 * (i : Int)) (z12.f 44) := L.rw (rb_copies w9) (by rw [← hn]; exact h.1)
          refine RBn.up (R.records (Int.le_refl _) ?_ Q12.1 w14) (by omega)
          rw [wvz_fr G (by decide), hn]
          exact rw12
    · rw [if_neg c, if_pos rfl] at h2
      exact same (congrArg Prod.snd (Option.some.inj h2)).symm
  · rw [rh_no hI hp, bindI_some, if_pos rfl] at h2
    exact same (congrArg Prod.snd (Option.some.inj h2)).symm
theorem put_row {n : Nat} {b : Int} {y t : RS} {f : Nat → Int32} {i : Nat} {v : Int32} (hn5 : n ≤ 5) (c : y.sf 44 i v = t) (hf : ∀ i, i < 29 → y.f 44 i = f i) (hr : RWz (n : Int) b f) (hi : i < n ∨ (5 ≤ i ∧ i < 10) ∨ 15 ≤ i) : RWz (n : Int) b (t.f 44) := fun w hw => by
  have row := r44_at c
  obtain ⟨h1, h2⟩ := hr w hw
  rw [row, row, if_neg (show ¬ 10 + w = i by omega), hf (10 + w) (by omega)]
  refine ⟨fun q => ?_, h2⟩
  rw [if_neg (by omega), hf w (by omega)]
  exact h1 q
theorem rb_buoy {i : Nat} {z z' : RS} {x1 x2 x3 r : Int32} (h : RBn i z) (hI : InvR z) (h2 : r_buoy z x1 x2 x3 = some (r, z')) : RBn (i + 6) z' := by
  obtain ⟨n, hn, hn5⟩ := wvz_nat hI
  have same : z' = z → RBn (i + 6) z' := fun e => by
    rw [e]
    exact RBn.up h (by omega)
  unfold r_buoy at h2
  rw [rw_eq hI, bindI_some] at h2
  by_cases hw : 0 ≤ x1.toInt ∧ x1.toInt < (z.f 20 (z.v 18).toNatClampNeg).toInt
  · rw [if_pos hw, if_neg z_one] at h2
    obtain ⟨w, ew⟩ : ∃ w : Nat, x1.toInt = (w : Int) := ⟨x1.toInt.toNat, by omega⟩
    have wn : w < n := by
      have : wvz z = (z.f 20 (z.v 18).toNatClampNeg).toInt := rfl
      omega
    replace h2 := bindP_inv h2
    obtain ⟨r4, w4, h2⟩ := h2
    by_cases c4 : r4 = 0
    · rw [if_pos c4] at h2
      exact same (congrArg Prod.snd (Option.some.inj h2)).symm
    · rw [if_neg c4] at h2
      replace h2 := guard_inv h2
      obtain ⟨_, h2⟩ := h2
      have go : ∀ t : Int32, r_buoy_34 z x1 x2 x3 t = some (r, z') → RBn (i + 6) z' := by
        intro t g
        unfold r_buoy_34 at g
        by_cases c : t = x3
        · rw [if_pos c] at g
          exact same (congrArg Prod.snd (Option.some.inj g)).symm
        · rw [if_neg c] at g
          replace g := bindP_inv g
          obtain ⟨z2, w2, g⟩ := g
          replace g := guard_inv g
          obtain ⟨_, g⟩ := g
          replace g := guard_inv g
          obtain ⟨_, g⟩ := g
          replace g := letS_inv g
          obtain ⟨z5, c5, g⟩ := g
          replace g := bindP_inv g
          obtain ⟨z7, w7, g⟩ := g
          rw [clamp_of_int ew] at c5
          rw [← snd_som g]
          have Q2 := of_ok (ok_r_copies z hI) w2
          have G : FrR [45, 144] z z5 := Q2.2.trans (FrR.one c5) (by decide)
          have I5 : InvR z5 := by
            rw [← c5]
            exact Q2.1.sfF (by decide) (by decide)
          refine RBn.up ((h.fr G (by decide)).records (Int.le_refl _) ?_ I5 w7) (by omega)
          rw [wvz_fr G (by decide), hn]
          exact put_row hn5 c5 (rb_copies w2) (by rw [← hn]; exact h.1) (Or.inl wn)
      by_cases d : (((z.f 43 (Int32.toNatClampNeg x1)) >>> (x2 &&& 31)) &&& 1) = 1
      · rw [if_pos d] at h2
        exact go 1 h2
      · rw [if_neg d] at h2
        exact go 0 h2
  · rw [if_neg hw, if_pos rfl] at h2
    exact same (congrArg Prod.snd (Option.some.inj h2)).symm
theorem rb_fetch {i : Nat} {z z' : RS} {x1 r : Int32} (h : RBn i z) (hI : InvR z) (h2 : r_fetch z x1 = some (r, z')) : RBn (i + 6) z' := by
  obtain ⟨n, hn, hn5⟩ := wvz_nat hI
  have bp : 0 ≤ (z.f 23 (z.v 18).toNatClampNeg).toInt ∧ (z.f 23 (z.v 18).toNatClampNeg).toInt ≤ 6 := hI.2 23 _
  have same : z' = z → RBn (i + 6) z' := fun e => by
    rw [e]
    exact RBn.up h (by omega)
  unfold r_fetch at h2
  rw [rp_eq hI, bindI_some] at h2
  by_cases hp : 0 ≤ x1.toInt ∧ x1.toInt < (z.f 23 (z.v 18).toNatClampNeg).toInt
  · rw [if_pos hp, if_neg z_one] at h2
    obtain ⟨p, ep⟩ : ∃ p : Nat, x1.toInt = (p : Int) := ⟨x1.toInt.toNat, by omega⟩
    have a15 : (15 + x1).toInt = ((15 + p : Nat) : Int) := by
      rw [tn_add (by decide : (15 : Int32).toInt = 15) ep (by omega) (by omega)]
      omega
    replace h2 := guard_inv h2
    obtain ⟨_, h2⟩ := h2
    by_cases c : z.f 43 (Int32.toNatClampNeg (15 + x1)) = 0
    · rw [if_pos c] at h2
      exact same (congrArg Prod.snd (Option.some.inj h2)).symm
    · rw [if_neg c] at h2
      replace h2 := bindP_inv h2
      obtain ⟨z6, w6, h2⟩ := h2
      replace h2 := guard_inv h2
      obtain ⟨_, h2⟩ := h2
      replace h2 := letS_inv h2
      obtain ⟨z8, c8, h2⟩ := h2
      replace h2 := bindP_inv h2
      obtain ⟨z10, w10, h2⟩ := h2
      rw [clamp_of_int a15] at c8
      rw [← snd_som h2]
      have Q6 := of_ok (ok_r_copies z hI) w6
      have G : FrR [45, 144] z z8 := Q6.2.trans (FrR.one c8) (by decide)
      have I8 : InvR z8 := by
        rw [← c8]
        exact Q6.1.sfF (by decide) (by decide)
      refine RBn.up ((h.fr G (by decide)).records (Int.le_refl _) ?_ I8 w10) (by omega)
      rw [wvz_fr G (by decide), hn]
      exact put_row hn5 c8 (rb_copies w6) (by rw [← hn]; exact h.1) (Or.inr (Or.inr (by omega)))
  · rw [if_neg hp, if_pos rfl] at h2
    exact same (congrArg Prod.snd (Option.some.inj h2)).symm
theorem rb_years {i : Nat} {z z' : RS} {x1 r : Int32} (hi : i ≤ 3072) (h : RBn i z) (hI : InvR z) (hB : Big z) (h2 : r_years z x1 = some (r, z')) : RBn (i + 6) z' := by
  obtain ⟨n, hn, hn5⟩ := wvz_nat hI
  have same : z' = z → RBn (i + 6) z' := fun e => by
    rw [e]
    exact RBn.up h (by omega)
  unfold r_years at h2
  rw [long_eq, bindP_some] at h2
  by_cases hx : 0 ≤ x1.toInt ∧ x1.toInt ≤ 40
  · rw [if_pos hx, if_neg z_one] at h2
    by_cases c : x1 = 0
    · rw [if_pos c] at h2
      exact same (congrArg Prod.snd (Option.some.inj h2)).symm
    · rw [if_neg c] at h2
      replace h2 := bindP_inv h2
      obtain ⟨z4, w4, h2⟩ := h2
      replace h2 := bindP_inv h2
      obtain ⟨z5, w5, h2⟩ := h2
      replace h2 := bindP_inv h2
      obtain ⟨z6, w6, h2⟩ := h2
      rw [← snd_som h2]
      have Q4 := of_ok (ok_r_copies z hI) w4
      have r4 : RWz (n : Int) (7 * (i : Int) + ((0 : Nat) : Int)) (z4.f 44) := by
        have e : RWz (n : Int) (7 * (i : Int)) (z.f 43) := by rw [← hn]; exact h.1
        exact (e.cg (rb_copies w4)).mono (by omega)
      unfold r_yearsGo at w5
      obtain ⟨l1, l2, l3⟩ := years_low hn5 fu z4 0 0 (7 * (i : Int)) (by rw [wvz_fr Q4.2 (by decide)]; exact hn) (hB.fr Q4.2 (by decide)) Q4.1 (by decide) (by omega) hx.2 (by omega) r4 w5
      have G : FrR (45 :: 144 :: WYZ) z z5 := ((FrR.rfl (W := 45 :: 144 :: WYZ)).trans Q4.2 (by decide)).trans l2 (by decide)
      refine RBn.up ((h.fr G (by decide)).records (b' := 7 * (i : Int) + x1.toInt) (by omega) ?_ l3 w6) (by omega)
      rw [wvz_fr G (by decide), hn]
      exact l1
  · rw [if_neg hx, if_pos rfl] at h2
    exact same (congrArg Prod.snd (Option.some.inj h2)).symm
theorem rb_undo {i : Nat} {z z' : RS} {r : Int32} (h : RBn i z) (hI : InvR z) (h2 : r_undo z = some (r, z')) : RBn (i + 6) z' := by
  have b48 : 0 ≤ (z.v 48).toInt ∧ (z.v 48).toInt ≤ 40 := hI.1 48
  unfold r_undo at h2
  by_cases c : z.v 48 = 0
  · rw [if_pos c] at h2
    rw [← snd_som h2]
    exact RBn.up h (by omega)
  · rw [if_neg c] at h2
    have c' := ne_toInt (k := 0) (by decide) c
    replace h2 := letS_inv h2
    obtain ⟨z2, c2, h2⟩ := h2
    obtain ⟨U, hU⟩ : ∃ U : Nat, (z.v 48).toInt = (U : Int) + 1 := ⟨((z.v 48).toInt - 1).toNat, by omega⟩
    have v2 : z2.v 48 = (z.v 48) - 1 := by
      rw [← c2]
      show va_up z.v 48 ((z.v 48) - 1) 48 = (z.v 48) - 1
      exact va_up_self _ _ _
    have u2 : (z2.v 48).toInt = (U : Int) := by
      rw [v2, tn_sub hU (by decide : (1 : Int32).toInt = 1) (by omega) (by omega)]
      omega
    have F2 : FrR [48] z z2 := by
      rw [← c2]
      exact FrR.sv FrR.rfl (by decide)
    obtain ⟨_, G, e43, _⟩ := undoL (by omega) fu z2 0 0 u2 (by decide) (by omega) h2
    have G2 : FrR [48, 143] z z' := ((FrR.rfl (W := [48, 143])).trans F2 (by decide)).trans G (by decide)
    have ew := wvz_fr G2 (by decide)
    have v' : (z'.v 48).toInt = (U : Int) := by rw [G.1 48 (by decide)]; exact u2
    refine RBn.up (b := 7 * (i : Int)) ⟨?_, fun k hk => ?_, fun s hs q => ?_⟩ (by omega)
    · rw [ew]
      refine (h.2.1 U (by omega)).cg (fun j hj => ?_)
      rw [e43 j (Nat.zero_le _) hj, (F2.2 49 (by decide)).1]
    · rw [ew, (G2.2 49 (by decide)).1]
      exact h.2.1 k (by omega)
    · rw [ew, (G2.2 57 (by decide)).1]
      rw [(G2.2 56 (by decide)).1] at q
      exact h.2.2 s hs q
theorem rb_hold {i : Nat} {z z' : RS} {x1 r : Int32} (h : RBn i z) (h2 : r_hold z x1 = some (r, z')) : RBn (i + 6) z' := by
  unfold r_hold at h2
  rw [in_range (A := 0) (B := 2) (by decide) (by decide), bindP_some] at h2
  by_cases c : 0 ≤ x1.toInt ∧ x1.toInt ≤ 2
  · rw [if_pos c, if_neg z_one] at h2
    obtain ⟨u, eu⟩ : ∃ u : Nat, x1.toInt = (u : Int) := ⟨x1.toInt.toNat, by omega⟩
    replace h2 := guard_inv h2
    obtain ⟨_, h2⟩ := h2
    replace h2 := letS_inv h2
    obtain ⟨z4, c4, h2⟩ := h2
    rw [clamp_of_int eu] at c4
    have F4 : FrR [156] z z4 := FrR.one c4
    have row : ∀ s, z4.f 56 s = if s = u then vp_nar .boolean 1 else z.f 56 s := fun s => by
      rw [← c4]
      exact rsf_at
    obtain ⟨_, G, e57, o57⟩ := holdL eu (by omega) fu z4 0 0 (by decide) (by omega) h2
    have G2 : FrR [156, 157] z z' := ((FrR.rfl (W := [156, 157])).trans F4 (by decide)).trans G (by decide)
    have ew := wvz_fr G2 (by decide)
    have f56 : z'.f 56 = z4.f 56 := (G.2 56 (by decide)).1
    refine RBn.up (b := 7 * (i : Int)) ⟨?_, fun k hk => ?_, fun s hs q => ?_⟩ (by omega)
    · rw [ew, (G2.2 43 (by decide)).1]
      exact h.1
    · rw [G2.1 48 (by decide)] at hk
      rw [ew, (G2.2 49 (by decide)).1]
      exact h.2.1 k hk
    · rw [ew]
      by_cases e : s = u
      · refine h.1.cg (fun j hj => ?_)
        show z'.f 57 (29 * s + j) = z.f 43 j
        rw [e, e57 j (Nat.zero_le _) hj, (F4.2 43 (by decide)).1]
      · rw [f56, row, if_neg e] at q
        refine (h.2.2 s hs q).cg (fun j hj => ?_)
        show z'.f 57 (29 * s + j) = z.f 57 (29 * s + j)
        rw [o57 (29 * s + j) (by omega), (F4.2 57 (by decide)).1]
  · rw [if_neg c, if_pos rfl] at h2
    rw [← snd_som h2]
    exact RBn.up h (by omega)
theorem rb_restore {i : Nat} {z z' : RS} {x1 r : Int32} (h : RBn i z) (h2 : r_restore z x1 = some (r, z')) : RBn (i + 6) z' := by
  have same : z' = z → RBn (i + 6) z' := fun e => by
    rw [e]
    exact RBn.up h (by omega)
  unfold r_restore at h2
  rw [in_range (A := 0) (B := 2) (by decide) (by decide), bindP_some] at h2
  by_cases c : 0 ≤ x1.toInt ∧ x1.toInt ≤ 2
  · rw [if_pos c, if_neg z_one] at h2
    obtain ⟨u, eu⟩ : ∃ u : Nat, x1.toInt = (u : Int) := ⟨x1.toInt.toNat, by omega⟩
    replace h2 := guard_inv h2
    obtain ⟨_, h2⟩ := h2
    rw [clamp_of_int eu] at h2
    by_cases d : z.f 56 u = 0
    · rw [if_pos d] at h2
      exact same (congrArg Prod.snd (Option.some.inj h2)).symm
    · rw [if_neg d] at h2
      obtain ⟨_, G, v0, e43, _⟩ := restoreL eu (by omega) fu z 0 0 (by decide) (by omega) h2
      have ew := wvz_fr G (by decide)
      refine RBn.up (b := 7 * (i : Int)) ⟨?_, fun k hk => ?_, fun s hs q => ?_⟩ (by omega)
      · rw [ew]
        exact (h.2.2 u (by omega) d).cg (fun j hj => e43 j (Nat.zero_le _) hj)
      · rw [v0] at hk
        have z0 : (0 : Int32).toInt = 0 := by decide
        omega
      · rw [ew, (G.2 57 (by decide)).1]
        rw [(G.2 56 (by decide)).1] at q
        exact h.2.2 s hs q
  · rw [if_neg c, if_pos rfl] at h2
    exact same (congrArg Prod.snd (Option.some.inj h2)).symm
theorem rwz_zero {n b : Int} {f : Nat → Int32} (hb : 0 ≤ b) (h : ∀ i, i < 29 → f i = beg i) : RWz n b f := fun w hw => by
  have z0 : (0 : Int32).toInt = 0 := by decide
  have e1 : f w = 0 := by
    rw [h w (by omega)]
    unfold beg
    exact if_neg (by omega)
  have e2 : f (10 + w) = 0 := by
    rw [h (10 + w) (by omega)]
    unfold beg
    exact if_neg (by omega)
  rw [e1, e2]
  exact ⟨fun _ => rfl, by omega, by omega⟩
theorem rb_read {i : Nat} {y y' : XS} {z z' : RS} {r1 r2 : Int32} (h : RBn i z) (hK : InvK y.k) (hI : InvR z) (hT : TPk y.k z) (h1 : kX10_read y = some (r1, y')) (h2 : r_read z = some (r2, z')) : RBn (i + 6) z' := by
  unfold kX10_read at h1
  replace h1 := bindI_inv h1
  obtain ⟨q2, s1, f1, h1⟩ := h1
  obtain ⟨er, _, _, hr⟩ := read_tape hK hI hT.1.1 hT.1.2.2 hT.2.1 f1 h2
  obtain ⟨sd, u, e18, u19, h129, FR, FW⟩ := read_far hI h2
  have hend := r129_end h129
  rcases hr with ⟨r0, g8, g51, g56, g9, gCT, gLF⟩ | ⟨n0, g18, g20, _, g56, _⟩
  · rcases hend with ⟨b0, _⟩ | ⟨_, Gz, e18z, _, e48, e43, e46⟩
    · exact absurd (er.symm.trans r0) b0
    · refine RBn.up (b := 0) ⟨rwz_zero (by omega) e43, fun k hk => ?_, fun s hs q => absurd (g56 s hs) q⟩ (by omega)
      rw [e48] at hk
      have z0 : (0 : Int32).toInt = 0 := by decide
      omega
  · rcases hend with ⟨_, Gz⟩ | ⟨b0, _⟩
    · have FZ : FrR (17 :: WFT) z z' := (FrR.rfl.trans FW (by decide)).trans Gz (by decide)
      have ew : wvz z' = wvz z := by
        unfold wvz
        rw [g18, g20]
      refine RBn.up (b := 7 * (i : Int)) ⟨?_, fun k hk => ?_, fun s hs q => ?_⟩ (by omega)
      · rw [ew, (FZ.2 43 (by decide)).1]
        exact h.1
      · rw [FZ.1 48 (by decide)] at hk
        rw [ew, (FZ.2 49 (by decide)).1]
        exact h.2.1 k hk
      · rw [g56] at q
        rw [ew, (FZ.2 57 (by decide)).1]
        exact h.2.2 s hs q
    · exact absurd (er.trans b0) n0
theorem rb_zero {i : Nat} {y : YS} {z : RS} (h : REL y z) (hR : RBn i z) : ∀ w : Nat, w < 5 → (y.x.k.v 1).toInt ≤ (w : Int) → z.f 43 w = 0 := fun w hw hl => (hR.1 w hw).1 (by
  have e : wvz z = (y.x.k.v 1).toInt := by
    unfold wvz
    rw [← h.1.1.1]
  omega)
theorem rb_start {z : RS} (h1 : ∀ i, i < 29 → z.f 43 i = beg i) (h2 : z.v 48 = 0) (h3 : ∀ i, i < 3 → z.f 56 i = 0) : RBn 0 z := by
  have z0 : (0 : Int32).toInt = 0 := by decide
  refine ⟨rwz_zero (by omega) h1, fun k hk => ?_, fun s hs q => absurd (h3 s hs) q⟩
  rw [h2] at hk
  omega
end
