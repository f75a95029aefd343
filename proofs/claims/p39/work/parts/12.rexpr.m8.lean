section
/-! ===== the reading of the reference: small steps ===== -/
theorem is_eq {s : RS} {k : Int32} (hI : InvR s) : r_is s k = some ((if s.v 13 = 0 ∧ s.f 5 (s.v 11).toNatClampNeg = k then 1 else 0), s) := by
  have ht : 0 ≤ (s.v 11).toInt ∧ (s.v 11).toInt ≤ 400 := hI.1 11
  unfold r_is
  by_cases h : s.v 13 = 0
  · rw [if_pos h, if_pos (vpb_ok (by omega) (by omega))]
    by_cases h2 : s.f 5 (s.v 11).toNatClampNeg = k
    · rw [if_pos h2, if_pos ⟨h, h2⟩]
    · rw [if_neg h2, if_neg (fun q => h2 q.2)]
  · rw [if_neg h, if_neg (fun q => h q.1)]
/-- the answer of 'is' is known: one of two -/
theorem ok_is {α : Type} {s : RS} {k : Int32} {K : Int32 → RS → Option α} {Q : α → Prop} (hI : InvR s) (h1 : s.v 13 = 0 → s.f 5 (s.v 11).toNatClampNeg = k → Ok (K 1 s) Q) (h0 : ¬ (s.v 13 = 0 ∧ s.f 5 (s.v 11).toNatClampNeg = k) → Ok (K 0 s) Q) : Ok (bindI (r_is s k) K) Q := by
  rw [is_eq hI]
  by_cases h : s.v 13 = 0 ∧ s.f 5 (s.v 11).toNatClampNeg = k
  · rw [if_pos h]; exact h1 h.1 h.2
  · rw [if_neg h]; exact h0 h
theorem z_one : ¬ (1 : Int32) = 0 := by decide
theorem fz {s : RS} (h : s.v 13 = 0) : (s.v 13).toInt = 0 := by rw [h]; decide
theorem fz' {s : RS} (h : (s.v 13).toInt = 0) : s.v 13 = 0 := Int32.toInt_inj.mp (h.trans (by decide))
theorem ok_fail (s : RS) (k : Int32) (hI : InvR s) (hk : 1 ≤ k.toInt) (hk2 : k.toInt ≤ 2) : Ok (r_fail s k) (fun y => InvR y ∧ FrR [13, 14] s y ∧ 1 ≤ (y.v 13).toInt ∧ (s.v 13).toInt ≤ (y.v 13).toInt) := by
  have ht : 0 ≤ (s.v 11).toInt ∧ (s.v 11).toInt ≤ 400 := hI.1 11
  have hf : 0 ≤ (s.v 13).toInt ∧ (s.v 13).toInt ≤ 2 := hI.1 13
  unfold r_fail
  refine ok_ite (fun c => ?_) (fun c => ?_)
  · have c := tn_le (b := 0) rfl (by decide) c
    refine ok_let (fun s2 hs2 => ?_)
    have hI2 : InvR s2 := by rw [← hs2]; exact hI.sv (k := 13) (show (0 : Int) ≤ k.toInt by omega) (show k.toInt ≤ (2 : Int) by omega)
    have e11 : s2.v 11 = s.v 11 := by rw [← hs2]; rfl
    refine ok_grd (vpb_ok (by rw [e11]; omega) (by rw [e11]; omega)) ?_
    refine ok_let (fun s5 hs5 => ?_)
    have e13 : s5.v 13 = k := by rw [← hs5, ← hs2]; rfl
    refine ok_some ⟨by rw [← hs5]; exact hI2.svF (k := 14) rfl rfl, ?_, by rw [e13]; omega, by rw [e13]; omega⟩
    rw [← hs5, ← hs2]
    exact (FrR.rfl.sv (k := 13) (by decide)).sv (k := 14) (by decide)
  · have c := tn_nle (b := 0) rfl (by decide) c
    exact ok_some ⟨hI, FrR.rfl, by omega, Int.le_refl _⟩
/-- one token on: or the room is out -/
noncomputable def Step (s y : RS) : Prop := ((y.v 11).toInt = (s.v 11).toInt + 1 ∧ (y.v 13).toInt = (s.v 13).toInt) ∨ ((s.v 11).toInt = 400 ∧ (y.v 11).toInt = (s.v 11).toInt ∧ 1 ≤ (y.v 13).toInt ∧ (s.v 13).toInt ≤ (y.v 13).toInt)
theorem ok_goesOn (s : RS) (hI : InvR s) : Ok (r_goesOn s) (fun y => InvR y ∧ FrR [11, 13, 14] s y ∧ Step s y) := by
  have ht : 0 ≤ (s.v 11).toInt ∧ (s.v 11).toInt ≤ 400 := hI.1 11
  unfold r_goesOn
  refine ok_ite (fun c => ?_) (fun c => ?_)
  · have c := tn_eq (b := 400) rfl (by decide) c
    refine ok_bindP (ok_fail s 2 hI (by decide) (by decide)) (fun s4 hc => ?_)
    have e11 : s4.v 11 = s.v 11 := hc.2.1.1 11 (by decide)
    refine ok_some ⟨hc.1, FrR.rfl.trans hc.2.1 (by decide), Or.inr ⟨c, by rw [e11], hc.2.2.1, hc.2.2.2⟩⟩
  · have c := tn_ne (b := 400) rfl (by decide) c
    refine ok_let (fun s2 hs2 => ?_)
    have a : ((s.v 11) + 1).toInt = (s.v 11).toInt + 1 := tn_add rfl (by decide) (by omega) (by omega)
    have e11 : s2.v 11 = (s.v 11) + 1 := by rw [← hs2]; rfl
    have e13 : s2.v 13 = s.v 13 := by rw [← hs2]; rfl
    refine ok_some ⟨by rw [← hs2]; exact hI.sv (k := 11) (show (0 : Int) ≤ ((s.v 11) + 1).toInt by omega) (show ((s.v 11) + 1).toInt ≤ (400 : Int) by omega), by rw [← hs2]; exact FrR.rfl.sv (k := 11) (by decide), Or.inl ⟨by rw [e11]; exact a, by rw [e13]⟩⟩
/-- on by some tokens, or a fault more -/
noncomputable def Adv (s y : RS) : Prop := (s.v 11).toInt ≤ (y.v 11).toInt ∧ (s.v 13).toInt ≤ (y.v 13).toInt
theorem ok_must (s : RS) (k : Int32) (hI : InvR s) : Ok (r_must s k) (fun y => InvR y ∧ FrR [11, 13, 14] s y ∧ Adv s y ∧ ((y.v 13).toInt = 0 → (y.v 11).toInt = (s.v 11).toInt + 1)) := by
  unfold r_must
  have hf : 0 ≤ (s.v 13).toInt ∧ (s.v 13).toInt ≤ 2 := hI.1 13
  refine ok_is hI (fun hf0 hk => ?_) (fun h => ?_)
  · show Ok (if (1 : Int32) = 0 then _ else _) _
    rw [if_neg z_one]
    refine ok_bindP (ok_goesOn s hI) (fun y hc => ?_)
    refine ok_some ⟨hc.1, hc.2.1, ?_, ?_⟩
    · rcases hc.2.2 with h | h
      · exact ⟨by omega, by omega⟩
      · exact ⟨by omega, by omega⟩
    · rcases hc.2.2 with h | h
      · intro _; exact h.1
      · intro q; omega
  · show Ok (if (0 : Int32) = 0 then _ else _) _
    rw [if_pos rfl]
    refine ok_bindP (ok_fail s 1 hI (by decide) (by decide)) (fun y hc => ?_)
    have e11 : y.v 11 = s.v 11 := hc.2.1.1 11 (by decide)
    exact ok_some ⟨hc.1, FrR.rfl.trans hc.2.1 (by decide), ⟨by rw [e11]; exact Int.le_refl _, hc.2.2.2⟩, fun q => by have := hc.2.2.1; omega⟩
theorem ok_emit (s : RS) (x1 x2 : Int32) (p : Nat) (hI : InvR s) (hp : (s.v 35).toInt = (p : Int)) (hp2 : p < 840) : Ok (r_emit s x1 x2) (fun y => InvR y ∧ FrR [35, 136, 137] s y ∧ (y.v 35).toInt = (p : Int) + 1 ∧ y.f 36 = upd (s.f 36) p x1 ∧ y.f 37 = upd (s.f 37) p x2) := by
  unfold r_emit
  have ec : (s.v 35).toNatClampNeg = p := clamp_of_int hp
  rw [ec]
  refine ok_grd (vpb_ok (by omega) (by omega)) ?_
  refine ok_let (fun s2 hs2 => ?_)
  have e2 : s2.v 35 = s.v 35 := by rw [← hs2]; rfl
  have hI2 : InvR s2 := by rw [← hs2]; exact hI.sfF (k := 36) rfl rfl
  rw [e2, ec]
  refine ok_grd (vpb_ok (by omega) (by omega)) ?_
  refine ok_let (fun s5 hs5 => ?_)
  have e5 : s5.v 35 = s.v 35 := by rw [← hs5]; exact e2
  have hI5 : InvR s5 := by rw [← hs5]; exact hI2.sfF (k := 37) rfl rfl
  refine ok_let (fun s7 hs7 => ?_)
  have a : ((s.v 35) + 1).toInt = (s.v 35).toInt + 1 := tn_add rfl (by decide) (by omega) (by omega)
  have e7 : s7.v 35 = (s.v 35) + 1 := by rw [← hs7, ← e5]; rfl
  refine ok_some ⟨by rw [← hs7]; exact hI5.svF (k := 35) rfl rfl, ?_, by rw [e7]; omega, ?_, ?_⟩
  · rw [← hs7, ← hs5, ← hs2]
    exact ((FrR.rfl.sf (k := 36) (by decide)).sf (k := 37) (by decide)).sv (k := 35) (by decide)
  · rw [← hs7, ← hs5, ← hs2]; rfl
  · rw [← hs7, ← hs5, ← hs2]; rfl
/-! ===== well formed codes, one more ===== -/
theorem dep_congr {cd ci cd' ci' : Nat → Int32} : ∀ (n c d : Nat), (∀ j, c ≤ j → j < c + n → cd j = cd' j ∧ ci j = ci' j) → dep cd ci n c d = dep cd' ci' n c d := by
  intro n
  induction n with
  | zero => intro c d _; rfl
  | succ n ih =>
    intro c d h
    have h0 := h c (by omega) (by omega)
    have h1 : ∀ d, dep cd ci n (c + 1) d = dep cd' ci' n (c + 1) d := fun d => ih (c + 1) d (fun j a b => h j (by omega) (by omega))
    unfold dep
    rw [h0.1, h0.2, h1, h1]
theorem dep_snoc {cd ci : Nat → Int32} : ∀ (n c d d1 : Nat), dep cd ci n c d = some d1 → dep cd ci (n + 1) c d = dep cd ci 1 (c + n) d1 := by
  intro n
  induction n with
  | zero => intro c d d1 h; cases h; rfl
  | succ n ih =>
    intro c d d1 h
    rcases dep_cons ⟨d1, h⟩ with ⟨hk, q, hq⟩ | ⟨hk, q, hq⟩
    · have e1 : ∀ m, dep cd ci (m + 1) c d = dep cd ci m (c + 1) (d + 1) := fun m => by
        show (if _ then _ else _) = _
        rw [if_pos hk]
      rw [e1] at h ⊢
      rw [ih (c + 1) (d + 1) d1 h]
      rw [show c + 1 + n = c + (n + 1) by omega]
    · have hn : ¬ ((cd c).toInt = 0 ∨ ((cd c).toInt = 1 ∧ 0 ≤ (ci c).toInt ∧ (ci c).toInt ≤ 8)) := by omega
      have e1 : ∀ m, dep cd ci (m + 1) c d = dep cd ci m (c + 1) (d - 1) := fun m => by
        show (if _ then _ else if _ then _ else _) = _
        rw [if_neg hn, if_pos hk]
      rw [e1] at h ⊢
      rw [ih (c + 1) (d - 1) d1 h]
      rw [show c + 1 + n = c + (n + 1) by omega]
theorem dep_push {cd ci : Nat → Int32} {n c d : Nat} {x y : Int32} (h : dep cd ci n c 0 = some d) (hk : x.toInt = 0 ∨ (x.toInt = 1 ∧ 0 ≤ y.toInt ∧ y.toInt ≤ 8)) : dep (upd cd (c + n) x) (upd ci (c + n) y) (n + 1) c 0 = some (d + 1) := by
  have h1 : dep (upd cd (c + n) x) (upd ci (c + n) y) n c 0 = some d := by
    rw [← h]
    refine dep_congr n c 0 (fun j _ hj => ⟨?_, ?_⟩)
    · unfold upd; rw [if_neg (by omega)]
    · unfold upd; rw [if_neg (by omega)]
  rw [dep_snoc n c 0 d h1]
  have e1 : upd cd (c + n) x (c + n) = x := by unfold upd; rw [if_pos rfl]
  have e2 : upd ci (c + n) y (c + n) = y := by unfold upd; rw [if_pos rfl]
  show (if _ then _ else _) = _
  rw [e1, e2, if_pos hk]
  rfl
theorem dep_op {cd ci : Nat → Int32} {n c d : Nat} {x y : Int32} (h : dep cd ci n c 0 = some d) (hk : 2 ≤ x.toInt ∧ x.toInt ≤ 5) (hd : 2 ≤ d) : dep (upd cd (c + n) x) (upd ci (c + n) y) (n + 1) c 0 = some (d - 1) := by
  have h1 : dep (upd cd (c + n) x) (upd ci (c + n) y) n c 0 = some d := by
    rw [← h]
    refine dep_congr n c 0 (fun j _ hj => ⟨?_, ?_⟩)
    · unfold upd; rw [if_neg (by omega)]
    · unfold upd; rw [if_neg (by omega)]
  rw [dep_snoc n c 0 d h1]
  have e1 : upd cd (c + n) x (c + n) = x := by unfold upd; rw [if_pos rfl]
  have e2 : upd ci (c + n) y (c + n) = y := by unfold upd; rw [if_pos rfl]
  show (if _ then _ else if _ then _ else _) = _
  rw [e1, e2, if_neg (by omega), if_pos ⟨hk.1, hk.2, hd⟩]
  rfl
/-! ===== what waits ===== -/
noncomputable def nops (f : Nat → Int32) : Nat → Nat
  | 0 => 0
  | n + 1 => nops f n + (if f n = 6 then 0 else 1)
theorem nops_le (f : Nat → Int32) : ∀ n, nops f n ≤ n := by
  intro n
  induction n with
  | zero => exact Nat.le_refl _
  | succ n ih => unfold nops; split <;> omega
theorem nops_congr {f g : Nat → Int32} : ∀ n, (∀ i, i < n → f i = g i) → nops f n = nops g n := by
  intro n
  induction n with
  | zero => intro _; rfl
  | succ n ih => intro h; unfold nops; rw [ih (fun i hi => h i (by omega)), h n (by omega)]
noncomputable def Shape (f : Nat → Int32) (n : Nat) : Prop := ∀ i, i < n → ((f i = 8 ∨ f i = 9) → i = 0 ∨ f (i - 1) = 6) ∧ (¬ f i = 6 → ¬ f i = 8 → ¬ f i = 9 → i = 0 ∨ f (i - 1) = 6 ∨ f (i - 1) = 8 ∨ f (i - 1) = 9)
theorem Shape.less {f : Nat → Int32} {n m : Nat} (h : Shape f n) (hm : m ≤ n) : Shape f m := fun i hi => h i (by omega)
theorem Shape.put {f : Nat → Int32} {n : Nat} {x : Int32} (h : Shape f n) (h1 : (x = 8 ∨ x = 9) → n = 0 ∨ f (n - 1) = 6) (h2 : ¬ x = 6 → ¬ x = 8 → ¬ x = 9 → n = 0 ∨ f (n - 1) = 6 ∨ f (n - 1) = 8 ∨ f (n - 1) = 9) : Shape (upd f n x) (n + 1) := by
  intro i hi
  by_cases e : i = n
  · subst e
    have e1 : upd f i x i = x := by unfold upd; rw [if_pos rfl]
    rw [e1]
    by_cases i0 : i = 0
    · exact ⟨fun _ => Or.inl i0, fun _ _ _ => Or.inl i0⟩
    · have e2 : upd f i x (i - 1) = f (i - 1) := by unfold upd; rw [if_neg (by omega)]
      rw [e2]
      exact ⟨h1, h2⟩
  · have e1 : upd f n x i = f i := by unfold upd; rw [if_neg e]
    have e2 : upd f n x (i - 1) = f (i - 1) := by unfold upd; rw [if_neg (by omega)]
    rw [e1, e2]
    exact h i (by omega)
theorem Shape.few {f : Nat → Int32} : ∀ (n : Nat), Shape f n → ((n = 0 ∨ f (n - 1) = 6) → nops f n ≤ 2 * (n - nops f n)) ∧ ((n = 0 ∨ f (n - 1) = 6 ∨ f (n - 1) = 8 ∨ f (n - 1) = 9) → nops f n ≤ 2 * (n - nops f n) + 1) ∧ nops f n ≤ 2 * (n - nops f n) + 2 := by
  intro n
  induction n with
  | zero => intro _; exact ⟨fun _ => Nat.le_refl _, fun _ => by show 0 ≤ _; omega, by show 0 ≤ _; omega⟩
  | succ n ih =>
    intro h
    obtain ⟨g1, g2, g3⟩ := ih (h.less (by omega))
    have hle := nops_le f n
    have hn := h n (by omega)
    by_cases h6 : f n = 6
    · have e : nops f (n + 1) = nops f n := by show nops f n + (if f n = 6 then 0 else 1) = _; rw [if_pos h6]; rfl
      rw [e]
      refine ⟨fun _ => by omega, fun _ => by omega, by omega⟩
    · have e : nops f (n + 1) = nops f n + 1 := by show nops f n + (if f n = 6 then 0 else 1) = _; rw [if_neg h6]
      rw [e]
      refine ⟨fun q => ?_, fun q => ?_, ?_⟩
      · rcases q with q | q
        · omega
        · exact absurd q h6
      · have hp : f n = 8 ∨ f n = 9 := by
          rcases q with q | q | q
          · omega
          · exact absurd q h6
          · exact q
        have := g1 (hn.1 hp)
        omega
      · by_cases hp : f n = 8 ∨ f n = 9
        · have := g1 (hn.1 hp)
          omega
        · have := g2 (hn.2 h6 (fun q => hp (Or.inl q)) (fun q => hp (Or.inr q)))
          omega
/-- what stands outside of the new text's codes is as it was -/
noncomputable def Out (lo hi : Nat) (s y : RS) : Prop := ∀ j, (j < lo ∨ hi ≤ j) → y.f 36 j = s.f 36 j ∧ y.f 37 j = s.f 37 j
theorem Out.rfl {lo hi : Nat} {s : RS} : Out lo hi s s := fun _ _ => ⟨Eq.refl _, Eq.refl _⟩
theorem Out.trans {lo hi lo' : Nat} {s y z : RS} (h : Out lo hi s y) (h2 : Out lo' hi y z) (hl : lo ≤ lo') : Out lo hi s z := fun j hj => by
  have a := h j hj
  have b := h2 j (by omega)
  exact ⟨b.1.trans a.1, b.2.trans a.2⟩
theorem Out.same {lo hi : Nat} {s y : RS} (h1 : y.f 36 = s.f 36) (h2 : y.f 37 = s.f 37) : Out lo hi s y := fun j _ => ⟨by rw [h1], by rw [h2]⟩
theorem Out.fr {lo hi : Nat} {W : List Nat} {s y : RS} (h : FrR W s y) (h1 : 136 ∉ W) (h2 : 137 ∉ W) : Out lo hi s y := Out.same (h.2 36 h1).1 (h.2 37 h2).1
/-- operators come out -/
noncomputable def CO (sd c0 : Nat) (s : RS) (n c : Nat) : Prop := InvR s ∧ (s.v 19).toInt = (sd : Int) ∧ sd ≤ 1 ∧ (s.v 39).toInt = (n : Int) ∧ n ≤ 60 ∧ (s.v 35).toInt = (420 * sd + c : Nat) ∧ 420 * sd ≤ c0 ∧ c0 ≤ 420 * sd + c ∧ c + nops (s.f 38) n ≤ 401 ∧ ((s.v 13).toInt = 0 → dep (s.f 36) (s.f 37) (420 * sd + c - c0) c0 0 = some (nops (s.f 38) n + 1))
theorem ok_comesOut_L (sd c0 : Nat) (x1 : Int32) (s0 : RS) : ∀ (m : Nat) (s : RS) (n c : Nat), n < m → CO sd c0 s n c → FrR [35, 39, 136, 137] s0 s → Out c0 (420 * sd + 402) s0 s →
    Ok (r_comesOut_0L m s x1) (fun y => ∃ n' c', n' ≤ n ∧ c ≤ c' ∧ CO sd c0 y n' c' ∧ nops (s0.f 38) n = nops (s0.f 38) n' + (n - n') ∧ c' + nops (s0.f 38) n' = c + nops (s0.f 38) n ∧ FrR [35, 39, 136, 137] s0 y ∧ Out c0 (420 * sd + 402) s0 y ∧ (n' = 0 ∨ s0.f 38 (n' - 1) = 6 ∨ (¬ x1 = 0 ∧ (s0.f 38 (n' - 1) = 8 ∨ s0.f 38 (n' - 1) = 9)))) := by
  intro m
  induction m with
  | zero => intro s n c h; omega
  | succ m ih =>
    intro s n c hm hC hF hO
    have hC0 := hC
    obtain ⟨hI, h19, hsd, h39, hn, h35, hc0, hc1, hcn, hdep⟩ := hC
    show Ok (r_comesOut_0 (r_comesOut_0L m) s x1) _
    unfold r_comesOut_0
    have e38 : s.f 38 = s0.f 38 := (hF.2 38 (by decide)).1
    have stop : (n = 0 ∨ s0.f 38 (n - 1) = 6 ∨ (¬ x1 = 0 ∧ (s0.f 38 (n - 1) = 8 ∨ s0.f 38 (n - 1) = 9))) → Ok (some s) (fun y => ∃ n' c', n' ≤ n ∧ c ≤ c' ∧ CO sd c0 y n' c' ∧ nops (s0.f 38) n = nops (s0.f 38) n' + (n - n') ∧ c' + nops (s0.f 38) n' = c + nops (s0.f 38) n ∧ FrR [35, 39, 136, 137] s0 y ∧ Out c0 (420 * sd + 402) s0 y ∧ (n' = 0 ∨ s0.f 38 (n' - 1) = 6 ∨ (¬ x1 = 0 ∧ (s0.f 38 (n' - 1) = 8 ∨ s0.f 38 (n' - 1) = 9)))) :=
      fun q => ok_some ⟨n, c, Nat.le_refl _, Nat.le_refl _, hC0, by omega, rfl, hF, hO, q⟩
    refine ok_ite (fun c1 => ?_) (fun c1 => ?_)
    · have c1 := tn_le (b := 0) rfl (by decide) c1
      exact stop (Or.inl (by omega))
    · have c1 := tn_nle (b := 0) rfl (by decide) c1
      have a1 : ((s.v 39) - 1).toInt = (s.v 39).toInt - 1 := tn_sub rfl (by decide) (by omega) (by omega)
      refine ok_grd (vpb_ok (by omega) (by omega)) ?_
      have ec : ((s.v 39) - 1).toNatClampNeg = n - 1 := clamp_of_int (by omega)
      rw [ec, e38]
      refine ok_ite (fun c6 => stop (Or.inr (Or.inl c6))) (fun c6 => ?_)
      have hpop : ∀ (w : Int32), Ok (r_comesOut_42 (r_comesOut_0L m) s x1 w) (fun y => ∃ n' c', n' ≤ n ∧ c ≤ c' ∧ CO sd c0 y n' c' ∧ nops (s0.f 38) n = nops (s0.f 38) n' + (n - n') ∧ c' + nops (s0.f 38) n' = c + nops (s0.f 38) n ∧ FrR [35, 39, 136, 137] s0 y ∧ Out c0 (420 * sd + 402) s0 y ∧ (n' = 0 ∨ s0.f 38 (n' - 1) = 6 ∨ (¬ x1 = 0 ∧ (s0.f 38 (n' - 1) = 8 ∨ s0.f 38 (n' - 1) = 9)))) := by
        intro w
        unfold r_comesOut_42
        refine ok_let (fun s1 hs1 => ?_)
        have hI1 : InvR s1 := by rw [← hs1]; exact hI.svF (k := 39) rfl rfl
        have hF1 : FrR [35, 39, 136, 137] s0 s1 := by rw [← hs1]; exact hF.sv (k := 39) (by decide)
        have e39 : (s1.v 39).toInt = (n : Int) - 1 := by
          have : s1.v 39 = (s.v 39) - 1 := by rw [← hs1]; rfl
          rw [this]; omega
        have e35 : s1.v 35 = s.v 35 := by rw [← hs1]; rfl
        have e13 : s1.v 13 = s.v 13 := by rw [← hs1]; rfl
        have e19 : s1.v 19 = s.v 19 := by rw [← hs1]; rfl
        have e36 : s1.f 36 = s.f 36 := by rw [← hs1]; rfl
        have e37 : s1.f 37 = s.f 37 := by rw [← hs1]; rfl
        obtain ⟨n1, rfl⟩ : ∃ n1, n = n1 + 1 := ⟨n - 1, by omega⟩
        have hnop : nops (s0.f 38) (n1 + 1) = nops (s0.f 38) n1 + 1 := by
          show nops (s0.f 38) n1 + (if s0.f 38 n1 = 6 then 0 else 1) = _
          rw [if_neg (show ¬ s0.f 38 n1 = 6 from c6)]
        have go : ∀ (t0 : Int32), 2 ≤ t0.toInt → t0.toInt ≤ 5 → Ok (r_comesOut_84 (r_comesOut_0L m) s1 x1 t0) (fun y => ∃ n' c', n' ≤ n1 + 1 ∧ c ≤ c' ∧ CO sd c0 y n' c' ∧ nops (s0.f 38) (n1 + 1) = nops (s0.f 38) n' + (n1 + 1 - n') ∧ c' + nops (s0.f 38) n' = c + nops (s0.f 38) (n1 + 1) ∧ FrR [35, 39, 136, 137] s0 y ∧ Out c0 (420 * sd + 402) s0 y ∧ (n' = 0 ∨ s0.f 38 (n' - 1) = 6 ∨ (¬ x1 = 0 ∧ (s0.f 38 (n' - 1) = 8 ∨ s0.f 38 (n' - 1) = 9)))) := by
          intro t0 ht1 ht2
          unfold r_comesOut_84
          rw [e38] at hcn hdep
          refine ok_bindP (ok_emit s1 t0 0 (420 * sd + c) hI1 (by rw [e35]; exact h35) (by omega)) (fun s2 hc => ?_)
          obtain ⟨hI2, hF2, h352, hf36, hf37⟩ := hc
          have hF02 : FrR [35, 39, 136, 137] s0 s2 := hF1.trans hF2 (by decide)
          have hO2 : Out c0 (420 * sd + 402) s0 s2 := by
            refine hO.trans (lo' := c0) (fun j hj => ?_) (Nat.le_refl _)
            rw [hf36, hf37, e36, e37]
            unfold upd
            rw [if_neg (by omega), if_neg (by omega)]
            exact ⟨rfl, rfl⟩
          have k13 : s2.v 13 = s.v 13 := (hF2.1 13 (by decide)).trans e13
          have k19 : s2.v 19 = s.v 19 := (hF2.1 19 (by decide)).trans e19
          have k39 : s2.v 39 = s1.v 39 := hF2.1 39 (by decide)
          have k38 : s2.f 38 = s0.f 38 := (hF02.2 38 (by decide)).1
          have hC2 : CO sd c0 s2 n1 (c + 1) := by
            refine ⟨hI2, by rw [k19]; exact h19, hsd, by rw [k39]; omega, by omega, by rw [h352]; omega, hc0, by omega, by rw [k38]; omega, ?_⟩
            rw [k13, k38]
            intro hz
            have hd := hdep hz
            rw [hf36, hf37, e36, e37]
            have hp : c0 + (420 * sd + c - c0) = 420 * sd + c := by omega
            have := dep_op (x := t0) (y := 0) hd ⟨ht1, ht2⟩ (by omega)
            rw [hp] at this
            rw [show 420 * sd + (c + 1) - c0 = 420 * sd + c - c0 + 1 by omega, this]
            congr 1 <;> omega
          refine ok_weak (ih s2 n1 (c + 1) (by omega) hC2 hF02 hO2) (fun y hy => ?_)
          obtain ⟨n', c', q1, q2, q3, q4, q5, q6, q7, q8⟩ := hy
          exact ⟨n', c', by omega, by omega, q3, by omega, by omega, q6, q7, q8⟩
        refine ok_ite (fun _ => go 2 (by decide) (by decide)) (fun _ => ?_)
        refine ok_ite (fun _ => go 3 (by decide) (by decide)) (fun _ => ?_)
        exact ok_ite (fun _ => go 4 (by decide) (by decide)) (fun _ => go 5 (by decide) (by decide))
      refine ok_ite (fun _ => hpop _) (fun cx => ?_)
      refine ok_ite (fun c8 => stop (Or.inr (Or.inr ⟨cx, Or.inl c8⟩))) (fun c8 => ?_)
      exact ok_ite (fun c9 => stop (Or.inr (Or.inr ⟨cx, Or.inr c9⟩))) (fun c9 => hpop _)
theorem ok_comesOut (sd c0 : Nat) (x1 : Int32) (s : RS) (n c : Nat) (hC : CO sd c0 s n c) : Ok (r_comesOut s x1) (fun y => ∃ n' c', n' ≤ n ∧ c ≤ c' ∧ CO sd c0 y n' c' ∧ nops (s.f 38) n = nops (s.f 38) n' + (n - n') ∧ c' + nops (s.f 38) n' = c + nops (s.f 38) n ∧ FrR [35, 39, 136, 137] s y ∧ Out c0 (420 * sd + 402) s y ∧ (n' = 0 ∨ s.f 38 (n' - 1) = 6 ∨ (¬ x1 = 0 ∧ (s.f 38 (n' - 1) = 8 ∨ s.f 38 (n' - 1) = 9)))) := by
  unfold r_comesOut
  have hn := hC.2.2.2.2.1
  exact ok_comesOut_L sd c0 x1 s fu s n c (by unfold fu; omega) hC FrR.rfl Out.rfl
end
section
/-! ===== an expression is read: its codes are well formed ===== -/
noncomputable abbrev WE : List Nat := [11, 12, 13, 14, 35, 39, 136, 137, 138]
noncomputable def EX (sd c0 : Nat) (base : Int) (e : Nat) (s : RS) (n c : Nat) : Prop :=
  InvR s ∧ (s.v 19).toInt = (sd : Int) ∧ sd ≤ 1 ∧ (s.v 39).toInt = (n : Int) ∧ (s.v 35).toInt = ((420 * sd + c : Nat) : Int) ∧ 420 * sd ≤ c0 ∧ c0 ≤ 420 * sd + c ∧
  0 ≤ base ∧ (s.v 12).toInt = base + ((n - nops (s.f 38) n : Nat) : Int) ∧ (s.v 12).toInt ≤ 7 ∧ ((s.v 13).toInt = 0 → (s.v 12).toInt ≤ 6) ∧ Shape (s.f 38) n ∧
  ((c + nops (s.f 38) n : Nat) : Int) ≤ (s.v 11).toInt + 1 ∧ ((s.v 13).toInt = 0 → ((c + nops (s.f 38) n : Nat) : Int) ≤ (s.v 11).toInt) ∧
  ((s.v 13).toInt = 0 → dep (s.f 36) (s.f 37) (420 * sd + c - c0) c0 0 = some (nops (s.f 38) n + e))
theorem EX.n23 {sd c0 : Nat} {base : Int} {e : Nat} {s : RS} {n c : Nat} (h : EX sd c0 base e s n c) : n ≤ 23 := by
  obtain ⟨hI, h19, hsd, h39, h35, hc0, hc1, hb, h12, h127, h126, hS, hc2, hc3, hd⟩ := h
  have h1 := (Shape.few n hS).2.2
  have h2 := nops_le (s.f 38) n
  omega
theorem EX.co {sd c0 : Nat} {base : Int} {s : RS} {n c : Nat} (h : EX sd c0 base 1 s n c) : CO sd c0 s n c := by
  have hn := h.n23
  obtain ⟨hI, h19, hsd, h39, h35, hc0, hc1, hb, h12, h127, h126, hS, hc2, hc3, hd⟩ := h
  have ht : 0 ≤ (s.v 11).toInt ∧ (s.v 11).toInt ≤ 400 := hI.1 11
  exact ⟨hI, h19, hsd, h39, by omega, h35, hc0, hc1, by omega, hd⟩
noncomputable def mu (s : RS) : Nat := (401 - (s.v 11).toInt + 402 * (2 - (s.v 13).toInt)).toNat
theorem mu_le (s : RS) (hI : InvR s) : mu s ≤ 1205 := by
  have ht : 0 ≤ (s.v 11).toInt ∧ (s.v 11).toInt ≤ 400 := hI.1 11
  have hf : 0 ≤ (s.v 13).toInt ∧ (s.v 13).toInt ≤ 2 := hI.1 13
  unfold mu; omega
/-- what an expression leaves -/
noncomputable def PE (sd c0 : Nat) (base : Int) (s0 y : RS) : Prop := InvR y ∧ FrR WE s0 y ∧ Out c0 (420 * sd + 402) s0 y ∧ Adv s0 y ∧ 0 ≤ (y.v 12).toInt ∧ (y.v 12).toInt ≤ 7 ∧ ∃ c : Nat, (y.v 35).toInt = ((420 * sd + c : Nat) : Int) ∧ c0 ≤ 420 * sd + c ∧ (c : Int) ≤ (y.v 11).toInt + 1 ∧ ((y.v 13).toInt = 0 → (c : Int) ≤ (y.v 11).toInt ∧ (y.v 12).toInt = base ∧ (s0.v 11).toInt + 1 ≤ (y.v 11).toInt ∧ dep (y.f 36) (y.f 37) (420 * sd + c - c0) c0 0 = some 1)
noncomputable def Ctx (sd c0 : Nat) (s0 s : RS) : Prop := FrR WE s0 s ∧ Out c0 (420 * sd + 402) s0 s ∧ Adv s0 s
theorem Ctx.on {sd c0 : Nat} {s0 s y : RS} {W : List Nat} (h : Ctx sd c0 s0 s) (hF : FrR W s y) (hO : Out c0 (420 * sd + 402) s y) (hA : Adv s y) (hW : ∀ k ∈ W, k ∈ WE) : Ctx sd c0 s0 y :=
  ⟨h.1.trans hF hW, h.2.1.trans hO (Nat.le_refl _), ⟨Int.le_trans h.2.2.1 hA.1, Int.le_trans h.2.2.2 hA.2⟩⟩
theorem ok_unit (sd c0 : Nat) (base : Int) (s : RS) (n c : Nat) (hE : EX sd c0 base 0 s n c) : Ok (r_unit s) (fun y => ∃ c', c ≤ c' ∧ EX sd c0 base 1 y n c' ∧ FrR [11, 13, 14, 35, 136, 137] s y ∧ Out c0 (420 * sd + 402) s y ∧ Adv s y ∧ ((y.v 13).toInt = 0 → (y.v 11).toInt = (s.v 11).toInt + 1) ∧ mu y ≤ mu s ∧ ((s.v 13).toInt = 0 → mu y < mu s)) := by
  obtain ⟨hI, h19, hsd, h39, h35, hc0, hc1, hb, h12, h127, h126, hS, hc2, hc3, hd⟩ := hE
  have ht : 0 ≤ (s.v 11).toInt ∧ (s.v 11).toInt ≤ 400 := hI.1 11
  have hf : 0 ≤ (s.v 13).toInt ∧ (s.v 13).toInt ≤ 2 := hI.1 13
  have bad : ∀ (y : RS), InvR y → FrR [13, 14] s y → 1 ≤ (y.v 13).toInt → (s.v 13).toInt ≤ (y.v 13).toInt → ∃ c', c ≤ c' ∧ EX sd c0 base 1 y n c' ∧ FrR [11, 13, 14, 35, 136, 137] s y ∧ Out c0 (420 * sd + 402) s y ∧ Adv s y ∧ ((y.v 13).toInt = 0 → (y.v 11).toInt = (s.v 11).toInt + 1) ∧ mu y ≤ mu s ∧ ((s.v 13).toInt = 0 → mu y < mu s) := by
    intro y hIy hF h1 h2
    have e (k : Nat) (hk : k ∉ [13, 14]) : y.v k = s.v k := hF.1 k hk
    have ef (k : Nat) (hk : 100 + k ∉ [13, 14]) : y.f k = s.f k := (hF.2 k hk).1
    have hfy : 0 ≤ (y.v 13).toInt ∧ (y.v 13).toInt ≤ 2 := hIy.1 13
    refine ⟨c, Nat.le_refl _, ⟨hIy, by rw [e 19 (by decide)]; exact h19, hsd, by rw [e 39 (by decide)]; exact h39, by rw [e 35 (by decide)]; exact h35, hc0, hc1, hb, by rw [e 12 (by decide), ef 38 (by decide)]; exact h12, by rw [e 12 (by decide)]; exact h127, fun q => by omega, by rw [ef 38 (by decide)]; exact hS, by rw [e 11 (by decide), ef 38 (by decide)]; exact hc2, fun q => by omega, fun q => by omega⟩, FrR.rfl.trans hF (by decide), Out.fr hF (by decide) (by decide), ⟨by rw [e 11 (by decide)]; exact Int.le_refl _, h2⟩, fun q => by omega, ?_, ?_⟩
    · unfold mu; rw [e 11 (by decide)]; omega
    · intro q; unfold mu; rw [e 11 (by decide)]; omega
  have good : ∀ (k z : Int32), (s.v 13).toInt = 0 → (k.toInt = 0 ∨ (k.toInt = 1 ∧ 0 ≤ z.toInt ∧ z.toInt ≤ 8)) → Ok (bindP (r_emit s k z) fun s13 => bindP (r_goesOn s13) fun s14 => some s14) (fun y => ∃ c', c ≤ c' ∧ EX sd c0 base 1 y n c' ∧ FrR [11, 13, 14, 35, 136, 137] s y ∧ Out c0 (420 * sd + 402) s y ∧ Adv s y ∧ ((y.v 13).toInt = 0 → (y.v 11).toInt = (s.v 11).toInt + 1) ∧ mu y ≤ mu s ∧ ((s.v 13).toInt = 0 → mu y < mu s)) := by
    intro k z hz hk
    have hct := hc3 hz
    refine ok_bindP (ok_emit s k z (420 * sd + c) hI h35 (by omega)) (fun s1 hc => ?_)
    obtain ⟨hI1, hF1, h351, hf36, hf37⟩ := hc
    have e1 (k : Nat) (hk : k ∉ [35, 136, 137]) : s1.v k = s.v k := hF1.1 k hk
    refine ok_bindP (ok_goesOn s1 hI1) (fun y hcy => ?_)
    obtain ⟨hIy, hFy, hst⟩ := hcy
    have hfy : 0 ≤ (y.v 13).toInt ∧ (y.v 13).toInt ≤ 2 := hIy.1 13
    have ey (k : Nat) (hk : k ∉ [11, 13, 14]) : y.v k = s1.v k := hFy.1 k hk
    have eyf (k : Nat) (hk : 100 + k ∉ [11, 13, 14]) : y.f k = s1.f k := (hFy.2 k hk).1
    have ef38 : y.f 38 = s.f 38 := (eyf 38 (by decide)).trans (hF1.2 38 (by decide)).1
    have hst' : ((y.v 11).toInt = (s.v 11).toInt + 1 ∧ (y.v 13).toInt = (s.v 13).toInt) ∨ ((s.v 11).toInt = 400 ∧ (y.v 11).toInt = (s.v 11).toInt ∧ 1 ≤ (y.v 13).toInt ∧ (s.v 13).toInt ≤ (y.v 13).toInt) := by
      unfold Step at hst
      rw [e1 11 (by decide), e1 13 (by decide)] at hst
      exact hst
    have e12 : y.v 12 = s.v 12 := (ey 12 (by decide)).trans (e1 12 (by decide))
    have e35 : (y.v 35).toInt = ((420 * sd + (c + 1) : Nat) : Int) := by rw [ey 35 (by decide), h351]; omega
    refine ok_some ⟨c + 1, by omega, ⟨hIy, by rw [ey 19 (by decide), e1 19 (by decide)]; exact h19, hsd, by rw [ey 39 (by decide), e1 39 (by decide)]; exact h39, e35, hc0, by omega, hb, by rw [e12, ef38]; exact h12, by rw [e12]; exact h127, fun q => by rw [e12]; exact h126 hz, by rw [ef38]; exact hS, by rw [ef38]; omega, fun q => by rw [ef38]; omega, fun q => ?_⟩, (FrR.rfl.trans (W := [11, 13, 14, 35, 136, 137]) hF1 (by decide)).trans hFy (by decide), ?_, ⟨by omega, by omega⟩, fun q => by omega, ?_, ?_⟩
    · rw [eyf 36 (by decide), eyf 37 (by decide), hf36, hf37, ef38]
      have hp : c0 + (420 * sd + c - c0) = 420 * sd + c := by omega
      have := dep_push (x := k) (y := z) (hd hz) hk
      rw [hp] at this
      rw [show 420 * sd + (c + 1) - c0 = 420 * sd + c - c0 + 1 by omega, this]
    · intro j hj
      rw [eyf 36 (by decide), eyf 37 (by decide), hf36, hf37]
      unfold upd
      rw [if_neg (by omega), if_neg (by omega)]
      exact ⟨rfl, rfl⟩
    · unfold mu; omega
    · intro _; unfold mu; omega
  have fl : Ok (r_unit_88 s) (fun y => ∃ c', c ≤ c' ∧ EX sd c0 base 1 y n c' ∧ FrR [11, 13, 14, 35, 136, 137] s y ∧ Out c0 (420 * sd + 402) s y ∧ Adv s y ∧ ((y.v 13).toInt = 0 → (y.v 11).toInt = (s.v 11).toInt + 1) ∧ mu y ≤ mu s ∧ ((s.v 13).toInt = 0 → mu y < mu s)) := by
    unfold r_unit_88
    refine ok_bindP (ok_fail s 1 hI (by decide) (by decide)) (fun y hc => ?_)
    exact ok_some (bad y hc.1 hc.2.1 hc.2.2.1 hc.2.2.2)
  unfold r_unit
  refine ok_is hI (fun h0 hk => ?_) (fun h => ?_)
  · show Ok (if (1 : Int32) = 0 then _ else _) _
    rw [if_neg z_one]
    refine ok_grd (vpb_ok (by omega) (by omega)) ?_
    exact good 0 _ (fz h0) (Or.inl (by decide))
  · show Ok (if (0 : Int32) = 0 then _ else _) _
    rw [if_pos rfl]
    refine ok_ite (fun h0 => ?_) (fun _ => fl)
    refine ok_grd (vpb_ok (by omega) (by omega)) ?_
    refine ok_ite (fun _ => fl) (fun c1 => ?_)
    have c1 := tn_nlt (b := 30) rfl (by decide) c1
    refine ok_grd (vpb_ok (by omega) (by omega)) ?_
    refine ok_ite (fun _ => fl) (fun c2 => ?_)
    have c2 := tn_nlt (a := 38) (by decide) rfl c2
    refine ok_grd (vpb_ok (by omega) (by omega)) ?_
    have a : ((s.f 5 (Int32.toNatClampNeg (s.v 11))) - 30).toInt = (s.f 5 (Int32.toNatClampNeg (s.v 11))).toInt - 30 := tn_sub rfl (by decide) (by omega) (by omega)
    exact good 1 _ (fz h0) (Or.inr ⟨by decide, by omega, by omega⟩)
theorem ok_204 (sd c0 : Nat) (base : Int) (s0 s : RS) (n c : Nat) (hE : EX sd c0 base 1 s n c) (hX : Ctx sd c0 s0 s) (h1 : (s.v 13).toInt = 0 → (s.v 12).toInt ≤ base ∧ (s0.v 11).toInt + 1 ≤ (s.v 11).toInt) : Ok (r_expression_204 s) (PE sd c0 base s0) := by
  unfold r_expression_204
  have hn23 := hE.n23
  refine ok_bindP (ok_comesOut sd c0 0 s n c hE.co) (fun y hy => ?_)
  obtain ⟨hI, h19, hsd, h39, h35, hc0, hc1, hb, h12, h127, h126, hS, hc2, hc3, hd⟩ := hE
  obtain ⟨n', c', q1, q2, hC, q4, q5, hF, hO, q8⟩ := hy
  obtain ⟨hIy, k19, _, k39, _, k35, _, kc1, kcn, kd⟩ := hC
  have ev (k : Nat) (hk : k ∉ [35, 39, 136, 137]) : y.v k = s.v k := hF.1 k hk
  have e38 : y.f 38 = s.f 38 := (hF.2 38 (by decide)).1
  have hle := nops_le (s.f 38) n
  have hle' := nops_le (s.f 38) n'
  have hX2 : Ctx sd c0 s0 y := hX.on hF hO ⟨by rw [ev 11 (by decide)]; exact Int.le_refl _, by rw [ev 13 (by decide)]; exact Int.le_refl _⟩ (by decide)
  refine ok_some ⟨hIy, hX2.1, hX2.2.1, hX2.2.2, by rw [ev 12 (by decide)]; omega, by rw [ev 12 (by decide)]; omega, c', k35, kc1, by rw [ev 11 (by decide)]; omega, ?_⟩
  rw [ev 13 (by decide), ev 11 (by decide), ev 12 (by decide)]
  intro hz
  have h1z := h1 hz
  have hcz := hc3 hz
  have hn0 : n' = 0 := by
    rcases q8 with q | q | q
    · exact q
    · cases n' with
      | zero => rfl
      | succ m =>
        have : nops (s.f 38) (m + 1) = nops (s.f 38) m := by
          show nops (s.f 38) m + (if s.f 38 m = 6 then 0 else 1) = _
          rw [if_pos (show s.f 38 m = 6 from q)]; rfl
        have := nops_le (s.f 38) m
        omega
    · exact absurd rfl q.1
  subst hn0
  refine ⟨by omega, by omega, by omega, ?_⟩
  have := kd (by rw [ev 13 (by decide)]; exact hz)
  rw [this]
  rfl
end
section
theorem nops_push {f : Nat → Int32} {n : Nat} {x : Int32} : nops (upd f n x) (n + 1) = nops f n + (if x = 6 then 0 else 1) := by
  show nops (upd f n x) n + (if upd f n x n = 6 then 0 else 1) = _
  rw [nops_congr (f := upd f n x) (g := f) n (fun i hi => by unfold upd; rw [if_neg (by omega)])]
  have : upd f n x n = x := by unfold upd; rw [if_pos rfl]
  rw [this]
/-- an operator is put to what waits -/
theorem ok_234 (sd c0 : Nat) (base : Int) (s0 : RS) (k12 : RS → Int32 → Int32 → Option RS) (M : Nat) (x1 x2 : Int32) (hk : ∀ (s : RS) (n c : Nat), EX sd c0 base 0 s n c → Ctx sd c0 s0 s → mu s < M → Ok (k12 s x1 x2) (PE sd c0 base s0))
    (s : RS) (n c : Nat) (t0 : Int32) (hE : EX sd c0 base 1 s n c) (hX : Ctx sd c0 s0 s) (hz : (s.v 13).toInt = 0) (hM : mu s ≤ M)
    (hop : (¬ t0 = 0 ∧ (s.f 5 (s.v 11).toNatClampNeg = 10 ∨ s.f 5 (s.v 11).toNatClampNeg = 15)) ∨ (t0 = 0 ∧ (s.f 5 (s.v 11).toNatClampNeg = 8 ∨ s.f 5 (s.v 11).toNatClampNeg = 9))) : Ok (r_expression_234 k12 s x1 x2 t0) (PE sd c0 base s0) := by
  unfold r_expression_234
  have hn23 := hE.n23
  refine ok_bindP (ok_comesOut sd c0 t0 s n c hE.co) (fun s1 hy => ?_)
  obtain ⟨hI, h19, hsd, h39, h35, hc0, hc1, hb, h12, h127, h126, hS, hc2, hc3, hd⟩ := hE
  obtain ⟨n', c', q1, q2, hC, q4, q5, hF, hO, q8⟩ := hy
  obtain ⟨hI1, k19, _, k39, _, k35, _, kc1, kcn, kd⟩ := hC
  have ev (k : Nat) (hk : k ∉ [35, 39, 136, 137]) : s1.v k = s.v k := hF.1 k hk
  have ef (k : Nat) (hk : 100 + k ∉ [35, 39, 136, 137]) : s1.f k = s.f k := (hF.2 k hk).1
  have ht : 0 ≤ (s1.v 11).toInt ∧ (s1.v 11).toInt ≤ 400 := hI1.1 11
  have hle := nops_le (s.f 38) n
  have hle' := nops_le (s.f 38) n'
  have hz1 : (s1.v 13).toInt = 0 := by rw [ev 13 (by decide)]; exact hz
  refine ok_grd (vpb_ok (by omega) (by omega)) ?_
  refine ok_grd (vpb_ok (by omega) (by omega)) ?_
  have ec : (s1.v 39).toNatClampNeg = n' := clamp_of_int k39
  rw [ec]
  have eop : s1.f 5 (s1.v 11).toNatClampNeg = s.f 5 (s.v 11).toNatClampNeg := by rw [ef 5 (by decide), ev 11 (by decide)]
  show Ok (letS (s1.sf 38 n' (s1.f 5 (s1.v 11).toNatClampNeg)) _) _
  rw [eop]
  generalize hop0 : s.f 5 (s.v 11).toNatClampNeg = op at hop
  refine ok_let (fun s4 hs4 => ?_)
  refine ok_let (fun s6 hs6 => ?_)
  have hI4 : InvR s4 := by rw [← hs4]; exact hI1.sfF (k := 38) rfl rfl
  have hI6 : InvR s6 := by rw [← hs6]; exact hI4.svF (k := 39) rfl rfl
  have hF16 : FrR [39, 138] s1 s6 := by rw [← hs6, ← hs4]; exact (FrR.rfl.sf (k := 38) (by decide)).sv (k := 39) (by decide)
  have e638 : s6.f 38 = upd (s.f 38) n' op := by rw [← hs6, ← hs4, ← ef 38 (by decide)]; rfl
  have e639 : (s6.v 39).toInt = (n' : Int) + 1 := by
    have a : ((s1.v 39) + 1).toInt = (s1.v 39).toInt + 1 := tn_add rfl (by decide) (by omega) (by omega)
    have e : s6.v 39 = (s1.v 39) + 1 := by rw [← hs6, ← hs4]; rfl
    rw [e]; omega
  refine ok_bindP (ok_goesOn s6 hI6) (fun y hcy => ?_)
  obtain ⟨hIy, hFy, hst⟩ := hcy
  have hfy : 0 ≤ (y.v 13).toInt ∧ (y.v 13).toInt ≤ 2 := hIy.1 13
  have e6 (k : Nat) (hk : k ∉ [39, 138]) : s6.v k = s1.v k := hF16.1 k hk
  have ey (k : Nat) (hk : k ∉ [11, 13, 14]) : y.v k = s6.v k := hFy.1 k hk
  have eyf (k : Nat) (hk : 100 + k ∉ [11, 13, 14]) : y.f k = s6.f k := (hFy.2 k hk).1
  have ey38 : y.f 38 = upd (s.f 38) n' op := (eyf 38 (by decide)).trans e638
  have hst' : ((y.v 11).toInt = (s.v 11).toInt + 1 ∧ (y.v 13).toInt = (s.v 13).toInt) ∨ ((s.v 11).toInt = 400 ∧ (y.v 11).toInt = (s.v 11).toInt ∧ 1 ≤ (y.v 13).toInt ∧ (s.v 13).toInt ≤ (y.v 13).toInt) := by
    unfold Step at hst
    rw [e6 11 (by decide), e6 13 (by decide), ev 11 (by decide), ev 13 (by decide)] at hst
    exact hst
  have hop6 : ¬ op = 6 := by
    rcases hop with ⟨_, h | h⟩ | ⟨_, h | h⟩ <;> (rw [h]; decide)
  have hno : nops (y.f 38) (n' + 1) = nops (s.f 38) n' + 1 := by rw [ey38, nops_push, if_neg hop6]
  have hct := hc3 hz
  have e12 : y.v 12 = s.v 12 := (ey 12 (by decide)).trans ((e6 12 (by decide)).trans (ev 12 (by decide)))
  have e35 : y.v 35 = s1.v 35 := (ey 35 (by decide)).trans (e6 35 (by decide))
  have e36 : y.f 36 = s1.f 36 := (eyf 36 (by decide)).trans (hF16.2 36 (by decide)).1
  have e37 : y.f 37 = s1.f 37 := (eyf 37 (by decide)).trans (hF16.2 37 (by decide)).1
  have hSh : Shape (y.f 38) (n' + 1) := by
    rw [ey38]
    refine (hS.less q1).put (fun h => ?_) (fun h6 h8 h9 => ?_)
    · rcases hop with ⟨h0, h1 | h1⟩ | ⟨h0, _⟩
      · rw [h1] at h; rcases h with h | h <;> exact absurd h (by decide)
      · rw [h1] at h; rcases h with h | h <;> exact absurd h (by decide)
      · rcases q8 with q | q | q
        · exact Or.inl q
        · exact Or.inr q
        · exact absurd h0 q.1
    · rcases q8 with q | q | q
      · exact Or.inl q
      · exact Or.inr (Or.inl q)
      · rcases q.2 with q | q
        · exact Or.inr (Or.inr (Or.inl q))
        · exact Or.inr (Or.inr (Or.inr q))
  have hEy : EX sd c0 base 0 y (n' + 1) c' := by
    refine ⟨hIy, by rw [ey 19 (by decide), e6 19 (by decide)]; exact k19, hsd, by rw [ey 39 (by decide)]; omega, by rw [e35]; exact k35, hc0, kc1, hb, by rw [e12, hno]; omega, by rw [e12]; exact h127, fun q => by rw [e12]; exact h126 hz, hSh, by rw [hno]; omega, fun q => by rw [hno]; omega, fun q => ?_⟩
    rw [e36, e37, hno, kd hz1, ef 38 (by decide)]
  have hXy : Ctx sd c0 s0 y := by
    have h1 : Ctx sd c0 s0 s1 := hX.on hF hO ⟨by rw [ev 11 (by decide)]; exact Int.le_refl _, by rw [ev 13 (by decide)]; exact Int.le_refl _⟩ (by decide)
    have h2 : Ctx sd c0 s0 s6 := h1.on hF16 (Out.fr hF16 (by decide) (by decide)) ⟨by rw [e6 11 (by decide)]; exact Int.le_refl _, by rw [e6 13 (by decide)]; exact Int.le_refl _⟩ (by decide)
    refine h2.on hFy (Out.fr hFy (by decide) (by decide)) ⟨?_, ?_⟩ (by decide)
    · rw [e6 11 (by decide), ev 11 (by decide)]; omega
    · rw [e6 13 (by decide), ev 13 (by decide)]; omega
  have hty : 0 ≤ (y.v 11).toInt ∧ (y.v 11).toInt ≤ 400 := hIy.1 11
  exact hk y (n' + 1) c' hEy hXy (by unfold mu at hM ⊢; omega)
/-- behind a unit and what closes -/
theorem ok_145 (sd c0 : Nat) (base : Int) (s0 : RS) (k12 : RS → Int32 → Int32 → Option RS) (M : Nat) (x1 : Int32) (hx1 : x1.toInt = base) (hk : ∀ (x2 : Int32), ¬ x2 = 0 → ∀ (s : RS) (n c : Nat), EX sd c0 base 0 s n c → Ctx sd c0 s0 s → mu s < M → Ok (k12 s x1 x2) (PE sd c0 base s0))
    (s : RS) (n c : Nat) (hE : EX sd c0 base 1 s n c) (hX : Ctx sd c0 s0 s) (ht0 : (s.v 13).toInt = 0 → (s0.v 11).toInt + 1 ≤ (s.v 11).toInt) (hM : mu s ≤ M) : Ok (r_expression_145 k12 s x1) (PE sd c0 base s0) := by
  have hI := hE.1
  have done : Ok (r_expression_186 k12 s x1 0) (PE sd c0 base s0) := by
    unfold r_expression_186
    rw [if_pos rfl]
    refine ok_ite (fun c1 => ?_) (fun c1 => ?_)
    · have c1 := tn_le (b := base) rfl hx1 c1
      exact ok_204 sd c0 base s0 s n c hE hX (fun q => ⟨c1, ht0 q⟩)
    · refine ok_bindP (ok_fail s 1 hI (by decide) (by decide)) (fun y hc => ?_)
      obtain ⟨hIy, hF, h1, h2⟩ := hc
      have e (k : Nat) (hk : k ∉ [13, 14]) : y.v k = s.v k := hF.1 k hk
      have ef (k : Nat) (hk : 100 + k ∉ [13, 14]) : y.f k = s.f k := (hF.2 k hk).1
      obtain ⟨_, h19, hsd, h39, h35, hc0, hc1, hb, h12, h127, h126, hS, hc2, hc3, hd⟩ := hE
      have hEy : EX sd c0 base 1 y n c := ⟨hIy, by rw [e 19 (by decide)]; exact h19, hsd, by rw [e 39 (by decide)]; exact h39, by rw [e 35 (by decide)]; exact h35, hc0, hc1, hb, by rw [e 12 (by decide), ef 38 (by decide)]; exact h12, by rw [e 12 (by decide)]; exact h127, fun q => by omega, by rw [ef 38 (by decide)]; exact hS, by rw [e 11 (by decide), ef 38 (by decide)]; exact hc2, fun q => by omega, fun q => by omega⟩
      exact ok_204 sd c0 base s0 y n c hEy (hX.on hF (Out.fr hF (by decide) (by decide)) ⟨by rw [e 11 (by decide)]; exact Int.le_refl _, h2⟩ (by decide)) (fun q => by omega)
  have more : s.v 13 = 0 → (s.f 5 (s.v 11).toNatClampNeg = 8 ∨ s.f 5 (s.v 11).toNatClampNeg = 9 ∨ s.f 5 (s.v 11).toNatClampNeg = 10 ∨ s.f 5 (s.v 11).toNatClampNeg = 15) → Ok (r_expression_181 k12 s x1) (PE sd c0 base s0) := by
    intro hz ho
    unfold r_expression_181 r_expression_186
    rw [if_neg z_one]
    have h1 : ¬ (1 : Int32) = 0 := z_one
    refine ok_is hI (fun _ hk10 => ?_) (fun h10 => ?_)
    · show Ok (if (1 : Int32) = 0 then _ else _) _
      rw [if_neg z_one]
      unfold r_expression_229
      exact ok_234 sd c0 base s0 k12 M x1 1 (hk 1 h1) s n c 1 hE hX (fz hz) hM (Or.inl ⟨h1, Or.inl hk10⟩)
    · show Ok (if (0 : Int32) = 0 then _ else _) _
      rw [if_pos rfl]
      refine ok_is hI (fun _ hk15 => ?_) (fun h15 => ?_)
      · show Ok (if (1 : Int32) = 0 then _ else _) _
        rw [if_neg z_one]
        unfold r_expression_229
        exact ok_234 sd c0 base s0 k12 M x1 1 (hk 1 h1) s n c 1 hE hX (fz hz) hM (Or.inl ⟨h1, Or.inr hk15⟩)
      · show Ok (if (0 : Int32) = 0 then _ else _) _
        rw [if_pos rfl]
        refine ok_234 sd c0 base s0 k12 M x1 1 (hk 1 h1) s n c 0 hE hX (fz hz) hM (Or.inr ⟨rfl, ?_⟩)
        rcases ho with h | h | h | h
        · exact Or.inl h
        · exact Or.inr h
        · exact absurd ⟨hz, h⟩ h10
        · exact absurd ⟨hz, h⟩ h15
  unfold r_expression_145
  refine ok_is hI (fun hz h => ?_) (fun h8 => ?_)
  · show Ok (if (1 : Int32) = 0 then _ else _) _
    rw [if_neg z_one]
    exact more hz (Or.inl h)
  · show Ok (if (0 : Int32) = 0 then _ else _) _
    rw [if_pos rfl]
    refine ok_is hI (fun hz h => ?_) (fun h9 => ?_)
    · show Ok (if (1 : Int32) = 0 then _ else _) _
      rw [if_neg z_one]
      exact more hz (Or.inr (Or.inl h))
    · show Ok (if (0 : Int32) = 0 then _ else _) _
      rw [if_pos rfl]
      refine ok_is hI (fun hz h => ?_) (fun h10 => ?_)
      · show Ok (if (1 : Int32) = 0 then _ else _) _
        rw [if_neg z_one]
        exact more hz (Or.inr (Or.inr (Or.inl h)))
      · show Ok (if (0 : Int32) = 0 then _ else _) _
        rw [if_pos rfl]
        refine ok_is hI (fun hz h => ?_) (fun h15 => ?_)
        · show Ok (if (1 : Int32) = 0 then _ else _) _
          rw [if_neg z_one]
          exact more hz (Or.inr (Or.inr (Or.inr h)))
        · show Ok (if (0 : Int32) = 0 then _ else _) _
          rw [if_pos rfl]
          exact done
theorem ok_96 (sd c0 : Nat) (base : Int) (s0 : RS) (k12 : RS → Int32 → Int32 → Option RS) (M : Nat) (x1 : Int32) (hx1 : x1.toInt = base) (hk : ∀ (x2 : Int32), ¬ x2 = 0 → ∀ (s : RS) (n c : Nat), EX sd c0 base 0 s n c → Ctx sd c0 s0 s → mu s < M → Ok (k12 s x1 x2) (PE sd c0 base s0)) :
    ∀ (m : Nat) (s : RS) (n c : Nat), mu s < m → EX sd c0 base 1 s n c → Ctx sd c0 s0 s → ((s.v 13).toInt = 0 → (s0.v 11).toInt + 1 ≤ (s.v 11).toInt) → mu s ≤ M → Ok (r_expression_96L k12 m s x1) (PE sd c0 base s0) := by
  intro m
  induction m with
  | zero => intro s n c h; omega
  | succ m ih =>
    intro s n c hm hE hX ht0 hM
    show Ok (r_expression_96 k12 (r_expression_96L k12 m) s x1) _
    unfold r_expression_96
    have hI := hE.1
    refine ok_is hI (fun hz h7 => ?_) (fun h => ?_)
    · show Ok (if (1 : Int32) = 0 then _ else _) _
      rw [if_neg z_one]
      refine ok_ite (fun _ => ok_145 sd c0 base s0 k12 M x1 hx1 hk s n c hE hX ht0 hM) (fun c1 => ?_)
      have c1 := tn_nle (b := base) rfl hx1 c1
      have hz := fz hz
      have hn23 := hE.n23
      refine ok_bindP (ok_comesOut sd c0 0 s n c hE.co) (fun s5 hy => ?_)
      obtain ⟨_, h19, hsd, h39, h35, hc0, hc1, hb, h12, h127, h126, hS, hc2, hc3, hd⟩ := hE
      obtain ⟨n', c', q1, q2, hC, q4, q5, hF, hO, q8⟩ := hy
      obtain ⟨hI5, k19, _, k39, _, k35, _, kc1, kcn, kd⟩ := hC
      have ev (k : Nat) (hk : k ∉ [35, 39, 136, 137]) : s5.v k = s.v k := hF.1 k hk
      have e538 : s5.f 38 = s.f 38 := (hF.2 38 (by decide)).1
      have hle := nops_le (s.f 38) n
      have hle' := nops_le (s.f 38) n'
      have hct := hc3 hz
      have hz5 : (s5.v 13).toInt = 0 := by rw [ev 13 (by decide)]; exact hz
      obtain ⟨n1, rfl, h6⟩ : ∃ n1, n' = n1 + 1 ∧ s.f 38 n1 = 6 := by
        rcases q8 with q | q | q
        · subst q
          have : nops (s.f 38) 0 = 0 := rfl
          omega
        · cases n' with
          | zero =>
            have : nops (s.f 38) 0 = 0 := rfl
            omega
          | succ n1 => exact ⟨n1, rfl, q⟩
        · exact absurd rfl q.1
      have hno : nops (s.f 38) (n1 + 1) = nops (s.f 38) n1 := by
        show nops (s.f 38) n1 + (if s.f 38 n1 = 6 then 0 else 1) = _
        rw [if_pos h6]; rfl
      have hle1 := nops_le (s.f 38) n1
      refine ok_let (fun s6 hs6 => ?_)
      refine ok_let (fun s8 hs8 => ?_)
      have hI6 : InvR s6 := by rw [← hs6]; exact hI5.svF (k := 39) rfl rfl
      have hI8 : InvR s8 := by rw [← hs8]; exact hI6.svF (k := 12) rfl rfl
      have hF58 : FrR [12, 39] s5 s8 := by rw [← hs8, ← hs6]; exact (FrR.rfl.sv (k := 39) (by decide)).sv (k := 12) (by decide)
      have e839 : (s8.v 39).toInt = (n1 : Int) := by
        have a : ((s5.v 39) - 1).toInt = (s5.v 39).toInt - 1 := tn_sub rfl (by decide) (by omega) (by omega)
        have e : s8.v 39 = (s5.v 39) - 1 := by rw [← hs8, ← hs6]; rfl
        rw [e]; omega
      have e812 : (s8.v 12).toInt = (s.v 12).toInt - 1 := by
        have e512 : s5.v 12 = s.v 12 := ev 12 (by decide)
        have a : ((s5.v 12) - 1).toInt = (s5.v 12).toInt - 1 := tn_sub rfl (by decide) (by rw [e512]; omega) (by rw [e512]; omega)
        have e : s8.v 12 = (s5.v 12) - 1 := by rw [← hs8, ← hs6]; rfl
        rw [e, a, e512]
      refine ok_bindP (ok_goesOn s8 hI8) (fun y hcy => ?_)
      obtain ⟨hIy, hFy, hst⟩ := hcy
      have hfy : 0 ≤ (y.v 13).toInt ∧ (y.v 13).toInt ≤ 2 := hIy.1 13
      have e8 (k : Nat) (hk : k ∉ [12, 39]) : s8.v k = s5.v k := hF58.1 k hk
      have e8f (k : Nat) (hk : 100 + k ∉ [12, 39]) : s8.f k = s5.f k := (hF58.2 k hk).1
      have ey (k : Nat) (hk : k ∉ [11, 13, 14]) : y.v k = s8.v k := hFy.1 k hk
      have eyf (k : Nat) (hk : 100 + k ∉ [11, 13, 14]) : y.f k = s8.f k := (hFy.2 k hk).1
      have ey38 : y.f 38 = s.f 38 := (eyf 38 (by decide)).trans ((e8f 38 (by decide)).trans e538)
      have hst' : ((y.v 11).toInt = (s.v 11).toInt + 1 ∧ (y.v 13).toInt = (s.v 13).toInt) ∨ ((s.v 11).toInt = 400 ∧ (y.v 11).toInt = (s.v 11).toInt ∧ 1 ≤ (y.v 13).toInt ∧ (s.v 13).toInt ≤ (y.v 13).toInt) := by
        unfold Step at hst
        rw [e8 11 (by decide), e8 13 (by decide), ev 11 (by decide), ev 13 (by decide)] at hst
        exact hst
      have ey12 : (y.v 12).toInt = (s.v 12).toInt - 1 := by rw [ey 12 (by decide)]; exact e812
      have ho6 := h126 hz
      have ht0z := ht0 hz
      have hEy : EX sd c0 base 1 y n1 c' := by
        refine ⟨hIy, by rw [ey 19 (by decide), e8 19 (by decide)]; exact k19, hsd, by rw [ey 39 (by decide)]; exact e839, by rw [ey 35 (by decide), e8 35 (by decide)]; exact k35, hc0, kc1, hb, by rw [ey12, ey38]; omega, by omega, fun q => by omega, by rw [ey38]; exact hS.less (by omega), by rw [ey38]; omega, fun q => by rw [ey38]; omega, fun q => ?_⟩
        rw [eyf 36 (by decide), eyf 37 (by decide), e8f 36 (by decide), e8f 37 (by decide), ey38, kd hz5, e538, hno]
      have hXy : Ctx sd c0 s0 y := by
        have h1 : Ctx sd c0 s0 s5 := hX.on hF hO ⟨by rw [ev 11 (by decide)]; exact Int.le_refl _, by rw [ev 13 (by decide)]; exact Int.le_refl _⟩ (by decide)
        have h2 : Ctx sd c0 s0 s8 := h1.on hF58 (Out.fr hF58 (by decide) (by decide)) ⟨by rw [e8 11 (by decide)]; exact Int.le_refl _, by rw [e8 13 (by decide)]; exact Int.le_refl _⟩ (by decide)
        refine h2.on hFy (Out.fr hFy (by decide) (by decide)) ⟨?_, ?_⟩ (by decide)
        · rw [e8 11 (by decide), ev 11 (by decide)]; omega
        · rw [e8 13 (by decide), ev 13 (by decide)]; omega
      have hty : 0 ≤ (y.v 11).toInt ∧ (y.v 11).toInt ≤ 400 := hIy.1 11
      have hmu : mu y < mu s := by unfold mu; omega
      exact ih y n1 c' (by omega) hEy hXy (fun q => by omega) (by omega)
    · show Ok (if (0 : Int32) = 0 then _ else _) _
      rw [if_pos rfl]
      exact ok_145 sd c0 base s0 k12 M x1 hx1 hk s n c hE hX ht0 hM
theorem ok_23 (sd c0 : Nat) (base : Int) (s0 : RS) (k12 : RS → Int32 → Int32 → Option RS) (M : Nat) (x1 : Int32) (hx1 : x1.toInt = base) (hk : ∀ (x2 : Int32), ¬ x2 = 0 → ∀ (s : RS) (n c : Nat), EX sd c0 base 0 s n c → Ctx sd c0 s0 s → mu s < M → Ok (k12 s x1 x2) (PE sd c0 base s0)) :
    ∀ (m : Nat) (s : RS) (n c : Nat), mu s < m → EX sd c0 base 0 s n c → Ctx sd c0 s0 s → mu s ≤ M → Ok (r_expression_23L k12 m s x1) (PE sd c0 base s0) := by
  intro m
  induction m with
  | zero => intro s n c h; omega
  | succ m ih =>
    intro s n c hm hE hX hM
    show Ok (r_expression_23 k12 (r_expression_23L k12 m) s x1) _
    unfold r_expression_23
    have hI := hE.1
    have hn23 := hE.n23
    refine ok_is hI (fun hz h6 => ?_) (fun h => ?_)
    · show Ok (if (1 : Int32) = 0 then _ else _) _
      rw [if_neg z_one]
      have hz := fz hz
      have ht : 0 ≤ (s.v 11).toInt ∧ (s.v 11).toInt ≤ 400 := hI.1 11
      have step : ∀ (s1 : RS), InvR s1 → FrR [13, 14] s s1 → (s.v 13).toInt ≤ (s1.v 13).toInt → ((s1.v 13).toInt = 0 → (s.v 12).toInt ≤ 5) → Ok (r_expression_46 k12 (r_expression_23L k12 m) s1 x1) (PE sd c0 base s0) := by
        intro s1 hI1 hF1 hf1 ho
        obtain ⟨_, h19, hsd, h39, h35, hc0, hc1, hb, h12, h127, h126, hS, hc2, hc3, hd⟩ := hE
        have hle := nops_le (s.f 38) n
        have hct := hc3 hz
        have ho6 := h126 hz
        have e1 (k : Nat) (hk : k ∉ [13, 14]) : s1.v k = s.v k := hF1.1 k hk
        have e1f (k : Nat) (hk : 100 + k ∉ [13, 14]) : s1.f k = s.f k := (hF1.2 k hk).1
        have hf1y : 0 ≤ (s1.v 13).toInt ∧ (s1.v 13).toInt ≤ 2 := hI1.1 13
        unfold r_expression_46
        refine ok_let (fun s2 hs2 => ?_)
        have hI2 : InvR s2 := by rw [← hs2]; exact hI1.svF (k := 12) rfl rfl
        have hF12 : FrR [12] s1 s2 := by rw [← hs2]; exact FrR.rfl.sv (k := 12) (by decide)
        have e212 : (s2.v 12).toInt = (s.v 12).toInt + 1 := by
          have e112 : s1.v 12 = s.v 12 := e1 12 (by decide)
          have a : ((s1.v 12) + 1).toInt = (s1.v 12).toInt + 1 := tn_add rfl (by decide) (by rw [e112]; omega) (by rw [e112]; omega)
          have e : s2.v 12 = (s1.v 12) + 1 := by rw [← hs2]; rfl
          rw [e, a, e112]
        have e2 (k : Nat) (hk : k ∉ [12]) : s2.v k = s1.v k := hF12.1 k hk
        have e2f (k : Nat) (hk : 100 + k ∉ [12]) : s2.f k = s1.f k := (hF12.2 k hk).1
        refine ok_bindP (ok_goesOn s2 hI2) (fun s3 hc3' => ?_)
        obtain ⟨hI3, hF3, hst⟩ := hc3'
        have e3 (k : Nat) (hk : k ∉ [11, 13, 14]) : s3.v k = s2.v k := hF3.1 k hk
        have e3f (k : Nat) (hk : 100 + k ∉ [11, 13, 14]) : s3.f k = s2.f k := (hF3.2 k hk).1
        have hf3 : 0 ≤ (s3.v 13).toInt ∧ (s3.v 13).toInt ≤ 2 := hI3.1 13
        have hst' : ((s3.v 11).toInt = (s.v 11).toInt + 1 ∧ (s3.v 13).toInt = (s1.v 13).toInt) ∨ ((s.v 11).toInt = 400 ∧ (s3.v 11).toInt = (s.v 11).toInt ∧ 1 ≤ (s3.v 13).toInt ∧ (s1.v 13).toInt ≤ (s3.v 13).toInt) := by
          unfold Step at hst
          rw [e2 11 (by decide), e2 13 (by decide), e1 11 (by decide)] at hst
          exact hst
        have e339 : s3.v 39 = s.v 39 := (e3 39 (by decide)).trans ((e2 39 (by decide)).trans (e1 39 (by decide)))
        have e338 : s3.f 38 = s.f 38 := (e3f 38 (by decide)).trans ((e2f 38 (by decide)).trans (e1f 38 (by decide)))
        refine ok_grd (vpb_ok (by rw [e339]; omega) (by rw [e339]; omega)) ?_
        have ec : (s3.v 39).toNatClampNeg = n := clamp_of_int (by rw [e339]; exact h39)
        rw [ec]
        refine ok_let (fun s5 hs5 => ?_)
        refine ok_let (fun s7 hs7 => ?_)
        have hI5 : InvR s5 := by rw [← hs5]; exact hI3.sfF (k := 38) rfl rfl
        have hI7 : InvR s7 := by rw [← hs7]; exact hI5.svF (k := 39) rfl rfl
        have hF37 : FrR [39, 138] s3 s7 := by rw [← hs7, ← hs5]; exact (FrR.rfl.sf (k := 38) (by decide)).sv (k := 39) (by decide)
        have e738 : s7.f 38 = upd (s.f 38) n 6 := by rw [← hs7, ← hs5, ← e338]; rfl
        have e739 : (s7.v 39).toInt = (n : Int) + 1 := by
          have a : ((s3.v 39) + 1).toInt = (s3.v 39).toInt + 1 := tn_add rfl (by decide) (by rw [e339]; omega) (by rw [e339]; omega)
          have e : s7.v 39 = (s3.v 39) + 1 := by rw [← hs7, ← hs5]; rfl
          rw [e, a, e339]; omega
        have e7 (k : Nat) (hk : k ∉ [39, 138]) : s7.v k = s3.v k := hF37.1 k hk
        have e7f (k : Nat) (hk : 100 + k ∉ [39, 138]) : s7.f k = s3.f k := (hF37.2 k hk).1
        have hno : nops (s7.f 38) (n + 1) = nops (s.f 38) n := by rw [e738, nops_push, if_pos rfl]; rfl
        have e712 : (s7.v 12).toInt = (s.v 12).toInt + 1 := by rw [e7 12 (by decide), e3 12 (by decide)]; exact e212
        have e711 : s7.v 11 = s3.v 11 := e7 11 (by decide)
        have e713 : s7.v 13 = s3.v 13 := e7 13 (by decide)
        have hEy : EX sd c0 base 0 s7 (n + 1) c := by
          refine ⟨hI7, by rw [e7 19 (by decide), e3 19 (by decide), e2 19 (by decide), e1 19 (by decide)]; exact h19, hsd, by omega, by rw [e7 35 (by decide), e3 35 (by decide), e2 35 (by decide), e1 35 (by decide)]; exact h35, hc0, hc1, hb, by rw [e712, hno]; omega, by omega, fun q => by rw [e713] at q; omega, ?_, by rw [hno, e711]; omega, fun q => by rw [e713] at q; rw [hno, e711]; omega, fun q => ?_⟩
          · rw [e738]
            exact hS.put (fun h => by rcases h with h | h <;> exact absurd h (by decide)) (fun h => absurd rfl h)
          · rw [e7f 36 (by decide), e7f 37 (by decide), e3f 36 (by decide), e3f 37 (by decide), e2f 36 (by decide), e2f 37 (by decide), e1f 36 (by decide), e1f 37 (by decide), hno]
            exact hd hz
        have hXy : Ctx sd c0 s0 s7 := by
          have h1 : Ctx sd c0 s0 s1 := hX.on hF1 (Out.fr hF1 (by decide) (by decide)) ⟨by rw [e1 11 (by decide)]; exact Int.le_refl _, hf1⟩ (by decide)
          have h2 : Ctx sd c0 s0 s2 := h1.on hF12 (Out.fr hF12 (by decide) (by decide)) ⟨by rw [e2 11 (by decide)]; exact Int.le_refl _, by rw [e2 13 (by decide)]; exact Int.le_refl _⟩ (by decide)
          have h3 : Ctx sd c0 s0 s3 := by
            refine h2.on hF3 (Out.fr hF3 (by decide) (by decide)) ⟨?_, ?_⟩ (by decide)
            · rw [e2 11 (by decide), e1 11 (by decide)]; omega
            · rw [e2 13 (by decide)]; omega
          exact h3.on hF37 (Out.fr hF37 (by decide) (by decide)) ⟨by rw [e711]; exact Int.le_refl _, by rw [e713]; exact Int.le_refl _⟩ (by decide)
        have hmu : mu s7 < mu s := by
          unfold mu
          rw [e711, e713]
          omega
        exact ih s7 (n + 1) c (by omega) hEy hXy (by omega)
      refine ok_ite (fun c6 => ?_) (fun c6 => ?_)
      · refine ok_bindP (ok_fail s 2 hI (by decide) (by decide)) (fun y hc => ?_)
        exact step y hc.1 hc.2.1 hc.2.2.2 (fun q => by have := hc.2.2.1; omega)
      · have c6 := tn_ne (b := 6) rfl (by decide) c6
        have ho6 := hE.2.2.2.2.2.2.2.2.2.2.1 hz
        exact step s hI FrR.rfl (Int.le_refl _) (fun _ => by omega)
    · show Ok (if (0 : Int32) = 0 then _ else _) _
      rw [if_pos rfl]
      refine ok_bindP (ok_unit sd c0 base s n c hE) (fun s4 hc => ?_)
      obtain ⟨c', q1, hE4, hF4, hO4, hA4, ht4, hmu4, hmu5⟩ := hc
      have hX4 : Ctx sd c0 s0 s4 := hX.on hF4 hO4 hA4 (by decide)
      refine ok_ite (fun c1 => ?_) (fun c1 => ?_)
      · have c1 := tn_le (b := 0) rfl (by decide) c1
        have hadv := hX.2.2.1
        have hf4 : 0 ≤ (s4.v 13).toInt ∧ (s4.v 13).toInt ≤ 2 := hE4.1.1 13
        have h5 := ht4 (by omega)
        exact ok_96 sd c0 base s0 k12 M x1 hx1 hk fu s4 n c' (by have := mu_le s4 hE4.1; unfold fu; omega) hE4 hX4 (fun _ => by omega) (by omega)
      · have c1 := tn_nle (b := 0) rfl (by decide) c1
        obtain ⟨hI4, h19, hsd, h39, h35, hc0, hc1, hb, h12, h127, h126, hS, hc2, hc3, hd⟩ := hE4
        exact ok_some ⟨hI4, hX4.1, hX4.2.1, hX4.2.2, by omega, h127, c', h35, hc1, by omega, fun q => by omega⟩
theorem ok_12 (sd c0 : Nat) (base : Int) (s0 : RS) (x1 : Int32) (hx1 : x1.toInt = base) : ∀ (m : Nat) (x2 : Int32), ¬ x2 = 0 → ∀ (s : RS) (n c : Nat), mu s < m → EX sd c0 base 0 s n c → Ctx sd c0 s0 s → Ok (r_expression_12L m s x1 x2) (PE sd c0 base s0) := by
  intro m
  induction m with
  | zero => intro x2 _ s n c h; omega
  | succ m ih =>
    intro x2 hx2 s n c hm hE hX
    show Ok (r_expression_12 (r_expression_12L m) s x1 x2) _
    unfold r_expression_12
    rw [if_neg hx2]
    refine ok_ite (fun _ => ?_) (fun c1 => ?_)
    · exact ok_23 sd c0 base s0 (r_expression_12L m) (mu s) x1 hx1 (fun y2 hy2 s' n' c' hE' hX' hm' => ih y2 hy2 s' n' c' (by omega) hE' hX') fu s n c (by have := mu_le s hE.1; unfold fu; omega) hE hX (Nat.le_refl _)
    · have c1 := tn_ne (b := 0) rfl (by decide) c1
      obtain ⟨hI4, h19, hsd, h39, h35, hc0, hc1, hb, h12, h127, h126, hS, hc2, hc3, hd⟩ := hE
      exact ok_some ⟨hI4, hX.1, hX.2.1, hX.2.2, by omega, h127, c, h35, hc1, by omega, fun q => absurd q c1⟩
theorem ok_expression (sd c : Nat) (s : RS) (hI : InvR s) (h19 : (s.v 19).toInt = (sd : Int)) (hsd : sd ≤ 1) (h35 : (s.v 35).toInt = ((420 * sd + c : Nat) : Int)) (h120 : 0 ≤ (s.v 12).toInt) (h127 : (s.v 12).toInt ≤ 7) (h126 : (s.v 13).toInt = 0 → (s.v 12).toInt ≤ 6) (hc2 : (c : Int) ≤ (s.v 11).toInt + 1) (hc3 : (s.v 13).toInt = 0 → (c : Int) ≤ (s.v 11).toInt) : Ok (r_expression s) (PE sd (420 * sd + c) (s.v 12).toInt s) := by
  unfold r_expression
  refine ok_let (fun s1 hs1 => ?_)
  have hI1 : InvR s1 := by rw [← hs1]; exact hI.svF (k := 39) rfl rfl
  have hF1 : FrR [39] s s1 := by rw [← hs1]; exact FrR.rfl.sv (k := 39) (by decide)
  have e1 (k : Nat) (hk : k ∉ [39]) : s1.v k = s.v k := hF1.1 k hk
  have e39 : s1.v 39 = 0 := by rw [← hs1]; rfl
  have z0 : nops (s1.f 38) 0 = 0 := rfl
  refine ok_12 sd (420 * sd + c) (s.v 12).toInt s _ (by rw [e1 12 (by decide)]) fu 1 z_one s1 0 c (by have := mu_le s1 hI1; unfold fu; omega) ?_ ?_
  · refine ⟨hI1, by rw [e1 19 (by decide)]; exact h19, hsd, by rw [e39]; decide, by rw [e1 35 (by decide)]; exact h35, by omega, by omega, h120, by rw [e1 12 (by decide), z0]; omega, by rw [e1 12 (by decide)]; exact h127, fun q => by rw [e1 12 (by decide)]; rw [e1 13 (by decide)] at q; exact h126 q, fun i hi => by omega, by rw [e1 11 (by decide), z0]; omega, fun q => by rw [e1 13 (by decide)] at q; rw [e1 11 (by decide), z0]; have := hc3 q; omega, fun q => ?_⟩
    rw [z0, show 420 * sd + c - (420 * sd + c) = 0 by omega]
    rfl
  · exact ⟨FrR.rfl.trans hF1 (by decide), Out.fr hF1 (by decide) (by decide), ⟨by rw [e1 11 (by decide)]; exact Int.le_refl _, by rw [e1 13 (by decide)]; exact Int.le_refl _⟩⟩
end
section
/-! ===== a law is read: its branches are well formed ===== -/
/-- where the reading stands: side, codes, branches, what is open -/
noncomputable def LWS (sd : Nat) (s : RS) (c b : Nat) : Prop := InvR s ∧ (s.v 19).toInt = (sd : Int) ∧ sd ≤ 1 ∧ (s.v 35).toInt = ((420 * sd + c : Nat) : Int) ∧ (s.v 29).toInt = ((130 * sd + b : Nat) : Int) ∧ 0 ≤ (s.v 12).toInt ∧ (s.v 12).toInt ≤ 7 ∧ ((s.v 13).toInt = 0 → (s.v 12).toInt = 0) ∧ (c : Int) ≤ (s.v 11).toInt + 1 ∧ ((s.v 13).toInt = 0 → (c : Int) ≤ (s.v 11).toInt)
theorem LWS.fr {sd : Nat} {s y : RS} {c b : Nat} {W : List Nat} (h : LWS sd s c b) (hI : InvR y) (hF : FrR W s y) (hA : Adv s y) (h1 : 19 ∉ W) (h2 : 35 ∉ W) (h3 : 29 ∉ W) (h4 : 12 ∉ W) : LWS sd y c b := by
  obtain ⟨_, k1, k2, k3, k4, k5, k6, k7, k8, k9⟩ := h
  have hf : 0 ≤ (s.v 13).toInt ∧ (s.v 13).toInt ≤ 2 := by have := ‹InvR s›.1 13; exact this
  have ha := hA.1
  have hb := hA.2
  refine ⟨hI, by rw [hF.1 19 h1]; exact k1, k2, by rw [hF.1 35 h2]; exact k3, by rw [hF.1 29 h3]; exact k4, by rw [hF.1 12 h4]; exact k5, by rw [hF.1 12 h4]; exact k6, fun q => by rw [hF.1 12 h4]; exact k7 (by omega), by omega, fun q => by have := k9 (by omega); omega⟩
theorem LWS.must {sd : Nat} {s : RS} {c b : Nat} (k : Int32) (h : LWS sd s c b) : Ok (r_must s k) (fun y => LWS sd y c b ∧ FrR [11, 13, 14] s y ∧ Adv s y ∧ ((y.v 13).toInt = 0 → (y.v 11).toInt = (s.v 11).toInt + 1)) := by
  refine ok_weak (ok_must s k h.1) (fun y hy => ?_)
  exact ⟨h.fr hy.1 hy.2.1 hy.2.2.1 (by decide) (by decide) (by decide) (by decide), hy.2.1, hy.2.2.1, hy.2.2.2⟩
theorem LWS.goesOn {sd : Nat} {s : RS} {c b : Nat} (h : LWS sd s c b) : Ok (r_goesOn s) (fun y => LWS sd y c b ∧ FrR [11, 13, 14] s y ∧ Adv s y ∧ Step s y) := by
  refine ok_weak (ok_goesOn s h.1) (fun y hy => ?_)
  have hA : Adv s y := by
    rcases hy.2.2 with q | q
    · exact ⟨by omega, by omega⟩
    · exact ⟨by omega, by omega⟩
  exact ⟨h.fr hy.1 hy.2.1 hA (by decide) (by decide) (by decide) (by decide), hy.2.1, hA, hy.2.2⟩
theorem LWS.expr {sd : Nat} {s : RS} {c b : Nat} (h : LWS sd s c b) : Ok (r_expression s) (fun y => ∃ c', c ≤ c' ∧ LWS sd y c' b ∧ FrR WE s y ∧ Out (420 * sd + c) (420 * sd + 402) s y ∧ Adv s y ∧ ((y.v 13).toInt = 0 → (s.v 11).toInt + 1 ≤ (y.v 11).toInt ∧ dep (y.f 36) (y.f 37) (c' - c) (420 * sd + c) 0 = some 1)) := by
  obtain ⟨hI, k1, k2, k3, k4, k5, k6, k7, k8, k9⟩ := h
  have hf : 0 ≤ (s.v 13).toInt ∧ (s.v 13).toInt ≤ 2 := hI.1 13
  refine ok_weak (ok_expression sd c s hI k1 k2 k3 k5 k6 (fun q => by rw [k7 q]; decide) k8 k9) (fun y hy => ?_)
  obtain ⟨hIy, hF, hO, hA, h0, h7, c', e35, hc, hc1, hz⟩ := hy
  refine ⟨c', by omega, ⟨hIy, by rw [hF.1 19 (by decide)]; exact k1, k2, e35, by rw [hF.1 29 (by decide)]; exact k4, h0, h7, fun q => ?_, hc1, fun q => (hz q).1⟩, hF, hO, hA, fun q => ⟨(hz q).2.2.1, ?_⟩⟩
  · rw [(hz q).2.1]
    exact k7 (by have := hA.2; omega)
  · have := (hz q).2.2.2
    rw [show 420 * sd + c' - (420 * sd + c) = c' - c by omega] at this
    exact this
theorem LWS.sf {sd : Nat} {s : RS} {c b k i : Nat} {x : Int32} (h : LWS sd s c b) (h1 : loFR k = -2147483648) (h2 : hiFR k = 2147483647) : LWS sd (s.sf k i x) c b := ⟨h.1.sfF h1 h2, h.2⟩
theorem seg_of {sd c c' : Nat} {cd ci : Nat → Int32} {a b : Int32} (h1 : a.toInt = ((420 * sd + c : Nat) : Int)) (h2 : b.toInt = ((420 * sd + c' : Nat) : Int)) (hc : c ≤ c') (hc4 : c' ≤ 400) (hd : dep cd ci (c' - c) (420 * sd + c) 0 = some 1) : Seg (420 * sd) (420 * sd + c') cd ci a b :=
  ⟨420 * sd + c, c' - c, h1, by omega, by omega, by omega, by omega, 1, hd⟩
theorem Seg.keep {lo hi c c' sd : Nat} {s y : RS} {a b : Int32} (h : Seg lo (420 * sd + c) (s.f 36) (s.f 37) a b) (hO : Out (420 * sd + c) hi s y) (hc : c ≤ c') : Seg lo (420 * sd + c') (y.f 36) (y.f 37) a b := by
  obtain ⟨p, n, h1, h2, h3, h4, h5, d, h6⟩ := h
  refine ⟨p, n, h1, h2, h3, by omega, h5, d, ?_⟩
  rw [← h6]
  exact dep_congr n p 0 (fun j q1 q2 => hO j (Or.inl (by omega)))
theorem Seg.wide {lo hi hi' : Nat} {cd ci : Nat → Int32} {a b : Int32} (h : Seg lo hi cd ci a b) (hh : hi ≤ hi') : Seg lo hi' cd ci a b := by
  obtain ⟨p, n, h1, h2, h3, h4, h5, d, h6⟩ := h
  exact ⟨p, n, h1, h2, h3, by omega, h5, d, h6⟩
noncomputable abbrev WTM : List Nat := [11, 12, 13, 14, 29, 35, 39, 133, 134, 136, 137, 138]
theorem LWS.term {sd : Nat} {s : RS} {c b : Nat} (h : LWS sd s c b) (hb : b ≤ 128) : Ok (r_term s) (fun y => ∃ c' z1 z2, c ≤ c' ∧ LWS sd y c' (b + 1) ∧ FrR WTM s y ∧ Out (420 * sd + c) (420 * sd + 402) s y ∧ Adv s y ∧ y.f 33 = upd (s.f 33) (130 * sd + b) z1 ∧ y.f 34 = upd (s.f 34) (130 * sd + b) z2 ∧ z1.toInt = ((420 * sd + c : Nat) : Int) ∧ z2.toInt = ((420 * sd + c' : Nat) : Int) ∧ ((y.v 13).toInt = 0 → (s.v 11).toInt + 1 ≤ (y.v 11).toInt ∧ dep (y.f 36) (y.f 37) (c' - c) (420 * sd + c) 0 = some 1)) := by
  have h0 := h
  obtain ⟨hI, k1, k2, k3, k4, k5, k6, k7, k8, k9⟩ := h
  unfold r_term
  have ec : (s.v 29).toNatClampNeg = 130 * sd + b := clamp_of_int k4
  rw [ec]
  refine ok_grd (vpb_ok (by omega) (by omega)) ?_
  refine ok_let (fun s2 hs2 => ?_)
  have L2 : LWS sd s2 c b := by rw [← hs2]; exact h0.sf rfl rfl
  have hF2 : FrR [133] s s2 := by rw [← hs2]; exact FrR.rfl.sf (k := 33) (by decide)
  have e33 : s2.f 33 = upd (s.f 33) (130 * sd + b) (s.v 35) := by rw [← hs2]; rfl
  have A2 : Adv s s2 := ⟨by rw [hF2.1 11 (by decide)]; exact Int.le_refl _, by rw [hF2.1 13 (by decide)]; exact Int.le_refl _⟩
  have fin : ∀ (s5 : RS) (c' : Nat), c ≤ c' → LWS sd s5 c' b → FrR WE s2 s5 → Out (420 * sd + c) (420 * sd + 402) s2 s5 → Adv s2 s5 → ((s5.v 13).toInt = 0 → (s2.v 11).toInt + 1 ≤ (s5.v 11).toInt ∧ dep (s5.f 36) (s5.f 37) (c' - c) (420 * sd + c) 0 = some 1) → Ok (r_term_24 s5) (fun y => ∃ c' z1 z2, c ≤ c' ∧ LWS sd y c' (b + 1) ∧ FrR WTM s y ∧ Out (420 * sd + c) (420 * sd + 402) s y ∧ Adv s y ∧ y.f 33 = upd (s.f 33) (130 * sd + b) z1 ∧ y.f 34 = upd (s.f 34) (130 * sd + b) z2 ∧ z1.toInt = ((420 * sd + c : Nat) : Int) ∧ z2.toInt = ((420 * sd + c' : Nat) : Int) ∧ ((y.v 13).toInt = 0 → (s.v 11).toInt + 1 ≤ (y.v 11).toInt ∧ dep (y.f 36) (y.f 37) (c' - c) (420 * sd + c) 0 = some 1)) := by
    intro s5 c' hcc L5 hF5 hO5 hA5 hz5
    obtain ⟨hI5, j1, j2, j3, j4, j5, j6, j7, j8, j9⟩ := L5
    unfold r_term_24
    have ec5 : (s5.v 29).toNatClampNeg = 130 * sd + b := clamp_of_int j4
    rw [ec5]
    refine ok_grd (vpb_ok (by omega) (by omega)) ?_
    refine ok_let (fun s6 hs6 => ?_)
    refine ok_let (fun s7 hs7 => ?_)
    have e629 : s6.v 29 = s5.v 29 := by rw [← hs6]; rfl
    have a : ((s6.v 29) + 1).toInt = (s6.v 29).toInt + 1 := tn_add rfl (by decide) (by rw [e629]; omega) (by rw [e629]; omega)
    rw [e629] at a
    have hF57 : FrR [29, 134] s5 s7 := by rw [← hs7, ← hs6]; exact (FrR.rfl.sf (k := 34) (by decide)).sv (k := 29) (by decide)
    have hI7 : InvR s7 := by rw [← hs7, ← hs6]; exact (hI5.sfF (k := 34) rfl rfl).svF (k := 29) rfl rfl
    have e7 (k : Nat) (hk : k ∉ [29, 134]) : s7.v k = s5.v k := hF57.1 k hk
    have e7f (k : Nat) (hk : 100 + k ∉ [29, 134]) : s7.f k = s5.f k := (hF57.2 k hk).1
    have e729 : s7.v 29 = (s5.v 29) + 1 := by rw [← hs7, ← e629]; rfl
    have e734 : s7.f 34 = upd (s5.f 34) (130 * sd + b) (s5.v 35) := by rw [← hs7, ← hs6]; rfl
    have L7 : LWS sd s7 c' (b + 1) := ⟨hI7, by rw [e7 19 (by decide)]; exact j1, j2, by rw [e7 35 (by decide)]; exact j3, by rw [e729, a]; omega, by rw [e7 12 (by decide)]; exact j5, by rw [e7 12 (by decide)]; exact j6, by rw [e7 12 (by decide), e7 13 (by decide)]; exact j7, by rw [e7 11 (by decide)]; exact j8, by rw [e7 11 (by decide), e7 13 (by decide)]; exact j9⟩
    have A7 : Adv s s7 := ⟨by rw [e7 11 (by decide)]; exact Int.le_trans A2.1 hA5.1, by rw [e7 13 (by decide)]; exact Int.le_trans A2.2 hA5.2⟩
    refine ok_some ⟨c', s.v 35, s5.v 35, hcc, L7, ((FrR.rfl.trans (W := WTM) hF2 (by decide)).trans hF5 (by decide)).trans hF57 (by decide), ?_, A7, ?_, ?_, k3, j3, ?_⟩
    · exact ((Out.fr hF2 (by decide) (by decide)).trans hO5 (Nat.le_refl _)).trans (Out.fr hF57 (by decide) (by decide)) (Nat.le_refl _)
    · rw [e7f 33 (by decide), (hF5.2 33 (by decide)).1, e33]
    · rw [e734, (hF5.2 34 (by decide)).1, (hF2.2 34 (by decide)).1]
    · rw [e7 13 (by decide), e7 11 (by decide), e7f 36 (by decide), e7f 37 (by decide), ← hF2.1 11 (by decide)]
      exact hz5
  refine ok_ite (fun _ => ?_) (fun c1 => ?_)
  · refine ok_bindP L2.expr (fun s5 hs5 => ?_)
    obtain ⟨c', q1, q2, q3, q4, q5, q6⟩ := hs5
    exact fin s5 c' q1 q2 q3 q4 q5 q6
  · have c1 := tn_ne (b := 0) rfl (by decide) c1
    exact fin s2 c (Nat.le_refl _) L2 FrR.rfl Out.rfl ⟨Int.le_refl _, Int.le_refl _⟩ (fun q => absurd q c1)
noncomputable abbrev WTL : List Nat := [11, 12, 13, 14, 29, 35, 39, 127, 128, 130, 131, 132, 133, 134, 136, 137, 138]
/-- outside of the new branches all is as it was -/
noncomputable def OutB (lo hi : Nat) (s y : RS) : Prop := ∀ j, (j < lo ∨ hi ≤ j) → y.f 30 j = s.f 30 j ∧ y.f 31 j = s.f 31 j ∧ y.f 32 j = s.f 32 j ∧ y.f 33 j = s.f 33 j ∧ y.f 34 j = s.f 34 j
theorem OutB.rfl {lo hi : Nat} {s : RS} : OutB lo hi s s := fun _ _ => ⟨Eq.refl _, Eq.refl _, Eq.refl _, Eq.refl _, Eq.refl _⟩
theorem OutB.trans {lo hi lo' : Nat} {s y z : RS} (h : OutB lo hi s y) (h2 : OutB lo' hi y z) (hl : lo ≤ lo') : OutB lo hi s z := fun j hj => by
  have a := h j hj
  have b := h2 j (by omega)
  exact ⟨b.1.trans a.1, b.2.1.trans a.2.1, b.2.2.1.trans a.2.2.1, b.2.2.2.1.trans a.2.2.2.1, b.2.2.2.2.trans a.2.2.2.2⟩
theorem OutB.fr {lo hi : Nat} {W : List Nat} {s y : RS} (h : FrR W s y) (h0 : 130 ∉ W) (h1 : 131 ∉ W) (h2 : 132 ∉ W) (h3 : 133 ∉ W) (h4 : 134 ∉ W) : OutB lo hi s y := fun j _ => ⟨by rw [(h.2 30 h0).1], by rw [(h.2 31 h1).1], by rw [(h.2 32 h2).1], by rw [(h.2 33 h3).1], by rw [(h.2 34 h4).1]⟩
theorem OutB.put {lo hi i : Nat} {s y : RS} (hi1 : lo ≤ i) (hi2 : i < hi) (h : ∀ j, ¬ j = i → y.f 30 j = s.f 30 j ∧ y.f 31 j = s.f 31 j ∧ y.f 32 j = s.f 32 j ∧ y.f 33 j = s.f 33 j ∧ y.f 34 j = s.f 34 j) : OutB lo hi s y := fun j hj => h j (by omega)
/-- the branches of a law, from the first on, as far as they are read -/
noncomputable def BS (sd : Nat) (s : RS) (b0 b c : Nat) : Prop := ∀ j, 130 * sd + b0 ≤ j → j < 130 * sd + b → BrOK (420 * sd) (420 * sd + c) (s.f 30) (s.f 31) (s.f 32) (s.f 33) (s.f 34) (s.f 36) (s.f 37) j
theorem BS.keep {sd b0 b c c' : Nat} {s y : RS} (h : BS sd s b0 b c) (hO : Out (420 * sd + c) (420 * sd + 402) s y) (hB : OutB (130 * sd + b) (130 * sd + 103) s y) (hc : c ≤ c') : BS sd y b0 b c' := by
  intro j h1 h2
  obtain ⟨e0, e1, e2, e3, e4⟩ := hB j (Or.inl h2)
  have hj := h j h1 h2
  unfold BrOK at hj ⊢
  rw [e0, e1, e2, e3, e4]
  exact ⟨fun q => ⟨(hj.1 q).1.keep hO hc, (hj.1 q).2.keep hO hc⟩, hj.2.keep hO hc⟩
theorem BS.snoc {sd b0 b c : Nat} {s : RS} (h : BS sd s b0 b c) (hj : BrOK (420 * sd) (420 * sd + c) (s.f 30) (s.f 31) (s.f 32) (s.f 33) (s.f 34) (s.f 36) (s.f 37) (130 * sd + b)) : BS sd s b0 (b + 1) c := by
  intro j h1 h2
  by_cases e : j = 130 * sd + b
  · rw [e]; exact hj
  · exact h j h1 (by omega)
theorem upd_same {f : Nat → Int32} {i : Nat} {x : Int32} : upd f i x i = x := by unfold upd; rw [if_pos rfl]
theorem upd_ne {f : Nat → Int32} {i j : Nat} {x : Int32} (h : ¬ j = i) : upd f i x j = f j := by unfold upd; rw [if_neg h]
noncomputable abbrev WTH : List Nat := [11, 12, 13, 14, 29, 35, 39, 130, 131, 132, 133, 134, 136, 137, 138]
/-- what a law's reading leaves -/
noncomputable def TL (sd c0 b0 k : Nat) (s0 y : RS) : Prop := ∃ c b, c0 ≤ c ∧ b0 ≤ b ∧ b ≤ 102 ∧ LWS sd y c b ∧ FrR WTL s0 y ∧ Out (420 * sd + c0) (420 * sd + 402) s0 y ∧ OutB (130 * sd + b0) (130 * sd + 103) s0 y ∧ Adv s0 y ∧ (¬ (y.v 13).toInt = 0 → y.f 27 = s0.f 27 ∧ y.f 28 = s0.f 28) ∧ ((y.v 13).toInt = 0 → (4 * b : Int) ≤ (y.v 11).toInt ∧ BS sd y b0 b c ∧ ∃ z1 z2, y.f 27 = upd (s0.f 27) (4 * sd + k) z1 ∧ y.f 28 = upd (s0.f 28) (4 * sd + k) z2 ∧ z1.toInt = ((130 * sd + b0 : Nat) : Int) ∧ z2.toInt = ((130 * sd + b : Nat) : Int))
/-- where a law's reading stands at its head -/
noncomputable def TLH (sd c0 b0 : Nat) (s0 s : RS) (c b : Nat) : Prop := LWS sd s c b ∧ c0 ≤ c ∧ b0 ≤ b ∧ b ≤ 101 ∧ FrR WTH s0 s ∧ Out (420 * sd + c0) (420 * sd + 402) s0 s ∧ OutB (130 * sd + b0) (130 * sd + 103) s0 s ∧ Adv s0 s ∧ ((s.v 13).toInt = 0 → (4 * b + 2 : Int) ≤ (s.v 11).toInt ∧ BS sd s b0 b c)
theorem Adv.trans {s y z : RS} (h : Adv s y) (h2 : Adv y z) : Adv s z := ⟨Int.le_trans h.1 h2.1, Int.le_trans h.2 h2.2⟩
theorem Adv.rfl {s : RS} : Adv s s := ⟨Int.le_refl _, Int.le_refl _⟩
theorem Adv.fr {s y : RS} {W : List Nat} (h : FrR W s y) (h1 : 11 ∉ W) (h2 : 13 ∉ W) : Adv s y := ⟨by rw [h.1 11 h1]; exact Int.le_refl _, by rw [h.1 13 h2]; exact Int.le_refl _⟩
theorem ok_tellLaw_129 (sd c0 b0 k : Nat) (s0 s : RS) (c b : Nat) (x1 x2 : Int32) (hk : k < 4) (hx1 : x1.toInt = (k : Int)) (hx2 : x2.toInt = ((130 * sd + b0 : Nat) : Int)) (h : TLH sd c0 b0 s0 s c b) : Ok (r_tellLaw_129 s x1 x2) (TL sd c0 b0 k s0) := by
  obtain ⟨L, hc, hb0, hb, hF, hO, hB, hA, hz⟩ := h
  have L0 := L
  obtain ⟨hI, k1, k2, k3, k4, k5, k6, k7, k8, k9⟩ := L0
  unfold r_tellLaw_129
  have ec : (s.v 29).toNatClampNeg = 130 * sd + b := clamp_of_int k4
  rw [ec]
  refine ok_grd (vpb_ok (by omega) (by omega)) ?_
  refine ok_let (fun s2 hs2 => ?_)
  have L2 : LWS sd s2 c b := by rw [← hs2]; exact L.sf rfl rfl
  have hF2 : FrR [130] s s2 := by rw [← hs2]; exact FrR.rfl.sf (k := 30) (by decide)
  have e230 : s2.f 30 = upd (s.f 30) (130 * sd + b) (vp_nar .boolean 0) := by rw [← hs2]; rfl
  refine ok_bindP (L2.term (by omega)) (fun s4 h4 => ?_)
  obtain ⟨c', z1, z2, q1, L4, hF4, hO4, hA4, e33, e34, hz1, hz2, hd⟩ := h4
  refine ok_bindP (L4.must 4) (fun s5 h5 => ?_)
  obtain ⟨L5, hF5, hA5, ht5⟩ := h5
  have e5 (q : Nat) (hq : q ∉ [11, 13, 14]) : s5.v q = s4.v q := hF5.1 q hq
  have e5f (q : Nat) (hq : 100 + q ∉ [11, 13, 14]) : s5.f q = s4.f q := (hF5.2 q hq).1
  have A5 : Adv s0 s5 := ((hA.trans (Adv.fr hF2 (by decide) (by decide))).trans hA4).trans hA5
  have F5 : FrR WTH s0 s5 := ((hF.trans hF2 (by decide)).trans hF4 (by decide)).trans hF5 (by decide)
  have O5 : Out (420 * sd + c0) (420 * sd + 402) s0 s5 := ((hO.trans (Out.fr hF2 (by decide) (by decide)) (Nat.le_refl _)).trans hO4 (by omega)).trans (Out.fr hF5 (by decide) (by decide)) (Nat.le_refl _)
  have B45 : OutB (130 * sd + b) (130 * sd + 103) s s5 := by
    refine OutB.put (i := 130 * sd + b) (Nat.le_refl _) (by omega) (fun j hj => ?_)
    rw [e5f 30 (by decide), e5f 31 (by decide), e5f 32 (by decide), e5f 33 (by decide), e5f 34 (by decide), (hF4.2 30 (by decide)).1, (hF4.2 31 (by decide)).1, (hF4.2 32 (by decide)).1, e33, e34, e230, (hF2.2 31 (by decide)).1, (hF2.2 32 (by decide)).1, (hF2.2 33 (by decide)).1, (hF2.2 34 (by decide)).1, upd_ne hj, upd_ne hj, upd_ne hj]
    exact ⟨rfl, rfl, rfl, rfl, rfl⟩
  have B5 : OutB (130 * sd + b0) (130 * sd + 103) s0 s5 := hB.trans B45 (by omega)
  have hf5 : 0 ≤ (s5.v 13).toInt ∧ (s5.v 13).toInt ≤ 2 := L5.1.1 13
  have hf : 0 ≤ (s.v 13).toInt ∧ (s.v 13).toInt ≤ 2 := hI.1 13
  have hf4 : 0 ≤ (s4.v 13).toInt ∧ (s4.v 13).toInt ≤ 2 := L4.1.1 13
  refine ok_ite (fun c1 => ?_) (fun c1 => ?_)
  · have c1 := tn_le (b := 0) rfl (by decide) c1
    have hz5 : (s5.v 13).toInt = 0 := by omega
    have a45 := hA5.2
    have a24 := hA4.2
    have e213 : s2.v 13 = s.v 13 := hF2.1 13 (by decide)
    have e211 : s2.v 11 = s.v 11 := hF2.1 11 (by decide)
    rw [e213] at a24
    have hzs : (s.v 13).toInt = 0 := by omega
    have hz4 : (s4.v 13).toInt = 0 := by omega
    obtain ⟨ht, hBS⟩ := hz hzs
    obtain ⟨ht4, hdep⟩ := hd hz4
    rw [e211] at ht4
    have ht5' := ht5 hz5
    have hc4 : (c' : Int) ≤ (s4.v 11).toInt := L4.2.2.2.2.2.2.2.2.2 hz4
    have ht4b : (s4.v 11).toInt ≤ 400 := (L4.1.1 11).2
    have hBS5 : BS sd s5 b0 (b + 1) c' := by
      have h1 : BS sd s5 b0 b c' := hBS.keep ((((Out.fr hF2 (by decide) (by decide) : Out (420 * sd + c) (420 * sd + 402) s s2).trans hO4 (Nat.le_refl _))).trans (Out.fr hF5 (by decide) (by decide)) (Nat.le_refl _)) B45 q1
      refine h1.snoc ?_
      unfold BrOK
      rw [e5f 30 (by decide), e5f 33 (by decide), e5f 34 (by decide), e5f 36 (by decide), e5f 37 (by decide), (hF4.2 30 (by decide)).1, e230, e33, e34, upd_same, upd_same, upd_same]
      exact ⟨fun q => absurd (by decide +kernel) q, seg_of hz1 hz2 q1 (by omega) hdep⟩
    have h19 : (s5.v 19).toInt = (sd : Int) := L5.2.1
    have a4 : (4 * (s5.v 19)).toInt = (s5.v 19).toInt * 4 := ti_cmul (c := 4) (by decide) (by omega) (by omega)
    have a5 : ((4 * (s5.v 19)) + x1).toInt = (4 * (s5.v 19)).toInt + x1.toInt := ti_add (by omega) (by omega)
    have ec5 : ((4 * (s5.v 19)) + x1).toNatClampNeg = 4 * sd + k := clamp_of_int (by omega)
    refine ok_grd (vpb_ok (by omega) (by omega)) ?_
    rw [ec5]
    refine ok_let (fun s8 hs8 => ?_)
    have e819 : s8.v 19 = s5.v 19 := by rw [← hs8]; rfl
    rw [e819, ec5]
    refine ok_grd (vpb_ok (by omega) (by omega)) ?_
    refine ok_let (fun s11 hs11 => ?_)
    have F511 : FrR [127, 128] s5 s11 := by rw [← hs11, ← hs8]; exact (FrR.rfl.sf (k := 27) (by decide)).sf (k := 28) (by decide)
    have I11 : InvR s11 := by rw [← hs11, ← hs8]; exact (L5.1.sfF (k := 27) rfl rfl).sfF (k := 28) rfl rfl
    have A511 : Adv s5 s11 := Adv.fr F511 (by decide) (by decide)
    have L11 : LWS sd s11 c' (b + 1) := L5.fr I11 F511 A511 (by decide) (by decide) (by decide) (by decide)
    have B511 : OutB (130 * sd + (b + 1)) (130 * sd + 103) s5 s11 := OutB.fr F511 (by decide) (by decide) (by decide) (by decide) (by decide)
    refine ok_some ⟨c', b + 1, by omega, by omega, by omega, L11, (FrR.rfl.trans (W := WTL) F5 (by decide)).trans F511 (by decide), O5.trans (Out.fr F511 (by decide) (by decide)) (Nat.le_refl _), B5.trans B511 (by omega), A5.trans A511, fun q => absurd (by rw [F511.1 13 (by decide)]; exact hz5) q, fun _ => ⟨by rw [F511.1 11 (by decide)]; omega, hBS5.keep (Out.fr F511 (by decide) (by decide)) B511 (Nat.le_refl _), x2, s5.v 29, ?_, ?_, hx2, by rw [L5.2.2.2.2.1]⟩⟩
    · rw [← hs11, ← hs8, ← (F5.2 27 (by decide)).1]; rfl
    · have e829 : s8.v 29 = s5.v 29 := by rw [← hs8]; rfl
      rw [← hs11, e829, ← hs8, ← (F5.2 28 (by decide)).1]; rfl
  · have c1 := tn_nle (b := 0) rfl (by decide) c1
    exact ok_some ⟨c', b + 1, by omega, by omega, by omega, L5, FrR.rfl.trans (W := WTL) F5 (by decide), O5, B5, A5, fun _ => ⟨(F5.2 27 (by decide)).1, (F5.2 28 (by decide)).1⟩, fun q => by omega⟩
theorem ok_tellLaw_38 (sd c0 b0 k : Nat) (s0 : RS) (k12 : RS → Int32 → Int32 → Int32 → Option RS) (M : Nat) (x1 x2 : Int32) (hk : ∀ (s : RS) (c b : Nat) (x3 : Int32), TLH sd c0 b0 s0 s c b → mu s < M → Ok (k12 s x1 x2 x3) (TL sd c0 b0 k s0)) (s : RS) (c b : Nat) (x3 : Int32) (h : TLH sd c0 b0 s0 s c b) (hM : mu s ≤ M) : Ok (r_tellLaw_38 k12 s x1 x2 x3) (TL sd c0 b0 k s0) := by
  obtain ⟨L, hc, hb0, hb, hF, hO, hB, hA, hz⟩ := h
  have hf : 0 ≤ (s.v 13).toInt ∧ (s.v 13).toInt ≤ 2 := L.1.1 13
  have ht400 : 0 ≤ (s.v 11).toInt ∧ (s.v 11).toInt ≤ 400 := L.1.1 11
  have hsd1 : sd ≤ 1 := L.2.2.1
  unfold r_tellLaw_38
  refine ok_ite (fun c1 => ?_) (fun c1 => ?_)
  · have c1 := tn_le (b := 0) rfl (by decide) c1
    have hzs : (s.v 13).toInt = 0 := by omega
    obtain ⟨ht, hBS⟩ := hz hzs
    refine ok_bindP L.goesOn (fun s2 h2 => ?_)
    obtain ⟨L2, hF2, hA2, hst⟩ := h2
    have ec2 : (s2.v 29).toNatClampNeg = 130 * sd + b := clamp_of_int L2.2.2.2.2.1
    have g29 := L2.2.2.2.2.1
    rw [ec2]
    refine ok_grd (vpb_ok (by omega) (by omega)) ?_
    refine ok_let (fun s4 hs4 => ?_)
    have L4 : LWS sd s4 c b := by rw [← hs4]; exact L2.sf rfl rfl
    have hF4 : FrR [130] s2 s4 := by rw [← hs4]; exact FrR.rfl.sf (k := 30) (by decide)
    have e429 : s4.v 29 = s2.v 29 := by rw [← hs4]; rfl
    rw [e429, ec2]
    refine ok_grd (vpb_ok (by omega) (by omega)) ?_
    refine ok_let (fun s7 hs7 => ?_)
    have L7 : LWS sd s7 c b := by rw [← hs7]; exact L4.sf rfl rfl
    have hF7 : FrR [131] s4 s7 := by rw [← hs7]; exact FrR.rfl.sf (k := 31) (by decide)
    have e731 : s7.f 31 = upd (s4.f 31) (130 * sd + b) (s4.v 35) := by rw [← hs7]; rfl
    refine ok_bindP L7.expr (fun s9 h9 => ?_)
    obtain ⟨c9, q9, L9, hF9, hO9, hA9, hd9⟩ := h9
    refine ok_bindP (L9.must 13) (fun s10 h10 => ?_)
    obtain ⟨L10, hF10, hA10, ht10⟩ := h10
    have ec10 : (s10.v 29).toNatClampNeg = 130 * sd + b := clamp_of_int L10.2.2.2.2.1
    have g29' := L10.2.2.2.2.1
    rw [ec10]
    refine ok_grd (vpb_ok (by omega) (by omega)) ?_
    refine ok_let (fun s12 hs12 => ?_)
    have L12 : LWS sd s12 c9 b := by rw [← hs12]; exact L10.sf rfl rfl
    have hF12 : FrR [132] s10 s12 := by rw [← hs12]; exact FrR.rfl.sf (k := 32) (by decide)
    have e1232 : s12.f 32 = upd (s10.f 32) (130 * sd + b) (s10.v 35) := by rw [← hs12]; rfl
    have rest : ∀ (s15 : RS) (c15 : Nat), c9 ≤ c15 → LWS sd s15 c15 b → FrR WE s12 s15 → Out (420 * sd + c9) (420 * sd + 402) s12 s15 → Adv s12 s15 → ((s15.v 13).toInt = 0 → (s12.v 11).toInt + 1 ≤ (s15.v 11).toInt ∧ dep (s15.f 36) (s15.f 37) (c15 - c9) (420 * sd + c9) 0 = some 1) → ∀ x3, Ok (r_tellLaw_110 k12 s15 x1 x2 x3) (TL sd c0 b0 k s0) := by
      intro s15 c15 q15 L15 hF15 hO15 hA15 hd15 x3
      unfold r_tellLaw_110
      refine ok_bindP (L15.must 28) (fun s16 h16 => ?_)
      obtain ⟨L16, hF16, hA16, ht16⟩ := h16
      refine ok_bindP (L16.term (by omega)) (fun s17 h17 => ?_)
      obtain ⟨c17, z1, z2, q17, L17, hF17, hO17, hA17, e33, e34, hz1, hz2, hd17⟩ := h17
      refine ok_bindP (L17.must 29) (fun s18 h18 => ?_)
      obtain ⟨L18, hF18, hA18, ht18⟩ := h18
      have A24 : Adv s2 s12 := (((Adv.fr hF4 (by decide) (by decide)).trans (Adv.fr hF7 (by decide) (by decide))).trans (hA9.trans hA10)).trans (Adv.fr hF12 (by decide) (by decide))
      have A12 : Adv s12 s18 := ((hA15.trans hA16).trans hA17).trans hA18
      have A18 : Adv s0 s18 := ((hA.trans hA2).trans A24).trans A12
      have F18 : FrR WTH s0 s18 := (((((((((hF.trans hF2 (by decide)).trans hF4 (by decide)).trans hF7 (by decide)).trans hF9 (by decide)).trans hF10 (by decide)).trans hF12 (by decide)).trans hF15 (by decide)).trans hF16 (by decide)).trans hF17 (by decide)).trans hF18 (by decide)
      have O07 : Out (420 * sd + c) (420 * sd + 402) s s7 := ((Out.fr hF2 (by decide) (by decide)).trans (Out.fr hF4 (by decide) (by decide)) (Nat.le_refl _)).trans (Out.fr hF7 (by decide) (by decide)) (Nat.le_refl _)
      have O12 : Out (420 * sd + c) (420 * sd + 402) s s12 := ((O07.trans hO9 (Nat.le_refl _)).trans (Out.fr hF10 (by decide) (by decide)) (Nat.le_refl _)).trans (Out.fr hF12 (by decide) (by decide)) (Nat.le_refl _)
      have O1218 : Out (420 * sd + c9) (420 * sd + 402) s12 s18 := ((hO15.trans (Out.fr hF16 (by decide) (by decide)) (Nat.le_refl _)).trans hO17 (by omega)).trans (Out.fr hF18 (by decide) (by decide)) (Nat.le_refl _)
      have O1518 : Out (420 * sd + c15) (420 * sd + 402) s15 s18 := ((Out.fr hF16 (by decide) (by decide)).trans hO17 (Nat.le_refl _)).trans (Out.fr hF18 (by decide) (by decide)) (Nat.le_refl _)
      have O918 : Out (420 * sd + c9) (420 * sd + 402) s9 s18 := ((Out.fr hF10 (by decide) (by decide)).trans (Out.fr hF12 (by decide) (by decide)) (Nat.le_refl _)).trans O1218 (Nat.le_refl _)
      have O18 : Out (420 * sd + c) (420 * sd + 402) s s18 := O12.trans O1218 (by omega)
      have f30 : s18.f 30 = s4.f 30 := by rw [(hF18.2 30 (by decide)).1, (hF17.2 30 (by decide)).1, (hF16.2 30 (by decide)).1, (hF15.2 30 (by decide)).1, (hF12.2 30 (by decide)).1, (hF10.2 30 (by decide)).1, (hF9.2 30 (by decide)).1, (hF7.2 30 (by decide)).1]
      have f31 : s18.f 31 = s7.f 31 := by rw [(hF18.2 31 (by decide)).1, (hF17.2 31 (by decide)).1, (hF16.2 31 (by decide)).1, (hF15.2 31 (by decide)).1, (hF12.2 31 (by decide)).1, (hF10.2 31 (by decide)).1, (hF9.2 31 (by decide)).1]
      have f32 : s18.f 32 = s12.f 32 := by rw [(hF18.2 32 (by decide)).1, (hF17.2 32 (by decide)).1, (hF16.2 32 (by decide)).1, (hF15.2 32 (by decide)).1]
      have f33 : s18.f 33 = upd (s16.f 33) (130 * sd + b) z1 := by rw [(hF18.2 33 (by decide)).1, e33]
      have f34 : s18.f 34 = upd (s16.f 34) (130 * sd + b) z2 := by rw [(hF18.2 34 (by decide)).1, e34]
      have k30 : s4.f 30 = upd (s.f 30) (130 * sd + b) (vp_nar .boolean 1) := by rw [← hs4, ← (hF2.2 30 (by decide)).1]; rfl
      have k31 : s7.f 31 = upd (s.f 31) (130 * sd + b) (s4.v 35) := by rw [e731, (hF4.2 31 (by decide)).1, (hF2.2 31 (by decide)).1]
      have k32 : s12.f 32 = upd (s.f 32) (130 * sd + b) (s10.v 35) := by rw [e1232, (hF10.2 32 (by decide)).1, (hF9.2 32 (by decide)).1, (hF7.2 32 (by decide)).1, (hF4.2 32 (by decide)).1, (hF2.2 32 (by decide)).1]
      have k33 : s16.f 33 = s.f 33 := by rw [(hF16.2 33 (by decide)).1, (hF15.2 33 (by decide)).1, (hF12.2 33 (by decide)).1, (hF10.2 33 (by decide)).1, (hF9.2 33 (by decide)).1, (hF7.2 33 (by decide)).1, (hF4.2 33 (by decide)).1, (hF2.2 33 (by decide)).1]
      have k34 : s16.f 34 = s.f 34 := by rw [(hF16.2 34 (by decide)).1, (hF15.2 34 (by decide)).1, (hF12.2 34 (by decide)).1, (hF10.2 34 (by decide)).1, (hF9.2 34 (by decide)).1, (hF7.2 34 (by decide)).1, (hF4.2 34 (by decide)).1, (hF2.2 34 (by decide)).1]
      have B18 : OutB (130 * sd + b) (130 * sd + 103) s s18 := by
        refine OutB.put (i := 130 * sd + b) (Nat.le_refl _) (by omega) (fun j hj => ?_)
        rw [f30, f31, f32, f33, f34, k30, k31, k32, k33, k34, upd_ne hj, upd_ne hj, upd_ne hj, upd_ne hj, upd_ne hj]
        exact ⟨rfl, rfl, rfl, rfl, rfl⟩
      have m2 := hA2.2
      have m2t := hA2.1
      have m24 := A24.2
      have m24t := A24.1
      have m12 := A12.2
      have m15 := hA15.2
      have m16 := hA16.2
      have m17 := hA17.2
      have m18 := hA18.2
      have m15t := hA15.1
      have m9 := hA9.2
      have m10 := hA10.2
      have f18n : 0 ≤ (s18.v 13).toInt ∧ (s18.v 13).toInt ≤ 2 := L18.1.1 13
      have f2n : 0 ≤ (s2.v 13).toInt ∧ (s2.v 13).toInt ≤ 2 := L2.1.1 13
      have t18n : 0 ≤ (s18.v 11).toInt ∧ (s18.v 11).toInt ≤ 400 := L18.1.1 11
      have e711 : s7.v 11 = s2.v 11 := (hF7.1 11 (by decide)).trans (hF4.1 11 (by decide))
      have e713 : s7.v 13 = s2.v 13 := (hF7.1 13 (by decide)).trans (hF4.1 13 (by decide))
      have e1211 : s12.v 11 = s10.v 11 := hF12.1 11 (by decide)
      have e1213 : s12.v 13 = s10.v 13 := hF12.1 13 (by decide)
      have hst' : ((s2.v 11).toInt = (s.v 11).toInt + 1 ∧ (s2.v 13).toInt = (s.v 13).toInt) ∨ ((s.v 11).toInt = 400 ∧ (s2.v 11).toInt = (s.v 11).toInt ∧ 1 ≤ (s2.v 13).toInt ∧ (s.v 13).toInt ≤ (s2.v 13).toInt) := hst
      have hmu : mu s18 < mu s := by
        have m12t := A12.1
        unfold mu
        omega
      refine hk s18 c17 (b + 1) x3 ⟨L18, by omega, by omega, by omega, F18, hO.trans O18 (by omega), hB.trans B18 (by omega), A18, fun hz18 => ?_⟩ (by omega)
      rw [e1213] at m24 m12 m15
      rw [e713] at m9
      have z17 : (s17.v 13).toInt = 0 := by omega
      have z16 : (s16.v 13).toInt = 0 := by omega
      have z15 : (s15.v 13).toInt = 0 := by omega
      have z10 : (s10.v 13).toInt = 0 := by omega
      have z9 : (s9.v 13).toInt = 0 := by omega
      obtain ⟨t9, d9⟩ := hd9 z9
      obtain ⟨t15, d15⟩ := hd15 z15
      obtain ⟨t17, d17⟩ := hd17 z17
      have t10 := ht10 z10
      have t16 := ht16 z16
      have t18 := ht18 hz18
      rw [e711] at t9
      rw [e1211] at t15
      have hc17 : (c17 : Int) ≤ (s17.v 11).toInt := L17.2.2.2.2.2.2.2.2.2 z17
      have t17n : (s17.v 11).toInt ≤ 400 := (L17.1.1 11).2
      refine ⟨by omega, (hBS.keep O18 B18 (by omega)).snoc ?_⟩
      unfold BrOK
      rw [f30, f31, f32, f33, f34, k30, k31, k32, k33, k34, upd_same, upd_same, upd_same, upd_same, upd_same]
      have c435 : (s4.v 35).toInt = ((420 * sd + c : Nat) : Int) := L4.2.2.2.1
      have c1035 : (s10.v 35).toInt = ((420 * sd + c9 : Nat) : Int) := L10.2.2.2.1
      have S1 : Seg (420 * sd) (420 * sd + c9) (s9.f 36) (s9.f 37) (s4.v 35) (s10.v 35) := seg_of c435 c1035 q9 (by omega) d9
      have S2 : Seg (420 * sd) (420 * sd + c15) (s15.f 36) (s15.f 37) (s10.v 35) z1 := seg_of c1035 hz1 q15 (by omega) d15
      have S3 : Seg (420 * sd) (420 * sd + c17) (s17.f 36) (s17.f 37) z1 z2 := seg_of hz1 hz2 q17 (by omega) d17
      exact ⟨fun _ => ⟨S1.keep O918 (by omega), S2.keep O1518 (by omega)⟩, S3.keep (Out.fr hF18 (by decide) (by decide) : Out (420 * sd + c17) (420 * sd + 402) s17 s18) (Nat.le_refl _)⟩
    refine ok_ite (fun _ => ?_) (fun cz => ?_)
    · refine ok_bindP L12.expr (fun s15 h15 => ?_)
      obtain ⟨c15, q15, L15, hF15, hO15, hA15, hd15⟩ := h15
      exact rest s15 c15 q15 L15 hF15 hO15 hA15 hd15 _
    · have cz := tn_ne (b := 0) rfl (by decide) cz
      exact rest s12 c9 (Nat.le_refl _) L12 FrR.rfl Out.rfl Adv.rfl (fun q => absurd q cz) _
  · have c1 := tn_nle (b := 0) rfl (by decide) c1
    exact ok_some ⟨c, b, hc, hb0, by omega, L, FrR.rfl.trans (W := WTL) hF (by decide), hO, hB, hA, fun _ => ⟨(hF.2 27 (by decide)).1, (hF.2 28 (by decide)).1⟩, fun q => by omega⟩
theorem ok_tellLaw_12 (sd c0 b0 k : Nat) (s0 : RS) (x1 x2 : Int32) (hk : k < 4) (hx1 : x1.toInt = (k : Int)) (hx2 : x2.toInt = ((130 * sd + b0 : Nat) : Int)) : ∀ (m : Nat) (s : RS) (c b : Nat) (x3 : Int32), mu s < m → TLH sd c0 b0 s0 s c b → Ok (r_tellLaw_12L m s x1 x2 x3) (TL sd c0 b0 k s0) := by
  intro m
  induction m with
  | zero => intro s c b x3 h; omega
  | succ m ih =>
    intro s c b x3 hm h
    show Ok (r_tellLaw_12 (r_tellLaw_12L m) s x1 x2 x3) _
    unfold r_tellLaw_12
    have hI := h.1.1
    refine ok_ite (fun hz => ?_) (fun _ => ok_tellLaw_129 sd c0 b0 k s0 s c b x1 x2 hk hx1 hx2 h)
    refine ok_is hI (fun _ h27 => ?_) (fun _ => ?_)
    · show Ok (if (1 : Int32) = 0 then _ else _) _
      rw [if_neg z_one]
      refine ok_ite (fun _ => ?_) (fun _ => ?_)
      · refine ok_bindP (ok_fail s 2 hI (by decide) (by decide)) (fun y hc => ?_)
        obtain ⟨hIy, hFy, h1, h2⟩ := hc
        obtain ⟨L, hc, hb0, hb, hF, hO, hB, hA, hzz⟩ := h
        have Ay : Adv s y := ⟨by rw [hFy.1 11 (by decide)]; exact Int.le_refl _, h2⟩
        have Ly : LWS sd y c b := L.fr hIy hFy Ay (by decide) (by decide) (by decide) (by decide)
        have hy : TLH sd c0 b0 s0 y c b := ⟨Ly, hc, hb0, hb, hF.trans hFy (by decide), hO.trans (Out.fr hFy (by decide) (by decide)) (Nat.le_refl _), hB.trans (OutB.fr hFy (by decide) (by decide) (by decide) (by decide) (by decide)) (Nat.le_refl _), hA.trans Ay, fun q => by omega⟩
        have hfs : 0 ≤ (s.v 13).toInt ∧ (s.v 13).toInt ≤ 2 := hI.1 13
        have hfy : 0 ≤ (y.v 13).toInt ∧ (y.v 13).toInt ≤ 2 := hIy.1 13
        have hty : (y.v 11) = s.v 11 := hFy.1 11 (by decide)
        exact ok_tellLaw_38 sd c0 b0 k s0 (r_tellLaw_12L m) (mu s) x1 x2 (fun s' c' b' x3' h' hm' => ih s' c' b' x3' (by omega) h') y c b x3 hy (by unfold mu; rw [hty]; omega)
      · exact ok_tellLaw_38 sd c0 b0 k s0 (r_tellLaw_12L m) (mu s) x1 x2 (fun s' c' b' x3' h' hm' => ih s' c' b' x3' (by omega) h') s c b x3 h (Nat.le_refl _)
    · show Ok (if (0 : Int32) = 0 then _ else _) _
      rw [if_pos rfl]
      exact ok_tellLaw_129 sd c0 b0 k s0 s c b x1 x2 hk hx1 hx2 h
theorem ok_tellLaw (sd k : Nat) (s : RS) (c b : Nat) (x1 : Int32) (hk : k < 4) (hx1 : x1.toInt = (k : Int)) (L : LWS sd s c b) (hb : b ≤ 101) (hz : (s.v 13).toInt = 0 → (4 * b + 1 : Int) ≤ (s.v 11).toInt) : Ok (r_tellLaw s x1) (TL sd c b k s) := by
  unfold r_tellLaw
  refine ok_bindP (L.must 5) (fun s1 h1 => ?_)
  obtain ⟨L1, hF1, hA1, ht1⟩ := h1
  have hf : 0 ≤ (s.v 13).toInt ∧ (s.v 13).toInt ≤ 2 := L.1.1 13
  have a := hA1.2
  refine ok_tellLaw_12 sd c b k s x1 _ hk hx1 L1.2.2.2.2.1 fu s1 c b 0 (by have := mu_le s1 L1.1; unfold fu; omega) ⟨L1, Nat.le_refl _, Nat.le_refl _, hb, FrR.rfl.trans hF1 (by decide), Out.fr hF1 (by decide) (by decide), OutB.fr hF1 (by decide) (by decide) (by decide) (by decide) (by decide), hA1, fun q => ⟨?_, fun j q1 q2 => by omega⟩⟩
  have h3 := ht1 q
  have h4 := hz (by omega)
  omega
end
section
/-! ===== the text is cut into tokens ===== -/
noncomputable abbrev WC : List Nat := [10, 105, 106, 107, 108]
noncomputable def bt (s : RS) (x : Int32) : Int32 := if (s.v 4) ≤ x then 0 else (s.f 3 x.toNatClampNeg) &&& 255
theorem byteAt_eq {s : RS} {x : Int32} (hI : InvR s) (h0 : 0 ≤ x.toInt) : r_byteAt s x = some (bt s x, s) := by
  have h4 : 0 ≤ (s.v 4).toInt ∧ (s.v 4).toInt ≤ 2000 := hI.1 4
  unfold r_byteAt bt
  by_cases h : (s.v 4) ≤ x
  · rw [if_pos h, if_pos h]
  · have h' := ti_nle h
    rw [if_neg h, if_neg h, if_pos (vpb_ok (by omega) (by omega))]
theorem bt_in {s : RS} {x : Int32} (h : ¬ (bt s x).toInt = 0) : x.toInt < (s.v 4).toInt := by
  unfold bt at h
  by_cases c : (s.v 4) ≤ x
  · rw [if_pos c] at h; exact absurd (by decide) h
  · exact ti_nle c
theorem letter_eq (c : Int32) : r_isLetter c = some (if 97 ≤ c.toInt ∧ c.toInt ≤ 122 then 1 else 0) := by
  unfold r_isLetter
  by_cases h1 : c < 97
  · have := tn_lt (b := 97) rfl (by decide) h1
    rw [if_pos h1, if_neg (by omega)]
  · have := tn_nlt (b := 97) rfl (by decide) h1
    rw [if_neg h1]
    by_cases h2 : 122 < c
    · have := tn_lt (a := 122) (by decide) rfl h2
      rw [if_pos h2, if_neg (by omega)]
    · have := tn_nlt (a := 122) (by decide) rfl h2
      rw [if_neg h2, if_pos (by omega)]
theorem digit_eq (c : Int32) : r_isDigit c = some (if 48 ≤ c.toInt ∧ c.toInt ≤ 57 then 1 else 0) := by
  unfold r_isDigit
  by_cases h1 : c < 48
  · have := tn_lt (b := 48) rfl (by decide) h1
    rw [if_pos h1, if_neg (by omega)]
  · have := tn_nlt (b := 48) rfl (by decide) h1
    rw [if_neg h1]
    by_cases h2 : 57 < c
    · have := tn_lt (a := 57) (by decide) rfl h2
      rw [if_pos h2, if_neg (by omega)]
    · have := tn_nlt (a := 57) (by decide) rfl h2
      rw [if_neg h2, if_pos (by omega)]
theorem ok_appends (x0 : Int64) (x2 : Int32) : Ok (r_appends x0 x2) (fun _ => True) := by
  unfold r_appends
  exact ok_ite (fun _ => ok_some trivial) (fun _ => ok_some trivial)
theorem ok_token (s : RS) (x1 x2 x3 : Int32) (x4 : Int64) (hI : InvR s) (h : (s.v 10).toInt ≤ 400) (h30 : 0 ≤ x3.toInt) (h39 : x3.toInt ≤ 9999) (hk0 : 0 ≤ x1.toInt) (hk9 : x1.toInt ≤ 38) : Ok (r_token s x1 x2 x3 x4) (fun y => InvR y ∧ FrR WC s y ∧ (y.v 10).toInt = (s.v 10).toInt + 1) := by
  have h10 : 0 ≤ (s.v 10).toInt ∧ (s.v 10).toInt ≤ 402 := hI.1 10
  unfold r_token
  refine ok_grd (vpb_ok (by omega) (by omega)) ?_
  refine ok_let (fun s2 hs2 => ?_)
  have e2 : s2.v 10 = s.v 10 := by rw [← hs2]; rfl
  have I2 : InvR s2 := by rw [← hs2]; exact hI.sf (k := 5) (show (0 : Int) ≤ x1.toInt by omega) (show x1.toInt ≤ (38 : Int) by omega)
  have F2 : FrR WC s s2 := by rw [← hs2]; exact FrR.rfl.sf (k := 5) (by decide)
  refine ok_grd (vpb_ok (by rw [e2]; omega) (by rw [e2]; omega)) ?_
  refine ok_let (fun s5 hs5 => ?_)
  have e5 : s5.v 10 = s.v 10 := by rw [← hs5]; exact e2
  have I5 : InvR s5 := by rw [← hs5]; exact I2.sfF (k := 6) rfl rfl
  have F5 : FrR WC s s5 := by rw [← hs5]; exact F2.sf (k := 6) (by decide)
  refine ok_grd (vpb_ok (by rw [e5]; omega) (by rw [e5]; omega)) ?_
  refine ok_let (fun s8 hs8 => ?_)
  have e8 : s8.v 10 = s.v 10 := by rw [← hs8]; exact e5
  have I8 : InvR s8 := by rw [← hs8]; exact I5.sf (k := 7) (show (0 : Int) ≤ x3.toInt by omega) (show x3.toInt ≤ (9999 : Int) by omega)
  have F8 : FrR WC s s8 := by rw [← hs8]; exact F5.sf (k := 7) (by decide)
  refine ok_grd (vpb_ok (by rw [e8]; omega) (by rw [e8]; omega)) ?_
  refine ok_let (fun s11 hs11 => ?_)
  have e11 : s11.v 10 = s.v 10 := by rw [← hs11]; exact e8
  have I11 : InvR s11 := by rw [← hs11]; exact I8.sg
  have F11 : FrR WC s s11 := by rw [← hs11]; exact F8.sg (k := 8) (by decide)
  refine ok_let (fun s13 hs13 => ?_)
  have a : ((s.v 10) + 1).toInt = (s.v 10).toInt + 1 := tn_add rfl (by decide) (by omega) (by omega)
  have e13 : s13.v 10 = (s.v 10) + 1 := by rw [← hs13, ← e11]; rfl
  refine ok_some ⟨by rw [← hs13, e11]; exact I11.sv (k := 10) (show (0 : Int) ≤ ((s.v 10) + 1).toInt by omega) (show ((s.v 10) + 1).toInt ≤ (402 : Int) by omega), by rw [← hs13]; exact F11.sv (k := 10) (by decide), by rw [e13]; exact a⟩
theorem ok_sign (s : RS) (x1 x2 x3 : Int32) (hI : InvR s) (h : (s.v 10).toInt ≤ 400) : Ok (r_sign s x1 x2 x3) (fun y => (InvR y.2 ∧ FrR WC s y.2 ∧ (y.2.v 10).toInt = (s.v 10).toInt + 1) ∧ y.1 = 1) := by
  have h95 : ∀ (k : Int32), 0 ≤ k.toInt → k.toInt ≤ 38 → Ok (r_sign_95 s x1 k) (fun y => (InvR y.2 ∧ FrR WC s y.2 ∧ (y.2.v 10).toInt = (s.v 10).toInt + 1) ∧ y.1 = 1) := by
    intro k ka kb
    unfold r_sign_95
    refine ok_bindP (ok_token s k x1 0 0 hI h (by decide) (by decide) ka kb) (fun y hy => ?_)
    exact ok_some ⟨hy, rfl⟩
  have h85 : ∀ (k : Int32), 0 ≤ k.toInt → k.toInt ≤ 38 → Ok (r_sign_85 s x1 x2 k) (fun y => (InvR y.2 ∧ FrR WC s y.2 ∧ (y.2.v 10).toInt = (s.v 10).toInt + 1) ∧ y.1 = 1) := fun k ka kb => by
    unfold r_sign_85; exact ok_ite (fun _ => h95 _ (by decide) (by decide)) (fun _ => h95 _ ka kb)
  have h75 : ∀ (k : Int32), 0 ≤ k.toInt → k.toInt ≤ 38 → Ok (r_sign_75 s x1 x2 k) (fun y => (InvR y.2 ∧ FrR WC s y.2 ∧ (y.2.v 10).toInt = (s.v 10).toInt + 1) ∧ y.1 = 1) := fun k ka kb => by
    unfold r_sign_75; exact ok_ite (fun _ => h85 _ (by decide) (by decide)) (fun _ => h85 _ ka kb)
  have h65 : ∀ (k : Int32), 0 ≤ k.toInt → k.toInt ≤ 38 → Ok (r_sign_65 s x1 x2 k) (fun y => (InvR y.2 ∧ FrR WC s y.2 ∧ (y.2.v 10).toInt = (s.v 10).toInt + 1) ∧ y.1 = 1) := fun k ka kb => by
    unfold r_sign_65; exact ok_ite (fun _ => h75 _ (by decide) (by decide)) (fun _ => h75 _ ka kb)
  have h55 : ∀ (k : Int32), 0 ≤ k.toInt → k.toInt ≤ 38 → Ok (r_sign_55 s x1 x2 k) (fun y => (InvR y.2 ∧ FrR WC s y.2 ∧ (y.2.v 10).toInt = (s.v 10).toInt + 1) ∧ y.1 = 1) := fun k ka kb => by
    unfold r_sign_55; exact ok_ite (fun _ => h65 _ (by decide) (by decide)) (fun _ => h65 _ ka kb)
  have h43 : ∀ (k : Int32), 0 ≤ k.toInt → k.toInt ≤ 38 → Ok (r_sign_43 s x1 x2 k) (fun y => (InvR y.2 ∧ FrR WC s y.2 ∧ (y.2.v 10).toInt = (s.v 10).toInt + 1) ∧ y.1 = 1) := fun k ka kb => by
    unfold r_sign_43; exact ok_ite (fun _ => h55 _ (by decide) (by decide)) (fun _ => h55 _ ka kb)
  unfold r_sign
  exact ok_ite (fun _ => h43 _ (by decide) (by decide)) (fun _ => ok_ite (fun _ => h43 _ (by decide) (by decide)) (fun _ => ok_ite (fun _ => h43 _ (by decide) (by decide)) (fun _ => ok_ite (fun _ => h43 _ (by decide) (by decide)) (fun _ => h43 _ (by decide) (by decide)))))
noncomputable abbrev PC (s0 y : RS) : Prop := InvR y ∧ FrR WC s0 y
section CUT
variable (s0 s : RS) (k7 : RS → Int32 → Option RS) (x1 : Int32) (hI : InvR s) (hF : FrR WC s0 s) (h10 : (s.v 10).toInt ≤ 400) (h1 : 0 ≤ x1.toInt)
  (hk : ∀ (y : RS) (z : Int32), InvR y → FrR WC s0 y → (y.v 10).toInt = (s.v 10).toInt + 1 → x1.toInt ≤ z.toInt → z.toInt ≤ (s.v 4).toInt → Ok (k7 y z) (PC s0))
theorem cut_tok (kd v : Int32) (nm : Int64) (x3 : Int32) (hka : 0 ≤ kd.toInt) (hkb : kd.toInt ≤ 38) (hI : InvR s) (hF : FrR WC s0 s) (h10 : (s.v 10).toInt ≤ 400) (h1 : 0 ≤ x1.toInt)
  (hk : ∀ (y : RS) (z : Int32), InvR y → FrR WC s0 y → (y.v 10).toInt = (s.v 10).toInt + 1 → x1.toInt ≤ z.toInt → z.toInt ≤ (s.v 4).toInt → Ok (k7 y z) (PC s0))
  (hv0 : 0 ≤ v.toInt) (hv9 : v.toInt ≤ 9999) (h3 : 0 ≤ x3.toInt) (h13 : x1.toInt + x3.toInt ≤ (s.v 4).toInt) : Ok (bindP (r_token s kd x1 v nm) fun s1 => r_cut_291 k7 s1 (x1 + x3)) (PC s0) := by
  have h4 : 0 ≤ (s.v 4).toInt ∧ (s.v 4).toInt ≤ 2000 := hI.1 4
  refine ok_bindP (ok_token s kd x1 v nm hI h10 hv0 hv9 hka hkb) (fun y hy => ?_)
  unfold r_cut_291
  have a : (x1 + x3).toInt = x1.toInt + x3.toInt := ti_add (by omega) (by omega)
  exact hk y _ hy.1 (hF.trans hy.2.1 (by decide)) hy.2.2 (by omega) (by omega)
theorem cut_146 (x3 : Int32) (nm : Int64) (hI : InvR s) (hF : FrR WC s0 s) (h10 : (s.v 10).toInt ≤ 400) (h1 : 0 ≤ x1.toInt)
  (hk : ∀ (y : RS) (z : Int32), InvR y → FrR WC s0 y → (y.v 10).toInt = (s.v 10).toInt + 1 → x1.toInt ≤ z.toInt → z.toInt ≤ (s.v 4).toInt → Ok (k7 y z) (PC s0)) (h3 : 0 ≤ x3.toInt) (h13 : x1.toInt + x3.toInt ≤ (s.v 4).toInt) :
    ∀ (m : Nat) (x6 x7 : Int32), (19 - x7.toInt).toNat < m → 0 ≤ x7.toInt → x7.toInt ≤ 19 → 0 ≤ x6.toInt → x6.toInt ≤ 38 → Ok (r_cut_146L k7 m s x1 x3 nm x6 x7) (PC s0) := by
  intro m
  induction m with
  | zero => intro x6 x7 h; omega
  | succ m ih =>
    intro x6 x7 hm h0 h19 h60 h68
    show Ok (r_cut_146 k7 (r_cut_146L k7 m) s x1 x3 nm x6 x7) _
    unfold r_cut_146
    refine ok_ite (fun c => ?_) (fun c => ?_)
    · unfold r_cut_179
      exact cut_tok s0 s k7 x1 _ _ _ x3 h60 h68 hI hF h10 h1 hk (by decide) (by decide) h3 h13
    · have c := tn_nle (a := 19) (by decide) rfl c
      have a : (x7 + 1).toInt = x7.toInt + 1 := tn_add rfl (by decide) (by omega) (by omega)
      refine ok_grd (vpb_ok (by omega) (by omega)) ?_
      have a2 : (20 + x7).toInt = 20 + x7.toInt := tn_add (by decide) rfl (by omega) (by omega)
      have st : ∀ (z : Int32), 0 ≤ z.toInt → z.toInt ≤ 38 → Ok (r_cut_173 k7 (r_cut_146L k7 m) s x1 x3 nm z x7) (PC s0) := fun z za zb => by
        unfold r_cut_173
        exact ih _ _ (by omega) (by omega) (by omega) za zb
      exact ok_ite (fun _ => st _ (by omega) (by omega)) (fun _ => st _ h60 h68)
theorem cut_85 (hI : InvR s) (hF : FrR WC s0 s) (h10 : (s.v 10).toInt ≤ 400) (h1 : 0 ≤ x1.toInt)
  (hk : ∀ (y : RS) (z : Int32), InvR y → FrR WC s0 y → (y.v 10).toInt = (s.v 10).toInt + 1 → x1.toInt ≤ z.toInt → z.toInt ≤ (s.v 4).toInt → Ok (k7 y z) (PC s0)) :
    ∀ (m : Nat) (x3 : Int32) (nm : Int64), (2000 - x3.toInt).toNat < m → 0 ≤ x3.toInt → x1.toInt + x3.toInt ≤ (s.v 4).toInt → Ok (r_cut_85L k7 m s x1 x3 nm) (PC s0) := by
  have h4 : 0 ≤ (s.v 4).toInt ∧ (s.v 4).toInt ≤ 2000 := hI.1 4
  intro m
  induction m with
  | zero => intro x3 nm h; omega
  | succ m ih =>
    intro x3 nm hm h0 h13
    show Ok (r_cut_85 k7 (r_cut_85L k7 m) s x1 x3 nm) _
    unfold r_cut_85
    have a : (x1 + x3).toInt = x1.toInt + x3.toInt := ti_add (by omega) (by omega)
    have b : (x3 + 1).toInt = x3.toInt + 1 := tn_add rfl (by decide) (by omega) (by omega)
    rw [byteAt_eq hI (by omega), bindI_some, letter_eq, bindP_some]
    by_cases hl : 97 ≤ (bt s (x1 + x3)).toInt ∧ (bt s (x1 + x3)).toInt ≤ 122
    · rw [if_pos hl, if_neg z_one]
      have hin := bt_in (s := s) (x := x1 + x3) (by omega)
      have st : ∀ z, Ok (r_cut_118 k7 (r_cut_85L k7 m) s x1 x3 z) (PC s0) := fun z => by
        unfold r_cut_118
        exact ih _ _ (by omega) (by omega) (by omega)
      refine ok_ite (fun _ => st _) (fun _ => ?_)
      rw [byteAt_eq hI (by omega), bindI_some]
      exact ok_bindP (ok_appends _ _) (fun r9 _ => st _)
    · rw [if_neg hl, if_pos rfl]
      have ex : ∀ (z : Int32), 0 ≤ z.toInt → z.toInt ≤ 38 → Ok (r_cut_135 k7 s x1 x3 nm z) (PC s0) := fun z za zb => by
        unfold r_cut_135
        refine ok_ite (fun _ => ?_) (fun _ => ?_)
        · unfold r_cut_179
          exact cut_tok s0 s k7 x1 _ _ _ x3 za zb hI hF h10 h1 hk (by decide) (by decide) h0 h13
        · have z0 : (0 : Int32).toInt = 0 := by decide
          exact cut_146 s0 s k7 x1 x3 nm hI hF h10 h1 hk h0 h13 fu _ _ (by unfold fu; omega) (by decide) (by decide) za zb
      exact ok_ite (fun _ => ex _ (by decide) (by decide)) (fun _ => ex _ (by decide) (by decide))
theorem cut_208 (hI : InvR s) (hF : FrR WC s0 s) (h10 : (s.v 10).toInt ≤ 400) (h1 : 0 ≤ x1.toInt)
  (hk : ∀ (y : RS) (z : Int32), InvR y → FrR WC s0 y → (y.v 10).toInt = (s.v 10).toInt + 1 → x1.toInt ≤ z.toInt → z.toInt ≤ (s.v 4).toInt → Ok (k7 y z) (PC s0)) :
    ∀ (m : Nat) (x3 x4 : Int32), (2000 - x3.toInt).toNat < m → 0 ≤ x3.toInt → x1.toInt + x3.toInt ≤ (s.v 4).toInt → 0 ≤ x4.toInt → x4.toInt ≤ 9999 → (x3.toInt ≤ 3 → x4.toInt ≤ 999) → (x3.toInt ≤ 2 → x4.toInt ≤ 99) → (x3.toInt ≤ 1 → x4.toInt ≤ 9) → (x3.toInt ≤ 0 → x4.toInt ≤ 0) → Ok (r_cut_208L k7 m s x1 x3 x4) (PC s0) := by
  have h4 : 0 ≤ (s.v 4).toInt ∧ (s.v 4).toInt ≤ 2000 := hI.1 4
  intro m
  induction m with
  | zero => intro x3 x4 h; omega
  | succ m ih =>
    intro x3 x4 hm h0 h13 g0 g4 g3 g2 g1 g00
    show Ok (r_cut_208 k7 (r_cut_208L k7 m) s x1 x3 x4) _
    unfold r_cut_208
    have a : (x1 + x3).toInt = x1.toInt + x3.toInt := ti_add (by omega) (by omega)
    have b : (x3 + 1).toInt = x3.toInt + 1 := tn_add rfl (by decide) (by omega) (by omega)
    rw [byteAt_eq hI (by omega), bindI_some, digit_eq, bindP_some]
    by_cases hl : 48 ≤ (bt s (x1 + x3)).toInt ∧ (bt s (x1 + x3)).toInt ≤ 57
    · rw [if_pos hl, if_neg z_one]
      have hin := bt_in (s := s) (x := x1 + x3) (by omega)
      refine ok_ite (fun c => ?_) (fun c => ?_)
      · have c := tn_le (a := 4) (by decide) rfl c
        unfold r_cut_244
        exact ih _ _ (by omega) (by omega) (by omega) g0 g4 (fun _ => by omega) (fun _ => by omega) (fun _ => by omega) (fun _ => by omega)
      · have c := tn_nle (a := 4) (by decide) rfl c
        have g3' := g3 (by omega)
        rw [byteAt_eq hI (by omega), bindI_some]
        unfold r_cut_244
        have q1 : (10 * x4).toInt = x4.toInt * 10 := ti_cmul (c := 10) (by decide) (by omega) (by omega)
        have q2 : ((10 * x4) + bt s (x1 + x3)).toInt = (10 * x4).toInt + (bt s (x1 + x3)).toInt := ti_add (by omega) (by omega)
        have q3 : (((10 * x4) + bt s (x1 + x3)) - 48).toInt = ((10 * x4) + bt s (x1 + x3)).toInt - 48 := tn_sub rfl (by decide) (by omega) (by omega)
        generalize hq : ((10 * x4) + bt s (x1 + x3)) - 48 = q at q3 ⊢
        exact ih _ _ (by omega) (by omega) (by omega) (by omega) (by omega) (fun h => by have := g2 (by omega); omega) (fun h => by have := g1 (by omega); omega) (fun h => by have := g00 (by omega); omega) (fun h => by omega)
    · rw [if_neg hl, if_pos rfl]
      have ex : ∀ (z : Int32), 0 ≤ z.toInt → z.toInt ≤ 38 → Ok (r_cut_261 k7 s x1 x3 x4 z) (PC s0) := fun z za zb => by
        unfold r_cut_261
        exact cut_tok s0 s k7 x1 _ _ _ x3 za zb hI hF h10 h1 hk g0 g4 h0 h13
      exact ok_ite (fun _ => ex _ (by decide) (by decide)) (fun _ => ex _ (by decide) (by decide))
end CUT
theorem cut_7 (s0 : RS) : ∀ (m : Nat) (s : RS) (x1 : Int32), (2001 - x1.toInt + (402 - (s.v 10).toInt)).toNat < m → InvR s → FrR WC s0 s → 0 ≤ x1.toInt → x1.toInt ≤ (s.v 4).toInt → Ok (r_cut_7L m s x1) (PC s0) := by
  intro m
  induction m with
  | zero => intro s x1 h; omega
  | succ m ih =>
    intro s x1 hm hI hF h1 h14
    have h4 : 0 ≤ (s.v 4).toInt ∧ (s.v 4).toInt ≤ 2000 := hI.1 4
    have h10 : 0 ≤ (s.v 10).toInt ∧ (s.v 10).toInt ≤ 402 := hI.1 10
    show Ok (r_cut_7 (r_cut_7L m) s x1) _
    unfold r_cut_7
    refine ok_ite (fun c => ?_) (fun c => ?_)
    · exact ok_some ⟨hI, hF⟩
    · have c := tn_nlt (a := 400) (by decide) rfl c
      have hk : ∀ (y : RS) (z : Int32), InvR y → FrR WC s0 y → (y.v 10).toInt = (s.v 10).toInt + 1 → x1.toInt ≤ z.toInt → z.toInt ≤ (s.v 4).toInt → Ok (r_cut_7L m y z) (PC s0) := by
        intro y z hIy hFy hy hz1 hz2
        have e4 : y.v 4 = s.v 4 := (hFy.1 4 (by decide)).trans (hF.1 4 (by decide)).symm
        exact ih y z (by omega) hIy hFy (by omega) (by rw [e4]; exact hz2)
      rw [byteAt_eq hI h1, bindI_some]
      refine ok_ite (fun c1 => ?_) (fun c1 => ?_)
      · have c1 := ti_lt c1
        have a : (x1 + 1).toInt = x1.toInt + 1 := tn_add rfl (by decide) (by omega) (by omega)
        have bl : Ok (r_cut_67 (r_cut_7L m) s x1) (PC s0) := by
          unfold r_cut_67 r_cut_291
          exact ih s _ (by omega) hI hF (by omega) (by omega)
        refine ok_ite (fun _ => bl) (fun _ => ?_)
        refine ok_ite (fun _ => bl) (fun _ => ?_)
        refine ok_ite (fun _ => bl) (fun _ => ?_)
        refine ok_ite (fun _ => bl) (fun _ => ?_)
        rw [letter_eq, bindP_some]
        by_cases hl : 97 ≤ (bt s x1).toInt ∧ (bt s x1).toInt ≤ 122
        · rw [if_pos hl, if_neg z_one]
          have z0 : (0 : Int32).toInt = 0 := by decide
          exact cut_85 s0 s _ x1 hI hF c h1 hk fu 0 0 (by unfold fu; omega) (by decide) (by omega)
        · rw [if_neg hl, if_pos rfl, digit_eq, bindP_some]
          by_cases hd : 48 ≤ (bt s x1).toInt ∧ (bt s x1).toInt ≤ 57
          · rw [if_pos hd, if_neg z_one]
            have z0 : (0 : Int32).toInt = 0 := by decide
            exact cut_208 s0 s _ x1 hI hF c h1 hk fu 0 0 (by unfold fu; omega) (by decide) (by omega) (by decide) (by decide) (fun _ => by decide) (fun _ => by decide) (fun _ => by decide) (fun _ => by decide)
          · rw [if_neg hd, if_pos rfl, byteAt_eq hI (by omega), bindI_some]
            refine ok_bindI (ok_sign s x1 (bt s x1) (bt s (x1 + 1)) hI c) (fun r y hy => ?_)
            obtain ⟨⟨hIy, hFy, hy10⟩, hr⟩ := hy
            have hr : r = 1 := hr
            subst hr
            unfold r_cut_291
            exact hk y _ hIy (hF.trans hFy (by decide)) hy10 (by omega) (by omega)
      · refine ok_bindP (ok_token s 0 (s.v 4) 0 0 hI c (by decide) (by decide) (by decide) (by decide)) (fun y hy => ?_)
        exact ok_some ⟨hy.1, hF.trans hy.2.1 (by decide)⟩
theorem ok_cut (s : RS) (hI : InvR s) : Ok (r_cut s) (PC s) := by
  unfold r_cut
  refine ok_let (fun s1 hs1 => ?_)
  have I1 : InvR s1 := by rw [← hs1]; exact hI.sv (k := 10) (show (0 : Int) ≤ (0 : Int32).toInt by decide) (show (0 : Int32).toInt ≤ (402 : Int) by decide)
  have F1 : FrR WC s s1 := by rw [← hs1]; exact FrR.rfl.sv (k := 10) (by decide)
  have h4 : 0 ≤ (s1.v 4).toInt ∧ (s1.v 4).toInt ≤ 2000 := I1.1 4
  have h10 : 0 ≤ (s1.v 10).toInt ∧ (s1.v 10).toInt ≤ 402 := I1.1 10
  have z0 : (0 : Int32).toInt = 0 := by decide
  exact cut_7 s fu s1 0 (by unfold fu; omega) I1 F1 (by decide) (by omega)
end
section
/-! ===== waves, parties, the whole text ===== -/
noncomputable def WM (s y : RS) : Prop := ¬ (s.v 15).toInt = 0 → ¬ (y.v 15).toInt = 0
theorem ok_wrong (s : RS) (x1 x2 : Int32) (hI : InvR s) (h3 : 3 ≤ x1.toInt) (h5 : x1.toInt ≤ 5) (h20 : 0 ≤ x2.toInt) (h24 : x2.toInt ≤ 402) : Ok (r_wrong s x1 x2) (fun y => InvR y ∧ FrR [15, 16] s y ∧ WM s y ∧ ((s.v 13).toInt = 0 → ¬ (y.v 15).toInt = 0)) := by
  have hf : 0 ≤ (s.v 13).toInt ∧ (s.v 13).toInt ≤ 2 := hI.1 13
  have set : ∀ p, Ok (r_wrong_46 s x1 p) (fun y => InvR y ∧ FrR [15, 16] s y ∧ WM s y ∧ ((s.v 13).toInt = 0 → ¬ (y.v 15).toInt = 0)) := by
    intro p
    unfold r_wrong_46
    refine ok_let (fun s1 hs1 => ?_)
    refine ok_let (fun s3 hs3 => ?_)
    have I1 : InvR s1 := by rw [← hs1]; exact hI.sv (k := 15) (show (0 : Int) ≤ x1.toInt by omega) (show x1.toInt ≤ (5 : Int) by omega)
    have e : s3.v 15 = x1 := by rw [← hs3, ← hs1]; rfl
    refine ok_some ⟨by rw [← hs3]; exact I1.svF (k := 16) rfl rfl, by rw [← hs3, ← hs1]; exact (FrR.rfl.sv (k := 15) (by decide)).sv (k := 16) (by decide), fun _ => by rw [e]; omega, fun _ => by rw [e]; omega⟩
  unfold r_wrong
  refine ok_grd (vpb_ok (by omega) (by omega)) ?_
  refine ok_ite (fun c => ?_) (fun c => ?_)
  · have c := tn_lt (a := 0) (by decide) rfl c
    exact ok_some ⟨hI, FrR.rfl, fun q => q, fun q => by omega⟩
  · refine ok_ite (fun _ => set _) (fun c2 => ?_)
    have c2 := tn_ne (b := 0) rfl (by decide) c2
    have keep : Ok (some s) (fun y => InvR y ∧ FrR [15, 16] s y ∧ WM s y ∧ ((s.v 13).toInt = 0 → ¬ (y.v 15).toInt = 0)) := ok_some ⟨hI, FrR.rfl, fun q => q, fun _ => c2⟩
    refine ok_ite (fun _ => keep) (fun _ => ?_)
    refine ok_ite (fun _ => ?_) (fun _ => set _)
    exact ok_ite (fun _ => set _) (fun _ => keep)
theorem WM.fr {s y : RS} {W : List Nat} (h : FrR W s y) (h1 : 15 ∉ W) : WM s y := fun q => by rw [h.1 15 h1]; exact q
theorem WM.trans {s y z : RS} (h : WM s y) (h2 : WM y z) : WM s z := fun q => h2 (h q)
noncomputable abbrev WB : List Nat := [11, 13, 14, 15, 16]
theorem ok_bounded (s : RS) (x1 : Int32) (hI : InvR s) : Ok (r_bounded s x1) (fun y => InvR y.2 ∧ FrR WB s y.2 ∧ Adv s y.2 ∧ WM s y.2 ∧ 0 ≤ y.1.toInt ∧ y.1.toInt ≤ 9999 ∧ ((y.2.v 13).toInt = 0 → (y.2.v 11).toInt = (s.v 11).toInt + 1 ∧ ((y.2.v 15).toInt = 0 → y.1.toInt ≤ x1.toInt))) := by
  have hf : 0 ≤ (s.v 13).toInt ∧ (s.v 13).toInt ≤ 2 := hI.1 13
  have ht : 0 ≤ (s.v 11).toInt ∧ (s.v 11).toInt ≤ 400 := hI.1 11
  have bad : Ok (r_bounded_15 s) (fun y => InvR y.2 ∧ FrR WB s y.2 ∧ Adv s y.2 ∧ WM s y.2 ∧ 0 ≤ y.1.toInt ∧ y.1.toInt ≤ 9999 ∧ ((y.2.v 13).toInt = 0 → (y.2.v 11).toInt = (s.v 11).toInt + 1 ∧ ((y.2.v 15).toInt = 0 → y.1.toInt ≤ x1.toInt))) := by
    unfold r_bounded_15
    refine ok_bindP (ok_fail s 1 hI (by decide) (by decide)) (fun y hc => ?_)
    refine ok_some ⟨hc.1, FrR.rfl.trans (W := WB) hc.2.1 (by decide), ⟨by show (s.v 11).toInt ≤ (y.v 11).toInt; rw [hc.2.1.1 11 (by decide)]; exact Int.le_refl _, hc.2.2.2⟩, WM.fr hc.2.1 (by decide), by show (0 : Int) ≤ (0 : Int32).toInt; decide, by show (0 : Int32).toInt ≤ 9999; decide, fun q => ?_⟩
    have q : (y.v 13).toInt = 0 := q
    have := hc.2.2.1
    omega
  have fin : ∀ (s7 : RS) (v : Int32), InvR s7 → FrR [15, 16] s s7 → WM s s7 → 0 ≤ v.toInt → v.toInt ≤ 9999 → ((s7.v 13).toInt = 0 → (s7.v 15).toInt = 0 → v.toInt ≤ x1.toInt) → Ok (r_bounded_46 s7 v) (fun y => InvR y.2 ∧ FrR WB s y.2 ∧ Adv s y.2 ∧ WM s y.2 ∧ 0 ≤ y.1.toInt ∧ y.1.toInt ≤ 9999 ∧ ((y.2.v 13).toInt = 0 → (y.2.v 11).toInt = (s.v 11).toInt + 1 ∧ ((y.2.v 15).toInt = 0 → y.1.toInt ≤ x1.toInt))) := by
    intro s7 v I7 F7 M7 v0 v9 hv
    unfold r_bounded_46
    refine ok_bindP (ok_goesOn s7 I7) (fun y hy => ?_)
    obtain ⟨Iy, Fy, hst⟩ := hy
    have e11 : s7.v 11 = s.v 11 := F7.1 11 (by decide)
    have e13 : s7.v 13 = s.v 13 := F7.1 13 (by decide)
    have hfy : 0 ≤ (y.v 13).toInt ∧ (y.v 13).toInt ≤ 2 := Iy.1 13
    have hst' : ((y.v 11).toInt = (s.v 11).toInt + 1 ∧ (y.v 13).toInt = (s.v 13).toInt) ∨ ((s.v 11).toInt = 400 ∧ (y.v 11).toInt = (s.v 11).toInt ∧ 1 ≤ (y.v 13).toInt ∧ (s.v 13).toInt ≤ (y.v 13).toInt) := by
      unfold Step at hst
      rw [e11, e13] at hst
      exact hst
    refine ok_some ⟨Iy, (FrR.rfl.trans (W := WB) F7 (by decide)).trans Fy (by decide), ⟨by show (s.v 11).toInt ≤ (y.v 11).toInt; omega, by show (s.v 13).toInt ≤ (y.v 13).toInt; omega⟩, M7.trans (WM.fr Fy (by decide)), v0, v9, fun q => ?_⟩
    have q : (y.v 13).toInt = 0 := q
    refine ⟨by show (y.v 11).toInt = _; omega, fun q2 => ?_⟩
    have q2 : (y.v 15).toInt = 0 := q2
    rw [Fy.1 15 (by decide)] at q2
    exact hv (by rw [e13]; omega) q2
  unfold r_bounded
  refine ok_ite (fun _ => bad) (fun c => ?_)
  refine ok_is hI (fun hz _ => ?_) (fun _ => ?_)
  · show Ok (if (1 : Int32) = 0 then _ else _) _
    rw [if_neg z_one]
    refine ok_grd (vpb_ok (by omega) (by omega)) ?_
    have hv : 0 ≤ (s.f 7 (Int32.toNatClampNeg (s.v 11))).toInt ∧ (s.f 7 (Int32.toNatClampNeg (s.v 11))).toInt ≤ 9999 := hI.2 7 _
    refine ok_ite (fun c2 => ?_) (fun c2 => ?_)
    · have c2 := ti_le c2
      exact fin s _ hI FrR.rfl (fun q => q) hv.1 hv.2 (fun _ _ => c2)
    · refine ok_bindP (ok_wrong s 5 (s.v 11) hI (by decide) (by decide) (by omega) (by omega)) (fun s7 h7 => ?_)
      exact fin s7 _ h7.1 h7.2.1 h7.2.2.1 hv.1 hv.2 (fun _ q2 => absurd q2 (h7.2.2.2 (fz hz)))
  · show Ok (if (0 : Int32) = 0 then _ else _) _
    rw [if_pos rfl]
    exact bad
theorem psum_congr {f g : Nat → Int32} {b : Nat} : ∀ n, (∀ j, j < n → f (b + j) = g (b + j)) → psum f b n = psum g b n := by
  intro n
  induction n with
  | zero => intro _; rfl
  | succ n ih => intro h; show psum f b n + _ = psum g b n + _; rw [ih (fun j hj => h j (by omega)), h n (by omega)]
theorem psum_rng {f : Nat → Int32} {b : Nat} {M : Int} : ∀ n, (∀ j, j < n → 0 ≤ (f (b + j)).toInt ∧ (f (b + j)).toInt ≤ M) → 0 ≤ psum f b n ∧ psum f b n ≤ M * n := by
  intro n
  induction n with
  | zero => intro _; exact ⟨Int.le_refl _, by show (0 : Int) ≤ _; omega⟩
  | succ n ih =>
    intro h
    have h1 := ih (fun j hj => h j (by omega))
    have h2 := h n (by omega)
    have e : psum f b (n + 1) = psum f b n + (f (b + n)).toInt := rfl
    have e2 : M * ((n + 1 : Nat) : Int) = M * (n : Int) + M := by rw [Int.natCast_add, Int.mul_add]; simp
    rw [e, e2]
    exact ⟨by omega, by omega⟩
noncomputable abbrev WV : List Nat := [11, 13, 14, 15, 16, 120, 121]
/-- what the reading of a wave leaves -/
noncomputable def TV (sd w0 : Nat) (s0 y : RS) : Prop := InvR y ∧ FrR WV s0 y ∧ Adv s0 y ∧ WM s0 y ∧ (∃ z, y.f 20 = upd (s0.f 20) sd z ∧ z.toInt = (w0 : Int) + 1) ∧ (∀ j, (j < 30 * sd + 6 * w0 ∨ 30 * sd + 6 * w0 + 6 ≤ j) → y.f 21 j = s0.f 21 j) ∧ ((y.v 13).toInt = 0 → (y.v 15).toInt = 0 → (∀ v : Nat, v < 6 → 0 ≤ (y.f 21 (30 * sd + 6 * w0 + v)).toInt ∧ (y.f 21 (30 * sd + 6 * w0 + v)).toInt ≤ 9) ∧ 0 < psum (y.f 21) (30 * sd + 6 * w0) 6)
theorem ok_tellWave_93 (sd w0 : Nat) (s0 s : RS) (hsd : sd ≤ 1) (hw : w0 ≤ 4) (h19 : (s.v 19).toInt = (sd : Int)) (hw0 : (s0.f 20 sd).toInt = (w0 : Int)) (hI : InvR s) (hF : FrR [11, 13, 14, 15, 16, 121] s0 s) (hA : Adv s0 s) (hM : WM s0 s) (hO : ∀ j, (j < 30 * sd + 6 * w0 ∨ 30 * sd + 6 * w0 + 6 ≤ j) → s.f 21 j = s0.f 21 j) (hz : (s.v 13).toInt = 0 → (s.v 15).toInt = 0 → (∀ v : Nat, v < 6 → 0 ≤ (s.f 21 (30 * sd + 6 * w0 + v)).toInt ∧ (s.f 21 (30 * sd + 6 * w0 + v)).toInt ≤ 9) ∧ 0 < psum (s.f 21) (30 * sd + 6 * w0) 6) : Ok (r_tellWave_93 s) (TV sd w0 s0) := by
  unfold r_tellWave_93
  refine ok_bindP (ok_must s 4 hI) (fun s1 h1 => ?_)
  obtain ⟨I1, F1, A1, _⟩ := h1
  have e19 : s1.v 19 = s.v 19 := F1.1 19 (by decide)
  have ec : (s1.v 19).toNatClampNeg = sd := clamp_of_int (by rw [e19]; exact h19)
  have e20 : s1.f 20 = s0.f 20 := ((F1.2 20 (by decide)).1).trans (hF.2 20 (by decide)).1
  rw [ec]
  refine ok_grd (vpb_ok (by rw [e19]; omega) (by rw [e19]; omega)) ?_
  refine ok_grd (vpb_ok (by rw [e19]; omega) (by rw [e19]; omega)) ?_
  refine ok_let (fun s4 hs4 => ?_)
  have a : ((s1.f 20 sd) + 1).toInt = (s1.f 20 sd).toInt + 1 := tn_add rfl (by decide) (by rw [e20]; omega) (by rw [e20]; omega)
  rw [e20] at a
  have I4 : InvR s4 := by rw [← hs4, e20]; exact I1.sf (k := 20) (show (0 : Int) ≤ ((s0.f 20 sd) + 1).toInt by omega) (show ((s0.f 20 sd) + 1).toInt ≤ (5 : Int) by omega)
  have F14 : FrR [120] s1 s4 := by rw [← hs4]; exact FrR.rfl.sf (k := 20) (by decide)
  have A14 : Adv s1 s4 := Adv.fr F14 (by decide) (by decide)
  have e21 : s4.f 21 = s.f 21 := ((F14.2 21 (by decide)).1).trans (F1.2 21 (by decide)).1
  have f13 := A1.2
  have hf4 : 0 ≤ (s1.v 13).toInt ∧ (s1.v 13).toInt ≤ 2 := I1.1 13
  have hfs : 0 ≤ (s.v 13).toInt ∧ (s.v 13).toInt ≤ 2 := hI.1 13
  refine ok_some ⟨I4, ((FrR.rfl.trans (W := WV) hF (by decide)).trans F1 (by decide)).trans F14 (by decide), (hA.trans A1).trans A14, (hM.trans (WM.fr F1 (by decide))).trans (WM.fr F14 (by decide)), ⟨(s0.f 20 sd) + 1, by rw [← hs4, ← e20]; rfl, by omega⟩, by rw [e21]; exact hO, ?_⟩
  rw [e21, F14.1 13 (by decide), F14.1 15 (by decide), F1.1 15 (by decide)]
  intro q1 q2
  exact hz (by omega) q2
theorem ok_tellWave_31 (sd w0 : Nat) (s0 : RS) (x1 : Int32) (hsd : sd ≤ 1) (hw : w0 ≤ 4) (h019 : (s0.v 19).toInt = (sd : Int)) (hw0 : (s0.f 20 sd).toInt = (w0 : Int)) (hx1 : x1.toInt = ((30 * sd + 6 * w0 : Nat) : Int)) :
    ∀ (m v : Nat) (s : RS) (x2 x3 x4 : Int32), 6 - v < m → v ≤ 6 → x4.toInt = (v : Int) → InvR s → FrR [11, 13, 14, 15, 16, 121] s0 s → Adv s0 s → WM s0 s → (∀ j, (j < 30 * sd + 6 * w0 ∨ 30 * sd + 6 * w0 + 6 ≤ j) → s.f 21 j = s0.f 21 j) → (∀ j, j < v → 0 ≤ (s.f 21 (30 * sd + 6 * w0 + j)).toInt ∧ (s.f 21 (30 * sd + 6 * w0 + j)).toInt ≤ 9999) → ((s.v 13).toInt = 0 → (s.v 15).toInt = 0 → ∀ j, j < v → (s.f 21 (30 * sd + 6 * w0 + j)).toInt ≤ 9) → x2.toInt = psum (s.f 21) (30 * sd + 6 * w0) v → 0 ≤ x3.toInt → x3.toInt ≤ 400 → Ok (r_tellWave_31L m s x1 x2 x3 x4) (TV sd w0 s0) := by
  intro m
  induction m with
  | zero => intro v s x2 x3 x4 h; omega
  | succ m ih =>
    intro v s x2 x3 x4 hm hv h4 hI hF hA hM hO hr hz h2 h30 h34
    have e19 : s.v 19 = s0.v 19 := hF.1 19 (by decide)
    have ht : 0 ≤ (s.v 11).toInt ∧ (s.v 11).toInt ≤ 400 := hI.1 11
    show Ok (r_tellWave_31 (r_tellWave_31L m) s x1 x2 x3 x4) _
    unfold r_tellWave_31
    have hps := psum_rng (f := s.f 21) (b := 30 * sd + 6 * w0) (M := 9999) v hr
    refine ok_ite (fun c => ?_) (fun c => ?_)
    · have c := tn_le (a := 6) (by decide) rfl c
      obtain rfl : v = 6 := by omega
      have end_ : ∀ (y : RS), InvR y → FrR [15, 16] s y → WM s y → ((y.v 13).toInt = 0 → (y.v 15).toInt = 0 → 0 < x2.toInt) → Ok (r_tellWave_93 y) (TV sd w0 s0) := by
        intro y Iy Fy My hpos
        have e21 : y.f 21 = s.f 21 := (Fy.2 21 (by decide)).1
        have Ay : Adv s y := Adv.fr Fy (by decide) (by decide)
        refine ok_tellWave_93 sd w0 s0 y hsd hw (by rw [Fy.1 19 (by decide), e19]; exact h019) hw0 Iy (hF.trans Fy (by decide)) (hA.trans Ay) (hM.trans My) (by rw [e21]; exact hO) (fun q1 q2 => ?_)
        rw [e21]
        have q1' : (s.v 13).toInt = 0 := by rw [← Fy.1 13 (by decide)]; exact q1
        have q2' : (s.v 15).toInt = 0 := Decidable.byContradiction (fun h => My h q2)
        refine ⟨fun v hv6 => ⟨(hr v hv6).1, hz q1' q2' v hv6⟩, ?_⟩
        rw [← h2]
        exact hpos q1 q2
      refine ok_ite (fun c1 => ?_) (fun c1 => ?_)
      · refine ok_ite (fun c2 => ?_) (fun c2 => ?_)
        · refine ok_bindP (ok_wrong s 5 x3 hI (by decide) (by decide) h30 (by omega)) (fun y hy => ?_)
          exact end_ y hy.1 hy.2.1 hy.2.2.1 (fun _ q2 => absurd q2 (hy.2.2.2 (fz c1)))
        · have c2 := tn_ne (b := 0) rfl (by decide) c2
          exact end_ s hI FrR.rfl (fun q => q) (fun _ _ => by omega)
      · have c1 := tn_ne (b := 0) rfl (by decide) c1
        exact end_ s hI FrR.rfl (fun q => q) (fun q _ => absurd q c1)
    · have c := tn_nle (a := 6) (by decide) rfl c
      refine ok_bindI (ok_bounded s 9 hI) (fun r6 s5 h5 => ?_)
      obtain ⟨I5, F5, A5, M5, r0, r9, hb⟩ := h5
      have r0 : 0 ≤ r6.toInt := r0
      have r9 : r6.toInt ≤ 9999 := r9
      have F5 : FrR WB s s5 := F5
      have I5 : InvR s5 := I5
      have A5 : Adv s s5 := A5
      have M5 : WM s s5 := M5
      have hb : (s5.v 13).toInt = 0 → (s5.v 11).toInt = (s.v 11).toInt + 1 ∧ ((s5.v 15).toInt = 0 → r6.toInt ≤ (9 : Int32).toInt) := hb
      have a1 : (x1 + x4).toInt = x1.toInt + x4.toInt := ti_add (by omega) (by omega)
      have ec : (x1 + x4).toNatClampNeg = 30 * sd + 6 * w0 + v := clamp_of_int (by omega)
      refine ok_grd (vpb_ok (by omega) (by omega)) ?_
      rw [ec]
      refine ok_let (fun s8 hs8 => ?_)
      refine ok_grd (vpb_ok (by omega) (by omega)) ?_
      have e21 : s8.f 21 = upd (s.f 21) (30 * sd + 6 * w0 + v) r6 := by rw [← hs8, ← (F5.2 21 (by decide)).1]; rfl
      have I8 : InvR s8 := by rw [← hs8]; exact I5.sfF (k := 21) rfl rfl
      have F58 : FrR [121] s5 s8 := by rw [← hs8]; exact FrR.rfl.sf (k := 21) (by decide)
      have F8 : FrR [11, 13, 14, 15, 16, 121] s0 s8 := (hF.trans F5 (by decide)).trans F58 (by decide)
      have A8 : Adv s5 s8 := Adv.fr F58 (by decide) (by decide)
      have M8 : WM s5 s8 := WM.fr F58 (by decide)
      have p1 : psum (s8.f 21) (30 * sd + 6 * w0) v = psum (s.f 21) (30 * sd + 6 * w0) v := psum_congr v (fun j hj => by rw [e21, upd_ne (by omega)])
      have p2 : psum (s8.f 21) (30 * sd + 6 * w0) (v + 1) = psum (s8.f 21) (30 * sd + 6 * w0) v + (s8.f 21 (30 * sd + 6 * w0 + v)).toInt := rfl
      have p3 : s8.f 21 (30 * sd + 6 * w0 + v) = r6 := by rw [e21, upd_same]
      have b4 : (x4 + 1).toInt = x4.toInt + 1 := tn_add rfl (by decide) (by omega) (by omega)
      rw [p3]
      rw [p3] at p2
      have b2 : (x2 + r6).toInt = x2.toInt + r6.toInt := ti_add (by omega) (by omega)
      have hfs : 0 ≤ (s.v 13).toInt ∧ (s.v 13).toInt ≤ 2 := hI.1 13
      have hf5 : 0 ≤ (s5.v 13).toInt ∧ (s5.v 13).toInt ≤ 2 := I5.1 13
      refine ih (v + 1) s8 _ _ _ (by omega) (by omega) (by omega) I8 F8 ((hA.trans A5).trans A8) ((hM.trans M5).trans M8) (fun j hj => ?_) (fun j hj => ?_) (fun q1 q2 j hj => ?_) (by omega) ht.1 ht.2
      · rw [e21, upd_ne (by omega)]
        exact hO j hj
      · rw [e21]
        by_cases e : j = v
        · rw [e, upd_same]; exact ⟨r0, r9⟩
        · rw [upd_ne (by omega)]; exact hr j (by omega)
      · rw [F58.1 13 (by decide)] at q1
        rw [F58.1 15 (by decide)] at q2
        rw [e21]
        by_cases e : j = v
        · rw [e, upd_same]
          have := (hb q1).2 q2
          rw [show (9 : Int32).toInt = 9 from by decide] at this
          exact this
        · rw [upd_ne (by omega)]
          have h13 := A5.2
          exact hz (by omega) (Decidable.byContradiction (fun h => M5 h q2)) j (by omega)
theorem ok_tellWave (sd w0 : Nat) (s : RS) (hsd : sd ≤ 1) (hw : w0 ≤ 4) (h19 : (s.v 19).toInt = (sd : Int)) (hw0 : (s.f 20 sd).toInt = (w0 : Int)) (hI : InvR s) : Ok (r_tellWave s) (TV sd w0 s) := by
  unfold r_tellWave
  have ec : (s.v 19).toNatClampNeg = sd := clamp_of_int h19
  have ht : 0 ≤ (s.v 11).toInt ∧ (s.v 11).toInt ≤ 400 := hI.1 11
  refine ok_grd (vpb_ok (by omega) (by omega)) ?_
  rw [ec]
  have a1 : (30 * (s.v 19)).toInt = (s.v 19).toInt * 30 := ti_cmul (c := 30) (by decide) (by omega) (by omega)
  have a2 : (6 * (s.f 20 sd)).toInt = (s.f 20 sd).toInt * 6 := ti_cmul (c := 6) (by decide) (by omega) (by omega)
  have a3 : ((30 * (s.v 19)) + (6 * (s.f 20 sd))).toInt = (30 * (s.v 19)).toInt + (6 * (s.f 20 sd)).toInt := ti_add (by omega) (by omega)
  exact ok_tellWave_31 sd w0 s _ hsd hw h19 hw0 (by omega) fu 0 s 0 _ 0 (by unfold fu; omega) (by omega) (by decide) hI FrR.rfl Adv.rfl (fun q => q) (fun _ _ => rfl) (fun j hj => by omega) (fun _ _ j hj => by omega) (by show (0 : Int32).toInt = 0; decide) ht.1 ht.2
noncomputable abbrev WP : List Nat := [11, 13, 14, 15, 16, 122, 123, 124, 125]
noncomputable def TPt (s0 y : RS) : Prop := InvR y ∧ FrR WP s0 y ∧ Adv s0 y ∧ WM s0 y
theorem ok_tellParty (sd p0 : Nat) (s : RS) (hsd : sd ≤ 1) (hp : p0 ≤ 5) (h19 : (s.v 19).toInt = (sd : Int)) (hp0 : (s.f 23 sd).toInt = (p0 : Int)) (hI : InvR s) : Ok (r_tellParty s) (TPt s) := by
  have ec : (s.v 19).toNatClampNeg = sd := clamp_of_int h19
  have ht : 0 ≤ (s.v 11).toInt ∧ (s.v 11).toInt ≤ 400 := hI.1 11
  have a1 : (6 * (s.v 19)).toInt = (s.v 19).toInt * 6 := ti_cmul (c := 6) (by decide) (by omega) (by omega)
  have a3 : ((6 * (s.v 19)) + (s.f 23 sd)).toInt = (6 * (s.v 19)).toInt + (s.f 23 sd).toInt := ti_add (by omega) (by omega)
  generalize hk : (6 * (s.v 19)) + (s.f 23 sd) = kk at a3
  generalize htk : s.v 11 = tk at ht
  -- behind the names
  have h78 : ∀ (y : RS), InvR y → FrR WB s y → Adv s y → WM s y → Ok (r_tellParty_78 y kk tk) (TPt s) := by
    intro y Iy Fy Ay My
    have y19 : y.v 19 = s.v 19 := Fy.1 19 (by decide)
    have y23 : y.f 23 = s.f 23 := (Fy.2 23 (by decide)).1
    unfold r_tellParty_78
    refine ok_bindI (ok_bounded y 9 Iy) (fun r2 s1 h1 => ?_)
    have I1 : InvR s1 := h1.1
    have F1 : FrR WB y s1 := h1.2.1
    have A1 : Adv y s1 := h1.2.2.1
    have M1 : WM y s1 := h1.2.2.2.1
    refine ok_grd (vpb_ok (by omega) (by omega)) ?_
    refine ok_let (fun s4 hs4 => ?_)
    have I4 : InvR s4 := by rw [← hs4]; exact I1.sfF (k := 24) rfl rfl
    have F4 : FrR [124] s1 s4 := by rw [← hs4]; exact FrR.rfl.sf (k := 24) (by decide)
    refine ok_bindI (ok_bounded s4 9 I4) (fun r7 s6 h6 => ?_)
    have I6 : InvR s6 := h6.1
    have F6 : FrR WB s4 s6 := h6.2.1
    have A6 : Adv s4 s6 := h6.2.2.1
    have M6 : WM s4 s6 := h6.2.2.2.1
    refine ok_grd (vpb_ok (by omega) (by omega)) ?_
    refine ok_let (fun s9 hs9 => ?_)
    have I9 : InvR s9 := by rw [← hs9]; exact I6.sfF (k := 25) rfl rfl
    have F9 : FrR [125] s6 s9 := by rw [← hs9]; exact FrR.rfl.sf (k := 25) (by decide)
    refine ok_bindP (ok_must s9 4 I9) (fun s11 h11 => ?_)
    obtain ⟨I11, F11, A11, _⟩ := h11
    have FA : FrR WP s s11 := ((((((FrR.rfl.trans (W := WP) Fy (by decide)).trans F1 (by decide)).trans F4 (by decide)).trans F6 (by decide)).trans F9 (by decide)).trans F11 (by decide))
    have AA : Adv s s11 := ((((Ay.trans A1).trans (Adv.fr F4 (by decide) (by decide))).trans A6).trans (Adv.fr F9 (by decide) (by decide))).trans A11
    have MA : WM s s11 := ((((My.trans M1).trans (WM.fr F4 (by decide))).trans M6).trans (WM.fr F9 (by decide))).trans (WM.fr F11 (by decide))
    have e19 : s11.v 19 = s.v 19 := FA.1 19 (by decide)
    have e23 : s11.f 23 = s.f 23 := by rw [(F11.2 23 (by decide)).1, (F9.2 23 (by decide)).1, (F6.2 23 (by decide)).1, (F4.2 23 (by decide)).1, (F1.2 23 (by decide)).1, y23]
    have ec11 : (s11.v 19).toNatClampNeg = sd := by rw [e19]; exact ec
    refine ok_ite (fun _ => ?_) (fun _ => ?_)
    · rw [ec11, e23]
      refine ok_grd (vpb_ok (by rw [e19]; omega) (by rw [e19]; omega)) ?_
      refine ok_grd (vpb_ok (by omega) (by omega)) ?_
      refine ok_grd (vpb_ok (by omega) (by omega)) ?_
      refine ok_let (fun s16 hs16 => ?_)
      have I16 : InvR s16 := by rw [← hs16]; exact I11.sg
      have F16 : FrR WP s s16 := by rw [← hs16]; exact FA.sg (k := 22) (by decide)
      have e1619 : s16.v 19 = s.v 19 := by rw [← hs16]; exact e19
      have e1623 : s16.f 23 = s.f 23 := by rw [← hs16]; exact e23
      have ec16 : (s16.v 19).toNatClampNeg = sd := by rw [e1619]; exact ec
      rw [ec16, e1623]
      refine ok_grd (vpb_ok (by rw [e1619]; omega) (by rw [e1619]; omega)) ?_
      refine ok_grd (vpb_ok (by rw [e1619]; omega) (by rw [e1619]; omega)) ?_
      refine ok_let (fun s20 hs20 => ?_)
      have a : ((s.f 23 sd) + 1).toInt = (s.f 23 sd).toInt + 1 := tn_add rfl (by decide) (by omega) (by omega)
      have A16 : Adv s11 s16 := by rw [← hs16]; exact ⟨Int.le_refl _, Int.le_refl _⟩
      have M16 : WM s11 s16 := by rw [← hs16]; exact fun q => q
      have A20 : Adv s16 s20 := by rw [← hs20]; exact ⟨Int.le_refl _, Int.le_refl _⟩
      have M20 : WM s16 s20 := by rw [← hs20]; exact fun q => q
      exact ok_some ⟨by rw [← hs20]; exact I16.sf (k := 23) (show (0 : Int) ≤ ((s.f 23 sd) + 1).toInt by omega) (show ((s.f 23 sd) + 1).toInt ≤ (6 : Int) by omega), by rw [← hs20]; exact F16.sf (k := 23) (by decide), (AA.trans A16).trans A20, (MA.trans M16).trans M20⟩
    · exact ok_some ⟨I11, FA, AA, MA⟩
  have h30 : ∀ (m : Nat) (y : RS) (x3 : Int32), (6 - x3.toInt).toNat < m → 0 ≤ x3.toInt → x3.toInt ≤ 6 → InvR y → FrR WB s y → Adv s y → WM s y → Ok (r_tellParty_30L m y kk tk x3) (TPt s) := by
    intro m
    induction m with
    | zero => intro y x3 h; omega
    | succ m ih =>
      intro y x3 hm h0 h6 Iy Fy Ay My
      have y19 : y.v 19 = s.v 19 := Fy.1 19 (by decide)
      have y23 : y.f 23 = s.f 23 := (Fy.2 23 (by decide)).1
      show Ok (r_tellParty_30 (r_tellParty_30L m) y kk tk x3) _
      unfold r_tellParty_30
      have ecy : (y.v 19).toNatClampNeg = sd := by rw [y19]; exact ec
      refine ok_grd (vpb_ok (by rw [y19]; omega) (by rw [y19]; omega)) ?_
      rw [ecy, y23]
      refine ok_ite (fun _ => h78 y Iy Fy Ay My) (fun c => ?_)
      have c := ti_nle c
      refine ok_ite (fun _ => ?_) (fun _ => h78 y Iy Fy Ay My)
      refine ok_grd (vpb_ok (by omega) (by omega)) ?_
      refine ok_grd (vpb_ok (by omega) (by omega)) ?_
      have b : (x3 + 1).toInt = x3.toInt + 1 := tn_add rfl (by decide) (by omega) (by omega)
      refine ok_ite (fun _ => ?_) (fun _ => ?_)
      · refine ok_bindP (ok_wrong y 3 tk Iy (by decide) (by decide) (by omega) (by omega)) (fun z hz => ?_)
        unfold r_tellParty_72
        exact ih z _ (by omega) (by omega) (by omega) hz.1 (Fy.trans hz.2.1 (by decide)) (Ay.trans (Adv.fr hz.2.1 (by decide) (by decide))) (My.trans hz.2.2.1)
      · unfold r_tellParty_72
        exact ih y _ (by omega) (by omega) (by omega) Iy Fy Ay My
  unfold r_tellParty
  refine ok_grd (vpb_ok (by omega) (by omega)) ?_
  rw [ec, hk, htk]
  refine ok_bindP (ok_must s 1 hI) (fun s2 h2 => ?_)
  have z0 : (0 : Int32).toInt = 0 := by decide
  exact h30 fu s2 0 (by unfold fu; omega) (by decide) (by decide) h2.1 (FrR.rfl.trans h2.2.1 (by decide)) h2.2.2.1 (WM.fr h2.2.1 (by decide))
end
section
/-! ===== one sentence, the whole text ===== -/
theorem mu_adv {s y : RS} (h : Adv s y) : mu y ≤ mu s := by
  have h1 := h.1
  have h2 := h.2
  unfold mu
  omega
theorem ok_roomFor (s : RS) (a b : Int32) (hI : InvR s) (hz : (s.v 13).toInt = 0) : Ok (r_roomFor s a b) (fun y => InvR y ∧ FrR [11, 13, 14] s y ∧ Adv s y ∧ mu y < mu s ∧ ((y.v 13).toInt = 0 → ¬ a = b)) := by
  have ht : 0 ≤ (s.v 11).toInt ∧ (s.v 11).toInt ≤ 400 := hI.1 11
  unfold r_roomFor
  refine ok_ite (fun c => ?_) (fun c => ?_)
  · refine ok_bindP (ok_fail s 2 hI (by decide) (by decide)) (fun y hy => ?_)
    obtain ⟨Iy, Fy, f1, f2⟩ := hy
    have fy : 0 ≤ (y.v 13).toInt ∧ (y.v 13).toInt ≤ 2 := Iy.1 13
    have e11 : y.v 11 = s.v 11 := Fy.1 11 (by decide)
    unfold r_roomFor_10
    refine ok_ite (fun c2 => ?_) (fun _ => ?_)
    · have := fz c2
      omega
    · exact ok_some ⟨Iy, FrR.rfl.trans Fy (by decide), ⟨by rw [e11]; exact Int.le_refl _, f2⟩, by unfold mu; rw [e11]; omega, fun q => by omega⟩
  · unfold r_roomFor_10
    refine ok_ite (fun _ => ?_) (fun c2 => absurd (fz' hz) c2)
    refine ok_bindP (ok_goesOn s hI) (fun y hy => ?_)
    obtain ⟨Iy, Fy, st⟩ := hy
    have fy : 0 ≤ (y.v 13).toInt ∧ (y.v 13).toInt ≤ 2 := Iy.1 13
    have ty : 0 ≤ (y.v 11).toInt ∧ (y.v 11).toInt ≤ 400 := Iy.1 11
    unfold Step at st
    exact ok_some ⟨Iy, Fy, ⟨by omega, by omega⟩, by unfold mu; omega, fun _ => c⟩
noncomputable abbrev WRD : List Nat := [11, 12, 13, 14, 15, 16, 29, 35, 39, 120, 121, 122, 123, 124, 125, 126, 127, 128, 130, 131, 132, 133, 134, 136, 137, 138]
noncomputable abbrev WFA : List Nat := [12, 19, 29, 35, 120, 121, 127, 128, 130, 131, 132, 133, 134, 136, 137]
noncomputable def OddsS (sd : Nat) (f20 f21 : Nat → Int32) : Prop := ∀ w : Nat, (w : Int) < (f20 sd).toInt → (∀ v : Nat, v < 6 → 0 ≤ (f21 (30 * sd + 6 * w + v)).toInt ∧ (f21 (30 * sd + 6 * w + v)).toInt ≤ 9) ∧ 0 < psum f21 (30 * sd + 6 * w) 6
noncomputable def LawS (sd c b : Nat) (s : RS) : Prop := ∀ k : Nat, k < 4 → s.f 27 (4 * sd + k) = s.f 28 (4 * sd + k) ∨ ∃ p q : Nat, (s.f 27 (4 * sd + k)).toInt = ((130 * sd + p : Nat) : Int) ∧ (s.f 28 (4 * sd + k)).toInt = ((130 * sd + q : Nat) : Int) ∧ q ≤ b ∧ BS sd s p q c
/-- the other side of the text stays -/
noncomputable def Far (sd : Nat) (s0 s : RS) : Prop := Out (420 * sd) (420 * sd + 402) s0 s ∧ OutB (130 * sd) (130 * sd + 103) s0 s ∧ (∀ j, (j < 4 * sd ∨ 4 * sd + 4 ≤ j) → s.f 27 j = s0.f 27 j ∧ s.f 28 j = s0.f 28 j) ∧ (∀ j, ¬ j = sd → s.f 20 j = s0.f 20 j) ∧ (∀ j, (j < 30 * sd ∨ 30 * sd + 30 ≤ j) → s.f 21 j = s0.f 21 j)
theorem Far.rfl {sd : Nat} {s : RS} : Far sd s s := ⟨Out.rfl, OutB.rfl, fun _ _ => ⟨Eq.refl _, Eq.refl _⟩, fun _ _ => Eq.refl _, fun _ _ => Eq.refl _⟩
theorem Far.trans {sd : Nat} {s y z : RS} (h : Far sd s y) (h2 : Far sd y z) : Far sd s z := ⟨h.1.trans h2.1 (Nat.le_refl _), h.2.1.trans h2.2.1 (Nat.le_refl _), fun j hj => ⟨(h2.2.2.1 j hj).1.trans (h.2.2.1 j hj).1, (h2.2.2.1 j hj).2.trans (h.2.2.1 j hj).2⟩, fun j hj => (h2.2.2.2.1 j hj).trans (h.2.2.2.1 j hj), fun j hj => (h2.2.2.2.2 j hj).trans (h.2.2.2.2 j hj)⟩
theorem Far.fr {sd : Nat} {s y : RS} {W : List Nat} (h : FrR W s y) (hW : ∀ k ∈ WFA, k ∉ W) : Far sd s y := by
  have e (k : Nat) (hk : 100 + k ∈ WFA) : y.f k = s.f k := (h.2 k (hW _ hk)).1
  exact ⟨Out.fr h (hW _ (by decide)) (hW _ (by decide)), OutB.fr h (hW _ (by decide)) (hW _ (by decide)) (hW _ (by decide)) (hW _ (by decide)) (hW _ (by decide)), fun j _ => ⟨by rw [e 27 (by decide)], by rw [e 28 (by decide)]⟩, fun j _ => by rw [e 20 (by decide)], fun j _ => by rw [e 21 (by decide)]⟩
theorem LawS.keep {sd c b c' b' : Nat} {s y : RS} (h : LawS sd c b s) (e1 : y.f 27 = s.f 27) (e2 : y.f 28 = s.f 28) (hO : Out (420 * sd + c) (420 * sd + 402) s y) (hB : OutB (130 * sd + b) (130 * sd + 103) s y) (hc : c ≤ c') (hb : b ≤ b') : LawS sd c' b' y := by
  intro k hk
  rw [e1, e2]
  rcases h k hk with e | ⟨p, q, h1, h2, h3, h4⟩
  · exact Or.inl e
  · exact Or.inr ⟨p, q, h1, h2, by omega, h4.keep hO (fun j hj => hB j (by omega)) hc⟩
/-- the reading, between two sentences -/
noncomputable def RD (s0 : RS) (sd c b : Nat) (s : RS) : Prop := LWS sd s c b ∧ b ≤ 102 ∧ FrR WRD s0 s ∧ Far sd s0 s ∧ ((s.v 13).toInt = 0 → (4 * b : Int) ≤ (s.v 11).toInt ∧ LawS sd c b s) ∧ ((s.v 13).toInt = 0 → (s.v 15).toInt = 0 → OddsS sd (s.f 20) (s.f 21))
theorem RD.fr {s0 s y : RS} {sd c b : Nat} {W : List Nat} (h : RD s0 sd c b s) (hI : InvR y) (hF : FrR W s y) (hA : Adv s y) (hM : WM s y) (hW : ∀ k ∈ W, k ∈ WRD) (hW2 : ∀ k ∈ WFA, k ∉ W) : RD s0 sd c b y := by
  obtain ⟨L, hb, F, R, Z, O⟩ := h
  have e (k : Nat) (hk : 100 + k ∈ WFA) : y.f k = s.f k := (hF.2 k (hW2 _ hk)).1
  have f0 : 0 ≤ (s.v 13).toInt ∧ (s.v 13).toInt ≤ 2 := L.1.1 13
  have a1 := hA.1
  have a2 := hA.2
  refine ⟨L.fr hI hF hA (hW2 19 (by decide)) (hW2 35 (by decide)) (hW2 29 (by decide)) (hW2 12 (by decide)), hb, F.trans hF hW, R.trans (Far.fr hF hW2), fun q => ?_, fun q1 q2 => ?_⟩
  · obtain ⟨z1, z2⟩ := Z (by omega)
    exact ⟨by omega, z2.keep (e 27 (by decide)) (e 28 (by decide)) (Out.fr hF (hW2 _ (by decide)) (hW2 _ (by decide))) (OutB.fr hF (hW2 _ (by decide)) (hW2 _ (by decide)) (hW2 _ (by decide)) (hW2 _ (by decide)) (hW2 _ (by decide))) (Nat.le_refl _) (Nat.le_refl _)⟩
  · rw [e 20 (by decide), e 21 (by decide)]
    exact O (by omega) (Decidable.byContradiction (fun h => hM h q2))
theorem RD.wave {s0 s y : RS} {sd c b w0 : Nat} (h : RD s0 sd c b s) (hz : (s.v 13).toInt = 0) (hw : w0 ≤ 4) (hw0 : (s.f 20 sd).toInt = (w0 : Int)) (T : TV sd w0 s y) : RD s0 sd c b y := by
  obtain ⟨L, hb, F, R, Z, O⟩ := h
  obtain ⟨Iy, Fy, Ay, My, ⟨z, e20, hz1⟩, hO, hn⟩ := T
  have a1 := Ay.1
  have oc : Out (420 * sd + c) (420 * sd + 402) s y := Out.fr Fy (by decide) (by decide)
  have ob : OutB (130 * sd + b) (130 * sd + 103) s y := OutB.fr Fy (by decide) (by decide) (by decide) (by decide) (by decide)
  refine ⟨L.fr Iy Fy Ay (by decide) (by decide) (by decide) (by decide), hb, F.trans Fy (by decide), R.trans ⟨Out.fr Fy (by decide) (by decide), OutB.fr Fy (by decide) (by decide) (by decide) (by decide) (by decide), fun j _ => ⟨by rw [(Fy.2 27 (by decide)).1], by rw [(Fy.2 28 (by decide)).1]⟩, fun j hj => by rw [e20, upd_ne hj], fun j hj => hO j (by omega)⟩, fun _ => ?_, fun q1 q2 => ?_⟩
  · obtain ⟨z1, z2⟩ := Z hz
    exact ⟨by omega, z2.keep (Fy.2 27 (by decide)).1 (Fy.2 28 (by decide)).1 oc ob (Nat.le_refl _) (Nat.le_refl _)⟩
  · intro w hwl
    rw [e20, upd_same, hz1] at hwl
    by_cases ew : w = w0
    · rw [ew]
      exact hn q1 q2
    · have old := O hz (Decidable.byContradiction (fun h => My h q2)) w (by omega)
      refine ⟨fun v hv => by rw [hO _ (Or.inl (by omega))]; exact old.1 v hv, ?_⟩
      rw [psum_congr (f := y.f 21) (g := s.f 21) 6 (fun j hj => hO _ (Or.inl (by omega)))]
      exact old.2
theorem RD.law {s0 s y : RS} {sd c b k : Nat} (h : RD s0 sd c b s) (hk : k < 4) (T : TL sd c b k s y) : ∃ c' b', RD s0 sd c' b' y := by
  obtain ⟨L, hb, F, R, Z, O⟩ := h
  obtain ⟨c', b', hc, hbb, hb2, L', F', Oc, Ob, A', hne, hq⟩ := T
  have f0 : 0 ≤ (s.v 13).toInt ∧ (s.v 13).toInt ≤ 2 := L.1.1 13
  have a2 := A'.2
  refine ⟨c', b', L', hb2, F.trans F' (by decide), R.trans ⟨fun j hj => Oc j (by omega), fun j hj => Ob j (by omega), fun j hj => ?_, fun j _ => by rw [(F'.2 20 (by decide)).1], fun j _ => by rw [(F'.2 21 (by decide)).1]⟩, fun q => ?_, fun q1 q2 => ?_⟩
  · by_cases q : (y.v 13).toInt = 0
    · obtain ⟨_, _, z1, z2, e1, e2, _, _⟩ := hq q
      rw [e1, e2, upd_ne (by omega), upd_ne (by omega)]
      exact ⟨rfl, rfl⟩
    · rw [(hne q).1, (hne q).2]
      exact ⟨rfl, rfl⟩
  · obtain ⟨h4, hBS, z1, z2, e1, e2, n1, n2⟩ := hq q
    refine ⟨h4, fun k' hk' => ?_⟩
    rw [e1, e2]
    by_cases ek : k' = k
    · rw [ek, upd_same, upd_same]
      exact Or.inr ⟨b, b', n1, n2, Nat.le_refl _, hBS⟩
    · rw [upd_ne (by omega), upd_ne (by omega)]
      rcases (Z (by omega)).2 k' hk' with e | ⟨p, q', h1, h2, h3, h4⟩
      · exact Or.inl e
      · exact Or.inr ⟨p, q', h1, h2, by omega, h4.keep Oc (fun j hj => Ob j (by omega)) hc⟩
  · rw [(F'.2 20 (by decide)).1, (F'.2 21 (by decide)).1]
    exact O (by omega) (by rw [← F'.1 15 (by decide)]; exact q2)
theorem ok_tellOne_165 (s0 : RS) (sd c b k : Nat) (s : RS) (x1 : Int32) (h : RD s0 sd c b s) (hz : (s.v 13).toInt = 0) (hk : k < 4) (hx1 : x1.toInt = (k : Int)) : Ok (r_tellOne_165 s x1) (fun y => (∃ c' b', RD s0 sd c' b' y) ∧ mu y < mu s) := by
  have hI : InvR s := h.1.1
  have ht : 0 ≤ (s.v 11).toInt ∧ (s.v 11).toInt ≤ 400 := hI.1 11
  have h4 := (h.2.2.2.2.1 hz).1
  unfold r_tellOne_165
  refine ok_ite (fun _ => ?_) (fun c => ?_)
  · refine ok_bindP (ok_goesOn s hI) (fun y hy => ?_)
    obtain ⟨Iy, Fy, st⟩ := hy
    have fy : 0 ≤ (y.v 13).toInt ∧ (y.v 13).toInt ≤ 2 := Iy.1 13
    have ty : 0 ≤ (y.v 11).toInt ∧ (y.v 11).toInt ≤ 400 := Iy.1 11
    unfold Step at st
    have Ay : Adv s y := ⟨by omega, by omega⟩
    have Ry : RD s0 sd c b y := h.fr Iy Fy Ay (WM.fr Fy (by decide)) (by decide) (by decide)
    have my : mu y < mu s := by unfold mu; omega
    refine ok_bindP (ok_tellLaw sd k y c b x1 hk hx1 Ry.1 (by omega) (fun q => by omega)) (fun z T => ?_)
    have Az : Adv y z := by
      obtain ⟨_, _, _, _, _, _, _, _, _, A, _, _⟩ := T
      exact A
    exact ok_some ⟨Ry.law hk T, Nat.lt_of_le_of_lt (mu_adv Az) my⟩
  · have c := tn_nle (b := 0) rfl (by decide) c
    omega
theorem ok_tellOne_160 (s0 : RS) (sd c b : Nat) (s : RS) (x1 : Int32) (h : RD s0 sd c b s) (hz : (s.v 13).toInt = 0) : Ok (r_tellOne_160 s x1) (fun y => (∃ c' b', RD s0 sd c' b' y) ∧ mu y < mu s) := by
  have hI : InvR s := h.1.1
  have ht : 0 ≤ (s.v 11).toInt ∧ (s.v 11).toInt ≤ 400 := hI.1 11
  unfold r_tellOne_160
  refine ok_bindP (ok_fail s 1 hI (by decide) (by decide)) (fun y hy => ?_)
  obtain ⟨Iy, Fy, f1, f2⟩ := hy
  have fy : 0 ≤ (y.v 13).toInt ∧ (y.v 13).toInt ≤ 2 := Iy.1 13
  have e11 : y.v 11 = s.v 11 := Fy.1 11 (by decide)
  have Ay : Adv s y := ⟨by rw [e11]; exact Int.le_refl _, f2⟩
  unfold r_tellOne_165
  refine ok_ite (fun c => ?_) (fun _ => ?_)
  · have c := tn_le (b := 0) rfl (by decide) c
    omega
  · exact ok_some ⟨⟨c, b, h.fr Iy Fy Ay (WM.fr Fy (by decide)) (by decide) (by decide)⟩, by unfold mu; rw [e11]; omega⟩
theorem ok_tellOne (s0 : RS) (sd c b : Nat) (s : RS) (h : RD s0 sd c b s) (hz : (s.v 13).toInt = 0) : Ok (r_tellOne s) (fun y => (∃ c' b', RD s0 sd c' b' y) ∧ mu y < mu s) := by
  have hI : InvR s := h.1.1
  have hsd : sd ≤ 1 := h.1.2.2.1
  have h19 : (s.v 19).toInt = (sd : Int) := h.1.2.1
  have ec : (s.v 19).toNatClampNeg = sd := clamp_of_int h19
  have ht : 0 ≤ (s.v 11).toInt ∧ (s.v 11).toInt ≤ 400 := hI.1 11
  have hkd : 0 ≤ (s.f 5 (s.v 11).toNatClampNeg).toInt ∧ (s.f 5 (s.v 11).toNatClampNeg).toInt ≤ 38 := hI.2 5 _
  unfold r_tellOne
  refine ok_grd (vpb_ok (by omega) (by omega)) ?_
  generalize s.f 5 (s.v 11).toNatClampNeg = kd at hkd ⊢
  refine ok_ite (fun _ => ?_) (fun _ => ?_)
  · refine ok_grd (vpb_ok (by omega) (by omega)) ?_
    rw [ec]
    have hr : 0 ≤ (s.f 20 sd).toInt ∧ (s.f 20 sd).toInt ≤ 5 := hI.2 20 _
    refine ok_bindP (ok_roomFor s (s.f 20 sd) 5 hI hz) (fun y hy => ?_)
    obtain ⟨Iy, Fy, Ay, my, hne⟩ := hy
    have Ry : RD s0 sd c b y := h.fr Iy Fy Ay (WM.fr Fy (by decide)) (by decide) (by decide)
    refine ok_ite (fun c2 => ?_) (fun _ => ok_some ⟨⟨c, b, Ry⟩, my⟩)
    have c2 := fz c2
    have n5 := tn_ne (b := 5) rfl (by decide) (hne c2)
    have e20 : y.f 20 = s.f 20 := (Fy.2 20 (by decide)).1
    have hw0 : (y.f 20 sd).toInt = (((s.f 20 sd).toInt.toNat : Nat) : Int) := by rw [e20]; omega
    refine ok_bindP (ok_tellWave sd _ y hsd (by omega) Ry.1.2.1 hw0 Iy) (fun z T => ?_)
    exact ok_some ⟨⟨c, b, Ry.wave c2 (by omega) hw0 T⟩, Nat.lt_of_le_of_lt (mu_adv T.2.2.1) my⟩
  refine ok_ite (fun _ => ?_) (fun _ => ?_)
  · refine ok_grd (vpb_ok (by omega) (by omega)) ?_
    rw [ec]
    have hr : 0 ≤ (s.f 23 sd).toInt ∧ (s.f 23 sd).toInt ≤ 6 := hI.2 23 _
    refine ok_bindP (ok_roomFor s (s.f 23 sd) 6 hI hz) (fun y hy => ?_)
    obtain ⟨Iy, Fy, Ay, my, hne⟩ := hy
    have Ry : RD s0 sd c b y := h.fr Iy Fy Ay (WM.fr Fy (by decide)) (by decide) (by decide)
    refine ok_ite (fun c2 => ?_) (fun _ => ok_some ⟨⟨c, b, Ry⟩, my⟩)
    have c2 := fz c2
    have n5 := tn_ne (b := 6) rfl (by decide) (hne c2)
    have e23 : y.f 23 = s.f 23 := (Fy.2 23 (by decide)).1
    have hp0 : (y.f 23 sd).toInt = (((s.f 23 sd).toInt.toNat : Nat) : Int) := by rw [e23]; omega
    refine ok_bindP (ok_tellParty sd _ y hsd (by omega) Ry.1.2.1 hp0 Iy) (fun z T => ?_)
    exact ok_some ⟨⟨c, b, Ry.fr T.1 T.2.1 T.2.2.1 T.2.2.2 (by decide) (by decide)⟩, Nat.lt_of_le_of_lt (mu_adv T.2.2.1) my⟩
  refine ok_ite (fun _ => ?_) (fun _ => ?_)
  · refine ok_bindP (ok_goesOn s hI) (fun y hy => ?_)
    obtain ⟨Iy, Fy, st⟩ := hy
    have fy : 0 ≤ (y.v 13).toInt ∧ (y.v 13).toInt ≤ 2 := Iy.1 13
    have ty : 0 ≤ (y.v 11).toInt ∧ (y.v 11).toInt ≤ 400 := Iy.1 11
    unfold Step at st
    have Ay : Adv s y := ⟨by omega, by omega⟩
    have my : mu y < mu s := by unfold mu; omega
    have Ry : RD s0 sd c b y := h.fr Iy Fy Ay (WM.fr Fy (by decide)) (by decide) (by decide)
    have e19 : y.v 19 = s.v 19 := Fy.1 19 (by decide)
    refine ok_bindI (ok_bounded y 9999 Iy) (fun r z hz => ?_)
    have I1 : InvR z := hz.1
    have F1 : FrR WB y z := hz.2.1
    have A1 : Adv y z := hz.2.2.1
    have M1 : WM y z := hz.2.2.2.1
    have Rz : RD s0 sd c b z := Ry.fr I1 F1 A1 M1 (by decide) (by decide)
    refine ok_grd (vpb_ok (by rw [e19]; omega) (by rw [e19]; omega)) ?_
    refine ok_let (fun u hu => ?_)
    have Iu : InvR u := by rw [← hu]; exact I1.sfF (k := 26) rfl rfl
    have Fu : FrR [126] z u := by rw [← hu]; exact FrR.rfl.sf (k := 26) (by decide)
    have Au : Adv z u := Adv.fr Fu (by decide) (by decide)
    have Ru : RD s0 sd c b u := Rz.fr Iu Fu Au (WM.fr Fu (by decide)) (by decide) (by decide)
    refine ok_bindP (ok_must u 4 Iu) (fun t ht => ?_)
    obtain ⟨It, Ft, At, _⟩ := ht
    exact ok_some ⟨⟨c, b, Ru.fr It Ft At (WM.fr Ft (by decide)) (by decide) (by decide)⟩, Nat.lt_of_le_of_lt (mu_adv ((A1.trans Au).trans At)) my⟩
  refine ok_grd (vpb_ok (by omega) (by omega)) ?_
  have a : (kd - 22).toInt = kd.toInt - 22 := tn_sub rfl (by decide) (by omega) (by omega)
  refine ok_ite (fun _ => ok_tellOne_160 s0 sd c b s _ h hz) (fun c1 => ?_)
  have c1 := tn_nlt (b := 0) rfl (by decide) c1
  refine ok_grd (vpb_ok (by omega) (by omega)) ?_
  refine ok_ite (fun c2 => ?_) (fun _ => ok_tellOne_160 s0 sd c b s _ h hz)
  have c2 := tn_le (b := 25) rfl (by decide) c2
  exact ok_tellOne_165 s0 sd c b ((kd - 22).toInt.toNat) s _ h hz (by omega) (by omega)
end
section
/-! ===== the whole text: the side that lives stays as it should be ===== -/
theorem Seg.far {sd l : Nat} {s0 s : RS} {a b : Int32} (hl : l + sd = 1) (hO : Out (420 * sd) (420 * sd + 402) s0 s) (h : Seg (420 * l) (420 * l + 402) (s0.f 36) (s0.f 37) a b) : Seg (420 * l) (420 * l + 402) (s.f 36) (s.f 37) a b := by
  obtain ⟨p, n, h1, h2, h3, h4, h5, d, h6⟩ := h
  refine ⟨p, n, h1, h2, h3, h4, h5, d, ?_⟩
  rw [← h6]
  exact dep_congr n p 0 (fun j q1 q2 => hO j (by omega))
theorem Big.far {sd : Nat} {s0 s : RS} {W : List Nat} (hB : Big s0) (hI0 : InvR s0) (hl : (s0.v 18).toInt + (sd : Int) = 1) (hsd : sd ≤ 1) (F : FrR W s0 s) (h18 : 18 ∉ W) (h46 : 146 ∉ W) (R : Far sd s0 s) : Big s := by
  obtain ⟨hO, hOB, h27, h20, h21⟩ := R
  obtain ⟨B1, B2, B3⟩ := hB
  have ec : (s0.v 18).toNatClampNeg = 1 - sd := clamp_of_int (by omega)
  unfold OddsOK at B2
  unfold LawOK at B3
  unfold Big OddsOK LawOK
  rw [F.1 18 h18, (F.2 46 h46).1]
  rw [ec] at B2 B3 ⊢
  refine ⟨B1, fun w hw => ?_, fun k hk => ?_⟩
  · rw [h20 (1 - sd) (by omega)] at hw
    have h5 : 0 ≤ (s0.f 20 (1 - sd)).toInt ∧ (s0.f 20 (1 - sd)).toInt ≤ 5 := hI0.2 20 _
    have old := B2 w hw
    refine ⟨fun v hv => by rw [h21 _ (by omega)]; exact old.1 v hv, ?_⟩
    rw [psum_congr (f := s.f 21) (g := s0.f 21) 6 (fun j hj => h21 _ (by omega))]
    exact old.2
  · have e := h27 (4 * (1 - sd) + k) (by omega)
    rw [e.1, e.2]
    rcases B3 k hk with q | ⟨q1, q2, q3⟩
    · exact Or.inl q
    · refine Or.inr ⟨q1, q2, fun b hb1 hb2 => ?_⟩
      have old := q3 b hb1 hb2
      obtain ⟨e0, e1, e2, e3, e4⟩ := hOB b (by omega)
      have hl1 : (1 - sd) + sd = 1 := by omega
      unfold BrOK at old ⊢
      rw [e0, e1, e2, e3, e4]
      exact ⟨fun q => ⟨(old.1 q).1.far hl1 hO, (old.1 q).2.far hl1 hO⟩, old.2.far hl1 hO⟩
theorem big_new {s0 s y : RS} {sd c b : Nat} {W : List Nat} (h : RD s0 sd c b s) (hz : (s.v 13).toInt = 0) (hw : (s.v 15).toInt = 0) (F : FrR W s y) (hW : ∀ k ∈ [120, 121, 127, 128, 130, 131, 132, 133, 134, 136, 137], k ∉ W) (h18 : y.v 18 = s.v 19) (hS : Six (y.f 46)) : Big y := by
  obtain ⟨L, hb, _, _, Z, O⟩ := h
  have e (k : Nat) (hk : 100 + k ∈ [120, 121, 127, 128, 130, 131, 132, 133, 134, 136, 137]) : y.f k = s.f k := (F.2 k (hW _ hk)).1
  have ec : (s.v 19).toNatClampNeg = sd := clamp_of_int L.2.1
  have ht : 0 ≤ (s.v 11).toInt ∧ (s.v 11).toInt ≤ 400 := L.1.1 11
  have hc := L.2.2.2.2.2.2.2.2.1
  unfold Big OddsOK LawOK
  rw [h18, ec, e 20 (by decide), e 21 (by decide), e 27 (by decide), e 28 (by decide), e 30 (by decide), e 31 (by decide), e 32 (by decide), e 33 (by decide), e 34 (by decide), e 36 (by decide), e 37 (by decide)]
  refine ⟨hS, O hz hw, fun k hk => ?_⟩
  rcases (Z hz).2 k hk with q | ⟨p, q, h1, h2, h3, h4⟩
  · exact Or.inl q
  · refine Or.inr ⟨by omega, by omega, fun j hj1 hj2 => ?_⟩
    have old := h4 j (by omega) (by omega)
    unfold BrOK at old ⊢
    exact ⟨fun q => ⟨(old.1 q).1.wide (by omega), (old.1 q).2.wide (by omega)⟩, old.2.wide (by omega)⟩
theorem ok_plain (sd : Nat) (s : RS) (x1 : Int32) (hsd : sd ≤ 1) (hx : x1.toInt = (sd : Int)) (hI : InvR s) : Ok (r_plain s x1) (fun y => InvR y ∧ FrR [120, 123, 126, 127, 128] s y ∧ Far sd s y ∧ (y.f 20 sd).toInt = 0 ∧ (∀ k, k < 4 → y.f 27 (4 * sd + k) = y.f 28 (4 * sd + k))) := by
  have ec : x1.toNatClampNeg = sd := clamp_of_int hx
  have loop : ∀ (m n : Nat) (t : RS) (x2 : Int32), 4 - n < m → n ≤ 4 → x2.toInt = (n : Int) → InvR t → FrR [120, 123, 126, 127, 128] s t → (∀ j, ¬ j = sd → t.f 20 j = s.f 20 j) → (t.f 20 sd).toInt = 0 → (∀ j, (j < 4 * sd ∨ 4 * sd + 4 ≤ j) → t.f 27 j = s.f 27 j ∧ t.f 28 j = s.f 28 j) → (∀ k, k < n → t.f 27 (4 * sd + k) = t.f 28 (4 * sd + k)) → Ok (r_plain_23L m t x1 x2) (fun y => InvR y ∧ FrR [120, 123, 126, 127, 128] s y ∧ Far sd s y ∧ (y.f 20 sd).toInt = 0 ∧ (∀ k, k < 4 → y.f 27 (4 * sd + k) = y.f 28 (4 * sd + k))) := by
    intro m
    induction m with
    | zero => intro n t x2 h; omega
    | succ m ih =>
      intro n t x2 hm hn h2 It Ft g1 g2 g3 g4
      show Ok (r_plain_23 (r_plain_23L m) t x1 x2) _
      unfold r_plain_23
      refine ok_ite (fun c => ?_) (fun c => ?_)
      · have c := tn_le (a := 4) (by decide) rfl c
        obtain rfl : n = 4 := by omega
        exact ok_some ⟨It, Ft, ⟨Out.fr Ft (by decide) (by decide), OutB.fr Ft (by decide) (by decide) (by decide) (by decide) (by decide), g3, g1, fun j _ => by rw [(Ft.2 21 (by decide)).1]⟩, g2, g4⟩
      · have c := tn_nle (a := 4) (by decide) rfl c
        have a1 : (4 * x1).toInt = x1.toInt * 4 := ti_cmul (c := 4) (by decide) (by omega) (by omega)
        have a2 : ((4 * x1) + x2).toInt = (4 * x1).toInt + x2.toInt := ti_add (by omega) (by omega)
        have a3 : (x2 + 1).toInt = x2.toInt + 1 := tn_add rfl (by decide) (by omega) (by omega)
        have ei : ((4 * x1) + x2).toNatClampNeg = 4 * sd + n := clamp_of_int (by omega)
        refine ok_grd (vpb_ok (by omega) (by omega)) ?_
        rw [ei]
        refine ok_let (fun s3 hs3 => ?_)
        refine ok_grd (vpb_ok (by omega) (by omega)) ?_
        refine ok_let (fun s6 hs6 => ?_)
        have I3 : InvR s3 := by rw [← hs3]; exact It.sfF (k := 27) rfl rfl
        have F3 : FrR [120, 123, 126, 127, 128] s s3 := by rw [← hs3]; exact Ft.sf (k := 27) (by decide)
        have e20 : s6.f 20 = t.f 20 := by rw [← hs6, ← hs3]; rfl
        have e27 : s6.f 27 = upd (t.f 27) (4 * sd + n) 0 := by rw [← hs6, ← hs3]; rfl
        have e28 : s6.f 28 = upd (t.f 28) (4 * sd + n) 0 := by rw [← hs6, ← hs3]; rfl
        refine ih (n + 1) s6 _ (by omega) (by omega) (by omega) (by rw [← hs6]; exact I3.sfF (k := 28) rfl rfl) (by rw [← hs6]; exact F3.sf (k := 28) (by decide)) (by rw [e20]; exact g1) (by rw [e20]; exact g2) (fun j hj => ?_) (fun k hk => ?_)
        · rw [e27, e28, upd_ne (by omega), upd_ne (by omega)]
          exact g3 j hj
        · rw [e27, e28]
          by_cases q : k = n
          · rw [q, upd_same, upd_same]
          · rw [upd_ne (by omega), upd_ne (by omega)]
            exact g4 k (by omega)
  unfold r_plain
  refine ok_grd (vpb_ok (by omega) (by omega)) ?_
  rw [ec]
  refine ok_let (fun s2 hs2 => ?_)
  have I2 : InvR s2 := by rw [← hs2]; exact hI.sf (k := 20) (show (0 : Int) ≤ (0 : Int32).toInt by decide) (show (0 : Int32).toInt ≤ (5 : Int) by decide)
  have F2 : FrR [120, 123, 126, 127, 128] s s2 := by rw [← hs2]; exact FrR.rfl.sf (k := 20) (by decide)
  refine ok_grd (vpb_ok (by omega) (by omega)) ?_
  refine ok_let (fun s5 hs5 => ?_)
  have I5 : InvR s5 := by rw [← hs5]; exact I2.sf (k := 23) (show (0 : Int) ≤ (0 : Int32).toInt by decide) (show (0 : Int32).toInt ≤ (6 : Int) by decide)
  have F5 : FrR [120, 123, 126, 127, 128] s s5 := by rw [← hs5]; exact F2.sf (k := 23) (by decide)
  refine ok_grd (vpb_ok (by omega) (by omega)) ?_
  refine ok_let (fun s8 hs8 => ?_)
  have e20 : s8.f 20 = upd (s.f 20) sd 0 := by rw [← hs8, ← hs5, ← hs2]; rfl
  have e27 : s8.f 27 = s.f 27 := by rw [← hs8, ← hs5, ← hs2]; rfl
  have e28 : s8.f 28 = s.f 28 := by rw [← hs8, ← hs5, ← hs2]; rfl
  exact loop fu 0 s8 0 (by unfold fu; omega) (by omega) (by decide) (by rw [← hs8]; exact I5.sfF (k := 26) rfl rfl) (by rw [← hs8]; exact F5.sf (k := 26) (by decide)) (fun j hj => by rw [e20, upd_ne hj]) (by rw [e20, upd_same]; decide) (fun j _ => by rw [e27, e28]; exact ⟨rfl, rfl⟩) (fun k hk => by omega)
noncomputable def px : Nat → Int
  | 0 => 1
  | n + 1 => 6 * px n
theorem px_le (j : Nat) (h : j ≤ 5) : 1 ≤ px j ∧ px j ≤ 7776 := by
  rcases (by omega : j = 0 ∨ j = 1 ∨ j = 2 ∨ j = 3 ∨ j = 4 ∨ j = 5) with e | e | e | e | e | e <;> subst e <;> decide
theorem ok_begins (s : RS) (hI : InvR s) : Ok (r_begins s) (fun y => InvR y ∧ FrR [45, 144, 146] s y ∧ Six (y.f 46)) := by
  have h46 : ∀ (m n : Nat) (t : RS) (x1 : Int32), 6 - n < m → 1 ≤ n → n ≤ 6 → x1.toInt = (n : Int) → InvR t → FrR [45, 144, 146] s t → (∀ j, j < n → (t.f 46 j).toInt = px j) → Ok (r_begins_46L m t x1) (fun y => InvR y ∧ FrR [45, 144, 146] s y ∧ Six (y.f 46)) := by
    intro m
    induction m with
    | zero => intro n t x1 h; omega
    | succ m ih =>
      intro n t x1 hm h1 h6 hx It Ft hp
      show Ok (r_begins_46 (r_begins_46L m) t x1) _
      unfold r_begins_46
      have h18 : 0 ≤ (t.v 18).toInt ∧ (t.v 18).toInt ≤ 1 := It.1 18
      refine ok_ite (fun c => ?_) (fun c => ?_)
      · have c := tn_le (a := 6) (by decide) rfl c
        refine ok_grd (vpb_ok (by omega) (by omega)) ?_
        refine ok_let (fun s3 hs3 => ?_)
        have e : s3.f 46 = t.f 46 := by rw [← hs3]; rfl
        refine ok_some ⟨by rw [← hs3]; exact It.svF (k := 45) rfl rfl, by rw [← hs3]; exact Ft.sv (k := 45) (by decide), fun j hj => ?_⟩
        rw [e, hp j (by omega)]
        exact px_le j (by omega)
      · have c := tn_nle (a := 6) (by decide) rfl c
        obtain ⟨n', rfl⟩ : ∃ n', n = n' + 1 := ⟨n - 1, by omega⟩
        have a1 : (x1 - 1).toInt = x1.toInt - 1 := tn_sub rfl (by decide) (by omega) (by omega)
        have a2 : (x1 + 1).toInt = x1.toInt + 1 := tn_add rfl (by decide) (by omega) (by omega)
        have e1 : (x1 - 1).toNatClampNeg = n' := clamp_of_int (by omega)
        have e2 : x1.toNatClampNeg = n' + 1 := clamp_of_int hx
        refine ok_grd (vpb_ok (by omega) (by omega)) ?_
        refine ok_grd (vpb_ok (by omega) (by omega)) ?_
        rw [e1, e2]
        refine ok_let (fun s7 hs7 => ?_)
        have p1 := hp n' (by omega)
        have p2 := px_le n' (by omega)
        have a3 : (6 * (t.f 46 n')).toInt = (t.f 46 n').toInt * 6 := ti_cmul (c := 6) (by decide) (by omega) (by omega)
        have p3 : px (n' + 1) = 6 * px n' := rfl
        have e46 : s7.f 46 = upd (t.f 46) (n' + 1) (6 * (t.f 46 n')) := by rw [← hs7]; rfl
        refine ih (n' + 1 + 1) s7 _ (by omega) (by omega) (by omega) (by omega) (by rw [← hs7]; exact It.sfF (k := 46) rfl rfl) (by rw [← hs7]; exact Ft.sf (k := 46) (by decide)) (fun j hj => ?_)
        rw [e46]
        by_cases q : j = n' + 1
        · rw [q, upd_same]
          omega
        · rw [upd_ne q]
          exact hp j (by omega)
  have h2 : ∀ (m : Nat) (t : RS) (x1 : Int32), (29 - x1.toInt).toNat < m → 0 ≤ x1.toInt → x1.toInt ≤ 29 → InvR t → FrR [45, 144, 146] s t → Ok (r_begins_2L m t x1) (fun y => InvR y ∧ FrR [45, 144, 146] s y ∧ Six (y.f 46)) := by
    intro m
    induction m with
    | zero => intro t x1 h; omega
    | succ m ih =>
      intro t x1 hm h0 h29 It Ft
      show Ok (r_begins_2 (r_begins_2L m) t x1) _
      unfold r_begins_2
      refine ok_ite (fun c => ?_) (fun c => ?_)
      · refine ok_let (fun u hu => ?_)
        have e46 : u.f 46 = upd (t.f 46) 0 1 := by rw [← hu]; rfl
        refine h46 fu 1 u 1 (by unfold fu; omega) (by omega) (by omega) (by decide) (by rw [← hu]; exact It.sfF (k := 46) rfl rfl) (by rw [← hu]; exact Ft.sf (k := 46) (by decide)) (fun j hj => ?_)
        obtain rfl : j = 0 := by omega
        rw [e46, upd_same]
        decide
      · have c := tn_nle (a := 29) (by decide) rfl c
        have a : (x1 + 1).toInt = x1.toInt + 1 := tn_add rfl (by decide) (by omega) (by omega)
        have st : ∀ z, Ok (r_begins_30 (r_begins_2L m) t x1 z x1) (fun y => InvR y ∧ FrR [45, 144, 146] s y ∧ Six (y.f 46)) := by
          intro z
          unfold r_begins_30
          refine ok_grd (vpb_ok (by omega) (by omega)) ?_
          refine ok_let (fun u hu => ?_)
          exact ih u _ (by omega) (by omega) (by omega) (by rw [← hu]; exact It.sfF (k := 44) rfl rfl) (by rw [← hu]; exact Ft.sf (k := 44) (by decide))
        unfold r_begins_29
        exact ok_ite (fun _ => st _) (fun _ => ok_ite (fun _ => st _) (fun _ => st _))
  unfold r_begins
  have z0 : (0 : Int32).toInt = 0 := by decide
  exact h2 fu s 0 (by unfold fu; omega) (by decide) (by decide) hI FrR.rfl
/-- what reading leaves -/
noncomputable def RQ (s0 : RS) (y : Int32 × RS) : Prop := InvR y.2 ∧ Big y.2 ∧ y.2.v 2 = s0.v 2
theorem ok_read_214 (s0 : RS) : ∀ (m : Nat) (t : RS) (x1 : Int32), (3 - x1.toInt).toNat < m → 0 ≤ x1.toInt → x1.toInt ≤ 3 → InvR t → Big t → t.v 2 = s0.v 2 → Ok (r_read_214L m t x1) (RQ s0) := by
  intro m
  induction m with
  | zero => intro t x1 h; omega
  | succ m ih =>
    intro t x1 hm h0 h3 It Bt e2
    show Ok (r_read_214 (r_read_214L m) t x1) _
    unfold r_read_214
    refine ok_ite (fun c => ?_) (fun c => ?_)
    · exact ok_some ⟨It, Bt, e2⟩
    · have c := tn_nle (a := 3) (by decide) rfl c
      have a : (x1 + 1).toInt = x1.toInt + 1 := tn_add rfl (by decide) (by omega) (by omega)
      refine ok_grd (vpb_ok (by omega) (by omega)) ?_
      refine ok_let (fun u hu => ?_)
      have Fu : FrR [156] t u := by rw [← hu]; exact FrR.rfl.sf (k := 56) (by decide)
      exact ih u _ (by omega) (by omega) (by omega) (by rw [← hu]; exact It.sfF (k := 56) rfl rfl) (Bt.fr Fu (by decide)) (by rw [Fu.1 2 (by decide)]; exact e2)
theorem ok_read_159 (s0 : RS) (sd c b : Nat) (s : RS) (t0 : Int32) (h : RD s0 sd c b s) (hB : Big s0) (hI0 : InvR s0) (hl : (s0.v 18).toInt + (sd : Int) = 1) : Ok (r_read_159 s t0) (RQ s0) := by
  have hI : InvR s := h.1.1
  have hsd : sd ≤ 1 := h.1.2.2.1
  have h19 : (s.v 19).toInt = (sd : Int) := h.1.2.1
  have f0 : 0 ≤ (s.v 13).toInt ∧ (s.v 13).toInt ≤ 2 := hI.1 13
  have w0 : 0 ≤ (s.v 15).toInt ∧ (s.v 15).toInt ≤ 5 := hI.1 15
  have F0 : FrR WRD s0 s := h.2.2.1
  unfold r_read_159
  refine ok_let (fun s1 hs1 => ?_)
  have I1 : InvR s1 := by rw [← hs1]; exact hI.svF (k := 17) rfl rfl
  have F1 : FrR [17] s s1 := by rw [← hs1]; exact FrR.rfl.sv (k := 17) (by decide)
  have B1 : Big s1 := (hB.far hI0 hl hsd F0 (by decide) (by decide) h.2.2.2.1).fr F1 (by decide)
  have e2 : s1.v 2 = s0.v 2 := (F1.1 2 (by decide)).trans (F0.1 2 (by decide))
  have e13 : s1.v 13 = s.v 13 := F1.1 13 (by decide)
  have e15 : s1.v 15 = s.v 15 := F1.1 15 (by decide)
  have e19 : s1.v 19 = s.v 19 := F1.1 19 (by decide)
  refine ok_ite (fun c1 => ?_) (fun _ => ok_some ⟨I1, B1, e2⟩)
  refine ok_ite (fun c2 => ?_) (fun _ => ok_some ⟨I1, B1, e2⟩)
  have c1 := tn_le (b := 0) rfl (by decide) c1
  have c2 := tn_le (b := 0) rfl (by decide) c2
  rw [e13] at c1
  rw [e15] at c2
  refine ok_let (fun s5 hs5 => ?_)
  have I5 : InvR s5 := by rw [← hs5]; exact I1.sv (k := 18) (show (0 : Int) ≤ (s1.v 19).toInt by rw [e19]; omega) (show (s1.v 19).toInt ≤ (1 : Int) by rw [e19]; omega)
  have F5 : FrR [18] s1 s5 := by rw [← hs5]; exact FrR.rfl.sv (k := 18) (by decide)
  have e18 : s5.v 18 = s.v 19 := by rw [← hs5, ← e19]; rfl
  refine ok_bindP (ok_begins s5 I5) (fun s7 h7 => ?_)
  obtain ⟨I7, F7, S7⟩ := h7
  refine ok_bindP (ok_r_keepsRow s7 I7) (fun s8 h8 => ?_)
  obtain ⟨I8, F8⟩ := h8
  refine ok_let (fun s9 hs9 => ?_)
  have I9 : InvR s9 := by rw [← hs9]; exact I8.sv (k := 48) (show (0 : Int) ≤ (0 : Int32).toInt by decide) (show (0 : Int32).toInt ≤ (40 : Int) by decide)
  have F9 : FrR [48] s8 s9 := by rw [← hs9]; exact FrR.rfl.sv (k := 48) (by decide)
  refine ok_let (fun s11 hs11 => ?_)
  have I11 : InvR s11 := by rw [← hs11]; exact I9.sv (k := 51) (show (0 : Int) ≤ (0 : Int32).toInt by decide) (show (0 : Int32).toInt ≤ (20 : Int) by decide)
  have F11 : FrR [51] s9 s11 := by rw [← hs11]; exact FrR.rfl.sv (k := 51) (by decide)
  have FA : FrR [17, 18, 45, 48, 51, 143, 144, 146] s s11 := (((((FrR.rfl.trans F1 (by decide)).trans F5 (by decide)).trans F7 (by decide)).trans F8 (by decide)).trans F9 (by decide)).trans F11 (by decide)
  have eA : s11.v 18 = s.v 19 := by rw [F11.1 18 (by decide), F9.1 18 (by decide), F8.1 18 (by decide), F7.1 18 (by decide), e18]
  have S11 : Six (s11.f 46) := by rw [(F11.2 46 (by decide)).1, (F9.2 46 (by decide)).1, (F8.2 46 (by decide)).1]; exact S7
  have z0 : (0 : Int32).toInt = 0 := by decide
  exact ok_read_214 s0 fu s11 0 (by unfold fu; omega) (by decide) (by decide) I11 (big_new h (by omega) (by omega) FA (by decide) eA S11) ((FA.1 2 (by decide)).trans (F0.1 2 (by decide)))
theorem ok_read_107 (s0 : RS) (sd : Nat) (hB : Big s0) (hI0 : InvR s0) (hl : (s0.v 18).toInt + (sd : Int) = 1) : ∀ (m c b : Nat) (s : RS), mu s < m → RD s0 sd c b s → Ok (r_read_107L m s) (RQ s0) := by
  intro m
  induction m with
  | zero => intro c b s h; omega
  | succ m ih =>
    intro c b s hm h
    have fin : Ok (r_read_129 s) (RQ s0) := by
      unfold r_read_129
      exact ok_ite (fun _ => ok_ite (fun _ => ok_read_159 s0 sd c b s _ h hB hI0 hl) (fun _ => ok_read_159 s0 sd c b s _ h hB hI0 hl)) (fun _ => ok_read_159 s0 sd c b s _ h hB hI0 hl)
    show Ok (r_read_107 (r_read_107L m) s) _
    unfold r_read_107
    refine ok_ite (fun c1 => ?_) (fun _ => fin)
    refine ok_is h.1.1 (fun _ _ => ?_) (fun _ => ?_)
    · show Ok (if (1 : Int32) = 0 then _ else _) _
      rw [if_neg z_one]
      exact fin
    · show Ok (if (0 : Int32) = 0 then _ else _) _
      rw [if_pos rfl]
      refine ok_bindP (ok_tellOne s0 sd c b s h (fz c1)) (fun y hy => ?_)
      obtain ⟨⟨c', b', R⟩, my⟩ := hy
      exact ih c' b' y (by omega) R
theorem ok_read_10 (s00 : RS) : ∀ (m : Nat) (s : RS) (x1 : Int32), (2000 - x1.toInt).toNat < m → 0 ≤ x1.toInt → x1.toInt ≤ 2000 → InvR s → Big s → Ok (r_read_10L m s x1) (fun y => InvR y.2 ∧ Big y.2 ∧ y.2.v 2 = 0) := by
  intro m
  induction m with
  | zero => intro s x1 h; omega
  | succ m ih =>
    intro s x1 hm h0 h2 hI hB
    have h4 : 0 ≤ (s.v 4).toInt ∧ (s.v 4).toInt ≤ 2000 := hI.1 4
    show Ok (r_read_10 (r_read_10L m) s x1) _
    unfold r_read_10
    refine ok_ite (fun c => ?_) (fun c => ?_)
    · refine ok_let (fun s2 hs2 => ?_)
      have I2 : InvR s2 := by rw [← hs2]; exact hI.sv (k := 2) (show (0 : Int) ≤ (0 : Int32).toInt by decide) (show (0 : Int32).toInt ≤ (2000 : Int) by decide)
      have F2 : FrR [2] s s2 := by rw [← hs2]; exact FrR.rfl.sv (k := 2) (by decide)
      have z2 : s2.v 2 = 0 := by rw [← hs2]; rfl
      refine ok_bindP (ok_cut s2 I2) (fun s4 h4' => ?_)
      obtain ⟨I4, F4⟩ := h4'
      refine ok_let (fun s5 hs5 => ?_)
      have I5 : InvR s5 := by rw [← hs5]; exact I4.sv (k := 11) (show (0 : Int) ≤ (0 : Int32).toInt by decide) (show (0 : Int32).toInt ≤ (400 : Int) by decide)
      have F5 : FrR [11, 12, 13, 15, 19] s4 s5 := by rw [← hs5]; exact FrR.rfl.sv (k := 11) (by decide)
      refine ok_let (fun s7 hs7 => ?_)
      have I7 : InvR s7 := by rw [← hs7]; exact I5.svF (k := 12) rfl rfl
      have F7 : FrR [11, 12, 13, 15, 19] s4 s7 := by rw [← hs7]; exact F5.sv (k := 12) (by decide)
      refine ok_let (fun s9 hs9 => ?_)
      have I9 : InvR s9 := by rw [← hs9]; exact I7.sv (k := 13) (show (0 : Int) ≤ (0 : Int32).toInt by decide) (show (0 : Int32).toInt ≤ (2 : Int) by decide)
      have F9 : FrR [11, 12, 13, 15, 19] s4 s9 := by rw [← hs9]; exact F7.sv (k := 13) (by decide)
      refine ok_let (fun s11 hs11 => ?_)
      have I11 : InvR s11 := by rw [← hs11]; exact I9.sv (k := 15) (show (0 : Int) ≤ (0 : Int32).toInt by decide) (show (0 : Int32).toInt ≤ (5 : Int) by decide)
      have F11 : FrR [11, 12, 13, 15, 19] s4 s11 := by rw [← hs11]; exact F9.sv (k := 15) (by decide)
      have h18 : 0 ≤ (s11.v 18).toInt ∧ (s11.v 18).toInt ≤ 1 := I11.1 18
      have a : (1 - (s11.v 18)).toInt = 1 - (s11.v 18).toInt := tn_sub (by decide) rfl (by omega) (by omega)
      refine ok_let (fun s13 hs13 => ?_)
      have I13 : InvR s13 := by rw [← hs13]; exact I11.sv (k := 19) (show (0 : Int) ≤ (1 - (s11.v 18)).toInt by omega) (show (1 - (s11.v 18)).toInt ≤ (1 : Int) by omega)
      have F13 : FrR [11, 12, 13, 15, 19] s4 s13 := by rw [← hs13]; exact F11.sv (k := 19) (by decide)
      have e19 : s13.v 19 = 1 - (s11.v 18) := by rw [← hs13]; rfl
      have e18 : s13.v 18 = s11.v 18 := by rw [← hs13]; rfl
      have e11 : s13.v 11 = 0 := by rw [← hs13, ← hs11, ← hs9, ← hs7, ← hs5]; rfl
      have e12 : s13.v 12 = 0 := by rw [← hs13, ← hs11, ← hs9, ← hs7]; rfl
      have e13 : s13.v 13 = 0 := by rw [← hs13, ← hs11, ← hs9]; rfl
      have B13 : Big s13 := ((hB.fr F2 (by decide)).fr F4 (by decide)).fr F13 (by decide)
      have z13 : s13.v 2 = 0 := by rw [F13.1 2 (by decide), F4.1 2 (by decide), z2]
      obtain ⟨sd, hsd⟩ : ∃ sd : Nat, (s13.v 19).toInt = (sd : Int) := ⟨(s13.v 19).toInt.toNat, by rw [e19]; omega⟩
      have hsd1 : sd ≤ 1 := by rw [e19] at hsd; omega
      have hl13 : (s13.v 18).toInt + (sd : Int) = 1 := by rw [e18, ← hsd, e19]; omega
      refine ok_bindP (ok_plain sd s13 (s13.v 19) hsd1 hsd I13) (fun s15 h15 => ?_)
      obtain ⟨I15, F15, R15, w15, l15⟩ := h15
      have B15 : Big s15 := B13.far I13 hl13 hsd1 F15 (by decide) (by decide) R15
      have e1519 : s15.v 19 = s13.v 19 := F15.1 19 (by decide)
      refine ok_let (fun s16 hs16 => ?_)
      have I16 : InvR s16 := by rw [← hs16]; exact I15.svF (k := 29) rfl rfl
      have F16 : FrR [29] s15 s16 := by rw [← hs16]; exact FrR.rfl.sv (k := 29) (by decide)
      have b1 : (130 * (s15.v 19)).toInt = (s15.v 19).toInt * 130 := ti_cmul (c := 130) (by decide) (by rw [e1519]; omega) (by rw [e1519]; omega)
      have e29 : s16.v 29 = 130 * (s15.v 19) := by rw [← hs16]; rfl
      have e1619 : s16.v 19 = s15.v 19 := F16.1 19 (by decide)
      refine ok_let (fun s18 hs18 => ?_)
      have I18 : InvR s18 := by rw [← hs18]; exact I16.svF (k := 35) rfl rfl
      have F18 : FrR [35] s16 s18 := by rw [← hs18]; exact FrR.rfl.sv (k := 35) (by decide)
      have b2 : (420 * (s16.v 19)).toInt = (s16.v 19).toInt * 420 := ti_cmul (c := 420) (by decide) (by rw [e1619, e1519]; omega) (by rw [e1619, e1519]; omega)
      have e35 : s18.v 35 = 420 * (s16.v 19) := by rw [← hs18]; rfl
      have FA : FrR [29, 35] s15 s18 := (FrR.rfl.trans F16 (by decide)).trans F18 (by decide)
      have B18 : Big s18 := B15.fr FA (by decide)
      have g (k : Nat) (hk : k ∉ [29, 35]) (hk2 : k ∉ [120, 123, 126, 127, 128]) : s18.v k = s13.v k := (FA.1 k hk).trans (F15.1 k hk2)
      have g11 : s18.v 11 = 0 := (g 11 (by decide) (by decide)).trans e11
      have g12 : s18.v 12 = 0 := (g 12 (by decide) (by decide)).trans e12
      have g13 : s18.v 13 = 0 := (g 13 (by decide) (by decide)).trans e13
      have g19 : s18.v 19 = s13.v 19 := g 19 (by decide) (by decide)
      have g2 : s18.v 2 = 0 := (g 2 (by decide) (by decide)).trans z13
      have g29 : s18.v 29 = 130 * (s15.v 19) := (F18.1 29 (by decide)).trans e29
      have z0 : (0 : Int32).toInt = 0 := by decide
      rw [e1519] at b1
      rw [e1619, e1519] at b2
      have L : LWS sd s18 0 0 := ⟨I18, by rw [g19]; exact hsd, hsd1, by rw [e35, e1619, e1519]; omega, by rw [g29, e1519]; omega, by rw [g12]; decide, by rw [g12]; decide, fun _ => by rw [g12]; decide, by rw [g11]; decide, fun _ => by rw [g11]; decide⟩
      have e20 : s18.f 20 = s15.f 20 := (FA.2 20 (by decide)).1
      have R : RD s18 sd 0 0 s18 := ⟨L, by omega, FrR.rfl, Far.rfl, fun _ => ⟨by rw [g11]; decide, fun k hk => Or.inl (by rw [(FA.2 27 (by decide)).1, (FA.2 28 (by decide)).1]; exact l15 k hk)⟩, fun _ _ w hw => by rw [e20] at hw; omega⟩
      have hl18 : (s18.v 18).toInt + (sd : Int) = 1 := by rw [g 18 (by decide) (by decide)]; exact hl13
      refine ok_weak (ok_read_107 s18 sd B18 I18 hl18 fu 0 0 s18 (by have := mu_le s18 I18; unfold fu; omega) R) (fun y hy => ⟨hy.1, hy.2.1, hy.2.2.trans g2⟩)
    · have c := ti_nle c
      have a : (x1 + 1).toInt = x1.toInt + 1 := tn_add rfl (by decide) (by omega) (by omega)
      refine ok_grd (vpb_ok (by omega) (by omega)) ?_
      refine ok_grd (vpb_ok (by omega) (by omega)) ?_
      refine ok_let (fun u hu => ?_)
      have Fu : FrR [103] s u := by rw [← hu]; exact FrR.rfl.sf (k := 3) (by decide)
      exact ih u _ (by omega) (by omega) (by omega) (by rw [← hu]; exact hI.sfF (k := 3) rfl rfl) (hB.fr Fu (by decide))
theorem ok_r_read (s : RS) (hI : InvR s) (hB : Big s) : Ok (r_read s) (fun y => InvR y.2 ∧ Big y.2 ∧ y.2.v 2 = 0) := by
  unfold r_read
  refine ok_let (fun s1 hs1 => ?_)
  have h2 : 0 ≤ (s.v 2).toInt ∧ (s.v 2).toInt ≤ 2000 := hI.1 2
  have I1 : InvR s1 := by rw [← hs1]; exact hI.sv (k := 4) (show (0 : Int) ≤ (s.v 2).toInt by omega) (show (s.v 2).toInt ≤ (2000 : Int) by omega)
  have F1 : FrR [4] s s1 := by rw [← hs1]; exact FrR.rfl.sv (k := 4) (by decide)
  have z0 : (0 : Int32).toInt = 0 := by decide
  exact ok_read_10 s fu s1 0 (by unfold fu; omega) (by decide) (by decide) I1 (hB.fr F1 (by decide))
end
