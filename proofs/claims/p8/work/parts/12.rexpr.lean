/-! ===== the reading of the reference: small steps ===== -/
theorem is_eq {s : RS} {k : Int32} (hI : InvR s) : r_is s k = some ((if s.v 13 = 0 ∧ s.f 5 (s.v 11).toNatClampNeg = k then 1 else 0), s) := by
  have ht : 0 ≤ (s.v 11).toInt ∧ (s.v 11).toInt ≤ 400 := hI.1 11
  unfold r_is
  by_cases h : s.v 13 = 0
  · rw [if_pos h, if_pos (vpb_ok (by omega) (by omega))]
    by_cases h2 : s.f 5 (s.v 11).toNatClampNeg = k
    · rw [if_pos h2, if_pos ⟨h, h2⟩]
    · rw [if_neg h2, if_neg (fun q => h2 q.2)]
  · rw [if_neg h, if_neg (fun q => h q.1)]
/-- the answer of 'is' is known: one of two -/
theorem ok_is {α : Type} {s : RS} {k : Int32} {K : Int32 → RS → Option α} {Q : α → Prop} (hI : InvR s) (h1 : s.v 13 = 0 → s.f 5 (s.v 11).toNatClampNeg = k → Ok (K 1 s) Q) (h0 : ¬ (s.v 13 = 0 ∧ s.f 5 (s.v 11).toNatClampNeg = k) → Ok (K 0 s) Q) : Ok (bindI (r_is s k) K) Q := by
  rw [is_eq hI]
  by_cases h : s.v 13 = 0 ∧ s.f 5 (s.v 11).toNatClampNeg = k
  · rw [if_pos h]; exact h1 h.1 h.2
  · rw [if_neg h]; exact h0 h
theorem z_one : ¬ (1 : Int32) = 0 := by decide
theorem fz {s : RS} (h : s.v 13 = 0) : (s.v 13).toInt = 0 := by rw [h]; decide
theorem fz' {s : RS} (h : (s.v 13).toInt = 0) : s.v 13 = 0 := Int32.toInt_inj.mp (h.trans (by decide))
theorem ok_fail (s : RS) (k : Int32) (hI : InvR s) (hk : 1 ≤ k.toInt) (hk2 : k.toInt ≤ 2) : Ok (r_fail s k) (fun y => InvR y ∧ FrR [13, 14] s y ∧ 1 ≤ (y.v 13).toInt ∧ (s.v 13).toInt ≤ (y.v 13).toInt) := by
  have ht : 0 ≤ (s.v 11).toInt ∧ (s.v 11).toInt ≤ 400 := hI.1 11
  have hf : 0 ≤ (s.v 13).toInt ∧ (s.v 13).toInt ≤ 2 := hI.1 13
  unfold r_fail
  refine ok_ite (fun c => ?_) (fun c => ?_)
  · have c := tn_le (b := 0) rfl (by decide) c
    refine ok_let (fun s2 hs2 => ?_)
    have hI2 : InvR s2 := by rw [← hs2]; exact hI.sv (k := 13) (show (0 : Int) ≤ k.toInt by omega) (show k.toInt ≤ (2 : Int) by omega)
    have e11 : s2.v 11 = s.v 11 := by rw [← hs2]; rfl
    refine ok_grd (vpb_ok (by rw [e11]; omega) (by rw [e11]; omega)) ?_
    refine ok_let (fun s5 hs5 => ?_)
    have e13 : s5.v 13 = k := by rw [← hs5, ← hs2]; rfl
    refine ok_some ⟨by rw [← hs5]; exact hI2.svF (k := 14) rfl rfl, ?_, by rw [e13]; omega, by rw [e13]; omega⟩
    rw [← hs5, ← hs2]
    exact (FrR.rfl.sv (k := 13) (by decide)).sv (k := 14) (by decide)
  · have c := tn_nle (b := 0) rfl (by decide) c
    exact ok_some ⟨hI, FrR.rfl, by omega, Int.le_refl _⟩
/-- one token on: or the room is out -/
def Step (s y : RS) : Prop := ((y.v 11).toInt = (s.v 11).toInt + 1 ∧ (y.v 13).toInt = (s.v 13).toInt) ∨ ((s.v 11).toInt = 400 ∧ (y.v 11).toInt = (s.v 11).toInt ∧ 1 ≤ (y.v 13).toInt ∧ (s.v 13).toInt ≤ (y.v 13).toInt)
theorem ok_goesOn (s : RS) (hI : InvR s) : Ok (r_goesOn s) (fun y => InvR y ∧ FrR [11, 13, 14] s y ∧ Step s y) := by
  have ht : 0 ≤ (s.v 11).toInt ∧ (s.v 11).toInt ≤ 400 := hI.1 11
  unfold r_goesOn
  refine ok_ite (fun c => ?_) (fun c => ?_)
  · have c := tn_eq (b := 400) rfl (by decide) c
    refine ok_bindP (ok_fail s 2 hI (by decide) (by decide)) (fun s4 hc => ?_)
    have e11 : s4.v 11 = s.v 11 := hc.2.1.1 11 (by decide)
    refine ok_some ⟨hc.1, FrR.rfl.trans hc.2.1 (by decide), Or.inr ⟨c, by rw [e11], hc.2.2.1, hc.2.2.2⟩⟩
  · have c := tn_ne (b := 400) rfl (by decide) c
    refine ok_let (fun s2 hs2 => ?_)
    have a : ((s.v 11) + 1).toInt = (s.v 11).toInt + 1 := tn_add rfl (by decide) (by omega) (by omega)
    have e11 : s2.v 11 = (s.v 11) + 1 := by rw [← hs2]; rfl
    have e13 : s2.v 13 = s.v 13 := by rw [← hs2]; rfl
    refine ok_some ⟨by rw [← hs2]; exact hI.sv (k := 11) (show (0 : Int) ≤ ((s.v 11) + 1).toInt by omega) (show ((s.v 11) + 1).toInt ≤ (400 : Int) by omega), by rw [← hs2]; exact FrR.rfl.sv (k := 11) (by decide), Or.inl ⟨by rw [e11]; exact a, by rw [e13]⟩⟩
/-- on by some tokens, or a fault more -/
def Adv (s y : RS) : Prop := (s.v 11).toInt ≤ (y.v 11).toInt ∧ (s.v 13).toInt ≤ (y.v 13).toInt
theorem ok_must (s : RS) (k : Int32) (hI : InvR s) : Ok (r_must s k) (fun y => InvR y ∧ FrR [11, 13, 14] s y ∧ Adv s y ∧ ((y.v 13).toInt = 0 → (y.v 11).toInt = (s.v 11).toInt + 1)) := by
  unfold r_must
  have hf : 0 ≤ (s.v 13).toInt ∧ (s.v 13).toInt ≤ 2 := hI.1 13
  refine ok_is hI (fun hf0 hk => ?_) (fun h => ?_)
  · show Ok (if (1 : Int32) = 0 then _ else _) _
    rw [if_neg z_one]
    refine ok_bindP (ok_goesOn s hI) (fun y hc => ?_)
    refine ok_some ⟨hc.1, hc.2.1, ?_, ?_⟩
    · rcases hc.2.2 with h | h
      · exact ⟨by omega, by omega⟩
      · exact ⟨by omega, by omega⟩
    · rcases hc.2.2 with h | h
      · intro _; exact h.1
      · intro q; omega
  · show Ok (if (0 : Int32) = 0 then _ else _) _
    rw [if_pos rfl]
    refine ok_bindP (ok_fail s 1 hI (by decide) (by decide)) (fun y hc => ?_)
    have e11 : y.v 11 = s.v 11 := hc.2.1.1 11 (by decide)
    exact ok_some ⟨hc.1, FrR.rfl.trans hc.2.1 (by decide), ⟨by rw [e11]; exact Int.le_refl _, hc.2.2.2⟩, fun q => by have := hc.2.2.1; omega⟩
theorem ok_emit (s : RS) (x1 x2 : Int32) (p : Nat) (hI : InvR s) (hp : (s.v 35).toInt = (p : Int)) (hp2 : p < 840) : Ok (r_emit s x1 x2) (fun y => InvR y ∧ FrR [35, 136, 137] s y ∧ (y.v 35).toInt = (p : Int) + 1 ∧ y.f 36 = upd (s.f 36) p x1 ∧ y.f 37 = upd (s.f 37) p x2) := by
  unfold r_emit
  have ec : (s.v 35).toNatClampNeg = p := clamp_of_int hp
  rw [ec]
  refine ok_grd (vpb_ok (by omega) (by omega)) ?_
  refine ok_let (fun s2 hs2 => ?_)
  have e2 : s2.v 35 = s.v 35 := by rw [← hs2]; rfl
  have hI2 : InvR s2 := by rw [← hs2]; exact hI.sfF (k := 36) rfl rfl
  rw [e2, ec]
  refine ok_grd (vpb_ok (by omega) (by omega)) ?_
  refine ok_let (fun s5 hs5 => ?_)
  have e5 : s5.v 35 = s.v 35 := by rw [← hs5]; exact e2
  have hI5 : InvR s5 := by rw [← hs5]; exact hI2.sfF (k := 37) rfl rfl
  refine ok_let (fun s7 hs7 => ?_)
  have a : ((s.v 35) + 1).toInt = (s.v 35).toInt + 1 := tn_add rfl (by decide) (by omega) (by omega)
  have e7 : s7.v 35 = (s.v 35) + 1 := by rw [← hs7, ← e5]; rfl
  refine ok_some ⟨by rw [← hs7]; exact hI5.svF (k := 35) rfl rfl, ?_, by rw [e7]; omega, ?_, ?_⟩
  · rw [← hs7, ← hs5, ← hs2]
    exact ((FrR.rfl.sf (k := 36) (by decide)).sf (k := 37) (by decide)).sv (k := 35) (by decide)
  · rw [← hs7, ← hs5, ← hs2]; rfl
  · rw [← hs7, ← hs5, ← hs2]; rfl
/-! ===== well formed codes, one more ===== -/
theorem dep_congr {cd ci cd' ci' : Nat → Int32} : ∀ (n c d : Nat), (∀ j, c ≤ j → j < c + n → cd j = cd' j ∧ ci j = ci' j) → dep cd ci n c d = dep cd' ci' n c d := by
  intro n
  induction n with
  | zero => intro c d _; rfl
  | succ n ih =>
    intro c d h
    have h0 := h c (by omega) (by omega)
    have h1 : ∀ d, dep cd ci n (c + 1) d = dep cd' ci' n (c + 1) d := fun d => ih (c + 1) d (fun j a b => h j (by omega) (by omega))
    unfold dep
    rw [h0.1, h0.2, h1, h1]
theorem dep_snoc {cd ci : Nat → Int32} : ∀ (n c d d1 : Nat), dep cd ci n c d = some d1 → dep cd ci (n + 1) c d = dep cd ci 1 (c + n) d1 := by
  intro n
  induction n with
  | zero => intro c d d1 h; cases h; rfl
  | succ n ih =>
    intro c d d1 h
    rcases dep_cons ⟨d1, h⟩ with ⟨hk, q, hq⟩ | ⟨hk, q, hq⟩
    · have e1 : ∀ m, dep cd ci (m + 1) c d = dep cd ci m (c + 1) (d + 1) := fun m => by
        show (if _ then _ else _) = _
        rw [if_pos hk]
      rw [e1] at h ⊢
      rw [ih (c + 1) (d + 1) d1 h]
      rw [show c + 1 + n = c + (n + 1) by omega]
    · have hn : ¬ ((cd c).toInt = 0 ∨ ((cd c).toInt = 1 ∧ 0 ≤ (ci c).toInt ∧ (ci c).toInt ≤ 8)) := by omega
      have e1 : ∀ m, dep cd ci (m + 1) c d = dep cd ci m (c + 1) (d - 1) := fun m => by
        show (if _ then _ else if _ then _ else _) = _
        rw [if_neg hn, if_pos hk]
      rw [e1] at h ⊢
      rw [ih (c + 1) (d - 1) d1 h]
      rw [show c + 1 + n = c + (n + 1) by omega]
theorem dep_push {cd ci : Nat → Int32} {n c d : Nat} {x y : Int32} (h : dep cd ci n c 0 = some d) (hk : x.toInt = 0 ∨ (x.toInt = 1 ∧ 0 ≤ y.toInt ∧ y.toInt ≤ 8)) : dep (upd cd (c + n) x) (upd ci (c + n) y) (n + 1) c 0 = some (d + 1) := by
  have h1 : dep (upd cd (c + n) x) (upd ci (c + n) y) n c 0 = some d := by
    rw [← h]
    refine dep_congr n c 0 (fun j _ hj => ⟨?_, ?_⟩)
    · unfold upd; rw [if_neg (by omega)]
    · unfold upd; rw [if_neg (by omega)]
  rw [dep_snoc n c 0 d h1]
  have e1 : upd cd (c + n) x (c + n) = x := by unfold upd; rw [if_pos rfl]
  have e2 : upd ci (c + n) y (c + n) = y := by unfold upd; rw [if_pos rfl]
  show (if _ then _ else _) = _
  rw [e1, e2, if_pos hk]
  rfl
theorem dep_op {cd ci : Nat → Int32} {n c d : Nat} {x y : Int32} (h : dep cd ci n c 0 = some d) (hk : 2 ≤ x.toInt ∧ x.toInt ≤ 5) (hd : 2 ≤ d) : dep (upd cd (c + n) x) (upd ci (c + n) y) (n + 1) c 0 = some (d - 1) := by
  have h1 : dep (upd cd (c + n) x) (upd ci (c + n) y) n c 0 = some d := by
    rw [← h]
    refine dep_congr n c 0 (fun j _ hj => ⟨?_, ?_⟩)
    · unfold upd; rw [if_neg (by omega)]
    · unfold upd; rw [if_neg (by omega)]
  rw [dep_snoc n c 0 d h1]
  have e1 : upd cd (c + n) x (c + n) = x := by unfold upd; rw [if_pos rfl]
  have e2 : upd ci (c + n) y (c + n) = y := by unfold upd; rw [if_pos rfl]
  show (if _ then _ else if _ then _ else _) = _
  rw [e1, e2, if_neg (by omega), if_pos ⟨hk.1, hk.2, hd⟩]
  rfl
/-! ===== what waits ===== -/
def nops (f : Nat → Int32) : Nat → Nat
  | 0 => 0
  | n + 1 => nops f n + (if f n = 6 then 0 else 1)
theorem nops_le (f : Nat → Int32) : ∀ n, nops f n ≤ n := by
  intro n
  induction n with
  | zero => exact Nat.le_refl _
  | succ n ih => unfold nops; split <;> omega
theorem nops_congr {f g : Nat → Int32} : ∀ n, (∀ i, i < n → f i = g i) → nops f n = nops g n := by
  intro n
  induction n with
  | zero => intro _; rfl
  | succ n ih => intro h; unfold nops; rw [ih (fun i hi => h i (by omega)), h n (by omega)]
def Shape (f : Nat → Int32) (n : Nat) : Prop := ∀ i, i < n → ((f i = 8 ∨ f i = 9) → i = 0 ∨ f (i - 1) = 6) ∧ (¬ f i = 6 → ¬ f i = 8 → ¬ f i = 9 → i = 0 ∨ f (i - 1) = 6 ∨ f (i - 1) = 8 ∨ f (i - 1) = 9)
theorem Shape.less {f : Nat → Int32} {n m : Nat} (h : Shape f n) (hm : m ≤ n) : Shape f m := fun i hi => h i (by omega)
theorem Shape.put {f : Nat → Int32} {n : Nat} {x : Int32} (h : Shape f n) (h1 : (x = 8 ∨ x = 9) → n = 0 ∨ f (n - 1) = 6) (h2 : ¬ x = 6 → ¬ x = 8 → ¬ x = 9 → n = 0 ∨ f (n - 1) = 6 ∨ f (n - 1) = 8 ∨ f (n - 1) = 9) : Shape (upd f n x) (n + 1) := by
  intro i hi
  by_cases e : i = n
  · subst e
    have e1 : upd f i x i = x := by unfold upd; rw [if_pos rfl]
    rw [e1]
    by_cases i0 : i = 0
    · exact ⟨fun _ => Or.inl i0, fun _ _ _ => Or.inl i0⟩
    · have e2 : upd f i x (i - 1) = f (i - 1) := by unfold upd; rw [if_neg (by omega)]
      rw [e2]
      exact ⟨h1, h2⟩
  · have e1 : upd f n x i = f i := by unfold upd; rw [if_neg e]
    have e2 : upd f n x (i - 1) = f (i - 1) := by unfold upd; rw [if_neg (by omega)]
    rw [e1, e2]
    exact h i (by omega)
theorem Shape.few {f : Nat → Int32} : ∀ (n : Nat), Shape f n → ((n = 0 ∨ f (n - 1) = 6) → nops f n ≤ 2 * (n - nops f n)) ∧ ((n = 0 ∨ f (n - 1) = 6 ∨ f (n - 1) = 8 ∨ f (n - 1) = 9) → nops f n ≤ 2 * (n - nops f n) + 1) ∧ nops f n ≤ 2 * (n - nops f n) + 2 := by
  intro n
  induction n with
  | zero => intro _; exact ⟨fun _ => Nat.le_refl _, fun _ => by show 0 ≤ _; omega, by show 0 ≤ _; omega⟩
  | succ n ih =>
    intro h
    obtain ⟨g1, g2, g3⟩ := ih (h.less (by omega))
    have hle := nops_le f n
    have hn := h n (by omega)
    by_cases h6 : f n = 6
    · have e : nops f (n + 1) = nops f n := by show nops f n + (if f n = 6 then 0 else 1) = _; rw [if_pos h6]; rfl
      rw [e]
      refine ⟨fun _ => by omega, fun _ => by omega, by omega⟩
    · have e : nops f (n + 1) = nops f n + 1 := by show nops f n + (if f n = 6 then 0 else 1) = _; rw [if_neg h6]
      rw [e]
      refine ⟨fun q => ?_, fun q => ?_, ?_⟩
      · rcases q with q | q
        · omega
        · exact absurd q h6
      · have hp : f n = 8 ∨ f n = 9 := by
          rcases q with q | q | q
          · omega
          · exact absurd q h6
          · exact q
        have := g1 (hn.1 hp)
        omega
      · by_cases hp : f n = 8 ∨ f n = 9
        · have := g1 (hn.1 hp)
          omega
        · have := g2 (hn.2 h6 (fun q => hp (Or.inl q)) (fun q => hp (Or.inr q)))
          omega
/-- what stands outside of the new text's codes is as it was -/
def Out (lo hi : Nat) (s y : RS) : Prop := ∀ j, (j < lo ∨ hi ≤ j) → y.f 36 j = s.f 36 j ∧ y.f 37 j = s.f 37 j
theorem Out.rfl {lo hi : Nat} {s : RS} : Out lo hi s s := fun _ _ => ⟨Eq.refl _, Eq.refl _⟩
theorem Out.trans {lo hi lo' : Nat} {s y z : RS} (h : Out lo hi s y) (h2 : Out lo' hi y z) (hl : lo ≤ lo') : Out lo hi s z := fun j hj => by
  have a := h j hj
  have b := h2 j (by omega)
  exact ⟨b.1.trans a.1, b.2.trans a.2⟩
theorem Out.same {lo hi : Nat} {s y : RS} (h1 : y.f 36 = s.f 36) (h2 : y.f 37 = s.f 37) : Out lo hi s y := fun j _ => ⟨by rw [h1], by rw [h2]⟩
theorem Out.fr {lo hi : Nat} {W : List Nat} {s y : RS} (h : FrR W s y) (h1 : 136 ∉ W) (h2 : 137 ∉ W) : Out lo hi s y := Out.same (h.2 36 h1).1 (h.2 37 h2).1
/-- operators come out -/
def CO (sd c0 : Nat) (s : RS) (n c : Nat) : Prop := InvR s ∧ (s.v 19).toInt = (sd : Int) ∧ sd ≤ 1 ∧ (s.v 39).toInt = (n : Int) ∧ n ≤ 60 ∧ (s.v 35).toInt = (420 * sd + c : Nat) ∧ 420 * sd ≤ c0 ∧ c0 ≤ 420 * sd + c ∧ c + nops (s.f 38) n ≤ 401 ∧ ((s.v 13).toInt = 0 → dep (s.f 36) (s.f 37) (420 * sd + c - c0) c0 0 = some (nops (s.f 38) n + 1))
theorem ok_comesOut_L (sd c0 : Nat) (x1 : Int32) (s0 : RS) : ∀ (m : Nat) (s : RS) (n c : Nat), n < m → CO sd c0 s n c → FrR [35, 39, 136, 137] s0 s → Out c0 (420 * sd + 402) s0 s →
    Ok (r_comesOut_0L m s x1) (fun y => ∃ n' c', n' ≤ n ∧ c ≤ c' ∧ CO sd c0 y n' c' ∧ nops (s0.f 38) n = nops (s0.f 38) n' + (n - n') ∧ c' + nops (s0.f 38) n' = c + nops (s0.f 38) n ∧ FrR [35, 39, 136, 137] s0 y ∧ Out c0 (420 * sd + 402) s0 y ∧ (n' = 0 ∨ s0.f 38 (n' - 1) = 6 ∨ (¬ x1 = 0 ∧ (s0.f 38 (n' - 1) = 8 ∨ s0.f 38 (n' - 1) = 9)))) := by
  intro m
  induction m with
  | zero => intro s n c h; omega
  | succ m ih =>
    intro s n c hm hC hF hO
    have hC0 := hC
    obtain ⟨hI, h19, hsd, h39, hn, h35, hc0, hc1, hcn, hdep⟩ := hC
    show Ok (r_comesOut_0 (r_comesOut_0L m) s x1) _
    unfold r_comesOut_0
    have e38 : s.f 38 = s0.f 38 := (hF.2 38 (by decide)).1
    have stop : (n = 0 ∨ s0.f 38 (n - 1) = 6 ∨ (¬ x1 = 0 ∧ (s0.f 38 (n - 1) = 8 ∨ s0.f 38 (n - 1) = 9))) → Ok (some s) (fun y => ∃ n' c', n' ≤ n ∧ c ≤ c' ∧ CO sd c0 y n' c' ∧ nops (s0.f 38) n = nops (s0.f 38) n' + (n - n') ∧ c' + nops (s0.f 38) n' = c + nops (s0.f 38) n ∧ FrR [35, 39, 136, 137] s0 y ∧ Out c0 (420 * sd + 402) s0 y ∧ (n' = 0 ∨ s0.f 38 (n' - 1) = 6 ∨ (¬ x1 = 0 ∧ (s0.f 38 (n' - 1) = 8 ∨ s0.f 38 (n' - 1) = 9)))) :=
      fun q => ok_some ⟨n, c, Nat.le_refl _, Nat.le_refl _, hC0, by omega, rfl, hF, hO, q⟩
    refine ok_ite (fun c1 => ?_) (fun c1 => ?_)
    · have c1 := tn_le (b := 0) rfl (by decide) c1
      exact stop (Or.inl (by omega))
    · have c1 := tn_nle (b := 0) rfl (by decide) c1
      have a1 : ((s.v 39) - 1).toInt = (s.v 39).toInt - 1 := tn_sub rfl (by decide) (by omega) (by omega)
      refine ok_grd (vpb_ok (by omega) (by omega)) ?_
      have ec : ((s.v 39) - 1).toNatClampNeg = n - 1 := clamp_of_int (by omega)
      rw [ec, e38]
      refine ok_ite (fun c6 => stop (Or.inr (Or.inl c6))) (fun c6 => ?_)
      have hpop : ∀ (w : Int32), Ok (r_comesOut_42 (r_comesOut_0L m) s x1 w) (fun y => ∃ n' c', n' ≤ n ∧ c ≤ c' ∧ CO sd c0 y n' c' ∧ nops (s0.f 38) n = nops (s0.f 38) n' + (n - n') ∧ c' + nops (s0.f 38) n' = c + nops (s0.f 38) n ∧ FrR [35, 39, 136, 137] s0 y ∧ Out c0 (420 * sd + 402) s0 y ∧ (n' = 0 ∨ s0.f 38 (n' - 1) = 6 ∨ (¬ x1 = 0 ∧ (s0.f 38 (n' - 1) = 8 ∨ s0.f 38 (n' - 1) = 9)))) := by
        intro w
        unfold r_comesOut_42
        refine ok_let (fun s1 hs1 => ?_)
        have hI1 : InvR s1 := by rw [← hs1]; exact hI.svF (k := 39) rfl rfl
        have hF1 : FrR [35, 39, 136, 137] s0 s1 := by rw [← hs1]; exact hF.sv (k := 39) (by decide)
        have e39 : (s1.v 39).toInt = (n : Int) - 1 := by
          have : s1.v 39 = (s.v 39) - 1 := by rw [← hs1]; rfl
          rw [this]; omega
        have e35 : s1.v 35 = s.v 35 := by rw [← hs1]; rfl
        have e13 : s1.v 13 = s.v 13 := by rw [← hs1]; rfl
        have e19 : s1.v 19 = s.v 19 := by rw [← hs1]; rfl
        have e36 : s1.f 36 = s.f 36 := by rw [← hs1]; rfl
        have e37 : s1.f 37 = s.f 37 := by rw [← hs1]; rfl
        obtain ⟨n1, rfl⟩ : ∃ n1, n = n1 + 1 := ⟨n - 1, by omega⟩
        have hnop : nops (s0.f 38) (n1 + 1) = nops (s0.f 38) n1 + 1 := by
          show nops (s0.f 38) n1 + (if s0.f 38 n1 = 6 then 0 else 1) = _
          rw [if_neg (show ¬ s0.f 38 n1 = 6 from c6)]
        have go : ∀ (t0 : Int32), 2 ≤ t0.toInt → t0.toInt ≤ 5 → Ok (r_comesOut_84 (r_comesOut_0L m) s1 x1 t0) (fun y => ∃ n' c', n' ≤ n1 + 1 ∧ c ≤ c' ∧ CO sd c0 y n' c' ∧ nops (s0.f 38) (n1 + 1) = nops (s0.f 38) n' + (n1 + 1 - n') ∧ c' + nops (s0.f 38) n' = c + nops (s0.f 38) (n1 + 1) ∧ FrR [35, 39, 136, 137] s0 y ∧ Out c0 (420 * sd + 402) s0 y ∧ (n' = 0 ∨ s0.f 38 (n' - 1) = 6 ∨ (¬ x1 = 0 ∧ (s0.f 38 (n' - 1) = 8 ∨ s0.f 38 (n' - 1) = 9)))) := by
          intro t0 ht1 ht2
          unfold r_comesOut_84
          rw [e38] at hcn hdep
          refine ok_bindP (ok_emit s1 t0 0 (420 * sd + c) hI1 (by rw [e35]; exact h35) (by omega)) (fun s2 hc => ?_)
          obtain ⟨hI2, hF2, h352, hf36, hf37⟩ := hc
          have hF02 : FrR [35, 39, 136, 137] s0 s2 := hF1.trans hF2 (by decide)
          have hO2 : Out c0 (420 * sd + 402) s0 s2 := by
            refine hO.trans (lo' := c0) (fun j hj => ?_) (Nat.le_refl _)
            rw [hf36, hf37, e36, e37]
            unfold upd
            rw [if_neg (by omega), if_neg (by omega)]
            exact ⟨rfl, rfl⟩
          have k13 : s2.v 13 = s.v 13 := (hF2.1 13 (by decide)).trans e13
          have k19 : s2.v 19 = s.v 19 := (hF2.1 19 (by decide)).trans e19
          have k39 : s2.v 39 = s1.v 39 := hF2.1 39 (by decide)
          have k38 : s2.f 38 = s0.f 38 := (hF02.2 38 (by decide)).1
          have hC2 : CO sd c0 s2 n1 (c + 1) := by
            refine ⟨hI2, by rw [k19]; exact h19, hsd, by rw [k39]; omega, by omega, by rw [h352]; omega, hc0, by omega, by rw [k38]; omega, ?_⟩
            rw [k13, k38]
            intro hz
            have hd := hdep hz
            rw [hf36, hf37, e36, e37]
            have hp : c0 + (420 * sd + c - c0) = 420 * sd + c := by omega
            have := dep_op (x := t0) (y := 0) hd ⟨ht1, ht2⟩ (by omega)
            rw [hp] at this
            rw [show 420 * sd + (c + 1) - c0 = 420 * sd + c - c0 + 1 by omega, this]
            congr 1 <;> omega
          refine ok_weak (ih s2 n1 (c + 1) (by omega) hC2 hF02 hO2) (fun y hy => ?_)
          obtain ⟨n', c', q1, q2, q3, q4, q5, q6, q7, q8⟩ := hy
          exact ⟨n', c', by omega, by omega, q3, by omega, by omega, q6, q7, q8⟩
        refine ok_ite (fun _ => go 2 (by decide) (by decide)) (fun _ => ?_)
        refine ok_ite (fun _ => go 3 (by decide) (by decide)) (fun _ => ?_)
        exact ok_ite (fun _ => go 4 (by decide) (by decide)) (fun _ => go 5 (by decide) (by decide))
      refine ok_ite (fun _ => hpop _) (fun cx => ?_)
      refine ok_ite (fun c8 => stop (Or.inr (Or.inr ⟨cx, Or.inl c8⟩))) (fun c8 => ?_)
      exact ok_ite (fun c9 => stop (Or.inr (Or.inr ⟨cx, Or.inr c9⟩))) (fun c9 => hpop _)
theorem ok_comesOut (sd c0 : Nat) (x1 : Int32) (s : RS) (n c : Nat) (hC : CO sd c0 s n c) : Ok (r_comesOut s x1) (fun y => ∃ n' c', n' ≤ n ∧ c ≤ c' ∧ CO sd c0 y n' c' ∧ nops (s.f 38) n = nops (s.f 38) n' + (n - n') ∧ c' + nops (s.f 38) n' = c + nops (s.f 38) n ∧ FrR [35, 39, 136, 137] s y ∧ Out c0 (420 * sd + 402) s y ∧ (n' = 0 ∨ s.f 38 (n' - 1) = 6 ∨ (¬ x1 = 0 ∧ (s.f 38 (n' - 1) = 8 ∨ s.f 38 (n' - 1) = 9)))) := by
  unfold r_comesOut
  have hn := hC.2.2.2.2.1
  exact ok_comesOut_L sd c0 x1 s fu s n c (by unfold fu; omega) hC FrR.rfl Out.rfl
