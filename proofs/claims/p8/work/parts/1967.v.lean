/-! ===== what a law tells: the two piles ===== -/
def opv (k a b : Int32) : Option Int32 := if k = 2 then some (a + b) else if k = 3 then some (a - b) else if k = 4 then some (a * b) else if b = 0 then none else some (a / b)
/-- one sign over a pile -/
def evo (o : List Int32 → Option (List Int32)) (k : Int32) : List Int32 → Option (List Int32)
  | [] => none
  | [_] => none
  | b :: a :: t => match opv k a b with
    | some x => o (x :: t)
    | none => none
def evl (V : Nat → Int32) : List (Int32 × Int32) → List Int32 → Option (List Int32)
  | [], st => some st
  | p :: l, st => if p.1.toInt ≤ 1 then evl V l ((if p.1 = 0 then p.2 else V p.2.toNatClampNeg) :: st) else evo (evl V l) p.1 st
theorem evl_cons {V : Nat → Int32} {p : Int32 × Int32} {l : List (Int32 × Int32)} {st : List Int32} : evl V (p :: l) st = if p.1.toInt ≤ 1 then evl V l ((if p.1 = 0 then p.2 else V p.2.toNatClampNeg) :: st) else evo (evl V l) p.1 st := rfl
theorem evl_push {V : Nat → Int32} {p : Int32 × Int32} {l : List (Int32 × Int32)} {st : List Int32} (h : p.1.toInt ≤ 1) : evl V (p :: l) st = evl V l ((if p.1 = 0 then p.2 else V p.2.toNatClampNeg) :: st) := by
  rw [evl_cons]
  exact if_pos h
theorem evl_op {V : Nat → Int32} {p : Int32 × Int32} {l : List (Int32 × Int32)} {a b : Int32} {t : List Int32} (h : ¬ p.1.toInt ≤ 1) : evl V (p :: l) (b :: a :: t) = (match opv p.1 a b with
      | some x => evl V l (x :: t)
      | none => none) := by
  rw [evl_cons, if_neg h]
  rfl
theorem jn_fr {s : KS} (x1 x2 x3 : Int32) : Pt (kX1_joined s x1 x2 x3) (fun y => FrK [7, 114] s y.2 ∧ (y.2.v 7 = s.v 7 ∨ y.2.v 7 = 1)) := by
  have dv : Pt (if x3 = 0 then (letS (s.sv 7 1) fun s6 => (some ((0 : Int32), s6))) else (if ¬ x3 = 0 then (some ((x2 / x3), s)) else none)) (fun y => FrK [7, 114] s y.2 ∧ (y.2.v 7 = s.v 7 ∨ y.2.v 7 = 1)) :=
    pt_ite (fun _ => pt_let (P := fun y => FrK [7, 114] s y ∧ y.v 7 = 1) ⟨FrK.rfl.sv (by decide), rfl⟩ (fun t h => pt_some ⟨h.1, Or.inr h.2⟩)) (fun _ => pt_ite (fun _ => pt_some ⟨FrK.rfl, Or.inl rfl⟩) (fun _ => pt_none))
  unfold kX1_joined
  exact pt_ite (fun _ => pt_some ⟨FrK.rfl, Or.inl rfl⟩) (fun _ => pt_ite (fun _ => pt_some ⟨FrK.rfl, Or.inl rfl⟩) (fun _ => pt_ite (fun _ => dv) (fun _ => pt_ite (fun _ => pt_some ⟨FrK.rfl, Or.inl rfl⟩) (fun _ => dv))))
def PvQ (s0 : KS) (y : Int32 × KS) : Prop := FrK [7, 114] s0 y.2 ∧ (y.2.v 7 = s0.v 7 ∨ y.2.v 7 = 1)
theorem pv_frL (x4 : Int32) {s0 : KS} : ∀ (n : Nat) (s : KS) (x5 x6 : Int32), FrK [7, 114] s0 s → (s.v 7 = s0.v 7 ∨ s.v 7 = 1) → Pt (kX1_partValue_53L n s x4 x5 x6) (PvQ s0) := by
  intro n
  induction n with
  | zero => intro s x5 x6 _ _; exact pt_none
  | succ n ih =>
    intro s x5 x6 h1 h2
    have h115 : ∀ x7, Pt (kX1_partValue_115 (kX1_partValue_53L n) s x4 x5 x6 x7) (PvQ s0) := fun x7 => by
      unfold kX1_partValue_115 kX1_partValue_156
      refine pt_ite (fun _ => ih s x5 _ h1 h2) (fun _ => pt_ite (fun _ => pt_ite (fun _ => ?_) (fun _ => pt_none)) (fun _ => pt_none))
      refine pt_bindI (jn_fr _ _ _) (fun r t ht => pt_ite (fun _ => ?_) (fun _ => pt_none))
      obtain ⟨k1, k2⟩ := ht
      have k1 : FrK [7, 114] s t := k1
      have k2 : t.v 7 = s.v 7 ∨ t.v 7 = 1 := k2
      refine pt_let (P := fun y => FrK [7, 114] s0 y ∧ (y.v 7 = s0.v 7 ∨ y.v 7 = 1)) ⟨(h1.trans k1 (by decide)).sf (k := 14) (by decide), ?_⟩ (fun u hu => ih u _ _ hu.1 hu.2)
      show t.v 7 = s0.v 7 ∨ t.v 7 = 1
      rcases k2 with q | q
      · rw [q]; exact h2
      · exact Or.inr q
    have h108 : ∀ t0 t1, Pt (kX1_partValue_108 (kX1_partValue_53L n) s x4 x5 x6 t0 t1) (PvQ s0) := fun t0 t1 => by
      unfold kX1_partValue_108 kX1_partValue_156
      refine pt_ite (fun _ => ?_) (fun _ => pt_none)
      exact pt_let (P := fun y => FrK [7, 114] s0 y ∧ (y.v 7 = s0.v 7 ∨ y.v 7 = 1)) ⟨h1.sf (k := 14) (by decide), h2⟩ (fun u hu => ih u _ _ hu.1 hu.2)
    show Pt (kX1_partValue_53 (kX1_partValue_53L n) s x4 x5 x6) _
    unfold kX1_partValue_53
    refine pt_ite (fun _ => pt_some ⟨h1, h2⟩) (fun _ => pt_ite (fun _ => ?_) (fun _ => pt_none))
    refine pt_ite (fun _ => h115 _) (fun _ => pt_ite (fun _ => h115 _) (fun _ => pt_ite (fun _ => ?_) (fun _ => h108 _ _)))
    exact pt_ite (fun _ => h108 _ _) (fun _ => pt_none)
theorem stk_up {f g : Nat → Int32} {st : List Int32} {x : Int32} (h : StkOn f 0 st st.length) (hg : ∀ j, g j = if j = st.length then x else f j) : StkOn g 0 (x :: st) (x :: st).length := by
  refine ⟨st.length, rfl, by rw [hg, if_pos rfl], ?_⟩
  exact StkOn.cg st st.length (fun i hi => by rw [hg, if_neg (by omega)]) h
theorem seg_hd {α : Type} {f : Nat → α} {a n : Nat} {x : α} {l : List α} (h : seg f a (n + 1) = x :: l) : f a = x ∧ seg f (a + 1) n = l := by
  have h : f a :: seg f (a + 1) n = x :: l := h
  injection h with h1 h2
  exact ⟨h1, h2⟩
theorem evl_opk {V : Nat → Int32} {p : Int32 × Int32} {l : List (Int32 × Int32)} {a b x : Int32} {t : List Int32} (h : ¬ p.1.toInt ≤ 1) (ho : opv p.1 a b = some x) : evl V (p :: l) (b :: a :: t) = evl V l (x :: t) := by
  rw [evl_op h, ho]
theorem evl_op0 {V : Nat → Int32} {p : Int32 × Int32} {l : List (Int32 × Int32)} {a b : Int32} {t : List Int32} (h : ¬ p.1.toInt ≤ 1) (ho : opv p.1 a b = none) : evl V (p :: l) (b :: a :: t) = none := by
  rw [evl_op h, ho]
theorem encp_k {p : Int32 × Int32} {k : Int32} (e : p.1 = k) (h0 : ¬ k = 0) (h1 : ¬ k = 1) : encp p = if k = 2 then -43 else if k = 3 then -45 else if k = 4 then -42 else -47 := by
  unfold encp enc
  rw [e, if_neg h0, if_neg h1]
/-- the sign that the class joins by -/
theorem joined_eq {s s' : KS} {p : Int32 × Int32} {a b r : Int32} (hp : p.1 = 2 ∨ p.1 = 3 ∨ p.1 = 4 ∨ p.1 = 5) (h : kX1_joined s (-(encp p)) a b = some (r, s')) : (opv p.1 a b = some r ∧ s' = s) ∨ (opv p.1 a b = none ∧ s' = s.sv 7 1) := by
  unfold kX1_joined at h
  rcases hp with e | e | e | e
  · have q : -(encp p) = 43 := by rw [encp_k e (by decide) (by decide)]; decide
    rw [q, if_neg (by decide), if_pos rfl] at h
    refine Or.inl ⟨?_, by cases h; rfl⟩
    unfold opv
    rw [e, if_pos rfl]
    cases h
    rfl
  · have q : -(encp p) = 45 := by rw [encp_k e (by decide) (by decide)]; decide
    rw [q, if_neg (by decide), if_neg (by decide), if_neg (by decide), if_pos rfl] at h
    refine Or.inl ⟨?_, by cases h; rfl⟩
    unfold opv
    rw [e, if_neg (by decide), if_pos rfl]
    cases h
    rfl
  · have q : -(encp p) = 42 := by rw [encp_k e (by decide) (by decide)]; decide
    rw [q, if_pos rfl] at h
    refine Or.inl ⟨?_, by cases h; rfl⟩
    unfold opv
    rw [e, if_neg (by decide), if_neg (by decide), if_pos rfl]
    cases h
    rfl
  · have q : -(encp p) = 47 := by rw [encp_k e (by decide) (by decide)]; decide
    rw [q, if_neg (by decide), if_neg (by decide), if_neg (by decide), if_neg (by decide)] at h
    have o : opv p.1 a b = if b = 0 then none else some (a / b) := by
      unfold opv
      rw [e, if_neg (by decide), if_neg (by decide), if_neg (by decide)]
    rw [o]
    by_cases c : b = 0
    · rw [if_pos c] at h ⊢
      obtain ⟨s6, d6, h⟩ := letS_inv h
      refine Or.inr ⟨rfl, ?_⟩
      rw [d6]
      cases h
      rfl
    · rw [if_neg c] at h ⊢
      rw [if_pos c] at h
      refine Or.inl ⟨?_, by cases h; rfl⟩
      cases h
      rfl
theorem encp_op {p : Int32 × Int32} (hp : p.1 = 2 ∨ p.1 = 3 ∨ p.1 = 4 ∨ p.1 = 5) : encp p < -9 ∧ ¬ p.1.toInt ≤ 1 := by
  rcases hp with e | e | e | e <;> (rw [encp_k e (by decide) (by decide), e]; decide)
theorem neg1 {x : Int32} (h0 : 0 ≤ x.toInt) (h1 : x.toInt ≤ 8) : ¬ (-1) - x < -9 ∧ (-1) - x < 0 ∧ ((-1) - ((-1) - x)) = x := by
  have c : ∀ k : Int32, x.toInt = k.toInt → x = k := fun k e => Int32.toInt_inj.mp e
  rcases (show x.toInt = 0 ∨ x.toInt = 1 ∨ x.toInt = 2 ∨ x.toInt = 3 ∨ x.toInt = 4 ∨ x.toInt = 5 ∨ x.toInt = 6 ∨ x.toInt = 7 ∨ x.toInt = 8 by omega) with e | e | e | e | e | e | e | e | e
  · have q := c 0 (e.trans (by decide))
    subst q
    decide
  · have q := c 1 (e.trans (by decide))
    subst q
    decide
  · have q := c 2 (e.trans (by decide))
    subst q
    decide
  · have q := c 3 (e.trans (by decide))
    subst q
    decide
  · have q := c 4 (e.trans (by decide))
    subst q
    decide
  · have q := c 5 (e.trans (by decide))
    subst q
    decide
  · have q := c 6 (e.trans (by decide))
    subst q
    decide
  · have q := c 7 (e.trans (by decide))
    subst q
    decide
  · have q := c 8 (e.trans (by decide))
    subst q
    decide
def EvK (V : Nat → Int32) (l : List (Int32 × Int32)) (st : List Int32) (r v0 v1 : Int32) : Prop := (∃ v, evl V l st = some [v] ∧ r = v ∧ v1 = v0) ∨ (evl V l st = none ∧ v1 = 1)
theorem pv_ev (V : Nat → Int32) (x4 : Int32) : ∀ (l : List (Int32 × Int32)) (n : Nat) (s : KS) (x5 x6 : Int32) (st : List Int32) (r : Int32) (s' : KS), s.f 13 = V → (∀ p ∈ l, CDz p) → Dp l st.length 1 → 0 ≤ x6.toInt → x4.toInt = x6.toInt + (l.length : Int) → seg (s.f 9) x6.toNatClampNeg l.length = l.map encp → x5.toInt = (st.length : Int) → StkOn (s.f 14) 0 st st.length → kX1_partValue_53L n s x4 x5 x6 = some (r, s') → EvK V l st r (s.v 7) (s'.v 7) := by
  intro l
  induction l with
  | nil =>
    intro n s x5 x6 st r s' hV _ hD h60 h4 _ h5 hS h
    cases n with
    | zero => exact none_ne h
    | succ n =>
    have h : kX1_partValue_53 (kX1_partValue_53L n) s x4 x5 x6 = some (r, s') := h
    unfold kX1_partValue_53 at h
    have h4 : x4.toInt = x6.toInt + ((0 : Nat) : Int) := h4
    rw [if_pos (Int32.le_iff_toInt_le.mpr (by omega))] at h
    have hD : st.length = 1 := hD
    have e1 : r = s.f 14 0 ∧ s' = s := by cases h; exact ⟨rfl, rfl⟩
    cases st with
    | nil => exact absurd hD (by decide)
    | cons v st =>
      cases st with
      | cons w st =>
        have hD : st.length + 1 + 1 = 1 := hD
        omega
      | nil =>
        obtain ⟨m, em, hm, q⟩ := hS
        have q : m = 0 := q
        subst q
        exact Or.inl ⟨v, rfl, by rw [e1.1, hm], by rw [e1.2]⟩
  | cons p l ih =>
    intro n s x5 x6 st r s' hV hC hD h60 h4 hsg h5 hS h
    cases n with
    | zero => exact none_ne h
    | succ n =>
    have h : kX1_partValue_53 (kX1_partValue_53L n) s x4 x5 x6 = some (r, s') := h
    have h4 : x4.toInt = x6.toInt + ((l.length + 1 : Nat) : Int) := h4
    obtain ⟨e1, e2⟩ := seg_hd (show seg (s.f 9) x6.toNatClampNeg (l.length + 1) = encp p :: l.map encp from hsg)
    unfold kX1_partValue_53 at h
    rw [if_neg (fun q => by have := ti_le q; omega)] at h
    obtain ⟨g, h⟩ := guard_inv h
    have g2 : ¬ (x6 < 0 ∨ 404 ≤ x6.toNatClampNeg) := of_decide_eq_true g
    have g3 : ¬ 404 ≤ x6.toNatClampNeg := fun q => g2 (Or.inr q)
    have ec6 : x6.toInt.toNat = x6.toNatClampNeg := Int32.toNat_toInt _
    have a6 : (x6 + 1).toInt = x6.toInt + 1 := tn_add rfl (by decide) (by omega) (by omega)
    have c6 : (x6 + 1).toNatClampNeg = x6.toNatClampNeg + 1 := clamp_of_int (by omega)
    have ec5 : x5.toNatClampNeg = st.length := clamp_of_int h5
    rw [e1] at h
    have push : ∀ t0 : Int32, p.1.toInt ≤ 1 → t0 = (if p.1 = 0 then p.2 else V p.2.toNatClampNeg) → kX1_partValue_108 (kX1_partValue_53L n) s x4 x5 x6 t0 x5 = some (r, s') → EvK V (p :: l) st r (s.v 7) (s'.v 7) := by
      intro t0 hp1 ht0 h
      rcases hD with ⟨q, _, _⟩ | ⟨_, ha, hD⟩
      · omega
      unfold kX1_partValue_108 kX1_partValue_156 at h
      obtain ⟨_, h⟩ := guard_inv h
      obtain ⟨s2, d2, h⟩ := letS_inv h
      have a5 : (x5 + 1).toInt = x5.toInt + 1 := tn_add rfl (by decide) (by omega) (by omega)
      have f14 : ∀ j, s2.f 14 j = if j = st.length then t0 else s.f 14 j := fun j => by
        rw [← d2, ec5]
        exact ksf_at
      have f9 : s2.f 9 = s.f 9 := by rw [← d2]; rfl
      have v7 : s2.v 7 = s.v 7 := by rw [← d2]; rfl
      have r1 := ih n s2 (x5 + 1) (x6 + 1) (t0 :: st) r s' (by rw [← d2]; exact hV) (fun q hq => hC q (List.mem_cons_of_mem _ hq)) hD (by omega) (by omega) (by rw [f9, c6]; exact e2) (by show (x5 + 1).toInt = ((st.length + 1 : Nat) : Int); omega) (stk_up hS f14) h
      unfold EvK at r1 ⊢
      rw [evl_push hp1, ← ht0, ← v7]
      exact r1
    rcases hC p (List.mem_cons_self ..) with ⟨k0, v0⟩ | ⟨k1, v1, v2⟩ | hop
    · have ep : encp p = p.2 := by
        unfold encp enc
        rw [if_pos k0]
      have hp1 : p.1.toInt ≤ 1 := by rw [k0]; decide
      rw [ep] at h
      have n1 : ¬ p.2 < -9 := fun q => by
        have := tn_lt (b := -9) rfl (by decide) q
        omega
      have n2 : ¬ p.2 < 0 := fun q => by
        have := tn_lt (b := 0) rfl (by decide) q
        omega
      have n3 : ¬ 16 ≤ x5 := fun q => by
        have := tn_le (a := 16) (by decide) rfl q
        rcases hD with ⟨q, _, _⟩ | ⟨_, ha, _⟩
        · omega
        · omega
      rw [if_neg n1, if_neg n3, if_neg n2] at h
      exact push _ hp1 (by rw [if_pos k0]) h
    · have k0 : ¬ p.1 = 0 := by rw [k1]; decide
      have ep : encp p = (-1) - p.2 := by
        unfold encp enc
        rw [if_neg k0, if_pos k1]
      have hp1 : p.1.toInt ≤ 1 := by rw [k1]; decide
      obtain ⟨n1, n2, ai⟩ := neg1 v1 v2
      rw [ep] at h
      have n3 : ¬ 16 ≤ x5 := fun q => by
        have := tn_le (a := 16) (by decide) rfl q
        rcases hD with ⟨q, _, _⟩ | ⟨_, ha, _⟩
        · omega
        · omega
      rw [if_neg n1, if_neg n3, if_pos n2] at h
      obtain ⟨_, h⟩ := guard_inv h
      rw [ai] at h
      exact push _ hp1 (by rw [if_neg k0, hV]) h
    · obtain ⟨lt9, n1⟩ := encp_op hop
      rw [if_pos lt9] at h
      rcases hD with ⟨_, ha, hD⟩ | ⟨q, _, _⟩
      · cases st with
        | nil => exact absurd ha (by decide)
        | cons b st =>
        cases st with
        | nil =>
          have ha : 2 ≤ 1 := ha
          omega
        | cons a t =>
        have h5 : x5.toInt = ((t.length + 1 + 1 : Nat) : Int) := h5
        have hD : Dp l (t.length + 1) 1 := hD
        obtain ⟨m, em, hm, m2, em2, hm2, hS⟩ := hS
        have em : t.length + 1 + 1 = m + 1 := em
        have e1' : m = t.length + 1 := by omega
        have e2' : m2 = t.length := by omega
        subst e1'
        subst e2'
        unfold kX1_partValue_115 kX1_partValue_156 at h
        have n5 : ¬ x5 < 2 := fun q => by
          have := tn_lt (b := 2) rfl (by decide) q
          omega
        have r5 := ti_rng x5
        have a5 : (x5 + (-1)).toInt = x5.toInt + (-1) := tn_add rfl (by decide) (by omega) (by omega)
        rw [if_neg n5] at h
        generalize x5 + (-1) = y5 at a5 h
        have b5 : (y5 - 1).toInt = y5.toInt - 1 := tn_sub rfl (by decide) (by omega) (by omega)
        have c5 : y5.toNatClampNeg = t.length + 1 := clamp_of_int (by omega)
        have d5 : (y5 - 1).toNatClampNeg = t.length := clamp_of_int (by omega)
        obtain ⟨_, h⟩ := guard_inv h
        obtain ⟨_, h⟩ := guard_inv h
        obtain ⟨q5, s4, hj, h⟩ := bindI_inv h
        obtain ⟨_, h⟩ := guard_inv h
        obtain ⟨s7, d7, h⟩ := letS_inv h
        rw [c5, d5, hm, hm2] at hj
        rw [d5] at d7
        rcases joined_eq hop hj with ⟨ho, es4⟩ | ⟨ho, es4⟩
        · have f14 : ∀ j, s7.f 14 j = if j = t.length then q5 else s.f 14 j := fun j => by
            rw [← d7, es4]
            exact ksf_at
          have f9 : s7.f 9 = s.f 9 := by rw [← d7, es4]; rfl
          have v7 : s7.v 7 = s.v 7 := by rw [← d7, es4]; rfl
          have r1 := ih n s7 y5 (x6 + 1) (q5 :: t) r s' (by rw [← d7, es4]; exact hV) (fun q hq => hC q (List.mem_cons_of_mem _ hq)) hD (by omega) (by omega) (by rw [f9, c6]; exact e2) (by show y5.toInt = ((t.length + 1 : Nat) : Int); omega) (stk_up hS f14) h
          unfold EvK at r1 ⊢
          rw [evl_opk n1 ho, ← v7]
          exact r1
        · have v7 : s7.v 7 = 1 := by rw [← d7, es4]; rfl
          have q := (pv_frL x4 n s7 _ _ FrK.rfl (Or.inl rfl) _ h).2
          refine Or.inr ⟨evl_op0 n1 ho, ?_⟩
          have q : s'.v 7 = s7.v 7 ∨ s'.v 7 = 1 := q
          rw [v7] at q
          exact q.elim id id
      · exact absurd q n1
/-! the reference's pile -/
def TmQ (z0 : RS) (y : Int32 × RS) : Prop := FrR [42, 141] z0 y.2 ∧ (y.2.v 42 = z0.v 42 ∨ y.2.v 42 = 1)
theorem tm_frL (x2 : Int32) {z0 : RS} : ∀ (n : Nat) (z : RS) (x3 x4 : Int32), FrR [42, 141] z0 z → (z.v 42 = z0.v 42 ∨ z.v 42 = 1) → Pt (r_termOf_5L n z x2 x3 x4) (TmQ z0) := by
  intro n
  induction n with
  | zero => intro z x3 x4 _ _; exact pt_none
  | succ n ih =>
    intro z x3 x4 h1 h2
    have h158 : ∀ x3' t0 t1, Pt (r_termOf_158 (r_termOf_5L n) z x2 x3' x4 t0 t1) (TmQ z0) := fun x3' t0 t1 => by
      unfold r_termOf_158 r_termOf_159
      refine pt_ite (fun _ => ?_) (fun _ => pt_none)
      exact pt_let (P := fun y => FrR [42, 141] z0 y ∧ (y.v 42 = z0.v 42 ∨ y.v 42 = 1)) ⟨h1.sf (k := 41) (by decide), h2⟩ (fun u hu => ih u _ _ hu.1 hu.2)
    have h58 : ∀ t0 t1, Pt (r_termOf_58 (r_termOf_5L n) z x2 x3 x4 t0 t1) (TmQ z0) := fun t0 t1 => by
      unfold r_termOf_58 r_termOf_159
      refine pt_ite (fun _ => ?_) (fun _ => pt_none)
      exact pt_let (P := fun y => FrR [42, 141] z0 y ∧ (y.v 42 = z0.v 42 ∨ y.v 42 = 1)) ⟨h1.sf (k := 41) (by decide), h2⟩ (fun u hu => ih u _ _ hu.1 hu.2)
    have h104 : ∀ x3' x5 x6 x7, Pt (r_termOf_104 (r_termOf_5L n) z x2 x3' x4 x5 x6 x7) (TmQ z0) := fun x3' x5 x6 x7 => by
      unfold r_termOf_104
      exact pt_ite (fun _ => h158 _ _ _) (fun _ => pt_ite (fun _ => h158 _ _ _) (fun _ => pt_ite (fun _ => h158 _ _ _) (fun _ => pt_ite (fun _ => h158 _ _ _) (fun _ => pt_none))))
    show Pt (r_termOf_5 (r_termOf_5L n) z x2 x3 x4) _
    unfold r_termOf_5
    refine pt_ite (fun _ => pt_some ⟨h1, h2⟩) (fun _ => pt_ite (fun _ => ?_) (fun _ => pt_none))
    refine pt_ite (fun _ => ?_) (fun _ => ?_)
    · refine pt_ite (fun _ => pt_ite (fun _ => ?_) (fun _ => pt_none)) (fun _ => pt_none)
      refine pt_ite (fun _ => pt_ite (fun _ => ?_) (fun _ => h104 _ _ _ _)) (fun _ => h104 _ _ _ _)
      exact pt_let (P := fun y => FrR [42, 141] z0 y ∧ (y.v 42 = z0.v 42 ∨ y.v 42 = 1)) ⟨h1.sv (k := 42) (by decide), Or.inr rfl⟩ (fun u hu => pt_some hu)
    · refine pt_ite (fun _ => pt_ite (fun _ => h58 _ _) (fun _ => pt_none)) (fun _ => ?_)
      exact pt_ite (fun _ => pt_ite (fun _ => h58 _ _) (fun _ => pt_none)) (fun _ => pt_none)
theorem op_two {p : Int32 × Int32} (hp : p.1 = 2 ∨ p.1 = 3 ∨ p.1 = 4 ∨ p.1 = 5) : 2 ≤ p.1 := by
  rcases hp with e | e | e | e <;> (rw [e]; decide)
theorem tm_ev (V : Nat → Int32) (x2 : Int32) : ∀ (l : List (Int32 × Int32)) (n : Nat) (z : RS) (x3 x4 : Int32) (st : List Int32) (r : Int32) (z' : RS), z.f 40 = V → (∀ p ∈ l, CDz p) → Dp l st.length 1 → 0 ≤ x4.toInt → x2.toInt = x4.toInt + (l.length : Int) → seg (es z) x4.toNatClampNeg l.length = l → x3.toInt = (st.length : Int) → StkOn (z.f 41) 0 st st.length → r_termOf_5L n z x2 x3 x4 = some (r, z') → EvK V l st r (z.v 42) (z'.v 42) := by
  intro l
  induction l with
  | nil =>
    intro n z x3 x4 st r z' hV _ hD h60 h4 _ h5 hS h
    cases n with
    | zero => exact none_ne h
    | succ n =>
    have h : r_termOf_5 (r_termOf_5L n) z x2 x3 x4 = some (r, z') := h
    unfold r_termOf_5 at h
    have h4 : x2.toInt = x4.toInt + ((0 : Nat) : Int) := h4
    rw [if_pos (Int32.le_iff_toInt_le.mpr (by omega))] at h
    have hD : st.length = 1 := hD
    have e1 : r = z.f 41 0 ∧ z' = z := by cases h; exact ⟨rfl, rfl⟩
    cases st with
    | nil => exact absurd hD (by decide)
    | cons v st =>
      cases st with
      | cons w st =>
        have hD : st.length + 1 + 1 = 1 := hD
        omega
      | nil =>
        obtain ⟨m, em, hm, q⟩ := hS
        have q : m = 0 := q
        subst q
        exact Or.inl ⟨v, rfl, by rw [e1.1, hm], by rw [e1.2]⟩
  | cons p l ih =>
    intro n z x3 x4 st r z' hV hC hD h60 h4 hsg h5 hS h
    cases n with
    | zero => exact none_ne h
    | succ n =>
    have h : r_termOf_5 (r_termOf_5L n) z x2 x3 x4 = some (r, z') := h
    have h4 : x2.toInt = x4.toInt + ((l.length + 1 : Nat) : Int) := h4
    obtain ⟨e1, e2⟩ := seg_hd (show seg (es z) x4.toNatClampNeg (l.length + 1) = p :: l from hsg)
    have p36 : z.f 36 x4.toNatClampNeg = p.1 := by rw [← e1]; rfl
    have p37 : z.f 37 x4.toNatClampNeg = p.2 := by rw [← e1]; rfl
    unfold r_termOf_5 at h
    rw [if_neg (fun q => by have := ti_le q; omega)] at h
    obtain ⟨g, h⟩ := guard_inv h
    have g2 : ¬ (x4 < 0 ∨ 840 ≤ x4.toNatClampNeg) := of_decide_eq_true g
    have g3 : ¬ 840 ≤ x4.toNatClampNeg := fun q => g2 (Or.inr q)
    have ec6 : x4.toInt.toNat = x4.toNatClampNeg := Int32.toNat_toInt _
    have a6 : (x4 + 1).toInt = x4.toInt + 1 := tn_add rfl (by decide) (by omega) (by omega)
    have c6 : (x4 + 1).toNatClampNeg = x4.toNatClampNeg + 1 := clamp_of_int (by omega)
    have ec5 : x3.toNatClampNeg = st.length := clamp_of_int h5
    rw [p36, p37] at h
    have push : ∀ t0 : Int32, p.1.toInt ≤ 1 → t0 = (if p.1 = 0 then p.2 else V p.2.toNatClampNeg) → r_termOf_58 (r_termOf_5L n) z x2 x3 x4 t0 x3 = some (r, z') → EvK V (p :: l) st r (z.v 42) (z'.v 42) := by
      intro t0 hp1 ht0 h
      rcases hD with ⟨q, _, _⟩ | ⟨_, ha, hD⟩
      · omega
      unfold r_termOf_58 r_termOf_159 at h
      obtain ⟨_, h⟩ := guard_inv h
      obtain ⟨s2, d2, h⟩ := letS_inv h
      have a5 : (x3 + 1).toInt = x3.toInt + 1 := tn_add rfl (by decide) (by omega) (by omega)
      have f14 : ∀ j, s2.f 41 j = if j = st.length then t0 else z.f 41 j := fun j => by
        rw [← d2, ec5]
        exact rsf_at
      have f9 : es s2 = es z := by rw [← d2]; rfl
      have v7 : s2.v 42 = z.v 42 := by rw [← d2]; rfl
      have r1 := ih n s2 (x3 + 1) (x4 + 1) (t0 :: st) r z' (by rw [← d2]; exact hV) (fun q hq => hC q (List.mem_cons_of_mem _ hq)) hD (by omega) (by omega) (by rw [f9, c6]; exact e2) (by show (x3 + 1).toInt = ((st.length + 1 : Nat) : Int); omega) (stk_up hS f14) h
      unfold EvK at r1 ⊢
      rw [evl_push hp1, ← ht0, ← v7]
      exact r1
    rcases hC p (List.mem_cons_self ..) with ⟨k0, v0⟩ | ⟨k1, v1, v2⟩ | hop
    · have hp1 : p.1.toInt ≤ 1 := by rw [k0]; decide
      rw [if_neg (by rw [k0]; decide), if_pos k0] at h
      obtain ⟨_, h⟩ := guard_inv h
      exact push _ hp1 (by rw [if_pos k0]) h
    · have k0 : ¬ p.1 = 0 := by rw [k1]; decide
      have hp1 : p.1.toInt ≤ 1 := by rw [k1]; decide
      rw [if_neg (by rw [k1]; decide), if_neg k0] at h
      obtain ⟨_, h⟩ := guard_inv h
      obtain ⟨_, h⟩ := guard_inv h
      exact push _ hp1 (by rw [if_neg k0, hV]) h
    · obtain ⟨_, n1⟩ := encp_op hop
      rw [if_pos (op_two hop)] at h
      rcases hD with ⟨_, ha, hD⟩ | ⟨q, _, _⟩
      · cases st with
        | nil => exact absurd ha (by decide)
        | cons b st =>
        cases st with
        | nil =>
          have ha : 2 ≤ 1 := ha
          omega
        | cons a t =>
        have h5 : x3.toInt = ((t.length + 1 + 1 : Nat) : Int) := h5
        have hD : Dp l (t.length + 1) 1 := hD
        obtain ⟨m, em, hm, m2, em2, hm2, hS⟩ := hS
        have em : t.length + 1 + 1 = m + 1 := em
        have e1' : m = t.length + 1 := by omega
        have e2' : m2 = t.length := by omega
        subst e1'
        subst e2'
        have r5 := ti_rng x3
        have a5 : (x3 + (-1)).toInt = x3.toInt + (-1) := tn_add rfl (by decide) (by omega) (by omega)
        generalize x3 + (-1) = y5 at a5 h
        have b5 : (y5 - 1).toInt = y5.toInt - 1 := tn_sub rfl (by decide) (by omega) (by omega)
        have c5 : y5.toNatClampNeg = t.length + 1 := clamp_of_int (by omega)
        have d5 : (y5 - 1).toNatClampNeg = t.length := clamp_of_int (by omega)
        obtain ⟨_, h⟩ := guard_inv h
        obtain ⟨_, h⟩ := guard_inv h
        rw [c5, d5, hm, hm2] at h
        have fin : ∀ q5 : Int32, opv p.1 a b = some q5 → r_termOf_158 (r_termOf_5L n) z x2 y5 x4 q5 (y5 - 1) = some (r, z') → EvK V (p :: l) (b :: a :: t) r (z.v 42) (z'.v 42) := by
          intro q5 ho h
          unfold r_termOf_158 r_termOf_159 at h
          obtain ⟨_, h⟩ := guard_inv h
          obtain ⟨s7, d7, h⟩ := letS_inv h
          rw [d5] at d7
          have f14 : ∀ j, s7.f 41 j = if j = t.length then q5 else z.f 41 j := fun j => by
            rw [← d7]
            exact rsf_at
          have f9 : es s7 = es z := by rw [← d7]; rfl
          have v7 : s7.v 42 = z.v 42 := by rw [← d7]; rfl
          have r1 := ih n s7 y5 (x4 + 1) (q5 :: t) r z' (by rw [← d7]; exact hV) (fun q hq => hC q (List.mem_cons_of_mem _ hq)) hD (by omega) (by omega) (by rw [f9, c6]; exact e2) (by show y5.toInt = ((t.length + 1 : Nat) : Int); omega) (stk_up hS f14) h
          unfold EvK at r1 ⊢
          rw [evl_opk n1 ho, ← v7]
          exact r1
        have h104 : r_termOf_104 (r_termOf_5L n) z x2 y5 x4 p.1 a b = some (r, z') → (p.1 = 5 → ¬ b = 0) → EvK V (p :: l) (b :: a :: t) r (z.v 42) (z'.v 42) := by
          intro h hb
          unfold r_termOf_104 at h
          by_cases k2 : p.1 = 2
          · rw [if_pos k2] at h
            exact fin _ (by unfold opv; rw [if_pos k2]) h
          · rw [if_neg k2] at h
            by_cases k3 : p.1 = 3
            · rw [if_pos k3] at h
              exact fin _ (by unfold opv; rw [if_neg k2, if_pos k3]) h
            · rw [if_neg k3] at h
              by_cases k4 : p.1 = 4
              · rw [if_pos k4] at h
                exact fin _ (by unfold opv; rw [if_neg k2, if_neg k3, if_pos k4]) h
              · rw [if_neg k4] at h
                have k5 : p.1 = 5 := by
                  rcases hop with q | q | q | q
                  · exact absurd q k2
                  · exact absurd q k3
                  · exact absurd q k4
                  · exact q
                have nb := hb k5
                rw [if_pos nb] at h
                exact fin _ (by unfold opv; rw [if_neg k2, if_neg k3, if_neg k4, if_neg nb]) h
        by_cases k5 : p.1 = 5
        · rw [if_pos k5] at h
          by_cases b0 : b = 0
          · rw [if_pos b0] at h
            obtain ⟨s8, d8, h⟩ := letS_inv h
            have ez : z' = s8 := by cases h; rfl
            refine Or.inr ⟨evl_op0 n1 ?_, by rw [ez, ← d8]; rfl⟩
            unfold opv
            rw [k5, if_neg (by decide), if_neg (by decide), if_neg (by decide), if_pos b0]
          · rw [if_neg b0] at h
            exact h104 h (fun _ => b0)
        · rw [if_neg k5] at h
          exact h104 h (fun q => absurd q k5)
      · exact absurd q n1
