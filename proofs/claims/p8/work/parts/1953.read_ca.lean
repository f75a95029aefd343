/-! ===== what is written down of an expression: lists of codes ===== -/
def seg {α : Type} (f : Nat → α) : Nat → Nat → List α
  | _, 0 => []
  | a, n + 1 => f a :: seg f (a + 1) n
theorem seg_len {α : Type} (f : Nat → α) : ∀ (n a : Nat), (seg f a n).length = n := by
  intro n
  induction n with
  | zero => intro a; rfl
  | succ n ih =>
    intro a
    show (seg f (a + 1) n).length + 1 = n + 1
    rw [ih]
theorem seg_add {α : Type} (f : Nat → α) : ∀ (m n a : Nat), seg f a (m + n) = seg f a m ++ seg f (a + m) n := by
  intro m
  induction m with
  | zero =>
    intro n a
    have e : 0 + n = n := Nat.zero_add n
    rw [e]
    rfl
  | succ m ih =>
    intro n a
    have e : m + 1 + n = (m + n) + 1 := by omega
    have e2 : a + (m + 1) = a + 1 + m := by omega
    rw [e, e2]
    show f a :: seg f (a + 1) (m + n) = f a :: (seg f (a + 1) m ++ seg f (a + 1 + m) n)
    rw [ih]
theorem seg_cg {α : Type} {f g : Nat → α} : ∀ (n a : Nat), (∀ i, a ≤ i → i < a + n → f i = g i) → seg f a n = seg g a n := by
  intro n
  induction n with
  | zero => intro a _; rfl
  | succ n ih =>
    intro a h
    show f a :: seg f (a + 1) n = g a :: seg g (a + 1) n
    rw [h a (Nat.le_refl _) (by omega), ih (a + 1) (fun i h1 h2 => h i (by omega) (by omega))]
/-- a code of the reference as a step of the class -/
def enc (k v : Int32) : Int32 := if k = 0 then v else if k = 1 then (-1) - v else if k = 2 then -43 else if k = 3 then -45 else if k = 4 then -42 else -47
def encp (p : Int32 × Int32) : Int32 := enc p.1 p.2
def kow (w : Int32) : Int32 := if w = 8 then 2 else if w = 9 then 3 else if w = 10 then 4 else 5
def pk (w : Int32) : Int32 × Int32 := (kow w, 0)
def CDz (p : Int32 × Int32) : Prop := (p.1 = 0 ∧ 0 ≤ p.2.toInt) ∨ (p.1 = 1 ∧ 0 ≤ p.2.toInt ∧ p.2.toInt ≤ 8) ∨ p.1 = 2 ∨ p.1 = 3 ∨ p.1 = 4 ∨ p.1 = 5
theorem kow_cases (w : Int32) : kow w = 2 ∨ kow w = 3 ∨ kow w = 4 ∨ kow w = 5 := by
  unfold kow
  by_cases a : w = 8
  · rw [if_pos a]; exact Or.inl rfl
  · rw [if_neg a]
    by_cases b : w = 9
    · rw [if_pos b]; exact Or.inr (Or.inl rfl)
    · rw [if_neg b]
      by_cases c : w = 10
      · rw [if_pos c]; exact Or.inr (Or.inr (Or.inl rfl))
      · rw [if_neg c]; exact Or.inr (Or.inr (Or.inr rfl))
theorem CDz.pk (w : Int32) : CDz (pk w) := Or.inr (Or.inr (kow_cases w))
theorem kow_two (w : Int32) : 2 ≤ (pk w).1.toInt := by
  show 2 ≤ (kow w).toInt
  rcases kow_cases w with e | e | e | e <;> (rw [e]; decide)
theorem encp_pk {c r : Int32} (h : (c = 43 ∧ r = 8) ∨ (c = 45 ∧ r = 9) ∨ (c = 42 ∧ r = 10) ∨ (c = 47 ∧ r = 15)) : -c = encp (pk r) := by
  rcases h with ⟨rfl, rfl⟩ | ⟨rfl, rfl⟩ | ⟨rfl, rfl⟩ | ⟨rfl, rfl⟩ <;> decide
def es (z : RS) (i : Nat) : Int32 × Int32 := (z.f 36 i, z.f 37 i)
/-- from a to a' the list l is written down, and nothing below a changes -/
def Em {α : Type} (a a' : Int32) (f f' : Nat → α) (l : List α) : Prop := 0 ≤ a.toInt ∧ a'.toInt = a.toInt + (l.length : Int) ∧ (∀ i : Nat, (i : Int) < a.toInt → f' i = f i) ∧ seg f' a.toNatClampNeg l.length = l
def EmK (s s' : KS) (l : List Int32) : Prop := Em (s.v 12) (s'.v 12) (s.f 22) (s'.f 22) l
def EmZ (z z' : RS) (l : List (Int32 × Int32)) : Prop := Em (z.v 35) (z'.v 35) (es z) (es z') l
theorem Em.nil {α : Type} {a : Int32} {f : Nat → α} (h : 0 ≤ a.toInt) : Em a a f f [] := ⟨h, (Int.add_zero _).symm, fun _ _ => rfl, rfl⟩
theorem Em.trans {α : Type} {a b c : Int32} {f g h : Nat → α} {l m : List α} (h1 : Em a b f g l) (h2 : Em b c g h m) : Em a c f h (l ++ m) := by
  obtain ⟨p1, p2, p3, p4⟩ := h1
  obtain ⟨q1, q2, q3, q4⟩ := h2
  have ea : a.toInt.toNat = a.toNatClampNeg := Int32.toNat_toInt a
  have eb : b.toInt.toNat = b.toNatClampNeg := Int32.toNat_toInt b
  have e : b.toNatClampNeg = a.toNatClampNeg + l.length := by omega
  have el : (l ++ m).length = l.length + m.length := List.length_append
  refine ⟨p1, by omega, fun i hi => (q3 i (by omega)).trans (p3 i hi), ?_⟩
  rw [el, seg_add, ← e, q4, seg_cg (g := g) l.length a.toNatClampNeg (fun i h1 h2 => q3 i (by omega)), p4]
theorem EmK.nil {s s' : KS} (h : 0 ≤ (s.v 12).toInt) (e : s'.v 12 = s.v 12) (f : s'.f 22 = s.f 22) : EmK s s' [] := by
  unfold EmK
  rw [e, f]
  exact Em.nil h
theorem EmZ.nil {s s' : RS} (h : 0 ≤ (s.v 35).toInt) (e : s'.v 35 = s.v 35) (f : s'.f 36 = s.f 36) (g : s'.f 37 = s.f 37) : EmZ s s' [] := by
  have q : es s' = es s := by unfold es; rw [f, g]
  unfold EmZ
  rw [e, q]
  exact Em.nil h
theorem EmK.trans {s t u : KS} {l m : List Int32} (h1 : EmK s t l) (h2 : EmK t u m) : EmK s u (l ++ m) := Em.trans h1 h2
theorem EmZ.trans {s t u : RS} {l m : List (Int32 × Int32)} (h1 : EmZ s t l) (h2 : EmZ t u m) : EmZ s u (l ++ m) := Em.trans h1 h2
theorem EmK.keep {s t u : KS} {l : List Int32} (h1 : EmK s t l) (e : u.v 12 = t.v 12) (f : u.f 22 = t.f 22) : EmK s u l := by
  unfold EmK
  rw [e, f]
  exact h1
theorem EmZ.keep {s t u : RS} {l : List (Int32 × Int32)} (h1 : EmZ s t l) (e : u.v 35 = t.v 35) (f : u.f 36 = t.f 36) (g : u.f 37 = t.f 37) : EmZ s u l := by
  have q : es u = es t := by unfold es; rw [f, g]
  unfold EmZ
  rw [e, q]
  exact h1
theorem EmK.from {s t u : KS} {l : List Int32} (h1 : EmK t u l) (e : t.v 12 = s.v 12) (f : t.f 22 = s.f 22) : EmK s u l := by
  unfold EmK
  rw [← e, ← f]
  exact h1
theorem EmZ.from {s t u : RS} {l : List (Int32 × Int32)} (h1 : EmZ t u l) (e : t.v 35 = s.v 35) (f : t.f 36 = s.f 36) (g : t.f 37 = s.f 37) : EmZ s u l := by
  have q : es t = es s := by unfold es; rw [f, g]
  unfold EmZ
  rw [← e, ← q]
  exact h1
theorem ksf_at {s : KS} {k i j : Nat} {x : Int32} : (s.sf k i x).f k j = if j = i then x else s.f k j := by
  show va_up s.f k (upd (s.f k) i x) k j = _
  unfold va_up
  rw [if_pos rfl]
  rfl
theorem rsf_at {s : RS} {k i j : Nat} {x : Int32} : (s.sf k i x).f k j = if j = i then x else s.f k j := by
  show va_up s.f k (upd (s.f k) i x) k j = _
  unfold va_up
  rw [if_pos rfl]
  rfl
theorem put_em {s s' : KS} {x : Int32} (h0 : 0 ≤ (s.v 12).toInt) (h1 : (s.v 12).toInt < 404) (h : kX1_put s x = some s') : EmK s s' [x] := by
  unfold kX1_put at h
  have n : ¬ 404 ≤ s.v 12 := fun q => by
    have := tn_le (a := 404) (by decide) rfl q
    omega
  rw [if_neg n] at h
  obtain ⟨_, h⟩ := guard_inv h
  obtain ⟨s3, d3, h⟩ := letS_inv h
  obtain ⟨s5, d5, h⟩ := letS_inv h
  cases h
  have a : ((s.v 12) + 1).toInt = (s.v 12).toInt + 1 := tn_add rfl (by decide) (by omega) (by omega)
  have v5 : s'.v 12 = (s.v 12) + 1 := by rw [← d5, ← d3]; rfl
  have f5 : ∀ j, s'.f 22 j = if j = (s.v 12).toNatClampNeg then x else s.f 22 j := fun j => by
    rw [← d5, ← d3]
    exact ksf_at
  have ec : (s.v 12).toInt.toNat = (s.v 12).toNatClampNeg := Int32.toNat_toInt _
  refine ⟨h0, by rw [v5]; exact a, fun i hi => ?_, ?_⟩
  · rw [f5, if_neg (by omega)]
  · show [s'.f 22 (s.v 12).toNatClampNeg] = [x]
    rw [f5, if_pos rfl]
theorem emit_em {z z' : RS} {k v : Int32} (h0 : 0 ≤ (z.v 35).toInt) (h : r_emit z k v = some z') : EmZ z z' [(k, v)] ∧ FrR [35, 136, 137] z z' := by
  unfold r_emit at h
  obtain ⟨g, h⟩ := guard_inv h
  obtain ⟨z2, d2, h⟩ := letS_inv h
  obtain ⟨_, h⟩ := guard_inv h
  obtain ⟨z5, d5, h⟩ := letS_inv h
  obtain ⟨z7, d7, h⟩ := letS_inv h
  cases h
  have ec : (z.v 35).toInt.toNat = (z.v 35).toNatClampNeg := Int32.toNat_toInt _
  have g2 : ¬ ((z.v 35) < 0 ∨ 840 ≤ (z.v 35).toNatClampNeg) := of_decide_eq_true g
  have g3 : ¬ 840 ≤ (z.v 35).toNatClampNeg := fun q => g2 (Or.inr q)
  have a : ((z.v 35) + 1).toInt = (z.v 35).toInt + 1 := tn_add rfl (by decide) (by omega) (by omega)
  have v7 : z'.v 35 = (z.v 35) + 1 := by rw [← d7, ← d5, ← d2]; rfl
  have f36 : ∀ j, z'.f 36 j = if j = (z.v 35).toNatClampNeg then k else z.f 36 j := fun j => by
    have q : z'.f 36 = z2.f 36 := by rw [← d7, ← d5]; rfl
    rw [q, ← d2]
    exact rsf_at
  have f37 : ∀ j, z'.f 37 j = if j = (z.v 35).toNatClampNeg then v else z.f 37 j := fun j => by
    rw [← d7, ← d5, ← d2]
    exact rsf_at
  refine ⟨⟨h0, by rw [v7]; exact a, fun i hi => ?_, ?_⟩, ?_⟩
  · unfold es
    rw [f36, f37, if_neg (by omega), if_neg (by omega)]
  · show [es z' (z.v 35).toNatClampNeg] = [(k, v)]
    unfold es
    rw [f36, f37, if_pos rfl, if_pos rfl]
  · rw [← d7, ← d5, ← d2]
    exact ((FrR.rfl.sf (k := 36) (by decide)).sf (k := 37) (by decide)).sv (k := 35) (by decide)
/-! what waits -/
def StkOn (f : Nat → Int32) (h : Nat) : List Int32 → Nat → Prop
  | [], n => n = h
  | w :: L, n => ∃ m, n = m + 1 ∧ f m = w ∧ StkOn f h L m
theorem StkOn.ln {f : Nat → Int32} {h : Nat} : ∀ (P : List Int32) (n : Nat), StkOn f h P n → n = h + P.length := by
  intro P
  induction P with
  | nil => intro n q; exact q
  | cons w P ih =>
    intro n q
    obtain ⟨m, e, _, q⟩ := q
    have := ih m q
    show n = h + (P.length + 1)
    omega
theorem StkOn.cg {f g : Nat → Int32} {h : Nat} : ∀ (P : List Int32) (n : Nat), (∀ i, i < n → g i = f i) → StkOn f h P n → StkOn g h P n := by
  intro P
  induction P with
  | nil => intro n _ q; exact q
  | cons w P ih =>
    intro n hg q
    obtain ⟨m, e, hm, q⟩ := q
    exact ⟨m, e, (hg m (by omega)).trans hm, ih m (fun i hi => hg i (by omega)) q⟩
def PopOK (t w : Int32) : Prop := ¬ w = 6 ∧ (t = 0 ∨ (¬ w = 8 ∧ ¬ w = 9))
def StpW (t : Int32) (f : Nat → Int32) (h : Nat) : Prop := h = 0 ∨ ∃ m, h = m + 1 ∧ (f m = 6 ∨ (¬ t = 0 ∧ (f m = 8 ∨ f m = 9)))
theorem StpW.weak {t : Int32} {f : Nat → Int32} {h : Nat} (q : StpW 0 f h) : StpW t f h := by
  rcases q with q | ⟨m, e, q | q⟩
  · exact Or.inl q
  · exact Or.inr ⟨m, e, Or.inl q⟩
  · exact absurd rfl q.1
theorem StpW.cg {t : Int32} {f g : Nat → Int32} {h : Nat} (q : StpW t f h) (hg : ∀ i, i < h → g i = f i) : StpW t g h := by
  rcases q with q | ⟨m, e, q⟩
  · exact Or.inl q
  · refine Or.inr ⟨m, e, ?_⟩
    rw [hg m (by omega)]
    exact q
theorem come_out (t : Int32) : ∀ (P : List Int32) (n : Nat) (z z' : RS) (h : Nat), 0 ≤ (z.v 39).toInt → 0 ≤ (z.v 35).toInt → StkOn (z.f 38) h P (z.v 39).toNatClampNeg → (∀ w ∈ P, PopOK t w) → StpW t (z.f 38) h → r_comesOut_0L n z t = some z' → (z'.v 39).toInt = (h : Int) ∧ EmZ z z' (P.map pk) := by
  intro P
  induction P with
  | nil =>
    intro n z z' h h39 h35 hS _ hst hz
    cases n with
    | zero => exact none_ne hz
    | succ n =>
    have hz : r_comesOut_0 (r_comesOut_0L n) z t = some z' := hz
    unfold r_comesOut_0 at hz
    have hS : (z.v 39).toNatClampNeg = h := hS
    have ec : (z.v 39).toInt.toNat = (z.v 39).toNatClampNeg := Int32.toNat_toInt _
    have rg := ti_rng (z.v 39)
    have e : z' = z := by
      by_cases c : z.v 39 ≤ 0
      · rw [if_pos c] at hz; cases hz; rfl
      · have c' := tn_nle (b := 0) rfl (by decide) c
        rw [if_neg c] at hz
        obtain ⟨_, hz⟩ := guard_inv hz
        rcases hst with e | ⟨m, em, hm⟩
        · exfalso; omega
        · have a : ((z.v 39) - 1).toInt = (z.v 39).toInt - 1 := tn_sub rfl (by decide) (by omega) (by omega)
          have ei : ((z.v 39) - 1).toNatClampNeg = m := clamp_of_int (by omega)
          rw [ei] at hz
          by_cases c6 : z.f 38 m = 6
          · rw [if_pos c6] at hz; cases hz; rfl
          · rw [if_neg c6] at hz
            rcases hm with q | ⟨nt, q⟩
            · exact absurd q c6
            · rw [if_neg nt] at hz
              by_cases c8 : z.f 38 m = 8
              · rw [if_pos c8] at hz; cases hz; rfl
              · rw [if_neg c8] at hz
                rcases q with q | q
                · exact absurd q c8
                · rw [if_pos q] at hz; cases hz; rfl
    rw [e]
    exact ⟨by omega, EmZ.nil h35 rfl rfl rfl⟩
  | cons w P ih =>
    intro n z z' h h39 h35 hS hp hst hz
    obtain ⟨m, em, hm, hS⟩ := hS
    cases n with
    | zero => exact none_ne hz
    | succ n =>
    have hz : r_comesOut_0 (r_comesOut_0L n) z t = some z' := hz
    unfold r_comesOut_0 at hz
    have ec : (z.v 39).toInt.toNat = (z.v 39).toNatClampNeg := Int32.toNat_toInt _
    have rg := ti_rng (z.v 39)
    have c : ¬ z.v 39 ≤ 0 := fun q => by
      have := tn_le (b := 0) rfl (by decide) q
      omega
    have a : ((z.v 39) - 1).toInt = (z.v 39).toInt - 1 := tn_sub rfl (by decide) (by omega) (by omega)
    have ei : ((z.v 39) - 1).toNatClampNeg = m := clamp_of_int (by omega)
    rw [if_neg c] at hz
    obtain ⟨_, hz⟩ := guard_inv hz
    rw [ei, hm] at hz
    have pw := hp w (List.mem_cons_self ..)
    have hz : r_comesOut_42 (r_comesOut_0L n) z t w = some z' := by
      rw [if_neg pw.1] at hz
      rcases pw.2 with q | q
      · rw [if_pos q] at hz; exact hz
      · by_cases t0 : t = 0
        · rw [if_pos t0] at hz; exact hz
        · rw [if_neg t0, if_neg q.1, if_neg q.2] at hz; exact hz
    unfold r_comesOut_42 at hz
    obtain ⟨z1, d1, hz⟩ := letS_inv hz
    have hz : r_comesOut_84 (r_comesOut_0L n) z1 t (kow w) = some z' := by
      unfold kow
      by_cases e8 : w = 8
      · rw [if_pos e8] at hz ⊢; exact hz
      · rw [if_neg e8] at hz ⊢
        by_cases e9 : w = 9
        · rw [if_pos e9] at hz ⊢; exact hz
        · rw [if_neg e9] at hz ⊢
          by_cases e10 : w = 10
          · rw [if_pos e10] at hz ⊢; exact hz
          · rw [if_neg e10] at hz ⊢; exact hz
    unfold r_comesOut_84 at hz
    obtain ⟨z2, he, hz⟩ := bindP_inv hz
    have v1 : z1.v 39 = (z.v 39) - 1 := by rw [← d1]; rfl
    have v135 : z1.v 35 = z.v 35 := by rw [← d1]; rfl
    obtain ⟨E1, F1⟩ := emit_em (by rw [v135]; exact h35) he
    have v2 : z2.v 39 = (z.v 39) - 1 := (F1.1 39 (by decide)).trans v1
    have f2 : z2.f 38 = z.f 38 := (F1.2 38 (by decide)).1.trans (by rw [← d1]; rfl)
    have q1 : (z2.v 35).toInt = (z1.v 35).toInt + 1 := E1.2.1
    rw [v135] at q1
    have r := ih n z2 z' h (by rw [v2]; omega) (by omega) (by rw [f2, v2, ei]; exact hS) (fun q hq => hp q (List.mem_cons_of_mem _ hq)) (by rw [f2]; exact hst) hz
    have E0 : EmZ z z2 [(kow w, 0)] := E1.from v135 (by rw [← d1]; rfl) (by rw [← d1]; rfl)
    exact ⟨r.1, E0.trans r.2⟩
/-! codes that can be gone through over a pile of 16 -/
def Dp : List (Int32 × Int32) → Nat → Nat → Prop
  | [], a, b => a = b
  | p :: l, a, b => (2 ≤ p.1.toInt ∧ 2 ≤ a ∧ Dp l (a - 1) b) ∨ (p.1.toInt ≤ 1 ∧ a < 16 ∧ Dp l (a + 1) b)
theorem Dp.app : ∀ (l m : List (Int32 × Int32)) (a b c : Nat), Dp l a b → Dp m b c → Dp (l ++ m) a c := by
  intro l
  induction l with
  | nil =>
    intro m a b c h1 h2
    have h1 : a = b := h1
    rw [h1]
    exact h2
  | cons p l ih =>
    intro m a b c h1 h2
    rcases h1 with ⟨q1, q2, q3⟩ | ⟨q1, q2, q3⟩
    · exact Or.inl ⟨q1, q2, ih m _ b c q3 h2⟩
    · exact Or.inr ⟨q1, q2, ih m _ b c q3 h2⟩
theorem Dp.op {w : Int32} {a : Nat} : Dp [pk w] (a + 2) (a + 1) := Or.inl ⟨kow_two w, by omega, rfl⟩
/-- what an expression, a product, a unit writes down on both sides; P waits yet in the reference -/
def EMs (t : Int32) (h : Int) (s : KS) (z : RS) (s' : KS) (z' : RS) (l : List (Int32 × Int32)) (P : List Int32) : Prop :=
  EmK s s' ((l ++ P.map pk).map encp) ∧ EmZ z z' l ∧ (0 ≤ (z.v 39).toInt ∧ 0 ≤ (z'.v 39).toInt) ∧ StkOn (z'.f 38) (z.v 39).toNatClampNeg P (z'.v 39).toNatClampNeg ∧ (∀ i, i < (z.v 39).toNatClampNeg → z'.f 38 i = z.f 38 i) ∧ (∀ w ∈ P, PopOK t w) ∧ ((l ++ P.map pk).length : Int) + (s.v 15).toInt ≤ (s'.v 15).toInt ∧ (∀ p ∈ l ++ P.map pk, CDz p) ∧ (∀ a : Nat, (a : Int) + h ≤ 16 → Dp (l ++ P.map pk) a (a + 1))
def PreE (s : KS) (z : RS) : Prop := 0 ≤ (s.v 12).toInt ∧ (s.v 12).toInt ≤ 4 + (s.v 15).toInt ∧ 0 ≤ (z.v 35).toInt ∧ 0 ≤ (z.v 39).toInt
theorem encp_num (v : Int32) : encp (0, v) = v := by
  unfold encp enc
  exact if_pos rfl
theorem encp_var (v : Int32) : encp (1, v) = (-1) - v := by
  unfold encp enc
  rw [if_neg z_one]
  exact if_pos rfl
theorem StkOn.snoc {f : Nat → Int32} {h : Nat} {r : Int32} (hr : f h = r) : ∀ (P : List Int32) (n : Nat), StkOn f (h + 1) P n → StkOn f h (P ++ [r]) n := by
  intro P
  induction P with
  | nil =>
    intro n q
    have q : n = h + 1 := q
    exact ⟨h, q, hr, rfl⟩
  | cons w P ih =>
    intro n q
    obtain ⟨m, e, hm, q⟩ := q
    exact ⟨m, e, hm, ih m q⟩
theorem EMs.unit {h : Int} {s s' : KS} {z z' : RS} {l : List (Int32 × Int32)} (h1 : EmK s s' (l.map encp)) (h2 : EmZ z z' l) (h3 : 0 ≤ (z.v 39).toInt) (e39 : z'.v 39 = z.v 39) (e38 : ∀ i, i < (z.v 39).toNatClampNeg → z'.f 38 i = z.f 38 i) (h6 : (l.length : Int) + (s.v 15).toInt ≤ (s'.v 15).toInt) (h7 : ∀ p ∈ l, CDz p) (h8 : ∀ a : Nat, (a : Int) + h ≤ 16 → Dp l a (a + 1)) : EMs 1 h s z s' z' l [] := by
  have e : l ++ ([] : List Int32).map pk = l := by rw [List.map_nil, List.append_nil]
  unfold EMs
  rw [e]
  refine ⟨h1, h2, ⟨h3, by rw [e39]; exact h3⟩, ?_, e38, (fun w hw => by cases hw), h6, h7, h8⟩
  show (z'.v 39).toNatClampNeg = _
  rw [e39]
theorem EMs.nil0 {t : Int32} {h : Int} {s s' : KS} {z z' : RS} {l : List (Int32 × Int32)} (q : EMs t h s z s' z' l []) : EmK s s' (l.map encp) ∧ EmZ z z' l ∧ (z'.v 39).toInt = (z.v 39).toInt ∧ (∀ i, i < (z.v 39).toNatClampNeg → z'.f 38 i = z.f 38 i) ∧ ((l.length : Int) + (s.v 15).toInt ≤ (s'.v 15).toInt) ∧ (∀ p ∈ l, CDz p) ∧ (∀ a : Nat, (a : Int) + h ≤ 16 → Dp l a (a + 1)) := by
  have e : l ++ ([] : List Int32).map pk = l := by rw [List.map_nil, List.append_nil]
  unfold EMs at q
  rw [e] at q
  obtain ⟨a1, a2, a3, a4, a5, a6, a7, a8, a9⟩ := q
  have a4 : (z'.v 39).toNatClampNeg = (z.v 39).toNatClampNeg := a4
  have e1 : (z.v 39).toInt.toNat = (z.v 39).toNatClampNeg := Int32.toNat_toInt _
  have e2 : (z'.v 39).toInt.toNat = (z'.v 39).toNatClampNeg := Int32.toNat_toInt _
  exact ⟨a1, a2, by omega, a5, a7, a8, a9⟩
theorem EMs.weak {t : Int32} {h : Int} {s s' : KS} {z z' : RS} {l : List (Int32 × Int32)} {P : List Int32} (q : EMs 1 h s z s' z' l P) {h' : Int} (hh : h ≤ h') : EMs t h' s z s' z' l P := by
  obtain ⟨a1, a2, a3, a4, a5, a6, a7, a8, a9⟩ := q
  refine ⟨a1, a2, a3, a4, a5, fun w hw => ?_, a7, a8, fun a ha => a9 a (by omega)⟩
  have q := a6 w hw
  refine ⟨q.1, ?_⟩
  rcases q.2 with c | c
  · exact absurd c z_one
  · exact Or.inr c
theorem EMs.step {t tu : Int32} {h hu : Int} {s0 s s2 s3 s4 : KS} {z0 z w w3 : RS} {l U : List (Int32 × Int32)} {P PU : List Int32} {r : Int32} (E : EMs t h s0 z0 s z l P) (k2 : s2.v 12 = s.v 12) (k2f : s2.f 22 = s.f 22) (l2 : (s2.v 15).toInt = (s.v 15).toInt + 1) (ez : EmZ z w (P.map pk)) (w39 : (w.v 39).toInt = (z0.v 39).toInt + 1) (wtop : w.f 38 (z0.v 39).toNatClampNeg = r) (wlow : ∀ i, i < (z0.v 39).toNatClampNeg → w.f 38 i = z.f 38 i) (EU : EMs tu hu s2 w s3 w3 U PU) (ep : EmK s3 s4 [encp (pk r)]) (e15 : s4.v 15 = s3.v 15) (hpop : PopOK t r) (hpu : ∀ q ∈ PU, PopOK t q) (hh : hu + 1 ≤ h) : EMs t h s0 z0 s4 w3 (l ++ P.map pk ++ U) (PU ++ [r]) := by
  obtain ⟨a1, a2, a3, a4, a5, a6, a7, a8, a9⟩ := E
  obtain ⟨b1, b2, b3, b4, b5, b6, b7, b8, b9⟩ := EU
  have eL : (l ++ P.map pk ++ U) ++ (PU ++ [r]).map pk = ((l ++ P.map pk) ++ (U ++ PU.map pk)) ++ [pk r] := by
    simp only [List.map_append, List.append_assoc, List.map_cons, List.map_nil]
  have eM : (((l ++ P.map pk) ++ (U ++ PU.map pk)) ++ [pk r]).map encp = ((l ++ P.map pk).map encp ++ (U ++ PU.map pk).map encp) ++ [encp (pk r)] := by
    rw [List.map_append (f := encp) (l₁ := (l ++ P.map pk) ++ (U ++ PU.map pk)), List.map_append (f := encp) (l₁ := l ++ P.map pk)]
    rfl
  have ez0 : (z0.v 39).toInt.toNat = (z0.v 39).toNatClampNeg := Int32.toNat_toInt _
  have ew : (w.v 39).toNatClampNeg = (z0.v 39).toNatClampNeg + 1 := clamp_of_int (by omega)
  have a30 := a3.1
  unfold EMs
  rw [eL, eM]
  refine ⟨(a1.trans (b1.from k2 k2f)).trans ep, (a2.trans ez).trans b2, ⟨a3.1, b3.2⟩, ?_, ?_, ?_, ?_, ?_, ?_⟩
  · rw [ew] at b4
    exact StkOn.snoc ((b5 _ (by omega)).trans wtop) PU _ b4
  · intro i hi
    rw [b5 i (by omega), wlow i hi, a5 i hi]
  · intro q hq
    rcases List.mem_append.mp hq with c | c
    · exact hpu q c
    · rw [List.mem_singleton] at c
      rw [c]
      exact hpop
  · have e1 : ((l ++ P.map pk ++ (U ++ PU.map pk)) ++ [pk r]).length = (l ++ P.map pk).length + (U ++ PU.map pk).length + 1 := by
      rw [List.length_append, List.length_append]
      rfl
    rw [e1, e15]
    omega
  · intro q hq
    rcases List.mem_append.mp hq with c | c
    · rcases List.mem_append.mp c with c | c
      · exact a8 q c
      · exact b8 q c
    · rw [List.mem_singleton] at c
      rw [c]
      exact CDz.pk r
  · intro a ha
    exact Dp.app _ _ _ _ _ (Dp.app _ _ _ _ _ (a9 a ha) (b9 (a + 1) (by omega))) Dp.op
