section
/-! ===== two programs beside each other: what is said of an end that is given ===== -/
noncomputable def Pt {α : Type} (o : Option α) (Q : α → Prop) : Prop := ∀ y, o = some y → Q y
theorem pt_some {α : Type} {y : α} {Q : α → Prop} (h : Q y) : Pt (some y) Q := fun z e => by cases e; exact h
theorem pt_none {α : Type} {Q : α → Prop} : Pt (none : Option α) Q := fun z e => by cases e
theorem pt_ite {α : Type} {c : Prop} [Decidable c] {A B : Option α} {Q : α → Prop} (h1 : c → Pt A Q) (h2 : ¬ c → Pt B Q) : Pt (if c then A else B) Q := by
  by_cases h : c
  · rw [if_pos h]; exact h1 h
  · rw [if_neg h]; exact h2 h
theorem pt_let {σ α : Type} {S : σ} {k : σ → Option α} {P : σ → Prop} {Q : α → Prop} (hp : P S) (h : ∀ s, P s → Pt (k s) Q) : Pt (letS S k) Q := h S hp
theorem pt_bindI {σ α : Type} {o : Option (Int32 × σ)} {k : Int32 → σ → Option α} {P : Int32 × σ → Prop} {Q : α → Prop} (h : Pt o P) (hk : ∀ r s, P (r, s) → Pt (k r s) Q) : Pt (bindI o k) Q := fun y e => by
  obtain ⟨r, s, e1, e2⟩ := bindI_inv e
  exact hk r s (h _ e1) y e2
theorem pt_bindP {τ α : Type} {o : Option τ} {k : τ → Option α} {P : τ → Prop} {Q : α → Prop} (h : Pt o P) (hk : ∀ r, P r → Pt (k r) Q) : Pt (bindP o k) Q := fun y e => by
  obtain ⟨r, e1, e2⟩ := bindP_inv e
  exact hk r (h _ e1) y e2
theorem bindP_id {α : Type} (o : Option α) : (bindP o fun s => some s) = o := by
  cases o <;> rfl
/-- a kind of the class, and the reference's for it -/
noncomputable def kpl : List (Int32 × Int32) := [(256, 20), (257, 21), (258, 22), (259, 23), (260, 24), (261, 25), (262, 26), (263, 27), (264, 28), (265, 29), (266, 30), (267, 31), (268, 32), (269, 33), (270, 34), (271, 35), (272, 36), (273, 37), (274, 38), (300, 1), (301, 2), (302, 0), (303, 3), (59, 4), (61, 5), (40, 6), (41, 7), (43, 8), (45, 9), (42, 10), (60, 13), (47, 15)]
noncomputable def KP (c r : Int32) : Prop := ∃ p, p ∈ kpl ∧ c = p.1 ∧ r = p.2
theorem kpl_inj : ∀ p ∈ kpl, ∀ q ∈ kpl, (p.1 = q.1 ↔ p.2 = q.2) := by decide +kernel
theorem kpl_var : ∀ p ∈ kpl, ((¬ (p.1 - 266 < 0) ∧ ¬ (9 ≤ p.1 - 266)) ↔ (¬ p.2 < 30 ∧ ¬ 38 < p.2)) := by decide +kernel
theorem kpl_law : ∀ p ∈ kpl, ((¬ (p.1 - 258 < 0) ∧ ¬ (4 ≤ p.1 - 258)) ↔ (¬ (p.2 - 22 < 0) ∧ p.2 ≤ 25)) := by decide +kernel
theorem kpl_lawn : ∀ p ∈ kpl, (¬ (p.1 - 258 < 0) ∧ ¬ (4 ≤ p.1 - 258)) → (p.1 - 258 = p.2 - 22 ∧ ¬ p.1 = 302 ∧ ¬ p.1 = 303) := by decide +kernel
theorem kpl_varn : ∀ p ∈ kpl, (¬ (p.1 - 266 < 0) ∧ ¬ (9 ≤ p.1 - 266)) → (¬ p.1 = 302 ∧ ¬ p.1 = 303) := by decide +kernel
theorem kp2 {c r c0 r0 : Int32} (h : KP c r) (h0 : ((c0, r0) : Int32 × Int32) ∈ kpl) : c = c0 ↔ r = r0 := by
  obtain ⟨p, hp, rfl, rfl⟩ := h
  exact kpl_inj p hp (c0, r0) h0
noncomputable abbrev KAt (s : KS) : Int32 := s.f 32 (s.v 15).toNatClampNeg
noncomputable abbrev ZAt (z : RS) : Int32 := z.f 5 (z.v 11).toNatClampNeg
noncomputable def kfl (s : KS) (x : Int32) : KS := (s.sv 16 x).sv 17 (s.f 33 (s.v 15).toNatClampNeg)
noncomputable def zfl (z : RS) (x : Int32) : RS := (z.sv 13 x).sv 14 (z.f 6 (z.v 11).toNatClampNeg)
noncomputable def kad (s : KS) : KS := s.sv 15 ((s.v 15) + 1)
noncomputable def zad (z : RS) : RS := z.sv 11 ((z.v 11) + 1)
theorem kat_yes {s : KS} {x : Int32} (h : s.v 16 = 0) (hv : vpb (s.v 15) 401 = true) (c : KAt s = x) : kX4_isAt s x = some (1, s) := by
  unfold kX4_isAt
  rw [if_pos h, if_pos hv]
  exact if_pos c
theorem kat_no {s : KS} {x : Int32} (h : s.v 16 = 0) (hv : vpb (s.v 15) 401 = true) (c : ¬ KAt s = x) : kX4_isAt s x = some (0, s) := by
  unfold kX4_isAt
  rw [if_pos h, if_pos hv]
  exact if_neg c
theorem kat_off {s : KS} {x : Int32} (h : ¬ s.v 16 = 0) : kX4_isAt s x = some (0, s) := by
  unfold kX4_isAt
  exact if_neg h
theorem kfail_eq {s : KS} {x : Int32} (h : s.v 16 = 0) (hv : vpb (s.v 15) 401 = true) : kX4_fail s x = some (kfl s x) := by
  unfold kX4_fail
  rw [if_pos h]
  exact if_pos hv
theorem kfail_off {s : KS} {x : Int32} (h : ¬ s.v 16 = 0) : kX4_fail s x = some s := by
  unfold kX4_fail
  exact if_neg h
theorem ktake_yes {s : KS} {x : Int32} (h : s.v 16 = 0) (hv : vpb (s.v 15) 401 = true) (c : KAt s = x) (hl : s.v 15 < 400) : kX4_take s x = some (kad s) := by
  unfold kX4_take
  rw [kat_yes h hv c, bindI_some, if_neg z_one, if_pos hl]
  rfl
theorem ktake_room {s : KS} {x : Int32} (h : s.v 16 = 0) (hv : vpb (s.v 15) 401 = true) (c : KAt s = x) (hl : ¬ s.v 15 < 400) : kX4_take s x = some (kfl s 2) := by
  unfold kX4_take
  rw [kat_yes h hv c, bindI_some, if_neg z_one, if_neg hl, kfail_eq h hv]
  rfl
theorem ktake_no {s : KS} {x : Int32} (h : s.v 16 = 0) (hv : vpb (s.v 15) 401 = true) (c : ¬ KAt s = x) : kX4_take s x = some (kfl s 1) := by
  unfold kX4_take
  rw [kat_no h hv c, bindI_some, if_pos rfl, kfail_eq h hv]
  rfl
theorem ktake_off {s : KS} {x : Int32} (h : ¬ s.v 16 = 0) : kX4_take s x = some s := by
  unfold kX4_take
  rw [kat_off h, bindI_some, if_pos rfl, kfail_off h]
  rfl
theorem zis_yes {z : RS} {x : Int32} (h : z.v 13 = 0) (hv : vpb (z.v 11) 403 = true) (c : ZAt z = x) : r_is z x = some (1, z) := by
  unfold r_is
  rw [if_pos h, if_pos hv]
  exact if_pos c
theorem zis_no {z : RS} {x : Int32} (h : z.v 13 = 0) (hv : vpb (z.v 11) 403 = true) (c : ¬ ZAt z = x) : r_is z x = some (0, z) := by
  unfold r_is
  rw [if_pos h, if_pos hv]
  exact if_neg c
theorem zis_off {z : RS} {x : Int32} (h : ¬ z.v 13 = 0) : r_is z x = some (0, z) := by
  unfold r_is
  exact if_neg h
theorem zfail_eq {z : RS} {x : Int32} (h : z.v 13 = 0) (hv : vpb (z.v 11) 403 = true) : r_fail z x = some (zfl z x) := by
  have q : z.v 13 ≤ 0 := by rw [h]; decide
  unfold r_fail
  rw [if_pos q]
  exact if_pos hv
theorem zfail_off {z : RS} {x : Int32} (h : 0 < (z.v 13).toInt) : r_fail z x = some z := by
  have q : ¬ z.v 13 ≤ 0 := fun c => by
    have := tn_le (b := 0) rfl (by decide) c
    omega
  unfold r_fail
  exact if_neg q
theorem zgo_ok {z : RS} (c : ¬ z.v 11 = 400) : r_goesOn z = some (zad z) := by
  unfold r_goesOn
  rw [if_neg c]
  rfl
theorem zgo_room {z : RS} (h : z.v 13 = 0) (hv : vpb (z.v 11) 403 = true) (c : z.v 11 = 400) : r_goesOn z = some (zfl z 2) := by
  unfold r_goesOn
  rw [if_pos c, zfail_eq h hv]
  rfl
theorem zmust_yes {z : RS} {x : Int32} (h : z.v 13 = 0) (hv : vpb (z.v 11) 403 = true) (c : ZAt z = x) : r_must z x = r_goesOn z := by
  unfold r_must
  rw [zis_yes h hv c, bindI_some, if_neg z_one]
  exact bindP_id _
theorem zmust_no {z : RS} {x : Int32} (h : z.v 13 = 0) (hv : vpb (z.v 11) 403 = true) (c : ¬ ZAt z = x) : r_must z x = some (zfl z 1) := by
  unfold r_must
  rw [zis_no h hv c, bindI_some, if_pos rfl, zfail_eq h hv]
  rfl
/-! the names: the same letters, by 32 and by 27 -/
noncomputable def lval (b : Nat) : List Nat → Nat
  | [] => 0
  | c :: l => b * lval b l + c
noncomputable def NmR (a b : Int64) : Prop := ∃ l : List Nat, l.length ≤ 8 ∧ (∀ c ∈ l, 1 ≤ c ∧ c ≤ 26) ∧ a.toInt = (lval 32 l : Int) ∧ b.toInt = (lval 27 l : Int)
theorem lval_inj (b : Nat) (hb : 27 ≤ b) : ∀ (l l' : List Nat), (∀ c ∈ l, 1 ≤ c ∧ c ≤ 26) → (∀ c ∈ l', 1 ≤ c ∧ c ≤ 26) → lval b l = lval b l' → l = l' := by
  intro l
  induction l with
  | nil =>
    intro l' _ h' e
    cases l' with
    | nil => rfl
    | cons c l' =>
      have := (h' c (List.mem_cons_self ..)).1
      have e : 0 = b * lval b l' + c := e
      omega
  | cons d l ih =>
    intro l' h h' e
    have hd := h d (List.mem_cons_self ..)
    cases l' with
    | nil =>
      have e : b * lval b l + d = 0 := e
      omega
    | cons c l' =>
      have hc := h' c (List.mem_cons_self ..)
      have e : b * lval b l + d = b * lval b l' + c := e
      have m1 : (b * lval b l + d) % b = d := by rw [Nat.mul_add_mod, Nat.mod_eq_of_lt (by omega)]
      have m2 : (b * lval b l' + c) % b = c := by rw [Nat.mul_add_mod, Nat.mod_eq_of_lt (by omega)]
      have ec : d = c := by rw [← m1, e, m2]
      subst ec
      have e2 : lval b l = lval b l' := Nat.eq_of_mul_eq_mul_left (by omega : 0 < b) (by omega)
      rw [ih l' (fun q hq => h q (List.mem_cons_of_mem _ hq)) (fun q hq => h' q (List.mem_cons_of_mem _ hq)) e2]
theorem NmR.iff {a b a' b' : Int64} (h : NmR a b) (h' : NmR a' b') : a = a' ↔ b = b' := by
  obtain ⟨l, _, h2, h3, h4⟩ := h
  obtain ⟨l', _, k2, k3, k4⟩ := h'
  constructor
  · intro e
    rw [e, k3] at h3
    have q : l' = l := lval_inj 32 (by omega) _ _ k2 h2 (by omega)
    rw [q] at k4
    exact Int64.toInt_inj.mp (h4.trans k4.symm)
  · intro e
    rw [e, k4] at h4
    have q : l' = l := lval_inj 27 (by omega) _ _ k2 h2 (by omega)
    rw [q] at k3
    exact Int64.toInt_inj.mp (h3.trans k3.symm)
theorem cmp_zero {a b : Int64} : lg_cmp a b = 0 ↔ a = b := by
  unfold lg_cmp
  constructor
  · intro h
    by_cases c : a > b
    · rw [if_pos c] at h; exact absurd h z_one
    · rw [if_neg c] at h
      by_cases c2 : a = b
      · exact c2
      · rw [if_neg c2] at h; exact absurd h (by decide)
  · intro h
    subst h
    have q : ¬ a > a := fun q => by
      have := Int64.lt_iff_toInt_lt.mp q
      omega
    rw [if_neg q, if_pos rfl]
/-! the two parsers in their places, and both at fault -/
noncomputable def PR2 (N : Nat) (s : KS) (z : RS) : Prop := s.v 16 = 0 ∧ z.v 13 = 0 ∧ s.v 15 = z.v 11 ∧ 0 ≤ (s.v 15).toInt ∧ (s.v 15).toInt ≤ (N : Int) ∧ N ≤ 400
noncomputable def FR2 (s : KS) (z : RS) : Prop := 0 < (z.v 13).toInt ∧ s.v 16 = z.v 13 ∧ s.v 17 = z.v 14
/-- the tokens of both, up to the N-th -/
noncomputable def TK2 (N : Nat) (s : KS) (z : RS) : Prop := (∀ i, i ≤ N → KP (s.f 32 i) (z.f 5 i) ∧ s.f 33 i = z.f 6 i ∧ (s.f 32 i = 301 → Int64.toInt32 (s.g 34 i) = z.f 7 i ∧ 0 ≤ (z.f 7 i).toInt ∧ (z.f 7 i).toInt ≤ 9999) ∧ (s.f 32 i = 300 → NmR (s.g 34 i) (z.g 8 i))) ∧ (N = 400 ∨ s.f 32 N = 302 ∨ s.f 32 N = 303) ∧ (∀ i j, i < j → j ≤ N → (z.f 6 i).toInt < (z.f 6 j).toInt)
theorem TK2.fr {N : Nat} {s s' : KS} {z z' : RS} {W W' : List Nat} (h : TK2 N s z) (h1 : FrK W s s') (h2 : FrR W' z z') (hW : 132 ∉ W ∧ 133 ∉ W ∧ 134 ∉ W) (hW' : 105 ∉ W' ∧ 106 ∉ W' ∧ 107 ∉ W' ∧ 108 ∉ W') : TK2 N s' z' := by
  unfold TK2
  rw [(h1.2 32 hW.1).1, (h1.2 33 hW.2.1).1, (h1.2 34 hW.2.2).2, (h2.2 5 hW'.1).1, (h2.2 6 hW'.2.1).1, (h2.2 7 hW'.2.2.1).1, (h2.2 8 hW'.2.2.2).2]
  exact h
theorem PR2.kv {N : Nat} {s : KS} {z : RS} (h : PR2 N s z) : vpb (s.v 15) 401 = true := by
  obtain ⟨_, _, _, h3, h4, h5⟩ := h
  exact vpb_ok h3 (by omega)
theorem PR2.zv {N : Nat} {s : KS} {z : RS} (h : PR2 N s z) : vpb (z.v 11) 403 = true := by
  obtain ⟨_, _, e, h3, h4, h5⟩ := h
  rw [← e]
  exact vpb_ok h3 (by omega)
theorem PR2.le {N : Nat} {s : KS} {z : RS} (h : PR2 N s z) : (s.v 15).toNatClampNeg ≤ N := by
  obtain ⟨_, _, _, h3, h4, _⟩ := h
  have e : (s.v 15).toInt.toNat = (s.v 15).toNatClampNeg := Int32.toNat_toInt _
  omega
theorem PR2.kp {N : Nat} {s : KS} {z : RS} (h : PR2 N s z) (hT : TK2 N s z) : KP (KAt s) (ZAt z) := by
  have q := (hT.1 _ h.le).1
  unfold KAt ZAt
  rw [← h.2.2.1]
  exact q
theorem PR2.fail {N : Nat} {s : KS} {z : RS} (h : PR2 N s z) (hT : TK2 N s z) (x : Int32) (hx : 0 < x.toInt) : FR2 (kfl s x) (zfl z x) := by
  have q := (hT.1 _ h.le).2.1
  refine ⟨hx, rfl, ?_⟩
  show s.f 33 (s.v 15).toNatClampNeg = z.f 6 (z.v 11).toNatClampNeg
  rw [← h.2.2.1]
  exact q
theorem PR2.lt {N : Nat} {s : KS} {z : RS} (h : PR2 N s z) (hl : ¬ s.v 15 = 400) : s.v 15 < 400 ∧ (s.v 15).toInt < 400 ∧ ¬ z.v 11 = 400 := by
  obtain ⟨_, _, e, h3, h4, h5⟩ := h
  have q := tn_ne (b := 400) rfl (by decide) hl
  refine ⟨Int32.lt_iff_toInt_lt.mpr ?_, by omega, by rw [← e]; exact hl⟩
  rw [show (400 : Int32).toInt = 400 from by decide]
  omega
theorem PR2.adv {N : Nat} {s : KS} {z : RS} (h : PR2 N s z) (hT : TK2 N s z) (h1 : ¬ KAt s = 302) (h2 : ¬ KAt s = 303) (hl : ¬ s.v 15 = 400) : PR2 N (kad s) (zad z) ∧ ((kad s).v 15).toInt = (s.v 15).toInt + 1 := by
  have hlt := (h.lt hl).2.1
  obtain ⟨e16, e13, e, h3, h4, h5⟩ := h
  have a : ((s.v 15) + 1).toInt = (s.v 15).toInt + 1 := tn_add rfl (by decide) (by omega) (by omega)
  have ei : (s.v 15).toInt.toNat = (s.v 15).toNatClampNeg := Int32.toNat_toInt _
  have hn : ¬ (s.v 15).toInt = (N : Int) := fun q => by
    have qn : (s.v 15).toNatClampNeg = N := by omega
    unfold KAt at h1 h2
    rw [qn] at h1 h2
    rcases hT.2.1 with c | c | c
    · omega
    · exact h1 c
    · exact h2 c
  refine ⟨⟨e16, e13, ?_, ?_, ?_, h5⟩, a⟩
  · show (s.v 15) + 1 = (z.v 11) + 1
    rw [e]
  · show 0 ≤ ((s.v 15) + 1).toInt
    omega
  · show ((s.v 15) + 1).toInt ≤ (N : Int)
    omega
theorem step2 {N : Nat} {s : KS} {z : RS} (h : PR2 N s z) (hT : TK2 N s z) {c r : Int32} (hm : ((c, r) : Int32 × Int32) ∈ kpl) (hc : ¬ c = 302 ∧ ¬ c = 303) : ∃ s' z', kX4_take s c = some s' ∧ r_must z r = some z' ∧ ((KAt s = c ∧ s' = kad s ∧ z' = zad z ∧ PR2 N s' z' ∧ (s'.v 15).toInt = (s.v 15).toInt + 1) ∨ (FR2 s' z' ∧ FrK [16, 17] s s' ∧ FrR [13, 14] z z')) := by
  have hi := kp2 (h.kp hT) hm
  have F1 : ∀ x, FrK [16, 17] s (kfl s x) := fun x => (FrK.rfl.sv (by decide)).sv (by decide)
  have F2 : ∀ x, FrR [13, 14] z (zfl z x) := fun x => (FrR.rfl.sv (by decide)).sv (by decide)
  by_cases e : KAt s = c
  · by_cases hl : s.v 15 = 400
    · have hl2 : z.v 11 = 400 := by rw [← h.2.2.1]; exact hl
      have nl : ¬ s.v 15 < 400 := by rw [hl]; decide
      refine ⟨_, _, ktake_room h.1 h.kv e nl, (zmust_yes h.2.1 h.zv (hi.mp e)).trans (zgo_room h.2.1 h.zv hl2), Or.inr ⟨h.fail hT 2 (by decide), F1 2, F2 2⟩⟩
    · have q := h.lt hl
      have a := h.adv hT (fun q => hc.1 (e.symm.trans q)) (fun q => hc.2 (e.symm.trans q)) hl
      refine ⟨_, _, ktake_yes h.1 h.kv e q.1, (zmust_yes h.2.1 h.zv (hi.mp e)).trans (zgo_ok q.2.2), Or.inl ⟨e, rfl, rfl, a.1, a.2⟩⟩
  · refine ⟨_, _, ktake_no h.1 h.kv e, zmust_no h.2.1 h.zv (fun q => e (hi.mpr q)), Or.inr ⟨h.fail hT 1 (by decide), F1 1, F2 1⟩⟩
/-! ===== behind a fault nothing changes: the class ===== -/
noncomputable def Sk (a b : Int32) (s : KS) : Prop := s.v 16 = a ∧ s.v 17 = b
theorem Sk.ne {a b : Int32} (ha : ¬ a = 0) {s : KS} (h : Sk a b s) : ¬ s.v 16 = 0 := by rw [h.1]; exact ha
theorem sk_isAt {a b : Int32} (ha : ¬ a = 0) {s : KS} (x : Int32) (h : Sk a b s) : Pt (kX4_isAt s x) (fun y => y.1 = 0 ∧ Sk a b y.2) := by
  rw [kat_off (Sk.ne ha h)]
  exact pt_some ⟨rfl, h⟩
theorem sk_fail {a b : Int32} (ha : ¬ a = 0) {s : KS} (x : Int32) (h : Sk a b s) : Pt (kX4_fail s x) (Sk a b) := by
  rw [kfail_off (Sk.ne ha h)]
  exact pt_some h
theorem sk_take {a b : Int32} (ha : ¬ a = 0) {s : KS} (x : Int32) (h : Sk a b s) : Pt (kX4_take s x) (Sk a b) := by
  rw [ktake_off (Sk.ne ha h)]
  exact pt_some h
theorem sk_failLater {a b : Int32} {s : KS} (x p : Int32) (h : Sk a b s) : Pt (kX4_failLater s x p) (Sk a b) := by
  unfold kX4_failLater
  refine pt_ite (fun _ => ?_) (fun _ => pt_some h)
  refine pt_let (P := Sk a b) h (fun s h => ?_)
  exact pt_let (P := Sk a b) h (fun s h => pt_some h)
theorem sk_put {a b : Int32} {s : KS} (x : Int32) (h : Sk a b s) : Pt (kX1_put s x) (Sk a b) := by
  unfold kX1_put
  refine pt_ite (fun _ => pt_some h) (fun _ => pt_ite (fun _ => ?_) (fun _ => pt_none))
  refine pt_let (P := Sk a b) h (fun s h => ?_)
  exact pt_let (P := Sk a b) h (fun s h => pt_some h)
theorem sk_endPart {a b : Int32} {s : KS} (h : Sk a b s) : Pt (kX1_endPart s) (Sk a b) := by
  unfold kX1_endPart
  refine pt_ite (fun _ => ?_) (fun _ => pt_none)
  refine pt_ite (fun _ => pt_some h) (fun _ => pt_ite (fun _ => ?_) (fun _ => pt_none))
  refine pt_let (P := Sk a b) h (fun s h => ?_)
  refine pt_ite (fun _ => ?_) (fun _ => pt_none)
  exact pt_let (P := Sk a b) h (fun s h => pt_some h)
theorem sk_begin {a b : Int32} {s : KS} (x : Int32) (h : Sk a b s) : Pt (kX1_begin s x) (Sk a b) := by
  unfold kX1_begin
  refine pt_let (P := Sk a b) h (fun s h => ?_)
  refine pt_ite (fun _ => ?_) (fun _ => pt_none)
  refine pt_let (P := Sk a b) h (fun s h => ?_)
  refine pt_ite (fun _ => ?_) (fun _ => pt_none)
  exact pt_let (P := Sk a b) h (fun s h => pt_some h)
theorem sk_takeInt {a b : Int32} (ha : ¬ a = 0) {s : KS} (x : Int32) (h : Sk a b s) : Pt (kX4_takeInt s x) (fun y => Sk a b y.2) := by
  unfold kX4_takeInt
  refine pt_ite (fun _ => ?_) (fun _ => pt_none)
  refine pt_bindI (sk_isAt ha _ h) (fun r s1 h1 => ?_)
  obtain ⟨hr, h1⟩ := h1
  have hr : r = 0 := hr
  rw [hr, if_pos rfl]
  unfold kX4_takeInt_46
  exact pt_bindP (sk_take ha _ h1) (fun s h => pt_some h)
theorem sk_readUnit {a b : Int32} (ha : ¬ a = 0) {R : KS → Int32 → Option KS} (hR : ∀ s x, Sk a b s → Pt (R s x) (Sk a b)) {s : KS} (x : Int32) (h : Sk a b s) : Pt (kX4_readUnit R s x) (Sk a b) := by
  have h114 : ∀ s, Sk a b s → Pt (kX4_readUnit_114 R s x) (Sk a b) := fun s h => by
    unfold kX4_readUnit_114
    refine pt_bindI (sk_isAt ha _ h) (fun r s1 h1 => ?_)
    obtain ⟨hr, h1⟩ := h1
    have hr : r = 0 := hr
    rw [hr, if_pos rfl]
    exact pt_bindP (sk_fail ha _ h1) (fun s h => pt_some h)
  have h91 : ∀ s, Sk a b s → Pt (kX4_readUnit_91 R s x) (Sk a b) := fun s h => by
    unfold kX4_readUnit_91
    refine pt_bindI (sk_isAt ha _ h) (fun r s1 h1 => ?_)
    obtain ⟨hr, h1⟩ := h1
    have hr : r = 0 := hr
    rw [hr, if_pos rfl]
    exact h114 _ h1
  unfold kX4_readUnit
  refine pt_ite (fun _ => ?_) (fun _ => pt_none)
  refine pt_bindI (sk_isAt ha _ h) (fun r s1 h1 => ?_)
  obtain ⟨hr, h1⟩ := h1
  have hr : r = 0 := hr
  rw [hr, if_pos rfl]
  refine pt_ite (fun _ => h91 _ h1) (fun _ => pt_ite (fun _ => h91 _ h1) (fun _ => ?_))
  unfold kX1_putVar
  refine pt_bindP (P := Sk a b) (pt_bindP (sk_put _ h1) (fun s h => pt_some h)) (fun s h => ?_)
  exact pt_bindP (sk_take ha _ h) (fun s h => pt_some h)
theorem sk_readProduct_7L {a b : Int32} (ha : ¬ a = 0) {R : KS → Int32 → Option KS} (n : Nat) {s : KS} (x x2 : Int32) (h : Sk a b s) : Pt (kX4_readProduct_7L R n s x x2) (Sk a b) := by
  cases n with
  | zero => exact pt_none
  | succ n =>
    show Pt (kX4_readProduct_7 R (kX4_readProduct_7L R n) s x x2) _
    unfold kX4_readProduct_7
    refine pt_ite (fun _ => pt_some h) (fun _ => ?_)
    rw [kat_off (Sk.ne ha h), bindI_some, if_pos rfl, kat_off (Sk.ne ha h), bindI_some, if_pos rfl]
    exact pt_some h
theorem sk_readSum_7L {a b : Int32} (ha : ¬ a = 0) {R : KS → Int32 → Option KS} (n : Nat) {s : KS} (x x2 : Int32) (h : Sk a b s) : Pt (kX4_readSum_7L R n s x x2) (Sk a b) := by
  cases n with
  | zero => exact pt_none
  | succ n =>
    show Pt (kX4_readSum_7 R (kX4_readSum_7L R n) s x x2) _
    unfold kX4_readSum_7
    refine pt_ite (fun _ => pt_some h) (fun _ => ?_)
    rw [kat_off (Sk.ne ha h), bindI_some, if_pos rfl, kat_off (Sk.ne ha h), bindI_some, if_pos rfl]
    exact pt_some h
theorem sk_readProduct {a b : Int32} (ha : ¬ a = 0) {R : KS → Int32 → Option KS} (hR : ∀ s x, Sk a b s → Pt (R s x) (Sk a b)) {s : KS} (x : Int32) (h : Sk a b s) : Pt (kX4_readProduct R s x) (Sk a b) := by
  unfold kX4_readProduct
  exact pt_bindP (sk_readUnit ha hR _ h) (fun s h => sk_readProduct_7L ha _ _ _ h)
theorem sk_readSum {a b : Int32} (ha : ¬ a = 0) {R : KS → Int32 → Option KS} (hR : ∀ s x, Sk a b s → Pt (R s x) (Sk a b)) {s : KS} (x : Int32) (h : Sk a b s) : Pt (kX4_readSum R s x) (Sk a b) := by
  unfold kX4_readSum
  exact pt_bindP (sk_readProduct ha hR _ h) (fun s h => sk_readSum_7L ha _ _ _ h)
theorem sk_readSumR {a b : Int32} (ha : ¬ a = 0) : ∀ (n : Nat) (s : KS) (x : Int32), Sk a b s → Pt (kX4_readSumR n s x) (Sk a b) := by
  intro n
  induction n with
  | zero => intro s x _; exact pt_none
  | succ n ih => intro s x h; exact sk_readSum ha ih x h
theorem sk_readPart {a b : Int32} (ha : ¬ a = 0) {s : KS} (x : Int32) (h : Sk a b s) : Pt (kX4_readPart s x) (Sk a b) := by
  unfold kX4_readPart
  refine pt_bindP (sk_readSumR ha 8 _ _ h) (fun s h => ?_)
  refine pt_bindP (sk_endPart h) (fun s h => ?_)
  exact pt_bindP (sk_take ha _ h) (fun s h => pt_some h)
theorem sk_readLaw_19L {a b : Int32} (ha : ¬ a = 0) {s : KS} (n : Nat) (x : Int32) (h : Sk a b s) : Pt (kX4_readLaw_19L n s x) (Sk a b) := by
  have h77 : ∀ s, Sk a b s → Pt (kX4_readLaw_77 s) (Sk a b) := fun s h => by
    unfold kX4_readLaw_77
    exact pt_bindP (sk_readPart ha _ h) (fun s h => pt_some h)
  cases n with
  | zero => exact pt_none
  | succ n =>
    show Pt (kX4_readLaw_19 (kX4_readLaw_19L n) s x) _
    unfold kX4_readLaw_19
    refine pt_ite (fun _ => h77 _ h) (fun _ => ?_)
    refine pt_bindI (sk_isAt ha _ h) (fun r s1 h1 => ?_)
    obtain ⟨hr, h1⟩ := h1
    have hr : r = 0 := hr
    rw [hr, if_pos rfl]
    exact h77 _ h1
theorem sk_readWave_30L {a b : Int32} (ha : ¬ a = 0) : ∀ (n : Nat) (s : KS) (x1 x2 x3 : Int32), Sk a b s → Pt (kX4_readWave_30L n s x1 x2 x3) (Sk a b) := by
  have h100 : ∀ s, Sk a b s → Pt (kX4_readWave_100 s) (Sk a b) := fun s h => by
    unfold kX4_readWave_100
    refine pt_bindP (sk_take ha _ h) (fun s h => ?_)
    exact pt_let (P := Sk a b) h (fun s h => pt_some h)
  intro n
  induction n with
  | zero => intro s x1 x2 x3 _; exact pt_none
  | succ n ih =>
    intro s x1 x2 x3 h
    show Pt (kX4_readWave_30 (kX4_readWave_30L n) s x1 x2 x3) _
    unfold kX4_readWave_30
    refine pt_ite (fun _ => ?_) (fun _ => ?_)
    · exact pt_ite (fun _ => pt_bindP (sk_failLater _ _ h) (fun s h => h100 _ h)) (fun _ => h100 _ h)
    · refine pt_ite (fun _ => ?_) (fun _ => pt_none)
      refine pt_bindI (sk_takeInt ha _ h) (fun r s1 h1 => ?_)
      have h1 : Sk a b s1 := h1
      refine pt_ite (fun _ => ?_) (fun _ => pt_none)
      exact pt_let (P := Sk a b) h1 (fun s h => ih _ _ _ _ h)
theorem sk_readParty_73 {a b : Int32} (ha : ¬ a = 0) {s : KS} (x : Int64) (h : Sk a b s) : Pt (kX4_readParty_73 s x) (Sk a b) := by
  unfold kX4_readParty_73
  refine pt_bindP (sk_take ha _ h) (fun s h => ?_)
  refine pt_ite (fun _ => ?_) (fun _ => pt_none)
  refine pt_let (P := Sk a b) h (fun s h => ?_)
  refine pt_bindI (sk_takeInt ha _ h) (fun r s1 h1 => ?_)
  have h1 : Sk a b s1 := h1
  refine pt_ite (fun _ => ?_) (fun _ => pt_none)
  refine pt_let (P := Sk a b) h1 (fun s h => ?_)
  refine pt_bindI (sk_takeInt ha _ h) (fun r s1 h1 => ?_)
  have h1 : Sk a b s1 := h1
  refine pt_ite (fun _ => ?_) (fun _ => pt_none)
  refine pt_let (P := Sk a b) h1 (fun s h => ?_)
  refine pt_bindP (sk_take ha _ h) (fun s h => ?_)
  exact pt_let (P := Sk a b) h (fun s h => pt_some h)
end
section
/-! ===== behind a fault nothing changes: the reference ===== -/
noncomputable def Sz (a b : Int32) (z : RS) : Prop := z.v 13 = a ∧ z.v 14 = b
theorem Sz.pos {a b : Int32} (ha : 0 < a.toInt) {z : RS} (h : Sz a b z) : 0 < (z.v 13).toInt := by rw [h.1]; exact ha
theorem Sz.ne {a b : Int32} (ha : 0 < a.toInt) {z : RS} (h : Sz a b z) : ¬ z.v 13 = 0 := fun q => by
  have p := Sz.pos ha h
  rw [q] at p
  exact absurd p (by decide)
theorem Sz.nle {a b : Int32} (ha : 0 < a.toInt) {z : RS} (h : Sz a b z) : ¬ z.v 13 ≤ 0 := fun c => by
  have p := Sz.pos ha h
  have := tn_le (b := 0) rfl (by decide) c
  omega
theorem Sz.lt {a b : Int32} (ha : 0 < a.toInt) {z : RS} (h : Sz a b z) : 0 < z.v 13 := by
  have p := Sz.pos ha h
  refine Int32.lt_iff_toInt_lt.mpr ?_
  rw [show (0 : Int32).toInt = 0 from by decide]
  exact p
theorem sz_is {a b : Int32} (ha : 0 < a.toInt) {z : RS} (x : Int32) (h : Sz a b z) : Pt (r_is z x) (fun y => y.1 = 0 ∧ Sz a b y.2) := by
  rw [zis_off (Sz.ne ha h)]
  exact pt_some ⟨rfl, h⟩
theorem sz_fail {a b : Int32} (ha : 0 < a.toInt) {z : RS} (x : Int32) (h : Sz a b z) : Pt (r_fail z x) (Sz a b) := by
  rw [zfail_off (Sz.pos ha h)]
  exact pt_some h
theorem sz_goesOn {a b : Int32} (ha : 0 < a.toInt) {z : RS} (h : Sz a b z) : Pt (r_goesOn z) (Sz a b) := by
  unfold r_goesOn
  refine pt_ite (fun _ => ?_) (fun _ => ?_)
  · exact pt_bindP (sz_fail ha _ h) (fun s h => pt_some h)
  · exact pt_let (P := Sz a b) h (fun s h => pt_some h)
theorem sz_must {a b : Int32} (ha : 0 < a.toInt) {z : RS} (x : Int32) (h : Sz a b z) : Pt (r_must z x) (Sz a b) := by
  unfold r_must
  refine pt_bindI (sz_is ha _ h) (fun r s1 h1 => ?_)
  obtain ⟨hr, h1⟩ := h1
  have hr : r = 0 := hr
  rw [hr, if_pos rfl]
  exact pt_bindP (sz_fail ha _ h1) (fun s h => pt_some h)
theorem sz_wrong {a b : Int32} (ha : 0 < a.toInt) {z : RS} (x k : Int32) (h : Sz a b z) : Pt (r_wrong z x k) (Sz a b) := by
  unfold r_wrong
  refine pt_ite (fun _ => ?_) (fun _ => pt_none)
  rw [if_pos (Sz.lt ha h)]
  exact pt_some h
theorem sz_bounded {a b : Int32} (ha : 0 < a.toInt) {z : RS} (x : Int32) (h : Sz a b z) : Pt (r_bounded z x) (fun y => Sz a b y.2) := by
  unfold r_bounded
  rw [if_pos (Sz.lt ha h)]
  unfold r_bounded_15
  exact pt_bindP (sz_fail ha _ h) (fun s h => pt_some h)
theorem sz_emit {a b : Int32} (ha : 0 < a.toInt) {z : RS} (x k : Int32) (h : Sz a b z) : Pt (r_emit z x k) (Sz a b) := by
  unfold r_emit
  refine pt_ite (fun _ => ?_) (fun _ => pt_none)
  refine pt_let (P := Sz a b) h (fun s h => ?_)
  refine pt_ite (fun _ => ?_) (fun _ => pt_none)
  refine pt_let (P := Sz a b) h (fun s h => ?_)
  exact pt_let (P := Sz a b) h (fun s h => pt_some h)
theorem sz_unit {a b : Int32} (ha : 0 < a.toInt) {z : RS} (h : Sz a b z) : Pt (r_unit z) (Sz a b) := by
  unfold r_unit
  refine pt_bindI (sz_is ha _ h) (fun r s1 h1 => ?_)
  obtain ⟨hr, h1⟩ := h1
  have hr : r = 0 := hr
  rw [hr, if_pos rfl, if_neg (Sz.ne ha h1)]
  unfold r_unit_88
  exact pt_bindP (sz_fail ha _ h1) (fun s h => pt_some h)
/-! what comes out: codes and what waits, nothing else -/
noncomputable abbrev WCO : List Nat := [35, 39, 136, 137]
theorem fr_emit {z0 z : RS} (x k : Int32) (h : FrR WCO z0 z) : Pt (r_emit z x k) (FrR WCO z0) := by
  unfold r_emit
  refine pt_ite (fun _ => ?_) (fun _ => pt_none)
  refine pt_let (P := FrR WCO z0) (h.sf (by decide)) (fun s h => ?_)
  refine pt_ite (fun _ => ?_) (fun _ => pt_none)
  refine pt_let (P := FrR WCO z0) (h.sf (by decide)) (fun s h => ?_)
  exact pt_let (P := FrR WCO z0) (h.sv (by decide)) (fun s h => pt_some h)
theorem fr_comesOutL {z0 : RS} (x : Int32) : ∀ (n : Nat) (z : RS), FrR WCO z0 z → Pt (r_comesOut_0L n z x) (FrR WCO z0) := by
  intro n
  induction n with
  | zero => intro z _; exact pt_none
  | succ n ih =>
    intro z h
    have h84 : ∀ s t0, FrR WCO z0 s → Pt (r_comesOut_84 (r_comesOut_0L n) s x t0) (FrR WCO z0) := fun s t0 h => by
      unfold r_comesOut_84
      exact pt_bindP (fr_emit _ _ h) (fun s h => ih s h)
    have h42 : ∀ s x2, FrR WCO z0 s → Pt (r_comesOut_42 (r_comesOut_0L n) s x x2) (FrR WCO z0) := fun s x2 h => by
      unfold r_comesOut_42
      refine pt_let (P := FrR WCO z0) (h.sv (by decide)) (fun s h => ?_)
      exact pt_ite (fun _ => h84 _ _ h) (fun _ => pt_ite (fun _ => h84 _ _ h) (fun _ => pt_ite (fun _ => h84 _ _ h) (fun _ => h84 _ _ h)))
    show Pt (r_comesOut_0 (r_comesOut_0L n) z x) _
    unfold r_comesOut_0
    refine pt_ite (fun _ => pt_some h) (fun _ => pt_ite (fun _ => ?_) (fun _ => pt_none))
    refine pt_ite (fun _ => pt_some h) (fun _ => pt_ite (fun _ => h42 _ _ h) (fun _ => ?_))
    exact pt_ite (fun _ => pt_some h) (fun _ => pt_ite (fun _ => pt_some h) (fun _ => h42 _ _ h))
theorem fr_comesOut (z : RS) (x : Int32) : Pt (r_comesOut z x) (FrR WCO z) := by
  unfold r_comesOut
  exact fr_comesOutL x fu z FrR.rfl
theorem sz_fr {a b : Int32} {z y : RS} (h : Sz a b z) (hF : FrR WCO z y) : Sz a b y := ⟨(hF.1 13 (by decide)).trans h.1, (hF.1 14 (by decide)).trans h.2⟩
theorem sz_comesOut {a b : Int32} (ha : 0 < a.toInt) {z : RS} (x : Int32) (h : Sz a b z) : Pt (r_comesOut z x) (Sz a b) := fun y e => sz_fr h (fr_comesOut z x y e)
theorem sz_expr_96L {a b : Int32} (ha : 0 < a.toInt) (k12 : RS → Int32 → Int32 → Option RS) (n : Nat) {z : RS} (x1 : Int32) (h : Sz a b z) : Pt (r_expression_96L k12 n z x1) (Sz a b) := by
  have h204 : ∀ z, Sz a b z → Pt (r_expression_204 z) (Sz a b) := fun z h => by
    unfold r_expression_204
    exact pt_bindP (sz_comesOut ha _ h) (fun s h => pt_some h)
  have h186 : ∀ z, Sz a b z → Pt (r_expression_186 k12 z x1 0) (Sz a b) := fun z h => by
    unfold r_expression_186
    rw [if_pos rfl]
    exact pt_ite (fun _ => h204 _ h) (fun _ => pt_bindP (sz_fail ha _ h) (fun s h => h204 _ h))
  have h145 : ∀ z, Sz a b z → Pt (r_expression_145 k12 z x1) (Sz a b) := fun z h => by
    unfold r_expression_145
    refine pt_bindI (sz_is ha _ h) (fun r s1 h1 => ?_)
    obtain ⟨hr, h1⟩ := h1
    have hr : r = 0 := hr
    rw [hr, if_pos rfl]
    refine pt_bindI (sz_is ha _ h1) (fun r s1 h1 => ?_)
    obtain ⟨hr, h1⟩ := h1
    have hr : r = 0 := hr
    rw [hr, if_pos rfl]
    refine pt_bindI (sz_is ha _ h1) (fun r s1 h1 => ?_)
    obtain ⟨hr, h1⟩ := h1
    have hr : r = 0 := hr
    rw [hr, if_pos rfl]
    refine pt_bindI (sz_is ha _ h1) (fun r s1 h1 => ?_)
    obtain ⟨hr, h1⟩ := h1
    have hr : r = 0 := hr
    rw [hr, if_pos rfl]
    exact h186 _ h1
  cases n with
  | zero => exact pt_none
  | succ n =>
    show Pt (r_expression_96 k12 (r_expression_96L k12 n) z x1) _
    unfold r_expression_96
    refine pt_bindI (sz_is ha _ h) (fun r s1 h1 => ?_)
    obtain ⟨hr, h1⟩ := h1
    have hr : r = 0 := hr
    rw [hr, if_pos rfl]
    exact h145 _ h1
theorem sz_expr_23L {a b : Int32} (ha : 0 < a.toInt) (k12 : RS → Int32 → Int32 → Option RS) (n : Nat) {z : RS} (x1 : Int32) (h : Sz a b z) : Pt (r_expression_23L k12 n z x1) (Sz a b) := by
  cases n with
  | zero => exact pt_none
  | succ n =>
    show Pt (r_expression_23 k12 (r_expression_23L k12 n) z x1) _
    unfold r_expression_23
    refine pt_bindI (sz_is ha _ h) (fun r s1 h1 => ?_)
    obtain ⟨hr, h1⟩ := h1
    have hr : r = 0 := hr
    rw [hr, if_pos rfl]
    refine pt_bindP (sz_unit ha h1) (fun s h => ?_)
    rw [if_neg (Sz.nle ha h)]
    exact pt_some h
theorem sz_expr_46 {a b : Int32} (ha : 0 < a.toInt) (k12 : RS → Int32 → Int32 → Option RS) (n : Nat) {z : RS} (x1 : Int32) (h : Sz a b z) : Pt (r_expression_46 k12 (r_expression_23L k12 n) z x1) (Sz a b) := by
  unfold r_expression_46
  refine pt_let (P := Sz a b) h (fun s h => ?_)
  refine pt_bindP (sz_goesOn ha h) (fun s h => ?_)
  refine pt_ite (fun _ => ?_) (fun _ => pt_none)
  refine pt_let (P := Sz a b) h (fun s h => ?_)
  exact pt_let (P := Sz a b) h (fun s h => sz_expr_23L ha k12 n x1 h)
theorem sz_expr_12L {a b : Int32} (ha : 0 < a.toInt) (n : Nat) {z : RS} (x : Int32) (h : Sz a b z) : Pt (r_expression_12L n z x 1) (Sz a b) := by
  cases n with
  | zero => exact pt_none
  | succ n =>
    show Pt (r_expression_12 (r_expression_12L n) z x 1) _
    unfold r_expression_12
    rw [if_neg z_one, if_neg (Sz.ne ha h)]
    exact pt_some h
theorem sz_expression {a b : Int32} (ha : 0 < a.toInt) {z : RS} (h : Sz a b z) : Pt (r_expression z) (Sz a b) := by
  unfold r_expression
  exact pt_let (P := Sz a b) h (fun s h => sz_expr_12L ha _ _ h)
end
section
/-! ===== what is written down of an expression: lists of codes ===== -/
noncomputable def seg {α : Type} (f : Nat → α) : Nat → Nat → List α
  | _, 0 => []
  | a, n + 1 => f a :: seg f (a + 1) n
theorem seg_len {α : Type} (f : Nat → α) : ∀ (n a : Nat), (seg f a n).length = n := by
  intro n
  induction n with
  | zero => intro a; rfl
  | succ n ih =>
    intro a
    show (seg f (a + 1) n).length + 1 = n + 1
    rw [ih]
theorem seg_add {α : Type} (f : Nat → α) : ∀ (m n a : Nat), seg f a (m + n) = seg f a m ++ seg f (a + m) n := by
  intro m
  induction m with
  | zero =>
    intro n a
    have e : 0 + n = n := Nat.zero_add n
    rw [e]
    rfl
  | succ m ih =>
    intro n a
    have e : m + 1 + n = (m + n) + 1 := by omega
    have e2 : a + (m + 1) = a + 1 + m := by omega
    rw [e, e2]
    show f a :: seg f (a + 1) (m + n) = f a :: (seg f (a + 1) m ++ seg f (a + 1 + m) n)
    rw [ih]
theorem seg_cg {α : Type} {f g : Nat → α} : ∀ (n a : Nat), (∀ i, a ≤ i → i < a + n → f i = g i) → seg f a n = seg g a n := by
  intro n
  induction n with
  | zero => intro a _; rfl
  | succ n ih =>
    intro a h
    show f a :: seg f (a + 1) n = g a :: seg g (a + 1) n
    rw [h a (Nat.le_refl _) (by omega), ih (a + 1) (fun i h1 h2 => h i (by omega) (by omega))]
/-- a code of the reference as a step of the class -/
noncomputable def enc (k v : Int32) : Int32 := if k = 0 then v else if k = 1 then (-1) - v else if k = 2 then -43 else if k = 3 then -45 else if k = 4 then -42 else -47
noncomputable def encp (p : Int32 × Int32) : Int32 := enc p.1 p.2
noncomputable def kow (w : Int32) : Int32 := if w = 8 then 2 else if w = 9 then 3 else if w = 10 then 4 else 5
noncomputable def pk (w : Int32) : Int32 × Int32 := (kow w, 0)
noncomputable def CDz (p : Int32 × Int32) : Prop := (p.1 = 0 ∧ 0 ≤ p.2.toInt) ∨ (p.1 = 1 ∧ 0 ≤ p.2.toInt ∧ p.2.toInt ≤ 8) ∨ p.1 = 2 ∨ p.1 = 3 ∨ p.1 = 4 ∨ p.1 = 5
theorem kow_cases (w : Int32) : kow w = 2 ∨ kow w = 3 ∨ kow w = 4 ∨ kow w = 5 := by
  unfold kow
  by_cases a : w = 8
  · rw [if_pos a]; exact Or.inl rfl
  · rw [if_neg a]
    by_cases b : w = 9
    · rw [if_pos b]; exact Or.inr (Or.inl rfl)
    · rw [if_neg b]
      by_cases c : w = 10
      · rw [if_pos c]; exact Or.inr (Or.inr (Or.inl rfl))
      · rw [if_neg c]; exact Or.inr (Or.inr (Or.inr rfl))
theorem CDz.pk (w : Int32) : CDz (pk w) := Or.inr (Or.inr (kow_cases w))
theorem kow_two (w : Int32) : 2 ≤ (pk w).1.toInt := by
  show 2 ≤ (kow w).toInt
  rcases kow_cases w with e | e | e | e <;> (rw [e]; decide)
theorem encp_pk {c r : Int32} (h : (c = 43 ∧ r = 8) ∨ (c = 45 ∧ r = 9) ∨ (c = 42 ∧ r = 10) ∨ (c = 47 ∧ r = 15)) : -c = encp (pk r) := by
  rcases h with ⟨rfl, rfl⟩ | ⟨rfl, rfl⟩ | ⟨rfl, rfl⟩ | ⟨rfl, rfl⟩ <;> decide
noncomputable def es (z : RS) (i : Nat) : Int32 × Int32 := (z.f 36 i, z.f 37 i)
/-- from a to a' the list l is written down, and nothing below a changes -/
noncomputable def Em {α : Type} (a a' : Int32) (f f' : Nat → α) (l : List α) : Prop := 0 ≤ a.toInt ∧ a'.toInt = a.toInt + (l.length : Int) ∧ (∀ i : Nat, (i : Int) < a.toInt → f' i = f i) ∧ seg f' a.toNatClampNeg l.length = l
noncomputable def EmK (s s' : KS) (l : List Int32) : Prop := Em (s.v 12) (s'.v 12) (s.f 22) (s'.f 22) l
noncomputable def EmZ (z z' : RS) (l : List (Int32 × Int32)) : Prop := Em (z.v 35) (z'.v 35) (es z) (es z') l
theorem Em.nil {α : Type} {a : Int32} {f : Nat → α} (h : 0 ≤ a.toInt) : Em a a f f [] := ⟨h, (Int.add_zero _).symm, fun _ _ => rfl, rfl⟩
theorem Em.trans {α : Type} {a b c : Int32} {f g h : Nat → α} {l m : List α} (h1 : Em a b f g l) (h2 : Em b c g h m) : Em a c f h (l ++ m) := by
  obtain ⟨p1, p2, p3, p4⟩ := h1
  obtain ⟨q1, q2, q3, q4⟩ := h2
  have ea : a.toInt.toNat = a.toNatClampNeg := Int32.toNat_toInt a
  have eb : b.toInt.toNat = b.toNatClampNeg := Int32.toNat_toInt b
  have e : b.toNatClampNeg = a.toNatClampNeg + l.length := by omega
  have el : (l ++ m).length = l.length + m.length := List.length_append
  refine ⟨p1, by omega, fun i hi => (q3 i (by omega)).trans (p3 i hi), ?_⟩
  rw [el, seg_add, ← e, q4, seg_cg (g := g) l.length a.toNatClampNeg (fun i h1 h2 => q3 i (by omega)), p4]
theorem EmK.nil {s s' : KS} (h : 0 ≤ (s.v 12).toInt) (e : s'.v 12 = s.v 12) (f : s'.f 22 = s.f 22) : EmK s s' [] := by
  unfold EmK
  rw [e, f]
  exact Em.nil h
theorem EmZ.nil {s s' : RS} (h : 0 ≤ (s.v 35).toInt) (e : s'.v 35 = s.v 35) (f : s'.f 36 = s.f 36) (g : s'.f 37 = s.f 37) : EmZ s s' [] := by
  have q : es s' = es s := by unfold es; rw [f, g]
  unfold EmZ
  rw [e, q]
  exact Em.nil h
theorem EmK.trans {s t u : KS} {l m : List Int32} (h1 : EmK s t l) (h2 : EmK t u m) : EmK s u (l ++ m) := Em.trans h1 h2
theorem EmZ.trans {s t u : RS} {l m : List (Int32 × Int32)} (h1 : EmZ s t l) (h2 : EmZ t u m) : EmZ s u (l ++ m) := Em.trans h1 h2
theorem EmK.keep {s t u : KS} {l : List Int32} (h1 : EmK s t l) (e : u.v 12 = t.v 12) (f : u.f 22 = t.f 22) : EmK s u l := by
  unfold EmK
  rw [e, f]
  exact h1
theorem EmZ.keep {s t u : RS} {l : List (Int32 × Int32)} (h1 : EmZ s t l) (e : u.v 35 = t.v 35) (f : u.f 36 = t.f 36) (g : u.f 37 = t.f 37) : EmZ s u l := by
  have q : es u = es t := by unfold es; rw [f, g]
  unfold EmZ
  rw [e, q]
  exact h1
theorem EmK.from {s t u : KS} {l : List Int32} (h1 : EmK t u l) (e : t.v 12 = s.v 12) (f : t.f 22 = s.f 22) : EmK s u l := by
  unfold EmK
  rw [← e, ← f]
  exact h1
theorem EmZ.from {s t u : RS} {l : List (Int32 × Int32)} (h1 : EmZ t u l) (e : t.v 35 = s.v 35) (f : t.f 36 = s.f 36) (g : t.f 37 = s.f 37) : EmZ s u l := by
  have q : es t = es s := by unfold es; rw [f, g]
  unfold EmZ
  rw [← e, ← q]
  exact h1
theorem ksf_at {s : KS} {k i j : Nat} {x : Int32} : (s.sf k i x).f k j = if j = i then x else s.f k j := by
  show va_up s.f k (upd (s.f k) i x) k j = _
  unfold va_up
  rw [if_pos rfl]
  rfl
theorem rsf_at {s : RS} {k i j : Nat} {x : Int32} : (s.sf k i x).f k j = if j = i then x else s.f k j := by
  show va_up s.f k (upd (s.f k) i x) k j = _
  unfold va_up
  rw [if_pos rfl]
  rfl
theorem put_em {s s' : KS} {x : Int32} (h0 : 0 ≤ (s.v 12).toInt) (h1 : (s.v 12).toInt < 404) (h : kX1_put s x = some s') : EmK s s' [x] := by
  unfold kX1_put at h
  have n : ¬ 404 ≤ s.v 12 := fun q => by
    have := tn_le (a := 404) (by decide) rfl q
    omega
  rw [if_neg n] at h
  obtain ⟨_, h⟩ := guard_inv h
  obtain ⟨s3, d3, h⟩ := letS_inv h
  obtain ⟨s5, d5, h⟩ := letS_inv h
  cases h
  have a : ((s.v 12) + 1).toInt = (s.v 12).toInt + 1 := tn_add rfl (by decide) (by omega) (by omega)
  have v5 : s'.v 12 = (s.v 12) + 1 := by rw [← d5, ← d3]; rfl
  have f5 : ∀ j, s'.f 22 j = if j = (s.v 12).toNatClampNeg then x else s.f 22 j := fun j => by
    rw [← d5, ← d3]
    exact ksf_at
  have ec : (s.v 12).toInt.toNat = (s.v 12).toNatClampNeg := Int32.toNat_toInt _
  refine ⟨h0, by rw [v5]; exact a, fun i hi => ?_, ?_⟩
  · rw [f5, if_neg (by omega)]
  · show [s'.f 22 (s.v 12).toNatClampNeg] = [x]
    rw [f5, if_pos rfl]
theorem emit_em {z z' : RS} {k v : Int32} (h0 : 0 ≤ (z.v 35).toInt) (h : r_emit z k v = some z') : EmZ z z' [(k, v)] ∧ FrR [35, 136, 137] z z' := by
  unfold r_emit at h
  obtain ⟨g, h⟩ := guard_inv h
  obtain ⟨z2, d2, h⟩ := letS_inv h
  obtain ⟨_, h⟩ := guard_inv h
  obtain ⟨z5, d5, h⟩ := letS_inv h
  obtain ⟨z7, d7, h⟩ := letS_inv h
  cases h
  have ec : (z.v 35).toInt.toNat = (z.v 35).toNatClampNeg := Int32.toNat_toInt _
  have g2 : ¬ ((z.v 35) < 0 ∨ 840 ≤ (z.v 35).toNatClampNeg) := of_decide_eq_true g
  have g3 : ¬ 840 ≤ (z.v 35).toNatClampNeg := fun q => g2 (Or.inr q)
  have a : ((z.v 35) + 1).toInt = (z.v 35).toInt + 1 := tn_add rfl (by decide) (by omega) (by omega)
  have v7 : z'.v 35 = (z.v 35) + 1 := by rw [← d7, ← d5, ← d2]; rfl
  have f36 : ∀ j, z'.f 36 j = if j = (z.v 35).toNatClampNeg then k else z.f 36 j := fun j => by
    have q : z'.f 36 = z2.f 36 := by rw [← d7, ← d5]; rfl
    rw [q, ← d2]
    exact rsf_at
  have f37 : ∀ j, z'.f 37 j = if j = (z.v 35).toNatClampNeg then v else z.f 37 j := fun j => by
    rw [← d7, ← d5, ← d2]
    exact rsf_at
  refine ⟨⟨h0, by rw [v7]; exact a, fun i hi => ?_, ?_⟩, ?_⟩
  · unfold es
    rw [f36, f37, if_neg (by omega), if_neg (by omega)]
  · show [es z' (z.v 35).toNatClampNeg] = [(k, v)]
    unfold es
    rw [f36, f37, if_pos rfl, if_pos rfl]
  · rw [← d7, ← d5, ← d2]
    exact ((FrR.rfl.sf (k := 36) (by decide)).sf (k := 37) (by decide)).sv (k := 35) (by decide)
/-! what waits -/
noncomputable def StkOn (f : Nat → Int32) (h : Nat) : List Int32 → Nat → Prop
  | [], n => n = h
  | w :: L, n => ∃ m, n = m + 1 ∧ f m = w ∧ StkOn f h L m
theorem StkOn.ln {f : Nat → Int32} {h : Nat} : ∀ (P : List Int32) (n : Nat), StkOn f h P n → n = h + P.length := by
  intro P
  induction P with
  | nil => intro n q; exact q
  | cons w P ih =>
    intro n q
    obtain ⟨m, e, _, q⟩ := q
    have := ih m q
    show n = h + (P.length + 1)
    omega
theorem StkOn.cg {f g : Nat → Int32} {h : Nat} : ∀ (P : List Int32) (n : Nat), (∀ i, i < n → g i = f i) → StkOn f h P n → StkOn g h P n := by
  intro P
  induction P with
  | nil => intro n _ q; exact q
  | cons w P ih =>
    intro n hg q
    obtain ⟨m, e, hm, q⟩ := q
    exact ⟨m, e, (hg m (by omega)).trans hm, ih m (fun i hi => hg i (by omega)) q⟩
noncomputable def PopOK (t w : Int32) : Prop := ¬ w = 6 ∧ (t = 0 ∨ (¬ w = 8 ∧ ¬ w = 9))
noncomputable def StpW (t : Int32) (f : Nat → Int32) (h : Nat) : Prop := h = 0 ∨ ∃ m, h = m + 1 ∧ (f m = 6 ∨ (¬ t = 0 ∧ (f m = 8 ∨ f m = 9)))
theorem StpW.weak {t : Int32} {f : Nat → Int32} {h : Nat} (q : StpW 0 f h) : StpW t f h := by
  rcases q with q | ⟨m, e, q | q⟩
  · exact Or.inl q
  · exact Or.inr ⟨m, e, Or.inl q⟩
  · exact absurd rfl q.1
theorem StpW.cg {t : Int32} {f g : Nat → Int32} {h : Nat} (q : StpW t f h) (hg : ∀ i, i < h → g i = f i) : StpW t g h := by
  rcases q with q | ⟨m, e, q⟩
  · exact Or.inl q
  · refine Or.inr ⟨m, e, ?_⟩
    rw [hg m (by omega)]
    exact q
theorem come_out (t : Int32) : ∀ (P : List Int32) (n : Nat) (z z' : RS) (h : Nat), 0 ≤ (z.v 39).toInt → 0 ≤ (z.v 35).toInt → StkOn (z.f 38) h P (z.v 39).toNatClampNeg → (∀ w ∈ P, PopOK t w) → StpW t (z.f 38) h → r_comesOut_0L n z t = some z' → (z'.v 39).toInt = (h : Int) ∧ EmZ z z' (P.map pk) := by
  intro P
  induction P with
  | nil =>
    intro n z z' h h39 h35 hS _ hst hz
    cases n with
    | zero => exact none_ne hz
    | succ n =>
    have hz : r_comesOut_0 (r_comesOut_0L n) z t = some z' := hz
    unfold r_comesOut_0 at hz
    have hS : (z.v 39).toNatClampNeg = h := hS
    have ec : (z.v 39).toInt.toNat = (z.v 39).toNatClampNeg := Int32.toNat_toInt _
    have rg := ti_rng (z.v 39)
    have e : z' = z := by
      by_cases c : z.v 39 ≤ 0
      · rw [if_pos c] at hz; cases hz; rfl
      · have c' := tn_nle (b := 0) rfl (by decide) c
        rw [if_neg c] at hz
        obtain ⟨_, hz⟩ := guard_inv hz
        rcases hst with e | ⟨m, em, hm⟩
        · exfalso; omega
        · have a : ((z.v 39) - 1).toInt = (z.v 39).toInt - 1 := tn_sub rfl (by decide) (by omega) (by omega)
          have ei : ((z.v 39) - 1).toNatClampNeg = m := clamp_of_int (by omega)
          rw [ei] at hz
          by_cases c6 : z.f 38 m = 6
          · rw [if_pos c6] at hz; cases hz; rfl
          · rw [if_neg c6] at hz
            rcases hm with q | ⟨nt, q⟩
            · exact absurd q c6
            · rw [if_neg nt] at hz
              by_cases c8 : z.f 38 m = 8
              · rw [if_pos c8] at hz; cases hz; rfl
              · rw [if_neg c8] at hz
                rcases q with q | q
                · exact absurd q c8
                · rw [if_pos q] at hz; cases hz; rfl
    rw [e]
    exact ⟨by omega, EmZ.nil h35 rfl rfl rfl⟩
  | cons w P ih =>
    intro n z z' h h39 h35 hS hp hst hz
    obtain ⟨m, em, hm, hS⟩ := hS
    cases n with
    | zero => exact none_ne hz
    | succ n =>
    have hz : r_comesOut_0 (r_comesOut_0L n) z t = some z' := hz
    unfold r_comesOut_0 at hz
    have ec : (z.v 39).toInt.toNat = (z.v 39).toNatClampNeg := Int32.toNat_toInt _
    have rg := ti_rng (z.v 39)
    have c : ¬ z.v 39 ≤ 0 := fun q => by
      have := tn_le (b := 0) rfl (by decide) q
      omega
    have a : ((z.v 39) - 1).toInt = (z.v 39).toInt - 1 := tn_sub rfl (by decide) (by omega) (by omega)
    have ei : ((z.v 39) - 1).toNatClampNeg = m := clamp_of_int (by omega)
    rw [if_neg c] at hz
    obtain ⟨_, hz⟩ := guard_inv hz
    rw [ei, hm] at hz
    have pw := hp w (List.mem_cons_self ..)
    have hz : r_comesOut_42 (r_comesOut_0L n) z t w = some z' := by
      rw [if_neg pw.1] at hz
      rcases pw.2 with q | q
      · rw [if_pos q] at hz; exact hz
      · by_cases t0 : t = 0
        · rw [if_pos t0] at hz; exact hz
        · rw [if_neg t0, if_neg q.1, if_neg q.2] at hz; exact hz
    unfold r_comesOut_42 at hz
    obtain ⟨z1, d1, hz⟩ := letS_inv hz
    have hz : r_comesOut_84 (r_comesOut_0L n) z1 t (kow w) = some z' := by
      unfold kow
      by_cases e8 : w = 8
      · rw [if_pos e8] at hz ⊢; exact hz
      · rw [if_neg e8] at hz ⊢
        by_cases e9 : w = 9
        · rw [if_pos e9] at hz ⊢; exact hz
        · rw [if_neg e9] at hz ⊢
          by_cases e10 : w = 10
          · rw [if_pos e10] at hz ⊢; exact hz
          · rw [if_neg e10] at hz ⊢; exact hz
    unfold r_comesOut_84 at hz
    obtain ⟨z2, he, hz⟩ := bindP_inv hz
    have v1 : z1.v 39 = (z.v 39) - 1 := by rw [← d1]; rfl
    have v135 : z1.v 35 = z.v 35 := by rw [← d1]; rfl
    obtain ⟨E1, F1⟩ := emit_em (by rw [v135]; exact h35) he
    have v2 : z2.v 39 = (z.v 39) - 1 := (F1.1 39 (by decide)).trans v1
    have f2 : z2.f 38 = z.f 38 := (F1.2 38 (by decide)).1.trans (by rw [← d1]; rfl)
    have q1 : (z2.v 35).toInt = (z1.v 35).toInt + 1 := E1.2.1
    rw [v135] at q1
    have r := ih n z2 z' h (by rw [v2]; omega) (by omega) (by rw [f2, v2, ei]; exact hS) (fun q hq => hp q (List.mem_cons_of_mem _ hq)) (by rw [f2]; exact hst) hz
    have E0 : EmZ z z2 [(kow w, 0)] := E1.from v135 (by rw [← d1]; rfl) (by rw [← d1]; rfl)
    exact ⟨r.1, E0.trans r.2⟩
/-! codes that can be gone through over a pile of 16 -/
noncomputable def Dp : List (Int32 × Int32) → Nat → Nat → Prop
  | [], a, b => a = b
  | p :: l, a, b => (2 ≤ p.1.toInt ∧ 2 ≤ a ∧ Dp l (a - 1) b) ∨ (p.1.toInt ≤ 1 ∧ a < 16 ∧ Dp l (a + 1) b)
theorem Dp.app : ∀ (l m : List (Int32 × Int32)) (a b c : Nat), Dp l a b → Dp m b c → Dp (l ++ m) a c := by
  intro l
  induction l with
  | nil =>
    intro m a b c h1 h2
    have h1 : a = b := h1
    rw [h1]
    exact h2
  | cons p l ih =>
    intro m a b c h1 h2
    rcases h1 with ⟨q1, q2, q3⟩ | ⟨q1, q2, q3⟩
    · exact Or.inl ⟨q1, q2, ih m _ b c q3 h2⟩
    · exact Or.inr ⟨q1, q2, ih m _ b c q3 h2⟩
theorem Dp.op {w : Int32} {a : Nat} : Dp [pk w] (a + 2) (a + 1) := Or.inl ⟨kow_two w, by omega, rfl⟩
/-- what an expression, a product, a unit writes down on both sides; P waits yet in the reference -/
noncomputable def EMs (t : Int32) (h : Int) (s : KS) (z : RS) (s' : KS) (z' : RS) (l : List (Int32 × Int32)) (P : List Int32) : Prop :=
  EmK s s' ((l ++ P.map pk).map encp) ∧ EmZ z z' l ∧ (0 ≤ (z.v 39).toInt ∧ 0 ≤ (z'.v 39).toInt) ∧ StkOn (z'.f 38) (z.v 39).toNatClampNeg P (z'.v 39).toNatClampNeg ∧ (∀ i, i < (z.v 39).toNatClampNeg → z'.f 38 i = z.f 38 i) ∧ (∀ w ∈ P, PopOK t w) ∧ ((l ++ P.map pk).length : Int) + (s.v 15).toInt ≤ (s'.v 15).toInt ∧ (∀ p ∈ l ++ P.map pk, CDz p) ∧ (∀ a : Nat, (a : Int) + h ≤ 16 → Dp (l ++ P.map pk) a (a + 1))
noncomputable def PreE (s : KS) (z : RS) : Prop := 0 ≤ (s.v 12).toInt ∧ (s.v 12).toInt ≤ 4 + (s.v 15).toInt ∧ 0 ≤ (z.v 35).toInt ∧ 0 ≤ (z.v 39).toInt
theorem encp_num (v : Int32) : encp (0, v) = v := by
  unfold encp enc
  exact if_pos rfl
theorem encp_var (v : Int32) : encp (1, v) = (-1) - v := by
  unfold encp enc
  rw [if_neg z_one]
  exact if_pos rfl
theorem StkOn.snoc {f : Nat → Int32} {h : Nat} {r : Int32} (hr : f h = r) : ∀ (P : List Int32) (n : Nat), StkOn f (h + 1) P n → StkOn f h (P ++ [r]) n := by
  intro P
  induction P with
  | nil =>
    intro n q
    have q : n = h + 1 := q
    exact ⟨h, q, hr, rfl⟩
  | cons w P ih =>
    intro n q
    obtain ⟨m, e, hm, q⟩ := q
    exact ⟨m, e, hm, ih m q⟩
theorem EMs.unit {h : Int} {s s' : KS} {z z' : RS} {l : List (Int32 × Int32)} (h1 : EmK s s' (l.map encp)) (h2 : EmZ z z' l) (h3 : 0 ≤ (z.v 39).toInt) (e39 : z'.v 39 = z.v 39) (e38 : ∀ i, i < (z.v 39).toNatClampNeg → z'.f 38 i = z.f 38 i) (h6 : (l.length : Int) + (s.v 15).toInt ≤ (s'.v 15).toInt) (h7 : ∀ p ∈ l, CDz p) (h8 : ∀ a : Nat, (a : Int) + h ≤ 16 → Dp l a (a + 1)) : EMs 1 h s z s' z' l [] := by
  have e : l ++ ([] : List Int32).map pk = l := by rw [List.map_nil, List.append_nil]
  unfold EMs
  rw [e]
  refine ⟨h1, h2, ⟨h3, by rw [e39]; exact h3⟩, ?_, e38, (fun w hw => by cases hw), h6, h7, h8⟩
  show (z'.v 39).toNatClampNeg = _
  rw [e39]
theorem EMs.nil0 {t : Int32} {h : Int} {s s' : KS} {z z' : RS} {l : List (Int32 × Int32)} (q : EMs t h s z s' z' l []) : EmK s s' (l.map encp) ∧ EmZ z z' l ∧ (z'.v 39).toInt = (z.v 39).toInt ∧ (∀ i, i < (z.v 39).toNatClampNeg → z'.f 38 i = z.f 38 i) ∧ ((l.length : Int) + (s.v 15).toInt ≤ (s'.v 15).toInt) ∧ (∀ p ∈ l, CDz p) ∧ (∀ a : Nat, (a : Int) + h ≤ 16 → Dp l a (a + 1)) := by
  have e : l ++ ([] : List Int32).map pk = l := by rw [List.map_nil, List.append_nil]
  unfold EMs at q
  rw [e] at q
  obtain ⟨a1, a2, a3, a4, a5, a6, a7, a8, a9⟩ := q
  have a4 : (z'.v 39).toNatClampNeg = (z.v 39).toNatClampNeg := a4
  have e1 : (z.v 39).toInt.toNat = (z.v 39).toNatClampNeg := Int32.toNat_toInt _
  have e2 : (z'.v 39).toInt.toNat = (z'.v 39).toNatClampNeg := Int32.toNat_toInt _
  exact ⟨a1, a2, by omega, a5, a7, a8, a9⟩
theorem EMs.weak {t : Int32} {h : Int} {s s' : KS} {z z' : RS} {l : List (Int32 × Int32)} {P : List Int32} (q : EMs 1 h s z s' z' l P) {h' : Int} (hh : h ≤ h') : EMs t h' s z s' z' l P := by
  obtain ⟨a1, a2, a3, a4, a5, a6, a7, a8, a9⟩ := q
  refine ⟨a1, a2, a3, a4, a5, fun w hw => ?_, a7, a8, fun a ha => a9 a (by omega)⟩
  have q := a6 w hw
  refine ⟨q.1, ?_⟩
  rcases q.2 with c | c
  · exact absurd c z_one
  · exact Or.inr c
theorem EMs.step {t tu : Int32} {h hu : Int} {s0 s s2 s3 s4 : KS} {z0 z w w3 : RS} {l U : List (Int32 × Int32)} {P PU : List Int32} {r : Int32} (E : EMs t h s0 z0 s z l P) (k2 : s2.v 12 = s.v 12) (k2f : s2.f 22 = s.f 22) (l2 : (s2.v 15).toInt = (s.v 15).toInt + 1) (ez : EmZ z w (P.map pk)) (w39 : (w.v 39).toInt = (z0.v 39).toInt + 1) (wtop : w.f 38 (z0.v 39).toNatClampNeg = r) (wlow : ∀ i, i < (z0.v 39).toNatClampNeg → w.f 38 i = z.f 38 i) (EU : EMs tu hu s2 w s3 w3 U PU) (ep : EmK s3 s4 [encp (pk r)]) (e15 : s4.v 15 = s3.v 15) (hpop : PopOK t r) (hpu : ∀ q ∈ PU, PopOK t q) (hh : hu + 1 ≤ h) : EMs t h s0 z0 s4 w3 (l ++ P.map pk ++ U) (PU ++ [r]) := by
  obtain ⟨a1, a2, a3, a4, a5, a6, a7, a8, a9⟩ := E
  obtain ⟨b1, b2, b3, b4, b5, b6, b7, b8, b9⟩ := EU
  have eL : (l ++ P.map pk ++ U) ++ (PU ++ [r]).map pk = ((l ++ P.map pk) ++ (U ++ PU.map pk)) ++ [pk r] := by
    simp only [List.map_append, List.append_assoc, List.map_cons, List.map_nil]
  have eM : (((l ++ P.map pk) ++ (U ++ PU.map pk)) ++ [pk r]).map encp = ((l ++ P.map pk).map encp ++ (U ++ PU.map pk).map encp) ++ [encp (pk r)] := by
    rw [List.map_append (f := encp) (l₁ := (l ++ P.map pk) ++ (U ++ PU.map pk)), List.map_append (f := encp) (l₁ := l ++ P.map pk)]
    rfl
  have ez0 : (z0.v 39).toInt.toNat = (z0.v 39).toNatClampNeg := Int32.toNat_toInt _
  have ew : (w.v 39).toNatClampNeg = (z0.v 39).toNatClampNeg + 1 := clamp_of_int (by omega)
  have a30 := a3.1
  unfold EMs
  rw [eL, eM]
  refine ⟨(a1.trans (b1.from k2 k2f)).trans ep, (a2.trans ez).trans b2, ⟨a3.1, b3.2⟩, ?_, ?_, ?_, ?_, ?_, ?_⟩
  · rw [ew] at b4
    exact StkOn.snoc ((b5 _ (by omega)).trans wtop) PU _ b4
  · intro i hi
    rw [b5 i (by omega), wlow i hi, a5 i hi]
  · intro q hq
    rcases List.mem_append.mp hq with c | c
    · exact hpu q c
    · rw [List.mem_singleton] at c
      rw [c]
      exact hpop
  · have e1 : ((l ++ P.map pk ++ (U ++ PU.map pk)) ++ [pk r]).length = (l ++ P.map pk).length + (U ++ PU.map pk).length + 1 := by
      rw [List.length_append, List.length_append]
      rfl
    rw [e1, e15]
    omega
  · intro q hq
    rcases List.mem_append.mp hq with c | c
    · rcases List.mem_append.mp c with c | c
      · exact a8 q c
      · exact b8 q c
    · rw [List.mem_singleton] at c
      rw [c]
      exact CDz.pk r
  · intro a ha
    exact Dp.app _ _ _ _ _ (Dp.app _ _ _ _ _ (a9 a ha) (b9 (a + 1) (by omega))) Dp.op
end
section
/-! ===== an expression: by descent on one side, by what waits on the other ===== -/
noncomputable abbrev WEK : List Nat := [12, 15, 16, 17, 122]
noncomputable abbrev WX : List Nat := [11, 12, 13, 14, 35, 39, 136, 137, 138]
noncomputable def CompA (x1 : Int32) (z out : RS) : Prop := ∃ m n, r_expression_23L (r_expression_12L m) n z x1 = some out
noncomputable def CompB (x1 : Int32) (z out : RS) : Prop := ∃ m n, r_expression_96L (r_expression_12L m) n z x1 = some out
noncomputable def NoMul (s : KS) : Prop := ¬ KAt s = 42 ∧ ¬ KAt s = 47
noncomputable def NoAdd (s : KS) : Prop := ¬ KAt s = 43 ∧ ¬ KAt s = 45
noncomputable def ResU (N : Nat) (x1 d : Int32) (s : KS) (z : RS) (s' : KS) (out : RS) : Prop := (∃ z' l, PR2 N s' z' ∧ FrK WEK s s' ∧ FrR WX z z' ∧ z'.v 12 = d ∧ CompB x1 z' out ∧ (s.v 15).toInt + 1 ≤ (s'.v 15).toInt ∧ EMs 1 (13 - 2 * d.toInt) s z s' z' l []) ∨ FR2 s' out
noncomputable def ResP (N : Nat) (x1 d : Int32) (s : KS) (z : RS) (s' : KS) (out : RS) : Prop := (∃ z' l P, PR2 N s' z' ∧ FrK WEK s s' ∧ FrR WX z z' ∧ z'.v 12 = d ∧ CompB x1 z' out ∧ (s.v 15).toInt + 1 ≤ (s'.v 15).toInt ∧ NoMul s' ∧ EMs 1 (14 - 2 * d.toInt) s z s' z' l P) ∨ FR2 s' out
noncomputable def ResS (N : Nat) (x1 d : Int32) (s : KS) (z : RS) (s' : KS) (out : RS) : Prop := (∃ z' l P, PR2 N s' z' ∧ FrK WEK s s' ∧ FrR WX z z' ∧ z'.v 12 = d ∧ CompB x1 z' out ∧ (s.v 15).toInt + 1 ≤ (s'.v 15).toInt ∧ NoMul s' ∧ NoAdd s' ∧ EMs 0 (15 - 2 * d.toInt) s z s' z' l P) ∨ FR2 s' out
noncomputable def SimR (N : Nat) (x1 : Int32) (R : KS → Int32 → Option KS) : Prop := ∀ (s : KS) (z : RS) (s' : KS) (out : RS) (d : Int32), PR2 N s z → TK2 N s z → z.v 12 = d → x1.toInt ≤ d.toInt → d.toInt ≤ 6 → PreE s z → StpW 0 (z.f 38) (z.v 39).toNatClampNeg → R s d = some s' → CompA x1 z out → ResS N x1 d s z s' out
theorem kpl_varv : ∀ p ∈ kpl, (¬ (p.1 - 266 < 0) ∧ ¬ (9 ≤ p.1 - 266)) → (p.1 - 266 = p.2 - 30 ∧ 0 ≤ (p.2 - 30).toInt ∧ (p.2 - 30).toInt ≤ 8) := by decide +kernel
theorem fr_put {s0 s : KS} (x : Int32) (h : FrK WEK s0 s) : Pt (kX1_put s x) (fun y => FrK WEK s0 y ∧ y.v 15 = s.v 15 ∧ y.v 16 = s.v 16 ∧ y.v 17 = s.v 17 ∧ y.f 32 = s.f 32) := by
  unfold kX1_put
  refine pt_ite (fun _ => pt_some ⟨h, rfl, rfl, rfl, rfl⟩) (fun _ => pt_ite (fun _ => ?_) (fun _ => pt_none))
  refine pt_let (P := fun y => FrK WEK s0 y ∧ y.v 15 = s.v 15 ∧ y.v 16 = s.v 16 ∧ y.v 17 = s.v 17 ∧ y.f 32 = s.f 32) ⟨h.sf (by decide), rfl, rfl, rfl, rfl⟩ (fun t h => ?_)
  exact pt_let (P := fun y => FrK WEK s0 y ∧ y.v 15 = s.v 15 ∧ y.v 16 = s.v 16 ∧ y.v 17 = s.v 17 ∧ y.f 32 = s.f 32) ⟨h.1.sv (by decide), h.2.1, h.2.2.1, h.2.2.2.1, h.2.2.2.2⟩ (fun t h => pt_some h)
theorem PR2.keep {N : Nat} {s s' : KS} {z z' : RS} (h : PR2 N s z) (e1 : s'.v 15 = s.v 15) (e2 : s'.v 16 = s.v 16) (e3 : z'.v 11 = z.v 11) (e4 : z'.v 13 = z.v 13) : PR2 N s' z' := by
  unfold PR2
  rw [e1, e2, e3, e4]
  exact h
/-- an operand is taken: an INT or a VAR -/
theorem opd {N : Nat} {x1 : Int32} {s s2 s' : KS} {z z2 z4 out : RS} {c d : Int32} {m : Nat} {p : Int32 × Int32} (hE : (s.v 15).toInt < 400 → EmK s s2 [encp p]) (hEz : EmZ z z2 [p]) (h39 : 0 ≤ (z.v 39).toInt) (e39 : z2.v 39 = z.v 39) (e38 : z2.f 38 = z.f 38) (hp : CDz p) (hp1 : p.1.toInt ≤ 1) (hd6 : d.toInt ≤ 6) (hP : PR2 N s2 z2) (hT : TK2 N s2 z2) (hk : KAt s2 = c) (hc : ¬ c = 302 ∧ ¬ c = 303) (h12 : z2.v 12 = d) (hF : FrK WEK s s2) (hG : FrR WX z z2) (e15 : s2.v 15 = s.v 15) (hs : kX4_take s2 c = some s') (hg : r_goesOn z2 = some z4) (hz : (if (z4.v 13) ≤ 0 then r_expression_96L (r_expression_12L m) fu z4 x1 else (some z4)) = some out) : ResU N x1 d s z s' out := by
  by_cases hl : s2.v 15 = 400
  · have hl2 : z2.v 11 = 400 := by rw [← hP.2.2.1]; exact hl
    have nl : ¬ s2.v 15 < 400 := by rw [hl]; decide
    have e1 := ktake_room hP.1 hP.kv hk nl
    rw [hs] at e1
    have e2 := zgo_room hP.2.1 hP.zv hl2
    rw [hg] at e2
    cases e1
    cases e2
    have n2 : ¬ (zfl z2 2).v 13 ≤ 0 := by show ¬ (2 : Int32) ≤ 0; decide
    rw [if_neg n2] at hz
    cases hz
    exact Or.inr (hP.fail hT 2 (by decide))
  · have q := hP.lt hl
    have e1 := ktake_yes hP.1 hP.kv hk q.1
    rw [hs] at e1
    have e2 := zgo_ok q.2.2
    rw [hg] at e2
    cases e1
    cases e2
    have a := hP.adv hT (fun q => hc.1 (hk.symm.trans q)) (fun q => hc.2 (hk.symm.trans q)) hl
    have n2 : (zad z2).v 13 ≤ 0 := by rw [a.1.2.1]; decide
    rw [if_pos n2] at hz
    refine Or.inl ⟨zad z2, [p], a.1, hF.sv (by decide), hG.sv (by decide), h12, ⟨m, fu, hz⟩, ?_, ?_⟩
    · rw [a.2, e15]
      exact Int.le_refl _
    · have lt := q.2.1
      rw [e15] at lt
      refine EMs.unit ((hE lt).keep rfl rfl) (hEz.keep rfl rfl rfl) h39 e39 (fun i _ => ?_) ?_ (fun q hq => ?_) (fun b hb => ?_)
      · show z2.f 38 i = _
        rw [e38]
      · show ((1 : Nat) : Int) + (s.v 15).toInt ≤ ((kad s2).v 15).toInt
        rw [a.2, e15]
        omega
      · rw [List.mem_singleton] at hq
        rw [hq]
        exact hp
      · exact Or.inr ⟨hp1, by omega, rfl⟩
theorem sim_unit {N : Nat} {x1 : Int32} {R : KS → Int32 → Option KS} (hR : SimR N x1 R) (hRst : ∀ (a b : Int32), ¬ a = 0 → ∀ (s : KS) (x : Int32), Sk a b s → Pt (R s x) (Sk a b)) {s s' : KS} {z out : RS} {d : Int32} (hP : PR2 N s z) (hT : TK2 N s z) (h12 : z.v 12 = d) (hd0 : x1.toInt ≤ d.toInt) (hd6 : d.toInt ≤ 6) (hx0 : 0 ≤ x1.toInt) (hE : PreE s z) (hs : kX4_readUnit R s d = some s') (hz : CompA x1 z out) : ResU N x1 d s z s' out := by
  obtain ⟨m, n, hz⟩ := hz
  cases n with
  | zero => exact none_ne hz
  | succ n =>
  have hz : r_expression_23 (r_expression_12L m) (r_expression_23L (r_expression_12L m) n) z x1 = some out := hz
  have hk := hP.kp hT
  have i2 := kp2 hk (c0 := 301) (r0 := 2) (by decide)
  have i6 := kp2 hk (c0 := 40) (r0 := 6) (by decide)
  unfold r_expression_23 at hz
  unfold kX4_readUnit at hs
  rw [if_pos hP.kv] at hs
  by_cases c1 : KAt s = 301
  · -- an INT
    have z6 : ¬ ZAt z = 6 := fun q => by rw [i6.mpr q] at c1; exact absurd c1 (by decide)
    rw [zis_no hP.2.1 hP.zv z6, bindI_some, if_pos rfl] at hz
    rw [kat_yes hP.1 hP.kv c1, bindI_some, if_neg z_one, if_pos hP.kv] at hs
    obtain ⟨z4, hu, hz⟩ := bindP_inv hz
    unfold r_unit at hu
    rw [zis_yes hP.2.1 hP.zv (i2.mp c1), bindI_some, if_neg z_one, if_pos hP.zv] at hu
    obtain ⟨z13, he, hu⟩ := bindP_inv hu
    obtain ⟨z14, hg, hu⟩ := bindP_inv hu
    cases hu
    obtain ⟨s10, hp, hs⟩ := bindP_inv hs
    obtain ⟨s11, ht, hs⟩ := bindP_inv hs
    cases hs
    unfold kX1_putNumber at hp
    rw [bindP_id] at hp
    have f1 := fr_put (s0 := s) _ FrK.rfl _ hp
    have f2 := fr_emit (z0 := z) _ _ FrR.rfl _ he
    have f2' : FrR WX z z13 := FrR.rfl.trans f2 (by decide)
    have P2 : PR2 N s10 z13 := hP.keep f1.2.1 f1.2.2.1 (f2.1 11 (by decide)) (f2.1 13 (by decide))
    have k2 : KAt s10 = 301 := by unfold KAt; rw [f1.2.1, f1.2.2.2.2]; exact c1
    have tv := (hT.1 _ hP.le).2.2.1 c1
    have ev : Int64.toInt32 (s.g 34 (s.v 15).toNatClampNeg) = z.f 7 (z.v 11).toNatClampNeg := by rw [← hP.2.2.1]; exact tv.1
    have e0 : 0 ≤ (z.f 7 (z.v 11).toNatClampNeg).toInt := by rw [← hP.2.2.1]; exact tv.2.1
    obtain ⟨Ez, Fz⟩ := emit_em hE.2.2.1 he
    have Ek : (s.v 15).toInt < 400 → EmK s s10 [encp (0, z.f 7 (z.v 11).toNatClampNeg)] := fun lt => by
      have q := put_em hE.1 (by have := hE.2.1; omega) hp
      rw [encp_num, ← ev]
      exact q
    exact opd Ek Ez hE.2.2.2 (Fz.1 39 (by decide)) (Fz.2 38 (by decide)).1 (Or.inl ⟨rfl, e0⟩) (show (0 : Int32).toInt ≤ 1 by decide) hd6 P2 (hT.fr f1.1 f2' (by decide) (by decide)) k2 (by decide) ((f2.1 12 (by decide)).trans h12) f1.1 f2' f1.2.1 ht hg hz
  · have z2 : ¬ ZAt z = 2 := fun q => c1 (i2.mpr q)
    rw [kat_no hP.1 hP.kv c1, bindI_some, if_pos rfl] at hs
    obtain ⟨p, hp, ep1, ep2⟩ := id hk
    have hvar := kpl_var p hp
    have hvarn := kpl_varn p hp
    have hvarv := kpl_varv p hp
    rw [← ep1] at hvar hvarn hvarv
    rw [← ep2] at hvar hvarv
    by_cases cv : ¬ (KAt s - 266 < 0) ∧ ¬ (9 ≤ KAt s - 266)
    · -- a VAR
      have zv := hvar.mp cv
      have cn := hvarn cv
      have z6 : ¬ ZAt z = 6 := fun q => by
        have := zv.1
        rw [q] at this
        exact this (by decide)
      rw [if_neg cv.1, if_neg cv.2] at hs
      rw [zis_no hP.2.1 hP.zv z6, bindI_some, if_pos rfl] at hz
      obtain ⟨z4, hu, hz⟩ := bindP_inv hz
      unfold r_unit at hu
      rw [zis_no hP.2.1 hP.zv z2, bindI_some, if_pos rfl, if_pos hP.2.1, if_pos hP.zv, if_neg zv.1, if_pos hP.zv, if_neg zv.2, if_pos hP.zv] at hu
      obtain ⟨z13, he, hu⟩ := bindP_inv hu
      obtain ⟨z14, hg, hu⟩ := bindP_inv hu
      cases hu
      obtain ⟨s10, hp, hs⟩ := bindP_inv hs
      obtain ⟨s11, ht, hs⟩ := bindP_inv hs
      cases hs
      unfold kX1_putVar at hp
      rw [bindP_id] at hp
      have f1 := fr_put (s0 := s) _ FrK.rfl _ hp
      have f2 := fr_emit (z0 := z) _ _ FrR.rfl _ he
      have f2' : FrR WX z z13 := FrR.rfl.trans f2 (by decide)
      have P2 : PR2 N s10 z13 := hP.keep f1.2.1 f1.2.2.1 (f2.1 11 (by decide)) (f2.1 13 (by decide))
      have k2 : KAt s10 = KAt s := by unfold KAt; rw [f1.2.1, f1.2.2.2.2]
      have hv3 := hvarv cv
      obtain ⟨Ez, Fz⟩ := emit_em hE.2.2.1 he
      have Ek : (s.v 15).toInt < 400 → EmK s s10 [encp (1, ZAt z - 30)] := fun lt => by
        have q := put_em hE.1 (by have := hE.2.1; omega) hp
        rw [encp_var, ← hv3.1]
        exact q
      exact opd Ek Ez hE.2.2.2 (Fz.1 39 (by decide)) (Fz.2 38 (by decide)).1 (Or.inr (Or.inl ⟨rfl, hv3.2⟩)) (show (1 : Int32).toInt ≤ 1 by decide) hd6 P2 (hT.fr f1.1 f2' (by decide) (by decide)) k2 cn ((f2.1 12 (by decide)).trans h12) f1.1 f2' f1.2.1 ht hg hz
    · have zv : ¬ (¬ ZAt z < 30 ∧ ¬ 38 < ZAt z) := fun q => cv (hvar.mpr q)
      have hs : kX4_readUnit_91 R s d = some s' := by
        by_cases q1 : KAt s - 266 < 0
        · rw [if_pos q1] at hs; exact hs
        · by_cases q2 : 9 ≤ KAt s - 266
          · rw [if_neg q1, if_pos q2] at hs; exact hs
          · exact absurd ⟨q1, q2⟩ cv
      unfold kX4_readUnit_91 at hs
      by_cases c6 : KAt s = 40
      · -- a bracket
        have z6 := i6.mp c6
        rw [kat_yes hP.1 hP.kv c6, bindI_some, if_neg z_one] at hs
        rw [zis_yes hP.2.1 hP.zv z6, bindI_some, if_neg z_one] at hz
        by_cases hd : d = 6
        · have nd : ¬ d < 6 := by rw [hd]; decide
          have z12 : z.v 12 = 6 := h12.trans hd
          rw [if_neg nd, kfail_eq hP.1 hP.kv] at hs
          cases hs
          rw [if_pos z12, zfail_eq hP.2.1 hP.zv, bindP_some] at hz
          have F := hP.fail hT 2 (by decide)
          have q := sz_expr_46 (a := 2) (b := (zfl z 2).v 14) (by decide) _ n x1 ⟨rfl, rfl⟩ _ hz
          exact Or.inr ⟨by rw [q.1]; decide, by rw [q.1]; rfl, by rw [q.2]; exact F.2.2⟩
        · have nd : d < 6 := Int32.lt_iff_toInt_lt.mpr (by
            have := tn_ne (b := 6) rfl (by decide) hd
            rw [show (6 : Int32).toInt = 6 from by decide]
            omega)
          have dl : d.toInt ≤ 5 := by
            have := tn_lt (b := 6) rfl (by decide) nd
            omega
          have z12 : ¬ z.v 12 = 6 := by rw [h12]; exact hd
          have a12 : (d + 1).toInt = d.toInt + 1 := tn_add rfl (by decide) (by omega) (by omega)
          rw [if_pos nd] at hs
          unfold kX4_readUnit_114 at hs
          rw [kat_yes hP.1 hP.kv c6, bindI_some, if_neg z_one] at hs
          rw [if_neg z12] at hz
          obtain ⟨s5, ht, hs⟩ := bindP_inv hs
          obtain ⟨s6, hr, hs⟩ := bindP_inv hs
          obtain ⟨s7, hc, hs⟩ := bindP_inv hs
          cases hs
          by_cases hl : s.v 15 = 400
          · -- no room
            have nl : ¬ s.v 15 < 400 := by rw [hl]; decide
            have hl2 : (z.sv 12 ((z.v 12) + 1)).v 11 = 400 := by show z.v 11 = 400; rw [← hP.2.2.1]; exact hl
            have e1 := ktake_room hP.1 hP.kv c6 nl
            rw [ht] at e1
            cases e1
            have F := hP.fail hT 2 (by decide)
            unfold r_expression_46 at hz
            obtain ⟨y1, ey1, hz⟩ := letS_inv hz
            subst ey1
            rw [zgo_room (show (z.sv 12 ((z.v 12) + 1)).v 13 = 0 from hP.2.1) hP.zv hl2, bindP_some] at hz
            obtain ⟨_, hz⟩ := guard_inv hz
            obtain ⟨y2, ey2, hz⟩ := letS_inv hz
            obtain ⟨y3, ey3, hz⟩ := letS_inv hz
            have q3 : Sz 2 ((zfl z 2).v 14) y3 := by rw [← ey3, ← ey2]; exact ⟨rfl, rfl⟩
            have q := sz_expr_23L (by decide) _ n x1 q3 _ hz
            have k5 : Sk 2 ((kfl s 2).v 17) (kfl s 2) := ⟨rfl, rfl⟩
            have k6 := hRst 2 _ (by decide) _ _ k5 _ hr
            have k7 := sk_take (by decide) _ k6 _ hc
            exact Or.inr ⟨by rw [q.1]; decide, by rw [q.1, k7.1], by rw [q.2, k7.2]; exact F.2.2⟩
          · have q := hP.lt hl
            have e1 := ktake_yes hP.1 hP.kv c6 q.1
            rw [ht] at e1
            cases e1
            have A := hP.adv hT (fun q => by rw [c6] at q; exact absurd q (by decide)) (fun q => by rw [c6] at q; exact absurd q (by decide)) hl
            unfold r_expression_46 at hz
            obtain ⟨y1, ey1, hz⟩ := letS_inv hz
            subst ey1
            rw [zgo_ok (show ¬ (z.sv 12 ((z.v 12) + 1)).v 11 = 400 from q.2.2), bindP_some] at hz
            obtain ⟨g39, hz⟩ := guard_inv hz
            obtain ⟨y2, ey2, hz⟩ := letS_inv hz
            obtain ⟨y3, ey3, hz⟩ := letS_inv hz
            have G3 : FrR WX z y3 := by
              rw [← ey3, ← ey2]
              exact (((FrR.rfl.sv (k := 12) (by decide)).sv (k := 11) (by decide)).sf (k := 38) (by decide)).sv (k := 39) (by decide)
            have v12 : y3.v 12 = d + 1 := by rw [← ey3, ← ey2, ← h12]; rfl
            have P3 : PR2 N (kad s) y3 := A.1.keep rfl rfl (by rw [← ey3, ← ey2]; rfl) (by rw [← ey3, ← ey2]; rfl)
            have K3 : FrK WEK s (kad s) := FrK.rfl.sv (by decide)
            have T3 : TK2 N (kad s) y3 := hT.fr K3 G3 (by decide) (by decide)
            have g39 : ¬ ((z.v 39) < 0 ∨ 64 ≤ (z.v 39).toNatClampNeg) := of_decide_eq_true g39
            have b39 : ¬ 64 ≤ (z.v 39).toNatClampNeg := fun q => g39 (Or.inr q)
            have e39 : (z.v 39).toInt.toNat = (z.v 39).toNatClampNeg := Int32.toNat_toInt _
            have p39 := hE.2.2.2
            have y39 : y3.v 39 = (z.v 39) + 1 := by rw [← ey3, ← ey2]; rfl
            have a39 : ((z.v 39) + 1).toInt = (z.v 39).toInt + 1 := tn_add rfl (by decide) (by omega) (by omega)
            have c39 : (y3.v 39).toNatClampNeg = (z.v 39).toNatClampNeg + 1 := by rw [y39]; exact clamp_of_int (by omega)
            have y35 : y3.v 35 = z.v 35 := by rw [← ey3, ← ey2]; rfl
            have y36 : y3.f 36 = z.f 36 := by rw [← ey3, ← ey2]; rfl
            have y37 : y3.f 37 = z.f 37 := by rw [← ey3, ← ey2]; rfl
            have y38 : ∀ j, y3.f 38 j = if j = (z.v 39).toNatClampNeg then 6 else z.f 38 j := fun j => by
              rw [← ey3, ← ey2]
              exact rsf_at
            have PE3 : PreE (kad s) y3 := by
              refine ⟨hE.1, ?_, by rw [y35]; exact hE.2.2.1, by rw [y39]; omega⟩
              have := hE.2.1
              rw [A.2]
              show (s.v 12).toInt ≤ _
              omega
            have ST3 : StpW 0 (y3.f 38) (y3.v 39).toNatClampNeg := Or.inr ⟨(z.v 39).toNatClampNeg, c39, Or.inl (by rw [y38, if_pos rfl])⟩
            rcases hR (kad s) y3 s6 out (d + 1) P3 T3 v12 (by omega) (by omega) PE3 ST3 hr ⟨m, n, hz⟩ with ⟨z6, l, P, P6, K6, G6, v6, ⟨m6, n6, hz6⟩, l6, nm, na, E6⟩ | F
            · have T6 := T3.fr K6 G6 (by decide) (by decide)
              have hk6 := P6.kp T6
              have i7 := kp2 hk6 (c0 := 41) (r0 := 7) (by decide)
              cases n6 with
              | zero => exact none_ne hz6
              | succ n6 =>
              have hz6 : r_expression_96 (r_expression_12L m6) (r_expression_96L (r_expression_12L m6) n6) z6 x1 = some out := hz6
              unfold r_expression_96 at hz6
              have nle : ¬ z6.v 12 ≤ x1 := fun q => by
                have := ti_le q
                rw [v6] at this
                omega
              by_cases c7 : KAt s6 = 41
              · rw [zis_yes P6.2.1 P6.zv (i7.mp c7), bindI_some, if_neg z_one, if_neg nle] at hz6
                obtain ⟨w5, hw5, hz6⟩ := bindP_inv hz6
                obtain ⟨w6, ew6, hz6⟩ := letS_inv hz6
                obtain ⟨w8, ew8, hz6⟩ := letS_inv hz6
                obtain ⟨w10, hg, hz6⟩ := bindP_inv hz6
                have f5 := fr_comesOut z6 0 _ hw5
                have G8 : FrR WX z6 w8 := by
                  rw [← ew8, ← ew6]
                  exact (((FrR.rfl.trans f5 (by decide)).sv (k := 39) (by decide)).sv (k := 12) (by decide))
                have v8 : w8.v 12 = d := by
                  have : w8.v 12 = (w5.v 12) - 1 := by rw [← ew8, ← ew6]; rfl
                  rw [this, f5.1 12 (by decide), v6]
                  refine Int32.toInt_inj.mp ?_
                  rw [tn_sub a12 (by decide : (1 : Int32).toInt = 1) (by omega) (by omega)]
                  omega
                have P8 : PR2 N s6 w8 := P6.keep rfl rfl (by rw [← ew8, ← ew6]; exact f5.1 11 (by decide)) (by rw [← ew8, ← ew6]; exact f5.1 13 (by decide))
                have T8 := T6.fr FrK.rfl G8 (W := []) (by decide) (by decide)
                by_cases hl6 : s6.v 15 = 400
                · have nl6 : ¬ s6.v 15 < 400 := by rw [hl6]; decide
                  have e6 := ktake_room P8.1 P8.kv c7 nl6
                  rw [hc] at e6
                  cases e6
                  have e7 := zgo_room P8.2.1 P8.zv (by rw [← P8.2.2.1]; exact hl6)
                  rw [hg] at e7
                  cases e7
                  have F := P8.fail T8 2 (by decide)
                  have q := sz_expr_96L (a := 2) (b := (zfl w8 2).v 14) (by decide) _ n6 x1 ⟨rfl, rfl⟩ _ hz6
                  exact Or.inr ⟨by rw [q.1]; decide, by rw [q.1]; rfl, by rw [q.2]; exact F.2.2⟩
                · have q6 := P8.lt hl6
                  have e6 := ktake_yes P8.1 P8.kv c7 q6.1
                  rw [hc] at e6
                  cases e6
                  have e7 := zgo_ok q6.2.2
                  rw [hg] at e7
                  cases e7
                  have B := P8.adv T8 (fun q => by rw [c7] at q; exact absurd q (by decide)) (fun q => by rw [c7] at q; exact absurd q (by decide)) hl6
                  have z635 : 0 ≤ (z6.v 35).toInt := by
                    have q := E6.2.1.2.1
                    have q2 := PE3.2.2.1
                    omega
                  have co := come_out 0 P fu z6 w5 (y3.v 39).toNatClampNeg E6.2.2.1.2 z635 E6.2.2.2.1 E6.2.2.2.2.2.1 (ST3.cg E6.2.2.2.2.1) hw5
                  have w38 : w5.f 38 = z6.f 38 := (f5.2 38 (by decide)).1
                  have w839 : w8.v 39 = z.v 39 := by
                    have q1 : w8.v 39 = (w5.v 39) - 1 := by rw [← ew8, ← ew6]; rfl
                    rw [q1]
                    refine Int32.toInt_inj.mp ?_
                    rw [tn_sub co.1 (by decide : (1 : Int32).toInt = 1) (by omega) (by omega)]
                    omega
                  have w838 : w8.f 38 = w5.f 38 := by rw [← ew8, ← ew6]; rfl
                  have w835 : w8.v 35 = w5.v 35 := by rw [← ew8, ← ew6]; rfl
                  have w836 : w8.f 36 = w5.f 36 := by rw [← ew8, ← ew6]; rfl
                  have w837 : w8.f 37 = w5.f 37 := by rw [← ew8, ← ew6]; rfl
                  refine Or.inl ⟨zad w8, l ++ P.map pk, B.1, ((K3.trans K6 (by decide)).sv (by decide)), (((G3.trans G6 (by decide)).trans G8 (by decide)).sv (by decide)), v8, ⟨m6, n6, hz6⟩, ?_, ?_⟩
                  · have := A.2
                    rw [B.2]
                    omega
                  · refine EMs.unit ((E6.1.from rfl rfl).keep rfl rfl) (((E6.2.1.from y35 y36 y37).trans co.2).keep w835 w836 w837) p39 w839 (fun i hi => ?_) ?_ E6.2.2.2.2.2.2.2.1 (fun a ha => ?_)
                    · show w8.f 38 i = _
                      rw [w838, w38, E6.2.2.2.2.1 i (by omega), y38, if_neg (by omega)]
                    · have q := E6.2.2.2.2.2.2.1
                      have := A.2
                      rw [B.2]
                      omega
                    · exact E6.2.2.2.2.2.2.2.2 a (by rw [a12]; omega)
              · have e6 := ktake_no P6.1 P6.kv c7
                rw [hc] at e6
                cases e6
                have nz : ∀ c0 r0, ((c0, r0) : Int32 × Int32) ∈ kpl → ¬ KAt s6 = c0 → ¬ ZAt z6 = r0 := fun c0 r0 hm hn q => hn ((kp2 hk6 hm).mpr q)
                rw [zis_no P6.2.1 P6.zv (fun q => c7 (i7.mpr q)), bindI_some, if_pos rfl] at hz6
                unfold r_expression_145 at hz6
                rw [zis_no P6.2.1 P6.zv (nz 43 8 (by decide) na.1), bindI_some, if_pos rfl, zis_no P6.2.1 P6.zv (nz 45 9 (by decide) na.2), bindI_some, if_pos rfl, zis_no P6.2.1 P6.zv (nz 42 10 (by decide) nm.1), bindI_some, if_pos rfl, zis_no P6.2.1 P6.zv (nz 47 15 (by decide) nm.2), bindI_some, if_pos rfl] at hz6
                unfold r_expression_186 at hz6
                rw [if_pos rfl, if_neg nle, zfail_eq P6.2.1 P6.zv, bindP_some] at hz6
                unfold r_expression_204 at hz6
                obtain ⟨w1, hw1, hz6⟩ := bindP_inv hz6
                cases hz6
                have F := P6.fail T6 1 (by decide)
                have q := sz_comesOut (a := 1) (b := (zfl z6 1).v 14) (by decide) 0 ⟨rfl, rfl⟩ _ hw1
                exact Or.inr ⟨by rw [q.1]; decide, by rw [q.1]; rfl, by rw [q.2]; exact F.2.2⟩
            · -- a fault inside
              have ne : ¬ s6.v 16 = 0 := fun q => by
                have := F.1
                rw [← F.2.1, q] at this
                exact absurd this (by decide)
              rw [ktake_off ne] at hc
              cases hc
              exact Or.inr F
      · -- nothing that may stand here
        rw [kat_no hP.1 hP.kv c6, bindI_some, if_pos rfl] at hs
        unfold kX4_readUnit_114 at hs
        rw [kat_no hP.1 hP.kv c6, bindI_some, if_pos rfl, kfail_eq hP.1 hP.kv, bindP_some] at hs
        cases hs
        rw [zis_no hP.2.1 hP.zv (fun q => c6 (i6.mpr q)), bindI_some, if_pos rfl] at hz
        obtain ⟨z4, hu, hz⟩ := bindP_inv hz
        have e4 : z4 = zfl z 1 := by
          unfold r_unit at hu
          rw [zis_no hP.2.1 hP.zv z2, bindI_some, if_pos rfl, if_pos hP.2.1, if_pos hP.zv] at hu
          unfold r_unit_88 at hu
          rw [zfail_eq hP.2.1 hP.zv, bindP_some] at hu
          by_cases q1 : ZAt z < 30
          · rw [if_pos q1] at hu
            cases hu
            rfl
          · by_cases q2 : 38 < ZAt z
            · rw [if_neg q1, if_pos hP.zv, if_pos q2] at hu
              cases hu
              rfl
            · exact absurd ⟨q1, q2⟩ zv
        subst e4
        have n1 : ¬ (zfl z 1).v 13 ≤ 0 := by show ¬ (1 : Int32) ≤ 0; decide
        rw [if_neg n1] at hz
        cases hz
        exact Or.inr (hP.fail hT 1 (by decide))
end
section
/-! ===== products, sums, the whole expression ===== -/
/-- an operator stands here: the reference lets come out what waits, puts it by and goes on -/
theorem op_b {N : Nat} {x1 : Int32} {z out : RS} {x t : Int32} {P : List Int32} {h : Nat} (hP : ∃ s, PR2 N s z) (hn7 : ¬ ZAt z = 7) (hx : x = 8 ∨ x = 9 ∨ x = 10 ∨ x = 15) (hk : ZAt z = x) (ht : ((x = 8 ∨ x = 9) ∧ t = 0) ∨ ((x = 10 ∨ x = 15) ∧ t = 1)) (h39 : 0 ≤ (z.v 39).toInt) (h35 : 0 ≤ (z.v 35).toInt) (hS : StkOn (z.f 38) h P (z.v 39).toNatClampNeg) (hp : ∀ w ∈ P, PopOK t w) (hst : StpW t (z.f 38) h) (hz : CompB x1 z out) : (¬ z.v 11 = 400 → ∃ w, FrR WX z w ∧ w.v 11 = (z.v 11) + 1 ∧ w.v 12 = z.v 12 ∧ w.v 13 = 0 ∧ CompA x1 w out ∧ EmZ z w (P.map pk) ∧ (w.v 39).toInt = (h : Int) + 1 ∧ w.f 38 h = x ∧ (∀ i, i < h → w.f 38 i = z.f 38 i)) ∧ (z.v 11 = 400 → out.v 13 = 2 ∧ out.v 14 = z.f 6 (z.v 11).toNatClampNeg) := by
  obtain ⟨s, hP⟩ := hP
  obtain ⟨m, n, hz⟩ := hz
  cases n with
  | zero => exact none_ne hz
  | succ n =>
  have hz : r_expression_96 (r_expression_12L m) (r_expression_96L (r_expression_12L m) n) z x1 = some out := hz
  unfold r_expression_96 at hz
  rw [zis_no hP.2.1 hP.zv hn7, bindI_some, if_pos rfl] at hz
  have key : ∀ t0, t0 = t → r_expression_234 (r_expression_12L m) z x1 1 t0 = some out → (¬ z.v 11 = 400 → ∃ w, FrR WX z w ∧ w.v 11 = (z.v 11) + 1 ∧ w.v 12 = z.v 12 ∧ w.v 13 = 0 ∧ CompA x1 w out ∧ EmZ z w (P.map pk) ∧ (w.v 39).toInt = (h : Int) + 1 ∧ w.f 38 h = x ∧ (∀ i, i < h → w.f 38 i = z.f 38 i)) ∧ (z.v 11 = 400 → out.v 13 = 2 ∧ out.v 14 = z.f 6 (z.v 11).toNatClampNeg) := by
    intro t0 et hz
    subst et
    unfold r_expression_234 at hz
    obtain ⟨w1, h1, hz⟩ := bindP_inv hz
    obtain ⟨g1, hz⟩ := guard_inv hz
    obtain ⟨g39, hz⟩ := guard_inv hz
    obtain ⟨w4, e4, hz⟩ := letS_inv hz
    obtain ⟨w6, e6, hz⟩ := letS_inv hz
    obtain ⟨w8, hg, hz⟩ := bindP_inv hz
    have f1 := fr_comesOut z t0 _ h1
    have co := come_out t0 P fu z w1 h h39 h35 hS hp hst h1
    have g39 : ¬ ((w1.v 39) < 0 ∨ 64 ≤ (w1.v 39).toNatClampNeg) := of_decide_eq_true g39
    have b39 : ¬ 64 ≤ (w1.v 39).toNatClampNeg := fun q => g39 (Or.inr q)
    have c39 : (w1.v 39).toNatClampNeg = h := clamp_of_int co.1
    have a39 : ((w1.v 39) + 1).toInt = (h : Int) + 1 := tn_add co.1 (by decide) (by omega) (by omega)
    have v39 : w6.v 39 = (w1.v 39) + 1 := by rw [← e6, ← e4]; rfl
    have f38 : ∀ j, w6.f 38 j = if j = h then x else z.f 38 j := fun j => by
      have q : w6.f 38 j = if j = (w1.v 39).toNatClampNeg then w1.f 5 (w1.v 11).toNatClampNeg else w1.f 38 j := by
        rw [← e6, ← e4]
        exact rsf_at
      rw [q, c39, (f1.2 5 (by decide)).1, f1.1 11 (by decide), (f1.2 38 (by decide)).1]
      show (if j = h then ZAt z else z.f 38 j) = _
      rw [hk]
    have E6 : EmZ z w6 (P.map pk) := co.2.keep (by rw [← e6, ← e4]; rfl) (by rw [← e6, ← e4]; rfl) (by rw [← e6, ← e4]; rfl)
    have G6 : FrR WX z w6 := by
      rw [← e6, ← e4]
      exact ((FrR.rfl.trans f1 (by decide)).sf (k := 38) (by decide)).sv (k := 39) (by decide)
    have v11 : w6.v 11 = z.v 11 := by rw [← e6, ← e4]; exact f1.1 11 (by decide)
    have v12 : w6.v 12 = z.v 12 := by rw [← e6, ← e4]; exact f1.1 12 (by decide)
    have v13 : w6.v 13 = 0 := by rw [← e6, ← e4]; exact (f1.1 13 (by decide)).trans hP.2.1
    have f6 : w6.f 6 = z.f 6 := by rw [← e6, ← e4]; exact (f1.2 6 (by decide)).1
    have vp : vpb (w6.v 11) 403 = true := by rw [v11]; exact hP.zv
    constructor
    · intro hl
      have e8 := zgo_ok (z := w6) (by rw [v11]; exact hl)
      rw [hg] at e8
      cases e8
      cases m with
      | zero => exact none_ne hz
      | succ m =>
      have hz : r_expression_12 (r_expression_12L m) (zad w6) x1 1 = some out := hz
      unfold r_expression_12 at hz
      rw [if_neg z_one, if_pos (show (zad w6).v 13 = 0 from v13)] at hz
      refine ⟨zad w6, G6.sv (by decide), ?_, v12, v13, ⟨m, fu, hz⟩, E6.keep rfl rfl rfl, ?_, ?_, fun i hi => ?_⟩
      · show (w6.v 11) + 1 = _
        rw [v11]
      · show (w6.v 39).toInt = _
        rw [v39]
        exact a39
      · show w6.f 38 h = x
        rw [f38, if_pos rfl]
      · show w6.f 38 i = _
        rw [f38, if_neg (by omega)]
    · intro hl
      have e8 := zgo_room (z := w6) v13 vp (by rw [v11]; exact hl)
      rw [hg] at e8
      cases e8
      cases m with
      | zero => exact none_ne hz
      | succ m =>
      have hz : r_expression_12 (r_expression_12L m) (zfl w6 2) x1 1 = some out := hz
      unfold r_expression_12 at hz
      have n2 : ¬ (zfl w6 2).v 13 = 0 := by show ¬ (2 : Int32) = 0; decide
      rw [if_neg z_one, if_neg n2] at hz
      cases hz
      refine ⟨rfl, ?_⟩
      show w6.f 6 (w6.v 11).toNatClampNeg = _
      rw [f6, v11]
  have no : ∀ y : Int32, ¬ x = y → r_is z y = some (0, z) := fun y hy => zis_no hP.2.1 hP.zv (fun q => hy (hk.symm.trans q))
  have ye : r_is z x = some (1, z) := zis_yes hP.2.1 hP.zv hk
  unfold r_expression_145 at hz
  rcases hx with e | e | e | e
  · subst e
    rw [ye, bindI_some, if_neg z_one] at hz
    unfold r_expression_181 r_expression_186 at hz
    rw [if_neg z_one, no 10 (by decide), bindI_some, if_pos rfl, no 15 (by decide), bindI_some, if_pos rfl] at hz
    exact key _ (by rcases ht with q | q <;> first | exact q.2.symm | exact absurd q.1 (by decide)) hz
  · subst e
    rw [no 8 (by decide), bindI_some, if_pos rfl, ye, bindI_some, if_neg z_one] at hz
    unfold r_expression_181 r_expression_186 at hz
    rw [if_neg z_one, no 10 (by decide), bindI_some, if_pos rfl, no 15 (by decide), bindI_some, if_pos rfl] at hz
    exact key _ (by rcases ht with q | q <;> first | exact q.2.symm | exact absurd q.1 (by decide)) hz
  · subst e
    rw [no 8 (by decide), bindI_some, if_pos rfl, no 9 (by decide), bindI_some, if_pos rfl, ye, bindI_some, if_neg z_one] at hz
    unfold r_expression_181 r_expression_186 at hz
    rw [if_neg z_one, ye, bindI_some, if_neg z_one] at hz
    exact key _ (by rcases ht with q | q <;> first | exact q.2.symm | exact absurd q.1 (by decide)) hz
  · subst e
    rw [no 8 (by decide), bindI_some, if_pos rfl, no 9 (by decide), bindI_some, if_pos rfl, no 10 (by decide), bindI_some, if_pos rfl, ye, bindI_some, if_neg z_one] at hz
    unfold r_expression_181 r_expression_186 at hz
    rw [if_neg z_one, no 10 (by decide), bindI_some, if_pos rfl, ye, bindI_some, if_neg z_one] at hz
    exact key _ (by rcases ht with q | q <;> first | exact q.2.symm | exact absurd q.1 (by decide)) hz
/-- an operator is taken on both sides -/
theorem op_take {N : Nat} {x1 : Int32} {s s2 : KS} {z out : RS} {c r t : Int32} {P : List Int32} {h : Nat} (ht0 : ((r = 8 ∨ r = 9) ∧ t = 0) ∨ ((r = 10 ∨ r = 15) ∧ t = 1)) (h39 : 0 ≤ (z.v 39).toInt) (h35 : 0 ≤ (z.v 35).toInt) (hS : StkOn (z.f 38) h P (z.v 39).toNatClampNeg) (hp : ∀ w ∈ P, PopOK t w) (hst : StpW t (z.f 38) h) (hP : PR2 N s z) (hT : TK2 N s z) (hm : ((c, r) : Int32 × Int32) ∈ kpl) (hc : c = 43 ∨ c = 45 ∨ c = 42 ∨ c = 47) (hr : r = 8 ∨ r = 9 ∨ r = 10 ∨ r = 15) (hk : KAt s = c) (ht : kX4_take s c = some s2) (hz : CompB x1 z out) : (∃ w, PR2 N s2 w ∧ FrK WEK s s2 ∧ FrR WX z w ∧ w.v 12 = z.v 12 ∧ CompA x1 w out ∧ (s2.v 15).toInt = (s.v 15).toInt + 1 ∧ (s2.v 12 = s.v 12 ∧ s2.f 22 = s.f 22) ∧ EmZ z w (P.map pk) ∧ (w.v 39).toInt = (h : Int) + 1 ∧ w.f 38 h = r ∧ (∀ i, i < h → w.f 38 i = z.f 38 i)) ∨ FR2 s2 out := by
  have hkp := hP.kp hT
  have zk : ZAt z = r := (kp2 hkp hm).mp hk
  have n7 : ¬ ZAt z = 7 := by rw [zk]; rcases hr with e | e | e | e <;> (rw [e]; decide)
  have hb := op_b (N := N) ⟨s, hP⟩ n7 hr zk ht0 h39 h35 hS hp hst hz
  have c2 : ¬ KAt s = 302 ∧ ¬ KAt s = 303 := by rw [hk]; rcases hc with e | e | e | e <;> (rw [e]; decide)
  by_cases hl : s.v 15 = 400
  · have nl : ¬ s.v 15 < 400 := by rw [hl]; decide
    have e1 := ktake_room hP.1 hP.kv hk nl
    rw [ht] at e1
    cases e1
    have q := hb.2 (by rw [← hP.2.2.1]; exact hl)
    have F := hP.fail hT 2 (by decide)
    exact Or.inr ⟨by rw [q.1]; decide, by rw [q.1]; rfl, by rw [q.2]; exact F.2.2⟩
  · have q := hP.lt hl
    have e1 := ktake_yes hP.1 hP.kv hk q.1
    rw [ht] at e1
    cases e1
    obtain ⟨w, G, v11, v12, v13, hA, hX⟩ := hb.1 q.2.2
    have A := hP.adv hT c2.1 c2.2 hl
    refine Or.inl ⟨w, ?_, FrK.rfl.sv (by decide), G, v12, hA, A.2, ⟨rfl, rfl⟩, hX⟩
    exact A.1.keep rfl rfl v11 (v13.trans A.1.2.1.symm)
theorem FR2.ne {s : KS} {z : RS} (F : FR2 s z) : ¬ s.v 16 = 0 := fun q => by
  have := F.1
  rw [← F.2.1, q] at this
  exact absurd this (by decide)
theorem FR2.sk {s s' : KS} {z : RS} (F : FR2 s z) (h : Sk (s.v 16) (s.v 17) s') : FR2 s' z := ⟨F.1, h.1.trans F.2.1, h.2.trans F.2.2⟩
theorem sim_prodL {N : Nat} {x1 : Int32} {R : KS → Int32 → Option KS} (hR : SimR N x1 R) (hRst : ∀ (a b : Int32), ¬ a = 0 → ∀ (s : KS) (x : Int32), Sk a b s → Pt (R s x) (Sk a b)) (hx0 : 0 ≤ x1.toInt) {d : Int32} (hd0 : x1.toInt ≤ d.toInt) (hd6 : d.toInt ≤ 6) {s0 : KS} {z0 : RS} (hE0 : PreE s0 z0) (hST : StpW 1 (z0.f 38) (z0.v 39).toNatClampNeg) : ∀ (n : Nat) (s s' : KS) (z out : RS) (x2 : Int32) (l : List (Int32 × Int32)) (P : List Int32), EMs 1 (14 - 2 * d.toInt) s0 z0 s z l P → PR2 N s z → TK2 N s z → FrK WEK s0 s → FrR WX z0 z → z.v 12 = d → (s0.v 15).toInt + 1 ≤ (s.v 15).toInt → 0 ≤ x2.toInt → x2.toInt + 1 ≤ (s.v 15).toInt → kX4_readProduct_7L R n s d x2 = some s' → CompB x1 z out → ResP N x1 d s0 z0 s' out := by
  intro n
  induction n with
  | zero => intro s s' z out x2 l P _ _ _ _ _ _ _ _ _ hs; exact none_ne hs
  | succ n ih =>
    intro s s' z out x2 l P hEM hP hT K0 G0 h12 h1 hx20 hx2 hs hz
    have hs : kX4_readProduct_7 R (kX4_readProduct_7L R n) s d x2 = some s' := hs
    have b15 : (s.v 15).toInt ≤ 400 := by
      have h1 := hP.2.2.2.2.1
      have h2 := hP.2.2.2.2.2
      omega
    have ax : (x2 + 1).toInt = x2.toInt + 1 := tn_add rfl (by decide) (by omega) (by omega)
    unfold kX4_readProduct_7 at hs
    have nx : ¬ 400 ≤ x2 := fun q => by
      have := tn_le (a := 400) (by decide) rfl q
      omega
    rw [if_neg nx] at hs
    have go : ∀ c r : Int32, ((c, r) : Int32 × Int32) ∈ kpl → (c = 43 ∨ c = 45 ∨ c = 42 ∨ c = 47) → (r = 8 ∨ r = 9 ∨ r = 10 ∨ r = 15) → ((c = 43 ∧ r = 8) ∨ (c = 45 ∧ r = 9) ∨ (c = 42 ∧ r = 10) ∨ (c = 47 ∧ r = 15)) → (r = 10 ∨ r = 15) → KAt s = c → kX4_readProduct_32 R (kX4_readProduct_7L R n) s d x2 = some s' → ResP N x1 d s0 z0 s' out := by
      intro c r hm hc hr hcr hr1 hk hs
      have em1 := hEM.1.2.1
      rw [List.length_map] at em1
      have em2 := hEM.2.1.2.1
      have em3 := hEM.2.2.2.2.2.2.1
      have pe1 := hE0.1
      have pe2 := hE0.2.1
      have pe3 := hE0.2.2.1
      have pe4 := hE0.2.2.2
      have ez0 : (z0.v 39).toInt.toNat = (z0.v 39).toNatClampNeg := Int32.toNat_toInt _
      unfold kX4_readProduct_32 at hs
      rw [if_pos hP.kv] at hs
      obtain ⟨s2, ht, hs⟩ := bindP_inv hs
      obtain ⟨s3, hu, hs⟩ := bindP_inv hs
      obtain ⟨s4, hp, hs⟩ := bindP_inv hs
      have ht : kX4_take s c = some s2 := by rw [← hk]; exact ht
      unfold kX1_putSign at hp
      rw [bindP_id] at hp
      rcases op_take (Or.inr ⟨hr1, rfl⟩) hEM.2.2.1.2 (by omega) hEM.2.2.2.1 hEM.2.2.2.2.2.1 (hST.cg hEM.2.2.2.2.1) hP hT hm hc hr hk ht hz with ⟨w, P2, K2, G2, v2, hA, l2, kk, ez, w39, wtop, wlow⟩ | F
      · have T2 := hT.fr K2 G2 (by decide) (by decide)
        have ez35 := ez.2.1
        have PE2 : PreE s2 w := ⟨by rw [kk.1]; omega, by rw [kk.1]; omega, by omega, by omega⟩
        rcases sim_unit hR hRst P2 T2 (v2.trans h12) hd0 hd6 hx0 PE2 hu hA with ⟨w3, U, P3, K3, G3, v3, hB, l3, EU⟩ | F
        · have f4 := fr_put (s0 := s3) _ FrK.rfl _ hp
          have P4 : PR2 N s4 w3 := P3.keep f4.2.1 f4.2.2.1 rfl rfl
          have K4 : FrK WEK s s4 := (K2.trans K3 (by decide)).trans f4.1 (by decide)
          have G4 : FrR WX z w3 := G2.trans G3 (by decide)
          have l4 : (s4.v 15).toInt = (s3.v 15).toInt := by rw [f4.2.1]
          have eu1 := EU.1.2.1
          rw [List.length_map] at eu1
          have eu3 := EU.2.2.2.2.2.2.1
          have q312 : (s2.v 12).toInt = (s.v 12).toInt := by rw [kk.1]
          have p315 := P3.2.2.2.2.1
          have p3N := P3.2.2.2.2.2
          have hp' : kX1_put s3 (-c) = some s4 := by rw [← hk]; exact hp
          have ep := put_em (s := s3) (by omega) (by omega) hp'
          rw [encp_pk hcr] at ep
          have EN := EMs.step hEM kk.1 kk.2 l2 ez (by omega) wtop wlow EU ep f4.2.1 (by rcases hr1 with e | e <;> (rw [e]; exact ⟨by decide, Or.inr ⟨by decide, by decide⟩⟩)) (fun q hq => by cases hq) (by omega)
          exact ih s4 s' w3 out (x2 + 1) _ _ EN P4 (hT.fr K4 G4 (by decide) (by decide)) (K0.trans K4 (by decide)) (G0.trans G4 (by decide)) v3 (by omega) (by omega) (by omega) hs hB
        · have k3 : Sk (s3.v 16) (s3.v 17) s3 := ⟨rfl, rfl⟩
          exact Or.inr (F.sk (sk_readProduct_7L F.ne n _ _ (sk_put _ k3 _ hp) _ hs))
      · have k2 : Sk (s2.v 16) (s2.v 17) s2 := ⟨rfl, rfl⟩
        have k3 := sk_readUnit F.ne (hRst _ _ F.ne) _ k2 _ hu
        exact Or.inr (F.sk (sk_readProduct_7L F.ne n _ _ (sk_put _ k3 _ hp) _ hs))
    by_cases c1 : KAt s = 42
    · rw [kat_yes hP.1 hP.kv c1, bindI_some, if_neg z_one] at hs
      exact go 42 10 (by decide) (by decide) (by decide) (by decide) (by decide) c1 hs
    · rw [kat_no hP.1 hP.kv c1, bindI_some, if_pos rfl] at hs
      by_cases c2 : KAt s = 47
      · rw [kat_yes hP.1 hP.kv c2, bindI_some, if_neg z_one] at hs
        exact go 47 15 (by decide) (by decide) (by decide) (by decide) (by decide) c2 hs
      · rw [kat_no hP.1 hP.kv c2, bindI_some, if_pos rfl] at hs
        cases hs
        exact Or.inl ⟨z, l, P, hP, K0, G0, h12, hz, h1, ⟨c1, c2⟩, hEM⟩
theorem sim_prod {N : Nat} {x1 : Int32} {R : KS → Int32 → Option KS} (hR : SimR N x1 R) (hRst : ∀ (a b : Int32), ¬ a = 0 → ∀ (s : KS) (x : Int32), Sk a b s → Pt (R s x) (Sk a b)) (hx0 : 0 ≤ x1.toInt) {d : Int32} (hd0 : x1.toInt ≤ d.toInt) (hd6 : d.toInt ≤ 6) {s s' : KS} {z out : RS} (hE : PreE s z) (hST : StpW 1 (z.f 38) (z.v 39).toNatClampNeg) (hP : PR2 N s z) (hT : TK2 N s z) (h12 : z.v 12 = d) (hs : kX4_readProduct R s d = some s') (hz : CompA x1 z out) : ResP N x1 d s z s' out := by
  unfold kX4_readProduct at hs
  obtain ⟨s1, hu, hs⟩ := bindP_inv hs
  have z0 : (0 : Int32).toInt = 0 := by decide
  have h150 := hP.2.2.2.1
  rcases sim_unit hR hRst hP hT h12 hd0 hd6 hx0 hE hu hz with ⟨w, U, P1, K1, G1, v1, hB, l1, EU⟩ | F
  · exact sim_prodL hR hRst hx0 hd0 hd6 hE hST fu s1 s' w out 0 U [] (EU.weak (by omega)) P1 (hT.fr K1 G1 (by decide) (by decide)) K1 G1 v1 l1 (by omega) (by omega) hs hB
  · refine Or.inr (F.sk ?_)
    have k1 : Sk (s1.v 16) (s1.v 17) s1 := ⟨rfl, rfl⟩
    exact sk_readProduct_7L F.ne fu _ _ k1 _ hs
theorem sim_sumL {N : Nat} {x1 : Int32} {R : KS → Int32 → Option KS} (hR : SimR N x1 R) (hRst : ∀ (a b : Int32), ¬ a = 0 → ∀ (s : KS) (x : Int32), Sk a b s → Pt (R s x) (Sk a b)) (hx0 : 0 ≤ x1.toInt) {d : Int32} (hd0 : x1.toInt ≤ d.toInt) (hd6 : d.toInt ≤ 6) {s0 : KS} {z0 : RS} (hE0 : PreE s0 z0) (hST : StpW 0 (z0.f 38) (z0.v 39).toNatClampNeg) : ∀ (n : Nat) (s s' : KS) (z out : RS) (x2 : Int32) (l : List (Int32 × Int32)) (P : List Int32), EMs 0 (15 - 2 * d.toInt) s0 z0 s z l P → PR2 N s z → TK2 N s z → FrK WEK s0 s → FrR WX z0 z → z.v 12 = d → (s0.v 15).toInt + 1 ≤ (s.v 15).toInt → NoMul s → 0 ≤ x2.toInt → x2.toInt + 1 ≤ (s.v 15).toInt → kX4_readSum_7L R n s d x2 = some s' → CompB x1 z out → ResS N x1 d s0 z0 s' out := by
  intro n
  induction n with
  | zero => intro s s' z out x2 l P _ _ _ _ _ _ _ _ _ _ hs; exact none_ne hs
  | succ n ih =>
    intro s s' z out x2 l P hEM hP hT K0 G0 h12 h1 nm hx20 hx2 hs hz
    have hs : kX4_readSum_7 R (kX4_readSum_7L R n) s d x2 = some s' := hs
    have b15 : (s.v 15).toInt ≤ 400 := by
      have h1 := hP.2.2.2.2.1
      have h2 := hP.2.2.2.2.2
      omega
    have ax : (x2 + 1).toInt = x2.toInt + 1 := tn_add rfl (by decide) (by omega) (by omega)
    unfold kX4_readSum_7 at hs
    have nx : ¬ 400 ≤ x2 := fun q => by
      have := tn_le (a := 400) (by decide) rfl q
      omega
    rw [if_neg nx] at hs
    have go : ∀ c r : Int32, ((c, r) : Int32 × Int32) ∈ kpl → (c = 43 ∨ c = 45 ∨ c = 42 ∨ c = 47) → (r = 8 ∨ r = 9 ∨ r = 10 ∨ r = 15) → ((c = 43 ∧ r = 8) ∨ (c = 45 ∧ r = 9) ∨ (c = 42 ∧ r = 10) ∨ (c = 47 ∧ r = 15)) → (r = 8 ∨ r = 9) → KAt s = c → kX4_readSum_32 R (kX4_readSum_7L R n) s d x2 = some s' → ResS N x1 d s0 z0 s' out := by
      intro c r hm hc hr hcr hr1 hk hs
      have em1 := hEM.1.2.1
      rw [List.length_map] at em1
      have em2 := hEM.2.1.2.1
      have em3 := hEM.2.2.2.2.2.2.1
      have pe1 := hE0.1
      have pe2 := hE0.2.1
      have pe3 := hE0.2.2.1
      have pe4 := hE0.2.2.2
      have ez0 : (z0.v 39).toInt.toNat = (z0.v 39).toNatClampNeg := Int32.toNat_toInt _
      unfold kX4_readSum_32 at hs
      rw [if_pos hP.kv] at hs
      obtain ⟨s2, ht, hs⟩ := bindP_inv hs
      obtain ⟨s3, hu, hs⟩ := bindP_inv hs
      obtain ⟨s4, hp, hs⟩ := bindP_inv hs
      have ht : kX4_take s c = some s2 := by rw [← hk]; exact ht
      unfold kX1_putSign at hp
      rw [bindP_id] at hp
      rcases op_take (Or.inl ⟨hr1, rfl⟩) hEM.2.2.1.2 (by omega) hEM.2.2.2.1 hEM.2.2.2.2.2.1 (hST.cg hEM.2.2.2.2.1) hP hT hm hc hr hk ht hz with ⟨w, P2, K2, G2, v2, hA, l2, kk, ez, w39, wtop, wlow⟩ | F
      · have T2 := hT.fr K2 G2 (by decide) (by decide)
        have ez35 := ez.2.1
        have PE2 : PreE s2 w := ⟨by rw [kk.1]; omega, by rw [kk.1]; omega, by omega, by omega⟩
        rcases sim_prod hR hRst hx0 hd0 hd6 PE2 (Or.inr ⟨(z0.v 39).toNatClampNeg, clamp_of_int (by omega), Or.inr ⟨z_one, by rw [wtop]; exact hr1⟩⟩) P2 T2 (v2.trans h12) hu hA with ⟨w3, U, PU, P3, K3, G3, v3, hB, l3, nm3, EU⟩ | F
        · have f4 := fr_put (s0 := s3) _ FrK.rfl _ hp
          have P4 : PR2 N s4 w3 := P3.keep f4.2.1 f4.2.2.1 rfl rfl
          have K4 : FrK WEK s s4 := (K2.trans K3 (by decide)).trans f4.1 (by decide)
          have G4 : FrR WX z w3 := G2.trans G3 (by decide)
          have l4 : (s4.v 15).toInt = (s3.v 15).toInt := by rw [f4.2.1]
          have ek : KAt s4 = KAt s3 := by unfold KAt; rw [f4.2.1, f4.2.2.2.2]
          have nm4 : NoMul s4 := by unfold NoMul; rw [ek]; exact nm3
          have eu1 := EU.1.2.1
          rw [List.length_map] at eu1
          have eu3 := EU.2.2.2.2.2.2.1
          have q312 : (s2.v 12).toInt = (s.v 12).toInt := by rw [kk.1]
          have p315 := P3.2.2.2.2.1
          have p3N := P3.2.2.2.2.2
          have hp' : kX1_put s3 (-c) = some s4 := by rw [← hk]; exact hp
          have ep := put_em (s := s3) (by omega) (by omega) hp'
          rw [encp_pk hcr] at ep
          have EN := EMs.step hEM kk.1 kk.2 l2 ez (by omega) wtop wlow EU ep f4.2.1 (by rcases hr1 with e | e <;> (rw [e]; exact ⟨by decide, Or.inl rfl⟩)) (fun q hq => ⟨(EU.2.2.2.2.2.1 q hq).1, Or.inl rfl⟩) (by omega)
          exact ih s4 s' w3 out (x2 + 1) _ _ EN P4 (hT.fr K4 G4 (by decide) (by decide)) (K0.trans K4 (by decide)) (G0.trans G4 (by decide)) v3 (by omega) nm4 (by omega) (by omega) hs hB
        · have k3 : Sk (s3.v 16) (s3.v 17) s3 := ⟨rfl, rfl⟩
          exact Or.inr (F.sk (sk_readSum_7L F.ne n _ _ (sk_put _ k3 _ hp) _ hs))
      · have k2 : Sk (s2.v 16) (s2.v 17) s2 := ⟨rfl, rfl⟩
        have k3 := sk_readProduct F.ne (hRst _ _ F.ne) _ k2 _ hu
        exact Or.inr (F.sk (sk_readSum_7L F.ne n _ _ (sk_put _ k3 _ hp) _ hs))
    by_cases c1 : KAt s = 43
    · rw [kat_yes hP.1 hP.kv c1, bindI_some, if_neg z_one] at hs
      exact go 43 8 (by decide) (by decide) (by decide) (by decide) (by decide) c1 hs
    · rw [kat_no hP.1 hP.kv c1, bindI_some, if_pos rfl] at hs
      by_cases c2 : KAt s = 45
      · rw [kat_yes hP.1 hP.kv c2, bindI_some, if_neg z_one] at hs
        exact go 45 9 (by decide) (by decide) (by decide) (by decide) (by decide) c2 hs
      · rw [kat_no hP.1 hP.kv c2, bindI_some, if_pos rfl] at hs
        cases hs
        exact Or.inl ⟨z, l, P, hP, K0, G0, h12, hz, h1, nm, ⟨c1, c2⟩, hEM⟩
theorem sim_sum {N : Nat} {x1 : Int32} {R : KS → Int32 → Option KS} (hR : SimR N x1 R) (hRst : ∀ (a b : Int32), ¬ a = 0 → ∀ (s : KS) (x : Int32), Sk a b s → Pt (R s x) (Sk a b)) (hx0 : 0 ≤ x1.toInt) : SimR N x1 (fun s d => kX4_readSum R s d) := by
  intro s z s' out d hP hT h12 hd0 hd6 hE hST hs hz
  have hs : kX4_readSum R s d = some s' := hs
  unfold kX4_readSum at hs
  obtain ⟨s1, hu, hs⟩ := bindP_inv hs
  have z0 : (0 : Int32).toInt = 0 := by decide
  have h150 := hP.2.2.2.1
  rcases sim_prod hR hRst hx0 hd0 hd6 hE hST.weak hP hT h12 hu hz with ⟨w, U, PU, P1, K1, G1, v1, hB, l1, nm, EU⟩ | F
  · exact sim_sumL hR hRst hx0 hd0 hd6 hE hST fu s1 s' w out 0 U PU (EU.weak (by omega)) P1 (hT.fr K1 G1 (by decide) (by decide)) K1 G1 v1 l1 nm (by omega) (by omega) hs hB
  · refine Or.inr (F.sk ?_)
    have k1 : Sk (s1.v 16) (s1.v 17) s1 := ⟨rfl, rfl⟩
    exact sk_readSum_7L F.ne fu _ _ k1 _ hs
theorem sim_sumR (N : Nat) (x1 : Int32) (hx0 : 0 ≤ x1.toInt) : ∀ n : Nat, SimR N x1 (kX4_readSumR n) := by
  intro n
  induction n with
  | zero => intro s z s' out d _ _ _ _ _ _ _ hs; exact none_ne hs
  | succ n ih =>
    intro s z s' out d hP hT h12 hd0 hd6 hE hST hs hz
    exact sim_sum ih (fun a b ha s x h => sk_readSumR ha n s x h) hx0 s z s' out d hP hT h12 hd0 hd6 hE hST hs hz
theorem expr_12 (n : Nat) (z out : RS) (x : Int32) (h13 : z.v 13 = 0) (h : r_expression_12L n z x 1 = some out) : ∃ m, r_expression_23L (r_expression_12L m) fu z x = some out := by
  cases n with
  | zero => exact none_ne h
  | succ n =>
    have h : r_expression_12 (r_expression_12L n) z x 1 = some out := h
    unfold r_expression_12 at h
    rw [if_neg z_one, if_pos h13] at h
    exact ⟨n, h⟩
/-- an expression is written down on both sides -/
noncomputable def ExR (s : KS) (z : RS) (s' : KS) (out : RS) (l : List (Int32 × Int32)) : Prop := EmK s s' (l.map encp) ∧ EmZ z out l ∧ (l.length : Int) + (s.v 15).toInt ≤ (s'.v 15).toInt ∧ (∀ p ∈ l, CDz p) ∧ Dp l 0 1
noncomputable def PreC (s : KS) (z : RS) : Prop := 0 ≤ (s.v 12).toInt ∧ (s.v 12).toInt ≤ 4 + (s.v 15).toInt ∧ 0 ≤ (z.v 35).toInt
theorem sim_expr {N : Nat} {s s' : KS} {z out : RS} (hP : PR2 N s z) (hT : TK2 N s z) (h12 : z.v 12 = 0) (hC : PreC s z) (hs : kX4_readSumR 8 s 0 = some s') (hz : r_expression z = some out) : (PR2 N s' out ∧ FrK WEK s s' ∧ FrR WX z out ∧ out.v 12 = 0 ∧ (s.v 15).toInt ≤ (s'.v 15).toInt ∧ ∃ l, ExR s z s' out l) ∨ FR2 s' out := by
  unfold r_expression at hz
  obtain ⟨z1, e1, hz⟩ := letS_inv hz
  have v12 : z1.v 12 = 0 := by rw [← e1]; exact h12
  have v13 : z1.v 13 = 0 := by rw [← e1]; exact hP.2.1
  have G1 : FrR WX z z1 := by rw [← e1]; exact FrR.rfl.sv (by decide)
  have P1 : PR2 N s z1 := hP.keep rfl rfl (by rw [← e1]; rfl) (by rw [← e1]; rfl)
  rw [v12] at hz
  obtain ⟨m0, hz⟩ := expr_12 fu z1 out 0 v13 hz
  have T1 := hT.fr FrK.rfl G1 (W := []) (by decide) (by decide)
  have z0 : (0 : Int32).toInt = 0 := by decide
  have c39 : (z1.v 39) = 0 := by rw [← e1]; rfl
  have c35 : (z1.v 35) = z.v 35 := by rw [← e1]; rfl
  have c36 : (z1.f 36) = z.f 36 := by rw [← e1]; rfl
  have c37 : (z1.f 37) = z.f 37 := by rw [← e1]; rfl
  have k39 : (z1.v 39).toNatClampNeg = 0 := by rw [c39]; decide
  have PE1 : PreE s z1 := ⟨hC.1, hC.2.1, by rw [c35]; exact hC.2.2, by rw [c39]; decide⟩
  have ST1 : StpW 0 (z1.f 38) (z1.v 39).toNatClampNeg := Or.inl k39
  rcases sim_sumR N 0 (by decide) 8 s z1 s' out 0 P1 T1 v12 (by omega) (by omega) PE1 ST1 hs ⟨m0, fu, hz⟩ with ⟨w, l, P, P2, K2, G2, v2, ⟨m, n, hB⟩, l2, nm, na, E2⟩ | F
  · cases n with
    | zero => exact none_ne hB
    | succ n =>
    have T2 := T1.fr K2 G2 (by decide) (by decide)
    have hk := P2.kp T2
    have nz : ∀ c0 r0, ((c0, r0) : Int32 × Int32) ∈ kpl → ¬ KAt s' = c0 → ¬ ZAt w = r0 := fun c0 r0 hm hn q => hn ((kp2 hk hm).mpr q)
    have hB : r_expression_96 (r_expression_12L m) (r_expression_96L (r_expression_12L m) n) w 0 = some out := hB
    unfold r_expression_96 at hB
    have le : w.v 12 ≤ 0 := by rw [v2]; decide
    have hB : r_expression_145 (r_expression_12L m) w 0 = some out := by
      by_cases c : ZAt w = 7
      · rw [zis_yes P2.2.1 P2.zv c, bindI_some, if_neg z_one, if_pos le] at hB
        exact hB
      · rw [zis_no P2.2.1 P2.zv c, bindI_some, if_pos rfl] at hB
        exact hB
    unfold r_expression_145 at hB
    rw [zis_no P2.2.1 P2.zv (nz 43 8 (by decide) na.1), bindI_some, if_pos rfl, zis_no P2.2.1 P2.zv (nz 45 9 (by decide) na.2), bindI_some, if_pos rfl, zis_no P2.2.1 P2.zv (nz 42 10 (by decide) nm.1), bindI_some, if_pos rfl, zis_no P2.2.1 P2.zv (nz 47 15 (by decide) nm.2), bindI_some, if_pos rfl] at hB
    unfold r_expression_186 at hB
    rw [if_pos rfl, if_pos le] at hB
    unfold r_expression_204 at hB
    obtain ⟨w1, hw, hB⟩ := bindP_inv hB
    cases hB
    have f := fr_comesOut w 0 _ hw
    refine Or.inl ⟨P2.keep rfl rfl (f.1 11 (by decide)) (f.1 13 (by decide)), K2, (G1.trans G2 (by decide)).trans f (by decide), (f.1 12 (by decide)).trans v2, by omega, l ++ P.map pk, ?_⟩
    have em2 := E2.2.1.2.1
    have pe3 := PE1.2.2.1
    have co := come_out 0 P fu w out (z1.v 39).toNatClampNeg E2.2.2.1.2 (by omega) E2.2.2.2.1 E2.2.2.2.2.2.1 (ST1.cg E2.2.2.2.2.1) hw
    exact ⟨E2.1, (E2.2.1.from c35 c36 c37).trans co.2, E2.2.2.2.2.2.2.1, E2.2.2.2.2.2.2.2.1, E2.2.2.2.2.2.2.2.2 0 (by rw [z0]; decide)⟩
  · exact Or.inr F
end
section
/-! ===== a law ===== -/
noncomputable abbrev WLK : List Nat := [12, 13, 15, 16, 17, 122, 123, 124, 125]
noncomputable abbrev WLZ : List Nat := [11, 12, 13, 14, 29, 35, 39, 127, 128, 130, 131, 132, 133, 134, 136, 137, 138]
noncomputable abbrev WQ : List Nat := [29, 130, 131, 132, 133, 134]
theorem fr_endPart (s : KS) : Pt (kX1_endPart s) (FrK [123, 125] s) := by
  unfold kX1_endPart
  refine pt_ite (fun _ => ?_) (fun _ => pt_none)
  refine pt_ite (fun _ => pt_some FrK.rfl) (fun _ => pt_ite (fun _ => ?_) (fun _ => pt_none))
  refine pt_let (P := FrK [123, 125] s) (FrK.rfl.sf (by decide)) (fun t h => ?_)
  refine pt_ite (fun _ => ?_) (fun _ => pt_none)
  exact pt_let (P := FrK [123, 125] s) (h.sf (by decide)) (fun t h => pt_some h)
theorem fr_begin (s : KS) (x : Int32) : Pt (kX1_begin s x) (FrK [13, 124, 125] s) := by
  unfold kX1_begin
  refine pt_let (P := FrK [13, 124, 125] s) (FrK.rfl.sv (by decide)) (fun t h => ?_)
  refine pt_ite (fun _ => ?_) (fun _ => pt_none)
  refine pt_let (P := FrK [13, 124, 125] s) (h.sf (by decide)) (fun t h => ?_)
  refine pt_ite (fun _ => ?_) (fun _ => pt_none)
  exact pt_let (P := FrK [13, 124, 125] s) (h.sf (by decide)) (fun t h => pt_some h)
theorem sz_term {a b : Int32} (ha : 0 < a.toInt) {z : RS} (h : Sz a b z) : Pt (r_term z) (Sz a b) := by
  unfold r_term
  refine pt_ite (fun _ => ?_) (fun _ => pt_none)
  refine pt_let (P := Sz a b) h (fun s h => ?_)
  rw [if_neg (Sz.ne ha h)]
  unfold r_term_24
  refine pt_ite (fun _ => ?_) (fun _ => pt_none)
  refine pt_let (P := Sz a b) h (fun s h => ?_)
  exact pt_let (P := Sz a b) h (fun s h => pt_some h)
theorem sz_law_129 {a b : Int32} (ha : 0 < a.toInt) {z : RS} (x1 x2 : Int32) (h : Sz a b z) : Pt (r_tellLaw_129 z x1 x2) (Sz a b) := by
  unfold r_tellLaw_129
  refine pt_ite (fun _ => ?_) (fun _ => pt_none)
  refine pt_let (P := Sz a b) h (fun s h => ?_)
  refine pt_bindP (sz_term ha h) (fun s h => ?_)
  refine pt_bindP (sz_must ha _ h) (fun s h => ?_)
  rw [if_neg (Sz.nle ha h)]
  exact pt_some h
theorem sz_law_12L {a b : Int32} (ha : 0 < a.toInt) {z : RS} (m : Nat) (x1 x2 x3 : Int32) (h : Sz a b z) : Pt (r_tellLaw_12L m z x1 x2 x3) (Sz a b) := by
  cases m with
  | zero => exact pt_none
  | succ m =>
    show Pt (r_tellLaw_12 (r_tellLaw_12L m) z x1 x2 x3) _
    unfold r_tellLaw_12
    rw [if_neg (Sz.ne ha h)]
    exact sz_law_129 ha _ _ h
theorem sz_law_110 {a b : Int32} (ha : 0 < a.toInt) {z : RS} (m : Nat) (x1 x2 x3 : Int32) (h : Sz a b z) : Pt (r_tellLaw_110 (r_tellLaw_12L m) z x1 x2 x3) (Sz a b) := by
  unfold r_tellLaw_110
  refine pt_bindP (sz_must ha _ h) (fun s h => ?_)
  refine pt_bindP (sz_term ha h) (fun s h => ?_)
  refine pt_bindP (sz_must ha _ h) (fun s h => ?_)
  exact sz_law_12L ha m _ _ _ h
theorem FR2.sz {s : KS} {z z' : RS} (F : FR2 s z) (h : Sz (z.v 13) (z.v 14) z') : FR2 s z' := ⟨by rw [h.1]; exact F.1, by rw [h.1]; exact F.2.1, by rw [h.2]; exact F.2.2⟩
/-! stretches of codes, on both sides -/
noncomputable def Sg {α : Type} (f : Nat → α) (a b : Int32) (l : List α) : Prop := 0 ≤ a.toInt ∧ b.toInt = a.toInt + (l.length : Int) ∧ seg f a.toNatClampNeg l.length = l
theorem Em.sg {α : Type} {a b : Int32} {f g : Nat → α} {l : List α} (h : Em a b f g l) : Sg g a b l := ⟨h.1, h.2.1, h.2.2.2⟩
theorem Sg.keep {α : Type} {f g : Nat → α} {a b : Int32} {l : List α} (h : Sg f a b l) (hg : ∀ i : Nat, a.toInt ≤ (i : Int) → (i : Int) < b.toInt → g i = f i) : Sg g a b l := by
  obtain ⟨h1, h2, h3⟩ := h
  have ea : a.toInt.toNat = a.toNatClampNeg := Int32.toNat_toInt a
  refine ⟨h1, h2, ?_⟩
  rw [seg_cg (g := f) l.length a.toNatClampNeg (fun i q1 q2 => hg i (by omega) (by omega))]
  exact h3
noncomputable def Bth (M lo hi : Int) (f : Nat → Int32) (e : Nat → Int32 × Int32) (a b a' b' : Int32) : Prop := ∃ l : List (Int32 × Int32), Sg f a b (l.map encp) ∧ Sg e a' b' l ∧ (∀ p ∈ l, CDz p) ∧ Dp l 0 1 ∧ b.toInt ≤ M ∧ lo ≤ a'.toInt ∧ b'.toInt ≤ hi
theorem Bth.keep {M M' lo hi hi' : Int} {f g : Nat → Int32} {e e2 : Nat → Int32 × Int32} {a b a' b' : Int32} (h : Bth M lo hi f e a b a' b') (hf : ∀ i : Nat, (i : Int) < M → g i = f i) (he : ∀ i : Nat, lo ≤ (i : Int) → (i : Int) < hi → e2 i = e i) (hM : M ≤ M') (hh : hi ≤ hi') : Bth M' lo hi' g e2 a b a' b' := by
  obtain ⟨l, h1, h2, h3, h4, h5, h6, h7⟩ := h
  exact ⟨l, h1.keep (fun i q1 q2 => hf i (by omega)), h2.keep (fun i q1 q2 => he i (by omega) (by omega)), h3, h4, by omega, h6, by omega⟩
noncomputable def pst (P S : Nat → Int32) (cl k : Nat) : Int32 := if k = 0 then S cl else P (13 * cl + (k - 1))
theorem pst_cg {P P' S S' : Nat → Int32} {cl k : Nat} (hP : ∀ i, 13 * cl ≤ i → i < 13 * cl + k → P' i = P i) (hS : S' cl = S cl) : pst P' S' cl k = pst P S cl k := by
  unfold pst
  by_cases e : k = 0
  · rw [if_pos e, if_pos e, hS]
  · rw [if_neg e, if_neg e, hP _ (by omega) (by omega)]
theorem pst_succ {P S : Nat → Int32} {cl k : Nat} : pst P S cl (k + 1) = P (13 * cl + k) := by
  unfold pst
  rw [if_neg (by omega), Nat.add_sub_cancel]
/-- a branch with its test -/
noncomputable def LawN (M lo hi : Int) (F P S : Nat → Int32) (cl : Nat) (z : RS) (b j : Nat) : Prop := ¬ z.f 30 (b + j) = 0 ∧ Bth M lo hi F (es z) (pst P S cl (3 * j)) (P (13 * cl + 3 * j)) (z.f 31 (b + j)) (z.f 32 (b + j)) ∧ Bth M lo hi F (es z) (P (13 * cl + 3 * j)) (P (13 * cl + (3 * j + 1))) (z.f 32 (b + j)) (z.f 33 (b + j)) ∧ Bth M lo hi F (es z) (P (13 * cl + (3 * j + 1))) (P (13 * cl + (3 * j + 2))) (z.f 33 (b + j)) (z.f 34 (b + j))
noncomputable def SmB (z z' : RS) (i : Nat) : Prop := z'.f 30 i = z.f 30 i ∧ z'.f 31 i = z.f 31 i ∧ z'.f 32 i = z.f 32 i ∧ z'.f 33 i = z.f 33 i ∧ z'.f 34 i = z.f 34 i
theorem SmB.trans {z z' z'' : RS} {i : Nat} (h : SmB z z' i) (h2 : SmB z' z'' i) : SmB z z'' i := ⟨h2.1.trans h.1, h2.2.1.trans h.2.1, h2.2.2.1.trans h.2.2.1, h2.2.2.2.1.trans h.2.2.2.1, h2.2.2.2.2.trans h.2.2.2.2⟩
theorem SmB.fr {W : List Nat} {z z' : RS} {i : Nat} (h : FrR W z z') (hW : 130 ∉ W ∧ 131 ∉ W ∧ 132 ∉ W ∧ 133 ∉ W ∧ 134 ∉ W) : SmB z z' i := ⟨by rw [(h.2 30 hW.1).1], by rw [(h.2 31 hW.2.1).1], by rw [(h.2 32 hW.2.2.1).1], by rw [(h.2 33 hW.2.2.2.1).1], by rw [(h.2 34 hW.2.2.2.2).1]⟩
theorem LawN.keep {M M' lo hi hi' : Int} {F P S F' P' S' : Nat → Int32} {cl b j : Nat} {z z' : RS} (h : LawN M lo hi F P S cl z b j) (hF : ∀ i : Nat, (i : Int) < M → F' i = F i) (hP : ∀ i, 13 * cl ≤ i → i < 13 * cl + 3 * j + 3 → P' i = P i) (hS : S' cl = S cl) (he : ∀ i : Nat, lo ≤ (i : Int) → (i : Int) < hi → es z' i = es z i) (hb : SmB z z' (b + j)) (hM : M ≤ M') (hh : hi ≤ hi') : LawN M' lo hi' F' P' S' cl z' b j := by
  obtain ⟨h0, h1, h2, h3⟩ := h
  obtain ⟨b0, b1, b2, b3, b4⟩ := hb
  unfold LawN
  rw [b0, b1, b2, b3, b4, pst_cg (P := P) (S := S) (k := 3 * j) (fun i q1 q2 => hP i q1 (by omega)) hS, hP (13 * cl + 3 * j) (by omega) (by omega), hP (13 * cl + (3 * j + 1)) (by omega) (by omega), hP (13 * cl + (3 * j + 2)) (by omega) (by omega)]
  exact ⟨h0, h1.keep hF he hM hh, h2.keep hF he hM hh, h3.keep hF he hM hh⟩
noncomputable def LawT (M lo hi : Int) (F P S C : Nat → Int32) (cl : Nat) (z : RS) (b m : Nat) : Prop := m ≤ 4 ∧ (C cl).toInt = ((3 * m + 1 : Nat) : Int) ∧ (∀ j, j < m → LawN M lo hi F P S cl z b j) ∧ z.f 30 (b + m) = 0 ∧ Bth M lo hi F (es z) (pst P S cl (3 * m)) (P (13 * cl + 3 * m)) (z.f 33 (b + m)) (z.f 34 (b + m))
theorem LawT.keep {M M' lo hi hi' : Int} {F P S C F' P' S' C' : Nat → Int32} {cl b m : Nat} {z z' : RS} (h : LawT M lo hi F P S C cl z b m) (hF : ∀ i : Nat, (i : Int) < M → F' i = F i) (hP : ∀ i, 13 * cl ≤ i → i < 13 * cl + 13 → P' i = P i) (hS : S' cl = S cl) (hC : C' cl = C cl) (he : ∀ i : Nat, lo ≤ (i : Int) → (i : Int) < hi → es z' i = es z i) (hb : ∀ i, b ≤ i → i ≤ b + m → SmB z z' i) (hM : M ≤ M') (hh : hi ≤ hi') : LawT M' lo hi' F' P' S' C' cl z' b m := by
  obtain ⟨h0, h1, h2, h3, h4⟩ := h
  have bm := hb (b + m) (by omega) (by omega)
  refine ⟨h0, by rw [hC]; exact h1, fun j hj => (h2 j hj).keep hF (fun i q1 q2 => hP i q1 (by omega)) hS he (hb _ (by omega) (by omega)) hM hh, by rw [bm.1]; exact h3, ?_⟩
  rw [bm.2.2.2.1, bm.2.2.2.2, pst_cg (P := P) (S := S) (k := 3 * m) (fun i q1 q2 => hP i q1 (by omega)) hS, hP (13 * cl + 3 * m) (by omega) (by omega)]
  exact h4.keep hF he hM hh
noncomputable def dfl (cl : Nat) : Int32 := if cl = 0 then -3 else if cl = 3 then 0 else 1
/-- a law, on both sides -/
noncomputable def LawR (M lo hi : Int) (lob hib : Nat) (F P S C : Nat → Int32) (cl q : Nat) (z : RS) : Prop := (z.f 27 q = z.f 28 q ∧ C cl = 1 ∧ Sg F (S cl) (P (13 * cl)) [dfl cl] ∧ (P (13 * cl)).toInt ≤ M) ∨ (∃ b m : Nat, lob ≤ b ∧ b + m + 1 ≤ hib ∧ (z.f 27 q).toInt = (b : Int) ∧ (z.f 28 q).toInt = ((b + m + 1 : Nat) : Int) ∧ LawT M lo hi F P S C cl z b m)
theorem LawR.keep {M M' lo hi hi' : Int} {lob hib hib' : Nat} {F P S C F' P' S' C' : Nat → Int32} {cl q : Nat} {z z' : RS} (h : LawR M lo hi lob hib F P S C cl q z) (hF : ∀ i : Nat, (i : Int) < M → F' i = F i) (hP : ∀ i, 13 * cl ≤ i → i < 13 * cl + 13 → P' i = P i) (hS : S' cl = S cl) (hC : C' cl = C cl) (he : ∀ i : Nat, lo ≤ (i : Int) → (i : Int) < hi → es z' i = es z i) (hb : ∀ i, lob ≤ i → i < hib → SmB z z' i) (h27 : z'.f 27 q = z.f 27 q) (h28 : z'.f 28 q = z.f 28 q) (hM : M ≤ M') (hh : hi ≤ hi') (hhb : hib ≤ hib') : LawR M' lo hi' lob hib' F' P' S' C' cl q z' := by
  rcases h with ⟨a1, a2, a3, a4⟩ | ⟨b, m, a1, a2, a3, a4, a5⟩
  · refine Or.inl ⟨by rw [h27, h28]; exact a1, by rw [hC]; exact a2, ?_, ?_⟩
    · rw [hS, hP (13 * cl) (by omega) (by omega)]
      exact a3.keep (fun i q1 q2 => hF i (by omega))
    · rw [hP (13 * cl) (by omega) (by omega)]
      omega
  · exact Or.inr ⟨b, m, a1, by omega, by rw [h27]; exact a3, by rw [h28]; exact a4, a5.keep hF hP hS hC he (fun i q1 q2 => hb i (by omega) (by omega)) hM hh⟩
/-! a part of a law is read -/
theorem endPart_eq {s s' : KS} {cl j : Nat} (h13 : (s.v 13).toInt = (cl : Int)) (hc4 : cl < 4) (hj : (s.f 25 cl).toInt = (j : Int)) (hj12 : j ≤ 12) (h : kX1_endPart s = some s') : s'.v 12 = s.v 12 ∧ s'.v 13 = s.v 13 ∧ s'.f 22 = s.f 22 ∧ s'.f 24 = s.f 24 ∧ (∀ i, s'.f 23 i = if i = 13 * cl + j then s.v 12 else s.f 23 i) ∧ (∀ i, ¬ i = cl → s'.f 25 i = s.f 25 i) ∧ (s'.f 25 cl).toInt = (j : Int) + 1 := by
  have ec : (s.v 13).toNatClampNeg = cl := clamp_of_int h13
  unfold kX1_endPart at h
  obtain ⟨_, h⟩ := guard_inv h
  rw [ec] at h
  have n : ¬ 13 ≤ s.f 25 cl := fun q => by
    have := tn_le (a := 13) (by decide) rfl q
    omega
  rw [if_neg n] at h
  obtain ⟨_, h⟩ := guard_inv h
  obtain ⟨s4, d4, h⟩ := letS_inv h
  obtain ⟨_, h⟩ := guard_inv h
  obtain ⟨s7, d7, h⟩ := letS_inv h
  cases h
  have m1 : ((s.v 13) * 13).toInt = (s.v 13).toInt * 13 := ti_mulc (c := 13) (by decide) (by omega) (by omega)
  have m2 : (((s.v 13) * 13) + (s.f 25 cl)).toInt = ((13 * cl + j : Nat) : Int) := by
    rw [ti_add (by omega) (by omega)]
    omega
  have ei := clamp_of_int m2
  have a : ((s.f 25 cl) + 1).toInt = (j : Int) + 1 := tn_add hj (by decide) (by omega) (by omega)
  have v4 : s4.v 13 = s.v 13 := by rw [← d4]; rfl
  have f25 : ∀ i, s'.f 25 i = if i = cl then (s.f 25 cl) + 1 else s.f 25 i := fun i => by
    have q : s'.f 25 i = if i = (s4.v 13).toNatClampNeg then (s.f 25 cl) + 1 else s4.f 25 i := by
      rw [← d7]
      exact ksf_at
    rw [q, v4, ec, ← d4]
    rfl
  refine ⟨by rw [← d7, ← d4]; rfl, by rw [← d7, ← d4]; rfl, by rw [← d7, ← d4]; rfl, by rw [← d7, ← d4]; rfl, fun i => ?_, fun i hi => by rw [f25, if_neg hi], by rw [f25, if_pos rfl]; exact a⟩
  have q : s'.f 23 i = s4.f 23 i := by rw [← d7]; rfl
  rw [q, ← d4, ei]
  exact ksf_at
noncomputable def PtR (cl j : Nat) (s : KS) (z : RS) (s' : KS) (z3 : RS) : Prop := (∃ l, ExR s z s' z3 l) ∧ s'.v 13 = s.v 13 ∧ s'.f 24 = s.f 24 ∧ (∀ i, s'.f 23 i = if i = 13 * cl + j then s'.v 12 else s.f 23 i) ∧ (∀ i, ¬ i = cl → s'.f 25 i = s.f 25 i) ∧ (s'.f 25 cl).toInt = (j : Int) + 1
theorem PtR.pre {cl j : Nat} {s s' : KS} {z z3 : RS} (h : PtR cl j s z s' z3) (hC : PreC s z) : PreC s' z3 := by
  obtain ⟨⟨l, x1, x2, x3, _, _⟩, _⟩ := h
  have q1 := x1.2.1
  rw [List.length_map] at q1
  have q2 := x2.2.1
  obtain ⟨c1, c2, c3⟩ := hC
  exact ⟨by omega, by omega, by omega⟩
theorem PtR.low {cl j : Nat} {s s' : KS} {z z3 : RS} (h : PtR cl j s z s' z3) : (∀ i : Nat, (i : Int) < (s.v 12).toInt → s'.f 22 i = s.f 22 i) ∧ (∀ i : Nat, (i : Int) < (z.v 35).toInt → es z3 i = es z i) ∧ (s.v 12).toInt ≤ (s'.v 12).toInt ∧ (z.v 35).toInt ≤ (z3.v 35).toInt := by
  obtain ⟨⟨l, x1, x2, x3, _, _⟩, _⟩ := h
  have q1 := x1.2.1
  have q2 := x2.2.1
  exact ⟨x1.2.2.1, x2.2.2.1, by omega, by omega⟩
theorem PtR.bth {cl j : Nat} {s s' : KS} {z z3 : RS} (h : PtR cl j s z s' z3) (hst : pst (s.f 23) (s.f 24) cl j = s.v 12) {lo : Int} (hlo : lo ≤ (z.v 35).toInt) : Bth (s'.v 12).toInt lo (z3.v 35).toInt (s'.f 22) (es z3) (pst (s'.f 23) (s'.f 24) cl j) (s'.f 23 (13 * cl + j)) (z.v 35) (z3.v 35) ∧ pst (s'.f 23) (s'.f 24) cl (j + 1) = s'.v 12 := by
  obtain ⟨⟨l, x1, x2, x3, x4, x5⟩, _, q24, q23, _, _⟩ := h
  have e1 : s'.f 23 (13 * cl + j) = s'.v 12 := by rw [q23, if_pos rfl]
  have e2 : pst (s'.f 23) (s'.f 24) cl j = s.v 12 := by
    rw [← hst]
    refine pst_cg (fun i q1 q2 => ?_) (by rw [q24])
    rw [q23, if_neg (by omega)]
  refine ⟨?_, by rw [pst_succ]; exact e1⟩
  rw [e1, e2]
  exact ⟨l, Em.sg x1, Em.sg x2, x4, x5, Int.le_refl _, hlo, Int.le_refl _⟩
noncomputable def ResQ (N cl j : Nat) (s : KS) (z z1 z2 : RS) (s' : KS) (out : RS) : Prop := (PR2 N s' out ∧ FrK WLK s s' ∧ FrR WLZ z out ∧ out.v 12 = 0 ∧ (s.v 15).toInt ≤ (s'.v 15).toInt ∧ PtR cl j s z s' out ∧ FrR WX z z1 ∧ FrR [11, 13, 14] z2 out) ∨ FR2 s' out
theorem sim_part {N cl j : Nat} {s s' : KS} {z z1 z2 z3 : RS} {c r : Int32} (hC : PreC s z) (h13 : (s.v 13).toInt = (cl : Int)) (hc4 : cl < 4) (hj : (s.f 25 cl).toInt = (j : Int)) (hj12 : j ≤ 12) (hP : PR2 N s z) (hT : TK2 N s z) (h12 : z.v 12 = 0) (hm : ((c, r) : Int32 × Int32) ∈ kpl) (hc : ¬ c = 302 ∧ ¬ c = 303) (hs : kX4_readPart s c = some s') (he : r_expression z = some z1) (hF : FrR WQ z1 z2) (hr : r_must z2 r = some z3) : ResQ N cl j s z z1 z2 s' z3 := by
  unfold kX4_readPart at hs
  obtain ⟨s1, h1, hs⟩ := bindP_inv hs
  obtain ⟨s2, h2, hs⟩ := bindP_inv hs
  obtain ⟨s3, h3, hs⟩ := bindP_inv hs
  cases hs
  have fe := fr_endPart s1 _ h2
  rcases sim_expr hP hT h12 hC h1 he with ⟨P1, K1, G1, v1, l1, l, X1⟩ | F
  · have K2 : FrK WLK s s2 := (FrK.rfl.trans K1 (by decide)).trans fe (by decide)
    have G2 : FrR WLZ z z2 := (FrR.rfl.trans G1 (by decide)).trans hF (by decide)
    have P2 : PR2 N s2 z2 := P1.keep (fe.1 15 (by decide)) (fe.1 16 (by decide)) (hF.1 11 (by decide)) (hF.1 13 (by decide))
    have T2 : TK2 N s2 z2 := hT.fr K2 G2 (by decide) (by decide)
    have v2 : z2.v 12 = 0 := (hF.1 12 (by decide)).trans v1
    have l2 : (s2.v 15).toInt = (s1.v 15).toInt := by rw [fe.1 15 (by decide)]
    obtain ⟨t, w, ht, hw, hcase⟩ := step2 P2 T2 hm hc
    rw [h3] at ht
    cases ht
    rw [hr] at hw
    cases hw
    rcases hcase with ⟨_, e1, e2, P3, l3⟩ | ⟨F, _, _⟩
    · refine Or.inl ⟨P3, ?_, ?_, ?_, by omega, ?_, G1, ?_⟩
      · rw [e1]; exact K2.sv (by decide)
      · rw [e2]; exact G2.sv (by decide)
      · rw [e2]; exact v2
      · obtain ⟨q12, q13, q22, q24, q23, q25, q25c⟩ := endPart_eq (cl := cl) (j := j) (by rw [K1.1 13 (by decide)]; exact h13) hc4 (by rw [(K1.2 25 (by decide)).1]; exact hj) hj12 h2
        have x12 : s'.v 12 = s1.v 12 := by rw [e1]; exact q12
        have x22 : s'.f 22 = s1.f 22 := by rw [e1]; exact q22
        have y35 : z3.v 35 = z1.v 35 := by rw [e2]; exact hF.1 35 (by decide)
        have y36 : z3.f 36 = z1.f 36 := by rw [e2]; exact (hF.2 36 (by decide)).1
        have y37 : z3.f 37 = z1.f 37 := by rw [e2]; exact (hF.2 37 (by decide)).1
        have x15 := X1.2.2.1
        refine ⟨⟨l, X1.1.keep x12 x22, X1.2.1.keep y35 y36 y37, by omega, X1.2.2.2.1, X1.2.2.2.2⟩, ?_, ?_, fun i => ?_, fun i hi => ?_, ?_⟩
        · rw [e1]; exact q13.trans (K1.1 13 (by decide))
        · rw [e1]; exact q24.trans (K1.2 24 (by decide)).1
        · rw [x12, e1]
          show s2.f 23 i = _
          rw [q23 i, (K1.2 23 (by decide)).1]
        · rw [e1]
          show s2.f 25 i = _
          rw [q25 i hi, (K1.2 25 (by decide)).1]
        · rw [e1]; exact q25c
      · rw [e2]; exact FrR.rfl.sv (by decide)
    · exact Or.inr F
  · have k1 : Sk (s1.v 16) (s1.v 17) s1 := ⟨rfl, rfl⟩
    have k3 := sk_take F.ne _ (sk_endPart k1 _ h2) _ h3
    have q2 : Sz (z1.v 13) (z1.v 14) z2 := ⟨hF.1 13 (by decide), hF.1 14 (by decide)⟩
    exact Or.inr ((F.sk k3).sz (sz_must F.1 _ q2 _ hr))
/-- a term of the reference: its expression, what it writes down of it -/
theorem term_inv {z z' : RS} (h13 : z.v 13 = 0) (h : r_term z = some z') : ∃ y y1, FrR [133] z y ∧ r_expression y = some y1 ∧ FrR [29, 134] y1 z' ∧ (∀ i, y.f 33 i = if i = (z.v 29).toNatClampNeg then z.v 35 else z.f 33 i) ∧ (∀ i, z'.f 34 i = if i = (y1.v 29).toNatClampNeg then y1.v 35 else y1.f 34 i) ∧ z'.v 29 = (y1.v 29) + 1 := by
  unfold r_term at h
  obtain ⟨_, h⟩ := guard_inv h
  obtain ⟨y, ey, h⟩ := letS_inv h
  have v13 : y.v 13 = 0 := by rw [← ey]; exact h13
  rw [if_pos v13] at h
  obtain ⟨y1, he, h⟩ := bindP_inv h
  unfold r_term_24 at h
  obtain ⟨_, h⟩ := guard_inv h
  obtain ⟨y2, e2, h⟩ := letS_inv h
  obtain ⟨y4, e4, h⟩ := letS_inv h
  cases h
  refine ⟨y, y1, by rw [← ey]; exact FrR.rfl.sf (by decide), he, ?_, fun i => ?_, fun i => ?_, ?_⟩
  · rw [← e4, ← e2]
    exact (FrR.rfl.sf (k := 34) (by decide)).sv (k := 29) (by decide)
  · rw [← ey]
    exact rsf_at
  · rw [← e4, ← e2]
    exact rsf_at
  · rw [← e4, ← e2]
    rfl
end
section
/-! ===== a law: all its parts ===== -/
theorem nar01 : vp_nar .boolean 0 = 0 ∧ ¬ vp_nar .boolean 1 = 0 := by decide
noncomputable def ChK (cl : Nat) (s s' : KS) : Prop := (∀ i : Nat, (i : Int) < (s.v 12).toInt → s'.f 22 i = s.f 22 i) ∧ (∀ i, (i < 13 * cl ∨ 13 * cl + 13 ≤ i) → s'.f 23 i = s.f 23 i) ∧ (∀ i, ¬ i = cl → s'.f 24 i = s.f 24 i ∧ s'.f 25 i = s.f 25 i) ∧ (s.v 12).toInt ≤ (s'.v 12).toInt
noncomputable def ChZ (b : Nat) (z z' : RS) : Prop := (∀ i : Nat, (i : Int) < (z.v 35).toInt → es z' i = es z i) ∧ (∀ i, i < b → SmB z z' i) ∧ (z.v 35).toInt ≤ (z'.v 35).toInt
theorem ChK.trans {cl : Nat} {s t u : KS} (h : ChK cl s t) (h2 : ChK cl t u) : ChK cl s u := by
  obtain ⟨a1, a2, a3, a4⟩ := h
  obtain ⟨b1, b2, b3, b4⟩ := h2
  exact ⟨fun i hi => (b1 i (by omega)).trans (a1 i hi), fun i hi => (b2 i hi).trans (a2 i hi), fun i hi => ⟨(b3 i hi).1.trans (a3 i hi).1, (b3 i hi).2.trans (a3 i hi).2⟩, by omega⟩
theorem ChZ.trans {b : Nat} {s t u : RS} (h : ChZ b s t) (h2 : ChZ b t u) : ChZ b s u := by
  obtain ⟨a1, a2, a3⟩ := h
  obtain ⟨b1, b2, b3⟩ := h2
  exact ⟨fun i hi => (b1 i (by omega)).trans (a1 i hi), fun i hi => (a2 i hi).trans (b2 i hi), by omega⟩
theorem PtR.chk {cl j : Nat} {s s' : KS} {z z3 : RS} (h : PtR cl j s z s' z3) (hj : j ≤ 12) : ChK cl s s' := by
  obtain ⟨l1, l2, l3, l4⟩ := h.low
  obtain ⟨_, _, q24, q23, q25, _⟩ := h
  exact ⟨l1, fun i hi => by rw [q23, if_neg (by omega)], fun i hi => ⟨by rw [q24], q25 i hi⟩, l3⟩
theorem es_fr {W : List Nat} {z z' : RS} (h : FrR W z z') (h1 : 136 ∉ W) (h2 : 137 ∉ W) : es z' = es z := by
  unfold es
  rw [(h.2 36 h1).1, (h.2 37 h2).1]
/-- a law is being read: x ifs are done -/
noncomputable def LawI (cl b0 x : Nat) (lo : Int) (s0 : KS) (z0 : RS) (s : KS) (z : RS) : Prop := ChK cl s0 s ∧ ChZ b0 z0 z ∧ (z.f 27 = z0.f 27 ∧ z.f 28 = z0.f 28) ∧ PreC s z ∧ ((s.v 13).toInt = (cl : Int) ∧ cl < 4) ∧ (s.f 25 cl).toInt = ((3 * x : Nat) : Int) ∧ pst (s.f 23) (s.f 24) cl (3 * x) = s.v 12 ∧ (z.v 29).toInt = ((b0 + x : Nat) : Int) ∧ lo ≤ (z.v 35).toInt ∧ (∀ i, i < x → LawN (s.v 12).toInt lo (z.v 35).toInt (s.f 22) (s.f 23) (s.f 24) cl z b0 i)
/-- a law is read -/
noncomputable def LwE (cl b0 sd : Nat) (lo : Int) (x2 : Int32) (s0 : KS) (z0 : RS) (s' : KS) (out : RS) : Prop := ChK cl s0 s' ∧ ChZ b0 z0 out ∧ PreC s' out ∧ lo ≤ (out.v 35).toInt ∧ (∃ m, (out.v 29).toInt = ((b0 + m + 1 : Nat) : Int) ∧ LawT (s'.v 12).toInt lo (out.v 35).toInt (s'.f 22) (s'.f 23) (s'.f 24) (s'.f 25) cl out b0 m) ∧ (∀ i, out.f 27 i = if i = 4 * sd + cl then x2 else z0.f 27 i) ∧ (∀ i, out.f 28 i = if i = 4 * sd + cl then out.v 29 else z0.f 28 i)
noncomputable def ResL (N cl b0 sd : Nat) (lo : Int) (x2 : Int32) (s0 : KS) (z0 : RS) (s : KS) (z : RS) (s' : KS) (out : RS) : Prop := (PR2 N s' out ∧ FrK WLK s s' ∧ FrR WLZ z out ∧ out.v 12 = 0 ∧ (s.v 15).toInt ≤ (s'.v 15).toInt ∧ LwE cl b0 sd lo x2 s0 z0 s' out) ∨ FR2 s' out
theorem sim_law_end {N cl b0 sd x : Nat} {lo : Int} {s0 s s' : KS} {z0 z out : RS} {x1 x2 : Int32} (hL : LawI cl b0 x lo s0 z0 s z) (hx4 : x ≤ 4) (h19 : (z.v 19).toInt = (sd : Int)) (hsd : sd ≤ 1) (hx1 : x1.toInt = (cl : Int)) (hP : PR2 N s z) (hT : TK2 N s z) (h12 : z.v 12 = 0) (hs : kX4_readLaw_77 s = some s') (hz : r_tellLaw_129 z x1 x2 = some out) : ResL N cl b0 sd lo x2 s0 z0 s z s' out := by
  obtain ⟨i1, i2, i3, i4, i5, i6, i7, i8, i9, i10⟩ := hL
  unfold kX4_readLaw_77 at hs
  rw [bindP_id] at hs
  unfold r_tellLaw_129 at hz
  obtain ⟨g29, hz⟩ := guard_inv hz
  have g29 : ¬ ((z.v 29) < 0 ∨ 260 ≤ (z.v 29).toNatClampNeg) := of_decide_eq_true g29
  have l29 : ¬ 260 ≤ (z.v 29).toNatClampNeg := fun q => g29 (Or.inr q)
  obtain ⟨y, ey, hz⟩ := letS_inv hz
  obtain ⟨y4, ht, hz⟩ := bindP_inv hz
  obtain ⟨y5, hr, hz⟩ := bindP_inv hz
  have eB : (z.v 29).toNatClampNeg = b0 + x := clamp_of_int i8
  have Gy0 : FrR [130] z y := by rw [← ey]; exact FrR.rfl.sf (by decide)
  have Gy : FrR WQ z y := FrR.rfl.trans Gy0 (by decide)
  have y30 : ∀ i, y.f 30 i = if i = b0 + x then 0 else z.f 30 i := fun i => by
    rw [← ey, eB, nar01.1]
    exact rsf_at
  obtain ⟨w, w1, Gw0, he, Gw10, u33, u34, u29⟩ := term_inv ((Gy.1 13 (by decide)).trans hP.2.1) ht
  have Gw : FrR WQ y w := FrR.rfl.trans Gw0 (by decide)
  have Gw1 : FrR WQ w1 y4 := FrR.rfl.trans Gw10 (by decide)
  have Gzw : FrR WQ z w := Gy.trans Gw (by decide)
  have Pw : PR2 N s w := hP.keep rfl rfl (Gzw.1 11 (by decide)) (Gzw.1 13 (by decide))
  have Tw : TK2 N s w := hT.fr FrK.rfl Gzw (W := []) (by decide) (by decide)
  have w35 : w.v 35 = z.v 35 := Gzw.1 35 (by decide)
  have wes : es w = es z := es_fr Gzw (by decide) (by decide)
  have Cw : PreC s w := ⟨i4.1, i4.2.1, by rw [w35]; exact i4.2.2⟩
  rcases sim_part (cl := cl) (j := 3 * x) (c := 59) (r := 4) Cw i5.1 i5.2 i6 (by omega) Pw Tw ((Gzw.1 12 (by decide)).trans h12) (by decide) (by decide) hs he Gw1 hr with ⟨P5, K5, G5, v5, l5, T5, X5, M5⟩ | F
  · have q : y5.v 13 ≤ 0 := by rw [P5.2.1]; decide
    rw [if_pos q] at hz
    obtain ⟨_, hz⟩ := guard_inv hz
    obtain ⟨y8, e8, hz⟩ := letS_inv hz
    obtain ⟨_, hz⟩ := guard_inv hz
    obtain ⟨y11, e11, hz⟩ := letS_inv hz
    cases hz
    have Go : FrR [127, 128] y5 out := by
      rw [← e11, ← e8]
      exact (FrR.rfl.sf (k := 27) (by decide)).sf (k := 28) (by decide)
    have y519 : y5.v 19 = z.v 19 := (G5.1 19 (by decide)).trans (Gzw.1 19 (by decide))
    have b19 : (y5.v 19).toInt = (sd : Int) := by rw [y519]; exact h19
    have m1 : (4 * (y5.v 19)).toInt = (y5.v 19).toInt * 4 := ti_cmul (c := 4) (by decide) (by omega) (by omega)
    have hc4 := i5.2
    have m2 : ((4 * (y5.v 19)) + x1).toInt = ((4 * sd + cl : Nat) : Int) := by
      rw [ti_add (by omega) (by omega)]
      omega
    have ei := clamp_of_int m2
    have B5 : ∀ i, ¬ i = b0 + x → SmB z out i := by
      intro i hi
      have s1 : SmB z y i := ⟨by rw [y30, if_neg hi], by rw [(Gy0.2 31 (by decide)).1], by rw [(Gy0.2 32 (by decide)).1], by rw [(Gy0.2 33 (by decide)).1], by rw [(Gy0.2 34 (by decide)).1]⟩
      have y29 : (y.v 29).toNatClampNeg = b0 + x := by rw [Gy0.1 29 (by decide)]; exact eB
      have s2 : SmB y w i := ⟨by rw [(Gw0.2 30 (by decide)).1], by rw [(Gw0.2 31 (by decide)).1], by rw [(Gw0.2 32 (by decide)).1], by rw [u33, y29, if_neg hi], by rw [(Gw0.2 34 (by decide)).1]⟩
      have s3 : SmB w w1 i := SmB.fr X5 (by decide)
      have w129 : (w1.v 29).toNatClampNeg = b0 + x := by rw [X5.1 29 (by decide), Gw0.1 29 (by decide)]; exact y29
      have s4 : SmB w1 y4 i := ⟨by rw [(Gw10.2 30 (by decide)).1], by rw [(Gw10.2 31 (by decide)).1], by rw [(Gw10.2 32 (by decide)).1], by rw [(Gw10.2 33 (by decide)).1], by rw [u34, w129, if_neg hi]⟩
      exact ((((s1.trans s2).trans s3).trans s4).trans (SmB.fr M5 (by decide))).trans (SmB.fr Go (by decide))
    have o30 : out.f 30 (b0 + x) = 0 := by
      rw [(Go.2 30 (by decide)).1, (M5.2 30 (by decide)).1, (Gw10.2 30 (by decide)).1, (X5.2 30 (by decide)).1, (Gw0.2 30 (by decide)).1, y30, if_pos rfl]
    have y29 : (y.v 29).toNatClampNeg = b0 + x := by rw [Gy0.1 29 (by decide)]; exact eB
    have w129 : w1.v 29 = z.v 29 := by rw [X5.1 29 (by decide), Gw0.1 29 (by decide), Gy0.1 29 (by decide)]
    have o33 : out.f 33 (b0 + x) = w.v 35 := by
      rw [(Go.2 33 (by decide)).1, (M5.2 33 (by decide)).1, (Gw10.2 33 (by decide)).1, (X5.2 33 (by decide)).1, u33, y29, if_pos rfl, Gw0.1 35 (by decide)]
    have y535 : y5.v 35 = w1.v 35 := (M5.1 35 (by decide)).trans (Gw10.1 35 (by decide))
    have o34 : out.f 34 (b0 + x) = y5.v 35 := by
      rw [(Go.2 34 (by decide)).1, (M5.2 34 (by decide)).1, u34, w129, eB, if_pos rfl, y535]
    have o35 : out.v 35 = y5.v 35 := Go.1 35 (by decide)
    have oes : es out = es y5 := es_fr Go (by decide) (by decide)
    have o29 : out.v 29 = (z.v 29) + 1 := by rw [Go.1 29 (by decide), M5.1 29 (by decide), u29, w129]
    obtain ⟨lw1, lw2, lw3, lw4⟩ := T5.low
    rw [w35, wes] at lw2
    rw [w35] at lw4
    obtain ⟨bt, _⟩ := T5.bth i7 (lo := lo) (by rw [w35]; exact i9)
    have hes : ∀ i : Nat, (i : Int) < (z.v 35).toInt → es out i = es z i := fun i hi => by rw [oes]; exact lw2 i hi
    have r29 := ti_rng (z.v 29)
    refine Or.inl ⟨P5.keep rfl rfl (Go.1 11 (by decide)) (Go.1 13 (by decide)), K5, (((FrR.rfl.trans Gzw (by decide)).trans G5 (by decide)).trans Go (by decide)), (Go.1 12 (by decide)).trans v5, l5, ?_⟩
    refine ⟨i1.trans (T5.chk (by omega)), i2.trans ⟨hes, fun i hi => B5 i (by omega), by rw [o35]; exact lw4⟩, ?_, by rw [o35]; omega, ⟨x, ?_, ?_⟩, fun i => ?_, fun i => ?_⟩
    · have := T5.pre Cw
      exact ⟨this.1, this.2.1, by rw [o35]; exact this.2.2⟩
    · rw [o29, ti_add (by rw [show (1 : Int32).toInt = 1 from by decide]; omega) (by rw [show (1 : Int32).toInt = 1 from by decide]; omega), i8, show (1 : Int32).toInt = 1 from by decide]
      omega
    · refine ⟨hx4, by rw [T5.2.2.2.2.2]; omega, fun j hj => ?_, o30, ?_⟩
      · refine (i10 j hj).keep lw1 (fun i q1 q2 => ?_) (by rw [T5.2.2.1]) (fun i q1 q2 => hes i q2) (B5 _ (by omega)) lw3 (by rw [o35]; exact lw4)
        rw [T5.2.2.2.1, if_neg (by omega)]
      · rw [o33, o34, oes, o35]
        exact bt
    · rw [← e11]
      show y8.f 27 i = _
      rw [← e8, ei, ← i3.1]
      have q27 : y5.f 27 = z.f 27 := by rw [(M5.2 27 (by decide)).1, (Gw10.2 27 (by decide)).1, (X5.2 27 (by decide)).1, (Gzw.2 27 (by decide)).1]
      rw [← q27]
      exact rsf_at
    · have y819 : y8.v 19 = y5.v 19 := by rw [← e8]; rfl
      have y829 : y8.v 29 = out.v 29 := by rw [← e11]; rfl
      have q28 : y8.f 28 = z.f 28 := by
        rw [← e8]
        show y5.f 28 = _
        rw [(M5.2 28 (by decide)).1, (Gw10.2 28 (by decide)).1, (X5.2 28 (by decide)).1, (Gzw.2 28 (by decide)).1]
      have q : out.f 28 i = if i = ((4 * (y8.v 19)) + x1).toNatClampNeg then y8.v 29 else y8.f 28 i := by
        rw [← e11]
        exact rsf_at
      rw [q, y819, ei, y829, q28, i3.2]
  · have q : ¬ y5.v 13 ≤ 0 := fun c => by
      have h1 := tn_le (b := 0) rfl (by decide) c
      have h2 := F.1
      omega
    rw [if_neg q] at hz
    cases hz
    exact Or.inr F
theorem sim_lawL {N cl b0 sd : Nat} {lo : Int} {sa s0 : KS} {za z0 : RS} (x1 xb : Int32) (hsd : sd ≤ 1) (hx1 : x1.toInt = (cl : Int)) : ∀ (n m : Nat) (s s' : KS) (z out : RS) (x : Int32) (xn : Nat), x.toInt = (xn : Int) → LawI cl b0 xn lo sa za s z → (z.v 19).toInt = (sd : Int) → PR2 N s z → TK2 N s z → FrK WLK s0 s → FrR WLZ z0 z → z.v 12 = 0 → (s0.v 15).toInt ≤ (s.v 15).toInt → 0 ≤ x.toInt → x.toInt ≤ 4 → kX4_readLaw_19L n s x = some s' → r_tellLaw_12L m z x1 xb x = some out → ResL N cl b0 sd lo xb sa za s0 z0 s' out := by
  intro n
  induction n with
  | zero => intro m s s' z out x xn _ _ _ _ _ _ _ _ _ _ _ hs; exact none_ne hs
  | succ n ih =>
    intro m s s' z out x xn hxn hLI h19 hP hT K0 G0 h12 h15 hx0 hx4 hs hz
    obtain ⟨i1, i2, i3, i4, i5, i6, i7, i8, i9, i10⟩ := id hLI
    have eB : (z.v 29).toNatClampNeg = b0 + xn := clamp_of_int i8
    have hs : kX4_readLaw_19 (kX4_readLaw_19L n) s x = some s' := hs
    cases m with
    | zero => exact none_ne hz
    | succ m =>
    have hz : r_tellLaw_12 (r_tellLaw_12L m) z x1 xb x = some out := hz
    have hk := hP.kp hT
    have i27 := kp2 hk (c0 := 263) (r0 := 27) (by decide)
    unfold kX4_readLaw_19 at hs
    unfold r_tellLaw_12 at hz
    have nx : ¬ 4 < x := fun q => by
      have := tn_lt (a := 4) (by decide) rfl q
      omega
    rw [if_neg nx] at hs
    rw [if_pos hP.2.1] at hz
    by_cases c : KAt s = 263
    · rw [kat_yes hP.1 hP.kv c, bindI_some, if_neg z_one] at hs
      rw [zis_yes hP.2.1 hP.zv (i27.mp c), bindI_some, if_neg z_one] at hz
      by_cases e4 : x = 4
      · rw [if_pos e4, kfail_eq hP.1 hP.kv, bindP_some] at hs
        rw [if_pos e4, zfail_eq hP.2.1 hP.zv, bindP_some] at hz
        have F := hP.fail hT 2 (by decide)
        unfold r_tellLaw_38 at hz
        have q : ¬ (zfl z 2).v 13 ≤ 0 := by show ¬ (2 : Int32) ≤ 0; decide
        rw [if_neg q] at hz
        cases hz
        unfold kX4_readLaw_44 at hs
        obtain ⟨t1, h1, hs⟩ := bindP_inv hs
        obtain ⟨t2, h2, hs⟩ := bindP_inv hs
        obtain ⟨t3, h3, hs⟩ := bindP_inv hs
        obtain ⟨t4, h4, hs⟩ := bindP_inv hs
        have k0 : Sk ((kfl s 2).v 16) ((kfl s 2).v 17) (kfl s 2) := ⟨rfl, rfl⟩
        have k4 := sk_readPart F.ne _ (sk_readPart F.ne _ (sk_readPart F.ne _ (sk_take F.ne _ k0 _ h1) _ h2) _ h3) _ h4
        exact Or.inr (F.sk (sk_readLaw_19L F.ne n _ k4 _ hs))
      · rw [if_neg e4] at hs hz
        have ax : (x + 1).toInt = x.toInt + 1 := tn_add rfl (by decide) (by omega) (by omega)
        have nx4 := tn_ne (b := 4) rfl (by decide) e4
        unfold kX4_readLaw_44 at hs
        obtain ⟨t1, h1, hs⟩ := bindP_inv hs
        obtain ⟨t2, h2, hs⟩ := bindP_inv hs
        obtain ⟨t3, h3, hs⟩ := bindP_inv hs
        obtain ⟨t4, h4, hsF⟩ := bindP_inv hs
        unfold r_tellLaw_38 at hz
        have q : z.v 13 ≤ 0 := by rw [hP.2.1]; decide
        rw [if_pos q] at hz
        obtain ⟨w2, hg, hz⟩ := bindP_inv hz
        obtain ⟨g29, hz⟩ := guard_inv hz
        obtain ⟨w4, e4', hz⟩ := letS_inv hz
        obtain ⟨_, hz⟩ := guard_inv hz
        obtain ⟨w7, e7, hz⟩ := letS_inv hz
        obtain ⟨w9, hx9, hz⟩ := bindP_inv hz
        obtain ⟨w10, hm10, hz⟩ := bindP_inv hz
        obtain ⟨_, hz⟩ := guard_inv hz
        obtain ⟨w12, e12, hzF⟩ := letS_inv hz
        have G27 : FrR WQ w2 w7 := by rw [← e7, ← e4']; exact (FrR.rfl.sf (k := 30) (by decide)).sf (k := 31) (by decide)
        have G1012 : FrR WQ w10 w12 := by rw [← e12]; exact FrR.rfl.sf (k := 32) (by decide)
        have skR : ∀ (a b : Int32), ¬ a = 0 → Sk a b t1 → Sk a b s' := fun a b ha k => sk_readLaw_19L ha n _ (sk_readPart ha _ (sk_readPart ha _ (sk_readPart ha _ k _ h2) _ h3) _ h4) _ hsF
        -- the reference behind a fault, from w12 on
        have szR : ∀ (a b : Int32), 0 < a.toInt → Sz a b w12 → Sz a b out := by
          intro a b ha k
          have hz := hzF
          rw [if_neg (Sz.ne ha k)] at hz
          exact sz_law_110 ha m _ _ _ k _ hz
        by_cases hl : s.v 15 = 400
        · have nl : ¬ s.v 15 < 400 := by rw [hl]; decide
          have e1 := ktake_room hP.1 hP.kv c nl
          rw [h1] at e1
          cases e1
          have e2 := zgo_room hP.2.1 hP.zv (by rw [← hP.2.2.1]; exact hl)
          rw [hg] at e2
          cases e2
          have F := hP.fail hT 2 (by decide)
          have k0 : Sk ((kfl s 2).v 16) ((kfl s 2).v 17) (kfl s 2) := ⟨rfl, rfl⟩
          have q7 : Sz ((zfl z 2).v 13) ((zfl z 2).v 14) w7 := ⟨G27.1 13 (by decide), G27.1 14 (by decide)⟩
          have q10 := sz_must F.1 _ (sz_expression F.1 q7 _ hx9) _ hm10
          have q12 : Sz ((zfl z 2).v 13) ((zfl z 2).v 14) w12 := ⟨(G1012.1 13 (by decide)).trans q10.1, (G1012.1 14 (by decide)).trans q10.2⟩
          exact Or.inr ((F.sk (skR _ _ F.ne k0)).sz (szR _ _ F.1 q12))
        · have q := hP.lt hl
          have e1 := ktake_yes hP.1 hP.kv c q.1
          rw [h1] at e1
          cases e1
          have e2 := zgo_ok q.2.2
          rw [hg] at e2
          cases e2
          have A := hP.adv hT (fun q => by rw [c] at q; exact absurd q (by decide)) (fun q => by rw [c] at q; exact absurd q (by decide)) hl
          have K1 : FrK WLK s (kad s) := FrK.rfl.sv (by decide)
          have G7 : FrR WLZ z w7 := ((FrR.rfl.sv (k := 11) (by decide)).trans G27 (by decide))
          have P7 : PR2 N (kad s) w7 := A.1.keep rfl rfl (G27.1 11 (by decide)) (G27.1 13 (by decide))
          have T7 := hT.fr K1 G7 (by decide) (by decide)
          have v7 : w7.v 12 = 0 := (G27.1 12 (by decide)).trans h12
          have G70 : FrR [130, 131] (zad z) w7 := by rw [← e7, ← e4']; exact (FrR.rfl.sf (k := 30) (by decide)).sf (k := 31) (by decide)
          have w735 : w7.v 35 = z.v 35 := G70.1 35 (by decide)
          have w7es : es w7 = es z := es_fr (z := zad z) G70 (by decide) (by decide)
          have w729 : w7.v 29 = z.v 29 := G70.1 29 (by decide)
          have C7 : PreC (kad s) w7 := by
            refine ⟨i4.1, ?_, by rw [w735]; exact i4.2.2⟩
            have q1 := i4.2.1
            have q2 := A.2
            show (s.v 12).toInt ≤ _
            omega
          rcases sim_part (cl := cl) (j := 3 * xn) (c := 60) (r := 13) C7 i5.1 i5.2 i6 (by omega) P7 T7 v7 (by decide) (by decide) h2 hx9 FrR.rfl hm10 with ⟨P10, K10, G10, v10, l10, T10, X10, M10⟩ | F
          · have P12 : PR2 N t2 w12 := P10.keep rfl rfl (G1012.1 11 (by decide)) (G1012.1 13 (by decide))
            have G12 : FrR WLZ w7 w12 := G10.trans G1012 (by decide)
            have T12 := T7.fr K10 G12 (by decide) (by decide)
            have v12 : w12.v 12 = 0 := (G1012.1 12 (by decide)).trans v10
            rw [if_pos P12.2.1] at hzF
            obtain ⟨w15, hx15, hz⟩ := bindP_inv hzF
            unfold r_tellLaw_110 at hz
            obtain ⟨w16, hm16, hz⟩ := bindP_inv hz
            obtain ⟨w17, ht17, hz⟩ := bindP_inv hz
            obtain ⟨w18, hm18, hz⟩ := bindP_inv hz
            have G12' : FrR [132] w10 w12 := by rw [← e12]; exact FrR.rfl.sf (k := 32) (by decide)
            have w1235 : w12.v 35 = w10.v 35 := G12'.1 35 (by decide)
            have w12es : es w12 = es w10 := es_fr G12' (by decide) (by decide)
            have C12 : PreC t2 w12 := by
              have q := T10.pre C7
              exact ⟨q.1, q.2.1, by rw [w1235]; exact q.2.2⟩
            have j2 : (t2.f 25 cl).toInt = ((3 * xn + 1 : Nat) : Int) := by rw [T10.2.2.2.2.2]; omega
            have s2 : (t2.v 13).toInt = (cl : Int) := by rw [T10.2.1]; exact i5.1
            rcases sim_part (cl := cl) (j := 3 * xn + 1) (c := 264) (r := 28) C12 s2 i5.2 j2 (by omega) P12 T12 v12 (by decide) (by decide) h3 hx15 FrR.rfl hm16 with ⟨P16, K16, G16, v16, l16, T16', X16, M16⟩ | F
            · have T16 := T12.fr K16 G16 (by decide) (by decide)
              obtain ⟨y, y1, Gy0, he, Gy10, u33, u34, u29⟩ := term_inv P16.2.1 ht17
              have Gy : FrR WQ w16 y := FrR.rfl.trans Gy0 (by decide)
              have Gy1 : FrR WQ y1 w17 := FrR.rfl.trans Gy10 (by decide)
              have y35 : y.v 35 = w16.v 35 := Gy0.1 35 (by decide)
              have yes : es y = es w16 := es_fr Gy0 (by decide) (by decide)
              have Cy : PreC t3 y := by
                have q := T16'.pre C12
                exact ⟨q.1, q.2.1, by rw [y35]; exact q.2.2⟩
              have j3 : (t3.f 25 cl).toInt = ((3 * xn + 2 : Nat) : Int) := by rw [T16'.2.2.2.2.2]; omega
              have s3 : (t3.v 13).toInt = (cl : Int) := by rw [T16'.2.1]; exact s2
              have Py : PR2 N t3 y := P16.keep rfl rfl (Gy.1 11 (by decide)) (Gy.1 13 (by decide))
              have Ty := T16.fr FrK.rfl Gy (W := []) (by decide) (by decide)
              rcases sim_part (cl := cl) (j := 3 * xn + 2) (c := 265) (r := 29) Cy s3 i5.2 j3 (by omega) Py Ty ((Gy.1 12 (by decide)).trans v16) (by decide) (by decide) h4 he Gy1 hm18 with ⟨P18, K18, G18, v18, l18, T18, X18, M18⟩ | F
              · have K : FrK WLK s t4 := ((K1.trans K10 (by decide)).trans K16 (by decide)).trans K18 (by decide)
                have G : FrR WLZ z w18 := ((((G7.trans G12 (by decide)).trans G16 (by decide)).trans Gy (by decide)).trans G18 (by decide))
                have := A.2
                have h19' : (w18.v 19).toInt = (sd : Int) := by rw [G.1 19 (by decide)]; exact h19
                have LI4 : LawI cl b0 (xn + 1) lo sa za t4 w18 := by
                  obtain ⟨c1, c2, c3, c4⟩ := T10.low
                  obtain ⟨d1, d2, d3, d4⟩ := T16'.low
                  obtain ⟨k1, k2, k3, k4⟩ := T18.low
                  rw [w735, w7es] at c2
                  rw [w735] at c4
                  rw [w1235, w12es] at d2
                  rw [w1235] at d4
                  rw [y35, yes] at k2
                  rw [y35] at k4
                  have c1 : ∀ i : Nat, (i : Int) < (s.v 12).toInt → t2.f 22 i = s.f 22 i := c1
                  have c3 : (s.v 12).toInt ≤ (t2.v 12).toInt := c3
                  have F7 : FrR WX w7 w10 := X10.trans M10 (by decide)
                  have F16 : FrR WX w12 w16 := X16.trans M16 (by decide)
                  have Fy : FrR [11, 12, 13, 14, 29, 35, 39, 134, 136, 137, 138] y w18 := ((FrR.rfl.trans X18 (by decide)).trans Gy10 (by decide)).trans M18 (by decide)
                  have v429 : w4.v 29 = z.v 29 := by rw [← e4']; rfl
                  have b10 : w10.v 29 = z.v 29 := (F7.1 29 (by decide)).trans w729
                  have b12 : w12.v 29 = z.v 29 := (G12'.1 29 (by decide)).trans b10
                  have b16 : w16.v 29 = z.v 29 := (F16.1 29 (by decide)).trans b12
                  have by1 : y1.v 29 = z.v 29 := by rw [X18.1 29 (by decide), Gy0.1 29 (by decide)]; exact b16
                  have n30 : ∀ i, w18.f 30 i = if i = b0 + xn then vp_nar .boolean 1 else z.f 30 i := fun i => by
                    rw [(Fy.2 30 (by decide)).1, (Gy0.2 30 (by decide)).1, (F16.2 30 (by decide)).1, (G12'.2 30 (by decide)).1, (F7.2 30 (by decide)).1, ← e7]
                    show w4.f 30 i = _
                    rw [← e4', ← eB]
                    exact rsf_at
                  have n31 : ∀ i, w18.f 31 i = if i = b0 + xn then z.v 35 else z.f 31 i := fun i => by
                    have q : w7.f 31 i = if i = (w4.v 29).toNatClampNeg then w4.v 35 else w4.f 31 i := by
                      rw [← e7]
                      exact rsf_at
                    have q35 : w4.v 35 = z.v 35 := by rw [← e4']; rfl
                    have q31 : w4.f 31 = z.f 31 := by rw [← e4']; rfl
                    rw [(Fy.2 31 (by decide)).1, (Gy0.2 31 (by decide)).1, (F16.2 31 (by decide)).1, (G12'.2 31 (by decide)).1, (F7.2 31 (by decide)).1, q, v429, eB, q35, q31]
                  have n32 : ∀ i, w18.f 32 i = if i = b0 + xn then w10.v 35 else z.f 32 i := fun i => by
                    have q : w12.f 32 i = if i = (w10.v 29).toNatClampNeg then w10.v 35 else w10.f 32 i := by
                      rw [← e12]
                      exact rsf_at
                    have q2 : w10.f 32 = z.f 32 := by rw [(F7.2 32 (by decide)).1, (G70.2 32 (by decide)).1]; rfl
                    rw [(Fy.2 32 (by decide)).1, (Gy0.2 32 (by decide)).1, (F16.2 32 (by decide)).1, q, b10, eB, q2]
                  have n33 : ∀ i, w18.f 33 i = if i = b0 + xn then w16.v 35 else z.f 33 i := fun i => by
                    have q2 : w16.f 33 = z.f 33 := by rw [(F16.2 33 (by decide)).1, (G12'.2 33 (by decide)).1, (F7.2 33 (by decide)).1, (G70.2 33 (by decide)).1]; rfl
                    rw [(Fy.2 33 (by decide)).1, u33, b16, eB, q2]
                  have w1835 : w18.v 35 = y1.v 35 := (M18.1 35 (by decide)).trans (Gy10.1 35 (by decide))
                  have n34 : ∀ i, w18.f 34 i = if i = b0 + xn then w18.v 35 else z.f 34 i := fun i => by
                    have q2 : y1.f 34 = z.f 34 := by rw [(X18.2 34 (by decide)).1, (Gy0.2 34 (by decide)).1, (F16.2 34 (by decide)).1, (G12'.2 34 (by decide)).1, (F7.2 34 (by decide)).1, (G70.2 34 (by decide)).1]; rfl
                    rw [(M18.2 34 (by decide)).1, u34, by1, eB, q2, w1835]
                  have o29 : w18.v 29 = (z.v 29) + 1 := by rw [M18.1 29 (by decide), u29, by1]
                  have g29 : ¬ ((z.v 29) < 0 ∨ 260 ≤ (z.v 29).toNatClampNeg) := of_decide_eq_true g29
                  have l29 : ¬ 260 ≤ (z.v 29).toNatClampNeg := fun q => g29 (Or.inr q)
                  obtain ⟨bt1, ps1⟩ := T10.bth i7 (lo := lo) (by rw [w735]; exact i9)
                  obtain ⟨bt2, ps2⟩ := T16'.bth ps1 (lo := lo) (by rw [w1235]; omega)
                  obtain ⟨bt3, ps3⟩ := T18.bth ps2 (lo := lo) (by rw [y35]; omega)
                  rw [w735] at bt1
                  rw [w1235] at bt2
                  rw [y35] at bt3
                  have SB : ∀ i, ¬ i = b0 + xn → SmB z w18 i := fun i hi => ⟨by rw [n30, if_neg hi], by rw [n31, if_neg hi], by rw [n32, if_neg hi], by rw [n33, if_neg hi], by rw [n34, if_neg hi]⟩
                  have hes : ∀ i : Nat, (i : Int) < (z.v 35).toInt → es w18 i = es z i := fun i hi => by rw [k2 i (by omega), d2 i (by omega), c2 i hi]
                  have hF4 : ∀ i : Nat, (i : Int) < (s.v 12).toInt → t4.f 22 i = s.f 22 i := fun i hi => by rw [k1 i (by omega), d1 i (by omega), c1 i hi]
                  have p2 : ∀ i, t2.f 23 i = if i = 13 * cl + 3 * xn then t2.v 12 else s.f 23 i := T10.2.2.2.1
                  have p3 := T16'.2.2.2.1
                  have p4 := T18.2.2.2.1
                  have g2 : t2.f 24 = s.f 24 := T10.2.2.1
                  have g3 := T16'.2.2.1
                  have g4 := T18.2.2.1
                  have z27 : w18.f 27 = z.f 27 := by rw [(Fy.2 27 (by decide)).1, (Gy0.2 27 (by decide)).1, (F16.2 27 (by decide)).1, (G12'.2 27 (by decide)).1, (F7.2 27 (by decide)).1, (G70.2 27 (by decide)).1]; rfl
                  have z28 : w18.f 28 = z.f 28 := by rw [(Fy.2 28 (by decide)).1, (Gy0.2 28 (by decide)).1, (F16.2 28 (by decide)).1, (G12'.2 28 (by decide)).1, (F7.2 28 (by decide)).1, (G70.2 28 (by decide)).1]; rfl
                  have ck : ChK cl s t4 := ((show ChK cl s t2 from T10.chk (by omega)).trans (T16'.chk (by omega))).trans (T18.chk (by omega))
                  refine ⟨i1.trans ck, i2.trans ⟨hes, fun i hi => SB i (by omega), by omega⟩, ⟨z27.trans i3.1, z28.trans i3.2⟩, T18.pre Cy, ⟨by rw [T18.2.1]; exact s3, i5.2⟩, by rw [T18.2.2.2.2.2]; omega, ps3, ?_, by omega, fun i hi => ?_⟩
                  · rw [o29, ti_add (by rw [show (1 : Int32).toInt = 1 from by decide]; omega) (by rw [show (1 : Int32).toInt = 1 from by decide]; omega), i8, show (1 : Int32).toInt = 1 from by decide]
                    omega
                  · by_cases ei : i = xn
                    · subst ei
                      refine ⟨by rw [n30, if_pos rfl]; exact nar01.2, ?_, ?_, ?_⟩
                      · rw [n31, if_pos rfl, n32, if_pos rfl]
                        have q1 : pst (t4.f 23) (t4.f 24) cl (3 * i) = pst (t2.f 23) (t2.f 24) cl (3 * i) := pst_cg (fun k h1 h2 => by rw [p4, if_neg (by omega), p3, if_neg (by omega)]) (by rw [g4, g3])
                        have q2 : t4.f 23 (13 * cl + 3 * i) = t2.f 23 (13 * cl + 3 * i) := by rw [p4, if_neg (by omega), p3, if_neg (by omega)]
                        rw [q1, q2]
                        exact bt1.keep (fun k hk => by rw [k1 k (by omega), d1 k hk]) (fun k _ hk => by rw [k2 k (by omega), d2 k hk]) (by omega) (by omega)
                      · rw [n32, if_pos rfl, n33, if_pos rfl]
                        have q1 : t4.f 23 (13 * cl + 3 * i) = t3.f 23 (13 * cl + 3 * i) := by rw [p4, if_neg (by omega)]
                        have q2 : t4.f 23 (13 * cl + (3 * i + 1)) = t3.f 23 (13 * cl + (3 * i + 1)) := by rw [p4, if_neg (by omega)]
                        rw [q1, q2]
                        rw [pst_succ] at bt2
                        exact bt2.keep k1 (fun k _ hk => k2 k hk) k3 k4
                      · rw [n33, if_pos rfl, n34, if_pos rfl]
                        rw [show 3 * i + 2 = (3 * i + 1) + 1 from rfl, pst_succ] at bt3
                        exact bt3
                    · refine (i10 i (by omega)).keep hF4 (fun k h1 h2 => ?_) (by rw [g4, g3, g2]) (fun k _ hk => hes k hk) (SB _ (by omega)) (by omega) (by omega)
                      rw [p4, if_neg (by omega), p3, if_neg (by omega), p2, if_neg (by omega)]
                exact ih m t4 s' w18 out (x + 1) (xn + 1) (by omega) LI4 h19' P18 (hT.fr K G (by decide) (by decide)) (K0.trans K (by decide)) (G0.trans G (by decide)) v18 (by omega) (by omega) (by omega) hsF hz
              · have k4 : Sk (t4.v 16) (t4.v 17) t4 := ⟨rfl, rfl⟩
                have q18 : Sz (w18.v 13) (w18.v 14) w18 := ⟨rfl, rfl⟩
                exact Or.inr ((F.sk (sk_readLaw_19L F.ne n _ k4 _ hsF)).sz (sz_law_12L F.1 m _ _ _ q18 _ hz))
            · have k3 : Sk (t3.v 16) (t3.v 17) t3 := ⟨rfl, rfl⟩
              have q16 : Sz (w16.v 13) (w16.v 14) w16 := ⟨rfl, rfl⟩
              have q18 := sz_must F.1 _ (sz_term F.1 q16 _ ht17) _ hm18
              exact Or.inr ((F.sk (sk_readLaw_19L F.ne n _ (sk_readPart F.ne _ k3 _ h4) _ hsF)).sz (sz_law_12L F.1 m _ _ _ q18 _ hz))
          · have k2 : Sk (t2.v 16) (t2.v 17) t2 := ⟨rfl, rfl⟩
            have q12 : Sz (w10.v 13) (w10.v 14) w12 := ⟨G1012.1 13 (by decide), G1012.1 14 (by decide)⟩
            exact Or.inr ((F.sk (sk_readLaw_19L F.ne n _ (sk_readPart F.ne _ (sk_readPart F.ne _ k2 _ h3) _ h4) _ hsF)).sz (szR _ _ F.1 q12))
    · rw [kat_no hP.1 hP.kv c, bindI_some, if_pos rfl] at hs
      rw [zis_no hP.2.1 hP.zv (fun q => c (i27.mpr q)), bindI_some, if_pos rfl] at hz
      rcases sim_law_end hLI (by omega) h19 hsd hx1 hP hT h12 hs hz with ⟨P5, K5, G5, v5, l5, E5⟩ | F
      · exact Or.inl ⟨P5, K0.trans K5 (by decide), G0.trans G5 (by decide), v5, by omega, E5⟩
      · exact Or.inr F
theorem begin_eq {s s' : KS} {x : Int32} {cl : Nat} (hx : x.toInt = (cl : Int)) (h : kX1_begin s x = some s') : s'.v 12 = s.v 12 ∧ s'.v 13 = x ∧ s'.f 22 = s.f 22 ∧ s'.f 23 = s.f 23 ∧ (∀ i, s'.f 24 i = if i = cl then s.v 12 else s.f 24 i) ∧ (∀ i, s'.f 25 i = if i = cl then 0 else s.f 25 i) := by
  have ec : x.toNatClampNeg = cl := clamp_of_int hx
  unfold kX1_begin at h
  obtain ⟨s1, d1, h⟩ := letS_inv h
  obtain ⟨_, h⟩ := guard_inv h
  obtain ⟨s4, d4, h⟩ := letS_inv h
  obtain ⟨_, h⟩ := guard_inv h
  obtain ⟨s7, d7, h⟩ := letS_inv h
  cases h
  rw [ec] at d4 d7
  refine ⟨by rw [← d7, ← d4, ← d1]; rfl, by rw [← d7, ← d4, ← d1]; rfl, by rw [← d7, ← d4, ← d1]; rfl, by rw [← d7, ← d4, ← d1]; rfl, fun i => ?_, fun i => ?_⟩
  · have q : s'.f 24 i = s4.f 24 i := by rw [← d7]; rfl
    rw [q, ← d4, ← d1]
    exact ksf_at
  · have q : s4.f 25 = s.f 25 := by rw [← d4, ← d1]; rfl
    rw [← d7, ← q]
    exact ksf_at
theorem sim_law {N cl b0 sd : Nat} {lo : Int} {s s' : KS} {z out : RS} {x : Int32} (hC : PreC s z) (hcl : cl < 4) (hx : x.toInt = (cl : Int)) (h29 : (z.v 29).toInt = (b0 : Int)) (hlo : lo ≤ (z.v 35).toInt) (h19 : (z.v 19).toInt = (sd : Int)) (hsd : sd ≤ 1) (hP : PR2 N s z) (hT : TK2 N s z) (h12 : z.v 12 = 0) (hs : kX4_readLaw s x = some s') (hz : r_tellLaw z x = some out) : ResL N cl b0 sd lo (z.v 29) s z s z s' out := by
  unfold kX4_readLaw at hs
  unfold r_tellLaw at hz
  obtain ⟨s1, h1, hs⟩ := bindP_inv hs
  obtain ⟨s2, h2, hs⟩ := bindP_inv hs
  obtain ⟨z1, hm1, hz⟩ := bindP_inv hz
  obtain ⟨t, w, ht, hw, hcase⟩ := step2 (c := 61) (r := 5) hP hT (by decide) (by decide)
  rw [h1] at ht
  cases ht
  rw [hm1] at hw
  cases hw
  have fb := fr_begin s1 x _ h2
  rcases hcase with ⟨_, e1, e2, P1, l1⟩ | ⟨F, _, _⟩
  · have K2 : FrK WLK s s2 := by
      refine FrK.trans (s := s) (t := s1) ?_ fb (by decide)
      rw [e1]
      exact FrK.rfl.sv (by decide)
    have G1 : FrR WLZ z z1 := by rw [e2]; exact FrR.rfl.sv (by decide)
    have P2 : PR2 N s2 z1 := P1.keep (fb.1 15 (by decide)) (fb.1 16 (by decide)) rfl rfl
    have l2 : (s2.v 15).toInt = (s1.v 15).toInt := by rw [fb.1 15 (by decide)]
    have v1 : z1.v 12 = 0 := by rw [e2]; exact h12
    obtain ⟨q12, q13, q22, q23, q24, q25⟩ := begin_eq hx h2
    have z129 : z1.v 29 = z.v 29 := by rw [e2]; rfl
    have z135 : z1.v 35 = z.v 35 := by rw [e2]; rfl
    have z1es : es z1 = es z := by rw [e2]; rfl
    have s112 : s1.v 12 = s.v 12 := by rw [e1]; rfl
    have LI0 : LawI cl b0 0 lo s z s2 z1 := by
      refine ⟨⟨fun i _ => ?_, fun i _ => ?_, fun i hi => ⟨?_, ?_⟩, ?_⟩, ⟨fun i _ => by rw [z1es], fun i _ => ?_, by rw [z135]; exact Int.le_refl _⟩, ⟨by rw [e2]; rfl, by rw [e2]; rfl⟩, ⟨?_, ?_, by rw [z135]; exact hC.2.2⟩, ⟨by rw [q13]; exact hx, hcl⟩, by rw [q25, if_pos rfl]; rfl, ?_, by rw [z129]; omega, by rw [z135]; exact hlo, fun i hi => absurd hi (Nat.not_lt_zero i)⟩
      · rw [q22, e1]; rfl
      · rw [q23, e1]; rfl
      · rw [q24, if_neg hi, e1]; rfl
      · rw [q25, if_neg hi, e1]; rfl
      · rw [q12, s112]; exact Int.le_refl _
      · rw [e2]; exact ⟨rfl, rfl, rfl, rfl, rfl⟩
      · rw [q12, s112]; exact hC.1
      · have := hC.2.1
        rw [q12, s112, l2, l1]
        omega
      · show pst (s2.f 23) (s2.f 24) cl 0 = _
        unfold pst
        rw [if_pos rfl, q24, if_pos rfl, q12]
    have h19' : (z1.v 19).toInt = (sd : Int) := by rw [e2]; exact h19
    rw [z129] at hz
    exact sim_lawL x _ hsd hx fu fu s2 s' z1 out 0 0 (by decide) LI0 h19' P2 (hT.fr K2 G1 (by decide) (by decide)) K2 G1 v1 (by omega) (by decide) (by decide) hs hz
  · have k1 : Sk (s1.v 16) (s1.v 17) s1 := ⟨rfl, rfl⟩
    have q1 : Sz (z1.v 13) (z1.v 14) z1 := ⟨rfl, rfl⟩
    exact Or.inr ((F.sk (sk_readLaw_19L F.ne fu _ (sk_begin _ k1 _ h2) _ hs)).sz (sz_law_12L F.1 fu _ _ _ q1 _ hz))
end
section
/-! ===== numbers, waves, parties, the seed ===== -/
noncomputable def LTb (J : Int) (s : KS) (z : RS) : Prop := s.v 18 = z.v 15 ∧ ((z.v 15 = 0 ∧ s.v 19 = -1) ∨ (s.v 19 = z.v 16 ∧ (z.v 15 = 3 ∨ z.v 15 = 5) ∧ ∃ j : Nat, (j : Int) < J ∧ z.v 16 = z.f 6 j))
theorem LTb.keep {J J' : Int} {s s' : KS} {z z' : RS} (h : LTb J s z) (e1 : s'.v 18 = s.v 18) (e2 : s'.v 19 = s.v 19) (e3 : z'.v 15 = z.v 15) (e4 : z'.v 16 = z.v 16) (e5 : z'.f 6 = z.f 6) (hJ : J ≤ J') : LTb J' s' z' := by
  unfold LTb
  rw [e1, e2, e3, e4, e5]
  refine ⟨h.1, ?_⟩
  rcases h.2 with h | ⟨h1, h2, j, h3, h4⟩
  · exact Or.inl h
  · exact Or.inr ⟨h1, h2, j, by omega, h4⟩
theorem zwrong_set {z : RS} {x k : Int32} (h13 : z.v 13 = 0) (hv : vpb k 403 = true) (h15 : z.v 15 = 0) : r_wrong z x k = some ((z.sv 15 x).sv 16 (z.f 6 k.toNatClampNeg)) := by
  have n : ¬ 0 < z.v 13 := by rw [h13]; decide
  unfold r_wrong
  rw [if_pos hv, if_neg n, if_pos h15]
  rfl
theorem zwrong_keep {z : RS} {x k : Int32} (h13 : z.v 13 = 0) (hv : vpb k 403 = true) (h15 : ¬ z.v 15 = 0) (hj : z.v 16 < z.f 6 k.toNatClampNeg ∨ (z.f 6 k.toNatClampNeg = z.v 16 ∧ ¬ x < z.v 15)) : r_wrong z x k = some z := by
  have n : ¬ 0 < z.v 13 := by rw [h13]; decide
  unfold r_wrong
  rw [if_pos hv, if_neg n, if_neg h15]
  by_cases c : z.v 16 < z.f 6 k.toNatClampNeg
  · exact if_pos c
  · rcases hj with q | q
    · exact absurd q c
    · rw [if_neg c, if_pos q.1]
      exact if_neg q.2
theorem later_step {N J : Nat} {s s' : KS} {z z' : RS} {x k p : Int32} (h13 : z.v 13 = 0) (hT : TK2 N s z) (hJ : J ≤ N) (hN : N ≤ 400) (hk : k.toInt = (J : Int)) (hp : p = z.f 6 J) (hL : LTb ((J : Int) + 1) s z) (hx : x = 5 ∨ (x = 3 ∧ LTb (J : Int) s z)) (h1 : kX4_failLater s x p = some s') (h2 : r_wrong z x k = some z') : LTb ((J : Int) + 1) s' z' ∧ FrK [18, 19] s s' ∧ FrR [15, 16] z z' := by
  have ek : k.toNatClampNeg = J := clamp_of_int hk
  have hv : vpb k 403 = true := vpb_ok (by omega) (by omega)
  unfold kX4_failLater at h1
  have hx35 : x = 3 ∨ x = 5 := by
    rcases hx with e | e
    · exact Or.inr e
    · exact Or.inl e.1
  obtain ⟨e18, hc⟩ := id hL
  by_cases z15 : z.v 15 = 0
  · rw [if_pos (e18.trans z15)] at h1
    obtain ⟨s2, e2, h1⟩ := letS_inv h1
    obtain ⟨s4, e4, h1⟩ := letS_inv h1
    cases h1
    rw [zwrong_set h13 hv z15] at h2
    cases h2
    refine ⟨⟨?_, Or.inr ⟨?_, ?_, J, by omega, ?_⟩⟩, ?_, ?_⟩
    · rw [← e4, ← e2]; rfl
    · rw [← e4]
      show p = z.f 6 k.toNatClampNeg
      rw [ek]
      exact hp
    · exact hx35
    · show z.f 6 k.toNatClampNeg = z.f 6 J
      rw [ek]
    · rw [← e4, ← e2]
      exact (FrK.rfl.sv (k := 18) (by decide)).sv (k := 19) (by decide)
    · exact (FrR.rfl.sv (k := 15) (by decide)).sv (k := 16) (by decide)
  · have s18 : ¬ s.v 18 = 0 := by rw [e18]; exact z15
    rw [if_neg s18] at h1
    cases h1
    have lt : ∀ j : Nat, j < J → z.v 16 = z.f 6 j → z.v 16 < z.f 6 k.toNatClampNeg := by
      intro j hj ej
      rw [ek, ej]
      exact Int32.lt_iff_toInt_lt.mpr (hT.2.2 j J hj hJ)
    have hj : z.v 16 < z.f 6 k.toNatClampNeg ∨ (z.f 6 k.toNatClampNeg = z.v 16 ∧ ¬ x < z.v 15) := by
      rcases hx with e | ⟨e, hL2⟩
      · rcases hc with q | ⟨_, h35, j, hj, ej⟩
        · exact absurd q.1 z15
        · by_cases c : j = J
          · refine Or.inr ⟨by rw [ek, ej, c], ?_⟩
            rcases h35 with q | q <;> (rw [q, e]; decide)
          · exact Or.inl (lt j (by omega) ej)
      · rcases hL2.2 with q | ⟨_, h35, j, hj, ej⟩
        · exact absurd q.1 z15
        · exact Or.inl (lt j (by omega) ej)
    rw [zwrong_keep h13 hv z15 hj] at h2
    cases h2
    exact ⟨hL, FrK.rfl, FrR.rfl⟩
noncomputable abbrev WBK : List Nat := [15, 16, 17, 18, 19]
noncomputable def ResI (N : Nat) (s : KS) (z : RS) (r r' : Int32) (s1 : KS) (z1 : RS) : Prop := (r = r' ∧ PR2 N s1 z1 ∧ LTb (z1.v 11).toInt s1 z1 ∧ FrK WBK s s1 ∧ FrR WB z z1 ∧ (s1.v 15).toInt = (s.v 15).toInt + 1) ∨ FR2 s1 z1
theorem int_fin {N : Nat} {s s7 s1 : KS} {z z7 z1 : RS} {v r r' : Int32} (hP : PR2 N s7 z7) (hT : TK2 N s7 z7) (hk : KAt s7 = 301) (hL : LTb ((z7.v 11).toInt + 1) s7 z7) (K : FrK [18, 19] s s7) (G : FrR [15, 16] z z7) (hs : kX4_takeInt_46 s7 v = some (r, s1)) (hz : r_bounded_46 z7 v = some (r', z1)) : ResI N s z r r' s1 z1 := by
  unfold kX4_takeInt_46 at hs
  unfold r_bounded_46 at hz
  obtain ⟨t1, ht, hs⟩ := bindP_inv hs
  obtain ⟨w1, hw, hz⟩ := bindP_inv hz
  cases hs
  cases hz
  by_cases hl : s7.v 15 = 400
  · have nl : ¬ s7.v 15 < 400 := by rw [hl]; decide
    have e1 := ktake_room hP.1 hP.kv hk nl
    rw [ht] at e1
    cases e1
    have e2 := zgo_room hP.2.1 hP.zv (by rw [← hP.2.2.1]; exact hl)
    rw [hw] at e2
    cases e2
    exact Or.inr (hP.fail hT 2 (by decide))
  · have q := hP.lt hl
    have e1 := ktake_yes hP.1 hP.kv hk q.1
    rw [ht] at e1
    cases e1
    have e2 := zgo_ok q.2.2
    rw [hw] at e2
    cases e2
    have A := hP.adv hT (fun q => by rw [hk] at q; exact absurd q (by decide)) (fun q => by rw [hk] at q; exact absurd q (by decide)) hl
    have a11 : ((zad z7).v 11).toInt = (z7.v 11).toInt + 1 := by rw [← A.1.2.2.1, A.2, hP.2.2.1]
    refine Or.inl ⟨rfl, A.1, hL.keep rfl rfl rfl rfl rfl (by rw [a11]; exact Int.le_refl _), (FrK.rfl.trans K (by decide)).sv (by decide), (FrR.rfl.trans G (by decide)).sv (by decide), ?_⟩
    rw [A.2, K.1 15 (by decide)]
theorem int_step {N : Nat} {s s1 : KS} {z z1 : RS} {mx r r' : Int32} (hP : PR2 N s z) (hT : TK2 N s z) (hL : LTb (z.v 11).toInt s z) (hs : kX4_takeInt s mx = some (r, s1)) (hz : r_bounded z mx = some (r', z1)) : ResI N s z r r' s1 z1 := by
  have hk := hP.kp hT
  have i2 := kp2 hk (c0 := 301) (r0 := 2) (by decide)
  have hN := hP.2.2.2.2.2
  unfold kX4_takeInt at hs
  unfold r_bounded at hz
  have n13 : ¬ 0 < z.v 13 := by rw [hP.2.1]; decide
  rw [if_pos hP.kv] at hs
  rw [if_neg n13] at hz
  by_cases c : KAt s = 301
  · rw [kat_yes hP.1 hP.kv c, bindI_some, if_neg z_one] at hs
    rw [zis_yes hP.2.1 hP.zv (i2.mp c), bindI_some, if_neg z_one, if_pos hP.zv] at hz
    have hv := ((hT.1 _ hP.le).2.2.1 c).1
    have hv : Int64.toInt32 ((s.g 34) (Int32.toNatClampNeg (s.v 15))) = z.f 7 (Int32.toNatClampNeg (z.v 11)) := by rw [← hP.2.2.1]; exact hv
    rw [hv] at hs
    by_cases cm : z.f 7 (Int32.toNatClampNeg (z.v 11)) ≤ mx
    · rw [if_pos cm] at hs hz
      exact int_fin hP hT c (hL.keep rfl rfl rfl rfl rfl (by omega)) FrK.rfl FrR.rfl hs hz
    · rw [if_neg cm] at hs hz
      rw [if_pos hP.kv] at hs
      obtain ⟨s7, h7, hs⟩ := bindP_inv hs
      obtain ⟨z7, w7, hz⟩ := bindP_inv hz
      have e11 : (z.v 11).toInt = ((s.v 15).toNatClampNeg : Int) := by
        have h0 := hP.2.2.2.1
        have e : (s.v 15).toInt.toNat = (s.v 15).toNatClampNeg := Int32.toNat_toInt _
        rw [← hP.2.2.1]
        omega
      have LS := later_step hP.2.1 hT hP.le hN e11 (hT.1 _ hP.le).2.1 (hL.keep rfl rfl rfl rfl rfl (by omega)) (Or.inl rfl) h7 w7
      have P7 : PR2 N s7 z7 := hP.keep (LS.2.1.1 15 (by decide)) (LS.2.1.1 16 (by decide)) (LS.2.2.1 11 (by decide)) (LS.2.2.1 13 (by decide))
      have T7 := hT.fr LS.2.1 LS.2.2 (by decide) (by decide)
      have k7 : KAt s7 = 301 := by unfold KAt; rw [LS.2.1.1 15 (by decide), (LS.2.1.2 32 (by decide)).1]; exact c
      refine int_fin P7 T7 k7 (LS.1.keep rfl rfl rfl rfl rfl ?_) LS.2.1 LS.2.2 hs hz
      rw [LS.2.2.1 11 (by decide), e11]
      exact Int.le_refl _
  · rw [kat_no hP.1 hP.kv c, bindI_some, if_pos rfl] at hs
    rw [zis_no hP.2.1 hP.zv (fun q => c (i2.mpr q)), bindI_some, if_pos rfl] at hz
    unfold kX4_takeInt_46 at hs
    unfold r_bounded_15 at hz
    rw [ktake_no hP.1 hP.kv c, bindP_some] at hs
    rw [zfail_eq hP.2.1 hP.zv, bindP_some] at hz
    cases hs
    cases hz
    exact Or.inr (hP.fail hT 1 (by decide))
theorem sz_wave_93 {a b : Int32} (ha : 0 < a.toInt) {z : RS} (h : Sz a b z) : Pt (r_tellWave_93 z) (Sz a b) := by
  unfold r_tellWave_93
  refine pt_bindP (sz_must ha _ h) (fun s h => ?_)
  refine pt_ite (fun _ => pt_ite (fun _ => ?_) (fun _ => pt_none)) (fun _ => pt_none)
  exact pt_let (P := Sz a b) h (fun s h => pt_some h)
theorem sz_wave_31L {a b : Int32} (ha : 0 < a.toInt) : ∀ (n : Nat) (z : RS) (x1 x2 x3 x4 : Int32), Sz a b z → Pt (r_tellWave_31L n z x1 x2 x3 x4) (Sz a b) := by
  intro n
  induction n with
  | zero => intro z x1 x2 x3 x4 _; exact pt_none
  | succ n ih =>
    intro z x1 x2 x3 x4 h
    show Pt (r_tellWave_31 (r_tellWave_31L n) z x1 x2 x3 x4) _
    unfold r_tellWave_31
    refine pt_ite (fun _ => ?_) (fun _ => ?_)
    · rw [if_neg (Sz.ne ha h)]
      exact sz_wave_93 ha h
    · refine pt_bindI (sz_bounded ha _ h) (fun r s1 h1 => ?_)
      have h1 : Sz a b s1 := h1
      refine pt_ite (fun _ => ?_) (fun _ => pt_none)
      refine pt_let (P := Sz a b) h1 (fun s h => ?_)
      exact pt_ite (fun _ => ih _ _ _ _ _ h) (fun _ => pt_none)
theorem sz_party_78 {a b : Int32} (ha : 0 < a.toInt) {z : RS} (x1 x2 : Int32) (h : Sz a b z) : Pt (r_tellParty_78 z x1 x2) (Sz a b) := by
  unfold r_tellParty_78
  refine pt_bindI (sz_bounded ha _ h) (fun r s1 h1 => ?_)
  have h1 : Sz a b s1 := h1
  refine pt_ite (fun _ => ?_) (fun _ => pt_none)
  refine pt_let (P := Sz a b) h1 (fun s h => ?_)
  refine pt_bindI (sz_bounded ha _ h) (fun r s1 h1 => ?_)
  have h1 : Sz a b s1 := h1
  refine pt_ite (fun _ => ?_) (fun _ => pt_none)
  refine pt_let (P := Sz a b) h1 (fun s h => ?_)
  refine pt_bindP (sz_must ha _ h) (fun s h => ?_)
  rw [if_neg (Sz.nle ha h)]
  exact pt_some h
theorem sz_party_30L {a b : Int32} (ha : 0 < a.toInt) (m : Nat) {z : RS} (x1 x2 x3 : Int32) (h : Sz a b z) : Pt (r_tellParty_30L m z x1 x2 x3) (Sz a b) := by
  cases m with
  | zero => exact pt_none
  | succ m =>
    show Pt (r_tellParty_30 (r_tellParty_30L m) z x1 x2 x3) _
    unfold r_tellParty_30
    refine pt_ite (fun _ => ?_) (fun _ => pt_none)
    refine pt_ite (fun _ => sz_party_78 ha _ _ h) (fun _ => ?_)
    rw [if_neg (Sz.ne ha h)]
    exact sz_party_78 ha _ _ h
theorem rsf_get {z : RS} {k i : Nat} {x : Int32} : (z.sf k i x).f k i = x := by
  show va_up z.f k (upd (z.f k) i x) k i = x
  unfold va_up
  rw [if_pos rfl]
  unfold upd
  rw [if_pos rfl]
theorem ksf_get {s : KS} {k i j : Nat} {x : Int32} : (s.sf k i x).f k j = if j = i then x else s.f k j := by
  show va_up s.f k (upd (s.f k) i x) k j = _
  unfold va_up
  rw [if_pos rfl]
  rfl
theorem rsf_all {s : RS} {k i j : Nat} {x : Int32} : (s.sf k i x).f k j = if j = i then x else s.f k j := by
  show va_up s.f k (upd (s.f k) i x) k j = _
  unfold va_up
  rw [if_pos rfl]
  rfl
noncomputable abbrev WKW : List Nat := [8, 15, 16, 17, 18, 19, 116]
noncomputable abbrev WZW : List Nat := [11, 13, 14, 15, 16, 120, 121]
noncomputable def ResW (N sd : Nat) (s : KS) (z : RS) (s' : KS) (out : RS) : Prop := (PR2 N s' out ∧ LTb (out.v 11).toInt s' out ∧ FrK WKW s s' ∧ FrR WZW z out ∧ s'.v 8 = (s.v 8) + 1 ∧ out.f 20 sd = (z.f 20 sd) + 1 ∧ (s.v 15).toInt + 1 ≤ (s'.v 15).toInt ∧ (∀ j : Nat, (j : Int) < 6 * ((s.v 8).toInt + 1) → s'.f 16 j = out.f 21 (30 * sd + j))) ∨ FR2 s' out
theorem sim_wave_end {N sd : Nat} {s s' : KS} {z out : RS} (hP : PR2 N s z) (hT : TK2 N s z) (hL : LTb (z.v 11).toInt s z) (h19 : (z.v 19).toInt = (sd : Int)) (hO : (∀ j : Nat, (j : Int) < 6 * ((s.v 8).toInt + 1) → s.f 16 j = z.f 21 (30 * sd + j))) (hs : kX4_readWave_100 s = some s') (hz : r_tellWave_93 z = some out) : ResW N sd s z s' out := by
  unfold kX4_readWave_100 at hs
  unfold r_tellWave_93 at hz
  obtain ⟨t1, ht, hs⟩ := bindP_inv hs
  obtain ⟨w1, hw, hz⟩ := bindP_inv hz
  obtain ⟨t2, et, hs⟩ := letS_inv hs
  cases hs
  obtain ⟨_, hz⟩ := guard_inv hz
  obtain ⟨_, hz⟩ := guard_inv hz
  obtain ⟨w4, e4, hz⟩ := letS_inv hz
  cases hz
  obtain ⟨t, w, h1, h2, hcase⟩ := step2 (c := 59) (r := 4) hP hT (by decide) (by decide)
  rw [ht] at h1
  cases h1
  rw [hw] at h2
  cases h2
  rcases hcase with ⟨_, e1, e2, P1, l1⟩ | ⟨F, _, _⟩
  · have c19 : (w1.v 19).toNatClampNeg = sd := by rw [e2]; exact clamp_of_int h19
    have a11 : (w1.v 11).toInt = (z.v 11).toInt + 1 := by rw [← P1.2.2.1, l1, hP.2.2.1]
    refine Or.inl ⟨?_, ?_, ?_, ?_, ?_, ?_, ?_, ?_⟩
    · rw [← et, ← e4]
      exact P1.keep rfl rfl rfl rfl
    · rw [← et, ← e4]
      refine hL.keep ?_ ?_ ?_ ?_ ?_ ?_
      · rw [e1]; rfl
      · rw [e1]; rfl
      · rw [e2]; rfl
      · rw [e2]; rfl
      · rw [e2]; rfl
      · show (z.v 11).toInt ≤ (w1.v 11).toInt
        omega
    · rw [← et, e1]
      exact (FrK.rfl.sv (k := 15) (by decide)).sv (k := 8) (by decide)
    · rw [← e4, e2]
      exact (FrR.rfl.sv (k := 11) (by decide)).sf (k := 20) (by decide)
    · rw [← et, e1]
      rfl
    · rw [← e4, c19, rsf_get, e2]
      rfl
    · rw [← et]
      show (s.v 15).toInt + 1 ≤ (t1.v 15).toInt
      omega
    · rw [← et, ← e4, e1, e2]
      exact hO
  · right
    rw [← et, ← e4]
    exact F
theorem sim_waveL {N sd : Nat} {s0 : KS} {z0 : RS} (x1 : Int32) (W0 : Nat) (hW0 : (s0.v 8).toInt = (W0 : Int)) (hW4 : W0 ≤ 4) (hsd : sd ≤ 1) (hx1 : x1.toInt = ((30 * sd + 6 * W0 : Nat) : Int)) : ∀ (n m : Nat) (s s' : KS) (z out : RS) (sum pl tk i : Int32), PR2 N s z → TK2 N s z → LTb (z.v 11).toInt s z → (z.v 19).toInt = (sd : Int) → FrK WKW s0 s → FrR WZW z0 z → s.v 8 = s0.v 8 → z.f 20 = z0.f 20 → (s0.v 15).toInt ≤ (s.v 15).toInt → 0 ≤ i.toInt → i.toInt ≤ 6 → (0 < i.toInt → pl = z.f 6 tk.toNatClampNeg ∧ 0 ≤ tk.toInt ∧ tk.toInt + 1 = (z.v 11).toInt) → (∀ j : Nat, (j : Int) < 6 * (W0 : Int) + i.toInt → s.f 16 j = z.f 21 (30 * sd + j)) → kX4_readWave_30L n s sum pl i = some s' → r_tellWave_31L m z x1 sum tk i = some out → ResW N sd s0 z0 s' out := by
  intro n
  induction n with
  | zero => intro m s s' z out sum pl tk i _ _ _ _ _ _ _ _ _ _ _ _ _ hs; exact none_ne hs
  | succ n ih =>
    intro m s s' z out sum pl tk i hP hT hL h19 K0 G0 e8 e20 h15 hi0 hi6 hpl hO hs hz
    have hs : kX4_readWave_30 (kX4_readWave_30L n) s sum pl i = some s' := hs
    cases m with
    | zero => exact none_ne hz
    | succ m =>
    have hz : r_tellWave_31 (r_tellWave_31L m) z x1 sum tk i = some out := hz
    unfold kX4_readWave_30 at hs
    unfold r_tellWave_31 at hz
    have hN := hP.2.2.2.2.2
    have conv : ∀ {t : KS} {w : RS}, FrK WKW s0 t → FrR WZW z0 w → t.v 8 = s0.v 8 → w.f 20 = z0.f 20 → (s0.v 15).toInt ≤ (t.v 15).toInt → ∀ {t' w'}, ResW N sd t w t' w' → ResW N sd s0 z0 t' w' := by
      intro t w K G q8 q20 q15 t' w' hr
      rcases hr with ⟨P, L, K', G', h8, h20, h5, hOD⟩ | F
      · refine Or.inl ⟨P, L, K.trans K' (by decide), G.trans G' (by decide), ?_, ?_, by omega, ?_⟩
        · rw [h8, q8]
        · rw [h20, q20]
        · rw [← q8]; exact hOD
      · exact Or.inr F
    by_cases c : 6 ≤ i
    · have c6 := tn_le (a := 6) (by decide) rfl c
      rw [if_pos c] at hs hz
      rw [if_pos hP.2.1] at hz
      by_cases cs : sum = 0
      · rw [if_pos cs] at hs hz
        obtain ⟨t, ht, hs⟩ := bindP_inv hs
        obtain ⟨w, hw, hz⟩ := bindP_inv hz
        obtain ⟨q1, q2, q3⟩ := hpl (by omega)
        have etk : (tk.toNatClampNeg : Int) = tk.toInt := by
          have e : tk.toInt.toNat = tk.toNatClampNeg := Int32.toNat_toInt _
          omega
        have hle : tk.toNatClampNeg ≤ N := by
          have h1 := hP.2.2.2.2.1
          rw [hP.2.2.1] at h1
          omega
        have LS := later_step hP.2.1 hT hle hN etk.symm q1 (hL.keep rfl rfl rfl rfl rfl (by omega)) (Or.inl rfl) ht hw
        have P1 : PR2 N t w := hP.keep (LS.2.1.1 15 (by decide)) (LS.2.1.1 16 (by decide)) (LS.2.2.1 11 (by decide)) (LS.2.2.1 13 (by decide))
        have T1 := hT.fr LS.2.1 LS.2.2 (by decide) (by decide)
        have L1 : LTb (w.v 11).toInt t w := LS.1.keep rfl rfl rfl rfl rfl (by rw [LS.2.2.1 11 (by decide)]; omega)
        refine conv (K0.trans LS.2.1 (by decide)) (G0.trans LS.2.2 (by decide)) ((LS.2.1.1 8 (by decide)).trans e8) (((LS.2.2.2 20 (by decide)).1).trans e20) ?_ (sim_wave_end P1 T1 L1 (by rw [LS.2.2.1 19 (by decide)]; exact h19) (fun j hj => by rw [(LS.2.1.2 16 (by decide)).1, (LS.2.2.2 21 (by decide)).1]; rw [LS.2.1.1 8 (by decide), e8, hW0] at hj; exact hO j (by omega)) hs hz)
        rw [LS.2.1.1 15 (by decide)]
        exact h15
      · rw [if_neg cs] at hs hz
        exact conv K0 G0 e8 e20 h15 (sim_wave_end hP hT hL h19 (fun j hj => by rw [e8, hW0] at hj; exact hO j (by omega)) hs hz)
    · have c6 := tn_nle (a := 6) (by decide) rfl c
      have ai : (i + 1).toInt = i.toInt + 1 := tn_add rfl (by decide) (by omega) (by omega)
      rw [if_neg c] at hs hz
      rw [if_pos hP.kv] at hs
      obtain ⟨r6, s5, h5, hs⟩ := bindI_inv hs
      obtain ⟨_, hs⟩ := guard_inv hs
      obtain ⟨s8, es8, hs⟩ := letS_inv hs
      obtain ⟨q6, z5, w5, hz⟩ := bindI_inv hz
      obtain ⟨_, hz⟩ := guard_inv hz
      obtain ⟨z8, ez8, hz⟩ := letS_inv hz
      obtain ⟨_, hz⟩ := guard_inv hz
      have hg : z8.f 21 (Int32.toNatClampNeg (x1 + i)) = q6 := by rw [← ez8]; exact rsf_get
      rw [hg] at hz
      rcases int_step hP hT hL h5 w5 with ⟨er, P5, L5, K5, G5, l5⟩ | F
      · subst er
        have K8 : FrK WKW s s8 := by rw [← es8]; exact (FrK.rfl.trans K5 (by decide)).sf (k := 16) (by decide)
        have G8 : FrR WZW z z8 := by rw [← ez8]; exact (FrR.rfl.trans G5 (by decide)).sf (k := 21) (by decide)
        have P8 : PR2 N s8 z8 := by rw [← es8, ← ez8]; exact P5.keep rfl rfl rfl rfl
        have L8 : LTb (z8.v 11).toInt s8 z8 := by rw [← es8, ← ez8]; exact L5.keep rfl rfl rfl rfl rfl (Int.le_refl _)
        have e115 : (z8.v 11).toInt = (z.v 11).toInt + 1 := by
          have q1 := P5.2.2.1
          have q2 : z8.v 11 = z5.v 11 := by rw [← ez8]; rfl
          rw [q2, ← q1, l5, hP.2.2.1]
        refine ih m s8 s' z8 out (sum + r6) _ (z.v 11) (i + 1) P8 (hT.fr K8 G8 (by decide) (by decide)) L8 ?_ (K0.trans K8 (by decide)) (G0.trans G8 (by decide)) ?_ ?_ ?_ (by omega) (by omega) (fun _ => ⟨?_, ?_, e115.symm⟩) ?_ hs hz
        · rw [← ez8]
          show (z5.v 19).toInt = _
          rw [G5.1 19 (by decide)]
          exact h19
        · rw [← es8]
          show s5.v 8 = _
          rw [K5.1 8 (by decide)]
          exact e8
        · rw [← ez8]
          show z5.f 20 = _
          rw [(G5.2 20 (by decide)).1]
          exact e20
        · rw [← es8]
          show (s0.v 15).toInt ≤ (s5.v 15).toInt
          omega
        · have f6 : z8.f 6 = z.f 6 := (G8.2 6 (by decide)).1
          rw [f6, ← hP.2.2.1]
          exact (hT.1 _ hP.le).2.1
        · rw [← hP.2.2.1]
          exact hP.2.2.2.1
        · intro j hj
          have v58 : s5.v 8 = s0.v 8 := (K5.1 8 (by decide)).trans e8
          have m6 : ((s5.v 8) * 6).toInt = (s5.v 8).toInt * 6 := ti_mulc (c := 6) (by decide) (by rw [v58]; omega) (by rw [v58]; omega)
          have ik : (((s5.v 8) * 6) + i).toInt = ((6 * W0 + i.toInt.toNat : Nat) : Int) := by
            rw [ti_add (by rw [m6, v58]; omega) (by rw [m6, v58]; omega), m6, v58]
            omega
          have iz : (x1 + i).toInt = ((30 * sd + (6 * W0 + i.toInt.toNat) : Nat) : Int) := by
            rw [ti_add (by omega) (by omega)]
            omega
          rw [ai] at hj
          have a1 : s8.f 16 j = if j = 6 * W0 + i.toInt.toNat then r6 else s.f 16 j := by
            rw [← es8, ksf_get, clamp_of_int ik, (K5.2 16 (by decide)).1]
          have a2 : z8.f 21 (30 * sd + j) = if 30 * sd + j = 30 * sd + (6 * W0 + i.toInt.toNat) then r6 else z.f 21 (30 * sd + j) := by
            rw [← ez8, rsf_all, clamp_of_int iz, (G5.2 21 (by decide)).1]
          rw [a1, a2]
          by_cases q : j = 6 * W0 + i.toInt.toNat
          · rw [if_pos q, if_pos (by omega)]
          · rw [if_neg q, if_neg (by omega)]
            exact hO j (by omega)
      · have k8 : Sk (s5.v 16) (s5.v 17) s8 := by rw [← es8]; exact ⟨rfl, rfl⟩
        have q8 : Sz (z5.v 13) (z5.v 14) z8 := by rw [← ez8]; exact ⟨rfl, rfl⟩
        exact Or.inr ((F.sk (sk_readWave_30L F.ne n _ _ _ _ k8 _ hs)).sz (sz_wave_31L F.1 m _ _ _ _ _ q8 _ hz))
end
section
/-! ===== parties ===== -/
theorem ksg_get {s : KS} {k i j : Nat} {x : Int64} : (s.sg k i x).g k j = if j = i then x else s.g k j := by
  show va_up s.g k (vp_updL (s.g k) i x) k j = _
  unfold va_up
  rw [if_pos rfl]
  rfl
theorem rsg_get {s : RS} {k i j : Nat} {x : Int64} : (s.sg k i x).g k j = if j = i then x else s.g k j := by
  show va_up s.g k (vp_updL (s.g k) i x) k j = _
  unfold va_up
  rw [if_pos rfl]
  rfl
theorem told_inv {nm : Int64} {r : Int32} {s s' : KS} : ∀ (n : Nat) (x3 : Int32), 0 ≤ x3.toInt → x3.toInt ≤ 6 → kX4_isTold_2L n s nm x3 = some (r, s') → s' = s ∧ ((r = 1 ∧ ∃ p : Nat, x3.toInt ≤ (p : Int) ∧ (p : Int) < (s.v 9).toInt ∧ s.g 29 p = nm) ∨ (r = 0 ∧ ∀ p : Nat, x3.toInt ≤ (p : Int) → (p : Int) < (s.v 9).toInt → ¬ s.g 29 p = nm)) := by
  intro n
  induction n with
  | zero => intro x3 _ _ h; exact none_ne h
  | succ n ih =>
    intro x3 h0 h6 h
    have h : kX4_isTold_2 (kX4_isTold_2L n) s nm x3 = some (r, s') := h
    unfold kX4_isTold_2 at h
    by_cases c : s.v 9 ≤ x3
    · have c' := ti_le c
      rw [if_pos c] at h
      cases h
      exact ⟨rfl, Or.inr ⟨rfl, fun p h1 h2 => by omega⟩⟩
    · have c' := ti_nle c
      rw [if_neg c] at h
      obtain ⟨g, h⟩ := guard_inv h
      have x6 : x3.toInt < 6 := by
        have q := vpb_in g
        have e : x3.toInt.toNat = x3.toNatClampNeg := Int32.toNat_toInt _
        have q2 : ¬ 6 ≤ x3.toNatClampNeg := fun w => q (Or.inr w)
        omega
      have ec : (x3.toNatClampNeg : Int) = x3.toInt := by
        have e : x3.toInt.toNat = x3.toNatClampNeg := Int32.toNat_toInt _
        omega
      by_cases c2 : lg_cmp ((s.g 29) (Int32.toNatClampNeg x3)) nm = 0
      · rw [if_pos c2] at h
        cases h
        exact ⟨rfl, Or.inl ⟨rfl, _, by omega, by omega, cmp_zero.mp c2⟩⟩
      · rw [if_neg c2] at h
        have a : (x3 + 1).toInt = x3.toInt + 1 := tn_add rfl (by decide) (by omega) (by omega)
        obtain ⟨e1, h⟩ := ih (x3 + 1) (by omega) (by omega) h
        refine ⟨e1, ?_⟩
        rcases h with ⟨e2, p, h1, h2, h3⟩ | ⟨e2, h1⟩
        · exact Or.inl ⟨e2, p, by omega, h2, h3⟩
        · refine Or.inr ⟨e2, fun p q1 q2 => ?_⟩
          by_cases q3 : p = x3.toNatClampNeg
          · subst q3
            exact fun w => c2 (cmp_zero.mpr w)
          · exact h1 p (by omega) q2
theorem party_loop {sd : Nat} (x1 x2 : Int32) (hv2 : vpb x2 403 = true) : ∀ (m : Nat) (z out : RS) (x3 : Int32), z.v 13 = 0 → (z.v 19).toNatClampNeg = sd → 0 ≤ x3.toInt → x3.toInt ≤ 6 → (z.v 15 = 0 ∨ z.v 16 < z.f 6 x2.toNatClampNeg ∨ (z.f 6 x2.toNatClampNeg = z.v 16 ∧ z.v 15 = 3)) → r_tellParty_30L m z x1 x2 x3 = some out →
    ∃ z', r_tellParty_78 z' x1 x2 = some out ∧ FrR [15, 16] z z' ∧ (((∀ p : Nat, x3.toInt ≤ (p : Int) → (p : Int) < (z.f 23 sd).toInt → ¬ z.g 22 p = z.g 8 x2.toNatClampNeg) ∧ z' = z) ∨ ((∃ p : Nat, x3.toInt ≤ (p : Int) ∧ (p : Int) < (z.f 23 sd).toInt ∧ z.g 22 p = z.g 8 x2.toNatClampNeg) ∧ ((z.v 15 = 0 ∧ z'.v 15 = 3 ∧ z'.v 16 = z.f 6 x2.toNatClampNeg) ∨ (¬ z.v 15 = 0 ∧ z'.v 15 = z.v 15 ∧ z'.v 16 = z.v 16)))) := by
  intro m
  induction m with
  | zero => intro z out x3 _ _ _ _ _ h; exact none_ne h
  | succ m ih =>
    intro z out x3 h13 h19 h0 h6 hw h
    have h : r_tellParty_30 (r_tellParty_30L m) z x1 x2 x3 = some out := h
    unfold r_tellParty_30 at h
    obtain ⟨_, h⟩ := guard_inv h
    rw [h19] at h
    by_cases c : z.f 23 sd ≤ x3
    · have c' := ti_le c
      rw [if_pos c] at h
      exact ⟨z, h, FrR.rfl, Or.inl ⟨fun p q1 q2 => by omega, rfl⟩⟩
    · have c' := ti_nle c
      rw [if_neg c, if_pos h13] at h
      obtain ⟨g, h⟩ := guard_inv h
      obtain ⟨_, h⟩ := guard_inv h
      have x6 : x3.toInt < 6 := by
        have q := vpb_in g
        have e : x3.toInt.toNat = x3.toNatClampNeg := Int32.toNat_toInt _
        have q2 : ¬ 6 ≤ x3.toNatClampNeg := fun w => q (Or.inr w)
        omega
      have ec : (x3.toNatClampNeg : Int) = x3.toInt := by
        have e : x3.toInt.toNat = x3.toNatClampNeg := Int32.toNat_toInt _
        omega
      have a : (x3 + 1).toInt = x3.toInt + 1 := tn_add rfl (by decide) (by omega) (by omega)
      unfold r_tellParty_72 at h
      by_cases c2 : lg_cmp (z.g 22 (Int32.toNatClampNeg x3)) (z.g 8 (Int32.toNatClampNeg x2)) = 0
      · have hit := cmp_zero.mp c2
        rw [if_pos c2] at h
        obtain ⟨z1, hw1, h⟩ := bindP_inv h
        have ex : ∃ p : Nat, x3.toInt ≤ (p : Int) ∧ (p : Int) < (z.f 23 sd).toInt ∧ z.g 22 p = z.g 8 x2.toNatClampNeg := ⟨_, by omega, by omega, hit⟩
        by_cases z15 : z.v 15 = 0
        · rw [zwrong_set h13 hv2 z15] at hw1
          cases hw1
          obtain ⟨z', e1, e2, e3⟩ := ih ((z.sv 15 3).sv 16 (z.f 6 x2.toNatClampNeg)) out (x3 + 1) h13 h19 (by omega) (by omega) (Or.inr (Or.inr ⟨rfl, rfl⟩)) h
          have F1 : FrR [15, 16] z ((z.sv 15 3).sv 16 (z.f 6 x2.toNatClampNeg)) := (FrR.rfl.sv (k := 15) (by decide)).sv (k := 16) (by decide)
          refine ⟨z', e1, F1.trans e2 (by decide), Or.inr ⟨ex, Or.inl ⟨z15, ?_⟩⟩⟩
          rcases e3 with ⟨_, e4⟩ | ⟨_, e4 | e4⟩
          · rw [e4]; exact ⟨rfl, rfl⟩
          · exact absurd (show (3 : Int32) = 0 from e4.1) (by decide)
          · exact ⟨e4.2.1, e4.2.2⟩
        · have hj : z.v 16 < z.f 6 x2.toNatClampNeg ∨ (z.f 6 x2.toNatClampNeg = z.v 16 ∧ ¬ (3 : Int32) < z.v 15) := by
            rcases hw with q | q | q
            · exact absurd q z15
            · exact Or.inl q
            · exact Or.inr ⟨q.1, by rw [q.2]; decide⟩
          rw [zwrong_keep h13 hv2 z15 hj] at hw1
          cases hw1
          obtain ⟨z', e1, e2, e3⟩ := ih z out (x3 + 1) h13 h19 (by omega) (by omega) hw h
          refine ⟨z', e1, e2, Or.inr ⟨ex, Or.inr ⟨z15, ?_⟩⟩⟩
          rcases e3 with ⟨_, e4⟩ | ⟨_, e4 | e4⟩
          · rw [e4]; exact ⟨rfl, rfl⟩
          · exact absurd e4.1 z15
          · exact ⟨e4.2.1, e4.2.2⟩
      · rw [if_neg c2] at h
        obtain ⟨z', e1, e2, e3⟩ := ih z out (x3 + 1) h13 h19 (by omega) (by omega) hw h
        refine ⟨z', e1, e2, ?_⟩
        rcases e3 with ⟨q, e4⟩ | ⟨⟨p, q1, q2, q3⟩, e4⟩
        · refine Or.inl ⟨fun p q1 q2 => ?_, e4⟩
          by_cases q3 : p = x3.toNatClampNeg
          · subst q3
            exact fun w => c2 (cmp_zero.mpr w)
          · exact q p (by omega) q2
        · exact Or.inr ⟨⟨p, by omega, q2, q3⟩, e4⟩
theorem room_full {z : RS} {a b : Int32} (h13 : z.v 13 = 0) (hv : vpb (z.v 11) 403 = true) (e : a = b) : r_roomFor z a b = some (zfl z 2) := by
  unfold r_roomFor
  rw [if_pos e, zfail_eq h13 hv, bindP_some]
  unfold r_roomFor_10
  have n2 : ¬ (zfl z 2).v 13 = 0 := by show ¬ (2 : Int32) = 0; decide
  exact if_neg n2
theorem room_ok {z : RS} {a b : Int32} (h13 : z.v 13 = 0) (e : ¬ a = b) : r_roomFor z a b = r_goesOn z := by
  unfold r_roomFor
  rw [if_neg e]
  unfold r_roomFor_10
  rw [if_pos h13]
  exact bindP_id _
noncomputable abbrev WKP : List Nat := [9, 15, 16, 17, 18, 19, 119, 120, 129]
noncomputable def NMS (sd : Nat) (s : KS) (z : RS) : Prop := ∀ p : Nat, (p : Int) < (s.v 9).toInt → NmR (s.g 29 p) (z.g 22 p)
/-- the parties' numbers -/
noncomputable def PTS (sd : Nat) (s : KS) (z : RS) : Prop := ∀ p : Nat, (p : Int) < (s.v 9).toInt → s.f 19 p = z.f 24 (6 * sd + p) ∧ s.f 20 p = z.f 25 (6 * sd + p)
noncomputable def ResPt (N sd : Nat) (s : KS) (z : RS) (s' : KS) (out : RS) : Prop := (PR2 N s' out ∧ LTb (out.v 11).toInt s' out ∧ FrK WKP s s' ∧ FrR WP z out ∧ s'.v 9 = (s.v 9) + 1 ∧ out.f 23 sd = (z.f 23 sd) + 1 ∧ NMS sd s' out ∧ (s.v 15).toInt + 1 ≤ (s'.v 15).toInt ∧ PTS sd s' out) ∨ FR2 s' out
/-- behind the name: two numbers and the end -/
theorem sim_party_78 {N sd : Nat} {s s' : KS} {z z2 out : RS} {x1 x2 : Int32} {nm : Int64} (hP : PR2 N s z) (hT : TK2 N s z) (hk : KAt s = 300) (hL : LTb ((z.v 11).toInt + 1) s z2) (hG : FrR [11, 15, 16] z z2) (h11 : z2.v 11 = (z.v 11) + 1) (hl : ¬ s.v 15 = 400) (h19 : (z.v 19).toInt = (sd : Int)) (e9 : s.v 9 = z.f 23 sd) (h90 : 0 ≤ (s.v 9).toInt) (h95 : (s.v 9).toInt ≤ 5) (hNM : NMS sd s z) (hPT : PTS sd s z) (hsd : sd ≤ 1) (hx1 : x1.toInt = ((6 * sd : Nat) : Int) + (s.v 9).toInt) (hx2 : x2 = z.v 11) (hnm : nm = s.g 34 (s.v 15).toNatClampNeg) (hs : kX4_readParty_73 s nm = some s') (hz : r_tellParty_78 z2 x1 x2 = some out) : ResPt N sd s z s' out := by
  have A := hP.adv hT (fun q => by rw [hk] at q; exact absurd q (by decide)) (fun q => by rw [hk] at q; exact absurd q (by decide)) hl
  have P2 : PR2 N (kad s) z2 := A.1.keep rfl rfl h11 (hG.1 13 (by decide))
  have K2 : FrK WKP s (kad s) := FrK.rfl.sv (by decide)
  have T2 := hT.fr K2 hG (by decide) (by decide)
  have a11 : (z2.v 11).toInt = (z.v 11).toInt + 1 := by rw [← P2.2.2.1, A.2, hP.2.2.1]
  have L2 : LTb (z2.v 11).toInt (kad s) z2 := hL.keep rfl rfl rfl rfl rfl (by omega)
  have hnr : NmR nm (z.g 8 (z.v 11).toNatClampNeg) := by
    have q := (hT.1 _ hP.le).2.2.2 hk
    rw [hnm, ← hP.2.2.1]
    exact q
  unfold kX4_readParty_73 at hs
  rw [ktake_yes hP.1 hP.kv hk (hP.lt hl).1, bindP_some] at hs
  obtain ⟨_, hs⟩ := guard_inv hs
  obtain ⟨s3, e3, hs⟩ := letS_inv hs
  obtain ⟨r6, s5, h5, hs⟩ := bindI_inv hs
  obtain ⟨_, hs⟩ := guard_inv hs
  obtain ⟨s8, e8, hs⟩ := letS_inv hs
  obtain ⟨r11, s10, h10, hs⟩ := bindI_inv hs
  obtain ⟨_, hs⟩ := guard_inv hs
  obtain ⟨s13, e13, hs⟩ := letS_inv hs
  obtain ⟨s15, h15, hs⟩ := bindP_inv hs
  obtain ⟨s16, e16, hs⟩ := letS_inv hs
  cases hs
  unfold r_tellParty_78 at hz
  obtain ⟨q2, w1, g1, hz⟩ := bindI_inv hz
  obtain ⟨_, hz⟩ := guard_inv hz
  obtain ⟨w4, f4, hz⟩ := letS_inv hz
  obtain ⟨q7, w6, g6, hz⟩ := bindI_inv hz
  obtain ⟨_, hz⟩ := guard_inv hz
  obtain ⟨w9, f9, hz⟩ := letS_inv hz
  obtain ⟨w11, g11, hz⟩ := bindP_inv hz
  have K3 : FrK WKP (kad s) s3 := by rw [← e3]; exact FrK.rfl.sg (k := 29) (by decide)
  have P3 : PR2 N s3 z2 := by rw [← e3]; exact P2.keep rfl rfl rfl rfl
  have L3 : LTb (z2.v 11).toInt s3 z2 := by rw [← e3]; exact L2.keep rfl rfl rfl rfl rfl (Int.le_refl _)
  have T3 := T2.fr K3 (FrR.rfl (W := [])) (by decide) (by decide)
  have v39 : s3.v 9 = s.v 9 := by rw [← e3]; rfl
  have fault : ∀ (F : FR2 s' w11), FR2 s' out := fun F => by
    have n : ¬ w11.v 13 ≤ 0 := fun c => by
      have h1 := tn_le (b := 0) rfl (by decide) c
      have h2 := F.1
      omega
    rw [if_neg n] at hz
    cases hz
    exact F
  rcases int_step P3 T3 L3 h5 g1 with ⟨er1, P5, L5, K5, G5, l5⟩ | F
  · have K8 : FrK WKP s3 s8 := by rw [← e8]; exact (FrK.rfl.trans K5 (by decide)).sf (k := 19) (by decide)
    have G4 : FrR WP z2 w4 := by rw [← f4]; exact (FrR.rfl.trans G5 (by decide)).sf (k := 24) (by decide)
    have P8 : PR2 N s8 w4 := by rw [← e8, ← f4]; exact P5.keep rfl rfl rfl rfl
    have L8 : LTb (w4.v 11).toInt s8 w4 := by rw [← e8, ← f4]; exact L5.keep rfl rfl rfl rfl rfl (Int.le_refl _)
    have T8 := T3.fr K8 G4 (by decide) (by decide)
    have l8 : (s8.v 15).toInt = (s5.v 15).toInt := by rw [← e8]; rfl
    rcases int_step P8 T8 L8 h10 g6 with ⟨er2, P10, L10, K10, G10, l10⟩ | F
    · have K13 : FrK WKP s8 s13 := by rw [← e13]; exact (FrK.rfl.trans K10 (by decide)).sf (k := 20) (by decide)
      have G9 : FrR WP w4 w9 := by rw [← f9]; exact (FrR.rfl.trans G10 (by decide)).sf (k := 25) (by decide)
      have P13 : PR2 N s13 w9 := by rw [← e13, ← f9]; exact P10.keep rfl rfl rfl rfl
      have L13 : LTb (w9.v 11).toInt s13 w9 := by rw [← e13, ← f9]; exact L10.keep rfl rfl rfl rfl rfl (Int.le_refl _)
      have T13 := T8.fr K13 G9 (by decide) (by decide)
      have l13 : (s13.v 15).toInt = (s10.v 15).toInt := by rw [← e13]; rfl
      obtain ⟨t, w, h1, h2, hcase⟩ := step2 (c := 59) (r := 4) P13 T13 (by decide) (by decide)
      rw [h15] at h1
      cases h1
      rw [g11] at h2
      cases h2
      rcases hcase with ⟨_, u1, u2, P15, l15⟩ | ⟨F, _, _⟩
      · have q13 : w11.v 13 ≤ 0 := by rw [P15.2.1]; decide
        rw [if_pos q13] at hz
        obtain ⟨_, hz⟩ := guard_inv hz
        obtain ⟨_, hz⟩ := guard_inv hz
        obtain ⟨_, hz⟩ := guard_inv hz
        obtain ⟨w16, f16, hz⟩ := letS_inv hz
        obtain ⟨_, hz⟩ := guard_inv hz
        obtain ⟨_, hz⟩ := guard_inv hz
        obtain ⟨w20, f20, hz⟩ := letS_inv hz
        cases hz
        have K15 : FrK WKP s13 s15 := by rw [u1]; exact FrK.rfl.sv (k := 15) (by decide)
        have G11 : FrR WP w9 w11 := by rw [u2]; exact FrR.rfl.sv (k := 11) (by decide)
        have KZ : FrK WKP s s15 := (((K2.trans K3 (by decide)).trans K8 (by decide)).trans K13 (by decide)).trans K15 (by decide)
        have GZ : FrR WP z w11 := (((FrR.rfl.trans hG (by decide)).trans G4 (by decide)).trans G9 (by decide)).trans G11 (by decide)
        have K48 : FrK [15, 16, 17, 18, 19, 119, 120] s3 s15 := by
          rw [u1, ← e13]
          refine FrK.sv (k := 15) (FrK.sf (k := 20) (FrK.trans (t := s8) ?_ K10 (by decide)) (by decide)) (by decide)
          rw [← e8]
          exact (FrK.rfl.trans K5 (by decide)).sf (k := 19) (by decide)
        have G48 : FrR [11, 13, 14, 15, 16, 124, 125] z w11 := by
          rw [u2, ← f9]
          refine FrR.sv (k := 11) (FrR.sf (k := 25) (FrR.trans (t := w4) ?_ G10 (by decide)) (by decide)) (by decide)
          rw [← f4]
          exact ((FrR.rfl.trans hG (by decide)).trans G5 (by decide)).sf (k := 24) (by decide)
        have c19 : (w11.v 19).toNatClampNeg = sd := by rw [G48.1 19 (by decide)]; exact clamp_of_int h19
        have ew23 : w11.f 23 = z.f 23 := (G48.2 23 (by decide)).1
        have ew8 : w11.g 8 = z.g 8 := (G48.2 8 (by decide)).2
        have ew22 : w11.g 22 = z.g 22 := (G48.2 22 (by decide)).2
        have es9 : s15.v 9 = s.v 9 := (K48.1 9 (by decide)).trans v39
        have es29 : s15.g 29 = s3.g 29 := (K48.2 29 (by decide)).2
        have a9 : ((s.v 9) + 1).toInt = (s.v 9).toInt + 1 := tn_add rfl (by decide) (by omega) (by omega)
        have ec9 : ((s.v 9).toNatClampNeg : Int) = (s.v 9).toInt := by
          have e : (s.v 9).toInt.toNat = (s.v 9).toNatClampNeg := Int32.toNat_toInt _
          omega
        have v169 : s'.v 9 = (s.v 9) + 1 := by rw [← e16, ← es9]; rfl
        refine Or.inl ⟨?_, ?_, ?_, ?_, v169, ?_, ?_, ?_, ?_⟩
        · rw [← e16, ← f20, ← f16]
          exact P15.keep rfl rfl rfl rfl
        · have q11 : (w11.v 11).toInt = (w9.v 11).toInt + 1 := by rw [← P15.2.2.1, l15, P13.2.2.1]
          rw [← e16, ← f20, ← f16]
          refine L13.keep ?_ ?_ ?_ ?_ ?_ ?_
          · rw [u1]; rfl
          · rw [u1]; rfl
          · rw [u2]; rfl
          · rw [u2]; rfl
          · rw [u2]; rfl
          · show (w9.v 11).toInt ≤ (w11.v 11).toInt
            omega
        · rw [← e16]; exact KZ.sv (k := 9) (by decide)
        · rw [← f20, ← f16]; exact (GZ.sg (k := 22) (by decide)).sf (k := 23) (by decide)
        · have c1619 : (w16.v 19).toNatClampNeg = sd := by rw [← f16]; exact c19
          rw [← f20, c1619, rsf_get, ← f16]
          show (w11.f 23 sd) + 1 = _
          rw [ew23]
        · intro p hp
          rw [v169, a9] at hp
          have eo : out.g 22 p = if p = (s.v 9).toNatClampNeg then z.g 8 (z.v 11).toNatClampNeg else z.g 22 p := by
            rw [← f20, ← f16]
            show (w11.sg 22 _ _).g 22 p = _
            rw [rsg_get, c19, ew23, ew8, ew22, ← e9, hx2]
          have ek : s'.g 29 p = if p = (s.v 9).toNatClampNeg then nm else s.g 29 p := by
            rw [← e16]
            show s15.g 29 p = _
            rw [es29, ← e3, ksg_get]
            rfl
          rw [eo, ek]
          by_cases c : p = (s.v 9).toNatClampNeg
          · rw [if_pos c, if_pos c]; exact hnr
          · rw [if_neg c, if_neg c]; exact hNM p (by omega)
        · have q1 : (s'.v 15).toInt = (s15.v 15).toInt := by rw [← e16]; rfl
          have q2 : (s3.v 15).toInt = ((kad s).v 15).toInt := by rw [← e3]; rfl
          have := A.2
          omega
        · intro p hp
          rw [v169, a9] at hp
          have ez : (x1.toNatClampNeg : Nat) = 6 * sd + (s.v 9).toNatClampNeg := clamp_of_int (by rw [hx1]; omega)
          have ep : ∀ p : Nat, 6 * sd + p = 6 * sd + (s.v 9).toNatClampNeg ↔ p = (s.v 9).toNatClampNeg := fun p => by omega
          have v38 : s3.v 9 = s.v 9 := v39
          have v89 : s8.v 9 = s.v 9 := by rw [← e8]; show s5.v 9 = _; rw [K5.1 9 (by decide)]; exact v39
          have b19 : s'.f 19 p = if p = (s.v 9).toNatClampNeg then r6 else s.f 19 p := by
            rw [← e16]
            show s15.f 19 p = _
            rw [u1]
            show s13.f 19 p = _
            rw [← e13]
            show s10.f 19 p = _
            rw [(K10.2 19 (by decide)).1, ← e8, ksf_get, v38, (K5.2 19 (by decide)).1, ← e3]
            rfl
          have b20 : s'.f 20 p = if p = (s.v 9).toNatClampNeg then r11 else s.f 20 p := by
            rw [← e16]
            show s15.f 20 p = _
            rw [u1]
            show s13.f 20 p = _
            rw [← e13, ksf_get, v89, (K10.2 20 (by decide)).1, ← e8]
            show (if p = (s.v 9).toNatClampNeg then r11 else s5.f 20 p) = _
            rw [(K5.2 20 (by decide)).1, ← e3]
            rfl
          have d24 : out.f 24 (6 * sd + p) = if 6 * sd + p = 6 * sd + (s.v 9).toNatClampNeg then q2 else z.f 24 (6 * sd + p) := by
            rw [← f20, ← f16]
            show w11.f 24 (6 * sd + p) = _
            rw [u2]
            show w9.f 24 (6 * sd + p) = _
            rw [← f9]
            show w6.f 24 (6 * sd + p) = _
            rw [(G10.2 24 (by decide)).1, ← f4, rsf_all, ez, (G5.2 24 (by decide)).1, (hG.2 24 (by decide)).1]
          have d25 : out.f 25 (6 * sd + p) = if 6 * sd + p = 6 * sd + (s.v 9).toNatClampNeg then q7 else z.f 25 (6 * sd + p) := by
            rw [← f20, ← f16]
            show w11.f 25 (6 * sd + p) = _
            rw [u2]
            show w9.f 25 (6 * sd + p) = _
            rw [← f9, rsf_all, ez, (G10.2 25 (by decide)).1, ← f4]
            show (if 6 * sd + p = 6 * sd + (s.v 9).toNatClampNeg then q7 else w1.f 25 (6 * sd + p)) = _
            rw [(G5.2 25 (by decide)).1, (hG.2 25 (by decide)).1]
          rw [b19, b20, d24, d25]
          by_cases c : p = (s.v 9).toNatClampNeg
          · rw [if_pos c, if_pos c, if_pos ((ep p).mpr c), if_pos ((ep p).mpr c)]
            exact ⟨er1, er2⟩
          · rw [if_neg c, if_neg c, if_neg (fun w => c ((ep p).mp w)), if_neg (fun w => c ((ep p).mp w))]
            exact hPT p (by omega)
      · refine Or.inr (fault ?_)
        rw [← e16]
        exact F
    · have k13 : Sk (s10.v 16) (s10.v 17) s13 := by rw [← e13]; exact ⟨rfl, rfl⟩
      have q9 : Sz (w6.v 13) (w6.v 14) w9 := by rw [← f9]; exact ⟨rfl, rfl⟩
      have k15 := sk_take F.ne _ k13 _ h15
      have k16 : Sk (s10.v 16) (s10.v 17) s' := by rw [← e16]; exact k15
      exact Or.inr (fault ((F.sk k16).sz (sz_must F.1 _ q9 _ g11)))
  · have k8 : Sk (s5.v 16) (s5.v 17) s8 := by rw [← e8]; exact ⟨rfl, rfl⟩
    have q4 : Sz (w1.v 13) (w1.v 14) w4 := by rw [← f4]; exact ⟨rfl, rfl⟩
    have k10 : Sk (s5.v 16) (s5.v 17) s10 := sk_takeInt F.ne _ k8 _ h10
    have q6 : Sz (w1.v 13) (w1.v 14) w6 := sz_bounded F.1 _ q4 _ g6
    have k13 : Sk (s5.v 16) (s5.v 17) s13 := by rw [← e13]; exact k10
    have q9 : Sz (w1.v 13) (w1.v 14) w9 := by rw [← f9]; exact q6
    have k15 := sk_take F.ne _ k13 _ h15
    have k16 : Sk (s5.v 16) (s5.v 17) s' := by rw [← e16]; exact k15
    exact Or.inr (fault ((F.sk k16).sz (sz_must F.1 _ q9 _ g11)))
theorem told_inv2 {nm : Int64} {r : Int32} {s s' : KS} (h : kX4_isTold s nm = some (r, s')) : s' = s ∧ ((r = 1 ∧ ∃ p : Nat, (p : Int) < (s.v 9).toInt ∧ s.g 29 p = nm) ∨ (r = 0 ∧ ∀ p : Nat, (p : Int) < (s.v 9).toInt → ¬ s.g 29 p = nm)) := by
  unfold kX4_isTold at h
  have z0 : (0 : Int32).toInt = 0 := by decide
  obtain ⟨e, h⟩ := told_inv fu 0 (by decide) (by decide) h
  refine ⟨e, ?_⟩
  rcases h with ⟨e1, p, _, p2, p3⟩ | ⟨e1, h⟩
  · exact Or.inl ⟨e1, p, p2, p3⟩
  · exact Or.inr ⟨e1, fun p q => h p (by omega) q⟩
end
section
/-! ===== one telling, all tellings ===== -/
theorem fr_failLater {s s' : KS} {x p : Int32} (h : kX4_failLater s x p = some s') : FrK [18, 19] s s' := by
  unfold kX4_failLater at h
  by_cases c : s.v 18 = 0
  · rw [if_pos c] at h
    obtain ⟨u2, d2, h⟩ := letS_inv h
    obtain ⟨u4, d4, h⟩ := letS_inv h
    have e : s' = u4 := by cases h; rfl
    rw [e, ← d4, ← d2]
    exact (FrK.rfl.sv (k := 18) (by decide)).sv (k := 19) (by decide)
  · rw [if_neg c] at h
    have e : s' = s := by cases h; rfl
    rw [e]
    exact FrK.rfl
theorem party_room {N : Nat} {s1 s' : KS} {z1 out : RS} {r8 x1 x2 : Int32} {nm : Int64} (P1 : PR2 N s1 z1) (T1 : TK2 N s1 z1) (c3 : KAt s1 = 300) (hl2 : s1.v 15 = 400) (hs : (if r8 = 0 then kX4_readParty_73 s1 nm else (if vpb (s1.v 15) 401 then (bindP (kX4_failLater s1 3 ((s1.f 33) (Int32.toNatClampNeg (s1.v 15)))) fun s11 => kX4_readParty_73 s11 nm) else none)) = some s') (hz : r_tellParty_30L fu (zfl z1 2) x1 x2 0 = some out) : FR2 s' out := by
  have F := P1.fail T1 2 (by decide)
  have nl : ¬ s1.v 15 < 400 := by rw [hl2]; decide
  have fin : ∀ (t : KS), PR2 N t z1 → KAt t = 300 → t.v 15 = s1.v 15 → t.f 33 = s1.f 33 → kX4_readParty_73 t nm = some s' → FR2 s' (zfl z1 2) := by
    intro t Pt' kt e15 e33 h73
    have F2 : FR2 (kfl t 2) (zfl z1 2) := by
      refine ⟨F.1, rfl, ?_⟩
      have q := F.2.2
      show t.f 33 (t.v 15).toNatClampNeg = _
      rw [e15, e33]
      exact q
    have n2 : ¬ t.v 15 < 400 := by rw [e15]; exact nl
    have h73' : kX4_readParty_73 (kfl t 2) nm = some s' := by
      unfold kX4_readParty_73 at h73 ⊢
      rw [ktake_room Pt'.1 Pt'.kv kt n2] at h73
      rw [ktake_off F2.ne]
      exact h73
    have k0 : Sk ((kfl t 2).v 16) ((kfl t 2).v 17) (kfl t 2) := ⟨rfl, rfl⟩
    exact F2.sk (sk_readParty_73 F2.ne _ k0 _ h73')
  have qz : Sz ((zfl z1 2).v 13) ((zfl z1 2).v 14) (zfl z1 2) := ⟨rfl, rfl⟩
  have qo := sz_party_30L F.1 fu _ _ _ qz _ hz
  by_cases c8 : r8 = 0
  · rw [if_pos c8] at hs
    exact (fin _ P1 c3 rfl rfl hs).sz qo
  · rw [if_neg c8, if_pos P1.kv] at hs
    obtain ⟨s11, h11, hs⟩ := bindP_inv hs
    have f11 := fr_failLater h11
    refine (fin s11 (P1.keep (f11.1 15 (by decide)) (f11.1 16 (by decide)) rfl rfl) ?_ (f11.1 15 (by decide)) (f11.2 33 (by decide)).1 hs).sz qo
    unfold KAt
    rw [f11.1 15 (by decide), (f11.2 32 (by decide)).1]
    exact c3
theorem sim_party {N sd : Nat} {s s' : KS} {z out : RS} (hP : PR2 N s z) (hT : TK2 N s z) (hL : LTb (z.v 11).toInt s z) (hk : KAt s = 257) (h19 : (z.v 19).toInt = (sd : Int)) (e9 : s.v 9 = z.f 23 sd) (h90 : 0 ≤ (s.v 9).toInt) (h96 : (s.v 9).toInt ≤ 6) (hNM : NMS sd s z) (hPT : PTS sd s z) (hsd : sd ≤ 1) (hs : kX4_readParty s = some s') (hz : (bindP (r_roomFor z (z.f 23 sd) 6) fun s9 => (if (s9.v 13) = 0 then (bindP (r_tellParty s9) fun s11 => (some s11)) else (some s9))) = some out) : ResPt N sd s z s' out := by
  unfold kX4_readParty at hs
  by_cases c6 : s.v 9 = 6
  · have n6 : ¬ s.v 9 < 6 := by rw [c6]; decide
    rw [if_neg n6, kfail_eq hP.1 hP.kv, bindP_some] at hs
    cases hs
    rw [room_full hP.2.1 hP.zv (e9.symm.trans c6), bindP_some] at hz
    have n2 : ¬ (zfl z 2).v 13 = 0 := by show ¬ (2 : Int32) = 0; decide
    rw [if_neg n2] at hz
    cases hz
    exact Or.inr (hP.fail hT 2 (by decide))
  · have l6 := tn_ne (b := 6) rfl (by decide) c6
    have n6 : s.v 9 < 6 := Int32.lt_iff_toInt_lt.mpr (by
      rw [show (6 : Int32).toInt = 6 from by decide]
      omega)
    rw [if_pos n6] at hs
    have nr : ¬ z.f 23 sd = 6 := by rw [← e9]; exact c6
    rw [room_ok hP.2.1 nr] at hz
    by_cases hl : s.v 15 = 400
    · have nl : ¬ s.v 15 < 400 := by rw [hl]; decide
      rw [ktake_room hP.1 hP.kv hk nl, bindP_some] at hs
      rw [zgo_room hP.2.1 hP.zv (by rw [← hP.2.2.1]; exact hl), bindP_some] at hz
      have n2 : ¬ (zfl z 2).v 13 = 0 := by show ¬ (2 : Int32) = 0; decide
      rw [if_neg n2] at hz
      cases hz
      have F := hP.fail hT 2 (by decide)
      obtain ⟨_, hs⟩ := guard_inv hs
      rw [kat_off F.ne, bindI_some, if_pos rfl] at hs
      have k0 : Sk ((kfl s 2).v 16) ((kfl s 2).v 17) (kfl s 2) := ⟨rfl, rfl⟩
      exact Or.inr (F.sk (sk_readParty_73 F.ne _ k0 _ hs))
    · have q := hP.lt hl
      rw [ktake_yes hP.1 hP.kv hk q.1, bindP_some] at hs
      rw [zgo_ok q.2.2, bindP_some] at hz
      have A := hP.adv hT (fun q => by rw [hk] at q; exact absurd q (by decide)) (fun q => by rw [hk] at q; exact absurd q (by decide)) hl
      have P1 := A.1
      have T1 : TK2 N (kad s) (zad z) := hT
      have a11 : ((zad z).v 11).toInt = (z.v 11).toInt + 1 := by rw [← P1.2.2.1, A.2, hP.2.2.1]
      have L1 : LTb ((zad z).v 11).toInt (kad s) (zad z) := hL.keep rfl rfl rfl rfl rfl (by omega)
      rw [if_pos P1.2.1, bindP_id] at hz
      unfold r_tellParty at hz
      obtain ⟨_, hz⟩ := guard_inv hz
      obtain ⟨z2, hm2, hz⟩ := bindP_inv hz
      rw [if_pos P1.kv] at hs
      have K1 : FrK WKP s (kad s) := FrK.rfl.sv (by decide)
      have G1 : FrR WP z (zad z) := FrR.rfl.sv (by decide)
      have lift : ∀ {t w}, ResPt N sd (kad s) (zad z) t w → ResPt N sd s z t w := by
        intro t w hr
        rcases hr with ⟨P, L, K, G, h9, h23, hn, h5, hp⟩ | F
        · exact Or.inl ⟨P, L, K1.trans K (by decide), G1.trans G (by decide), h9, h23, hn, by have := A.2; omega, hp⟩
        · exact Or.inr F
      refine lift ?_
      have hkp := P1.kp T1
      have i1 := kp2 hkp (c0 := 300) (r0 := 1) (by decide)
      by_cases c3 : KAt (kad s) = 300
      · rw [kat_yes P1.1 P1.kv c3, bindI_some, if_neg z_one] at hs
        obtain ⟨r8, s7, ht, hs⟩ := bindI_inv hs
        obtain ⟨e7, htd⟩ := told_inv2 ht
        clear ht
        subst e7
        rw [zmust_yes P1.2.1 P1.zv (i1.mp c3)] at hm2
        have ec : (((kad s).v 15).toNatClampNeg : Int) = ((zad z).v 11).toInt := by
          have h0 := P1.2.2.2.1
          have e : ((kad s).v 15).toInt.toNat = ((kad s).v 15).toNatClampNeg := Int32.toNat_toInt _
          rw [← P1.2.2.1]
          omega
        -- the name's own row, on both sides
        have hnr : NmR ((kad s).g 34 ((kad s).v 15).toNatClampNeg) ((zad z).g 8 ((zad z).v 11).toNatClampNeg) := by
          have q := (T1.1 _ P1.le).2.2.2 c3
          rw [← P1.2.2.1]
          exact q
        by_cases hl2 : (kad s).v 15 = 400
        · -- no room for it
          rw [zgo_room P1.2.1 P1.zv (by rw [← P1.2.2.1]; exact hl2)] at hm2
          cases hm2
          exact Or.inr (party_room P1 T1 c3 hl2 hs hz)
        · have q2 := P1.lt hl2
          rw [zgo_ok q2.2.2] at hm2
          cases hm2
          have A2 := P1.adv T1 (fun q => by rw [c3] at q; exact absurd q (by decide)) (fun q => by rw [c3] at q; exact absurd q (by decide)) hl2
          have hle := P1.le
          have hN := P1.2.2.2.2.2
          have ec2 : ((zad z).v 11).toNatClampNeg = ((kad s).v 15).toNatClampNeg := by rw [P1.2.2.1]
          have hw0 : (zad (zad z)).v 15 = 0 ∨ (zad (zad z)).v 16 < (zad (zad z)).f 6 ((zad z).v 11).toNatClampNeg ∨ ((zad (zad z)).f 6 ((zad z).v 11).toNatClampNeg = (zad (zad z)).v 16 ∧ (zad (zad z)).v 15 = 3) := by
            rcases L1.2 with q | ⟨_, _, j, hj, ej⟩
            · exact Or.inl q.1
            · refine Or.inr (Or.inl ?_)
              show (zad z).v 16 < (zad z).f 6 ((zad z).v 11).toNatClampNeg
              rw [ej, ec2]
              exact Int32.lt_iff_toInt_lt.mpr (T1.2.2 j _ (by omega) hle)
          obtain ⟨w, h78, Gw, hm⟩ := party_loop (sd := sd) _ _ P1.zv fu (zad (zad z)) out 0 A2.1.2.1 (clamp_of_int h19) (by decide) (by decide) hw0 hz
          have z0 : (0 : Int32).toInt = 0 := by decide
          have e923 : ((zad (zad z)).f 23 sd).toInt = ((kad s).v 9).toInt := by show (z.f 23 sd).toInt = (s.v 9).toInt; rw [e9]
          have same : ∀ p : Nat, (p : Int) < (s.v 9).toInt → ((kad s).g 29 p = (kad s).g 34 ((kad s).v 15).toNatClampNeg ↔ (zad (zad z)).g 22 p = (zad (zad z)).g 8 ((zad z).v 11).toNatClampNeg) := fun p hp => (hNM p hp).iff hnr
          have Gw' : FrR [11, 15, 16] (zad z) w := (FrR.rfl.sv (k := 11) (by decide)).trans Gw (by decide)
          have w11 : w.v 11 = ((zad z).v 11) + 1 := Gw.1 11 (by decide)
          have h195 : ((zad z).v 19).toInt = (sd : Int) := h19
          have h95 : ((kad s).v 9).toInt ≤ 5 := by show (s.v 9).toInt ≤ 5; omega
          have b19 : (6 * ((zad z).v 19)).toInt = ((zad z).v 19).toInt * 6 := ti_cmul (c := 6) (by decide) (by rw [h195]; omega) (by rw [h195]; omega)
          have hx1 : ((6 * ((zad z).v 19)) + ((zad z).f 23 (Int32.toNatClampNeg ((zad z).v 19)))).toInt = ((6 * sd : Nat) : Int) + ((kad s).v 9).toInt := by
            have e23 : (zad z).f 23 (Int32.toNatClampNeg ((zad z).v 19)) = (kad s).v 9 := by rw [clamp_of_int h195]; exact e9.symm
            have h90' : 0 ≤ ((kad s).v 9).toInt := h90
            rw [e23, ti_add (by rw [b19, h195]; omega) (by rw [b19, h195]; omega), b19, h195]
            omega
          by_cases c8 : r8 = 0
          · rw [if_pos c8] at hs
            have hw : w = zad (zad z) := by
              rcases hm with ⟨_, e⟩ | ⟨⟨p, _, p2, p3⟩, _⟩
              · exact e
              · rcases htd with ⟨e, _⟩ | ⟨_, htd⟩
                · rw [c8] at e; exact absurd e (by decide)
                · rw [e923] at p2
                  exact absurd ((same p p2).mpr p3) (htd p p2)
            have Lw : LTb (((zad z).v 11).toInt + 1) (kad s) w := by
              rw [hw]
              exact L1.keep rfl rfl rfl rfl rfl (by omega)
            exact sim_party_78 P1 T1 c3 Lw Gw' w11 hl2 h195 e9 h90 h95 hNM hPT hsd hx1 rfl rfl hs h78
          · rw [if_neg c8, if_pos P1.kv] at hs
            obtain ⟨s11, h11, hs⟩ := bindP_inv hs
            have hmat : (zad z).v 15 = 0 ∧ w.v 15 = 3 ∧ w.v 16 = (zad z).f 6 ((zad z).v 11).toNatClampNeg ∨ ¬ (zad z).v 15 = 0 ∧ w.v 15 = (zad z).v 15 ∧ w.v 16 = (zad z).v 16 := by
              rcases hm with ⟨hn, _⟩ | ⟨_, e⟩
              · rcases htd with ⟨_, p, p2, p3⟩ | ⟨e, _⟩
                · exact absurd ((same p p2).mp p3) (hn p (by omega) (by rw [e923]; exact p2))
                · exact absurd e c8
              · exact e
            obtain ⟨e18, hcs⟩ := id L1
            unfold kX4_failLater at h11
            have pl : (kad s).f 33 ((kad s).v 15).toNatClampNeg = (zad z).f 6 ((zad z).v 11).toNatClampNeg := by rw [ec2]; exact (T1.1 _ hle).2.1
            have res : FrK [18, 19] (kad s) s11 ∧ LTb (((zad z).v 11).toInt + 1) s11 w := by
              by_cases z15 : (zad z).v 15 = 0
              · rw [if_pos (e18.trans z15)] at h11
                obtain ⟨u2, d2, h11⟩ := letS_inv h11
                obtain ⟨u4, d4, h11⟩ := letS_inv h11
                cases h11
                rcases hmat with ⟨_, m1, m2⟩ | ⟨m1, _⟩
                · refine ⟨by rw [← d4, ← d2]; exact (FrK.rfl.sv (k := 18) (by decide)).sv (k := 19) (by decide), ?_, Or.inr ⟨?_, Or.inl m1, ((zad z).v 11).toNatClampNeg, ?_, ?_⟩⟩
                  · rw [m1, ← d4, ← d2]; rfl
                  · rw [m2, ← pl, ← d4]; rfl
                  · rw [ec2]; omega
                  · rw [m2, (Gw'.2 6 (by decide)).1]
                · exact absurd z15 m1
              · have n18 : ¬ (kad s).v 18 = 0 := by rw [e18]; exact z15
                rw [if_neg n18] at h11
                cases h11
                rcases hmat with ⟨m1, _⟩ | ⟨_, m1, m2⟩
                · exact absurd m1 z15
                · exact ⟨FrK.rfl, L1.keep rfl rfl m1 m2 (Gw'.2 6 (by decide)).1 (by omega)⟩
            obtain ⟨f11, L11⟩ := res
            have P11 : PR2 N s11 (zad z) := P1.keep (f11.1 15 (by decide)) (f11.1 16 (by decide)) rfl rfl
            have T11 : TK2 N s11 (zad z) := T1.fr f11 (FrR.rfl (W := [])) (by decide) (by decide)
            have k11 : KAt s11 = 300 := by
              unfold KAt
              rw [f11.1 15 (by decide), (f11.2 32 (by decide)).1]
              exact c3
            have v9 : s11.v 9 = (kad s).v 9 := f11.1 9 (by decide)
            have NM11 : NMS sd s11 (zad z) := by
              intro p hp
              rw [v9] at hp
              rw [(f11.2 29 (by decide)).2]
              exact hNM p hp
            have PT11 : PTS sd s11 (zad z) := by
              intro p hp
              rw [v9] at hp
              rw [(f11.2 19 (by decide)).1, (f11.2 20 (by decide)).1]
              exact hPT p hp
            have hnm : (kad s).g 34 ((kad s).v 15).toNatClampNeg = s11.g 34 (s11.v 15).toNatClampNeg := by rw [(f11.2 34 (by decide)).2, f11.1 15 (by decide)]
            have hl11 : ¬ s11.v 15 = 400 := by rw [f11.1 15 (by decide)]; exact hl2
            rcases sim_party_78 P11 T11 k11 L11 Gw' w11 hl11 h195 (v9.trans e9) (by rw [v9]; exact h90) (by rw [v9]; exact h95) NM11 PT11 hsd (by rw [v9]; exact hx1) rfl hnm hs h78 with ⟨P, L, K, G, h9, h23, hn, h5, hp⟩ | F
            · exact Or.inl ⟨P, L, (FrK.rfl.trans f11 (by decide)).trans K (by decide), G, by rw [h9, v9], h23, hn, by rw [← f11.1 15 (by decide)]; exact h5, hp⟩
            · exact Or.inr F
      · -- no name
        rw [kat_no P1.1 P1.kv c3, bindI_some, if_pos rfl] at hs
        rw [zmust_no P1.2.1 P1.zv (fun q => c3 (i1.mpr q))] at hm2
        cases hm2
        have F := P1.fail T1 1 (by decide)
        have h73' : ∃ nm, kX4_readParty_73 (kfl (kad s) 1) nm = some s' := by
          refine ⟨(kad s).g 34 ((kad s).v 15).toNatClampNeg, ?_⟩
          unfold kX4_readParty_73 at hs ⊢
          rw [ktake_no P1.1 P1.kv c3] at hs
          rw [ktake_off F.ne]
          exact hs
        obtain ⟨nm, h73'⟩ := h73'
        have k0 : Sk ((kfl (kad s) 1).v 16) ((kfl (kad s) 1).v 17) (kfl (kad s) 1) := ⟨rfl, rfl⟩
        have qz : Sz ((zfl (zad z) 1).v 13) ((zfl (zad z) 1).v 14) (zfl (zad z) 1) := ⟨rfl, rfl⟩
        exact Or.inr ((F.sk (sk_readParty_73 F.ne _ k0 _ h73')).sz (sz_party_30L F.1 fu _ _ _ qz _ hz))
theorem sim_wave {N sd : Nat} {s s' : KS} {z out : RS} (hP : PR2 N s z) (hT : TK2 N s z) (hL : LTb (z.v 11).toInt s z) (hk : KAt s = 256) (h19 : (z.v 19).toInt = (sd : Int)) (e8 : s.v 8 = z.f 20 sd) (h80 : 0 ≤ (s.v 8).toInt) (h85 : (s.v 8).toInt ≤ 5) (hsd : sd ≤ 1) (hO : ∀ j : Nat, (j : Int) < 6 * (s.v 8).toInt → s.f 16 j = z.f 21 (30 * sd + j)) (hs : kX4_readWave s = some s') (hz : (bindP (r_roomFor z (z.f 20 sd) 5) fun s4 => (if (s4.v 13) = 0 then (bindP (r_tellWave s4) fun s6 => (some s6)) else (some s4))) = some out) : ResW N sd s z s' out := by
  unfold kX4_readWave at hs
  by_cases c5 : s.v 8 = 5
  · have n5 : ¬ s.v 8 < 5 := by rw [c5]; decide
    rw [if_neg n5, kfail_eq hP.1 hP.kv, bindP_some] at hs
    cases hs
    rw [room_full hP.2.1 hP.zv (e8.symm.trans c5), bindP_some] at hz
    have n2 : ¬ (zfl z 2).v 13 = 0 := by show ¬ (2 : Int32) = 0; decide
    rw [if_neg n2] at hz
    cases hz
    exact Or.inr (hP.fail hT 2 (by decide))
  · have l5 := tn_ne (b := 5) rfl (by decide) c5
    have n5 : s.v 8 < 5 := Int32.lt_iff_toInt_lt.mpr (by
      rw [show (5 : Int32).toInt = 5 from by decide]
      omega)
    rw [if_pos n5] at hs
    have nr : ¬ z.f 20 sd = 5 := by rw [← e8]; exact c5
    rw [room_ok hP.2.1 nr] at hz
    by_cases hl : s.v 15 = 400
    · have nl : ¬ s.v 15 < 400 := by rw [hl]; decide
      rw [ktake_room hP.1 hP.kv hk nl, bindP_some] at hs
      rw [zgo_room hP.2.1 hP.zv (by rw [← hP.2.2.1]; exact hl), bindP_some] at hz
      have n2 : ¬ (zfl z 2).v 13 = 0 := by show ¬ (2 : Int32) = 0; decide
      rw [if_neg n2] at hz
      cases hz
      have F := hP.fail hT 2 (by decide)
      have k0 : Sk ((kfl s 2).v 16) ((kfl s 2).v 17) (kfl s 2) := ⟨rfl, rfl⟩
      exact Or.inr (F.sk (sk_readWave_30L F.ne fu _ _ _ _ k0 _ hs))
    · have q := hP.lt hl
      rw [ktake_yes hP.1 hP.kv hk q.1, bindP_some] at hs
      rw [zgo_ok q.2.2, bindP_some] at hz
      have A := hP.adv hT (fun q => by rw [hk] at q; exact absurd q (by decide)) (fun q => by rw [hk] at q; exact absurd q (by decide)) hl
      have a11 : ((zad z).v 11).toInt = (z.v 11).toInt + 1 := by rw [← A.1.2.2.1, A.2, hP.2.2.1]
      rw [if_pos A.1.2.1, bindP_id] at hz
      unfold r_tellWave at hz
      obtain ⟨_, hz⟩ := guard_inv hz
      have z0 : (0 : Int32).toInt = 0 := by decide
      have h195 : ((zad z).v 19).toInt = (sd : Int) := h19
      have ec8 : ((s.v 8).toNatClampNeg : Int) = (s.v 8).toInt := by
        have e : (s.v 8).toInt.toNat = (s.v 8).toNatClampNeg := Int32.toNat_toInt _
        omega
      have b30 : (30 * ((zad z).v 19)).toInt = ((zad z).v 19).toInt * 30 := ti_cmul (c := 30) (by decide) (by rw [h195]; omega) (by rw [h195]; omega)
      have e20 : (zad z).f 20 (Int32.toNatClampNeg ((zad z).v 19)) = s.v 8 := by rw [clamp_of_int h195]; exact e8.symm
      have b6 : (6 * (s.v 8)).toInt = (s.v 8).toInt * 6 := ti_cmul (c := 6) (by decide) (by omega) (by omega)
      have hx1 : ((30 * ((zad z).v 19)) + (6 * ((zad z).f 20 (Int32.toNatClampNeg ((zad z).v 19))))).toInt = ((30 * sd + 6 * (s.v 8).toNatClampNeg : Nat) : Int) := by
        rw [e20, ti_add (by rw [b30, b6, h195]; omega) (by rw [b30, b6, h195]; omega), b30, b6, h195]
        omega
      exact sim_waveL (s0 := s) _ (s.v 8).toNatClampNeg ec8.symm (by omega) hsd hx1 fu fu (kad s) s' (zad z) out 0 (-1) _ 0 A.1 (hT.fr (FrK.rfl.sv (W := WKW) (k := 15) (by decide)) (FrR.rfl.sv (W := WZW) (k := 11) (by decide)) (by decide) (by decide)) (hL.keep rfl rfl rfl rfl rfl (by omega)) h19 (FrK.rfl.sv (k := 15) (by decide)) (FrR.rfl.sv (k := 11) (by decide)) rfl rfl (by have := A.2; omega) (by decide) (by decide) (fun h => by omega) (fun j hj => hO j (by omega)) hs hz
/-- what has been told so far -/
noncomputable def CT (sd : Nat) (s : KS) (z : RS) : Prop := (∀ j : Nat, (j : Int) < 6 * (s.v 8).toInt → s.f 16 j = z.f 21 (30 * sd + j)) ∧ PTS sd s z ∧ s.v 11 = z.f 26 sd ∧ sd ≤ 1
/-- the laws told so far, on both sides -/
noncomputable def LAW (sd : Nat) (s : KS) (z : RS) : Prop := PreC s z ∧ ((420 * sd : Nat) : Int) ≤ (z.v 35).toInt ∧ ((130 * sd : Nat) : Int) ≤ (z.v 29).toInt ∧ ∀ cl, cl < 4 → LawR (s.v 12).toInt ((420 * sd : Nat) : Int) (z.v 35).toInt (130 * sd) (z.v 29).toNatClampNeg (s.f 22) (s.f 23) (s.f 24) (s.f 25) cl (4 * sd + cl) z
theorem LAW.keep {sd : Nat} {s s' : KS} {z z' : RS} {W W' : List Nat} (h : LAW sd s z) (K : FrK W s s') (G : FrR W' z z') (hW : 12 ∉ W ∧ 122 ∉ W ∧ 123 ∉ W ∧ 124 ∉ W ∧ 125 ∉ W) (hW' : (35 ∉ W' ∧ 29 ∉ W' ∧ 127 ∉ W' ∧ 128 ∉ W') ∧ (130 ∉ W' ∧ 131 ∉ W' ∧ 132 ∉ W' ∧ 133 ∉ W' ∧ 134 ∉ W') ∧ 136 ∉ W' ∧ 137 ∉ W') (h15 : (s.v 15).toInt ≤ (s'.v 15).toInt) : LAW sd s' z' := by
  obtain ⟨⟨a1, a2, a3⟩, a4, a5, a6⟩ := h
  unfold LAW PreC
  rw [K.1 12 hW.1, G.1 35 hW'.1.1, G.1 29 hW'.1.2.1, (K.2 22 hW.2.1).1, (K.2 23 hW.2.2.1).1, (K.2 24 hW.2.2.2.1).1, (K.2 25 hW.2.2.2.2).1]
  refine ⟨⟨a1, by omega, a3⟩, a4, a5, fun cl hcl => ?_⟩
  exact (a6 cl hcl).keep (fun _ _ => rfl) (fun _ _ _ => rfl) rfl rfl (fun i _ _ => by rw [es_fr G hW'.2.2.1 hW'.2.2.2]) (fun i _ _ => SmB.fr G hW'.2.1) (by rw [(G.2 27 hW'.1.2.2.1).1]) (by rw [(G.2 28 hW'.1.2.2.2).1]) (Int.le_refl _) (Int.le_refl _) (Nat.le_refl _)
theorem LAW.law {sd cl b0 : Nat} {s s' : KS} {z out : RS} (h : LAW sd s z) (hb : (z.v 29).toNatClampNeg = b0) (hcl : cl < 4) (E : LwE cl b0 sd ((420 * sd : Nat) : Int) (z.v 29) s z s' out) : LAW sd s' out := by
  obtain ⟨a0, a4, a5, a6⟩ := h
  obtain ⟨ck, cz, pc, lo', ⟨m, o29, T⟩, f27, f28⟩ := E
  have e29 : (z.v 29).toInt.toNat = (z.v 29).toNatClampNeg := Int32.toNat_toInt _
  have eo : (out.v 29).toNatClampNeg = b0 + m + 1 := clamp_of_int o29
  refine ⟨pc, lo', by omega, fun c hc => ?_⟩
  by_cases e : c = cl
  · subst e
    refine Or.inr ⟨b0, m, by omega, by omega, ?_, ?_, T⟩
    · rw [f27, if_pos rfl]
      omega
    · rw [f28, if_pos rfl]
      exact o29
  · refine (a6 c hc).keep ck.1 (fun i q1 q2 => ck.2.1 i (by omega)) (ck.2.2.1 c e).1 (ck.2.2.1 c e).2 (fun i _ q => cz.1 i q) (fun i q1 q2 => cz.2.1 i (by omega)) ?_ ?_ ck.2.2.2 cz.2.2 (by omega)
    · rw [f27, if_neg (by omega)]
    · rw [f28, if_neg (by omega)]
/-- where both stand between two tellings -/
noncomputable def ML (N sd : Nat) (s : KS) (z : RS) : Prop := PR2 N s z ∧ TK2 N s z ∧ LTb (z.v 11).toInt s z ∧ z.v 12 = 0 ∧ (z.v 19).toInt = (sd : Int) ∧ s.v 8 = z.f 20 sd ∧ s.v 9 = z.f 23 sd ∧ (0 ≤ (s.v 8).toInt ∧ (s.v 8).toInt ≤ 5) ∧ (0 ≤ (s.v 9).toInt ∧ (s.v 9).toInt ≤ 6) ∧ NMS sd s z ∧ CT sd s z ∧ LAW sd s z
theorem CT.keep {sd : Nat} {s s' : KS} {z z' : RS} (h : CT sd s z) (e8 : s'.v 8 = s.v 8) (e9 : s'.v 9 = s.v 9) (e11 : s'.v 11 = s.v 11) (f16 : s'.f 16 = s.f 16) (f19 : s'.f 19 = s.f 19) (f20 : s'.f 20 = s.f 20) (g21 : z'.f 21 = z.f 21) (g24 : z'.f 24 = z.f 24) (g25 : z'.f 25 = z.f 25) (g26 : z'.f 26 = z.f 26) : CT sd s' z' := by
  unfold CT PTS
  rw [e8, e9, e11, f16, f19, f20, g21, g24, g25, g26]
  exact h
theorem step_go {N : Nat} {s : KS} {z : RS} {c : Int32} (h : PR2 N s z) (hT : TK2 N s z) (hk : KAt s = c) (hc : ¬ c = 302 ∧ ¬ c = 303) : ∃ s' z', kX4_take s c = some s' ∧ r_goesOn z = some z' ∧ ((s' = kad s ∧ z' = zad z ∧ PR2 N s' z' ∧ (s'.v 15).toInt = (s.v 15).toInt + 1) ∨ FR2 s' z') := by
  by_cases hl : s.v 15 = 400
  · have nl : ¬ s.v 15 < 400 := by rw [hl]; decide
    exact ⟨_, _, ktake_room h.1 h.kv hk nl, zgo_room h.2.1 h.zv (by rw [← h.2.2.1]; exact hl), Or.inr (h.fail hT 2 (by decide))⟩
  · have q := h.lt hl
    have a := h.adv hT (fun q => hc.1 (hk.symm.trans q)) (fun q => hc.2 (hk.symm.trans q)) hl
    exact ⟨_, _, ktake_yes h.1 h.kv hk q.1, zgo_ok q.2.2, Or.inl ⟨rfl, rfl, a.1, a.2⟩⟩
theorem sim_tell {N sd : Nat} {s s' : KS} {z out : RS} (h : ML N sd s z) (hI : InvK s) (hs : kX4_readTell s = some s') (hz : r_tellOne z = some out) : (ML N sd s' out ∧ (s.v 15).toInt + 1 ≤ (s'.v 15).toInt) ∨ FR2 s' out := by
  obtain ⟨hP, hT, hL, h12, h19, e8, e9, hb8, hb9, hNM, hCT, hLW⟩ := h
  have hk := hP.kp hT
  have c19 : (z.v 19).toNatClampNeg = sd := clamp_of_int h19
  obtain ⟨y', ey, hIy, hFy⟩ := ok_kX4_readTell s hI
  rw [hs] at ey
  cases ey
  have b8 : 0 ≤ (s'.v 8).toInt ∧ (s'.v 8).toInt ≤ 5 := hIy.1 8
  have b9 : 0 ≤ (s'.v 9).toInt ∧ (s'.v 9).toInt ≤ 6 := hIy.1 9
  unfold kX4_readTell at hs
  unfold r_tellOne at hz
  rw [if_pos hP.kv] at hs
  rw [if_pos hP.zv] at hz
  have i20 := kp2 hk (c0 := 256) (r0 := 20) (by decide)
  have i21 := kp2 hk (c0 := 257) (r0 := 21) (by decide)
  have i26 := kp2 hk (c0 := 262) (r0 := 26) (by decide)
  by_cases c1 : KAt s = 256
  · rw [if_pos c1, bindP_id] at hs
    rw [if_pos (i20.mp c1)] at hz
    obtain ⟨_, hz⟩ := guard_inv hz
    rw [c19] at hz
    rcases sim_wave hP hT hL c1 h19 e8 hb8.1 hb8.2 hCT.2.2.2 hCT.1 hs hz with ⟨P, L, K, G, h8, h20, h5, hOD⟩ | F
    · refine Or.inl ⟨⟨P, hT.fr K G (by decide) (by decide), L, (G.1 12 (by decide)).trans h12, by rw [G.1 19 (by decide)]; exact h19, by rw [h8, h20, e8], by rw [K.1 9 (by decide), (G.2 23 (by decide)).1]; exact e9, b8, b9, ?_, ?_, hLW.keep K G (by decide) (by decide) (by omega)⟩, h5⟩
      · intro p hp
        rw [K.1 9 (by decide)] at hp
        rw [(K.2 29 (by decide)).2, (G.2 22 (by decide)).2]
        exact hNM p hp
      · have a8 : ((s.v 8) + 1).toInt = (s.v 8).toInt + 1 := tn_add rfl (by decide) (by omega) (by omega)
        refine ⟨fun j hj => hOD j (by rw [h8, a8] at hj; exact hj), fun p hp => ?_, ?_, hCT.2.2.2⟩
        · rw [K.1 9 (by decide)] at hp
          rw [(K.2 19 (by decide)).1, (K.2 20 (by decide)).1, (G.2 24 (by decide)).1, (G.2 25 (by decide)).1]
          exact hCT.2.1 p hp
        · rw [K.1 11 (by decide), (G.2 26 (by decide)).1]
          exact hCT.2.2.1
    · exact Or.inr F
  · rw [if_neg c1] at hs
    rw [if_neg (fun q => c1 (i20.mpr q))] at hz
    by_cases c2 : KAt s = 257
    · rw [if_pos c2, bindP_id] at hs
      rw [if_pos (i21.mp c2)] at hz
      obtain ⟨_, hz⟩ := guard_inv hz
      rw [c19] at hz
      rcases sim_party hP hT hL c2 h19 e9 hb9.1 hb9.2 hNM hCT.2.1 hCT.2.2.2 hs hz with ⟨P, L, K, G, h9, h23, hn, h5, hPT⟩ | F
      · exact Or.inl ⟨⟨P, hT.fr K G (by decide) (by decide), L, (G.1 12 (by decide)).trans h12, by rw [G.1 19 (by decide)]; exact h19, by rw [K.1 8 (by decide), (G.2 20 (by decide)).1]; exact e8, by rw [h9, h23, e9], b8, b9, hn, ⟨fun j hj => by rw [K.1 8 (by decide)] at hj; rw [(K.2 16 (by decide)).1, (G.2 21 (by decide)).1]; exact hCT.1 j hj, hPT, by rw [K.1 11 (by decide), (G.2 26 (by decide)).1]; exact hCT.2.2.1, hCT.2.2.2⟩, hLW.keep K G (by decide) (by decide) (by omega)⟩, h5⟩
      · exact Or.inr F
    · rw [if_neg c2] at hs
      rw [if_neg (fun q => c2 (i21.mpr q))] at hz
      by_cases c3 : KAt s = 262
      · rw [if_pos c3] at hs
        rw [if_pos (i26.mp c3)] at hz
        obtain ⟨s9, h9, hs⟩ := bindP_inv hs
        obtain ⟨r11, s10, h10, hs⟩ := bindI_inv hs
        obtain ⟨s12, d12, hs⟩ := letS_inv hs
        rw [bindP_id] at hs
        obtain ⟨z13, g13, hz⟩ := bindP_inv hz
        obtain ⟨r15, z14, g14, hz⟩ := bindI_inv hz
        obtain ⟨_, hz⟩ := guard_inv hz
        obtain ⟨z17, d17, hz⟩ := letS_inv hz
        rw [bindP_id] at hz
        obtain ⟨t, w, h1, h2, hcase⟩ := step_go hP hT c3 (by decide)
        rw [h9] at h1
        cases h1
        rw [g13] at h2
        cases h2
        rcases hcase with ⟨u1, u2, P1, l1⟩ | F
        · have K1 : FrK [11, 15, 16, 17, 18, 19] s s9 := by rw [u1]; exact FrK.rfl.sv (by decide)
          have G1 : FrR [11, 13, 14, 15, 16, 126] z z13 := by rw [u2]; exact FrR.rfl.sv (by decide)
          have T1 := hT.fr K1 G1 (by decide) (by decide)
          have a11 : (z13.v 11).toInt = (z.v 11).toInt + 1 := by rw [← P1.2.2.1, l1, hP.2.2.1]
          have L1 : LTb (z13.v 11).toInt s9 z13 := by
            refine hL.keep ?_ ?_ ?_ ?_ ?_ (by omega)
            · rw [u1]; rfl
            · rw [u1]; rfl
            · rw [u2]; rfl
            · rw [u2]; rfl
            · rw [u2]; rfl
          rcases int_step P1 T1 L1 h10 g14 with ⟨er, P5, L5, K5, G5, l5⟩ | F
          · have K12 : FrK [11, 15, 16, 17, 18, 19] s s12 := by rw [← d12]; exact (K1.trans K5 (by decide)).sv (k := 11) (by decide)
            have G17 : FrR [11, 13, 14, 15, 16, 126] z z17 := by rw [← d17]; exact (G1.trans G5 (by decide)).sf (k := 26) (by decide)
            have P12 : PR2 N s12 z17 := by rw [← d12, ← d17]; exact P5.keep rfl rfl rfl rfl
            have L12 : LTb (z17.v 11).toInt s12 z17 := by rw [← d12, ← d17]; exact L5.keep rfl rfl rfl rfl rfl (Int.le_refl _)
            have l12 : (s12.v 15).toInt = (s10.v 15).toInt := by rw [← d12]; rfl
            have T12 := hT.fr K12 G17 (by decide) (by decide)
            obtain ⟨t, w, h1, h2, hcase⟩ := step2 (c := 59) (r := 4) P12 T12 (by decide) (by decide)
            rw [hs] at h1
            cases h1
            rw [hz] at h2
            cases h2
            rcases hcase with ⟨_, u3, u4, P14, l14⟩ | ⟨F, _, _⟩
            · have K : FrK [11, 15, 16, 17, 18, 19] s s' := by rw [u3]; exact K12.sv (k := 15) (by decide)
              have G : FrR [11, 13, 14, 15, 16, 126] z out := by rw [u4]; exact G17.sv (k := 11) (by decide)
              have o11 : (out.v 11).toInt = (z17.v 11).toInt + 1 := by rw [← P14.2.2.1, l14, P12.2.2.1]
              refine Or.inl ⟨⟨P14, hT.fr K G (by decide) (by decide), ?_, (G.1 12 (by decide)).trans h12, by rw [G.1 19 (by decide)]; exact h19, by rw [K.1 8 (by decide), (G.2 20 (by decide)).1]; exact e8, by rw [K.1 9 (by decide), (G.2 23 (by decide)).1]; exact e9, b8, b9, ?_, ?_, hLW.keep K G (by decide) (by decide) (by omega)⟩, by omega⟩
              · refine L12.keep ?_ ?_ ?_ ?_ ?_ (by omega)
                · rw [u3]; rfl
                · rw [u3]; rfl
                · rw [u4]; rfl
                · rw [u4]; rfl
                · rw [u4]; rfl
              · intro p hp
                rw [K.1 9 (by decide)] at hp
                rw [(K.2 29 (by decide)).2, (G.2 22 (by decide)).2]
                exact hNM p hp
              · refine ⟨fun j hj => ?_, fun p hp => ?_, ?_, hCT.2.2.2⟩
                · rw [K.1 8 (by decide)] at hj
                  rw [(K.2 16 (by decide)).1, (G.2 21 (by decide)).1]
                  exact hCT.1 j hj
                · rw [K.1 9 (by decide)] at hp
                  rw [(K.2 19 (by decide)).1, (K.2 20 (by decide)).1, (G.2 24 (by decide)).1, (G.2 25 (by decide)).1]
                  exact hCT.2.1 p hp
                · have c13 : (z13.v 19).toNatClampNeg = sd := by rw [u2]; exact clamp_of_int h19
                  rw [u3, u4]
                  show s12.v 11 = z17.f 26 sd
                  rw [← d12, ← d17, c13, rsf_get]
                  exact er
            · exact Or.inr F
          · have k12 : Sk (s10.v 16) (s10.v 17) s12 := by rw [← d12]; exact ⟨rfl, rfl⟩
            have q17 : Sz (z14.v 13) (z14.v 14) z17 := by rw [← d17]; exact ⟨rfl, rfl⟩
            exact Or.inr ((F.sk (sk_take F.ne _ k12 _ hs)).sz (sz_must F.1 _ q17 _ hz))
        · have k9 : Sk (s9.v 16) (s9.v 17) s9 := ⟨rfl, rfl⟩
          have q13 : Sz (z13.v 13) (z13.v 14) z13 := ⟨rfl, rfl⟩
          have k10 : Sk (s9.v 16) (s9.v 17) s10 := sk_takeInt F.ne _ k9 _ h10
          have q14 : Sz (z13.v 13) (z13.v 14) z14 := sz_bounded F.1 _ q13 _ g14
          have k12 : Sk (s9.v 16) (s9.v 17) s12 := by rw [← d12]; exact k10
          have q17 : Sz (z13.v 13) (z13.v 14) z17 := by rw [← d17]; exact q14
          exact Or.inr ((F.sk (sk_take F.ne _ k12 _ hs)).sz (sz_must F.1 _ q17 _ hz))
      · rw [if_neg c3] at hs
        rw [if_neg (fun q => c3 (i26.mpr q)), if_pos hP.zv] at hz
        obtain ⟨p, hp, ep1, ep2⟩ := id hk
        have hlaw := kpl_law p hp
        have hlawn := kpl_lawn p hp
        rw [← ep1] at hlaw hlawn
        rw [← ep2] at hlaw hlawn
        by_cases cl : ¬ (KAt s - 258 < 0) ∧ ¬ (4 ≤ KAt s - 258)
        · have zl := hlaw.mp cl
          have cn := hlawn cl
          rw [if_neg cl.1, if_neg cl.2] at hs
          rw [if_neg zl.1, if_pos hP.zv, if_pos zl.2] at hz
          obtain ⟨s7, h7, hs⟩ := bindP_inv hs
          rw [bindP_id] at hs
          unfold r_tellOne_165 at hz
          have q0 : z.v 13 ≤ 0 := by rw [hP.2.1]; decide
          rw [if_pos q0] at hz
          obtain ⟨z2, g2, hz⟩ := bindP_inv hz
          rw [bindP_id] at hz
          obtain ⟨t, w, h1, h2, hcase⟩ := step_go hP hT (c := KAt s) rfl cn.2
          rw [h7] at h1
          cases h1
          rw [g2] at h2
          cases h2
          rw [cn.1] at hs
          rcases hcase with ⟨u1, u2, P1, l1⟩ | F
          · have K1 : FrK WLK s s7 := by rw [u1]; exact FrK.rfl.sv (by decide)
            have G1 : FrR WLZ z z2 := by rw [u2]; exact FrR.rfl.sv (by decide)
            have T1 := hT.fr K1 G1 (by decide) (by decide)
            have v12 : z2.v 12 = 0 := by rw [u2]; exact h12
            have x0 := tn_nlt (b := 0) rfl (by decide) zl.1
            have x4 : (ZAt z - 22).toInt < 4 := tn_nle (x := 4) (y := ZAt z - 22) (a := 4) (by decide) rfl (by rw [← cn.1]; exact cl.2)
            obtain ⟨nc, hnc⟩ : ∃ n : Nat, (ZAt z - 22).toInt = (n : Int) := ⟨(ZAt z - 22).toInt.toNat, by omega⟩
            have hL7 : LAW sd s7 z2 := by
              rw [u1, u2]
              refine hLW.keep (FrK.rfl.sv (W := [15]) (k := 15) (by decide)) (FrR.rfl.sv (W := [11]) (k := 11) (by decide)) (by decide) (by decide) ?_
              rw [u1] at l1
              have l1 : ((kad s).v 15).toInt = (s.v 15).toInt + 1 := l1
              show (s.v 15).toInt ≤ ((kad s).v 15).toInt
              omega
            have e29 : (z2.v 29).toInt.toNat = (z2.v 29).toNatClampNeg := Int32.toNat_toInt _
            have p29 := hL7.2.2.1
            have h19' : (z2.v 19).toInt = (sd : Int) := by rw [u2]; exact h19
            rcases sim_law (cl := nc) (b0 := (z2.v 29).toNatClampNeg) (sd := sd) (lo := ((420 * sd : Nat) : Int)) hL7.1 (by omega) hnc (by omega) hL7.2.1 h19' hCT.2.2.2 P1 T1 v12 hs hz with ⟨P5, K5, G5, v5, l5, E5⟩ | F
            · have K := K1.trans K5 (by decide)
              have G := G1.trans G5 (by decide)
              have o11 : (z.v 11).toInt ≤ (out.v 11).toInt := by
                rw [← P5.2.2.1, ← hP.2.2.1]
                omega
              refine Or.inl ⟨⟨P5, hT.fr K G (by decide) (by decide), hL.keep (K.1 18 (by decide)) (K.1 19 (by decide)) (G.1 15 (by decide)) (G.1 16 (by decide)) (G.2 6 (by decide)).1 o11, v5, by rw [G.1 19 (by decide)]; exact h19, by rw [K.1 8 (by decide), (G.2 20 (by decide)).1]; exact e8, by rw [K.1 9 (by decide), (G.2 23 (by decide)).1]; exact e9, b8, b9, ?_, hCT.keep (K.1 8 (by decide)) (K.1 9 (by decide)) (K.1 11 (by decide)) (K.2 16 (by decide)).1 (K.2 19 (by decide)).1 (K.2 20 (by decide)).1 (G.2 21 (by decide)).1 (G.2 24 (by decide)).1 (G.2 25 (by decide)).1 (G.2 26 (by decide)).1, hL7.law rfl (by omega) E5⟩, by omega⟩
              intro p hp
              rw [K.1 9 (by decide)] at hp
              rw [(K.2 29 (by decide)).2, (G.2 22 (by decide)).2]
              exact hNM p hp
            · exact Or.inr F
          · -- the law's word had no room
            have k7 : Sk (s7.v 16) (s7.v 17) s7 := ⟨rfl, rfl⟩
            have q2 : Sz (z2.v 13) (z2.v 14) z2 := ⟨rfl, rfl⟩
            unfold kX4_readLaw at hs
            obtain ⟨t1, j1, hs⟩ := bindP_inv hs
            obtain ⟨t2, j2, hs⟩ := bindP_inv hs
            unfold r_tellLaw at hz
            obtain ⟨w1, j3, hz⟩ := bindP_inv hz
            exact Or.inr ((F.sk (sk_readLaw_19L F.ne fu _ (sk_begin _ (sk_take F.ne _ k7 _ j1) _ j2) _ hs)).sz (sz_law_12L F.1 fu _ _ _ (sz_must F.1 _ q2 _ j3) _ hz))
        · have hs : kX4_readTell_106 s = some s' := by
            by_cases q1 : KAt s - 258 < 0
            · rw [if_pos q1] at hs; exact hs
            · by_cases q2 : 4 ≤ KAt s - 258
              · rw [if_neg q1, if_pos q2] at hs; exact hs
              · exact absurd ⟨q1, q2⟩ cl
          have hz : ∃ x, r_tellOne_160 z x = some out := by
            by_cases q1 : ZAt z - 22 < 0
            · rw [if_pos q1] at hz; exact ⟨_, hz⟩
            · by_cases q2 : ZAt z ≤ 25
              · exact absurd (hlaw.mpr ⟨q1, q2⟩) cl
              · rw [if_neg q1, if_pos hP.zv, if_neg q2] at hz; exact ⟨_, hz⟩
          obtain ⟨x, hz⟩ := hz
          unfold kX4_readTell_106 at hs
          rw [kfail_eq hP.1 hP.kv, bindP_some] at hs
          cases hs
          unfold r_tellOne_160 r_tellOne_165 at hz
          have n1 : ¬ (zfl z 1).v 13 ≤ 0 := by show ¬ (1 : Int32) ≤ 0; decide
          rw [zfail_eq hP.2.1 hP.zv, bindP_some, if_neg n1] at hz
          cases hz
          exact Or.inr (hP.fail hT 1 (by decide))
end
section
/-! ===== the text is cut: two ways of it ===== -/
noncomputable def TX (s : KS) (z : RS) : Prop := s.v 0 = z.v 4 ∧ 0 ≤ (s.v 0).toInt ∧ (s.v 0).toInt ≤ 2000 ∧ ∀ i : Nat, (i : Int) < (s.v 0).toInt → (s.f 1 i) &&& 255 = (z.f 3 i) &&& 255
noncomputable abbrev cb (s : KS) (x : Int32) : Int32 := (s.f 1 x.toNatClampNeg) &&& 255
noncomputable def IsBl (c : Int32) : Prop := c = 9 ∨ c = 10 ∨ c = 13 ∨ c = 32
noncomputable def IsLe (c : Int32) : Prop := 97 ≤ c.toInt ∧ c.toInt ≤ 122
noncomputable def IsDi (c : Int32) : Prop := 48 ≤ c.toInt ∧ c.toInt ≤ 57
theorem and255 (x : Int32) : 0 ≤ (x &&& 255).toInt ∧ (x &&& 255).toInt ≤ 255 := by
  have h : (x &&& 255).toBitVec.toNat ≤ 255 := by
    show (x.toBitVec &&& 255#32).toNat ≤ 255
    rw [BitVec.toNat_and]
    exact Nat.and_le_right
  have e : (x &&& 255).toInt = ((x &&& 255).toBitVec.toNat : Int) := by
    show (x &&& 255).toBitVec.toInt = _
    rw [BitVec.toInt_eq_toNat_of_lt (by omega)]
  omega
theorem clampI {x : Int32} (h : 0 ≤ x.toInt) : (x.toNatClampNeg : Int) = x.toInt := by
  have e : x.toInt.toNat = x.toNatClampNeg := Int32.toNat_toInt _
  omega
theorem kb_in {s : KS} {z : RS} {x : Int32} (hT : TX s z) (h0 : 0 ≤ x.toInt) (hl : x.toInt < (s.v 0).toInt) : kX7_byteAt s x = some (cb s x, s) := by
  have h2 := hT.2.2.1
  unfold kX7_byteAt
  have n1 : ¬ x < 0 := fun q => by
    have := tn_lt (b := 0) rfl (by decide) q
    omega
  have n2 : ¬ s.v 0 ≤ x := fun q => by
    have := ti_le q
    omega
  rw [if_neg n1, if_neg n2]
  exact if_pos (vpb_ok h0 (by omega))
theorem kb_out {s : KS} {x : Int32} (h0 : 0 ≤ x.toInt) (hl : (s.v 0).toInt ≤ x.toInt) : kX7_byteAt s x = some (-1, s) := by
  unfold kX7_byteAt
  have n1 : ¬ x < 0 := fun q => by
    have := tn_lt (b := 0) rfl (by decide) q
    omega
  have n2 : s.v 0 ≤ x := Int32.le_iff_toInt_le.mpr hl
  rw [if_neg n1]
  exact if_pos n2
theorem zb_in {s : KS} {z : RS} {x : Int32} (hT : TX s z) (h0 : 0 ≤ x.toInt) (hl : x.toInt < (s.v 0).toInt) : r_byteAt z x = some (cb s x, z) := by
  have h2 := hT.2.2.1
  unfold r_byteAt
  have n2 : ¬ z.v 4 ≤ x := fun q => by
    have := ti_le q
    rw [← hT.1] at this
    omega
  rw [if_neg n2, if_pos (vpb_ok h0 (by omega))]
  have e := hT.2.2.2 x.toNatClampNeg (by rw [clampI h0]; exact hl)
  show some (((z.f 3 x.toNatClampNeg) &&& 255), z) = some ((s.f 1 x.toNatClampNeg) &&& 255, z)
  rw [e]
theorem zb_out {s : KS} {z : RS} {x : Int32} (hT : TX s z) (hl : (s.v 0).toInt ≤ x.toInt) : r_byteAt z x = some (0, z) := by
  unfold r_byteAt
  have n2 : z.v 4 ≤ x := by
    rw [← hT.1]
    exact Int32.le_iff_toInt_le.mpr hl
  exact if_pos n2
theorem kle_yes {c : Int32} (h : IsLe c) : kX9_isLetter c = some 1 ∧ r_isLetter c = some 1 := by
  have h1 := h.1
  have h2 := h.2
  have n1 : ¬ c < 97 := fun q => by
    have := tn_lt (b := 97) rfl (by decide) q
    omega
  have n2 : ¬ 122 < c := fun q => by
    have := tn_lt (a := 122) (by decide) rfl q
    omega
  unfold kX9_isLetter r_isLetter
  rw [if_neg n1, if_neg n2]
  exact ⟨rfl, rfl⟩
theorem kle_no {c : Int32} (h : ¬ IsLe c) : kX9_isLetter c = some 0 ∧ r_isLetter c = some 0 := by
  unfold kX9_isLetter r_isLetter
  by_cases n1 : c < 97
  · rw [if_pos n1]
    exact ⟨rfl, rfl⟩
  · have q1 := tn_nlt (b := 97) rfl (by decide) n1
    have n2 : 122 < c := Int32.lt_iff_toInt_lt.mpr (by
      rw [show (122 : Int32).toInt = 122 from by decide]
      unfold IsLe at h
      omega)
    rw [if_neg n1, if_pos n2]
    exact ⟨rfl, rfl⟩
theorem kdi_yes {c : Int32} (h : IsDi c) : kX9_isDigit c = some 1 ∧ r_isDigit c = some 1 := by
  have h1 := h.1
  have h2 := h.2
  have n1 : ¬ c < 48 := fun q => by
    have := tn_lt (b := 48) rfl (by decide) q
    omega
  have n2 : ¬ 57 < c := fun q => by
    have := tn_lt (a := 57) (by decide) rfl q
    omega
  unfold kX9_isDigit r_isDigit
  rw [if_neg n1, if_neg n2]
  exact ⟨rfl, rfl⟩
theorem kdi_no {c : Int32} (h : ¬ IsDi c) : kX9_isDigit c = some 0 ∧ r_isDigit c = some 0 := by
  unfold kX9_isDigit r_isDigit
  by_cases n1 : c < 48
  · rw [if_pos n1]
    exact ⟨rfl, rfl⟩
  · have q1 := tn_nlt (b := 48) rfl (by decide) n1
    have n2 : 57 < c := Int32.lt_iff_toInt_lt.mpr (by
      rw [show (57 : Int32).toInt = 57 from by decide]
      unfold IsDi at h
      omega)
    rw [if_neg n1, if_pos n2]
    exact ⟨rfl, rfl⟩
theorem kbl_yes {c : Int32} (h : IsBl c) : kX9_isBlank c = some 1 := by
  unfold kX9_isBlank
  rcases h with h | h | h | h <;> (rw [h]; decide)
theorem kbl_no {c : Int32} (h : ¬ IsBl c) : kX9_isBlank c = some 0 := by
  unfold kX9_isBlank
  rw [if_neg (fun q => h (Or.inl q)), if_neg (fun q => h (Or.inr (Or.inl q))), if_neg (fun q => h (Or.inr (Or.inr (Or.inl q)))), if_neg (fun q => h (Or.inr (Or.inr (Or.inr q))))]
/-- the reference writes a token down -/
noncomputable def ztok (z : RS) (kd pl v : Int32) (nm : Int64) : RS := ((((z.sf 5 (z.v 10).toNatClampNeg kd).sf 6 (z.v 10).toNatClampNeg pl).sf 7 (z.v 10).toNatClampNeg v).sg 8 (z.v 10).toNatClampNeg nm).sv 10 ((z.v 10) + 1)
theorem ztok_eq {z : RS} {kd pl v : Int32} {nm : Int64} (hv : vpb (z.v 10) 403 = true) : r_token z kd pl v nm = some (ztok z kd pl v nm) := by
  have e : r_token z kd pl v nm = (if vpb (z.v 10) 403 then (if vpb (z.v 10) 403 then (if vpb (z.v 10) 403 then (if vpb (z.v 10) 403 then some (ztok z kd pl v nm) else none) else none) else none) else none) := rfl
  rw [e, if_pos hv, if_pos hv, if_pos hv, if_pos hv]
theorem v10_ok {z : RS} (h0 : 0 ≤ (z.v 10).toInt) (h : ¬ 400 < z.v 10) : vpb (z.v 10) 403 = true := by
  have := tn_nlt (a := 400) (by decide) rfl h
  exact vpb_ok h0 (by omega)
/-! blanks -/
theorem blanks {z out : RS} (hz10 : ¬ 400 < z.v 10) : ∀ (n m : Nat) (s s1 : KS), TX s z → 0 ≤ (s.v 20).toInt → (s.v 20).toInt ≤ (s.v 0).toInt → kX9_skipBlanks_0L n s = some s1 → r_cut_7L m z (s.v 20) = some out →
    ∃ m', r_cut_7L m' z (s1.v 20) = some out ∧ FrK [20] s s1 ∧ (s.v 20).toInt ≤ (s1.v 20).toInt ∧ (s1.v 20).toInt ≤ (s.v 0).toInt ∧ ((s1.v 20).toInt = (s.v 0).toInt ∨ ¬ IsBl (cb s1 (s1.v 20))) := by
  intro n
  induction n with
  | zero => intro m s s1 _ _ _ h; exact none_ne h
  | succ n ih =>
    intro m s s1 hT h0 hl hs hz
    have hs : kX9_skipBlanks_0 (kX9_skipBlanks_0L n) s = some s1 := hs
    have h2 := hT.2.2.1
    unfold kX9_skipBlanks_0 at hs
    by_cases c : s.v 0 ≤ s.v 20
    · have c' := ti_le c
      rw [if_pos c] at hs
      cases hs
      exact ⟨m, hz, FrK.rfl, Int.le_refl _, hl, Or.inl (by omega)⟩
    · have c' := ti_nle c
      rw [if_neg c, kb_in hT h0 c', bindI_some] at hs
      by_cases b : IsBl (cb s (s.v 20))
      · rw [kbl_yes b, bindP_some, if_neg z_one] at hs
        have a : ((s.v 20) + 1).toInt = (s.v 20).toInt + 1 := tn_add rfl (by decide) (by omega) (by omega)
        cases m with
        | zero => exact none_ne hz
        | succ m =>
        have hz : r_cut_7 (r_cut_7L m) z (s.v 20) = some out := hz
        unfold r_cut_7 at hz
        have c4 : s.v 20 < z.v 4 := by
          rw [← hT.1]
          exact Int32.lt_iff_toInt_lt.mpr c'
        rw [if_neg hz10, zb_in hT h0 c', bindI_some, if_pos c4] at hz
        have hz : r_cut_7L m z ((s.v 20) + 1) = some out := by
          unfold r_cut_67 r_cut_291 at hz
          by_cases q1 : cb s (s.v 20) = 9
          · rw [if_pos q1] at hz; exact hz
          · rw [if_neg q1] at hz
            by_cases q2 : cb s (s.v 20) = 10
            · rw [if_pos q2] at hz; exact hz
            · rw [if_neg q2] at hz
              by_cases q3 : cb s (s.v 20) = 13
              · rw [if_pos q3] at hz; exact hz
              · rw [if_neg q3] at hz
                by_cases q4 : cb s (s.v 20) = 32
                · rw [if_pos q4] at hz; exact hz
                · rcases b with b | b | b | b
                  · exact absurd b q1
                  · exact absurd b q2
                  · exact absurd b q3
                  · exact absurd b q4
        obtain ⟨t, et, hs⟩ := letS_inv hs
        have v20 : t.v 20 = (s.v 20) + 1 := by rw [← et]; rfl
        have v0 : t.v 0 = s.v 0 := by rw [← et]; rfl
        have Tt : TX t z := by rw [← et]; exact hT
        have Kt : FrK [20] s t := by rw [← et]; exact FrK.rfl.sv (by decide)
        obtain ⟨m', e1, e2, e3, e4, e5⟩ := ih m t s1 Tt (by rw [v20]; omega) (by rw [v20, v0]; omega) hs (by rw [v20]; exact hz)
        rw [v0] at e4 e5
        rw [v20] at e3
        exact ⟨m', e1, Kt.trans e2 (by decide), by omega, e4, e5⟩
      · rw [kbl_no b, bindP_some, if_pos rfl] at hs
        cases hs
        exact ⟨m, hz, FrK.rfl, Int.le_refl _, hl, Or.inr b⟩
/-! letters -/
theorem shl5 {u : Int64} (h0 : 0 ≤ u.toInt) (h : u.toInt < 2 ^ 40) : (lshlf u 5).toInt = u.toInt * 2 ^ 5 := by
  have e1 : ((5 : Int32).toInt64 &&& 63 : Int64) = 5 := by decide
  show (u <<< ((5 : Int32).toInt64 &&& 63)).toInt = _
  rw [e1]
  have eb : (u <<< (5 : Int64)).toBitVec = u.toBitVec <<< 5 := rfl
  have en := k2_nat h0
  have hn : u.toBitVec.toNat < 2 ^ 40 := by
    rw [← en] at h
    exact_mod_cast h
  have es : (u <<< (5 : Int64)).toBitVec.toNat = u.toBitVec.toNat * 2 ^ 5 := by
    rw [eb, BitVec.toNat_shiftLeft, Nat.shiftLeft_eq, Nat.mod_eq_of_lt (by omega)]
  rw [k2_int (by rw [es]; omega), es, Int.natCast_mul, en]
  rfl
theorem letter32 {u : Int64} {d : Int32} (h0 : 0 ≤ u.toInt) (h : u.toInt < 2 ^ 40) (hd1 : 1 ≤ d.toInt) (hd2 : d.toInt ≤ 26) : ((lshlf u 5) ||| (Int32.toInt64 d)).toInt = 32 * u.toInt + d.toInt := by
  have es := shl5 h0 h
  have ed : (Int32.toInt64 d).toInt = d.toInt := Int32.toInt_toInt64 d
  have := k2_or_add (x := lshlf u 5) (y := Int32.toInt64 d) (k := 5) (z := u.toInt) (by decide) h0 es (by omega) (by rw [ed]; omega) (by rw [ed]; omega)
  rw [this, es, ed]
  omega
theorem letter27 {u : Int64} {d : Int32} (h0 : 0 ≤ u.toInt) (h : u.toInt < 2 ^ 40) (hd1 : 1 ≤ d.toInt) (hd2 : d.toInt ≤ 26) : ((27 * u) + (Int32.toInt64 d)).toInt = 27 * u.toInt + d.toInt := by
  have ed : (Int32.toInt64 d).toInt = d.toInt := Int32.toInt_toInt64 d
  have e27 : (27 : Int64).toInt = 27 := by decide
  have em : (27 * u).toInt = 27 * u.toInt := by
    rw [Int64.toInt_mul, e27]
    exact Int.bmod_eq_of_le (by omega) (by omega)
  rw [Int64.toInt_add, em, ed]
  exact Int.bmod_eq_of_le (by omega) (by omega)
theorem lval_lt (b : Nat) (hb : 27 ≤ b) : ∀ l : List Nat, (∀ c ∈ l, 1 ≤ c ∧ c ≤ 26) → lval b l < b ^ l.length := by
  intro l
  induction l with
  | nil => intro _; exact Nat.one_pos
  | cons c l ih =>
    intro h
    have h1 := ih (fun q hq => h q (List.mem_cons_of_mem _ hq))
    have h2 := (h c (List.mem_cons_self ..)).2
    show b * lval b l + c < b ^ (l.length + 1)
    rw [Nat.pow_succ]
    have : b * (lval b l + 1) ≤ b * b ^ l.length := Nat.mul_le_mul_left _ h1
    rw [Nat.mul_add] at this
    rw [Nat.mul_comm (b ^ l.length) b]
    omega
/-- n letters so far -/
noncomputable def NLn (n : Int) (a b : Int64) : Prop := ∃ l : List Nat, (l.length : Int) = n ∧ (∀ c ∈ l, 1 ≤ c ∧ c ≤ 26) ∧ a.toInt = (lval 32 l : Int) ∧ b.toInt = (lval 27 l : Int)
theorem NLn.nm {n : Int} {a b : Int64} (h : NLn n a b) (hn : n ≤ 8) : NmR a b := by
  obtain ⟨l, h1, h2, h3, h4⟩ := h
  exact ⟨l, by omega, h2, h3, h4⟩
theorem NLn.step {n : Int} {a b : Int64} {c : Int32} (h : NLn n a b) (hn : n < 8) (hc : IsLe c) : NLn (n + 1) ((lshlf a 5) ||| (Int32.toInt64 ((c - 97) + 1))) ((27 * b) + (Int32.toInt64 ((c - 97) + 1))) := by
  obtain ⟨l, h1, h2, h3, h4⟩ := h
  have c1 := hc.1
  have c2 := hc.2
  have a1 : (c - 97).toInt = c.toInt - 97 := tn_sub rfl (by decide) (by omega) (by omega)
  have a2 : ((c - 97) + 1).toInt = c.toInt - 97 + 1 := tn_add a1 (by decide) (by omega) (by omega)
  have b1 := lval_lt 32 (by omega) l h2
  have b2 := lval_lt 27 (by omega) l h2
  have hl : l.length ≤ 7 := by omega
  have p1 : 32 ^ l.length ≤ 32 ^ 7 := Nat.pow_le_pow_right (by omega) hl
  have p2 : 27 ^ l.length ≤ 27 ^ 7 := Nat.pow_le_pow_right (by omega) hl
  have q1 : (32 : Nat) ^ 7 = 34359738368 := by decide
  have q2 : (27 : Nat) ^ 7 = 10460353203 := by decide
  have q3 : (2 : Int) ^ 40 = 1099511627776 := by decide
  have r1 := letter32 (u := a) (d := (c - 97) + 1) (by omega) (by rw [q3]; omega) (by omega) (by omega)
  have r2 := letter27 (u := b) (d := (c - 97) + 1) (by omega) (by rw [q3]; omega) (by omega) (by omega)
  refine ⟨(c.toInt - 96).toNat :: l, ?_, ?_, ?_, ?_⟩
  · rw [List.length_cons]; omega
  · intro q hq
    rcases List.mem_cons.mp hq with e | e
    · subst e; omega
    · exact h2 q e
  · rw [r1, h3, a2]
    show _ = ((32 * lval 32 l + (c.toInt - 96).toNat : Nat) : Int)
    omega
  · rw [r2, h4, a2]
    show _ = ((27 * lval 27 l + (c.toInt - 96).toNat : Nat) : Int)
    omega
theorem letters {z out : RS} {k7 : RS → Int32 → Option RS} {p : Int32} (hp0 : 0 ≤ p.toInt) {r : Int32} {s' : KS} : ∀ (n m : Nat) (s : KS) (x3 : Int32) (nm : Int64), TX s z → 0 ≤ x3.toInt → (s.v 20).toInt = p.toInt + x3.toInt → (s.v 20).toInt ≤ (s.v 0).toInt → (x3.toInt ≤ 8 → NLn x3.toInt (s.u 0) nm) → kX9_splitLetters_5L n s p = some (r, s') → r_cut_85L k7 m z p x3 nm = some out →
    ∃ (t : KS) (x : Int32) (nm' : Int64), kX9_splitLetters_71 t p = some (r, s') ∧ r_cut_135 k7 z p x nm' (if x ≤ 8 then 1 else 3) = some out ∧ FrK [20] s t ∧ x3.toInt ≤ x.toInt ∧ (t.v 20).toInt = p.toInt + x.toInt ∧ (t.v 20).toInt ≤ (s.v 0).toInt ∧ (x.toInt ≤ 8 → NLn x.toInt (t.u 0) nm') ∧ (IsLe (cb s (s.v 20)) → (s.v 20).toInt < (s.v 0).toInt → x3.toInt < x.toInt) := by
  intro n
  induction n with
  | zero => intro m s x3 nm _ _ _ _ _ h; exact none_ne h
  | succ n ih =>
    intro m s x3 nm hT h30 hv hl hN hs hz
    have hs : kX9_splitLetters_5 (kX9_splitLetters_5L n) s p = some (r, s') := hs
    cases m with
    | zero => exact none_ne hz
    | succ m =>
    have hz : r_cut_85 k7 (r_cut_85L k7 m) z p x3 nm = some out := hz
    have h2 := hT.2.2.1
    have a : (p + x3).toInt = p.toInt + x3.toInt := ti_add (by omega) (by omega)
    have e20 : s.v 20 = p + x3 := Int32.toInt_inj.mp (by rw [a]; exact hv)
    unfold kX9_splitLetters_5 at hs
    unfold r_cut_85 at hz
    have stop : ∀ c0, r_byteAt z (p + x3) = some (c0, z) → ¬ IsLe c0 → kX9_splitLetters_71 s p = some (r, s') → (IsLe (cb s (s.v 20)) → (s.v 20).toInt < (s.v 0).toInt → False) → ∃ (t : KS) (x : Int32) (nm' : Int64), kX9_splitLetters_71 t p = some (r, s') ∧ r_cut_135 k7 z p x nm' (if x ≤ 8 then 1 else 3) = some out ∧ FrK [20] s t ∧ x3.toInt ≤ x.toInt ∧ (t.v 20).toInt = p.toInt + x.toInt ∧ (t.v 20).toInt ≤ (s.v 0).toInt ∧ (x.toInt ≤ 8 → NLn x.toInt (t.u 0) nm') ∧ (IsLe (cb s (s.v 20)) → (s.v 20).toInt < (s.v 0).toInt → x3.toInt < x.toInt) := by
      intro c0 hb hn h71 hF
      rw [hb, bindI_some, (kle_no hn).2, bindP_some, if_pos rfl] at hz
      refine ⟨s, x3, nm, h71, ?_, FrK.rfl, Int.le_refl _, hv, hl, hN, fun q1 q2 => absurd (hF q1 q2) id⟩
      by_cases c8 : x3 ≤ 8
      · rw [if_pos c8] at hz ⊢; exact hz
      · rw [if_neg c8] at hz ⊢; exact hz
    by_cases c : s.v 0 ≤ s.v 20
    · have c' := ti_le c
      rw [if_pos c] at hs
      exact stop 0 (zb_out hT (by rw [← e20]; exact c')) (by unfold IsLe; decide) hs (fun _ q => by omega)
    · have c' := ti_nle c
      rw [if_neg c, kb_in hT (by omega) c', bindI_some] at hs
      have hb : r_byteAt z (p + x3) = some (cb s (s.v 20), z) := by rw [← e20]; exact zb_in hT (by omega) c'
      by_cases l : IsLe (cb s (s.v 20))
      · rw [(kle_yes l).1, bindP_some, if_neg z_one, kb_in hT (by omega) c', bindI_some] at hs
        unfold kX9_withLetter at hs
        rw [bindP_some] at hs
        obtain ⟨t9, e9, hs⟩ := letS_inv hs
        obtain ⟨t, et, hs⟩ := letS_inv hs
        rw [hb, bindI_some, (kle_yes l).2, bindP_some, if_neg z_one] at hz
        have a3 : (x3 + 1).toInt = x3.toInt + 1 := tn_add rfl (by decide) (by omega) (by omega)
        have a20 : ((s.v 20) + 1).toInt = (s.v 20).toInt + 1 := tn_add rfl (by decide) (by omega) (by omega)
        have v20 : t.v 20 = (s.v 20) + 1 := by rw [← et, ← e9]; rfl
        have v0 : t.v 0 = s.v 0 := by rw [← et, ← e9]; rfl
        have Tt : TX t z := by rw [← et, ← e9]; exact hT
        have Kt : FrK [20] s t := by rw [← et, ← e9]; exact (FrK.rfl.su).sv (by decide)
        have u0 : t.u 0 = (lshlf (s.u 0) 5) ||| (Int32.toInt64 ((cb s (s.v 20) - 97) + 1)) := by rw [← et, ← e9]; rfl
        have nxt : ∃ nm2, r_cut_85L k7 m z p (x3 + 1) nm2 = some out ∧ (x3.toInt + 1 ≤ 8 → NLn (x3.toInt + 1) (t.u 0) nm2) := by
          unfold r_cut_118 at hz
          by_cases c8 : 8 ≤ x3
          · have c8' := tn_le (a := 8) (by decide) rfl c8
            rw [if_pos c8] at hz
            exact ⟨_, hz, fun q => by omega⟩
          · have c8' := tn_nle (a := 8) (by decide) rfl c8
            rw [if_neg c8, hb, bindI_some] at hz
            unfold r_appends at hz
            have nz : ¬ cb s (s.v 20) = 0 := fun q => by
              have := l.1
              rw [q] at this
              exact absurd this (by decide)
            rw [if_neg nz, bindP_some] at hz
            refine ⟨_, hz, fun _ => ?_⟩
            rw [u0]
            exact (hN (by omega)).step (by omega) l
        obtain ⟨nm2, hz, hN2⟩ := nxt
        obtain ⟨t', x, nm', f1, f2, f3, f4, f5, f6, f7, _⟩ := ih m t (x3 + 1) nm2 Tt (by omega) (by rw [v20, a20]; omega) (by rw [v20, v0, a20]; omega) (by rw [a3]; exact hN2) hs hz
        rw [v0] at f6
        exact ⟨t', x, nm', f1, f2, Kt.trans f3 (by decide), by omega, f5, f6, f7, fun _ _ => by omega⟩
      · rw [(kle_no l).1, bindP_some, if_pos rfl] at hs
        exact stop _ hb l hs (fun q _ => l q)
end
