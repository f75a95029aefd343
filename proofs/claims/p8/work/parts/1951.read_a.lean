/-! ===== two programs beside each other: what is said of an end that is given ===== -/
def Pt {α : Type} (o : Option α) (Q : α → Prop) : Prop := ∀ y, o = some y → Q y
theorem pt_some {α : Type} {y : α} {Q : α → Prop} (h : Q y) : Pt (some y) Q := fun z e => by cases e; exact h
theorem pt_none {α : Type} {Q : α → Prop} : Pt (none : Option α) Q := fun z e => by cases e
theorem pt_ite {α : Type} {c : Prop} [Decidable c] {A B : Option α} {Q : α → Prop} (h1 : c → Pt A Q) (h2 : ¬ c → Pt B Q) : Pt (if c then A else B) Q := by
  by_cases h : c
  · rw [if_pos h]; exact h1 h
  · rw [if_neg h]; exact h2 h
theorem pt_let {σ α : Type} {S : σ} {k : σ → Option α} {P : σ → Prop} {Q : α → Prop} (hp : P S) (h : ∀ s, P s → Pt (k s) Q) : Pt (letS S k) Q := h S hp
theorem pt_bindI {σ α : Type} {o : Option (Int32 × σ)} {k : Int32 → σ → Option α} {P : Int32 × σ → Prop} {Q : α → Prop} (h : Pt o P) (hk : ∀ r s, P (r, s) → Pt (k r s) Q) : Pt (bindI o k) Q := fun y e => by
  obtain ⟨r, s, e1, e2⟩ := bindI_inv e
  exact hk r s (h _ e1) y e2
theorem pt_bindP {τ α : Type} {o : Option τ} {k : τ → Option α} {P : τ → Prop} {Q : α → Prop} (h : Pt o P) (hk : ∀ r, P r → Pt (k r) Q) : Pt (bindP o k) Q := fun y e => by
  obtain ⟨r, e1, e2⟩ := bindP_inv e
  exact hk r (h _ e1) y e2
theorem bindP_id {α : Type} (o : Option α) : (bindP o fun s => some s) = o := by
  cases o <;> rfl
/-- a kind of the class, and the reference's for it -/
def kpl : List (Int32 × Int32) := [(256, 20), (257, 21), (258, 22), (259, 23), (260, 24), (261, 25), (262, 26), (263, 27), (264, 28), (265, 29), (266, 30), (267, 31), (268, 32), (269, 33), (270, 34), (271, 35), (272, 36), (273, 37), (274, 38), (300, 1), (301, 2), (302, 0), (303, 3), (59, 4), (61, 5), (40, 6), (41, 7), (43, 8), (45, 9), (42, 10), (60, 13), (47, 15)]
def KP (c r : Int32) : Prop := ∃ p, p ∈ kpl ∧ c = p.1 ∧ r = p.2
theorem kpl_inj : ∀ p ∈ kpl, ∀ q ∈ kpl, (p.1 = q.1 ↔ p.2 = q.2) := by decide +kernel
theorem kpl_var : ∀ p ∈ kpl, ((¬ (p.1 - 266 < 0) ∧ ¬ (9 ≤ p.1 - 266)) ↔ (¬ p.2 < 30 ∧ ¬ 38 < p.2)) := by decide +kernel
theorem kpl_law : ∀ p ∈ kpl, ((¬ (p.1 - 258 < 0) ∧ ¬ (4 ≤ p.1 - 258)) ↔ (¬ (p.2 - 22 < 0) ∧ p.2 ≤ 25)) := by decide +kernel
theorem kpl_lawn : ∀ p ∈ kpl, (¬ (p.1 - 258 < 0) ∧ ¬ (4 ≤ p.1 - 258)) → (p.1 - 258 = p.2 - 22 ∧ ¬ p.1 = 302 ∧ ¬ p.1 = 303) := by decide +kernel
theorem kpl_varn : ∀ p ∈ kpl, (¬ (p.1 - 266 < 0) ∧ ¬ (9 ≤ p.1 - 266)) → (¬ p.1 = 302 ∧ ¬ p.1 = 303) := by decide +kernel
theorem kp2 {c r c0 r0 : Int32} (h : KP c r) (h0 : ((c0, r0) : Int32 × Int32) ∈ kpl) : c = c0 ↔ r = r0 := by
  obtain ⟨p, hp, rfl, rfl⟩ := h
  exact kpl_inj p hp (c0, r0) h0
abbrev KAt (s : KS) : Int32 := s.f 32 (s.v 15).toNatClampNeg
abbrev ZAt (z : RS) : Int32 := z.f 5 (z.v 11).toNatClampNeg
def kfl (s : KS) (x : Int32) : KS := (s.sv 16 x).sv 17 (s.f 33 (s.v 15).toNatClampNeg)
def zfl (z : RS) (x : Int32) : RS := (z.sv 13 x).sv 14 (z.f 6 (z.v 11).toNatClampNeg)
def kad (s : KS) : KS := s.sv 15 ((s.v 15) + 1)
def zad (z : RS) : RS := z.sv 11 ((z.v 11) + 1)
theorem kat_yes {s : KS} {x : Int32} (h : s.v 16 = 0) (hv : vpb (s.v 15) 401 = true) (c : KAt s = x) : kX4_isAt s x = some (1, s) := by
  unfold kX4_isAt
  rw [if_pos h, if_pos hv]
  exact if_pos c
theorem kat_no {s : KS} {x : Int32} (h : s.v 16 = 0) (hv : vpb (s.v 15) 401 = true) (c : ¬ KAt s = x) : kX4_isAt s x = some (0, s) := by
  unfold kX4_isAt
  rw [if_pos h, if_pos hv]
  exact if_neg c
theorem kat_off {s : KS} {x : Int32} (h : ¬ s.v 16 = 0) : kX4_isAt s x = some (0, s) := by
  unfold kX4_isAt
  exact if_neg h
theorem kfail_eq {s : KS} {x : Int32} (h : s.v 16 = 0) (hv : vpb (s.v 15) 401 = true) : kX4_fail s x = some (kfl s x) := by
  unfold kX4_fail
  rw [if_pos h]
  exact if_pos hv
theorem kfail_off {s : KS} {x : Int32} (h : ¬ s.v 16 = 0) : kX4_fail s x = some s := by
  unfold kX4_fail
  exact if_neg h
theorem ktake_yes {s : KS} {x : Int32} (h : s.v 16 = 0) (hv : vpb (s.v 15) 401 = true) (c : KAt s = x) (hl : s.v 15 < 400) : kX4_take s x = some (kad s) := by
  unfold kX4_take
  rw [kat_yes h hv c, bindI_some, if_neg z_one, if_pos hl]
  rfl
theorem ktake_room {s : KS} {x : Int32} (h : s.v 16 = 0) (hv : vpb (s.v 15) 401 = true) (c : KAt s = x) (hl : ¬ s.v 15 < 400) : kX4_take s x = some (kfl s 2) := by
  unfold kX4_take
  rw [kat_yes h hv c, bindI_some, if_neg z_one, if_neg hl, kfail_eq h hv]
  rfl
theorem ktake_no {s : KS} {x : Int32} (h : s.v 16 = 0) (hv : vpb (s.v 15) 401 = true) (c : ¬ KAt s = x) : kX4_take s x = some (kfl s 1) := by
  unfold kX4_take
  rw [kat_no h hv c, bindI_some, if_pos rfl, kfail_eq h hv]
  rfl
theorem ktake_off {s : KS} {x : Int32} (h : ¬ s.v 16 = 0) : kX4_take s x = some s := by
  unfold kX4_take
  rw [kat_off h, bindI_some, if_pos rfl, kfail_off h]
  rfl
theorem zis_yes {z : RS} {x : Int32} (h : z.v 13 = 0) (hv : vpb (z.v 11) 403 = true) (c : ZAt z = x) : r_is z x = some (1, z) := by
  unfold r_is
  rw [if_pos h, if_pos hv]
  exact if_pos c
theorem zis_no {z : RS} {x : Int32} (h : z.v 13 = 0) (hv : vpb (z.v 11) 403 = true) (c : ¬ ZAt z = x) : r_is z x = some (0, z) := by
  unfold r_is
  rw [if_pos h, if_pos hv]
  exact if_neg c
theorem zis_off {z : RS} {x : Int32} (h : ¬ z.v 13 = 0) : r_is z x = some (0, z) := by
  unfold r_is
  exact if_neg h
theorem zfail_eq {z : RS} {x : Int32} (h : z.v 13 = 0) (hv : vpb (z.v 11) 403 = true) : r_fail z x = some (zfl z x) := by
  have q : z.v 13 ≤ 0 := by rw [h]; decide
  unfold r_fail
  rw [if_pos q]
  exact if_pos hv
theorem zfail_off {z : RS} {x : Int32} (h : 0 < (z.v 13).toInt) : r_fail z x = some z := by
  have q : ¬ z.v 13 ≤ 0 := fun c => by
    have := tn_le (b := 0) rfl (by decide) c
    omega
  unfold r_fail
  exact if_neg q
theorem zgo_ok {z : RS} (c : ¬ z.v 11 = 400) : r_goesOn z = some (zad z) := by
  unfold r_goesOn
  rw [if_neg c]
  rfl
theorem zgo_room {z : RS} (h : z.v 13 = 0) (hv : vpb (z.v 11) 403 = true) (c : z.v 11 = 400) : r_goesOn z = some (zfl z 2) := by
  unfold r_goesOn
  rw [if_pos c, zfail_eq h hv]
  rfl
theorem zmust_yes {z : RS} {x : Int32} (h : z.v 13 = 0) (hv : vpb (z.v 11) 403 = true) (c : ZAt z = x) : r_must z x = r_goesOn z := by
  unfold r_must
  rw [zis_yes h hv c, bindI_some, if_neg z_one]
  exact bindP_id _
theorem zmust_no {z : RS} {x : Int32} (h : z.v 13 = 0) (hv : vpb (z.v 11) 403 = true) (c : ¬ ZAt z = x) : r_must z x = some (zfl z 1) := by
  unfold r_must
  rw [zis_no h hv c, bindI_some, if_pos rfl, zfail_eq h hv]
  rfl
/-! the names: the same letters, by 32 and by 27 -/
def lval (b : Nat) : List Nat → Nat
  | [] => 0
  | c :: l => b * lval b l + c
def NmR (a b : Int64) : Prop := ∃ l : List Nat, l.length ≤ 8 ∧ (∀ c ∈ l, 1 ≤ c ∧ c ≤ 26) ∧ a.toInt = (lval 32 l : Int) ∧ b.toInt = (lval 27 l : Int)
theorem lval_inj (b : Nat) (hb : 27 ≤ b) : ∀ (l l' : List Nat), (∀ c ∈ l, 1 ≤ c ∧ c ≤ 26) → (∀ c ∈ l', 1 ≤ c ∧ c ≤ 26) → lval b l = lval b l' → l = l' := by
  intro l
  induction l with
  | nil =>
    intro l' _ h' e
    cases l' with
    | nil => rfl
    | cons c l' =>
      have := (h' c (List.mem_cons_self ..)).1
      have e : 0 = b * lval b l' + c := e
      omega
  | cons d l ih =>
    intro l' h h' e
    have hd := h d (List.mem_cons_self ..)
    cases l' with
    | nil =>
      have e : b * lval b l + d = 0 := e
      omega
    | cons c l' =>
      have hc := h' c (List.mem_cons_self ..)
      have e : b * lval b l + d = b * lval b l' + c := e
      have m1 : (b * lval b l + d) % b = d := by rw [Nat.mul_add_mod, Nat.mod_eq_of_lt (by omega)]
      have m2 : (b * lval b l' + c) % b = c := by rw [Nat.mul_add_mod, Nat.mod_eq_of_lt (by omega)]
      have ec : d = c := by rw [← m1, e, m2]
      subst ec
      have e2 : lval b l = lval b l' := Nat.eq_of_mul_eq_mul_left (by omega : 0 < b) (by omega)
      rw [ih l' (fun q hq => h q (List.mem_cons_of_mem _ hq)) (fun q hq => h' q (List.mem_cons_of_mem _ hq)) e2]
theorem NmR.iff {a b a' b' : Int64} (h : NmR a b) (h' : NmR a' b') : a = a' ↔ b = b' := by
  obtain ⟨l, _, h2, h3, h4⟩ := h
  obtain ⟨l', _, k2, k3, k4⟩ := h'
  constructor
  · intro e
    rw [e, k3] at h3
    have q : l' = l := lval_inj 32 (by omega) _ _ k2 h2 (by omega)
    rw [q] at k4
    exact Int64.toInt_inj.mp (h4.trans k4.symm)
  · intro e
    rw [e, k4] at h4
    have q : l' = l := lval_inj 27 (by omega) _ _ k2 h2 (by omega)
    rw [q] at k3
    exact Int64.toInt_inj.mp (h3.trans k3.symm)
theorem cmp_zero {a b : Int64} : lg_cmp a b = 0 ↔ a = b := by
  unfold lg_cmp
  constructor
  · intro h
    by_cases c : a > b
    · rw [if_pos c] at h; exact absurd h z_one
    · rw [if_neg c] at h
      by_cases c2 : a = b
      · exact c2
      · rw [if_neg c2] at h; exact absurd h (by decide)
  · intro h
    subst h
    have q : ¬ a > a := fun q => by
      have := Int64.lt_iff_toInt_lt.mp q
      omega
    rw [if_neg q, if_pos rfl]
/-! the two parsers in their places, and both at fault -/
def PR2 (N : Nat) (s : KS) (z : RS) : Prop := s.v 16 = 0 ∧ z.v 13 = 0 ∧ s.v 15 = z.v 11 ∧ 0 ≤ (s.v 15).toInt ∧ (s.v 15).toInt ≤ (N : Int) ∧ N ≤ 400
def FR2 (s : KS) (z : RS) : Prop := 0 < (z.v 13).toInt ∧ s.v 16 = z.v 13 ∧ s.v 17 = z.v 14
/-- the tokens of both, up to the N-th -/
def TK2 (N : Nat) (s : KS) (z : RS) : Prop := (∀ i, i ≤ N → KP (s.f 32 i) (z.f 5 i) ∧ s.f 33 i = z.f 6 i ∧ (s.f 32 i = 301 → Int64.toInt32 (s.g 34 i) = z.f 7 i ∧ 0 ≤ (z.f 7 i).toInt ∧ (z.f 7 i).toInt ≤ 9999) ∧ (s.f 32 i = 300 → NmR (s.g 34 i) (z.g 8 i))) ∧ (N = 400 ∨ s.f 32 N = 302 ∨ s.f 32 N = 303) ∧ (∀ i j, i < j → j ≤ N → (z.f 6 i).toInt < (z.f 6 j).toInt)
theorem TK2.fr {N : Nat} {s s' : KS} {z z' : RS} {W W' : List Nat} (h : TK2 N s z) (h1 : FrK W s s') (h2 : FrR W' z z') (hW : 132 ∉ W ∧ 133 ∉ W ∧ 134 ∉ W) (hW' : 105 ∉ W' ∧ 106 ∉ W' ∧ 107 ∉ W' ∧ 108 ∉ W') : TK2 N s' z' := by
  unfold TK2
  rw [(h1.2 32 hW.1).1, (h1.2 33 hW.2.1).1, (h1.2 34 hW.2.2).2, (h2.2 5 hW'.1).1, (h2.2 6 hW'.2.1).1, (h2.2 7 hW'.2.2.1).1, (h2.2 8 hW'.2.2.2).2]
  exact h
theorem PR2.kv {N : Nat} {s : KS} {z : RS} (h : PR2 N s z) : vpb (s.v 15) 401 = true := by
  obtain ⟨_, _, _, h3, h4, h5⟩ := h
  exact vpb_ok h3 (by omega)
theorem PR2.zv {N : Nat} {s : KS} {z : RS} (h : PR2 N s z) : vpb (z.v 11) 403 = true := by
  obtain ⟨_, _, e, h3, h4, h5⟩ := h
  rw [← e]
  exact vpb_ok h3 (by omega)
theorem PR2.le {N : Nat} {s : KS} {z : RS} (h : PR2 N s z) : (s.v 15).toNatClampNeg ≤ N := by
  obtain ⟨_, _, _, h3, h4, _⟩ := h
  have e : (s.v 15).toInt.toNat = (s.v 15).toNatClampNeg := Int32.toNat_toInt _
  omega
theorem PR2.kp {N : Nat} {s : KS} {z : RS} (h : PR2 N s z) (hT : TK2 N s z) : KP (KAt s) (ZAt z) := by
  have q := (hT.1 _ h.le).1
  unfold KAt ZAt
  rw [← h.2.2.1]
  exact q
theorem PR2.fail {N : Nat} {s : KS} {z : RS} (h : PR2 N s z) (hT : TK2 N s z) (x : Int32) (hx : 0 < x.toInt) : FR2 (kfl s x) (zfl z x) := by
  have q := (hT.1 _ h.le).2.1
  refine ⟨hx, rfl, ?_⟩
  show s.f 33 (s.v 15).toNatClampNeg = z.f 6 (z.v 11).toNatClampNeg
  rw [← h.2.2.1]
  exact q
theorem PR2.lt {N : Nat} {s : KS} {z : RS} (h : PR2 N s z) (hl : ¬ s.v 15 = 400) : s.v 15 < 400 ∧ (s.v 15).toInt < 400 ∧ ¬ z.v 11 = 400 := by
  obtain ⟨_, _, e, h3, h4, h5⟩ := h
  have q := tn_ne (b := 400) rfl (by decide) hl
  refine ⟨Int32.lt_iff_toInt_lt.mpr ?_, by omega, by rw [← e]; exact hl⟩
  rw [show (400 : Int32).toInt = 400 from by decide]
  omega
theorem PR2.adv {N : Nat} {s : KS} {z : RS} (h : PR2 N s z) (hT : TK2 N s z) (h1 : ¬ KAt s = 302) (h2 : ¬ KAt s = 303) (hl : ¬ s.v 15 = 400) : PR2 N (kad s) (zad z) ∧ ((kad s).v 15).toInt = (s.v 15).toInt + 1 := by
  have hlt := (h.lt hl).2.1
  obtain ⟨e16, e13, e, h3, h4, h5⟩ := h
  have a : ((s.v 15) + 1).toInt = (s.v 15).toInt + 1 := tn_add rfl (by decide) (by omega) (by omega)
  have ei : (s.v 15).toInt.toNat = (s.v 15).toNatClampNeg := Int32.toNat_toInt _
  have hn : ¬ (s.v 15).toInt = (N : Int) := fun q => by
    have qn : (s.v 15).toNatClampNeg = N := by omega
    unfold KAt at h1 h2
    rw [qn] at h1 h2
    rcases hT.2.1 with c | c | c
    · omega
    · exact h1 c
    · exact h2 c
  refine ⟨⟨e16, e13, ?_, ?_, ?_, h5⟩, a⟩
  · show (s.v 15) + 1 = (z.v 11) + 1
    rw [e]
  · show 0 ≤ ((s.v 15) + 1).toInt
    omega
  · show ((s.v 15) + 1).toInt ≤ (N : Int)
    omega
theorem step2 {N : Nat} {s : KS} {z : RS} (h : PR2 N s z) (hT : TK2 N s z) {c r : Int32} (hm : ((c, r) : Int32 × Int32) ∈ kpl) (hc : ¬ c = 302 ∧ ¬ c = 303) : ∃ s' z', kX4_take s c = some s' ∧ r_must z r = some z' ∧ ((KAt s = c ∧ s' = kad s ∧ z' = zad z ∧ PR2 N s' z' ∧ (s'.v 15).toInt = (s.v 15).toInt + 1) ∨ (FR2 s' z' ∧ FrK [16, 17] s s' ∧ FrR [13, 14] z z')) := by
  have hi := kp2 (h.kp hT) hm
  have F1 : ∀ x, FrK [16, 17] s (kfl s x) := fun x => (FrK.rfl.sv (by decide)).sv (by decide)
  have F2 : ∀ x, FrR [13, 14] z (zfl z x) := fun x => (FrR.rfl.sv (by decide)).sv (by decide)
  by_cases e : KAt s = c
  · by_cases hl : s.v 15 = 400
    · have hl2 : z.v 11 = 400 := by rw [← h.2.2.1]; exact hl
      have nl : ¬ s.v 15 < 400 := by rw [hl]; decide
      refine ⟨_, _, ktake_room h.1 h.kv e nl, (zmust_yes h.2.1 h.zv (hi.mp e)).trans (zgo_room h.2.1 h.zv hl2), Or.inr ⟨h.fail hT 2 (by decide), F1 2, F2 2⟩⟩
    · have q := h.lt hl
      have a := h.adv hT (fun q => hc.1 (e.symm.trans q)) (fun q => hc.2 (e.symm.trans q)) hl
      refine ⟨_, _, ktake_yes h.1 h.kv e q.1, (zmust_yes h.2.1 h.zv (hi.mp e)).trans (zgo_ok q.2.2), Or.inl ⟨e, rfl, rfl, a.1, a.2⟩⟩
  · refine ⟨_, _, ktake_no h.1 h.kv e, zmust_no h.2.1 h.zv (fun q => e (hi.mpr q)), Or.inr ⟨h.fail hT 1 (by decide), F1 1, F2 1⟩⟩
/-! ===== behind a fault nothing changes: the class ===== -/
def Sk (a b : Int32) (s : KS) : Prop := s.v 16 = a ∧ s.v 17 = b
theorem Sk.ne {a b : Int32} (ha : ¬ a = 0) {s : KS} (h : Sk a b s) : ¬ s.v 16 = 0 := by rw [h.1]; exact ha
theorem sk_isAt {a b : Int32} (ha : ¬ a = 0) {s : KS} (x : Int32) (h : Sk a b s) : Pt (kX4_isAt s x) (fun y => y.1 = 0 ∧ Sk a b y.2) := by
  rw [kat_off (Sk.ne ha h)]
  exact pt_some ⟨rfl, h⟩
theorem sk_fail {a b : Int32} (ha : ¬ a = 0) {s : KS} (x : Int32) (h : Sk a b s) : Pt (kX4_fail s x) (Sk a b) := by
  rw [kfail_off (Sk.ne ha h)]
  exact pt_some h
theorem sk_take {a b : Int32} (ha : ¬ a = 0) {s : KS} (x : Int32) (h : Sk a b s) : Pt (kX4_take s x) (Sk a b) := by
  rw [ktake_off (Sk.ne ha h)]
  exact pt_some h
theorem sk_failLater {a b : Int32} {s : KS} (x p : Int32) (h : Sk a b s) : Pt (kX4_failLater s x p) (Sk a b) := by
  unfold kX4_failLater
  refine pt_ite (fun _ => ?_) (fun _ => pt_some h)
  refine pt_let (P := Sk a b) h (fun s h => ?_)
  exact pt_let (P := Sk a b) h (fun s h => pt_some h)
theorem sk_put {a b : Int32} {s : KS} (x : Int32) (h : Sk a b s) : Pt (kX1_put s x) (Sk a b) := by
  unfold kX1_put
  refine pt_ite (fun _ => pt_some h) (fun _ => pt_ite (fun _ => ?_) (fun _ => pt_none))
  refine pt_let (P := Sk a b) h (fun s h => ?_)
  exact pt_let (P := Sk a b) h (fun s h => pt_some h)
theorem sk_endPart {a b : Int32} {s : KS} (h : Sk a b s) : Pt (kX1_endPart s) (Sk a b) := by
  unfold kX1_endPart
  refine pt_ite (fun _ => ?_) (fun _ => pt_none)
  refine pt_ite (fun _ => pt_some h) (fun _ => pt_ite (fun _ => ?_) (fun _ => pt_none))
  refine pt_let (P := Sk a b) h (fun s h => ?_)
  refine pt_ite (fun _ => ?_) (fun _ => pt_none)
  exact pt_let (P := Sk a b) h (fun s h => pt_some h)
theorem sk_begin {a b : Int32} {s : KS} (x : Int32) (h : Sk a b s) : Pt (kX1_begin s x) (Sk a b) := by
  unfold kX1_begin
  refine pt_let (P := Sk a b) h (fun s h => ?_)
  refine pt_ite (fun _ => ?_) (fun _ => pt_none)
  refine pt_let (P := Sk a b) h (fun s h => ?_)
  refine pt_ite (fun _ => ?_) (fun _ => pt_none)
  exact pt_let (P := Sk a b) h (fun s h => pt_some h)
theorem sk_takeInt {a b : Int32} (ha : ¬ a = 0) {s : KS} (x : Int32) (h : Sk a b s) : Pt (kX4_takeInt s x) (fun y => Sk a b y.2) := by
  unfold kX4_takeInt
  refine pt_ite (fun _ => ?_) (fun _ => pt_none)
  refine pt_bindI (sk_isAt ha _ h) (fun r s1 h1 => ?_)
  obtain ⟨hr, h1⟩ := h1
  have hr : r = 0 := hr
  rw [hr, if_pos rfl]
  unfold kX4_takeInt_46
  exact pt_bindP (sk_take ha _ h1) (fun s h => pt_some h)
theorem sk_readUnit {a b : Int32} (ha : ¬ a = 0) {R : KS → Int32 → Option KS} (hR : ∀ s x, Sk a b s → Pt (R s x) (Sk a b)) {s : KS} (x : Int32) (h : Sk a b s) : Pt (kX4_readUnit R s x) (Sk a b) := by
  have h114 : ∀ s, Sk a b s → Pt (kX4_readUnit_114 R s x) (Sk a b) := fun s h => by
    unfold kX4_readUnit_114
    refine pt_bindI (sk_isAt ha _ h) (fun r s1 h1 => ?_)
    obtain ⟨hr, h1⟩ := h1
    have hr : r = 0 := hr
    rw [hr, if_pos rfl]
    exact pt_bindP (sk_fail ha _ h1) (fun s h => pt_some h)
  have h91 : ∀ s, Sk a b s → Pt (kX4_readUnit_91 R s x) (Sk a b) := fun s h => by
    unfold kX4_readUnit_91
    refine pt_bindI (sk_isAt ha _ h) (fun r s1 h1 => ?_)
    obtain ⟨hr, h1⟩ := h1
    have hr : r = 0 := hr
    rw [hr, if_pos rfl]
    exact h114 _ h1
  unfold kX4_readUnit
  refine pt_ite (fun _ => ?_) (fun _ => pt_none)
  refine pt_bindI (sk_isAt ha _ h) (fun r s1 h1 => ?_)
  obtain ⟨hr, h1⟩ := h1
  have hr : r = 0 := hr
  rw [hr, if_pos rfl]
  refine pt_ite (fun _ => h91 _ h1) (fun _ => pt_ite (fun _ => h91 _ h1) (fun _ => ?_))
  unfold kX1_putVar
  refine pt_bindP (P := Sk a b) (pt_bindP (sk_put _ h1) (fun s h => pt_some h)) (fun s h => ?_)
  exact pt_bindP (sk_take ha _ h) (fun s h => pt_some h)
theorem sk_readProduct_7L {a b : Int32} (ha : ¬ a = 0) {R : KS → Int32 → Option KS} (n : Nat) {s : KS} (x x2 : Int32) (h : Sk a b s) : Pt (kX4_readProduct_7L R n s x x2) (Sk a b) := by
  cases n with
  | zero => exact pt_none
  | succ n =>
    show Pt (kX4_readProduct_7 R (kX4_readProduct_7L R n) s x x2) _
    unfold kX4_readProduct_7
    refine pt_ite (fun _ => pt_some h) (fun _ => ?_)
    rw [kat_off (Sk.ne ha h), bindI_some, if_pos rfl, kat_off (Sk.ne ha h), bindI_some, if_pos rfl]
    exact pt_some h
theorem sk_readSum_7L {a b : Int32} (ha : ¬ a = 0) {R : KS → Int32 → Option KS} (n : Nat) {s : KS} (x x2 : Int32) (h : Sk a b s) : Pt (kX4_readSum_7L R n s x x2) (Sk a b) := by
  cases n with
  | zero => exact pt_none
  | succ n =>
    show Pt (kX4_readSum_7 R (kX4_readSum_7L R n) s x x2) _
    unfold kX4_readSum_7
    refine pt_ite (fun _ => pt_some h) (fun _ => ?_)
    rw [kat_off (Sk.ne ha h), bindI_some, if_pos rfl, kat_off (Sk.ne ha h), bindI_some, if_pos rfl]
    exact pt_some h
theorem sk_readProduct {a b : Int32} (ha : ¬ a = 0) {R : KS → Int32 → Option KS} (hR : ∀ s x, Sk a b s → Pt (R s x) (Sk a b)) {s : KS} (x : Int32) (h : Sk a b s) : Pt (kX4_readProduct R s x) (Sk a b) := by
  unfold kX4_readProduct
  exact pt_bindP (sk_readUnit ha hR _ h) (fun s h => sk_readProduct_7L ha _ _ _ h)
theorem sk_readSum {a b : Int32} (ha : ¬ a = 0) {R : KS → Int32 → Option KS} (hR : ∀ s x, Sk a b s → Pt (R s x) (Sk a b)) {s : KS} (x : Int32) (h : Sk a b s) : Pt (kX4_readSum R s x) (Sk a b) := by
  unfold kX4_readSum
  exact pt_bindP (sk_readProduct ha hR _ h) (fun s h => sk_readSum_7L ha _ _ _ h)
theorem sk_readSumR {a b : Int32} (ha : ¬ a = 0) : ∀ (n : Nat) (s : KS) (x : Int32), Sk a b s → Pt (kX4_readSumR n s x) (Sk a b) := by
  intro n
  induction n with
  | zero => intro s x _; exact pt_none
  | succ n ih => intro s x h; exact sk_readSum ha ih x h
theorem sk_readPart {a b : Int32} (ha : ¬ a = 0) {s : KS} (x : Int32) (h : Sk a b s) : Pt (kX4_readPart s x) (Sk a b) := by
  unfold kX4_readPart
  refine pt_bindP (sk_readSumR ha 8 _ _ h) (fun s h => ?_)
  refine pt_bindP (sk_endPart h) (fun s h => ?_)
  exact pt_bindP (sk_take ha _ h) (fun s h => pt_some h)
theorem sk_readLaw_19L {a b : Int32} (ha : ¬ a = 0) {s : KS} (n : Nat) (x : Int32) (h : Sk a b s) : Pt (kX4_readLaw_19L n s x) (Sk a b) := by
  have h77 : ∀ s, Sk a b s → Pt (kX4_readLaw_77 s) (Sk a b) := fun s h => by
    unfold kX4_readLaw_77
    exact pt_bindP (sk_readPart ha _ h) (fun s h => pt_some h)
  cases n with
  | zero => exact pt_none
  | succ n =>
    show Pt (kX4_readLaw_19 (kX4_readLaw_19L n) s x) _
    unfold kX4_readLaw_19
    refine pt_ite (fun _ => h77 _ h) (fun _ => ?_)
    refine pt_bindI (sk_isAt ha _ h) (fun r s1 h1 => ?_)
    obtain ⟨hr, h1⟩ := h1
    have hr : r = 0 := hr
    rw [hr, if_pos rfl]
    exact h77 _ h1
theorem sk_readWave_30L {a b : Int32} (ha : ¬ a = 0) : ∀ (n : Nat) (s : KS) (x1 x2 x3 : Int32), Sk a b s → Pt (kX4_readWave_30L n s x1 x2 x3) (Sk a b) := by
  have h100 : ∀ s, Sk a b s → Pt (kX4_readWave_100 s) (Sk a b) := fun s h => by
    unfold kX4_readWave_100
    refine pt_bindP (sk_take ha _ h) (fun s h => ?_)
    exact pt_let (P := Sk a b) h (fun s h => pt_some h)
  intro n
  induction n with
  | zero => intro s x1 x2 x3 _; exact pt_none
  | succ n ih =>
    intro s x1 x2 x3 h
    show Pt (kX4_readWave_30 (kX4_readWave_30L n) s x1 x2 x3) _
    unfold kX4_readWave_30
    refine pt_ite (fun _ => ?_) (fun _ => ?_)
    · exact pt_ite (fun _ => pt_bindP (sk_failLater _ _ h) (fun s h => h100 _ h)) (fun _ => h100 _ h)
    · refine pt_ite (fun _ => ?_) (fun _ => pt_none)
      refine pt_bindI (sk_takeInt ha _ h) (fun r s1 h1 => ?_)
      have h1 : Sk a b s1 := h1
      refine pt_ite (fun _ => ?_) (fun _ => pt_none)
      exact pt_let (P := Sk a b) h1 (fun s h => ih _ _ _ _ h)
theorem sk_readParty_73 {a b : Int32} (ha : ¬ a = 0) {s : KS} (x : Int64) (h : Sk a b s) : Pt (kX4_readParty_73 s x) (Sk a b) := by
  unfold kX4_readParty_73
  refine pt_bindP (sk_take ha _ h) (fun s h => ?_)
  refine pt_ite (fun _ => ?_) (fun _ => pt_none)
  refine pt_let (P := Sk a b) h (fun s h => ?_)
  refine pt_bindI (sk_takeInt ha _ h) (fun r s1 h1 => ?_)
  have h1 : Sk a b s1 := h1
  refine pt_ite (fun _ => ?_) (fun _ => pt_none)
  refine pt_let (P := Sk a b) h1 (fun s h => ?_)
  refine pt_bindI (sk_takeInt ha _ h) (fun r s1 h1 => ?_)
  have h1 : Sk a b s1 := h1
  refine pt_ite (fun _ => ?_) (fun _ => pt_none)
  refine pt_let (P := Sk a b) h1 (fun s h => ?_)
  refine pt_bindP (sk_take ha _ h) (fun s h => ?_)
  exact pt_let (P := Sk a b) h (fun s h => pt_some h)
