/-! ===== a law ===== -/
abbrev WLK : List Nat := [12, 13, 15, 16, 17, 122, 123, 124, 125]
abbrev WLZ : List Nat := [11, 12, 13, 14, 29, 35, 39, 127, 128, 130, 131, 132, 133, 134, 136, 137, 138]
abbrev WQ : List Nat := [29, 130, 131, 132, 133, 134]
theorem fr_endPart (s : KS) : Pt (kX1_endPart s) (FrK [123, 125] s) := by
  unfold kX1_endPart
  refine pt_ite (fun _ => ?_) (fun _ => pt_none)
  refine pt_ite (fun _ => pt_some FrK.rfl) (fun _ => pt_ite (fun _ => ?_) (fun _ => pt_none))
  refine pt_let (P := FrK [123, 125] s) (FrK.rfl.sf (by decide)) (fun t h => ?_)
  refine pt_ite (fun _ => ?_) (fun _ => pt_none)
  exact pt_let (P := FrK [123, 125] s) (h.sf (by decide)) (fun t h => pt_some h)
theorem fr_begin (s : KS) (x : Int32) : Pt (kX1_begin s x) (FrK [13, 124, 125] s) := by
  unfold kX1_begin
  refine pt_let (P := FrK [13, 124, 125] s) (FrK.rfl.sv (by decide)) (fun t h => ?_)
  refine pt_ite (fun _ => ?_) (fun _ => pt_none)
  refine pt_let (P := FrK [13, 124, 125] s) (h.sf (by decide)) (fun t h => ?_)
  refine pt_ite (fun _ => ?_) (fun _ => pt_none)
  exact pt_let (P := FrK [13, 124, 125] s) (h.sf (by decide)) (fun t h => pt_some h)
theorem sz_term {a b : Int32} (ha : 0 < a.toInt) {z : RS} (h : Sz a b z) : Pt (r_term z) (Sz a b) := by
  unfold r_term
  refine pt_ite (fun _ => ?_) (fun _ => pt_none)
  refine pt_let (P := Sz a b) h (fun s h => ?_)
  rw [if_neg (Sz.ne ha h)]
  unfold r_term_24
  refine pt_ite (fun _ => ?_) (fun _ => pt_none)
  refine pt_let (P := Sz a b) h (fun s h => ?_)
  exact pt_let (P := Sz a b) h (fun s h => pt_some h)
theorem sz_law_129 {a b : Int32} (ha : 0 < a.toInt) {z : RS} (x1 x2 : Int32) (h : Sz a b z) : Pt (r_tellLaw_129 z x1 x2) (Sz a b) := by
  unfold r_tellLaw_129
  refine pt_ite (fun _ => ?_) (fun _ => pt_none)
  refine pt_let (P := Sz a b) h (fun s h => ?_)
  refine pt_bindP (sz_term ha h) (fun s h => ?_)
  refine pt_bindP (sz_must ha _ h) (fun s h => ?_)
  rw [if_neg (Sz.nle ha h)]
  exact pt_some h
theorem sz_law_12L {a b : Int32} (ha : 0 < a.toInt) {z : RS} (m : Nat) (x1 x2 x3 : Int32) (h : Sz a b z) : Pt (r_tellLaw_12L m z x1 x2 x3) (Sz a b) := by
  cases m with
  | zero => exact pt_none
  | succ m =>
    show Pt (r_tellLaw_12 (r_tellLaw_12L m) z x1 x2 x3) _
    unfold r_tellLaw_12
    rw [if_neg (Sz.ne ha h)]
    exact sz_law_129 ha _ _ h
theorem sz_law_110 {a b : Int32} (ha : 0 < a.toInt) {z : RS} (m : Nat) (x1 x2 x3 : Int32) (h : Sz a b z) : Pt (r_tellLaw_110 (r_tellLaw_12L m) z x1 x2 x3) (Sz a b) := by
  unfold r_tellLaw_110
  refine pt_bindP (sz_must ha _ h) (fun s h => ?_)
  refine pt_bindP (sz_term ha h) (fun s h => ?_)
  refine pt_bindP (sz_must ha _ h) (fun s h => ?_)
  exact sz_law_12L ha m _ _ _ h
theorem FR2.sz {s : KS} {z z' : RS} (F : FR2 s z) (h : Sz (z.v 13) (z.v 14) z') : FR2 s z' := ⟨by rw [h.1]; exact F.1, by rw [h.1]; exact F.2.1, by rw [h.2]; exact F.2.2⟩
/-! stretches of codes, on both sides -/
def Sg {α : Type} (f : Nat → α) (a b : Int32) (l : List α) : Prop := 0 ≤ a.toInt ∧ b.toInt = a.toInt + (l.length : Int) ∧ seg f a.toNatClampNeg l.length = l
theorem Em.sg {α : Type} {a b : Int32} {f g : Nat → α} {l : List α} (h : Em a b f g l) : Sg g a b l := ⟨h.1, h.2.1, h.2.2.2⟩
theorem Sg.keep {α : Type} {f g : Nat → α} {a b : Int32} {l : List α} (h : Sg f a b l) (hg : ∀ i : Nat, a.toInt ≤ (i : Int) → (i : Int) < b.toInt → g i = f i) : Sg g a b l := by
  obtain ⟨h1, h2, h3⟩ := h
  have ea : a.toInt.toNat = a.toNatClampNeg := Int32.toNat_toInt a
  refine ⟨h1, h2, ?_⟩
  rw [seg_cg (g := f) l.length a.toNatClampNeg (fun i q1 q2 => hg i (by omega) (by omega))]
  exact h3
def Bth (M lo hi : Int) (f : Nat → Int32) (e : Nat → Int32 × Int32) (a b a' b' : Int32) : Prop := ∃ l : List (Int32 × Int32), Sg f a b (l.map encp) ∧ Sg e a' b' l ∧ (∀ p ∈ l, CDz p) ∧ Dp l 0 1 ∧ b.toInt ≤ M ∧ lo ≤ a'.toInt ∧ b'.toInt ≤ hi
theorem Bth.keep {M M' lo hi hi' : Int} {f g : Nat → Int32} {e e2 : Nat → Int32 × Int32} {a b a' b' : Int32} (h : Bth M lo hi f e a b a' b') (hf : ∀ i : Nat, (i : Int) < M → g i = f i) (he : ∀ i : Nat, lo ≤ (i : Int) → (i : Int) < hi → e2 i = e i) (hM : M ≤ M') (hh : hi ≤ hi') : Bth M' lo hi' g e2 a b a' b' := by
  obtain ⟨l, h1, h2, h3, h4, h5, h6, h7⟩ := h
  exact ⟨l, h1.keep (fun i q1 q2 => hf i (by omega)), h2.keep (fun i q1 q2 => he i (by omega) (by omega)), h3, h4, by omega, h6, by omega⟩
def pst (P S : Nat → Int32) (cl k : Nat) : Int32 := if k = 0 then S cl else P (13 * cl + (k - 1))
theorem pst_cg {P P' S S' : Nat → Int32} {cl k : Nat} (hP : ∀ i, 13 * cl ≤ i → i < 13 * cl + k → P' i = P i) (hS : S' cl = S cl) : pst P' S' cl k = pst P S cl k := by
  unfold pst
  by_cases e : k = 0
  · rw [if_pos e, if_pos e, hS]
  · rw [if_neg e, if_neg e, hP _ (by omega) (by omega)]
theorem pst_succ {P S : Nat → Int32} {cl k : Nat} : pst P S cl (k + 1) = P (13 * cl + k) := by
  unfold pst
  rw [if_neg (by omega), Nat.add_sub_cancel]
/-- a branch with its test -/
def LawN (M lo hi : Int) (F P S : Nat → Int32) (cl : Nat) (z : RS) (b j : Nat) : Prop := ¬ z.f 30 (b + j) = 0 ∧ Bth M lo hi F (es z) (pst P S cl (3 * j)) (P (13 * cl + 3 * j)) (z.f 31 (b + j)) (z.f 32 (b + j)) ∧ Bth M lo hi F (es z) (P (13 * cl + 3 * j)) (P (13 * cl + (3 * j + 1))) (z.f 32 (b + j)) (z.f 33 (b + j)) ∧ Bth M lo hi F (es z) (P (13 * cl + (3 * j + 1))) (P (13 * cl + (3 * j + 2))) (z.f 33 (b + j)) (z.f 34 (b + j))
def SmB (z z' : RS) (i : Nat) : Prop := z'.f 30 i = z.f 30 i ∧ z'.f 31 i = z.f 31 i ∧ z'.f 32 i = z.f 32 i ∧ z'.f 33 i = z.f 33 i ∧ z'.f 34 i = z.f 34 i
theorem SmB.trans {z z' z'' : RS} {i : Nat} (h : SmB z z' i) (h2 : SmB z' z'' i) : SmB z z'' i := ⟨h2.1.trans h.1, h2.2.1.trans h.2.1, h2.2.2.1.trans h.2.2.1, h2.2.2.2.1.trans h.2.2.2.1, h2.2.2.2.2.trans h.2.2.2.2⟩
theorem SmB.fr {W : List Nat} {z z' : RS} {i : Nat} (h : FrR W z z') (hW : 130 ∉ W ∧ 131 ∉ W ∧ 132 ∉ W ∧ 133 ∉ W ∧ 134 ∉ W) : SmB z z' i := ⟨by rw [(h.2 30 hW.1).1], by rw [(h.2 31 hW.2.1).1], by rw [(h.2 32 hW.2.2.1).1], by rw [(h.2 33 hW.2.2.2.1).1], by rw [(h.2 34 hW.2.2.2.2).1]⟩
theorem LawN.keep {M M' lo hi hi' : Int} {F P S F' P' S' : Nat → Int32} {cl b j : Nat} {z z' : RS} (h : LawN M lo hi F P S cl z b j) (hF : ∀ i : Nat, (i : Int) < M → F' i = F i) (hP : ∀ i, 13 * cl ≤ i → i < 13 * cl + 3 * j + 3 → P' i = P i) (hS : S' cl = S cl) (he : ∀ i : Nat, lo ≤ (i : Int) → (i : Int) < hi → es z' i = es z i) (hb : SmB z z' (b + j)) (hM : M ≤ M') (hh : hi ≤ hi') : LawN M' lo hi' F' P' S' cl z' b j := by
  obtain ⟨h0, h1, h2, h3⟩ := h
  obtain ⟨b0, b1, b2, b3, b4⟩ := hb
  unfold LawN
  rw [b0, b1, b2, b3, b4, pst_cg (P := P) (S := S) (k := 3 * j) (fun i q1 q2 => hP i q1 (by omega)) hS, hP (13 * cl + 3 * j) (by omega) (by omega), hP (13 * cl + (3 * j + 1)) (by omega) (by omega), hP (13 * cl + (3 * j + 2)) (by omega) (by omega)]
  exact ⟨h0, h1.keep hF he hM hh, h2.keep hF he hM hh, h3.keep hF he hM hh⟩
def LawT (M lo hi : Int) (F P S C : Nat → Int32) (cl : Nat) (z : RS) (b m : Nat) : Prop := m ≤ 4 ∧ (C cl).toInt = ((3 * m + 1 : Nat) : Int) ∧ (∀ j, j < m → LawN M lo hi F P S cl z b j) ∧ z.f 30 (b + m) = 0 ∧ Bth M lo hi F (es z) (pst P S cl (3 * m)) (P (13 * cl + 3 * m)) (z.f 33 (b + m)) (z.f 34 (b + m))
theorem LawT.keep {M M' lo hi hi' : Int} {F P S C F' P' S' C' : Nat → Int32} {cl b m : Nat} {z z' : RS} (h : LawT M lo hi F P S C cl z b m) (hF : ∀ i : Nat, (i : Int) < M → F' i = F i) (hP : ∀ i, 13 * cl ≤ i → i < 13 * cl + 13 → P' i = P i) (hS : S' cl = S cl) (hC : C' cl = C cl) (he : ∀ i : Nat, lo ≤ (i : Int) → (i : Int) < hi → es z' i = es z i) (hb : ∀ i, b ≤ i → i ≤ b + m → SmB z z' i) (hM : M ≤ M') (hh : hi ≤ hi') : LawT M' lo hi' F' P' S' C' cl z' b m := by
  obtain ⟨h0, h1, h2, h3, h4⟩ := h
  have bm := hb (b + m) (by omega) (by omega)
  refine ⟨h0, by rw [hC]; exact h1, fun j hj => (h2 j hj).keep hF (fun i q1 q2 => hP i q1 (by omega)) hS he (hb _ (by omega) (by omega)) hM hh, by rw [bm.1]; exact h3, ?_⟩
  rw [bm.2.2.2.1, bm.2.2.2.2, pst_cg (P := P) (S := S) (k := 3 * m) (fun i q1 q2 => hP i q1 (by omega)) hS, hP (13 * cl + 3 * m) (by omega) (by omega)]
  exact h4.keep hF he hM hh
def dfl (cl : Nat) : Int32 := if cl = 0 then -3 else if cl = 3 then 0 else 1
/-- a law, on both sides -/
def LawR (M lo hi : Int) (lob hib : Nat) (F P S C : Nat → Int32) (cl q : Nat) (z : RS) : Prop := (z.f 27 q = z.f 28 q ∧ C cl = 1 ∧ Sg F (S cl) (P (13 * cl)) [dfl cl] ∧ (P (13 * cl)).toInt ≤ M) ∨ (∃ b m : Nat, lob ≤ b ∧ b + m + 1 ≤ hib ∧ (z.f 27 q).toInt = (b : Int) ∧ (z.f 28 q).toInt = ((b + m + 1 : Nat) : Int) ∧ LawT M lo hi F P S C cl z b m)
theorem LawR.keep {M M' lo hi hi' : Int} {lob hib hib' : Nat} {F P S C F' P' S' C' : Nat → Int32} {cl q : Nat} {z z' : RS} (h : LawR M lo hi lob hib F P S C cl q z) (hF : ∀ i : Nat, (i : Int) < M → F' i = F i) (hP : ∀ i, 13 * cl ≤ i → i < 13 * cl + 13 → P' i = P i) (hS : S' cl = S cl) (hC : C' cl = C cl) (he : ∀ i : Nat, lo ≤ (i : Int) → (i : Int) < hi → es z' i = es z i) (hb : ∀ i, lob ≤ i → i < hib → SmB z z' i) (h27 : z'.f 27 q = z.f 27 q) (h28 : z'.f 28 q = z.f 28 q) (hM : M ≤ M') (hh : hi ≤ hi') (hhb : hib ≤ hib') : LawR M' lo hi' lob hib' F' P' S' C' cl q z' := by
  rcases h with ⟨a1, a2, a3, a4⟩ | ⟨b, m, a1, a2, a3, a4, a5⟩
  · refine Or.inl ⟨by rw [h27, h28]; exact a1, by rw [hC]; exact a2, ?_, ?_⟩
    · rw [hS, hP (13 * cl) (by omega) (by omega)]
      exact a3.keep (fun i q1 q2 => hF i (by omega))
    · rw [hP (13 * cl) (by omega) (by omega)]
      omega
  · exact Or.inr ⟨b, m, a1, by omega, by rw [h27]; exact a3, by rw [h28]; exact a4, a5.keep hF hP hS hC he (fun i q1 q2 => hb i (by omega) (by omega)) hM hh⟩
/-! a part of a law is read -/
theorem endPart_eq {s s' : KS} {cl j : Nat} (h13 : (s.v 13).toInt = (cl : Int)) (hc4 : cl < 4) (hj : (s.f 25 cl).toInt = (j : Int)) (hj12 : j ≤ 12) (h : kX1_endPart s = some s') : s'.v 12 = s.v 12 ∧ s'.v 13 = s.v 13 ∧ s'.f 22 = s.f 22 ∧ s'.f 24 = s.f 24 ∧ (∀ i, s'.f 23 i = if i = 13 * cl + j then s.v 12 else s.f 23 i) ∧ (∀ i, ¬ i = cl → s'.f 25 i = s.f 25 i) ∧ (s'.f 25 cl).toInt = (j : Int) + 1 := by
  have ec : (s.v 13).toNatClampNeg = cl := clamp_of_int h13
  unfold kX1_endPart at h
  obtain ⟨_, h⟩ := guard_inv h
  rw [ec] at h
  have n : ¬ 13 ≤ s.f 25 cl := fun q => by
    have := tn_le (a := 13) (by decide) rfl q
    omega
  rw [if_neg n] at h
  obtain ⟨_, h⟩ := guard_inv h
  obtain ⟨s4, d4, h⟩ := letS_inv h
  obtain ⟨_, h⟩ := guard_inv h
  obtain ⟨s7, d7, h⟩ := letS_inv h
  cases h
  have m1 : ((s.v 13) * 13).toInt = (s.v 13).toInt * 13 := ti_mulc (c := 13) (by decide) (by omega) (by omega)
  have m2 : (((s.v 13) * 13) + (s.f 25 cl)).toInt = ((13 * cl + j : Nat) : Int) := by
    rw [ti_add (by omega) (by omega)]
    omega
  have ei := clamp_of_int m2
  have a : ((s.f 25 cl) + 1).toInt = (j : Int) + 1 := tn_add hj (by decide) (by omega) (by omega)
  have v4 : s4.v 13 = s.v 13 := by rw [← d4]; rfl
  have f25 : ∀ i, s'.f 25 i = if i = cl then (s.f 25 cl) + 1 else s.f 25 i := fun i => by
    have q : s'.f 25 i = if i = (s4.v 13).toNatClampNeg then (s.f 25 cl) + 1 else s4.f 25 i := by
      rw [← d7]
      exact ksf_at
    rw [q, v4, ec, ← d4]
    rfl
  refine ⟨by rw [← d7, ← d4]; rfl, by rw [← d7, ← d4]; rfl, by rw [← d7, ← d4]; rfl, by rw [← d7, ← d4]; rfl, fun i => ?_, fun i hi => by rw [f25, if_neg hi], by rw [f25, if_pos rfl]; exact a⟩
  have q : s'.f 23 i = s4.f 23 i := by rw [← d7]; rfl
  rw [q, ← d4, ei]
  exact ksf_at
def PtR (cl j : Nat) (s : KS) (z : RS) (s' : KS) (z3 : RS) : Prop := (∃ l, ExR s z s' z3 l) ∧ s'.v 13 = s.v 13 ∧ s'.f 24 = s.f 24 ∧ (∀ i, s'.f 23 i = if i = 13 * cl + j then s'.v 12 else s.f 23 i) ∧ (∀ i, ¬ i = cl → s'.f 25 i = s.f 25 i) ∧ (s'.f 25 cl).toInt = (j : Int) + 1
theorem PtR.pre {cl j : Nat} {s s' : KS} {z z3 : RS} (h : PtR cl j s z s' z3) (hC : PreC s z) : PreC s' z3 := by
  obtain ⟨⟨l, x1, x2, x3, _, _⟩, _⟩ := h
  have q1 := x1.2.1
  rw [List.length_map] at q1
  have q2 := x2.2.1
  obtain ⟨c1, c2, c3⟩ := hC
  exact ⟨by omega, by omega, by omega⟩
theorem PtR.low {cl j : Nat} {s s' : KS} {z z3 : RS} (h : PtR cl j s z s' z3) : (∀ i : Nat, (i : Int) < (s.v 12).toInt → s'.f 22 i = s.f 22 i) ∧ (∀ i : Nat, (i : Int) < (z.v 35).toInt → es z3 i = es z i) ∧ (s.v 12).toInt ≤ (s'.v 12).toInt ∧ (z.v 35).toInt ≤ (z3.v 35).toInt := by
  obtain ⟨⟨l, x1, x2, x3, _, _⟩, _⟩ := h
  have q1 := x1.2.1
  have q2 := x2.2.1
  exact ⟨x1.2.2.1, x2.2.2.1, by omega, by omega⟩
theorem PtR.bth {cl j : Nat} {s s' : KS} {z z3 : RS} (h : PtR cl j s z s' z3) (hst : pst (s.f 23) (s.f 24) cl j = s.v 12) {lo : Int} (hlo : lo ≤ (z.v 35).toInt) : Bth (s'.v 12).toInt lo (z3.v 35).toInt (s'.f 22) (es z3) (pst (s'.f 23) (s'.f 24) cl j) (s'.f 23 (13 * cl + j)) (z.v 35) (z3.v 35) ∧ pst (s'.f 23) (s'.f 24) cl (j + 1) = s'.v 12 := by
  obtain ⟨⟨l, x1, x2, x3, x4, x5⟩, _, q24, q23, _, _⟩ := h
  have e1 : s'.f 23 (13 * cl + j) = s'.v 12 := by rw [q23, if_pos rfl]
  have e2 : pst (s'.f 23) (s'.f 24) cl j = s.v 12 := by
    rw [← hst]
    refine pst_cg (fun i q1 q2 => ?_) (by rw [q24])
    rw [q23, if_neg (by omega)]
  refine ⟨?_, by rw [pst_succ]; exact e1⟩
  rw [e1, e2]
  exact ⟨l, Em.sg x1, Em.sg x2, x4, x5, Int.le_refl _, hlo, Int.le_refl _⟩
def ResQ (N cl j : Nat) (s : KS) (z z1 z2 : RS) (s' : KS) (out : RS) : Prop := (PR2 N s' out ∧ FrK WLK s s' ∧ FrR WLZ z out ∧ out.v 12 = 0 ∧ (s.v 15).toInt ≤ (s'.v 15).toInt ∧ PtR cl j s z s' out ∧ FrR WX z z1 ∧ FrR [11, 13, 14] z2 out) ∨ FR2 s' out
theorem sim_part {N cl j : Nat} {s s' : KS} {z z1 z2 z3 : RS} {c r : Int32} (hC : PreC s z) (h13 : (s.v 13).toInt = (cl : Int)) (hc4 : cl < 4) (hj : (s.f 25 cl).toInt = (j : Int)) (hj12 : j ≤ 12) (hP : PR2 N s z) (hT : TK2 N s z) (h12 : z.v 12 = 0) (hm : ((c, r) : Int32 × Int32) ∈ kpl) (hc : ¬ c = 302 ∧ ¬ c = 303) (hs : kX4_readPart s c = some s') (he : r_expression z = some z1) (hF : FrR WQ z1 z2) (hr : r_must z2 r = some z3) : ResQ N cl j s z z1 z2 s' z3 := by
  unfold kX4_readPart at hs
  obtain ⟨s1, h1, hs⟩ := bindP_inv hs
  obtain ⟨s2, h2, hs⟩ := bindP_inv hs
  obtain ⟨s3, h3, hs⟩ := bindP_inv hs
  cases hs
  have fe := fr_endPart s1 _ h2
  rcases sim_expr hP hT h12 hC h1 he with ⟨P1, K1, G1, v1, l1, l, X1⟩ | F
  · have K2 : FrK WLK s s2 := (FrK.rfl.trans K1 (by decide)).trans fe (by decide)
    have G2 : FrR WLZ z z2 := (FrR.rfl.trans G1 (by decide)).trans hF (by decide)
    have P2 : PR2 N s2 z2 := P1.keep (fe.1 15 (by decide)) (fe.1 16 (by decide)) (hF.1 11 (by decide)) (hF.1 13 (by decide))
    have T2 : TK2 N s2 z2 := hT.fr K2 G2 (by decide) (by decide)
    have v2 : z2.v 12 = 0 := (hF.1 12 (by decide)).trans v1
    have l2 : (s2.v 15).toInt = (s1.v 15).toInt := by rw [fe.1 15 (by decide)]
    obtain ⟨t, w, ht, hw, hcase⟩ := step2 P2 T2 hm hc
    rw [h3] at ht
    cases ht
    rw [hr] at hw
    cases hw
    rcases hcase with ⟨_, e1, e2, P3, l3⟩ | ⟨F, _, _⟩
    · refine Or.inl ⟨P3, ?_, ?_, ?_, by omega, ?_, G1, ?_⟩
      · rw [e1]; exact K2.sv (by decide)
      · rw [e2]; exact G2.sv (by decide)
      · rw [e2]; exact v2
      · obtain ⟨q12, q13, q22, q24, q23, q25, q25c⟩ := endPart_eq (cl := cl) (j := j) (by rw [K1.1 13 (by decide)]; exact h13) hc4 (by rw [(K1.2 25 (by decide)).1]; exact hj) hj12 h2
        have x12 : s'.v 12 = s1.v 12 := by rw [e1]; exact q12
        have x22 : s'.f 22 = s1.f 22 := by rw [e1]; exact q22
        have y35 : z3.v 35 = z1.v 35 := by rw [e2]; exact hF.1 35 (by decide)
        have y36 : z3.f 36 = z1.f 36 := by rw [e2]; exact (hF.2 36 (by decide)).1
        have y37 : z3.f 37 = z1.f 37 := by rw [e2]; exact (hF.2 37 (by decide)).1
        have x15 := X1.2.2.1
        refine ⟨⟨l, X1.1.keep x12 x22, X1.2.1.keep y35 y36 y37, by omega, X1.2.2.2.1, X1.2.2.2.2⟩, ?_, ?_, fun i => ?_, fun i hi => ?_, ?_⟩
        · rw [e1]; exact q13.trans (K1.1 13 (by decide))
        · rw [e1]; exact q24.trans (K1.2 24 (by decide)).1
        · rw [x12, e1]
          show s2.f 23 i = _
          rw [q23 i, (K1.2 23 (by decide)).1]
        · rw [e1]
          show s2.f 25 i = _
          rw [q25 i hi, (K1.2 25 (by decide)).1]
        · rw [e1]; exact q25c
      · rw [e2]; exact FrR.rfl.sv (by decide)
    · exact Or.inr F
  · have k1 : Sk (s1.v 16) (s1.v 17) s1 := ⟨rfl, rfl⟩
    have k3 := sk_take F.ne _ (sk_endPart k1 _ h2) _ h3
    have q2 : Sz (z1.v 13) (z1.v 14) z2 := ⟨hF.1 13 (by decide), hF.1 14 (by decide)⟩
    exact Or.inr ((F.sk k3).sz (sz_must F.1 _ q2 _ hr))
/-- a term of the reference: its expression, what it writes down of it -/
theorem term_inv {z z' : RS} (h13 : z.v 13 = 0) (h : r_term z = some z') : ∃ y y1, FrR [133] z y ∧ r_expression y = some y1 ∧ FrR [29, 134] y1 z' ∧ (∀ i, y.f 33 i = if i = (z.v 29).toNatClampNeg then z.v 35 else z.f 33 i) ∧ (∀ i, z'.f 34 i = if i = (y1.v 29).toNatClampNeg then y1.v 35 else y1.f 34 i) ∧ z'.v 29 = (y1.v 29) + 1 := by
  unfold r_term at h
  obtain ⟨_, h⟩ := guard_inv h
  obtain ⟨y, ey, h⟩ := letS_inv h
  have v13 : y.v 13 = 0 := by rw [← ey]; exact h13
  rw [if_pos v13] at h
  obtain ⟨y1, he, h⟩ := bindP_inv h
  unfold r_term_24 at h
  obtain ⟨_, h⟩ := guard_inv h
  obtain ⟨y2, e2, h⟩ := letS_inv h
  obtain ⟨y4, e4, h⟩ := letS_inv h
  cases h
  refine ⟨y, y1, by rw [← ey]; exact FrR.rfl.sf (by decide), he, ?_, fun i => ?_, fun i => ?_, ?_⟩
  · rw [← e4, ← e2]
    exact (FrR.rfl.sf (k := 34) (by decide)).sv (k := 29) (by decide)
  · rw [← ey]
    exact rsf_at
  · rw [← e4, ← e2]
    exact rsf_at
  · rw [← e4, ← e2]
    rfl
