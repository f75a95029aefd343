/-! ===== a law's value is the same on both sides ===== -/
def VarEq (s : KS) (z : RS) : Prop := ∀ i : Nat, i < 9 → s.f 13 i = z.f 40 i
theorem evl_cg {V V' : Nat → Int32} (hV : ∀ i : Nat, i < 9 → V i = V' i) : ∀ (l : List (Int32 × Int32)) (st : List Int32), (∀ p ∈ l, CDz p) → evl V l st = evl V' l st := by
  intro l
  induction l with
  | nil => intro st _; rfl
  | cons p l ih =>
    intro st hC
    have ih' := fun st => ih st (fun q hq => hC q (List.mem_cons_of_mem _ hq))
    by_cases h : p.1.toInt ≤ 1
    · rw [evl_push h, evl_push h, ih']
      rcases hC p (List.mem_cons_self ..) with ⟨k0, _⟩ | ⟨k1, v1, v2⟩ | hop
      · rw [if_pos k0, if_pos k0]
      · have e : p.2.toInt.toNat = p.2.toNatClampNeg := Int32.toNat_toInt _
        rw [hV _ (by omega)]
      · exact absurd h (encp_op hop).2
    · match st with
      | [] => rw [evl_cons, evl_cons, if_neg h, if_neg h]; rfl
      | [b] => rw [evl_cons, evl_cons, if_neg h, if_neg h]; rfl
      | b :: a :: t =>
        rw [evl_op h, evl_op h]
        cases opv p.1 a b with
        | none => rfl
        | some x => exact ih' _
theorem pv_inv {s s' : KS} {x1 x2 r : Int32} {cl k : Nat} (h1 : x1.toInt = (cl : Int)) (hcl : cl < 4) (h2 : x2.toInt = (k : Int)) (hk : k < 13) (h : kX1_partValue s x1 x2 = some (r, s')) : kX1_partValue_53L fu s (s.f 10 (13 * cl + k)) 0 (pst (s.f 10) (s.f 11) cl k) = some (r, s') := by
  unfold kX1_partValue at h
  have m1 : (x1 * 13).toInt = x1.toInt * 13 := ti_mulc (c := 13) (by decide) (by omega) (by omega)
  have m2 : ((x1 * 13) + x2).toInt = ((13 * cl + k : Nat) : Int) := by
    rw [ti_add (by omega) (by omega)]
    omega
  have e2 := clamp_of_int m2
  rw [if_neg (fun q => by have := tn_lt (b := 0) rfl (by decide) q; omega), if_pos (Int32.lt_iff_toInt_lt.mpr (by rw [show (13 : Int32).toInt = 13 from by decide]; omega))] at h
  obtain ⟨_, h⟩ := guard_inv h
  rw [e2] at h
  unfold kX1_partValue_51 at h
  by_cases c : x2 = 0
  · have k0 : k = 0 := by
      rw [c] at h2
      have : (0 : Int32).toInt = 0 := by decide
      omega
    rw [if_pos c] at h
    obtain ⟨_, h⟩ := guard_inv h
    rw [clamp_of_int h1] at h
    unfold pst
    rw [if_pos k0]
    exact h
  · have k0 : ¬ k = 0 := fun q => c (Int32.toInt_inj.mp (by rw [h2, q]; decide))
    have m3 : (((x1 * 13) + x2) - 1).toInt = ((13 * cl + (k - 1) : Nat) : Int) := by
      rw [tn_sub m2 (by decide : (1 : Int32).toInt = 1) (by omega) (by omega)]
      omega
    rw [if_neg c] at h
    obtain ⟨_, h⟩ := guard_inv h
    rw [clamp_of_int m3] at h
    unfold pst
    rw [if_neg k0]
    exact h
theorem stk0 {f : Nat → Int32} : StkOn f 0 [] ([] : List Int32).length := rfl
theorem part_same {M lo hi : Int} {s s' : KS} {z z' : RS} {x1 x2 r1 r2 a b : Int32} {cl k : Nat} (hB : Bth M lo hi (s.f 9) (es z) (pst (s.f 10) (s.f 11) cl k) (s.f 10 (13 * cl + k)) a b) (hV : VarEq s z) (e1 : x1.toInt = (cl : Int)) (hcl : cl < 4) (e2 : x2.toInt = (k : Int)) (hk : k < 13) (h1 : kX1_partValue s x1 x2 = some (r1, s')) (h2 : r_termOf z a b = some (r2, z')) : ((r1 = r2 ∧ s'.v 7 = s.v 7 ∧ z'.v 42 = z.v 42) ∨ (s'.v 7 = 1 ∧ z'.v 42 = 1)) ∧ FrK [7, 114] s s' ∧ FrR [42, 141] z z' := by
  have h1 := pv_inv e1 hcl e2 hk h1
  unfold r_termOf at h2
  have f1 := pv_frL (s0 := s) _ fu s 0 _ FrK.rfl (Or.inl rfl) _ h1
  have f2 := tm_frL (z0 := z) b fu z 0 a FrR.rfl (Or.inl rfl) _ h2
  refine ⟨?_, f1.1, f2.1⟩
  obtain ⟨l, ⟨g1, g2, g3⟩, ⟨g4, g5, g6⟩, g7, g8, _, _, _⟩ := hB
  rw [List.length_map] at g2 g3
  have q1 := pv_ev (s.f 13) _ l fu s 0 _ [] r1 s' rfl g7 g8 g1 g2 g3 (by decide) stk0 h1
  have q2 := tm_ev (z.f 40) b l fu z 0 a [] r2 z' rfl g7 g8 g4 g5 g6 (by decide) stk0 h2
  unfold EvK at q1 q2
  rw [evl_cg (V' := z.f 40) hV l [] g7] at q1
  rcases q1 with ⟨v, v1, v2, v3⟩ | ⟨v1, v2⟩
  · rcases q2 with ⟨w, w1, w2, w3⟩ | ⟨w1, w2⟩
    · rw [v1] at w1
      have e : v = w := by
        injection w1 with w1
        injection w1
      exact Or.inl ⟨by rw [v2, w2, e], v3, w3⟩
    · rw [v1] at w1
      cases w1
  · rcases q2 with ⟨w, w1, w2, w3⟩ | ⟨w1, w2⟩
    · rw [v1] at w1
      cases w1
    · exact Or.inr ⟨v2, w2⟩
theorem LawT.fr {M lo hi : Int} {s s' : KS} {z z' : RS} {cl b m : Nat} (h : LawT M lo hi (s.f 9) (s.f 10) (s.f 11) (s.f 12) cl z b m) (K : FrK [7, 114] s s') (G : FrR [42, 141] z z') : LawT M lo hi (s'.f 9) (s'.f 10) (s'.f 11) (s'.f 12) cl z' b m := by
  rw [(K.2 9 (by decide)).1, (K.2 10 (by decide)).1, (K.2 11 (by decide)).1, (K.2 12 (by decide)).1]
  exact h.keep (fun _ _ => rfl) (fun _ _ _ => rfl) rfl rfl (fun i _ _ => by rw [es_fr G (by decide) (by decide)]) (fun i _ _ => SmB.fr G (by decide)) (Int.le_refl _) (Int.le_refl _)
theorem VarEq.fr {s s' : KS} {z z' : RS} (h : VarEq s z) (K : FrK [7, 114] s s') (G : FrR [42, 141] z z') : VarEq s' z' := by
  unfold VarEq
  rw [(K.2 13 (by decide)).1, (G.2 40 (by decide)).1]
  exact h
/-- the flags say the same, and the values, where nothing is broken -/
theorem val_end {M lo hi : Int} {s s' : KS} {z z' : RS} {x1 x3 y4 r1 r2 : Int32} {cl k y : Nat} (hB : Bth M lo hi (s.f 9) (es z) (pst (s.f 10) (s.f 11) cl k) (s.f 10 (13 * cl + k)) (z.f 33 y) (z.f 34 y)) (hV : VarEq s z) (e1 : x1.toInt = (cl : Int)) (hcl : cl < 4) (e2 : x3.toInt = (k : Int)) (hk : k < 13) (ey : y4.toInt = (y : Int)) (hf1 : s.v 7 = 0) (hf2 : z.v 42 = 0) (h1 : kX1_valueOf_77 s x1 x3 = some (r1, s')) (h2 : r_lawTells_119 z y4 = some (r2, z')) : r1 = r2 ∧ FrK [7, 114] s s' ∧ FrR [42, 141] z z' := by
  unfold kX1_valueOf_77 at h1
  unfold r_lawTells_119 at h2
  obtain ⟨q1, t, p1, h1⟩ := bindI_inv h1
  obtain ⟨_, h2⟩ := guard_inv h2
  obtain ⟨_, h2⟩ := guard_inv h2
  rw [clamp_of_int ey] at h2
  obtain ⟨q2, w, p2, h2⟩ := bindI_inv h2
  obtain ⟨hc, K, G⟩ := part_same hB hV e1 hcl e2 hk p1 p2
  rcases hc with ⟨c1, c2, c3⟩ | ⟨c1, c2⟩
  · rw [if_pos (c2.trans hf1)] at h1
    rw [if_pos (c3.trans hf2)] at h2
    have a1 : r1 = q1 ∧ s' = t := by cases h1; exact ⟨rfl, rfl⟩
    have a2 : r2 = q2 ∧ z' = w := by cases h2; exact ⟨rfl, rfl⟩
    rw [a1.1, a1.2, a2.1, a2.2]
    exact ⟨c1, K, G⟩
  · rw [if_neg (by rw [c1]; exact z_one)] at h1
    rw [if_neg (by rw [c2]; exact z_one)] at h2
    have a1 : r1 = 0 ∧ s' = t := by cases h1; exact ⟨rfl, rfl⟩
    have a2 : r2 = 0 ∧ z' = w := by cases h2; exact ⟨rfl, rfl⟩
    rw [a1.1, a1.2, a2.1, a2.2]
    exact ⟨rfl, K, G⟩
theorem val_loop {M lo hi : Int} {s0 s' : KS} {z0 z' : RS} {x1 x2 x3 r1 r2 : Int32} {cl b m : Nat} (e1 : x1.toInt = (cl : Int)) (hcl : cl < 4) (e2 : x2.toInt = ((3 * m : Nat) : Int)) (hb : b + m + 1 ≤ 260) : ∀ (n n2 : Nat) (s : KS) (z : RS) (x4 y4 : Int32) (j : Nat), LawT M lo hi (s.f 9) (s.f 10) (s.f 11) (s.f 12) cl z b m → VarEq s z → (z.f 28 x3.toNatClampNeg).toInt = ((b + m + 1 : Nat) : Int) → FrK [7, 114] s0 s → FrR [42, 141] z0 z → s.v 7 = 0 → z.v 42 = 0 → j ≤ m → x4.toInt = ((3 * j : Nat) : Int) → y4.toInt = ((b + j : Nat) : Int) → kX1_valueOf_19L n s x1 x2 x2 x4 = some (r1, s') → r_lawTells_39L n2 z x3 y4 = some (r2, z') → r1 = r2 ∧ FrK [7, 114] s0 s' ∧ FrR [42, 141] z0 z' := by
  intro n
  induction n with
  | zero => intro n2 s z x4 y4 j _ _ _ _ _ _ _ _ _ _ h1; exact none_ne h1
  | succ n ih =>
    intro n2 s z x4 y4 j hT hV h28 K0 G0 hf1 hf2 hj e4 ey h1 h2
    have h1 : kX1_valueOf_19 (kX1_valueOf_19L n) s x1 x2 x2 x4 = some (r1, s') := h1
    cases n2 with
    | zero => exact none_ne h2
    | succ n2 =>
    have h2 : r_lawTells_39 (r_lawTells_39L n2) z x3 y4 = some (r2, z') := h2
    obtain ⟨t1, t2, t3, t4, t5⟩ := id hT
    have a2 : (x4 + 2).toInt = x4.toInt + 2 := tn_add rfl (by decide) (by omega) (by omega)
    unfold kX1_valueOf_19 at h1
    unfold r_lawTells_39 at h2
    obtain ⟨_, h2⟩ := guard_inv h2
    rw [if_neg (fun q => by have := tn_le h28 ey q; omega)] at h2
    obtain ⟨_, h2⟩ := guard_inv h2
    have ec : y4.toNatClampNeg = b + j := clamp_of_int ey
    by_cases c : j = m
    · subst c
      rw [if_pos (Int32.le_iff_toInt_le.mpr (by omega))] at h1
      rw [ec, if_pos t4] at h2
      obtain ⟨v1, v2, v3⟩ := val_end t5 hV e1 hcl e2 (by omega) ey hf1 hf2 h1 h2
      exact ⟨v1, K0.trans v2 (by decide), G0.trans v3 (by decide)⟩
    · have nl : ¬ x2 ≤ x4 + 2 := fun q => by
        have := tn_le e2 a2 q
        omega
      obtain ⟨n0, b1, b2, b3⟩ := t3 j (by omega)
      rw [if_neg nl] at h1
      rw [ec, if_neg n0] at h2
      obtain ⟨u3, s2, p1, h1⟩ := bindI_inv h1
      obtain ⟨u5, s4, p2, h1⟩ := bindI_inv h1
      obtain ⟨_, h2⟩ := guard_inv h2
      obtain ⟨_, h2⟩ := guard_inv h2
      obtain ⟨w8, z7, p3, h2⟩ := bindI_inv h2
      obtain ⟨_, h2⟩ := guard_inv h2
      obtain ⟨_, h2⟩ := guard_inv h2
      obtain ⟨w12, z11, p4, h2⟩ := bindI_inv h2
      have a1 : (x4 + 1).toInt = x4.toInt + 1 := tn_add rfl (by decide) (by omega) (by omega)
      have a3 : (x4 + 3).toInt = x4.toInt + 3 := tn_add rfl (by decide) (by omega) (by omega)
      have ay : (y4 + 1).toInt = y4.toInt + 1 := tn_add rfl (by decide) (by omega) (by omega)
      obtain ⟨hc1, K1, G1⟩ := part_same (k := 3 * j) b1 hV e1 hcl e4 (by omega) p1 p3
      have T2 := hT.fr K1 G1
      have V2 := hV.fr K1 G1
      obtain ⟨_, c1, c2, c3⟩ := T2.2.2.1 j (by omega)
      have c2 : Bth M lo hi (s2.f 9) (es z7) (pst (s2.f 10) (s2.f 11) cl (3 * j + 1)) (s2.f 10 (13 * cl + (3 * j + 1))) (z7.f 32 (b + j)) (z7.f 33 (b + j)) := by
        rw [pst_succ]
        exact c2
      obtain ⟨hc2, K2, G2⟩ := part_same (k := 3 * j + 1) c2 V2 e1 hcl (by omega) (by omega) p2 p4
      have K12 : FrK [7, 114] s s4 := K1.trans K2 (by decide)
      have G12 : FrR [42, 141] z z11 := G1.trans G2 (by decide)
      have T4 := T2.fr K2 G2
      have V4 := V2.fr K2 G2
      have fl : (s4.v 7 = 0 ∧ z11.v 42 = 0 ∧ u3 = w8 ∧ u5 = w12) ∨ (s4.v 7 = 1 ∧ z11.v 42 = 1) := by
        rcases hc1 with ⟨d1, d2, d3⟩ | ⟨d1, d2⟩
        · rcases hc2 with ⟨k1, k2, k3⟩ | ⟨k1, k2⟩
          · exact Or.inl ⟨by rw [k2, d2, hf1], by rw [k3, d3, hf2], d1, k1⟩
          · exact Or.inr ⟨k1, k2⟩
        · rcases hc2 with ⟨k1, k2, k3⟩ | ⟨k1, k2⟩
          · exact Or.inr ⟨by rw [k2, d1], by rw [k3, d2]⟩
          · exact Or.inr ⟨k1, k2⟩
      rcases fl with ⟨f1, f2, f3, f4⟩ | ⟨f1, f2⟩
      · rw [if_pos f1] at h1
        rw [if_pos f2] at h2
        by_cases cc : w8 < w12
        · have n5 : ¬ u5 ≤ u3 := fun q => by
            have q1 := ti_le q
            have q2 := ti_lt cc
            rw [f3, f4] at q1
            omega
          rw [if_neg n5] at h1
          rw [if_pos cc] at h2
          obtain ⟨_, _, _, c3⟩ := T4.2.2.1 j (by omega)
          have c3 : Bth M lo hi (s4.f 9) (es z11) (pst (s4.f 10) (s4.f 11) cl (3 * j + 2)) (s4.f 10 (13 * cl + (3 * j + 2))) (z11.f 33 (b + j)) (z11.f 34 (b + j)) := by
            rw [show 3 * j + 2 = (3 * j + 1) + 1 from rfl, pst_succ]
            exact c3
          obtain ⟨v1, v2, v3⟩ := val_end c3 V4 e1 hcl (by omega) (by omega) ey f1 f2 h1 h2
          exact ⟨v1, (K0.trans K12 (by decide)).trans v2 (by decide), (G0.trans G12 (by decide)).trans v3 (by decide)⟩
        · have n5 : u5 ≤ u3 := Int32.le_iff_toInt_le.mpr (by
            have := ti_nlt cc
            rw [f3, f4]
            exact this)
          rw [if_pos n5] at h1
          rw [if_neg cc] at h2
          exact ih n2 s4 z11 (x4 + 3) (y4 + 1) (j + 1) T4 V4 (by rw [(G12.2 28 (by decide)).1]; exact h28) (K0.trans K12 (by decide)) (G0.trans G12 (by decide)) f1 f2 (by omega) (by omega) (by omega) h1 h2
      · rw [if_neg (by rw [f1]; exact z_one)] at h1
        rw [if_neg (by rw [f2]; exact z_one)] at h2
        have a1 : r1 = 0 ∧ s' = s4 := by cases h1; exact ⟨rfl, rfl⟩
        have a2 : r2 = 0 ∧ z' = z11 := by cases h2; exact ⟨rfl, rfl⟩
        rw [a1.1, a1.2, a2.1, a2.2]
        exact ⟨rfl, K0.trans K12 (by decide), G0.trans G12 (by decide)⟩
def dfc (cl : Nat) : Int32 × Int32 := if cl = 0 then (1, 2) else if cl = 3 then (0, 0) else (0, 1)
def dfv (cl : Nat) (V : Nat → Int32) : Int32 := if cl = 0 then V 2 else if cl = 3 then 0 else 1
theorem dfl_ok (cl : Nat) (h : cl < 4) (V : Nat → Int32) : [dfl cl] = [dfc cl].map encp ∧ CDz (dfc cl) ∧ Dp [dfc cl] 0 1 ∧ evl V [dfc cl] [] = some [dfv cl V] := by
  rcases (show cl = 0 ∨ cl = 1 ∨ cl = 2 ∨ cl = 3 by omega) with e | e | e | e <;> subst e
  · exact ⟨by decide, Or.inr (Or.inl (by decide)), Or.inr ⟨by decide, by decide, rfl⟩, by
      rw [evl_push (by decide)]
      rfl⟩
  · exact ⟨by decide, Or.inl (by decide), Or.inr ⟨by decide, by decide, rfl⟩, by
      rw [evl_push (by decide)]
      rfl⟩
  · exact ⟨by decide, Or.inl (by decide), Or.inr ⟨by decide, by decide, rfl⟩, by
      rw [evl_push (by decide)]
      rfl⟩
  · exact ⟨by decide, Or.inl (by decide), Or.inr ⟨by decide, by decide, rfl⟩, by
      rw [evl_push (by decide)]
      rfl⟩
theorem law_same {M lo hi : Int} {lob l cl : Nat} {s s' : KS} {z z' : RS} {x1 xp r1 r2 : Int32} (hL : LawR M lo hi lob 260 (s.f 9) (s.f 10) (s.f 11) (s.f 12) cl (4 * l + cl) z) (hl : (z.v 18).toInt = (l : Int)) (hl1 : l ≤ 1) (e1 : x1.toInt = (cl : Int)) (hcl : cl < 4) (hV : VarEq s z) (hp : xp = dfv cl (z.f 40)) (h1 : kX1_valueOf s x1 = some (r1, s')) (h2 : r_lawTells z x1 xp = some (r2, z')) : r1 = r2 ∧ FrK [7, 114] s s' ∧ FrR [42, 141] z z' := by
  unfold kX1_valueOf at h1
  unfold r_lawTells at h2
  obtain ⟨s1, d1, h1⟩ := letS_inv h1
  obtain ⟨_, h1⟩ := guard_inv h1
  obtain ⟨_, h2⟩ := guard_inv h2
  obtain ⟨_, h2⟩ := guard_inv h2
  have m1 : (4 * (z.v 18)).toInt = (z.v 18).toInt * 4 := ti_cmul (c := 4) (by decide) (by omega) (by omega)
  have m2 : ((4 * (z.v 18)) + x1).toInt = ((4 * l + cl : Nat) : Int) := by
    rw [ti_add (by omega) (by omega)]
    omega
  have ei := clamp_of_int m2
  have K1 : FrK [7, 114] s s1 := by rw [← d1]; exact FrK.rfl.sv (by decide)
  have v7 : s1.v 7 = 0 := by rw [← d1]; rfl
  have f12 : s1.f 12 = s.f 12 := (K1.2 12 (by decide)).1
  have f13 : s1.f 13 = s.f 13 := (K1.2 13 (by decide)).1
  rw [clamp_of_int e1, f12] at h1
  rcases hL with ⟨a1, a2, a3, a4⟩ | ⟨b, m, a1, a2, a3, a4, a5⟩
  · rw [ei, if_pos a1] at h2
    have q2 : r2 = xp ∧ z' = z := by cases h2; exact ⟨rfl, rfl⟩
    rw [a2] at h1
    have z10 : ((1 : Int32) - 1) = 0 := by decide
    rw [z10] at h1
    have h1 : kX1_valueOf_19 (kX1_valueOf_19L 19999) s1 x1 0 0 0 = some (r1, s') := h1
    unfold kX1_valueOf_19 at h1
    rw [if_pos (by decide)] at h1
    unfold kX1_valueOf_77 at h1
    obtain ⟨q, t, p1, h1⟩ := bindI_inv h1
    have p1 := pv_inv (k := 0) e1 hcl (by decide) (by omega) p1
    have fr := pv_frL (s0 := s1) _ fu s1 0 _ FrK.rfl (Or.inl rfl) _ p1
    obtain ⟨o1, o2, o3, o4⟩ := dfl_ok cl hcl (s1.f 13)
    have ep : pst (s1.f 10) (s1.f 11) cl 0 = s.f 11 cl := by
      unfold pst
      rw [if_pos rfl, (K1.2 11 (by decide)).1]
    have e10 : s1.f 10 (13 * cl + 0) = s.f 10 (13 * cl) := by rw [(K1.2 10 (by decide)).1]; rfl
    rw [ep, e10] at p1
    have ev := pv_ev (s1.f 13) _ [dfc cl] fu s1 0 _ [] q t rfl (fun p hp => by rw [List.mem_singleton] at hp; rw [hp]; exact o2) o3 a3.1 a3.2.1 (by rw [(K1.2 9 (by decide)).1, ← o1]; exact a3.2.2) (by decide) stk0 p1
    unfold EvK at ev
    rw [o4] at ev
    rcases ev with ⟨v, w1, w2, w3⟩ | ⟨w1, _⟩
    · rw [if_pos (w3.trans v7)] at h1
      have q1 : r1 = q ∧ s' = t := by cases h1; exact ⟨rfl, rfl⟩
      have ev : dfv cl (s1.f 13) = v := by
        injection w1 with w1
        injection w1
      have ed : dfv cl (s1.f 13) = dfv cl (z.f 40) := by
        unfold dfv
        rw [f13, hV 2 (by omega)]
      rw [q1.1, q1.2, q2.1, q2.2]
      exact ⟨by rw [w2, ← ev, ed, hp], K1.trans fr.1 (by decide), FrR.rfl⟩
    · cases w1
  · have ne : ¬ z.f 27 (4 * l + cl) = z.f 28 (4 * l + cl) := fun q => by
      rw [q, a4] at a3
      omega
    rw [ei, if_neg ne] at h2
    obtain ⟨z4, g4, h2⟩ := letS_inv h2
    obtain ⟨_, h2⟩ := guard_inv h2
    have G4 : FrR [42, 141] z z4 := by rw [← g4]; exact FrR.rfl.sv (by decide)
    have v42 : z4.v 42 = 0 := by rw [← g4]; rfl
    have T1 := a5.fr K1 G4
    have V1 := hV.fr K1 G4
    have c1 : ((s.f 12 cl) - 1).toInt = ((3 * m : Nat) : Int) := by
      have q := a5.2.1
      have q0 := a5.1
      rw [tn_sub q (by decide : (1 : Int32).toInt = 1) (by omega) (by omega)]
      omega
    have z27 : z4.f 27 = z.f 27 := (G4.2 27 (by decide)).1
    have z28 : z4.f 28 = z.f 28 := (G4.2 28 (by decide)).1
    obtain ⟨v1, v2, v3⟩ := val_loop (s0 := s1) (z0 := z4) e1 hcl c1 a2 fu fu s1 z4 0 _ 0 T1 V1 (by rw [ei, z28]; exact a4) FrK.rfl FrR.rfl v7 v42 (by omega) (by decide) (by rw [z27]; exact a3) h1 h2
    exact ⟨v1, K1.trans v2 (by decide), G4.trans v3 (by decide)⟩
