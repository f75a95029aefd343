/-! ===== an expression: by descent on one side, by what waits on the other ===== -/
abbrev WEK : List Nat := [12, 15, 16, 17, 122]
abbrev WX : List Nat := [11, 12, 13, 14, 35, 39, 136, 137, 138]
def CompA (x1 : Int32) (z out : RS) : Prop := ∃ m n, r_expression_23L (r_expression_12L m) n z x1 = some out
def CompB (x1 : Int32) (z out : RS) : Prop := ∃ m n, r_expression_96L (r_expression_12L m) n z x1 = some out
def NoMul (s : KS) : Prop := ¬ KAt s = 42 ∧ ¬ KAt s = 47
def NoAdd (s : KS) : Prop := ¬ KAt s = 43 ∧ ¬ KAt s = 45
def ResU (N : Nat) (x1 d : Int32) (s : KS) (z : RS) (s' : KS) (out : RS) : Prop := (∃ z' l, PR2 N s' z' ∧ FrK WEK s s' ∧ FrR WX z z' ∧ z'.v 12 = d ∧ CompB x1 z' out ∧ (s.v 15).toInt + 1 ≤ (s'.v 15).toInt ∧ EMs 1 (13 - 2 * d.toInt) s z s' z' l []) ∨ FR2 s' out
def ResP (N : Nat) (x1 d : Int32) (s : KS) (z : RS) (s' : KS) (out : RS) : Prop := (∃ z' l P, PR2 N s' z' ∧ FrK WEK s s' ∧ FrR WX z z' ∧ z'.v 12 = d ∧ CompB x1 z' out ∧ (s.v 15).toInt + 1 ≤ (s'.v 15).toInt ∧ NoMul s' ∧ EMs 1 (14 - 2 * d.toInt) s z s' z' l P) ∨ FR2 s' out
def ResS (N : Nat) (x1 d : Int32) (s : KS) (z : RS) (s' : KS) (out : RS) : Prop := (∃ z' l P, PR2 N s' z' ∧ FrK WEK s s' ∧ FrR WX z z' ∧ z'.v 12 = d ∧ CompB x1 z' out ∧ (s.v 15).toInt + 1 ≤ (s'.v 15).toInt ∧ NoMul s' ∧ NoAdd s' ∧ EMs 0 (15 - 2 * d.toInt) s z s' z' l P) ∨ FR2 s' out
def SimR (N : Nat) (x1 : Int32) (R : KS → Int32 → Option KS) : Prop := ∀ (s : KS) (z : RS) (s' : KS) (out : RS) (d : Int32), PR2 N s z → TK2 N s z → z.v 12 = d → x1.toInt ≤ d.toInt → d.toInt ≤ 6 → PreE s z → StpW 0 (z.f 38) (z.v 39).toNatClampNeg → R s d = some s' → CompA x1 z out → ResS N x1 d s z s' out
theorem kpl_varv : ∀ p ∈ kpl, (¬ (p.1 - 266 < 0) ∧ ¬ (9 ≤ p.1 - 266)) → (p.1 - 266 = p.2 - 30 ∧ 0 ≤ (p.2 - 30).toInt ∧ (p.2 - 30).toInt ≤ 8) := by decide +kernel
theorem fr_put {s0 s : KS} (x : Int32) (h : FrK WEK s0 s) : Pt (kX1_put s x) (fun y => FrK WEK s0 y ∧ y.v 15 = s.v 15 ∧ y.v 16 = s.v 16 ∧ y.v 17 = s.v 17 ∧ y.f 32 = s.f 32) := by
  unfold kX1_put
  refine pt_ite (fun _ => pt_some ⟨h, rfl, rfl, rfl, rfl⟩) (fun _ => pt_ite (fun _ => ?_) (fun _ => pt_none))
  refine pt_let (P := fun y => FrK WEK s0 y ∧ y.v 15 = s.v 15 ∧ y.v 16 = s.v 16 ∧ y.v 17 = s.v 17 ∧ y.f 32 = s.f 32) ⟨h.sf (by decide), rfl, rfl, rfl, rfl⟩ (fun t h => ?_)
  exact pt_let (P := fun y => FrK WEK s0 y ∧ y.v 15 = s.v 15 ∧ y.v 16 = s.v 16 ∧ y.v 17 = s.v 17 ∧ y.f 32 = s.f 32) ⟨h.1.sv (by decide), h.2.1, h.2.2.1, h.2.2.2.1, h.2.2.2.2⟩ (fun t h => pt_some h)
theorem PR2.keep {N : Nat} {s s' : KS} {z z' : RS} (h : PR2 N s z) (e1 : s'.v 15 = s.v 15) (e2 : s'.v 16 = s.v 16) (e3 : z'.v 11 = z.v 11) (e4 : z'.v 13 = z.v 13) : PR2 N s' z' := by
  unfold PR2
  rw [e1, e2, e3, e4]
  exact h
/-- an operand is taken: an INT or a VAR -/
theorem opd {N : Nat} {x1 : Int32} {s s2 s' : KS} {z z2 z4 out : RS} {c d : Int32} {m : Nat} {p : Int32 × Int32} (hE : (s.v 15).toInt < 400 → EmK s s2 [encp p]) (hEz : EmZ z z2 [p]) (h39 : 0 ≤ (z.v 39).toInt) (e39 : z2.v 39 = z.v 39) (e38 : z2.f 38 = z.f 38) (hp : CDz p) (hp1 : p.1.toInt ≤ 1) (hd6 : d.toInt ≤ 6) (hP : PR2 N s2 z2) (hT : TK2 N s2 z2) (hk : KAt s2 = c) (hc : ¬ c = 302 ∧ ¬ c = 303) (h12 : z2.v 12 = d) (hF : FrK WEK s s2) (hG : FrR WX z z2) (e15 : s2.v 15 = s.v 15) (hs : kX4_take s2 c = some s') (hg : r_goesOn z2 = some z4) (hz : (if (z4.v 13) ≤ 0 then r_expression_96L (r_expression_12L m) fu z4 x1 else (some z4)) = some out) : ResU N x1 d s z s' out := by
  by_cases hl : s2.v 15 = 400
  · have hl2 : z2.v 11 = 400 := by rw [← hP.2.2.1]; exact hl
    have nl : ¬ s2.v 15 < 400 := by rw [hl]; decide
    have e1 := ktake_room hP.1 hP.kv hk nl
    rw [hs] at e1
    have e2 := zgo_room hP.2.1 hP.zv hl2
    rw [hg] at e2
    cases e1
    cases e2
    have n2 : ¬ (zfl z2 2).v 13 ≤ 0 := by show ¬ (2 : Int32) ≤ 0; decide
    rw [if_neg n2] at hz
    cases hz
    exact Or.inr (hP.fail hT 2 (by decide))
  · have q := hP.lt hl
    have e1 := ktake_yes hP.1 hP.kv hk q.1
    rw [hs] at e1
    have e2 := zgo_ok q.2.2
    rw [hg] at e2
    cases e1
    cases e2
    have a := hP.adv hT (fun q => hc.1 (hk.symm.trans q)) (fun q => hc.2 (hk.symm.trans q)) hl
    have n2 : (zad z2).v 13 ≤ 0 := by rw [a.1.2.1]; decide
    rw [if_pos n2] at hz
    refine Or.inl ⟨zad z2, [p], a.1, hF.sv (by decide), hG.sv (by decide), h12, ⟨m, fu, hz⟩, ?_, ?_⟩
    · rw [a.2, e15]
      exact Int.le_refl _
    · have lt := q.2.1
      rw [e15] at lt
      refine EMs.unit ((hE lt).keep rfl rfl) (hEz.keep rfl rfl rfl) h39 e39 (fun i _ => ?_) ?_ (fun q hq => ?_) (fun b hb => ?_)
      · show z2.f 38 i = _
        rw [e38]
      · show ((1 : Nat) : Int) + (s.v 15).toInt ≤ ((kad s2).v 15).toInt
        rw [a.2, e15]
        omega
      · rw [List.mem_singleton] at hq
        rw [hq]
        exact hp
      · exact Or.inr ⟨hp1, by omega, rfl⟩
theorem sim_unit {N : Nat} {x1 : Int32} {R : KS → Int32 → Option KS} (hR : SimR N x1 R) (hRst : ∀ (a b : Int32), ¬ a = 0 → ∀ (s : KS) (x : Int32), Sk a b s → Pt (R s x) (Sk a b)) {s s' : KS} {z out : RS} {d : Int32} (hP : PR2 N s z) (hT : TK2 N s z) (h12 : z.v 12 = d) (hd0 : x1.toInt ≤ d.toInt) (hd6 : d.toInt ≤ 6) (hx0 : 0 ≤ x1.toInt) (hE : PreE s z) (hs : kX4_readUnit R s d = some s') (hz : CompA x1 z out) : ResU N x1 d s z s' out := by
  obtain ⟨m, n, hz⟩ := hz
  cases n with
  | zero => exact none_ne hz
  | succ n =>
  have hz : r_expression_23 (r_expression_12L m) (r_expression_23L (r_expression_12L m) n) z x1 = some out := hz
  have hk := hP.kp hT
  have i2 := kp2 hk (c0 := 301) (r0 := 2) (by decide)
  have i6 := kp2 hk (c0 := 40) (r0 := 6) (by decide)
  unfold r_expression_23 at hz
  unfold kX4_readUnit at hs
  rw [if_pos hP.kv] at hs
  by_cases c1 : KAt s = 301
  · -- an INT
    have z6 : ¬ ZAt z = 6 := fun q => by rw [i6.mpr q] at c1; exact absurd c1 (by decide)
    rw [zis_no hP.2.1 hP.zv z6, bindI_some, if_pos rfl] at hz
    rw [kat_yes hP.1 hP.kv c1, bindI_some, if_neg z_one, if_pos hP.kv] at hs
    obtain ⟨z4, hu, hz⟩ := bindP_inv hz
    unfold r_unit at hu
    rw [zis_yes hP.2.1 hP.zv (i2.mp c1), bindI_some, if_neg z_one, if_pos hP.zv] at hu
    obtain ⟨z13, he, hu⟩ := bindP_inv hu
    obtain ⟨z14, hg, hu⟩ := bindP_inv hu
    cases hu
    obtain ⟨s10, hp, hs⟩ := bindP_inv hs
    obtain ⟨s11, ht, hs⟩ := bindP_inv hs
    cases hs
    unfold kX1_putNumber at hp
    rw [bindP_id] at hp
    have f1 := fr_put (s0 := s) _ FrK.rfl _ hp
    have f2 := fr_emit (z0 := z) _ _ FrR.rfl _ he
    have f2' : FrR WX z z13 := FrR.rfl.trans f2 (by decide)
    have P2 : PR2 N s10 z13 := hP.keep f1.2.1 f1.2.2.1 (f2.1 11 (by decide)) (f2.1 13 (by decide))
    have k2 : KAt s10 = 301 := by unfold KAt; rw [f1.2.1, f1.2.2.2.2]; exact c1
    have tv := (hT.1 _ hP.le).2.2.1 c1
    have ev : Int64.toInt32 (s.g 34 (s.v 15).toNatClampNeg) = z.f 7 (z.v 11).toNatClampNeg := by rw [← hP.2.2.1]; exact tv.1
    have e0 : 0 ≤ (z.f 7 (z.v 11).toNatClampNeg).toInt := by rw [← hP.2.2.1]; exact tv.2.1
    obtain ⟨Ez, Fz⟩ := emit_em hE.2.2.1 he
    have Ek : (s.v 15).toInt < 400 → EmK s s10 [encp (0, z.f 7 (z.v 11).toNatClampNeg)] := fun lt => by
      have q := put_em hE.1 (by have := hE.2.1; omega) hp
      rw [encp_num, ← ev]
      exact q
    exact opd Ek Ez hE.2.2.2 (Fz.1 39 (by decide)) (Fz.2 38 (by decide)).1 (Or.inl ⟨rfl, e0⟩) (show (0 : Int32).toInt ≤ 1 by decide) hd6 P2 (hT.fr f1.1 f2' (by decide) (by decide)) k2 (by decide) ((f2.1 12 (by decide)).trans h12) f1.1 f2' f1.2.1 ht hg hz
  · have z2 : ¬ ZAt z = 2 := fun q => c1 (i2.mpr q)
    rw [kat_no hP.1 hP.kv c1, bindI_some, if_pos rfl] at hs
    obtain ⟨p, hp, ep1, ep2⟩ := id hk
    have hvar := kpl_var p hp
    have hvarn := kpl_varn p hp
    have hvarv := kpl_varv p hp
    rw [← ep1] at hvar hvarn hvarv
    rw [← ep2] at hvar hvarv
    by_cases cv : ¬ (KAt s - 266 < 0) ∧ ¬ (9 ≤ KAt s - 266)
    · -- a VAR
      have zv := hvar.mp cv
      have cn := hvarn cv
      have z6 : ¬ ZAt z = 6 := fun q => by
        have := zv.1
        rw [q] at this
        exact this (by decide)
      rw [if_neg cv.1, if_neg cv.2] at hs
      rw [zis_no hP.2.1 hP.zv z6, bindI_some, if_pos rfl] at hz
      obtain ⟨z4, hu, hz⟩ := bindP_inv hz
      unfold r_unit at hu
      rw [zis_no hP.2.1 hP.zv z2, bindI_some, if_pos rfl, if_pos hP.2.1, if_pos hP.zv, if_neg zv.1, if_pos hP.zv, if_neg zv.2, if_pos hP.zv] at hu
      obtain ⟨z13, he, hu⟩ := bindP_inv hu
      obtain ⟨z14, hg, hu⟩ := bindP_inv hu
      cases hu
      obtain ⟨s10, hp, hs⟩ := bindP_inv hs
      obtain ⟨s11, ht, hs⟩ := bindP_inv hs
      cases hs
      unfold kX1_putVar at hp
      rw [bindP_id] at hp
      have f1 := fr_put (s0 := s) _ FrK.rfl _ hp
      have f2 := fr_emit (z0 := z) _ _ FrR.rfl _ he
      have f2' : FrR WX z z13 := FrR.rfl.trans f2 (by decide)
      have P2 : PR2 N s10 z13 := hP.keep f1.2.1 f1.2.2.1 (f2.1 11 (by decide)) (f2.1 13 (by decide))
      have k2 : KAt s10 = KAt s := by unfold KAt; rw [f1.2.1, f1.2.2.2.2]
      have hv3 := hvarv cv
      obtain ⟨Ez, Fz⟩ := emit_em hE.2.2.1 he
      have Ek : (s.v 15).toInt < 400 → EmK s s10 [encp (1, ZAt z - 30)] := fun lt => by
        have q := put_em hE.1 (by have := hE.2.1; omega) hp
        rw [encp_var, ← hv3.1]
        exact q
      exact opd Ek Ez hE.2.2.2 (Fz.1 39 (by decide)) (Fz.2 38 (by decide)).1 (Or.inr (Or.inl ⟨rfl, hv3.2⟩)) (show (1 : Int32).toInt ≤ 1 by decide) hd6 P2 (hT.fr f1.1 f2' (by decide) (by decide)) k2 cn ((f2.1 12 (by decide)).trans h12) f1.1 f2' f1.2.1 ht hg hz
    · have zv : ¬ (¬ ZAt z < 30 ∧ ¬ 38 < ZAt z) := fun q => cv (hvar.mpr q)
      have hs : kX4_readUnit_91 R s d = some s' := by
        by_cases q1 : KAt s - 266 < 0
        · rw [if_pos q1] at hs; exact hs
        · by_cases q2 : 9 ≤ KAt s - 266
          · rw [if_neg q1, if_pos q2] at hs; exact hs
          · exact absurd ⟨q1, q2⟩ cv
      unfold kX4_readUnit_91 at hs
      by_cases c6 : KAt s = 40
      · -- a bracket
        have z6 := i6.mp c6
        rw [kat_yes hP.1 hP.kv c6, bindI_some, if_neg z_one] at hs
        rw [zis_yes hP.2.1 hP.zv z6, bindI_some, if_neg z_one] at hz
        by_cases hd : d = 6
        · have nd : ¬ d < 6 := by rw [hd]; decide
          have z12 : z.v 12 = 6 := h12.trans hd
          rw [if_neg nd, kfail_eq hP.1 hP.kv] at hs
          cases hs
          rw [if_pos z12, zfail_eq hP.2.1 hP.zv, bindP_some] at hz
          have F := hP.fail hT 2 (by decide)
          have q := sz_expr_46 (a := 2) (b := (zfl z 2).v 14) (by decide) _ n x1 ⟨rfl, rfl⟩ _ hz
          exact Or.inr ⟨by rw [q.1]; decide, by rw [q.1]; rfl, by rw [q.2]; exact F.2.2⟩
        · have nd : d < 6 := Int32.lt_iff_toInt_lt.mpr (by
            have := tn_ne (b := 6) rfl (by decide) hd
            rw [show (6 : Int32).toInt = 6 from by decide]
            omega)
          have dl : d.toInt ≤ 5 := by
            have := tn_lt (b := 6) rfl (by decide) nd
            omega
          have z12 : ¬ z.v 12 = 6 := by rw [h12]; exact hd
          have a12 : (d + 1).toInt = d.toInt + 1 := tn_add rfl (by decide) (by omega) (by omega)
          rw [if_pos nd] at hs
          unfold kX4_readUnit_114 at hs
          rw [kat_yes hP.1 hP.kv c6, bindI_some, if_neg z_one] at hs
          rw [if_neg z12] at hz
          obtain ⟨s5, ht, hs⟩ := bindP_inv hs
          obtain ⟨s6, hr, hs⟩ := bindP_inv hs
          obtain ⟨s7, hc, hs⟩ := bindP_inv hs
          cases hs
          by_cases hl : s.v 15 = 400
          · -- no room
            have nl : ¬ s.v 15 < 400 := by rw [hl]; decide
            have hl2 : (z.sv 12 ((z.v 12) + 1)).v 11 = 400 := by show z.v 11 = 400; rw [← hP.2.2.1]; exact hl
            have e1 := ktake_room hP.1 hP.kv c6 nl
            rw [ht] at e1
            cases e1
            have F := hP.fail hT 2 (by decide)
            unfold r_expression_46 at hz
            obtain ⟨y1, ey1, hz⟩ := letS_inv hz
            subst ey1
            rw [zgo_room (show (z.sv 12 ((z.v 12) + 1)).v 13 = 0 from hP.2.1) hP.zv hl2, bindP_some] at hz
            obtain ⟨_, hz⟩ := guard_inv hz
            obtain ⟨y2, ey2, hz⟩ := letS_inv hz
            obtain ⟨y3, ey3, hz⟩ := letS_inv hz
            have q3 : Sz 2 ((zfl z 2).v 14) y3 := by rw [← ey3, ← ey2]; exact ⟨rfl, rfl⟩
            have q := sz_expr_23L (by decide) _ n x1 q3 _ hz
            have k5 : Sk 2 ((kfl s 2).v 17) (kfl s 2) := ⟨rfl, rfl⟩
            have k6 := hRst 2 _ (by decide) _ _ k5 _ hr
            have k7 := sk_take (by decide) _ k6 _ hc
            exact Or.inr ⟨by rw [q.1]; decide, by rw [q.1, k7.1], by rw [q.2, k7.2]; exact F.2.2⟩
          · have q := hP.lt hl
            have e1 := ktake_yes hP.1 hP.kv c6 q.1
            rw [ht] at e1
            cases e1
            have A := hP.adv hT (fun q => by rw [c6] at q; exact absurd q (by decide)) (fun q => by rw [c6] at q; exact absurd q (by decide)) hl
            unfold r_expression_46 at hz
            obtain ⟨y1, ey1, hz⟩ := letS_inv hz
            subst ey1
            rw [zgo_ok (show ¬ (z.sv 12 ((z.v 12) + 1)).v 11 = 400 from q.2.2), bindP_some] at hz
            obtain ⟨g39, hz⟩ := guard_inv hz
            obtain ⟨y2, ey2, hz⟩ := letS_inv hz
            obtain ⟨y3, ey3, hz⟩ := letS_inv hz
            have G3 : FrR WX z y3 := by
              rw [← ey3, ← ey2]
              exact (((FrR.rfl.sv (k := 12) (by decide)).sv (k := 11) (by decide)).sf (k := 38) (by decide)).sv (k := 39) (by decide)
            have v12 : y3.v 12 = d + 1 := by rw [← ey3, ← ey2, ← h12]; rfl
            have P3 : PR2 N (kad s) y3 := A.1.keep rfl rfl (by rw [← ey3, ← ey2]; rfl) (by rw [← ey3, ← ey2]; rfl)
            have K3 : FrK WEK s (kad s) := FrK.rfl.sv (by decide)
            have T3 : TK2 N (kad s) y3 := hT.fr K3 G3 (by decide) (by decide)
            have g39 : ¬ ((z.v 39) < 0 ∨ 64 ≤ (z.v 39).toNatClampNeg) := of_decide_eq_true g39
            have b39 : ¬ 64 ≤ (z.v 39).toNatClampNeg := fun q => g39 (Or.inr q)
            have e39 : (z.v 39).toInt.toNat = (z.v 39).toNatClampNeg := Int32.toNat_toInt _
            have p39 := hE.2.2.2
            have y39 : y3.v 39 = (z.v 39) + 1 := by rw [← ey3, ← ey2]; rfl
            have a39 : ((z.v 39) + 1).toInt = (z.v 39).toInt + 1 := tn_add rfl (by decide) (by omega) (by omega)
            have c39 : (y3.v 39).toNatClampNeg = (z.v 39).toNatClampNeg + 1 := by rw [y39]; exact clamp_of_int (by omega)
            have y35 : y3.v 35 = z.v 35 := by rw [← ey3, ← ey2]; rfl
            have y36 : y3.f 36 = z.f 36 := by rw [← ey3, ← ey2]; rfl
            have y37 : y3.f 37 = z.f 37 := by rw [← ey3, ← ey2]; rfl
            have y38 : ∀ j, y3.f 38 j = if j = (z.v 39).toNatClampNeg then 6 else z.f 38 j := fun j => by
              rw [← ey3, ← ey2]
              exact rsf_at
            have PE3 : PreE (kad s) y3 := by
              refine ⟨hE.1, ?_, by rw [y35]; exact hE.2.2.1, by rw [y39]; omega⟩
              have := hE.2.1
              rw [A.2]
              show (s.v 12).toInt ≤ _
              omega
            have ST3 : StpW 0 (y3.f 38) (y3.v 39).toNatClampNeg := Or.inr ⟨(z.v 39).toNatClampNeg, c39, Or.inl (by rw [y38, if_pos rfl])⟩
            rcases hR (kad s) y3 s6 out (d + 1) P3 T3 v12 (by omega) (by omega) PE3 ST3 hr ⟨m, n, hz⟩ with ⟨z6, l, P, P6, K6, G6, v6, ⟨m6, n6, hz6⟩, l6, nm, na, E6⟩ | F
            · have T6 := T3.fr K6 G6 (by decide) (by decide)
              have hk6 := P6.kp T6
              have i7 := kp2 hk6 (c0 := 41) (r0 := 7) (by decide)
              cases n6 with
              | zero => exact none_ne hz6
              | succ n6 =>
              have hz6 : r_expression_96 (r_expression_12L m6) (r_expression_96L (r_expression_12L m6) n6) z6 x1 = some out := hz6
              unfold r_expression_96 at hz6
              have nle : ¬ z6.v 12 ≤ x1 := fun q => by
                have := ti_le q
                rw [v6] at this
                omega
              by_cases c7 : KAt s6 = 41
              · rw [zis_yes P6.2.1 P6.zv (i7.mp c7), bindI_some, if_neg z_one, if_neg nle] at hz6
                obtain ⟨w5, hw5, hz6⟩ := bindP_inv hz6
                obtain ⟨w6, ew6, hz6⟩ := letS_inv hz6
                obtain ⟨w8, ew8, hz6⟩ := letS_inv hz6
                obtain ⟨w10, hg, hz6⟩ := bindP_inv hz6
                have f5 := fr_comesOut z6 0 _ hw5
                have G8 : FrR WX z6 w8 := by
                  rw [← ew8, ← ew6]
                  exact (((FrR.rfl.trans f5 (by decide)).sv (k := 39) (by decide)).sv (k := 12) (by decide))
                have v8 : w8.v 12 = d := by
                  have : w8.v 12 = (w5.v 12) - 1 := by rw [← ew8, ← ew6]; rfl
                  rw [this, f5.1 12 (by decide), v6]
                  refine Int32.toInt_inj.mp ?_
                  rw [tn_sub a12 (by decide : (1 : Int32).toInt = 1) (by omega) (by omega)]
                  omega
                have P8 : PR2 N s6 w8 := P6.keep rfl rfl (by rw [← ew8, ← ew6]; exact f5.1 11 (by decide)) (by rw [← ew8, ← ew6]; exact f5.1 13 (by decide))
                have T8 := T6.fr FrK.rfl G8 (W := []) (by decide) (by decide)
                by_cases hl6 : s6.v 15 = 400
                · have nl6 : ¬ s6.v 15 < 400 := by rw [hl6]; decide
                  have e6 := ktake_room P8.1 P8.kv c7 nl6
                  rw [hc] at e6
                  cases e6
                  have e7 := zgo_room P8.2.1 P8.zv (by rw [← P8.2.2.1]; exact hl6)
                  rw [hg] at e7
                  cases e7
                  have F := P8.fail T8 2 (by decide)
                  have q := sz_expr_96L (a := 2) (b := (zfl w8 2).v 14) (by decide) _ n6 x1 ⟨rfl, rfl⟩ _ hz6
                  exact Or.inr ⟨by rw [q.1]; decide, by rw [q.1]; rfl, by rw [q.2]; exact F.2.2⟩
                · have q6 := P8.lt hl6
                  have e6 := ktake_yes P8.1 P8.kv c7 q6.1
                  rw [hc] at e6
                  cases e6
                  have e7 := zgo_ok q6.2.2
                  rw [hg] at e7
                  cases e7
                  have B := P8.adv T8 (fun q => by rw [c7] at q; exact absurd q (by decide)) (fun q => by rw [c7] at q; exact absurd q (by decide)) hl6
                  have z635 : 0 ≤ (z6.v 35).toInt := by
                    have q := E6.2.1.2.1
                    have q2 := PE3.2.2.1
                    omega
                  have co := come_out 0 P fu z6 w5 (y3.v 39).toNatClampNeg E6.2.2.1.2 z635 E6.2.2.2.1 E6.2.2.2.2.2.1 (ST3.cg E6.2.2.2.2.1) hw5
                  have w38 : w5.f 38 = z6.f 38 := (f5.2 38 (by decide)).1
                  have w839 : w8.v 39 = z.v 39 := by
                    have q1 : w8.v 39 = (w5.v 39) - 1 := by rw [← ew8, ← ew6]; rfl
                    rw [q1]
                    refine Int32.toInt_inj.mp ?_
                    rw [tn_sub co.1 (by decide : (1 : Int32).toInt = 1) (by omega) (by omega)]
                    omega
                  have w838 : w8.f 38 = w5.f 38 := by rw [← ew8, ← ew6]; rfl
                  have w835 : w8.v 35 = w5.v 35 := by rw [← ew8, ← ew6]; rfl
                  have w836 : w8.f 36 = w5.f 36 := by rw [← ew8, ← ew6]; rfl
                  have w837 : w8.f 37 = w5.f 37 := by rw [← ew8, ← ew6]; rfl
                  refine Or.inl ⟨zad w8, l ++ P.map pk, B.1, ((K3.trans K6 (by decide)).sv (by decide)), (((G3.trans G6 (by decide)).trans G8 (by decide)).sv (by decide)), v8, ⟨m6, n6, hz6⟩, ?_, ?_⟩
                  · have := A.2
                    rw [B.2]
                    omega
                  · refine EMs.unit ((E6.1.from rfl rfl).keep rfl rfl) (((E6.2.1.from y35 y36 y37).trans co.2).keep w835 w836 w837) p39 w839 (fun i hi => ?_) ?_ E6.2.2.2.2.2.2.2.1 (fun a ha => ?_)
                    · show w8.f 38 i = _
                      rw [w838, w38, E6.2.2.2.2.1 i (by omega), y38, if_neg (by omega)]
                    · have q := E6.2.2.2.2.2.2.1
                      have := A.2
                      rw [B.2]
                      omega
                    · exact E6.2.2.2.2.2.2.2.2 a (by rw [a12]; omega)
              · have e6 := ktake_no P6.1 P6.kv c7
                rw [hc] at e6
                cases e6
                have nz : ∀ c0 r0, ((c0, r0) : Int32 × Int32) ∈ kpl → ¬ KAt s6 = c0 → ¬ ZAt z6 = r0 := fun c0 r0 hm hn q => hn ((kp2 hk6 hm).mpr q)
                rw [zis_no P6.2.1 P6.zv (fun q => c7 (i7.mpr q)), bindI_some, if_pos rfl] at hz6
                unfold r_expression_145 at hz6
                rw [zis_no P6.2.1 P6.zv (nz 43 8 (by decide) na.1), bindI_some, if_pos rfl, zis_no P6.2.1 P6.zv (nz 45 9 (by decide) na.2), bindI_some, if_pos rfl, zis_no P6.2.1 P6.zv (nz 42 10 (by decide) nm.1), bindI_some, if_pos rfl, zis_no P6.2.1 P6.zv (nz 47 15 (by decide) nm.2), bindI_some, if_pos rfl] at hz6
                unfold r_expression_186 at hz6
                rw [if_pos rfl, if_neg nle, zfail_eq P6.2.1 P6.zv, bindP_some] at hz6
                unfold r_expression_204 at hz6
                obtain ⟨w1, hw1, hz6⟩ := bindP_inv hz6
                cases hz6
                have F := P6.fail T6 1 (by decide)
                have q := sz_comesOut (a := 1) (b := (zfl z6 1).v 14) (by decide) 0 ⟨rfl, rfl⟩ _ hw1
                exact Or.inr ⟨by rw [q.1]; decide, by rw [q.1]; rfl, by rw [q.2]; exact F.2.2⟩
            · -- a fault inside
              have ne : ¬ s6.v 16 = 0 := fun q => by
                have := F.1
                rw [← F.2.1, q] at this
                exact absurd this (by decide)
              rw [ktake_off ne] at hc
              cases hc
              exact Or.inr F
      · -- nothing that may stand here
        rw [kat_no hP.1 hP.kv c6, bindI_some, if_pos rfl] at hs
        unfold kX4_readUnit_114 at hs
        rw [kat_no hP.1 hP.kv c6, bindI_some, if_pos rfl, kfail_eq hP.1 hP.kv, bindP_some] at hs
        cases hs
        rw [zis_no hP.2.1 hP.zv (fun q => c6 (i6.mpr q)), bindI_some, if_pos rfl] at hz
        obtain ⟨z4, hu, hz⟩ := bindP_inv hz
        have e4 : z4 = zfl z 1 := by
          unfold r_unit at hu
          rw [zis_no hP.2.1 hP.zv z2, bindI_some, if_pos rfl, if_pos hP.2.1, if_pos hP.zv] at hu
          unfold r_unit_88 at hu
          rw [zfail_eq hP.2.1 hP.zv, bindP_some] at hu
          by_cases q1 : ZAt z < 30
          · rw [if_pos q1] at hu
            cases hu
            rfl
          · by_cases q2 : 38 < ZAt z
            · rw [if_neg q1, if_pos hP.zv, if_pos q2] at hu
              cases hu
              rfl
            · exact absurd ⟨q1, q2⟩ zv
        subst e4
        have n1 : ¬ (zfl z 1).v 13 ≤ 0 := by show ¬ (1 : Int32) ≤ 0; decide
        rw [if_neg n1] at hz
        cases hz
        exact Or.inr (hP.fail hT 1 (by decide))
