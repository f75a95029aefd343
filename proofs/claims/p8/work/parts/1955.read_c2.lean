/-! ===== products, sums, the whole expression ===== -/
/-- an operator stands here: the reference lets come out what waits, puts it by and goes on -/
theorem op_b {N : Nat} {x1 : Int32} {z out : RS} {x t : Int32} {P : List Int32} {h : Nat} (hP : ∃ s, PR2 N s z) (hn7 : ¬ ZAt z = 7) (hx : x = 8 ∨ x = 9 ∨ x = 10 ∨ x = 15) (hk : ZAt z = x) (ht : ((x = 8 ∨ x = 9) ∧ t = 0) ∨ ((x = 10 ∨ x = 15) ∧ t = 1)) (h39 : 0 ≤ (z.v 39).toInt) (h35 : 0 ≤ (z.v 35).toInt) (hS : StkOn (z.f 38) h P (z.v 39).toNatClampNeg) (hp : ∀ w ∈ P, PopOK t w) (hst : StpW t (z.f 38) h) (hz : CompB x1 z out) : (¬ z.v 11 = 400 → ∃ w, FrR WX z w ∧ w.v 11 = (z.v 11) + 1 ∧ w.v 12 = z.v 12 ∧ w.v 13 = 0 ∧ CompA x1 w out ∧ EmZ z w (P.map pk) ∧ (w.v 39).toInt = (h : Int) + 1 ∧ w.f 38 h = x ∧ (∀ i, i < h → w.f 38 i = z.f 38 i)) ∧ (z.v 11 = 400 → out.v 13 = 2 ∧ out.v 14 = z.f 6 (z.v 11).toNatClampNeg) := by
  obtain ⟨s, hP⟩ := hP
  obtain ⟨m, n, hz⟩ := hz
  cases n with
  | zero => exact none_ne hz
  | succ n =>
  have hz : r_expression_96 (r_expression_12L m) (r_expression_96L (r_expression_12L m) n) z x1 = some out := hz
  unfold r_expression_96 at hz
  rw [zis_no hP.2.1 hP.zv hn7, bindI_some, if_pos rfl] at hz
  have key : ∀ t0, t0 = t → r_expression_234 (r_expression_12L m) z x1 1 t0 = some out → (¬ z.v 11 = 400 → ∃ w, FrR WX z w ∧ w.v 11 = (z.v 11) + 1 ∧ w.v 12 = z.v 12 ∧ w.v 13 = 0 ∧ CompA x1 w out ∧ EmZ z w (P.map pk) ∧ (w.v 39).toInt = (h : Int) + 1 ∧ w.f 38 h = x ∧ (∀ i, i < h → w.f 38 i = z.f 38 i)) ∧ (z.v 11 = 400 → out.v 13 = 2 ∧ out.v 14 = z.f 6 (z.v 11).toNatClampNeg) := by
    intro t0 et hz
    subst et
    unfold r_expression_234 at hz
    obtain ⟨w1, h1, hz⟩ := bindP_inv hz
    obtain ⟨g1, hz⟩ := guard_inv hz
    obtain ⟨g39, hz⟩ := guard_inv hz
    obtain ⟨w4, e4, hz⟩ := letS_inv hz
    obtain ⟨w6, e6, hz⟩ := letS_inv hz
    obtain ⟨w8, hg, hz⟩ := bindP_inv hz
    have f1 := fr_comesOut z t0 _ h1
    have co := come_out t0 P fu z w1 h h39 h35 hS hp hst h1
    have g39 : ¬ ((w1.v 39) < 0 ∨ 64 ≤ (w1.v 39).toNatClampNeg) := of_decide_eq_true g39
    have b39 : ¬ 64 ≤ (w1.v 39).toNatClampNeg := fun q => g39 (Or.inr q)
    have c39 : (w1.v 39).toNatClampNeg = h := clamp_of_int co.1
    have a39 : ((w1.v 39) + 1).toInt = (h : Int) + 1 := tn_add co.1 (by decide) (by omega) (by omega)
    have v39 : w6.v 39 = (w1.v 39) + 1 := by rw [← e6, ← e4]; rfl
    have f38 : ∀ j, w6.f 38 j = if j = h then x else z.f 38 j := fun j => by
      have q : w6.f 38 j = if j = (w1.v 39).toNatClampNeg then w1.f 5 (w1.v 11).toNatClampNeg else w1.f 38 j := by
        rw [← e6, ← e4]
        exact rsf_at
      rw [q, c39, (f1.2 5 (by decide)).1, f1.1 11 (by decide), (f1.2 38 (by decide)).1]
      show (if j = h then ZAt z else z.f 38 j) = _
      rw [hk]
    have E6 : EmZ z w6 (P.map pk) := co.2.keep (by rw [← e6, ← e4]; rfl) (by rw [← e6, ← e4]; rfl) (by rw [← e6, ← e4]; rfl)
    have G6 : FrR WX z w6 := by
      rw [← e6, ← e4]
      exact ((FrR.rfl.trans f1 (by decide)).sf (k := 38) (by decide)).sv (k := 39) (by decide)
    have v11 : w6.v 11 = z.v 11 := by rw [← e6, ← e4]; exact f1.1 11 (by decide)
    have v12 : w6.v 12 = z.v 12 := by rw [← e6, ← e4]; exact f1.1 12 (by decide)
    have v13 : w6.v 13 = 0 := by rw [← e6, ← e4]; exact (f1.1 13 (by decide)).trans hP.2.1
    have f6 : w6.f 6 = z.f 6 := by rw [← e6, ← e4]; exact (f1.2 6 (by decide)).1
    have vp : vpb (w6.v 11) 403 = true := by rw [v11]; exact hP.zv
    constructor
    · intro hl
      have e8 := zgo_ok (z := w6) (by rw [v11]; exact hl)
      rw [hg] at e8
      cases e8
      cases m with
      | zero => exact none_ne hz
      | succ m =>
      have hz : r_expression_12 (r_expression_12L m) (zad w6) x1 1 = some out := hz
      unfold r_expression_12 at hz
      rw [if_neg z_one, if_pos (show (zad w6).v 13 = 0 from v13)] at hz
      refine ⟨zad w6, G6.sv (by decide), ?_, v12, v13, ⟨m, fu, hz⟩, E6.keep rfl rfl rfl, ?_, ?_, fun i hi => ?_⟩
      · show (w6.v 11) + 1 = _
        rw [v11]
      · show (w6.v 39).toInt = _
        rw [v39]
        exact a39
      · show w6.f 38 h = x
        rw [f38, if_pos rfl]
      · show w6.f 38 i = _
        rw [f38, if_neg (by omega)]
    · intro hl
      have e8 := zgo_room (z := w6) v13 vp (by rw [v11]; exact hl)
      rw [hg] at e8
      cases e8
      cases m with
      | zero => exact none_ne hz
      | succ m =>
      have hz : r_expression_12 (r_expression_12L m) (zfl w6 2) x1 1 = some out := hz
      unfold r_expression_12 at hz
      have n2 : ¬ (zfl w6 2).v 13 = 0 := by show ¬ (2 : Int32) = 0; decide
      rw [if_neg z_one, if_neg n2] at hz
      cases hz
      refine ⟨rfl, ?_⟩
      show w6.f 6 (w6.v 11).toNatClampNeg = _
      rw [f6, v11]
  have no : ∀ y : Int32, ¬ x = y → r_is z y = some (0, z) := fun y hy => zis_no hP.2.1 hP.zv (fun q => hy (hk.symm.trans q))
  have ye : r_is z x = some (1, z) := zis_yes hP.2.1 hP.zv hk
  unfold r_expression_145 at hz
  rcases hx with e | e | e | e
  · subst e
    rw [ye, bindI_some, if_neg z_one] at hz
    unfold r_expression_181 r_expression_186 at hz
    rw [if_neg z_one, no 10 (by decide), bindI_some, if_pos rfl, no 15 (by decide), bindI_some, if_pos rfl] at hz
    exact key _ (by rcases ht with q | q <;> first | exact q.2.symm | exact absurd q.1 (by decide)) hz
  · subst e
    rw [no 8 (by decide), bindI_some, if_pos rfl, ye, bindI_some, if_neg z_one] at hz
    unfold r_expression_181 r_expression_186 at hz
    rw [if_neg z_one, no 10 (by decide), bindI_some, if_pos rfl, no 15 (by decide), bindI_some, if_pos rfl] at hz
    exact key _ (by rcases ht with q | q <;> first | exact q.2.symm | exact absurd q.1 (by decide)) hz
  · subst e
    rw [no 8 (by decide), bindI_some, if_pos rfl, no 9 (by decide), bindI_some, if_pos rfl, ye, bindI_some, if_neg z_one] at hz
    unfold r_expression_181 r_expression_186 at hz
    rw [if_neg z_one, ye, bindI_some, if_neg z_one] at hz
    exact key _ (by rcases ht with q | q <;> first | exact q.2.symm | exact absurd q.1 (by decide)) hz
  · subst e
    rw [no 8 (by decide), bindI_some, if_pos rfl, no 9 (by decide), bindI_some, if_pos rfl, no 10 (by decide), bindI_some, if_pos rfl, ye, bindI_some, if_neg z_one] at hz
    unfold r_expression_181 r_expression_186 at hz
    rw [if_neg z_one, no 10 (by decide), bindI_some, if_pos rfl, ye, bindI_some, if_neg z_one] at hz
    exact key _ (by rcases ht with q | q <;> first | exact q.2.symm | exact absurd q.1 (by decide)) hz
/-- an operator is taken on both sides -/
theorem op_take {N : Nat} {x1 : Int32} {s s2 : KS} {z out : RS} {c r t : Int32} {P : List Int32} {h : Nat} (ht0 : ((r = 8 ∨ r = 9) ∧ t = 0) ∨ ((r = 10 ∨ r = 15) ∧ t = 1)) (h39 : 0 ≤ (z.v 39).toInt) (h35 : 0 ≤ (z.v 35).toInt) (hS : StkOn (z.f 38) h P (z.v 39).toNatClampNeg) (hp : ∀ w ∈ P, PopOK t w) (hst : StpW t (z.f 38) h) (hP : PR2 N s z) (hT : TK2 N s z) (hm : ((c, r) : Int32 × Int32) ∈ kpl) (hc : c = 43 ∨ c = 45 ∨ c = 42 ∨ c = 47) (hr : r = 8 ∨ r = 9 ∨ r = 10 ∨ r = 15) (hk : KAt s = c) (ht : kX4_take s c = some s2) (hz : CompB x1 z out) : (∃ w, PR2 N s2 w ∧ FrK WEK s s2 ∧ FrR WX z w ∧ w.v 12 = z.v 12 ∧ CompA x1 w out ∧ (s2.v 15).toInt = (s.v 15).toInt + 1 ∧ (s2.v 12 = s.v 12 ∧ s2.f 22 = s.f 22) ∧ EmZ z w (P.map pk) ∧ (w.v 39).toInt = (h : Int) + 1 ∧ w.f 38 h = r ∧ (∀ i, i < h → w.f 38 i = z.f 38 i)) ∨ FR2 s2 out := by
  have hkp := hP.kp hT
  have zk : ZAt z = r := (kp2 hkp hm).mp hk
  have n7 : ¬ ZAt z = 7 := by rw [zk]; rcases hr with e | e | e | e <;> (rw [e]; decide)
  have hb := op_b (N := N) ⟨s, hP⟩ n7 hr zk ht0 h39 h35 hS hp hst hz
  have c2 : ¬ KAt s = 302 ∧ ¬ KAt s = 303 := by rw [hk]; rcases hc with e | e | e | e <;> (rw [e]; decide)
  by_cases hl : s.v 15 = 400
  · have nl : ¬ s.v 15 < 400 := by rw [hl]; decide
    have e1 := ktake_room hP.1 hP.kv hk nl
    rw [ht] at e1
    cases e1
    have q := hb.2 (by rw [← hP.2.2.1]; exact hl)
    have F := hP.fail hT 2 (by decide)
    exact Or.inr ⟨by rw [q.1]; decide, by rw [q.1]; rfl, by rw [q.2]; exact F.2.2⟩
  · have q := hP.lt hl
    have e1 := ktake_yes hP.1 hP.kv hk q.1
    rw [ht] at e1
    cases e1
    obtain ⟨w, G, v11, v12, v13, hA, hX⟩ := hb.1 q.2.2
    have A := hP.adv hT c2.1 c2.2 hl
    refine Or.inl ⟨w, ?_, FrK.rfl.sv (by decide), G, v12, hA, A.2, ⟨rfl, rfl⟩, hX⟩
    exact A.1.keep rfl rfl v11 (v13.trans A.1.2.1.symm)
theorem FR2.ne {s : KS} {z : RS} (F : FR2 s z) : ¬ s.v 16 = 0 := fun q => by
  have := F.1
  rw [← F.2.1, q] at this
  exact absurd this (by decide)
theorem FR2.sk {s s' : KS} {z : RS} (F : FR2 s z) (h : Sk (s.v 16) (s.v 17) s') : FR2 s' z := ⟨F.1, h.1.trans F.2.1, h.2.trans F.2.2⟩
theorem sim_prodL {N : Nat} {x1 : Int32} {R : KS → Int32 → Option KS} (hR : SimR N x1 R) (hRst : ∀ (a b : Int32), ¬ a = 0 → ∀ (s : KS) (x : Int32), Sk a b s → Pt (R s x) (Sk a b)) (hx0 : 0 ≤ x1.toInt) {d : Int32} (hd0 : x1.toInt ≤ d.toInt) (hd6 : d.toInt ≤ 6) {s0 : KS} {z0 : RS} (hE0 : PreE s0 z0) (hST : StpW 1 (z0.f 38) (z0.v 39).toNatClampNeg) : ∀ (n : Nat) (s s' : KS) (z out : RS) (x2 : Int32) (l : List (Int32 × Int32)) (P : List Int32), EMs 1 (14 - 2 * d.toInt) s0 z0 s z l P → PR2 N s z → TK2 N s z → FrK WEK s0 s → FrR WX z0 z → z.v 12 = d → (s0.v 15).toInt + 1 ≤ (s.v 15).toInt → 0 ≤ x2.toInt → x2.toInt + 1 ≤ (s.v 15).toInt → kX4_readProduct_7L R n s d x2 = some s' → CompB x1 z out → ResP N x1 d s0 z0 s' out := by
  intro n
  induction n with
  | zero => intro s s' z out x2 l P _ _ _ _ _ _ _ _ _ hs; exact none_ne hs
  | succ n ih =>
    intro s s' z out x2 l P hEM hP hT K0 G0 h12 h1 hx20 hx2 hs hz
    have hs : kX4_readProduct_7 R (kX4_readProduct_7L R n) s d x2 = some s' := hs
    have b15 : (s.v 15).toInt ≤ 400 := by
      have h1 := hP.2.2.2.2.1
      have h2 := hP.2.2.2.2.2
      omega
    have ax : (x2 + 1).toInt = x2.toInt + 1 := tn_add rfl (by decide) (by omega) (by omega)
    unfold kX4_readProduct_7 at hs
    have nx : ¬ 400 ≤ x2 := fun q => by
      have := tn_le (a := 400) (by decide) rfl q
      omega
    rw [if_neg nx] at hs
    have go : ∀ c r : Int32, ((c, r) : Int32 × Int32) ∈ kpl → (c = 43 ∨ c = 45 ∨ c = 42 ∨ c = 47) → (r = 8 ∨ r = 9 ∨ r = 10 ∨ r = 15) → ((c = 43 ∧ r = 8) ∨ (c = 45 ∧ r = 9) ∨ (c = 42 ∧ r = 10) ∨ (c = 47 ∧ r = 15)) → (r = 10 ∨ r = 15) → KAt s = c → kX4_readProduct_32 R (kX4_readProduct_7L R n) s d x2 = some s' → ResP N x1 d s0 z0 s' out := by
      intro c r hm hc hr hcr hr1 hk hs
      have em1 := hEM.1.2.1
      rw [List.length_map] at em1
      have em2 := hEM.2.1.2.1
      have em3 := hEM.2.2.2.2.2.2.1
      have pe1 := hE0.1
      have pe2 := hE0.2.1
      have pe3 := hE0.2.2.1
      have pe4 := hE0.2.2.2
      have ez0 : (z0.v 39).toInt.toNat = (z0.v 39).toNatClampNeg := Int32.toNat_toInt _
      unfold kX4_readProduct_32 at hs
      rw [if_pos hP.kv] at hs
      obtain ⟨s2, ht, hs⟩ := bindP_inv hs
      obtain ⟨s3, hu, hs⟩ := bindP_inv hs
      obtain ⟨s4, hp, hs⟩ := bindP_inv hs
      have ht : kX4_take s c = some s2 := by rw [← hk]; exact ht
      unfold kX1_putSign at hp
      rw [bindP_id] at hp
      rcases op_take (Or.inr ⟨hr1, rfl⟩) hEM.2.2.1.2 (by omega) hEM.2.2.2.1 hEM.2.2.2.2.2.1 (hST.cg hEM.2.2.2.2.1) hP hT hm hc hr hk ht hz with ⟨w, P2, K2, G2, v2, hA, l2, kk, ez, w39, wtop, wlow⟩ | F
      · have T2 := hT.fr K2 G2 (by decide) (by decide)
        have ez35 := ez.2.1
        have PE2 : PreE s2 w := ⟨by rw [kk.1]; omega, by rw [kk.1]; omega, by omega, by omega⟩
        rcases sim_unit hR hRst P2 T2 (v2.trans h12) hd0 hd6 hx0 PE2 hu hA with ⟨w3, U, P3, K3, G3, v3, hB, l3, EU⟩ | F
        · have f4 := fr_put (s0 := s3) _ FrK.rfl _ hp
          have P4 : PR2 N s4 w3 := P3.keep f4.2.1 f4.2.2.1 rfl rfl
          have K4 : FrK WEK s s4 := (K2.trans K3 (by decide)).trans f4.1 (by decide)
          have G4 : FrR WX z w3 := G2.trans G3 (by decide)
          have l4 : (s4.v 15).toInt = (s3.v 15).toInt := by rw [f4.2.1]
          have eu1 := EU.1.2.1
          rw [List.length_map] at eu1
          have eu3 := EU.2.2.2.2.2.2.1
          have q312 : (s2.v 12).toInt = (s.v 12).toInt := by rw [kk.1]
          have p315 := P3.2.2.2.2.1
          have p3N := P3.2.2.2.2.2
          have hp' : kX1_put s3 (-c) = some s4 := by rw [← hk]; exact hp
          have ep := put_em (s := s3) (by omega) (by omega) hp'
          rw [encp_pk hcr] at ep
          have EN := EMs.step hEM kk.1 kk.2 l2 ez (by omega) wtop wlow EU ep f4.2.1 (by rcases hr1 with e | e <;> (rw [e]; exact ⟨by decide, Or.inr ⟨by decide, by decide⟩⟩)) (fun q hq => by cases hq) (by omega)
          exact ih s4 s' w3 out (x2 + 1) _ _ EN P4 (hT.fr K4 G4 (by decide) (by decide)) (K0.trans K4 (by decide)) (G0.trans G4 (by decide)) v3 (by omega) (by omega) (by omega) hs hB
        · have k3 : Sk (s3.v 16) (s3.v 17) s3 := ⟨rfl, rfl⟩
          exact Or.inr (F.sk (sk_readProduct_7L F.ne n _ _ (sk_put _ k3 _ hp) _ hs))
      · have k2 : Sk (s2.v 16) (s2.v 17) s2 := ⟨rfl, rfl⟩
        have k3 := sk_readUnit F.ne (hRst _ _ F.ne) _ k2 _ hu
        exact Or.inr (F.sk (sk_readProduct_7L F.ne n _ _ (sk_put _ k3 _ hp) _ hs))
    by_cases c1 : KAt s = 42
    · rw [kat_yes hP.1 hP.kv c1, bindI_some, if_neg z_one] at hs
      exact go 42 10 (by decide) (by decide) (by decide) (by decide) (by decide) c1 hs
    · rw [kat_no hP.1 hP.kv c1, bindI_some, if_pos rfl] at hs
      by_cases c2 : KAt s = 47
      · rw [kat_yes hP.1 hP.kv c2, bindI_some, if_neg z_one] at hs
        exact go 47 15 (by decide) (by decide) (by decide) (by decide) (by decide) c2 hs
      · rw [kat_no hP.1 hP.kv c2, bindI_some, if_pos rfl] at hs
        cases hs
        exact Or.inl ⟨z, l, P, hP, K0, G0, h12, hz, h1, ⟨c1, c2⟩, hEM⟩
theorem sim_prod {N : Nat} {x1 : Int32} {R : KS → Int32 → Option KS} (hR : SimR N x1 R) (hRst : ∀ (a b : Int32), ¬ a = 0 → ∀ (s : KS) (x : Int32), Sk a b s → Pt (R s x) (Sk a b)) (hx0 : 0 ≤ x1.toInt) {d : Int32} (hd0 : x1.toInt ≤ d.toInt) (hd6 : d.toInt ≤ 6) {s s' : KS} {z out : RS} (hE : PreE s z) (hST : StpW 1 (z.f 38) (z.v 39).toNatClampNeg) (hP : PR2 N s z) (hT : TK2 N s z) (h12 : z.v 12 = d) (hs : kX4_readProduct R s d = some s') (hz : CompA x1 z out) : ResP N x1 d s z s' out := by
  unfold kX4_readProduct at hs
  obtain ⟨s1, hu, hs⟩ := bindP_inv hs
  have z0 : (0 : Int32).toInt = 0 := by decide
  have h150 := hP.2.2.2.1
  rcases sim_unit hR hRst hP hT h12 hd0 hd6 hx0 hE hu hz with ⟨w, U, P1, K1, G1, v1, hB, l1, EU⟩ | F
  · exact sim_prodL hR hRst hx0 hd0 hd6 hE hST fu s1 s' w out 0 U [] (EU.weak (by omega)) P1 (hT.fr K1 G1 (by decide) (by decide)) K1 G1 v1 l1 (by omega) (by omega) hs hB
  · refine Or.inr (F.sk ?_)
    have k1 : Sk (s1.v 16) (s1.v 17) s1 := ⟨rfl, rfl⟩
    exact sk_readProduct_7L F.ne fu _ _ k1 _ hs
theorem sim_sumL {N : Nat} {x1 : Int32} {R : KS → Int32 → Option KS} (hR : SimR N x1 R) (hRst : ∀ (a b : Int32), ¬ a = 0 → ∀ (s : KS) (x : Int32), Sk a b s → Pt (R s x) (Sk a b)) (hx0 : 0 ≤ x1.toInt) {d : Int32} (hd0 : x1.toInt ≤ d.toInt) (hd6 : d.toInt ≤ 6) {s0 : KS} {z0 : RS} (hE0 : PreE s0 z0) (hST : StpW 0 (z0.f 38) (z0.v 39).toNatClampNeg) : ∀ (n : Nat) (s s' : KS) (z out : RS) (x2 : Int32) (l : List (Int32 × Int32)) (P : List Int32), EMs 0 (15 - 2 * d.toInt) s0 z0 s z l P → PR2 N s z → TK2 N s z → FrK WEK s0 s → FrR WX z0 z → z.v 12 = d → (s0.v 15).toInt + 1 ≤ (s.v 15).toInt → NoMul s → 0 ≤ x2.toInt → x2.toInt + 1 ≤ (s.v 15).toInt → kX4_readSum_7L R n s d x2 = some s' → CompB x1 z out → ResS N x1 d s0 z0 s' out := by
  intro n
  induction n with
  | zero => intro s s' z out x2 l P _ _ _ _ _ _ _ _ _ _ hs; exact none_ne hs
  | succ n ih =>
    intro s s' z out x2 l P hEM hP hT K0 G0 h12 h1 nm hx20 hx2 hs hz
    have hs : kX4_readSum_7 R (kX4_readSum_7L R n) s d x2 = some s' := hs
    have b15 : (s.v 15).toInt ≤ 400 := by
      have h1 := hP.2.2.2.2.1
      have h2 := hP.2.2.2.2.2
      omega
    have ax : (x2 + 1).toInt = x2.toInt + 1 := tn_add rfl (by decide) (by omega) (by omega)
    unfold kX4_readSum_7 at hs
    have nx : ¬ 400 ≤ x2 := fun q => by
      have := tn_le (a := 400) (by decide) rfl q
      omega
    rw [if_neg nx] at hs
    have go : ∀ c r : Int32, ((c, r) : Int32 × Int32) ∈ kpl → (c = 43 ∨ c = 45 ∨ c = 42 ∨ c = 47) → (r = 8 ∨ r = 9 ∨ r = 10 ∨ r = 15) → ((c = 43 ∧ r = 8) ∨ (c = 45 ∧ r = 9) ∨ (c = 42 ∧ r = 10) ∨ (c = 47 ∧ r = 15)) → (r = 8 ∨ r = 9) → KAt s = c → kX4_readSum_32 R (kX4_readSum_7L R n) s d x2 = some s' → ResS N x1 d s0 z0 s' out := by
      intro c r hm hc hr hcr hr1 hk hs
      have em1 := hEM.1.2.1
      rw [List.length_map] at em1
      have em2 := hEM.2.1.2.1
      have em3 := hEM.2.2.2.2.2.2.1
      have pe1 := hE0.1
      have pe2 := hE0.2.1
      have pe3 := hE0.2.2.1
      have pe4 := hE0.2.2.2
      have ez0 : (z0.v 39).toInt.toNat = (z0.v 39).toNatClampNeg := Int32.toNat_toInt _
      unfold kX4_readSum_32 at hs
      rw [if_pos hP.kv] at hs
      obtain ⟨s2, ht, hs⟩ := bindP_inv hs
      obtain ⟨s3, hu, hs⟩ := bindP_inv hs
      obtain ⟨s4, hp, hs⟩ := bindP_inv hs
      have ht : kX4_take s c = some s2 := by rw [← hk]; exact ht
      unfold kX1_putSign at hp
      rw [bindP_id] at hp
      rcases op_take (Or.inl ⟨hr1, rfl⟩) hEM.2.2.1.2 (by omega) hEM.2.2.2.1 hEM.2.2.2.2.2.1 (hST.cg hEM.2.2.2.2.1) hP hT hm hc hr hk ht hz with ⟨w, P2, K2, G2, v2, hA, l2, kk, ez, w39, wtop, wlow⟩ | F
      · have T2 := hT.fr K2 G2 (by decide) (by decide)
        have ez35 := ez.2.1
        have PE2 : PreE s2 w := ⟨by rw [kk.1]; omega, by rw [kk.1]; omega, by omega, by omega⟩
        rcases sim_prod hR hRst hx0 hd0 hd6 PE2 (Or.inr ⟨(z0.v 39).toNatClampNeg, clamp_of_int (by omega), Or.inr ⟨z_one, by rw [wtop]; exact hr1⟩⟩) P2 T2 (v2.trans h12) hu hA with ⟨w3, U, PU, P3, K3, G3, v3, hB, l3, nm3, EU⟩ | F
        · have f4 := fr_put (s0 := s3) _ FrK.rfl _ hp
          have P4 : PR2 N s4 w3 := P3.keep f4.2.1 f4.2.2.1 rfl rfl
          have K4 : FrK WEK s s4 := (K2.trans K3 (by decide)).trans f4.1 (by decide)
          have G4 : FrR WX z w3 := G2.trans G3 (by decide)
          have l4 : (s4.v 15).toInt = (s3.v 15).toInt := by rw [f4.2.1]
          have ek : KAt s4 = KAt s3 := by unfold KAt; rw [f4.2.1, f4.2.2.2.2]
          have nm4 : NoMul s4 := by unfold NoMul; rw [ek]; exact nm3
          have eu1 := EU.1.2.1
          rw [List.length_map] at eu1
          have eu3 := EU.2.2.2.2.2.2.1
          have q312 : (s2.v 12).toInt = (s.v 12).toInt := by rw [kk.1]
          have p315 := P3.2.2.2.2.1
          have p3N := P3.2.2.2.2.2
          have hp' : kX1_put s3 (-c) = some s4 := by rw [← hk]; exact hp
          have ep := put_em (s := s3) (by omega) (by omega) hp'
          rw [encp_pk hcr] at ep
          have EN := EMs.step hEM kk.1 kk.2 l2 ez (by omega) wtop wlow EU ep f4.2.1 (by rcases hr1 with e | e <;> (rw [e]; exact ⟨by decide, Or.inl rfl⟩)) (fun q hq => ⟨(EU.2.2.2.2.2.1 q hq).1, Or.inl rfl⟩) (by omega)
          exact ih s4 s' w3 out (x2 + 1) _ _ EN P4 (hT.fr K4 G4 (by decide) (by decide)) (K0.trans K4 (by decide)) (G0.trans G4 (by decide)) v3 (by omega) nm4 (by omega) (by omega) hs hB
        · have k3 : Sk (s3.v 16) (s3.v 17) s3 := ⟨rfl, rfl⟩
          exact Or.inr (F.sk (sk_readSum_7L F.ne n _ _ (sk_put _ k3 _ hp) _ hs))
      · have k2 : Sk (s2.v 16) (s2.v 17) s2 := ⟨rfl, rfl⟩
        have k3 := sk_readProduct F.ne (hRst _ _ F.ne) _ k2 _ hu
        exact Or.inr (F.sk (sk_readSum_7L F.ne n _ _ (sk_put _ k3 _ hp) _ hs))
    by_cases c1 : KAt s = 43
    · rw [kat_yes hP.1 hP.kv c1, bindI_some, if_neg z_one] at hs
      exact go 43 8 (by decide) (by decide) (by decide) (by decide) (by decide) c1 hs
    · rw [kat_no hP.1 hP.kv c1, bindI_some, if_pos rfl] at hs
      by_cases c2 : KAt s = 45
      · rw [kat_yes hP.1 hP.kv c2, bindI_some, if_neg z_one] at hs
        exact go 45 9 (by decide) (by decide) (by decide) (by decide) (by decide) c2 hs
      · rw [kat_no hP.1 hP.kv c2, bindI_some, if_pos rfl] at hs
        cases hs
        exact Or.inl ⟨z, l, P, hP, K0, G0, h12, hz, h1, nm, ⟨c1, c2⟩, hEM⟩
theorem sim_sum {N : Nat} {x1 : Int32} {R : KS → Int32 → Option KS} (hR : SimR N x1 R) (hRst : ∀ (a b : Int32), ¬ a = 0 → ∀ (s : KS) (x : Int32), Sk a b s → Pt (R s x) (Sk a b)) (hx0 : 0 ≤ x1.toInt) : SimR N x1 (fun s d => kX4_readSum R s d) := by
  intro s z s' out d hP hT h12 hd0 hd6 hE hST hs hz
  have hs : kX4_readSum R s d = some s' := hs
  unfold kX4_readSum at hs
  obtain ⟨s1, hu, hs⟩ := bindP_inv hs
  have z0 : (0 : Int32).toInt = 0 := by decide
  have h150 := hP.2.2.2.1
  rcases sim_prod hR hRst hx0 hd0 hd6 hE hST.weak hP hT h12 hu hz with ⟨w, U, PU, P1, K1, G1, v1, hB, l1, nm, EU⟩ | F
  · exact sim_sumL hR hRst hx0 hd0 hd6 hE hST fu s1 s' w out 0 U PU (EU.weak (by omega)) P1 (hT.fr K1 G1 (by decide) (by decide)) K1 G1 v1 l1 nm (by omega) (by omega) hs hB
  · refine Or.inr (F.sk ?_)
    have k1 : Sk (s1.v 16) (s1.v 17) s1 := ⟨rfl, rfl⟩
    exact sk_readSum_7L F.ne fu _ _ k1 _ hs
theorem sim_sumR (N : Nat) (x1 : Int32) (hx0 : 0 ≤ x1.toInt) : ∀ n : Nat, SimR N x1 (kX4_readSumR n) := by
  intro n
  induction n with
  | zero => intro s z s' out d _ _ _ _ _ _ _ hs; exact none_ne hs
  | succ n ih =>
    intro s z s' out d hP hT h12 hd0 hd6 hE hST hs hz
    exact sim_sum ih (fun a b ha s x h => sk_readSumR ha n s x h) hx0 s z s' out d hP hT h12 hd0 hd6 hE hST hs hz
theorem expr_12 (n : Nat) (z out : RS) (x : Int32) (h13 : z.v 13 = 0) (h : r_expression_12L n z x 1 = some out) : ∃ m, r_expression_23L (r_expression_12L m) fu z x = some out := by
  cases n with
  | zero => exact none_ne h
  | succ n =>
    have h : r_expression_12 (r_expression_12L n) z x 1 = some out := h
    unfold r_expression_12 at h
    rw [if_neg z_one, if_pos h13] at h
    exact ⟨n, h⟩
/-- an expression is written down on both sides -/
def ExR (s : KS) (z : RS) (s' : KS) (out : RS) (l : List (Int32 × Int32)) : Prop := EmK s s' (l.map encp) ∧ EmZ z out l ∧ (l.length : Int) + (s.v 15).toInt ≤ (s'.v 15).toInt ∧ (∀ p ∈ l, CDz p) ∧ Dp l 0 1
def PreC (s : KS) (z : RS) : Prop := 0 ≤ (s.v 12).toInt ∧ (s.v 12).toInt ≤ 4 + (s.v 15).toInt ∧ 0 ≤ (z.v 35).toInt
theorem sim_expr {N : Nat} {s s' : KS} {z out : RS} (hP : PR2 N s z) (hT : TK2 N s z) (h12 : z.v 12 = 0) (hC : PreC s z) (hs : kX4_readSumR 8 s 0 = some s') (hz : r_expression z = some out) : (PR2 N s' out ∧ FrK WEK s s' ∧ FrR WX z out ∧ out.v 12 = 0 ∧ (s.v 15).toInt ≤ (s'.v 15).toInt ∧ ∃ l, ExR s z s' out l) ∨ FR2 s' out := by
  unfold r_expression at hz
  obtain ⟨z1, e1, hz⟩ := letS_inv hz
  have v12 : z1.v 12 = 0 := by rw [← e1]; exact h12
  have v13 : z1.v 13 = 0 := by rw [← e1]; exact hP.2.1
  have G1 : FrR WX z z1 := by rw [← e1]; exact FrR.rfl.sv (by decide)
  have P1 : PR2 N s z1 := hP.keep rfl rfl (by rw [← e1]; rfl) (by rw [← e1]; rfl)
  rw [v12] at hz
  obtain ⟨m0, hz⟩ := expr_12 fu z1 out 0 v13 hz
  have T1 := hT.fr FrK.rfl G1 (W := []) (by decide) (by decide)
  have z0 : (0 : Int32).toInt = 0 := by decide
  have c39 : (z1.v 39) = 0 := by rw [← e1]; rfl
  have c35 : (z1.v 35) = z.v 35 := by rw [← e1]; rfl
  have c36 : (z1.f 36) = z.f 36 := by rw [← e1]; rfl
  have c37 : (z1.f 37) = z.f 37 := by rw [← e1]; rfl
  have k39 : (z1.v 39).toNatClampNeg = 0 := by rw [c39]; decide
  have PE1 : PreE s z1 := ⟨hC.1, hC.2.1, by rw [c35]; exact hC.2.2, by rw [c39]; decide⟩
  have ST1 : StpW 0 (z1.f 38) (z1.v 39).toNatClampNeg := Or.inl k39
  rcases sim_sumR N 0 (by decide) 8 s z1 s' out 0 P1 T1 v12 (by omega) (by omega) PE1 ST1 hs ⟨m0, fu, hz⟩ with ⟨w, l, P, P2, K2, G2, v2, ⟨m, n, hB⟩, l2, nm, na, E2⟩ | F
  · cases n with
    | zero => exact none_ne hB
    | succ n =>
    have T2 := T1.fr K2 G2 (by decide) (by decide)
    have hk := P2.kp T2
    have nz : ∀ c0 r0, ((c0, r0) : Int32 × Int32) ∈ kpl → ¬ KAt s' = c0 → ¬ ZAt w = r0 := fun c0 r0 hm hn q => hn ((kp2 hk hm).mpr q)
    have hB : r_expression_96 (r_expression_12L m) (r_expression_96L (r_expression_12L m) n) w 0 = some out := hB
    unfold r_expression_96 at hB
    have le : w.v 12 ≤ 0 := by rw [v2]; decide
    have hB : r_expression_145 (r_expression_12L m) w 0 = some out := by
      by_cases c : ZAt w = 7
      · rw [zis_yes P2.2.1 P2.zv c, bindI_some, if_neg z_one, if_pos le] at hB
        exact hB
      · rw [zis_no P2.2.1 P2.zv c, bindI_some, if_pos rfl] at hB
        exact hB
    unfold r_expression_145 at hB
    rw [zis_no P2.2.1 P2.zv (nz 43 8 (by decide) na.1), bindI_some, if_pos rfl, zis_no P2.2.1 P2.zv (nz 45 9 (by decide) na.2), bindI_some, if_pos rfl, zis_no P2.2.1 P2.zv (nz 42 10 (by decide) nm.1), bindI_some, if_pos rfl, zis_no P2.2.1 P2.zv (nz 47 15 (by decide) nm.2), bindI_some, if_pos rfl] at hB
    unfold r_expression_186 at hB
    rw [if_pos rfl, if_pos le] at hB
    unfold r_expression_204 at hB
    obtain ⟨w1, hw, hB⟩ := bindP_inv hB
    cases hB
    have f := fr_comesOut w 0 _ hw
    refine Or.inl ⟨P2.keep rfl rfl (f.1 11 (by decide)) (f.1 13 (by decide)), K2, (G1.trans G2 (by decide)).trans f (by decide), (f.1 12 (by decide)).trans v2, by omega, l ++ P.map pk, ?_⟩
    have em2 := E2.2.1.2.1
    have pe3 := PE1.2.2.1
    have co := come_out 0 P fu w out (z1.v 39).toNatClampNeg E2.2.2.1.2 (by omega) E2.2.2.2.1 E2.2.2.2.2.2.1 (ST1.cg E2.2.2.2.2.1) hw
    exact ⟨E2.1, (E2.2.1.from c35 c36 c37).trans co.2, E2.2.2.2.2.2.2.1, E2.2.2.2.2.2.2.2.1, E2.2.2.2.2.2.2.2.2 0 (by rw [z0]; decide)⟩
  · exact Or.inr F
