/-! ===== numbers, waves, parties, the seed ===== -/
def LTb (J : Int) (s : KS) (z : RS) : Prop := s.v 18 = z.v 15 ∧ ((z.v 15 = 0 ∧ s.v 19 = -1) ∨ (s.v 19 = z.v 16 ∧ (z.v 15 = 3 ∨ z.v 15 = 5) ∧ ∃ j : Nat, (j : Int) < J ∧ z.v 16 = z.f 6 j))
theorem LTb.keep {J J' : Int} {s s' : KS} {z z' : RS} (h : LTb J s z) (e1 : s'.v 18 = s.v 18) (e2 : s'.v 19 = s.v 19) (e3 : z'.v 15 = z.v 15) (e4 : z'.v 16 = z.v 16) (e5 : z'.f 6 = z.f 6) (hJ : J ≤ J') : LTb J' s' z' := by
  unfold LTb
  rw [e1, e2, e3, e4, e5]
  refine ⟨h.1, ?_⟩
  rcases h.2 with h | ⟨h1, h2, j, h3, h4⟩
  · exact Or.inl h
  · exact Or.inr ⟨h1, h2, j, by omega, h4⟩
theorem zwrong_set {z : RS} {x k : Int32} (h13 : z.v 13 = 0) (hv : vpb k 403 = true) (h15 : z.v 15 = 0) : r_wrong z x k = some ((z.sv 15 x).sv 16 (z.f 6 k.toNatClampNeg)) := by
  have n : ¬ 0 < z.v 13 := by rw [h13]; decide
  unfold r_wrong
  rw [if_pos hv, if_neg n, if_pos h15]
  rfl
theorem zwrong_keep {z : RS} {x k : Int32} (h13 : z.v 13 = 0) (hv : vpb k 403 = true) (h15 : ¬ z.v 15 = 0) (hj : z.v 16 < z.f 6 k.toNatClampNeg ∨ (z.f 6 k.toNatClampNeg = z.v 16 ∧ ¬ x < z.v 15)) : r_wrong z x k = some z := by
  have n : ¬ 0 < z.v 13 := by rw [h13]; decide
  unfold r_wrong
  rw [if_pos hv, if_neg n, if_neg h15]
  by_cases c : z.v 16 < z.f 6 k.toNatClampNeg
  · exact if_pos c
  · rcases hj with q | q
    · exact absurd q c
    · rw [if_neg c, if_pos q.1]
      exact if_neg q.2
theorem later_step {N J : Nat} {s s' : KS} {z z' : RS} {x k p : Int32} (h13 : z.v 13 = 0) (hT : TK2 N s z) (hJ : J ≤ N) (hN : N ≤ 400) (hk : k.toInt = (J : Int)) (hp : p = z.f 6 J) (hL : LTb ((J : Int) + 1) s z) (hx : x = 5 ∨ (x = 3 ∧ LTb (J : Int) s z)) (h1 : kX4_failLater s x p = some s') (h2 : r_wrong z x k = some z') : LTb ((J : Int) + 1) s' z' ∧ FrK [18, 19] s s' ∧ FrR [15, 16] z z' := by
  have ek : k.toNatClampNeg = J := clamp_of_int hk
  have hv : vpb k 403 = true := vpb_ok (by omega) (by omega)
  unfold kX4_failLater at h1
  have hx35 : x = 3 ∨ x = 5 := by
    rcases hx with e | e
    · exact Or.inr e
    · exact Or.inl e.1
  obtain ⟨e18, hc⟩ := id hL
  by_cases z15 : z.v 15 = 0
  · rw [if_pos (e18.trans z15)] at h1
    obtain ⟨s2, e2, h1⟩ := letS_inv h1
    obtain ⟨s4, e4, h1⟩ := letS_inv h1
    cases h1
    rw [zwrong_set h13 hv z15] at h2
    cases h2
    refine ⟨⟨?_, Or.inr ⟨?_, ?_, J, by omega, ?_⟩⟩, ?_, ?_⟩
    · rw [← e4, ← e2]; rfl
    · rw [← e4]
      show p = z.f 6 k.toNatClampNeg
      rw [ek]
      exact hp
    · exact hx35
    · show z.f 6 k.toNatClampNeg = z.f 6 J
      rw [ek]
    · rw [← e4, ← e2]
      exact (FrK.rfl.sv (k := 18) (by decide)).sv (k := 19) (by decide)
    · exact (FrR.rfl.sv (k := 15) (by decide)).sv (k := 16) (by decide)
  · have s18 : ¬ s.v 18 = 0 := by rw [e18]; exact z15
    rw [if_neg s18] at h1
    cases h1
    have lt : ∀ j : Nat, j < J → z.v 16 = z.f 6 j → z.v 16 < z.f 6 k.toNatClampNeg := by
      intro j hj ej
      rw [ek, ej]
      exact Int32.lt_iff_toInt_lt.mpr (hT.2.2 j J hj hJ)
    have hj : z.v 16 < z.f 6 k.toNatClampNeg ∨ (z.f 6 k.toNatClampNeg = z.v 16 ∧ ¬ x < z.v 15) := by
      rcases hx with e | ⟨e, hL2⟩
      · rcases hc with q | ⟨_, h35, j, hj, ej⟩
        · exact absurd q.1 z15
        · by_cases c : j = J
          · refine Or.inr ⟨by rw [ek, ej, c], ?_⟩
            rcases h35 with q | q <;> (rw [q, e]; decide)
          · exact Or.inl (lt j (by omega) ej)
      · rcases hL2.2 with q | ⟨_, h35, j, hj, ej⟩
        · exact absurd q.1 z15
        · exact Or.inl (lt j (by omega) ej)
    rw [zwrong_keep h13 hv z15 hj] at h2
    cases h2
    exact ⟨hL, FrK.rfl, FrR.rfl⟩
abbrev WBK : List Nat := [15, 16, 17, 18, 19]
def ResI (N : Nat) (s : KS) (z : RS) (r r' : Int32) (s1 : KS) (z1 : RS) : Prop := (r = r' ∧ PR2 N s1 z1 ∧ LTb (z1.v 11).toInt s1 z1 ∧ FrK WBK s s1 ∧ FrR WB z z1 ∧ (s1.v 15).toInt = (s.v 15).toInt + 1) ∨ FR2 s1 z1
theorem int_fin {N : Nat} {s s7 s1 : KS} {z z7 z1 : RS} {v r r' : Int32} (hP : PR2 N s7 z7) (hT : TK2 N s7 z7) (hk : KAt s7 = 301) (hL : LTb ((z7.v 11).toInt + 1) s7 z7) (K : FrK [18, 19] s s7) (G : FrR [15, 16] z z7) (hs : kX4_takeInt_46 s7 v = some (r, s1)) (hz : r_bounded_46 z7 v = some (r', z1)) : ResI N s z r r' s1 z1 := by
  unfold kX4_takeInt_46 at hs
  unfold r_bounded_46 at hz
  obtain ⟨t1, ht, hs⟩ := bindP_inv hs
  obtain ⟨w1, hw, hz⟩ := bindP_inv hz
  cases hs
  cases hz
  by_cases hl : s7.v 15 = 400
  · have nl : ¬ s7.v 15 < 400 := by rw [hl]; decide
    have e1 := ktake_room hP.1 hP.kv hk nl
    rw [ht] at e1
    cases e1
    have e2 := zgo_room hP.2.1 hP.zv (by rw [← hP.2.2.1]; exact hl)
    rw [hw] at e2
    cases e2
    exact Or.inr (hP.fail hT 2 (by decide))
  · have q := hP.lt hl
    have e1 := ktake_yes hP.1 hP.kv hk q.1
    rw [ht] at e1
    cases e1
    have e2 := zgo_ok q.2.2
    rw [hw] at e2
    cases e2
    have A := hP.adv hT (fun q => by rw [hk] at q; exact absurd q (by decide)) (fun q => by rw [hk] at q; exact absurd q (by decide)) hl
    have a11 : ((zad z7).v 11).toInt = (z7.v 11).toInt + 1 := by rw [← A.1.2.2.1, A.2, hP.2.2.1]
    refine Or.inl ⟨rfl, A.1, hL.keep rfl rfl rfl rfl rfl (by rw [a11]; exact Int.le_refl _), (FrK.rfl.trans K (by decide)).sv (by decide), (FrR.rfl.trans G (by decide)).sv (by decide), ?_⟩
    rw [A.2, K.1 15 (by decide)]
theorem int_step {N : Nat} {s s1 : KS} {z z1 : RS} {mx r r' : Int32} (hP : PR2 N s z) (hT : TK2 N s z) (hL : LTb (z.v 11).toInt s z) (hs : kX4_takeInt s mx = some (r, s1)) (hz : r_bounded z mx = some (r', z1)) : ResI N s z r r' s1 z1 := by
  have hk := hP.kp hT
  have i2 := kp2 hk (c0 := 301) (r0 := 2) (by decide)
  have hN := hP.2.2.2.2.2
  unfold kX4_takeInt at hs
  unfold r_bounded at hz
  have n13 : ¬ 0 < z.v 13 := by rw [hP.2.1]; decide
  rw [if_pos hP.kv] at hs
  rw [if_neg n13] at hz
  by_cases c : KAt s = 301
  · rw [kat_yes hP.1 hP.kv c, bindI_some, if_neg z_one] at hs
    rw [zis_yes hP.2.1 hP.zv (i2.mp c), bindI_some, if_neg z_one, if_pos hP.zv] at hz
    have hv := ((hT.1 _ hP.le).2.2.1 c).1
    have hv : Int64.toInt32 ((s.g 34) (Int32.toNatClampNeg (s.v 15))) = z.f 7 (Int32.toNatClampNeg (z.v 11)) := by rw [← hP.2.2.1]; exact hv
    rw [hv] at hs
    by_cases cm : z.f 7 (Int32.toNatClampNeg (z.v 11)) ≤ mx
    · rw [if_pos cm] at hs hz
      exact int_fin hP hT c (hL.keep rfl rfl rfl rfl rfl (by omega)) FrK.rfl FrR.rfl hs hz
    · rw [if_neg cm] at hs hz
      rw [if_pos hP.kv] at hs
      obtain ⟨s7, h7, hs⟩ := bindP_inv hs
      obtain ⟨z7, w7, hz⟩ := bindP_inv hz
      have e11 : (z.v 11).toInt = ((s.v 15).toNatClampNeg : Int) := by
        have h0 := hP.2.2.2.1
        have e : (s.v 15).toInt.toNat = (s.v 15).toNatClampNeg := Int32.toNat_toInt _
        rw [← hP.2.2.1]
        omega
      have LS := later_step hP.2.1 hT hP.le hN e11 (hT.1 _ hP.le).2.1 (hL.keep rfl rfl rfl rfl rfl (by omega)) (Or.inl rfl) h7 w7
      have P7 : PR2 N s7 z7 := hP.keep (LS.2.1.1 15 (by decide)) (LS.2.1.1 16 (by decide)) (LS.2.2.1 11 (by decide)) (LS.2.2.1 13 (by decide))
      have T7 := hT.fr LS.2.1 LS.2.2 (by decide) (by decide)
      have k7 : KAt s7 = 301 := by unfold KAt; rw [LS.2.1.1 15 (by decide), (LS.2.1.2 32 (by decide)).1]; exact c
      refine int_fin P7 T7 k7 (LS.1.keep rfl rfl rfl rfl rfl ?_) LS.2.1 LS.2.2 hs hz
      rw [LS.2.2.1 11 (by decide), e11]
      exact Int.le_refl _
  · rw [kat_no hP.1 hP.kv c, bindI_some, if_pos rfl] at hs
    rw [zis_no hP.2.1 hP.zv (fun q => c (i2.mpr q)), bindI_some, if_pos rfl] at hz
    unfold kX4_takeInt_46 at hs
    unfold r_bounded_15 at hz
    rw [ktake_no hP.1 hP.kv c, bindP_some] at hs
    rw [zfail_eq hP.2.1 hP.zv, bindP_some] at hz
    cases hs
    cases hz
    exact Or.inr (hP.fail hT 1 (by decide))
theorem sz_wave_93 {a b : Int32} (ha : 0 < a.toInt) {z : RS} (h : Sz a b z) : Pt (r_tellWave_93 z) (Sz a b) := by
  unfold r_tellWave_93
  refine pt_bindP (sz_must ha _ h) (fun s h => ?_)
  refine pt_ite (fun _ => pt_ite (fun _ => ?_) (fun _ => pt_none)) (fun _ => pt_none)
  exact pt_let (P := Sz a b) h (fun s h => pt_some h)
theorem sz_wave_31L {a b : Int32} (ha : 0 < a.toInt) : ∀ (n : Nat) (z : RS) (x1 x2 x3 x4 : Int32), Sz a b z → Pt (r_tellWave_31L n z x1 x2 x3 x4) (Sz a b) := by
  intro n
  induction n with
  | zero => intro z x1 x2 x3 x4 _; exact pt_none
  | succ n ih =>
    intro z x1 x2 x3 x4 h
    show Pt (r_tellWave_31 (r_tellWave_31L n) z x1 x2 x3 x4) _
    unfold r_tellWave_31
    refine pt_ite (fun _ => ?_) (fun _ => ?_)
    · rw [if_neg (Sz.ne ha h)]
      exact sz_wave_93 ha h
    · refine pt_bindI (sz_bounded ha _ h) (fun r s1 h1 => ?_)
      have h1 : Sz a b s1 := h1
      refine pt_ite (fun _ => ?_) (fun _ => pt_none)
      refine pt_let (P := Sz a b) h1 (fun s h => ?_)
      exact pt_ite (fun _ => ih _ _ _ _ _ h) (fun _ => pt_none)
theorem sz_party_78 {a b : Int32} (ha : 0 < a.toInt) {z : RS} (x1 x2 : Int32) (h : Sz a b z) : Pt (r_tellParty_78 z x1 x2) (Sz a b) := by
  unfold r_tellParty_78
  refine pt_bindI (sz_bounded ha _ h) (fun r s1 h1 => ?_)
  have h1 : Sz a b s1 := h1
  refine pt_ite (fun _ => ?_) (fun _ => pt_none)
  refine pt_let (P := Sz a b) h1 (fun s h => ?_)
  refine pt_bindI (sz_bounded ha _ h) (fun r s1 h1 => ?_)
  have h1 : Sz a b s1 := h1
  refine pt_ite (fun _ => ?_) (fun _ => pt_none)
  refine pt_let (P := Sz a b) h1 (fun s h => ?_)
  refine pt_bindP (sz_must ha _ h) (fun s h => ?_)
  rw [if_neg (Sz.nle ha h)]
  exact pt_some h
theorem sz_party_30L {a b : Int32} (ha : 0 < a.toInt) (m : Nat) {z : RS} (x1 x2 x3 : Int32) (h : Sz a b z) : Pt (r_tellParty_30L m z x1 x2 x3) (Sz a b) := by
  cases m with
  | zero => exact pt_none
  | succ m =>
    show Pt (r_tellParty_30 (r_tellParty_30L m) z x1 x2 x3) _
    unfold r_tellParty_30
    refine pt_ite (fun _ => ?_) (fun _ => pt_none)
    refine pt_ite (fun _ => sz_party_78 ha _ _ h) (fun _ => ?_)
    rw [if_neg (Sz.ne ha h)]
    exact sz_party_78 ha _ _ h
theorem rsf_get {z : RS} {k i : Nat} {x : Int32} : (z.sf k i x).f k i = x := by
  show va_up z.f k (upd (z.f k) i x) k i = x
  unfold va_up
  rw [if_pos rfl]
  unfold upd
  rw [if_pos rfl]
theorem ksf_get {s : KS} {k i j : Nat} {x : Int32} : (s.sf k i x).f k j = if j = i then x else s.f k j := by
  show va_up s.f k (upd (s.f k) i x) k j = _
  unfold va_up
  rw [if_pos rfl]
  rfl
theorem rsf_all {s : RS} {k i j : Nat} {x : Int32} : (s.sf k i x).f k j = if j = i then x else s.f k j := by
  show va_up s.f k (upd (s.f k) i x) k j = _
  unfold va_up
  rw [if_pos rfl]
  rfl
abbrev WKW : List Nat := [8, 15, 16, 17, 18, 19, 116]
abbrev WZW : List Nat := [11, 13, 14, 15, 16, 120, 121]
def ResW (N sd : Nat) (s : KS) (z : RS) (s' : KS) (out : RS) : Prop := (PR2 N s' out ∧ LTb (out.v 11).toInt s' out ∧ FrK WKW s s' ∧ FrR WZW z out ∧ s'.v 8 = (s.v 8) + 1 ∧ out.f 20 sd = (z.f 20 sd) + 1 ∧ (s.v 15).toInt + 1 ≤ (s'.v 15).toInt ∧ (∀ j : Nat, (j : Int) < 6 * ((s.v 8).toInt + 1) → s'.f 16 j = out.f 21 (30 * sd + j))) ∨ FR2 s' out
theorem sim_wave_end {N sd : Nat} {s s' : KS} {z out : RS} (hP : PR2 N s z) (hT : TK2 N s z) (hL : LTb (z.v 11).toInt s z) (h19 : (z.v 19).toInt = (sd : Int)) (hO : (∀ j : Nat, (j : Int) < 6 * ((s.v 8).toInt + 1) → s.f 16 j = z.f 21 (30 * sd + j))) (hs : kX4_readWave_100 s = some s') (hz : r_tellWave_93 z = some out) : ResW N sd s z s' out := by
  unfold kX4_readWave_100 at hs
  unfold r_tellWave_93 at hz
  obtain ⟨t1, ht, hs⟩ := bindP_inv hs
  obtain ⟨w1, hw, hz⟩ := bindP_inv hz
  obtain ⟨t2, et, hs⟩ := letS_inv hs
  cases hs
  obtain ⟨_, hz⟩ := guard_inv hz
  obtain ⟨_, hz⟩ := guard_inv hz
  obtain ⟨w4, e4, hz⟩ := letS_inv hz
  cases hz
  obtain ⟨t, w, h1, h2, hcase⟩ := step2 (c := 59) (r := 4) hP hT (by decide) (by decide)
  rw [ht] at h1
  cases h1
  rw [hw] at h2
  cases h2
  rcases hcase with ⟨_, e1, e2, P1, l1⟩ | ⟨F, _, _⟩
  · have c19 : (w1.v 19).toNatClampNeg = sd := by rw [e2]; exact clamp_of_int h19
    have a11 : (w1.v 11).toInt = (z.v 11).toInt + 1 := by rw [← P1.2.2.1, l1, hP.2.2.1]
    refine Or.inl ⟨?_, ?_, ?_, ?_, ?_, ?_, ?_, ?_⟩
    · rw [← et, ← e4]
      exact P1.keep rfl rfl rfl rfl
    · rw [← et, ← e4]
      refine hL.keep ?_ ?_ ?_ ?_ ?_ ?_
      · rw [e1]; rfl
      · rw [e1]; rfl
      · rw [e2]; rfl
      · rw [e2]; rfl
      · rw [e2]; rfl
      · show (z.v 11).toInt ≤ (w1.v 11).toInt
        omega
    · rw [← et, e1]
      exact (FrK.rfl.sv (k := 15) (by decide)).sv (k := 8) (by decide)
    · rw [← e4, e2]
      exact (FrR.rfl.sv (k := 11) (by decide)).sf (k := 20) (by decide)
    · rw [← et, e1]
      rfl
    · rw [← e4, c19, rsf_get, e2]
      rfl
    · rw [← et]
      show (s.v 15).toInt + 1 ≤ (t1.v 15).toInt
      omega
    · rw [← et, ← e4, e1, e2]
      exact hO
  · right
    rw [← et, ← e4]
    exact F
theorem sim_waveL {N sd : Nat} {s0 : KS} {z0 : RS} (x1 : Int32) (W0 : Nat) (hW0 : (s0.v 8).toInt = (W0 : Int)) (hW4 : W0 ≤ 4) (hsd : sd ≤ 1) (hx1 : x1.toInt = ((30 * sd + 6 * W0 : Nat) : Int)) : ∀ (n m : Nat) (s s' : KS) (z out : RS) (sum pl tk i : Int32), PR2 N s z → TK2 N s z → LTb (z.v 11).toInt s z → (z.v 19).toInt = (sd : Int) → FrK WKW s0 s → FrR WZW z0 z → s.v 8 = s0.v 8 → z.f 20 = z0.f 20 → (s0.v 15).toInt ≤ (s.v 15).toInt → 0 ≤ i.toInt → i.toInt ≤ 6 → (0 < i.toInt → pl = z.f 6 tk.toNatClampNeg ∧ 0 ≤ tk.toInt ∧ tk.toInt + 1 = (z.v 11).toInt) → (∀ j : Nat, (j : Int) < 6 * (W0 : Int) + i.toInt → s.f 16 j = z.f 21 (30 * sd + j)) → kX4_readWave_30L n s sum pl i = some s' → r_tellWave_31L m z x1 sum tk i = some out → ResW N sd s0 z0 s' out := by
  intro n
  induction n with
  | zero => intro m s s' z out sum pl tk i _ _ _ _ _ _ _ _ _ _ _ _ _ hs; exact none_ne hs
  | succ n ih =>
    intro m s s' z out sum pl tk i hP hT hL h19 K0 G0 e8 e20 h15 hi0 hi6 hpl hO hs hz
    have hs : kX4_readWave_30 (kX4_readWave_30L n) s sum pl i = some s' := hs
    cases m with
    | zero => exact none_ne hz
    | succ m =>
    have hz : r_tellWave_31 (r_tellWave_31L m) z x1 sum tk i = some out := hz
    unfold kX4_readWave_30 at hs
    unfold r_tellWave_31 at hz
    have hN := hP.2.2.2.2.2
    have conv : ∀ {t : KS} {w : RS}, FrK WKW s0 t → FrR WZW z0 w → t.v 8 = s0.v 8 → w.f 20 = z0.f 20 → (s0.v 15).toInt ≤ (t.v 15).toInt → ∀ {t' w'}, ResW N sd t w t' w' → ResW N sd s0 z0 t' w' := by
      intro t w K G q8 q20 q15 t' w' hr
      rcases hr with ⟨P, L, K', G', h8, h20, h5, hOD⟩ | F
      · refine Or.inl ⟨P, L, K.trans K' (by decide), G.trans G' (by decide), ?_, ?_, by omega, ?_⟩
        · rw [h8, q8]
        · rw [h20, q20]
        · rw [← q8]; exact hOD
      · exact Or.inr F
    by_cases c : 6 ≤ i
    · have c6 := tn_le (a := 6) (by decide) rfl c
      rw [if_pos c] at hs hz
      rw [if_pos hP.2.1] at hz
      by_cases cs : sum = 0
      · rw [if_pos cs] at hs hz
        obtain ⟨t, ht, hs⟩ := bindP_inv hs
        obtain ⟨w, hw, hz⟩ := bindP_inv hz
        obtain ⟨q1, q2, q3⟩ := hpl (by omega)
        have etk : (tk.toNatClampNeg : Int) = tk.toInt := by
          have e : tk.toInt.toNat = tk.toNatClampNeg := Int32.toNat_toInt _
          omega
        have hle : tk.toNatClampNeg ≤ N := by
          have h1 := hP.2.2.2.2.1
          rw [hP.2.2.1] at h1
          omega
        have LS := later_step hP.2.1 hT hle hN etk.symm q1 (hL.keep rfl rfl rfl rfl rfl (by omega)) (Or.inl rfl) ht hw
        have P1 : PR2 N t w := hP.keep (LS.2.1.1 15 (by decide)) (LS.2.1.1 16 (by decide)) (LS.2.2.1 11 (by decide)) (LS.2.2.1 13 (by decide))
        have T1 := hT.fr LS.2.1 LS.2.2 (by decide) (by decide)
        have L1 : LTb (w.v 11).toInt t w := LS.1.keep rfl rfl rfl rfl rfl (by rw [LS.2.2.1 11 (by decide)]; omega)
        refine conv (K0.trans LS.2.1 (by decide)) (G0.trans LS.2.2 (by decide)) ((LS.2.1.1 8 (by decide)).trans e8) (((LS.2.2.2 20 (by decide)).1).trans e20) ?_ (sim_wave_end P1 T1 L1 (by rw [LS.2.2.1 19 (by decide)]; exact h19) (fun j hj => by rw [(LS.2.1.2 16 (by decide)).1, (LS.2.2.2 21 (by decide)).1]; rw [LS.2.1.1 8 (by decide), e8, hW0] at hj; exact hO j (by omega)) hs hz)
        rw [LS.2.1.1 15 (by decide)]
        exact h15
      · rw [if_neg cs] at hs hz
        exact conv K0 G0 e8 e20 h15 (sim_wave_end hP hT hL h19 (fun j hj => by rw [e8, hW0] at hj; exact hO j (by omega)) hs hz)
    · have c6 := tn_nle (a := 6) (by decide) rfl c
      have ai : (i + 1).toInt = i.toInt + 1 := tn_add rfl (by decide) (by omega) (by omega)
      rw [if_neg c] at hs hz
      rw [if_pos hP.kv] at hs
      obtain ⟨r6, s5, h5, hs⟩ := bindI_inv hs
      obtain ⟨_, hs⟩ := guard_inv hs
      obtain ⟨s8, es8, hs⟩ := letS_inv hs
      obtain ⟨q6, z5, w5, hz⟩ := bindI_inv hz
      obtain ⟨_, hz⟩ := guard_inv hz
      obtain ⟨z8, ez8, hz⟩ := letS_inv hz
      obtain ⟨_, hz⟩ := guard_inv hz
      have hg : z8.f 21 (Int32.toNatClampNeg (x1 + i)) = q6 := by rw [← ez8]; exact rsf_get
      rw [hg] at hz
      rcases int_step hP hT hL h5 w5 with ⟨er, P5, L5, K5, G5, l5⟩ | F
      · subst er
        have K8 : FrK WKW s s8 := by rw [← es8]; exact (FrK.rfl.trans K5 (by decide)).sf (k := 16) (by decide)
        have G8 : FrR WZW z z8 := by rw [← ez8]; exact (FrR.rfl.trans G5 (by decide)).sf (k := 21) (by decide)
        have P8 : PR2 N s8 z8 := by rw [← es8, ← ez8]; exact P5.keep rfl rfl rfl rfl
        have L8 : LTb (z8.v 11).toInt s8 z8 := by rw [← es8, ← ez8]; exact L5.keep rfl rfl rfl rfl rfl (Int.le_refl _)
        have e115 : (z8.v 11).toInt = (z.v 11).toInt + 1 := by
          have q1 := P5.2.2.1
          have q2 : z8.v 11 = z5.v 11 := by rw [← ez8]; rfl
          rw [q2, ← q1, l5, hP.2.2.1]
        refine ih m s8 s' z8 out (sum + r6) _ (z.v 11) (i + 1) P8 (hT.fr K8 G8 (by decide) (by decide)) L8 ?_ (K0.trans K8 (by decide)) (G0.trans G8 (by decide)) ?_ ?_ ?_ (by omega) (by omega) (fun _ => ⟨?_, ?_, e115.symm⟩) ?_ hs hz
        · rw [← ez8]
          show (z5.v 19).toInt = _
          rw [G5.1 19 (by decide)]
          exact h19
        · rw [← es8]
          show s5.v 8 = _
          rw [K5.1 8 (by decide)]
          exact e8
        · rw [← ez8]
          show z5.f 20 = _
          rw [(G5.2 20 (by decide)).1]
          exact e20
        · rw [← es8]
          show (s0.v 15).toInt ≤ (s5.v 15).toInt
          omega
        · have f6 : z8.f 6 = z.f 6 := (G8.2 6 (by decide)).1
          rw [f6, ← hP.2.2.1]
          exact (hT.1 _ hP.le).2.1
        · rw [← hP.2.2.1]
          exact hP.2.2.2.1
        · intro j hj
          have v58 : s5.v 8 = s0.v 8 := (K5.1 8 (by decide)).trans e8
          have m6 : ((s5.v 8) * 6).toInt = (s5.v 8).toInt * 6 := ti_mulc (c := 6) (by decide) (by rw [v58]; omega) (by rw [v58]; omega)
          have ik : (((s5.v 8) * 6) + i).toInt = ((6 * W0 + i.toInt.toNat : Nat) : Int) := by
            rw [ti_add (by rw [m6, v58]; omega) (by rw [m6, v58]; omega), m6, v58]
            omega
          have iz : (x1 + i).toInt = ((30 * sd + (6 * W0 + i.toInt.toNat) : Nat) : Int) := by
            rw [ti_add (by omega) (by omega)]
            omega
          rw [ai] at hj
          have a1 : s8.f 16 j = if j = 6 * W0 + i.toInt.toNat then r6 else s.f 16 j := by
            rw [← es8, ksf_get, clamp_of_int ik, (K5.2 16 (by decide)).1]
          have a2 : z8.f 21 (30 * sd + j) = if 30 * sd + j = 30 * sd + (6 * W0 + i.toInt.toNat) then r6 else z.f 21 (30 * sd + j) := by
            rw [← ez8, rsf_all, clamp_of_int iz, (G5.2 21 (by decide)).1]
          rw [a1, a2]
          by_cases q : j = 6 * W0 + i.toInt.toNat
          · rw [if_pos q, if_pos (by omega)]
          · rw [if_neg q, if_neg (by omega)]
            exact hO j (by omega)
      · have k8 : Sk (s5.v 16) (s5.v 17) s8 := by rw [← es8]; exact ⟨rfl, rfl⟩
        have q8 : Sz (z5.v 13) (z5.v 14) z8 := by rw [← ez8]; exact ⟨rfl, rfl⟩
        exact Or.inr ((F.sk (sk_readWave_30L F.ne n _ _ _ _ k8 _ hs)).sz (sz_wave_31L F.1 m _ _ _ _ _ q8 _ hz))
