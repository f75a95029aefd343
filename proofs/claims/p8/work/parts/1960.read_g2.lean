/-! ===== one telling, all tellings ===== -/
theorem fr_failLater {s s' : KS} {x p : Int32} (h : kX4_failLater s x p = some s') : FrK [18, 19] s s' := by
  unfold kX4_failLater at h
  by_cases c : s.v 18 = 0
  · rw [if_pos c] at h
    obtain ⟨u2, d2, h⟩ := letS_inv h
    obtain ⟨u4, d4, h⟩ := letS_inv h
    have e : s' = u4 := by cases h; rfl
    rw [e, ← d4, ← d2]
    exact (FrK.rfl.sv (k := 18) (by decide)).sv (k := 19) (by decide)
  · rw [if_neg c] at h
    have e : s' = s := by cases h; rfl
    rw [e]
    exact FrK.rfl
theorem party_room {N : Nat} {s1 s' : KS} {z1 out : RS} {r8 x1 x2 : Int32} {nm : Int64} (P1 : PR2 N s1 z1) (T1 : TK2 N s1 z1) (c3 : KAt s1 = 300) (hl2 : s1.v 15 = 400) (hs : (if r8 = 0 then kX4_readParty_73 s1 nm else (if vpb (s1.v 15) 401 then (bindP (kX4_failLater s1 3 ((s1.f 33) (Int32.toNatClampNeg (s1.v 15)))) fun s11 => kX4_readParty_73 s11 nm) else none)) = some s') (hz : r_tellParty_30L fu (zfl z1 2) x1 x2 0 = some out) : FR2 s' out := by
  have F := P1.fail T1 2 (by decide)
  have nl : ¬ s1.v 15 < 400 := by rw [hl2]; decide
  have fin : ∀ (t : KS), PR2 N t z1 → KAt t = 300 → t.v 15 = s1.v 15 → t.f 33 = s1.f 33 → kX4_readParty_73 t nm = some s' → FR2 s' (zfl z1 2) := by
    intro t Pt' kt e15 e33 h73
    have F2 : FR2 (kfl t 2) (zfl z1 2) := by
      refine ⟨F.1, rfl, ?_⟩
      have q := F.2.2
      show t.f 33 (t.v 15).toNatClampNeg = _
      rw [e15, e33]
      exact q
    have n2 : ¬ t.v 15 < 400 := by rw [e15]; exact nl
    have h73' : kX4_readParty_73 (kfl t 2) nm = some s' := by
      unfold kX4_readParty_73 at h73 ⊢
      rw [ktake_room Pt'.1 Pt'.kv kt n2] at h73
      rw [ktake_off F2.ne]
      exact h73
    have k0 : Sk ((kfl t 2).v 16) ((kfl t 2).v 17) (kfl t 2) := ⟨rfl, rfl⟩
    exact F2.sk (sk_readParty_73 F2.ne _ k0 _ h73')
  have qz : Sz ((zfl z1 2).v 13) ((zfl z1 2).v 14) (zfl z1 2) := ⟨rfl, rfl⟩
  have qo := sz_party_30L F.1 fu _ _ _ qz _ hz
  by_cases c8 : r8 = 0
  · rw [if_pos c8] at hs
    exact (fin _ P1 c3 rfl rfl hs).sz qo
  · rw [if_neg c8, if_pos P1.kv] at hs
    obtain ⟨s11, h11, hs⟩ := bindP_inv hs
    have f11 := fr_failLater h11
    refine (fin s11 (P1.keep (f11.1 15 (by decide)) (f11.1 16 (by decide)) rfl rfl) ?_ (f11.1 15 (by decide)) (f11.2 33 (by decide)).1 hs).sz qo
    unfold KAt
    rw [f11.1 15 (by decide), (f11.2 32 (by decide)).1]
    exact c3
theorem sim_party {N sd : Nat} {s s' : KS} {z out : RS} (hP : PR2 N s z) (hT : TK2 N s z) (hL : LTb (z.v 11).toInt s z) (hk : KAt s = 257) (h19 : (z.v 19).toInt = (sd : Int)) (e9 : s.v 9 = z.f 23 sd) (h90 : 0 ≤ (s.v 9).toInt) (h96 : (s.v 9).toInt ≤ 6) (hNM : NMS sd s z) (hPT : PTS sd s z) (hsd : sd ≤ 1) (hs : kX4_readParty s = some s') (hz : (bindP (r_roomFor z (z.f 23 sd) 6) fun s9 => (if (s9.v 13) = 0 then (bindP (r_tellParty s9) fun s11 => (some s11)) else (some s9))) = some out) : ResPt N sd s z s' out := by
  unfold kX4_readParty at hs
  by_cases c6 : s.v 9 = 6
  · have n6 : ¬ s.v 9 < 6 := by rw [c6]; decide
    rw [if_neg n6, kfail_eq hP.1 hP.kv, bindP_some] at hs
    cases hs
    rw [room_full hP.2.1 hP.zv (e9.symm.trans c6), bindP_some] at hz
    have n2 : ¬ (zfl z 2).v 13 = 0 := by show ¬ (2 : Int32) = 0; decide
    rw [if_neg n2] at hz
    cases hz
    exact Or.inr (hP.fail hT 2 (by decide))
  · have l6 := tn_ne (b := 6) rfl (by decide) c6
    have n6 : s.v 9 < 6 := Int32.lt_iff_toInt_lt.mpr (by
      rw [show (6 : Int32).toInt = 6 from by decide]
      omega)
    rw [if_pos n6] at hs
    have nr : ¬ z.f 23 sd = 6 := by rw [← e9]; exact c6
    rw [room_ok hP.2.1 nr] at hz
    by_cases hl : s.v 15 = 400
    · have nl : ¬ s.v 15 < 400 := by rw [hl]; decide
      rw [ktake_room hP.1 hP.kv hk nl, bindP_some] at hs
      rw [zgo_room hP.2.1 hP.zv (by rw [← hP.2.2.1]; exact hl), bindP_some] at hz
      have n2 : ¬ (zfl z 2).v 13 = 0 := by show ¬ (2 : Int32) = 0; decide
      rw [if_neg n2] at hz
      cases hz
      have F := hP.fail hT 2 (by decide)
      obtain ⟨_, hs⟩ := guard_inv hs
      rw [kat_off F.ne, bindI_some, if_pos rfl] at hs
      have k0 : Sk ((kfl s 2).v 16) ((kfl s 2).v 17) (kfl s 2) := ⟨rfl, rfl⟩
      exact Or.inr (F.sk (sk_readParty_73 F.ne _ k0 _ hs))
    · have q := hP.lt hl
      rw [ktake_yes hP.1 hP.kv hk q.1, bindP_some] at hs
      rw [zgo_ok q.2.2, bindP_some] at hz
      have A := hP.adv hT (fun q => by rw [hk] at q; exact absurd q (by decide)) (fun q => by rw [hk] at q; exact absurd q (by decide)) hl
      have P1 := A.1
      have T1 : TK2 N (kad s) (zad z) := hT
      have a11 : ((zad z).v 11).toInt = (z.v 11).toInt + 1 := by rw [← P1.2.2.1, A.2, hP.2.2.1]
      have L1 : LTb ((zad z).v 11).toInt (kad s) (zad z) := hL.keep rfl rfl rfl rfl rfl (by omega)
      rw [if_pos P1.2.1, bindP_id] at hz
      unfold r_tellParty at hz
      obtain ⟨_, hz⟩ := guard_inv hz
      obtain ⟨z2, hm2, hz⟩ := bindP_inv hz
      rw [if_pos P1.kv] at hs
      have K1 : FrK WKP s (kad s) := FrK.rfl.sv (by decide)
      have G1 : FrR WP z (zad z) := FrR.rfl.sv (by decide)
      have lift : ∀ {t w}, ResPt N sd (kad s) (zad z) t w → ResPt N sd s z t w := by
        intro t w hr
        rcases hr with ⟨P, L, K, G, h9, h23, hn, h5, hp⟩ | F
        · exact Or.inl ⟨P, L, K1.trans K (by decide), G1.trans G (by decide), h9, h23, hn, by have := A.2; omega, hp⟩
        · exact Or.inr F
      refine lift ?_
      have hkp := P1.kp T1
      have i1 := kp2 hkp (c0 := 300) (r0 := 1) (by decide)
      by_cases c3 : KAt (kad s) = 300
      · rw [kat_yes P1.1 P1.kv c3, bindI_some, if_neg z_one] at hs
        obtain ⟨r8, s7, ht, hs⟩ := bindI_inv hs
        obtain ⟨e7, htd⟩ := told_inv2 ht
        clear ht
        subst e7
        rw [zmust_yes P1.2.1 P1.zv (i1.mp c3)] at hm2
        have ec : (((kad s).v 15).toNatClampNeg : Int) = ((zad z).v 11).toInt := by
          have h0 := P1.2.2.2.1
          have e : ((kad s).v 15).toInt.toNat = ((kad s).v 15).toNatClampNeg := Int32.toNat_toInt _
          rw [← P1.2.2.1]
          omega
        -- the name's own row, on both sides
        have hnr : NmR ((kad s).g 34 ((kad s).v 15).toNatClampNeg) ((zad z).g 8 ((zad z).v 11).toNatClampNeg) := by
          have q := (T1.1 _ P1.le).2.2.2 c3
          rw [← P1.2.2.1]
          exact q
        by_cases hl2 : (kad s).v 15 = 400
        · -- no room for it
          rw [zgo_room P1.2.1 P1.zv (by rw [← P1.2.2.1]; exact hl2)] at hm2
          cases hm2
          exact Or.inr (party_room P1 T1 c3 hl2 hs hz)
        · have q2 := P1.lt hl2
          rw [zgo_ok q2.2.2] at hm2
          cases hm2
          have A2 := P1.adv T1 (fun q => by rw [c3] at q; exact absurd q (by decide)) (fun q => by rw [c3] at q; exact absurd q (by decide)) hl2
          have hle := P1.le
          have hN := P1.2.2.2.2.2
          have ec2 : ((zad z).v 11).toNatClampNeg = ((kad s).v 15).toNatClampNeg := by rw [P1.2.2.1]
          have hw0 : (zad (zad z)).v 15 = 0 ∨ (zad (zad z)).v 16 < (zad (zad z)).f 6 ((zad z).v 11).toNatClampNeg ∨ ((zad (zad z)).f 6 ((zad z).v 11).toNatClampNeg = (zad (zad z)).v 16 ∧ (zad (zad z)).v 15 = 3) := by
            rcases L1.2 with q | ⟨_, _, j, hj, ej⟩
            · exact Or.inl q.1
            · refine Or.inr (Or.inl ?_)
              show (zad z).v 16 < (zad z).f 6 ((zad z).v 11).toNatClampNeg
              rw [ej, ec2]
              exact Int32.lt_iff_toInt_lt.mpr (T1.2.2 j _ (by omega) hle)
          obtain ⟨w, h78, Gw, hm⟩ := party_loop (sd := sd) _ _ P1.zv fu (zad (zad z)) out 0 A2.1.2.1 (clamp_of_int h19) (by decide) (by decide) hw0 hz
          have z0 : (0 : Int32).toInt = 0 := by decide
          have e923 : ((zad (zad z)).f 23 sd).toInt = ((kad s).v 9).toInt := by show (z.f 23 sd).toInt = (s.v 9).toInt; rw [e9]
          have same : ∀ p : Nat, (p : Int) < (s.v 9).toInt → ((kad s).g 29 p = (kad s).g 34 ((kad s).v 15).toNatClampNeg ↔ (zad (zad z)).g 22 p = (zad (zad z)).g 8 ((zad z).v 11).toNatClampNeg) := fun p hp => (hNM p hp).iff hnr
          have Gw' : FrR [11, 15, 16] (zad z) w := (FrR.rfl.sv (k := 11) (by decide)).trans Gw (by decide)
          have w11 : w.v 11 = ((zad z).v 11) + 1 := Gw.1 11 (by decide)
          have h195 : ((zad z).v 19).toInt = (sd : Int) := h19
          have h95 : ((kad s).v 9).toInt ≤ 5 := by show (s.v 9).toInt ≤ 5; omega
          have b19 : (6 * ((zad z).v 19)).toInt = ((zad z).v 19).toInt * 6 := ti_cmul (c := 6) (by decide) (by rw [h195]; omega) (by rw [h195]; omega)
          have hx1 : ((6 * ((zad z).v 19)) + ((zad z).f 23 (Int32.toNatClampNeg ((zad z).v 19)))).toInt = ((6 * sd : Nat) : Int) + ((kad s).v 9).toInt := by
            have e23 : (zad z).f 23 (Int32.toNatClampNeg ((zad z).v 19)) = (kad s).v 9 := by rw [clamp_of_int h195]; exact e9.symm
            have h90' : 0 ≤ ((kad s).v 9).toInt := h90
            rw [e23, ti_add (by rw [b19, h195]; omega) (by rw [b19, h195]; omega), b19, h195]
            omega
          by_cases c8 : r8 = 0
          · rw [if_pos c8] at hs
            have hw : w = zad (zad z) := by
              rcases hm with ⟨_, e⟩ | ⟨⟨p, _, p2, p3⟩, _⟩
              · exact e
              · rcases htd with ⟨e, _⟩ | ⟨_, htd⟩
                · rw [c8] at e; exact absurd e (by decide)
                · rw [e923] at p2
                  exact absurd ((same p p2).mpr p3) (htd p p2)
            have Lw : LTb (((zad z).v 11).toInt + 1) (kad s) w := by
              rw [hw]
              exact L1.keep rfl rfl rfl rfl rfl (by omega)
            exact sim_party_78 P1 T1 c3 Lw Gw' w11 hl2 h195 e9 h90 h95 hNM hPT hsd hx1 rfl rfl hs h78
          · rw [if_neg c8, if_pos P1.kv] at hs
            obtain ⟨s11, h11, hs⟩ := bindP_inv hs
            have hmat : (zad z).v 15 = 0 ∧ w.v 15 = 3 ∧ w.v 16 = (zad z).f 6 ((zad z).v 11).toNatClampNeg ∨ ¬ (zad z).v 15 = 0 ∧ w.v 15 = (zad z).v 15 ∧ w.v 16 = (zad z).v 16 := by
              rcases hm with ⟨hn, _⟩ | ⟨_, e⟩
              · rcases htd with ⟨_, p, p2, p3⟩ | ⟨e, _⟩
                · exact absurd ((same p p2).mp p3) (hn p (by omega) (by rw [e923]; exact p2))
                · exact absurd e c8
              · exact e
            obtain ⟨e18, hcs⟩ := id L1
            unfold kX4_failLater at h11
            have pl : (kad s).f 33 ((kad s).v 15).toNatClampNeg = (zad z).f 6 ((zad z).v 11).toNatClampNeg := by rw [ec2]; exact (T1.1 _ hle).2.1
            have res : FrK [18, 19] (kad s) s11 ∧ LTb (((zad z).v 11).toInt + 1) s11 w := by
              by_cases z15 : (zad z).v 15 = 0
              · rw [if_pos (e18.trans z15)] at h11
                obtain ⟨u2, d2, h11⟩ := letS_inv h11
                obtain ⟨u4, d4, h11⟩ := letS_inv h11
                cases h11
                rcases hmat with ⟨_, m1, m2⟩ | ⟨m1, _⟩
                · refine ⟨by rw [← d4, ← d2]; exact (FrK.rfl.sv (k := 18) (by decide)).sv (k := 19) (by decide), ?_, Or.inr ⟨?_, Or.inl m1, ((zad z).v 11).toNatClampNeg, ?_, ?_⟩⟩
                  · rw [m1, ← d4, ← d2]; rfl
                  · rw [m2, ← pl, ← d4]; rfl
                  · rw [ec2]; omega
                  · rw [m2, (Gw'.2 6 (by decide)).1]
                · exact absurd z15 m1
              · have n18 : ¬ (kad s).v 18 = 0 := by rw [e18]; exact z15
                rw [if_neg n18] at h11
                cases h11
                rcases hmat with ⟨m1, _⟩ | ⟨_, m1, m2⟩
                · exact absurd m1 z15
                · exact ⟨FrK.rfl, L1.keep rfl rfl m1 m2 (Gw'.2 6 (by decide)).1 (by omega)⟩
            obtain ⟨f11, L11⟩ := res
            have P11 : PR2 N s11 (zad z) := P1.keep (f11.1 15 (by decide)) (f11.1 16 (by decide)) rfl rfl
            have T11 : TK2 N s11 (zad z) := T1.fr f11 (FrR.rfl (W := [])) (by decide) (by decide)
            have k11 : KAt s11 = 300 := by
              unfold KAt
              rw [f11.1 15 (by decide), (f11.2 32 (by decide)).1]
              exact c3
            have v9 : s11.v 9 = (kad s).v 9 := f11.1 9 (by decide)
            have NM11 : NMS sd s11 (zad z) := by
              intro p hp
              rw [v9] at hp
              rw [(f11.2 29 (by decide)).2]
              exact hNM p hp
            have PT11 : PTS sd s11 (zad z) := by
              intro p hp
              rw [v9] at hp
              rw [(f11.2 19 (by decide)).1, (f11.2 20 (by decide)).1]
              exact hPT p hp
            have hnm : (kad s).g 34 ((kad s).v 15).toNatClampNeg = s11.g 34 (s11.v 15).toNatClampNeg := by rw [(f11.2 34 (by decide)).2, f11.1 15 (by decide)]
            have hl11 : ¬ s11.v 15 = 400 := by rw [f11.1 15 (by decide)]; exact hl2
            rcases sim_party_78 P11 T11 k11 L11 Gw' w11 hl11 h195 (v9.trans e9) (by rw [v9]; exact h90) (by rw [v9]; exact h95) NM11 PT11 hsd (by rw [v9]; exact hx1) rfl hnm hs h78 with ⟨P, L, K, G, h9, h23, hn, h5, hp⟩ | F
            · exact Or.inl ⟨P, L, (FrK.rfl.trans f11 (by decide)).trans K (by decide), G, by rw [h9, v9], h23, hn, by rw [← f11.1 15 (by decide)]; exact h5, hp⟩
            · exact Or.inr F
      · -- no name
        rw [kat_no P1.1 P1.kv c3, bindI_some, if_pos rfl] at hs
        rw [zmust_no P1.2.1 P1.zv (fun q => c3 (i1.mpr q))] at hm2
        cases hm2
        have F := P1.fail T1 1 (by decide)
        have h73' : ∃ nm, kX4_readParty_73 (kfl (kad s) 1) nm = some s' := by
          refine ⟨(kad s).g 34 ((kad s).v 15).toNatClampNeg, ?_⟩
          unfold kX4_readParty_73 at hs ⊢
          rw [ktake_no P1.1 P1.kv c3] at hs
          rw [ktake_off F.ne]
          exact hs
        obtain ⟨nm, h73'⟩ := h73'
        have k0 : Sk ((kfl (kad s) 1).v 16) ((kfl (kad s) 1).v 17) (kfl (kad s) 1) := ⟨rfl, rfl⟩
        have qz : Sz ((zfl (zad z) 1).v 13) ((zfl (zad z) 1).v 14) (zfl (zad z) 1) := ⟨rfl, rfl⟩
        exact Or.inr ((F.sk (sk_readParty_73 F.ne _ k0 _ h73')).sz (sz_party_30L F.1 fu _ _ _ qz _ hz))
theorem sim_wave {N sd : Nat} {s s' : KS} {z out : RS} (hP : PR2 N s z) (hT : TK2 N s z) (hL : LTb (z.v 11).toInt s z) (hk : KAt s = 256) (h19 : (z.v 19).toInt = (sd : Int)) (e8 : s.v 8 = z.f 20 sd) (h80 : 0 ≤ (s.v 8).toInt) (h85 : (s.v 8).toInt ≤ 5) (hsd : sd ≤ 1) (hO : ∀ j : Nat, (j : Int) < 6 * (s.v 8).toInt → s.f 16 j = z.f 21 (30 * sd + j)) (hs : kX4_readWave s = some s') (hz : (bindP (r_roomFor z (z.f 20 sd) 5) fun s4 => (if (s4.v 13) = 0 then (bindP (r_tellWave s4) fun s6 => (some s6)) else (some s4))) = some out) : ResW N sd s z s' out := by
  unfold kX4_readWave at hs
  by_cases c5 : s.v 8 = 5
  · have n5 : ¬ s.v 8 < 5 := by rw [c5]; decide
    rw [if_neg n5, kfail_eq hP.1 hP.kv, bindP_some] at hs
    cases hs
    rw [room_full hP.2.1 hP.zv (e8.symm.trans c5), bindP_some] at hz
    have n2 : ¬ (zfl z 2).v 13 = 0 := by show ¬ (2 : Int32) = 0; decide
    rw [if_neg n2] at hz
    cases hz
    exact Or.inr (hP.fail hT 2 (by decide))
  · have l5 := tn_ne (b := 5) rfl (by decide) c5
    have n5 : s.v 8 < 5 := Int32.lt_iff_toInt_lt.mpr (by
      rw [show (5 : Int32).toInt = 5 from by decide]
      omega)
    rw [if_pos n5] at hs
    have nr : ¬ z.f 20 sd = 5 := by rw [← e8]; exact c5
    rw [room_ok hP.2.1 nr] at hz
    by_cases hl : s.v 15 = 400
    · have nl : ¬ s.v 15 < 400 := by rw [hl]; decide
      rw [ktake_room hP.1 hP.kv hk nl, bindP_some] at hs
      rw [zgo_room hP.2.1 hP.zv (by rw [← hP.2.2.1]; exact hl), bindP_some] at hz
      have n2 : ¬ (zfl z 2).v 13 = 0 := by show ¬ (2 : Int32) = 0; decide
      rw [if_neg n2] at hz
      cases hz
      have F := hP.fail hT 2 (by decide)
      have k0 : Sk ((kfl s 2).v 16) ((kfl s 2).v 17) (kfl s 2) := ⟨rfl, rfl⟩
      exact Or.inr (F.sk (sk_readWave_30L F.ne fu _ _ _ _ k0 _ hs))
    · have q := hP.lt hl
      rw [ktake_yes hP.1 hP.kv hk q.1, bindP_some] at hs
      rw [zgo_ok q.2.2, bindP_some] at hz
      have A := hP.adv hT (fun q => by rw [hk] at q; exact absurd q (by decide)) (fun q => by rw [hk] at q; exact absurd q (by decide)) hl
      have a11 : ((zad z).v 11).toInt = (z.v 11).toInt + 1 := by rw [← A.1.2.2.1, A.2, hP.2.2.1]
      rw [if_pos A.1.2.1, bindP_id] at hz
      unfold r_tellWave at hz
      obtain ⟨_, hz⟩ := guard_inv hz
      have z0 : (0 : Int32).toInt = 0 := by decide
      have h195 : ((zad z).v 19).toInt = (sd : Int) := h19
      have ec8 : ((s.v 8).toNatClampNeg : Int) = (s.v 8).toInt := by
        have e : (s.v 8).toInt.toNat = (s.v 8).toNatClampNeg := Int32.toNat_toInt _
        omega
      have b30 : (30 * ((zad z).v 19)).toInt = ((zad z).v 19).toInt * 30 := ti_cmul (c := 30) (by decide) (by rw [h195]; omega) (by rw [h195]; omega)
      have e20 : (zad z).f 20 (Int32.toNatClampNeg ((zad z).v 19)) = s.v 8 := by rw [clamp_of_int h195]; exact e8.symm
      have b6 : (6 * (s.v 8)).toInt = (s.v 8).toInt * 6 := ti_cmul (c := 6) (by decide) (by omega) (by omega)
      have hx1 : ((30 * ((zad z).v 19)) + (6 * ((zad z).f 20 (Int32.toNatClampNeg ((zad z).v 19))))).toInt = ((30 * sd + 6 * (s.v 8).toNatClampNeg : Nat) : Int) := by
        rw [e20, ti_add (by rw [b30, b6, h195]; omega) (by rw [b30, b6, h195]; omega), b30, b6, h195]
        omega
      exact sim_waveL (s0 := s) _ (s.v 8).toNatClampNeg ec8.symm (by omega) hsd hx1 fu fu (kad s) s' (zad z) out 0 (-1) _ 0 A.1 (hT.fr (FrK.rfl.sv (W := WKW) (k := 15) (by decide)) (FrR.rfl.sv (W := WZW) (k := 11) (by decide)) (by decide) (by decide)) (hL.keep rfl rfl rfl rfl rfl (by omega)) h19 (FrK.rfl.sv (k := 15) (by decide)) (FrR.rfl.sv (k := 11) (by decide)) rfl rfl (by have := A.2; omega) (by decide) (by decide) (fun h => by omega) (fun j hj => hO j (by omega)) hs hz
/-- what has been told so far -/
def CT (sd : Nat) (s : KS) (z : RS) : Prop := (∀ j : Nat, (j : Int) < 6 * (s.v 8).toInt → s.f 16 j = z.f 21 (30 * sd + j)) ∧ PTS sd s z ∧ s.v 11 = z.f 26 sd ∧ sd ≤ 1
/-- the laws told so far, on both sides -/
def LAW (sd : Nat) (s : KS) (z : RS) : Prop := PreC s z ∧ ((420 * sd : Nat) : Int) ≤ (z.v 35).toInt ∧ ((130 * sd : Nat) : Int) ≤ (z.v 29).toInt ∧ ∀ cl, cl < 4 → LawR (s.v 12).toInt ((420 * sd : Nat) : Int) (z.v 35).toInt (130 * sd) (z.v 29).toNatClampNeg (s.f 22) (s.f 23) (s.f 24) (s.f 25) cl (4 * sd + cl) z
theorem LAW.keep {sd : Nat} {s s' : KS} {z z' : RS} {W W' : List Nat} (h : LAW sd s z) (K : FrK W s s') (G : FrR W' z z') (hW : 12 ∉ W ∧ 122 ∉ W ∧ 123 ∉ W ∧ 124 ∉ W ∧ 125 ∉ W) (hW' : (35 ∉ W' ∧ 29 ∉ W' ∧ 127 ∉ W' ∧ 128 ∉ W') ∧ (130 ∉ W' ∧ 131 ∉ W' ∧ 132 ∉ W' ∧ 133 ∉ W' ∧ 134 ∉ W') ∧ 136 ∉ W' ∧ 137 ∉ W') (h15 : (s.v 15).toInt ≤ (s'.v 15).toInt) : LAW sd s' z' := by
  obtain ⟨⟨a1, a2, a3⟩, a4, a5, a6⟩ := h
  unfold LAW PreC
  rw [K.1 12 hW.1, G.1 35 hW'.1.1, G.1 29 hW'.1.2.1, (K.2 22 hW.2.1).1, (K.2 23 hW.2.2.1).1, (K.2 24 hW.2.2.2.1).1, (K.2 25 hW.2.2.2.2).1]
  refine ⟨⟨a1, by omega, a3⟩, a4, a5, fun cl hcl => ?_⟩
  exact (a6 cl hcl).keep (fun _ _ => rfl) (fun _ _ _ => rfl) rfl rfl (fun i _ _ => by rw [es_fr G hW'.2.2.1 hW'.2.2.2]) (fun i _ _ => SmB.fr G hW'.2.1) (by rw [(G.2 27 hW'.1.2.2.1).1]) (by rw [(G.2 28 hW'.1.2.2.2).1]) (Int.le_refl _) (Int.le_refl _) (Nat.le_refl _)
theorem LAW.law {sd cl b0 : Nat} {s s' : KS} {z out : RS} (h : LAW sd s z) (hb : (z.v 29).toNatClampNeg = b0) (hcl : cl < 4) (E : LwE cl b0 sd ((420 * sd : Nat) : Int) (z.v 29) s z s' out) : LAW sd s' out := by
  obtain ⟨a0, a4, a5, a6⟩ := h
  obtain ⟨ck, cz, pc, lo', ⟨m, o29, T⟩, f27, f28⟩ := E
  have e29 : (z.v 29).toInt.toNat = (z.v 29).toNatClampNeg := Int32.toNat_toInt _
  have eo : (out.v 29).toNatClampNeg = b0 + m + 1 := clamp_of_int o29
  refine ⟨pc, lo', by omega, fun c hc => ?_⟩
  by_cases e : c = cl
  · subst e
    refine Or.inr ⟨b0, m, by omega, by omega, ?_, ?_, T⟩
    · rw [f27, if_pos rfl]
      omega
    · rw [f28, if_pos rfl]
      exact o29
  · refine (a6 c hc).keep ck.1 (fun i q1 q2 => ck.2.1 i (by omega)) (ck.2.2.1 c e).1 (ck.2.2.1 c e).2 (fun i _ q => cz.1 i q) (fun i q1 q2 => cz.2.1 i (by omega)) ?_ ?_ ck.2.2.2 cz.2.2 (by omega)
    · rw [f27, if_neg (by omega)]
    · rw [f28, if_neg (by omega)]
/-- where both stand between two tellings -/
def ML (N sd : Nat) (s : KS) (z : RS) : Prop := PR2 N s z ∧ TK2 N s z ∧ LTb (z.v 11).toInt s z ∧ z.v 12 = 0 ∧ (z.v 19).toInt = (sd : Int) ∧ s.v 8 = z.f 20 sd ∧ s.v 9 = z.f 23 sd ∧ (0 ≤ (s.v 8).toInt ∧ (s.v 8).toInt ≤ 5) ∧ (0 ≤ (s.v 9).toInt ∧ (s.v 9).toInt ≤ 6) ∧ NMS sd s z ∧ CT sd s z ∧ LAW sd s z
theorem CT.keep {sd : Nat} {s s' : KS} {z z' : RS} (h : CT sd s z) (e8 : s'.v 8 = s.v 8) (e9 : s'.v 9 = s.v 9) (e11 : s'.v 11 = s.v 11) (f16 : s'.f 16 = s.f 16) (f19 : s'.f 19 = s.f 19) (f20 : s'.f 20 = s.f 20) (g21 : z'.f 21 = z.f 21) (g24 : z'.f 24 = z.f 24) (g25 : z'.f 25 = z.f 25) (g26 : z'.f 26 = z.f 26) : CT sd s' z' := by
  unfold CT PTS
  rw [e8, e9, e11, f16, f19, f20, g21, g24, g25, g26]
  exact h
theorem step_go {N : Nat} {s : KS} {z : RS} {c : Int32} (h : PR2 N s z) (hT : TK2 N s z) (hk : KAt s = c) (hc : ¬ c = 302 ∧ ¬ c = 303) : ∃ s' z', kX4_take s c = some s' ∧ r_goesOn z = some z' ∧ ((s' = kad s ∧ z' = zad z ∧ PR2 N s' z' ∧ (s'.v 15).toInt = (s.v 15).toInt + 1) ∨ FR2 s' z') := by
  by_cases hl : s.v 15 = 400
  · have nl : ¬ s.v 15 < 400 := by rw [hl]; decide
    exact ⟨_, _, ktake_room h.1 h.kv hk nl, zgo_room h.2.1 h.zv (by rw [← h.2.2.1]; exact hl), Or.inr (h.fail hT 2 (by decide))⟩
  · have q := h.lt hl
    have a := h.adv hT (fun q => hc.1 (hk.symm.trans q)) (fun q => hc.2 (hk.symm.trans q)) hl
    exact ⟨_, _, ktake_yes h.1 h.kv hk q.1, zgo_ok q.2.2, Or.inl ⟨rfl, rfl, a.1, a.2⟩⟩
theorem sim_tell {N sd : Nat} {s s' : KS} {z out : RS} (h : ML N sd s z) (hI : InvK s) (hs : kX4_readTell s = some s') (hz : r_tellOne z = some out) : (ML N sd s' out ∧ (s.v 15).toInt + 1 ≤ (s'.v 15).toInt) ∨ FR2 s' out := by
  obtain ⟨hP, hT, hL, h12, h19, e8, e9, hb8, hb9, hNM, hCT, hLW⟩ := h
  have hk := hP.kp hT
  have c19 : (z.v 19).toNatClampNeg = sd := clamp_of_int h19
  obtain ⟨y', ey, hIy, hFy⟩ := ok_kX4_readTell s hI
  rw [hs] at ey
  cases ey
  have b8 : 0 ≤ (s'.v 8).toInt ∧ (s'.v 8).toInt ≤ 5 := hIy.1 8
  have b9 : 0 ≤ (s'.v 9).toInt ∧ (s'.v 9).toInt ≤ 6 := hIy.1 9
  unfold kX4_readTell at hs
  unfold r_tellOne at hz
  rw [if_pos hP.kv] at hs
  rw [if_pos hP.zv] at hz
  have i20 := kp2 hk (c0 := 256) (r0 := 20) (by decide)
  have i21 := kp2 hk (c0 := 257) (r0 := 21) (by decide)
  have i26 := kp2 hk (c0 := 262) (r0 := 26) (by decide)
  by_cases c1 : KAt s = 256
  · rw [if_pos c1, bindP_id] at hs
    rw [if_pos (i20.mp c1)] at hz
    obtain ⟨_, hz⟩ := guard_inv hz
    rw [c19] at hz
    rcases sim_wave hP hT hL c1 h19 e8 hb8.1 hb8.2 hCT.2.2.2 hCT.1 hs hz with ⟨P, L, K, G, h8, h20, h5, hOD⟩ | F
    · refine Or.inl ⟨⟨P, hT.fr K G (by decide) (by decide), L, (G.1 12 (by decide)).trans h12, by rw [G.1 19 (by decide)]; exact h19, by rw [h8, h20, e8], by rw [K.1 9 (by decide), (G.2 23 (by decide)).1]; exact e9, b8, b9, ?_, ?_, hLW.keep K G (by decide) (by decide) (by omega)⟩, h5⟩
      · intro p hp
        rw [K.1 9 (by decide)] at hp
        rw [(K.2 29 (by decide)).2, (G.2 22 (by decide)).2]
        exact hNM p hp
      · have a8 : ((s.v 8) + 1).toInt = (s.v 8).toInt + 1 := tn_add rfl (by decide) (by omega) (by omega)
        refine ⟨fun j hj => hOD j (by rw [h8, a8] at hj; exact hj), fun p hp => ?_, ?_, hCT.2.2.2⟩
        · rw [K.1 9 (by decide)] at hp
          rw [(K.2 19 (by decide)).1, (K.2 20 (by decide)).1, (G.2 24 (by decide)).1, (G.2 25 (by decide)).1]
          exact hCT.2.1 p hp
        · rw [K.1 11 (by decide), (G.2 26 (by decide)).1]
          exact hCT.2.2.1
    · exact Or.inr F
  · rw [if_neg c1] at hs
    rw [if_neg (fun q => c1 (i20.mpr q))] at hz
    by_cases c2 : KAt s = 257
    · rw [if_pos c2, bindP_id] at hs
      rw [if_pos (i21.mp c2)] at hz
      obtain ⟨_, hz⟩ := guard_inv hz
      rw [c19] at hz
      rcases sim_party hP hT hL c2 h19 e9 hb9.1 hb9.2 hNM hCT.2.1 hCT.2.2.2 hs hz with ⟨P, L, K, G, h9, h23, hn, h5, hPT⟩ | F
      · exact Or.inl ⟨⟨P, hT.fr K G (by decide) (by decide), L, (G.1 12 (by decide)).trans h12, by rw [G.1 19 (by decide)]; exact h19, by rw [K.1 8 (by decide), (G.2 20 (by decide)).1]; exact e8, by rw [h9, h23, e9], b8, b9, hn, ⟨fun j hj => by rw [K.1 8 (by decide)] at hj; rw [(K.2 16 (by decide)).1, (G.2 21 (by decide)).1]; exact hCT.1 j hj, hPT, by rw [K.1 11 (by decide), (G.2 26 (by decide)).1]; exact hCT.2.2.1, hCT.2.2.2⟩, hLW.keep K G (by decide) (by decide) (by omega)⟩, h5⟩
      · exact Or.inr F
    · rw [if_neg c2] at hs
      rw [if_neg (fun q => c2 (i21.mpr q))] at hz
      by_cases c3 : KAt s = 262
      · rw [if_pos c3] at hs
        rw [if_pos (i26.mp c3)] at hz
        obtain ⟨s9, h9, hs⟩ := bindP_inv hs
        obtain ⟨r11, s10, h10, hs⟩ := bindI_inv hs
        obtain ⟨s12, d12, hs⟩ := letS_inv hs
        rw [bindP_id] at hs
        obtain ⟨z13, g13, hz⟩ := bindP_inv hz
        obtain ⟨r15, z14, g14, hz⟩ := bindI_inv hz
        obtain ⟨_, hz⟩ := guard_inv hz
        obtain ⟨z17, d17, hz⟩ := letS_inv hz
        rw [bindP_id] at hz
        obtain ⟨t, w, h1, h2, hcase⟩ := step_go hP hT c3 (by decide)
        rw [h9] at h1
        cases h1
        rw [g13] at h2
        cases h2
        rcases hcase with ⟨u1, u2, P1, l1⟩ | F
        · have K1 : FrK [11, 15, 16, 17, 18, 19] s s9 := by rw [u1]; exact FrK.rfl.sv (by decide)
          have G1 : FrR [11, 13, 14, 15, 16, 126] z z13 := by rw [u2]; exact FrR.rfl.sv (by decide)
          have T1 := hT.fr K1 G1 (by decide) (by decide)
          have a11 : (z13.v 11).toInt = (z.v 11).toInt + 1 := by rw [← P1.2.2.1, l1, hP.2.2.1]
          have L1 : LTb (z13.v 11).toInt s9 z13 := by
            refine hL.keep ?_ ?_ ?_ ?_ ?_ (by omega)
            · rw [u1]; rfl
            · rw [u1]; rfl
            · rw [u2]; rfl
            · rw [u2]; rfl
            · rw [u2]; rfl
          rcases int_step P1 T1 L1 h10 g14 with ⟨er, P5, L5, K5, G5, l5⟩ | F
          · have K12 : FrK [11, 15, 16, 17, 18, 19] s s12 := by rw [← d12]; exact (K1.trans K5 (by decide)).sv (k := 11) (by decide)
            have G17 : FrR [11, 13, 14, 15, 16, 126] z z17 := by rw [← d17]; exact (G1.trans G5 (by decide)).sf (k := 26) (by decide)
            have P12 : PR2 N s12 z17 := by rw [← d12, ← d17]; exact P5.keep rfl rfl rfl rfl
            have L12 : LTb (z17.v 11).toInt s12 z17 := by rw [← d12, ← d17]; exact L5.keep rfl rfl rfl rfl rfl (Int.le_refl _)
            have l12 : (s12.v 15).toInt = (s10.v 15).toInt := by rw [← d12]; rfl
            have T12 := hT.fr K12 G17 (by decide) (by decide)
            obtain ⟨t, w, h1, h2, hcase⟩ := step2 (c := 59) (r := 4) P12 T12 (by decide) (by decide)
            rw [hs] at h1
            cases h1
            rw [hz] at h2
            cases h2
            rcases hcase with ⟨_, u3, u4, P14, l14⟩ | ⟨F, _, _⟩
            · have K : FrK [11, 15, 16, 17, 18, 19] s s' := by rw [u3]; exact K12.sv (k := 15) (by decide)
              have G : FrR [11, 13, 14, 15, 16, 126] z out := by rw [u4]; exact G17.sv (k := 11) (by decide)
              have o11 : (out.v 11).toInt = (z17.v 11).toInt + 1 := by rw [← P14.2.2.1, l14, P12.2.2.1]
              refine Or.inl ⟨⟨P14, hT.fr K G (by decide) (by decide), ?_, (G.1 12 (by decide)).trans h12, by rw [G.1 19 (by decide)]; exact h19, by rw [K.1 8 (by decide), (G.2 20 (by decide)).1]; exact e8, by rw [K.1 9 (by decide), (G.2 23 (by decide)).1]; exact e9, b8, b9, ?_, ?_, hLW.keep K G (by decide) (by decide) (by omega)⟩, by omega⟩
              · refine L12.keep ?_ ?_ ?_ ?_ ?_ (by omega)
                · rw [u3]; rfl
                · rw [u3]; rfl
                · rw [u4]; rfl
                · rw [u4]; rfl
                · rw [u4]; rfl
              · intro p hp
                rw [K.1 9 (by decide)] at hp
                rw [(K.2 29 (by decide)).2, (G.2 22 (by decide)).2]
                exact hNM p hp
              · refine ⟨fun j hj => ?_, fun p hp => ?_, ?_, hCT.2.2.2⟩
                · rw [K.1 8 (by decide)] at hj
                  rw [(K.2 16 (by decide)).1, (G.2 21 (by decide)).1]
                  exact hCT.1 j hj
                · rw [K.1 9 (by decide)] at hp
                  rw [(K.2 19 (by decide)).1, (K.2 20 (by decide)).1, (G.2 24 (by decide)).1, (G.2 25 (by decide)).1]
                  exact hCT.2.1 p hp
                · have c13 : (z13.v 19).toNatClampNeg = sd := by rw [u2]; exact clamp_of_int h19
                  rw [u3, u4]
                  show s12.v 11 = z17.f 26 sd
                  rw [← d12, ← d17, c13, rsf_get]
                  exact er
            · exact Or.inr F
          · have k12 : Sk (s10.v 16) (s10.v 17) s12 := by rw [← d12]; exact ⟨rfl, rfl⟩
            have q17 : Sz (z14.v 13) (z14.v 14) z17 := by rw [← d17]; exact ⟨rfl, rfl⟩
            exact Or.inr ((F.sk (sk_take F.ne _ k12 _ hs)).sz (sz_must F.1 _ q17 _ hz))
        · have k9 : Sk (s9.v 16) (s9.v 17) s9 := ⟨rfl, rfl⟩
          have q13 : Sz (z13.v 13) (z13.v 14) z13 := ⟨rfl, rfl⟩
          have k10 : Sk (s9.v 16) (s9.v 17) s10 := sk_takeInt F.ne _ k9 _ h10
          have q14 : Sz (z13.v 13) (z13.v 14) z14 := sz_bounded F.1 _ q13 _ g14
          have k12 : Sk (s9.v 16) (s9.v 17) s12 := by rw [← d12]; exact k10
          have q17 : Sz (z13.v 13) (z13.v 14) z17 := by rw [← d17]; exact q14
          exact Or.inr ((F.sk (sk_take F.ne _ k12 _ hs)).sz (sz_must F.1 _ q17 _ hz))
      · rw [if_neg c3] at hs
        rw [if_neg (fun q => c3 (i26.mpr q)), if_pos hP.zv] at hz
        obtain ⟨p, hp, ep1, ep2⟩ := id hk
        have hlaw := kpl_law p hp
        have hlawn := kpl_lawn p hp
        rw [← ep1] at hlaw hlawn
        rw [← ep2] at hlaw hlawn
        by_cases cl : ¬ (KAt s - 258 < 0) ∧ ¬ (4 ≤ KAt s - 258)
        · have zl := hlaw.mp cl
          have cn := hlawn cl
          rw [if_neg cl.1, if_neg cl.2] at hs
          rw [if_neg zl.1, if_pos hP.zv, if_pos zl.2] at hz
          obtain ⟨s7, h7, hs⟩ := bindP_inv hs
          rw [bindP_id] at hs
          unfold r_tellOne_165 at hz
          have q0 : z.v 13 ≤ 0 := by rw [hP.2.1]; decide
          rw [if_pos q0] at hz
          obtain ⟨z2, g2, hz⟩ := bindP_inv hz
          rw [bindP_id] at hz
          obtain ⟨t, w, h1, h2, hcase⟩ := step_go hP hT (c := KAt s) rfl cn.2
          rw [h7] at h1
          cases h1
          rw [g2] at h2
          cases h2
          rw [cn.1] at hs
          rcases hcase with ⟨u1, u2, P1, l1⟩ | F
          · have K1 : FrK WLK s s7 := by rw [u1]; exact FrK.rfl.sv (by decide)
            have G1 : FrR WLZ z z2 := by rw [u2]; exact FrR.rfl.sv (by decide)
            have T1 := hT.fr K1 G1 (by decide) (by decide)
            have v12 : z2.v 12 = 0 := by rw [u2]; exact h12
            have x0 := tn_nlt (b := 0) rfl (by decide) zl.1
            have x4 : (ZAt z - 22).toInt < 4 := tn_nle (x := 4) (y := ZAt z - 22) (a := 4) (by decide) rfl (by rw [← cn.1]; exact cl.2)
            obtain ⟨nc, hnc⟩ : ∃ n : Nat, (ZAt z - 22).toInt = (n : Int) := ⟨(ZAt z - 22).toInt.toNat, by omega⟩
            have hL7 : LAW sd s7 z2 := by
              rw [u1, u2]
              refine hLW.keep (FrK.rfl.sv (W := [15]) (k := 15) (by decide)) (FrR.rfl.sv (W := [11]) (k := 11) (by decide)) (by decide) (by decide) ?_
              rw [u1] at l1
              have l1 : ((kad s).v 15).toInt = (s.v 15).toInt + 1 := l1
              show (s.v 15).toInt ≤ ((kad s).v 15).toInt
              omega
            have e29 : (z2.v 29).toInt.toNat = (z2.v 29).toNatClampNeg := Int32.toNat_toInt _
            have p29 := hL7.2.2.1
            have h19' : (z2.v 19).toInt = (sd : Int) := by rw [u2]; exact h19
            rcases sim_law (cl := nc) (b0 := (z2.v 29).toNatClampNeg) (sd := sd) (lo := ((420 * sd : Nat) : Int)) hL7.1 (by omega) hnc (by omega) hL7.2.1 h19' hCT.2.2.2 P1 T1 v12 hs hz with ⟨P5, K5, G5, v5, l5, E5⟩ | F
            · have K := K1.trans K5 (by decide)
              have G := G1.trans G5 (by decide)
              have o11 : (z.v 11).toInt ≤ (out.v 11).toInt := by
                rw [← P5.2.2.1, ← hP.2.2.1]
                omega
              refine Or.inl ⟨⟨P5, hT.fr K G (by decide) (by decide), hL.keep (K.1 18 (by decide)) (K.1 19 (by decide)) (G.1 15 (by decide)) (G.1 16 (by decide)) (G.2 6 (by decide)).1 o11, v5, by rw [G.1 19 (by decide)]; exact h19, by rw [K.1 8 (by decide), (G.2 20 (by decide)).1]; exact e8, by rw [K.1 9 (by decide), (G.2 23 (by decide)).1]; exact e9, b8, b9, ?_, hCT.keep (K.1 8 (by decide)) (K.1 9 (by decide)) (K.1 11 (by decide)) (K.2 16 (by decide)).1 (K.2 19 (by decide)).1 (K.2 20 (by decide)).1 (G.2 21 (by decide)).1 (G.2 24 (by decide)).1 (G.2 25 (by decide)).1 (G.2 26 (by decide)).1, hL7.law rfl (by omega) E5⟩, by omega⟩
              intro p hp
              rw [K.1 9 (by decide)] at hp
              rw [(K.2 29 (by decide)).2, (G.2 22 (by decide)).2]
              exact hNM p hp
            · exact Or.inr F
          · -- the law's word had no room
            have k7 : Sk (s7.v 16) (s7.v 17) s7 := ⟨rfl, rfl⟩
            have q2 : Sz (z2.v 13) (z2.v 14) z2 := ⟨rfl, rfl⟩
            unfold kX4_readLaw at hs
            obtain ⟨t1, j1, hs⟩ := bindP_inv hs
            obtain ⟨t2, j2, hs⟩ := bindP_inv hs
            unfold r_tellLaw at hz
            obtain ⟨w1, j3, hz⟩ := bindP_inv hz
            exact Or.inr ((F.sk (sk_readLaw_19L F.ne fu _ (sk_begin _ (sk_take F.ne _ k7 _ j1) _ j2) _ hs)).sz (sz_law_12L F.1 fu _ _ _ (sz_must F.1 _ q2 _ j3) _ hz))
        · have hs : kX4_readTell_106 s = some s' := by
            by_cases q1 : KAt s - 258 < 0
            · rw [if_pos q1] at hs; exact hs
            · by_cases q2 : 4 ≤ KAt s - 258
              · rw [if_neg q1, if_pos q2] at hs; exact hs
              · exact absurd ⟨q1, q2⟩ cl
          have hz : ∃ x, r_tellOne_160 z x = some out := by
            by_cases q1 : ZAt z - 22 < 0
            · rw [if_pos q1] at hz; exact ⟨_, hz⟩
            · by_cases q2 : ZAt z ≤ 25
              · exact absurd (hlaw.mpr ⟨q1, q2⟩) cl
              · rw [if_neg q1, if_pos hP.zv, if_neg q2] at hz; exact ⟨_, hz⟩
          obtain ⟨x, hz⟩ := hz
          unfold kX4_readTell_106 at hs
          rw [kfail_eq hP.1 hP.kv, bindP_some] at hs
          cases hs
          unfold r_tellOne_160 r_tellOne_165 at hz
          have n1 : ¬ (zfl z 1).v 13 ≤ 0 := by show ¬ (1 : Int32) ≤ 0; decide
          rw [zfail_eq hP.2.1 hP.zv, bindP_some, if_neg n1] at hz
          cases hz
          exact Or.inr (hP.fail hT 1 (by decide))
