/-! ===== a party goes ===== -/
/-- where a party stands on both sides while it goes: the reference has counted the go already -/
def SGo (s : JS) (z : RS) (p : Nat) : Prop := SR (s.d.sf 4 p ((s.d.f 4 p) + 1)) (z.f 44)
theorem send_row {x1 x2 x3 xb r1 r2 : Int32} {p g n B : Nat} {s0 s' : JS} {z0 z' : RS} (e1 : x1.toInt = (p : Int)) (hp6 : p < 6) (e2 : x2.toInt = (g : Int)) (e3 : x3.toInt = (dsum (Dw z0) n : Int)) (eb : xb.toInt = (B : Int)) (hBn : B ≤ n) (hn5 : n ≤ 5)
    (hS0 : SO s0.k z0) (hR0 : SR s0.d (z0.f 44)) (hI0 : InvR z0) (hB0 : Big z0) (hK0 : InvK s0.k) (hn : (s0.k.v 1).toInt = (n : Int)) (hp : (p : Int) < (s0.k.v 2).toInt) (h45 : s0.k.v 4 = z0.v 45) (hst : s0.d.f 3 p = 0)
    (hbr : ∀ i, i ≤ B → i < n → ∃ zi zi' ri, FrR WSZ z0 zi ∧ InvR zi ∧ r_doesBear zi x1 (Int32.ofNat i) (Int32.ofNat (tg g i)) = some (ri, zi') ∧ (i < B → ¬ ri = 0) ∧ (i = B → ri = 0)) :
    ∀ (m m2 : Nat) (s : JS) (z : RS) (x : Int32) (j : Nat), x.toInt = (j : Int) → j ≤ B → FrK WSK s0.k s.k → InvK s.k → FrR (144 :: WSZ) z0 z → SGo s z p → FO s.k s.d → (s.d.f 4 p = z0.f 44 (21 + p) ∧ s.d.v 5 = z0.f 44 27 ∧ s.d.f 3 p = 0 ∧ (∀ w, s.d.f 2 w = s0.d.f 2 w)) → (∀ i, j ≤ i → i < 5 → z.f 44 i = z0.f 44 i ∧ z.f 44 (5 + i) = z0.f 44 (5 + i)) → kX0_sendBy_24L m s x1 x2 2 x x = some (r1, s') → r_goesBy_39L m2 z x1 x2 x3 xb x = some (r2, z') → r1 = r2 ∧ FrK WSK s0.k s'.k ∧ FrR (144 :: WSZ) z0 z' ∧ SR s'.d (z'.f 44) ∧ FO s'.k s'.d := by
  have hwv : wv z0 = (n : Int) := by
    unfold wv
    rw [← hS0.1.1]
    exact hn
  have h60 := hS0.2.1
  intro m
  induction m with
  | zero => intro m2 s z x j _ _ _ _ _ _ _ _ _ h; exact none_ne h
  | succ m ih =>
    intro m2 s z x j ex hj K I F hG hF hD hrow hs hz
    replace hs : kX0_sendBy_24 (kX0_sendBy_24L m) s x1 x2 2 x x = some (r1, s') := hs
    cases m2 with
    | zero => exact none_ne hz
    | succ m2 =>
    replace hz : r_goesBy_39 (r_goesBy_39L m2) z x1 x2 x3 xb x = some (r2, z') := hz
    have hwk : (s.k.v 1).toInt = (n : Int) := by rw [K.1 1 (by decide)]; exact hn
    have ez20 : z.f 20 (z.v 18).toNatClampNeg = s.k.v 1 := by
      rw [(F.2 20 (by decide)).1, F.1 18 (by decide), K.1 1 (by decide)]
      exact hS0.1.1.symm
    have h6z : ∀ j, j < 6 → z.f 46 j = six6 j := by
      rw [(F.2 46 (by decide)).1]
      exact h60
    have a15 : (15 + x1).toInt = ((15 + p : Nat) : Int) := by
      rw [tn_add (by decide : (15 : Int32).toInt = 15) e1 (by omega) (by omega)]
      omega
    have c15 := clamp_of_int a15
    unfold kX0_sendBy_24 at hs
    unfold r_goesBy_39 at hz
    replace hz := guard_inv hz
    obtain ⟨_, hz⟩ := hz
    rw [ez20] at hz
    by_cases c : s.k.v 1 ≤ x
    · -- it is over
      have c' := ti_le c
      rw [if_pos c] at hs hz
      replace hz := guard_inv hz
      obtain ⟨_, hz⟩ := hz
      replace hz := letS_inv hz
      obtain ⟨z4, g4, hz⟩ := hz
      replace hz := guard_inv hz
      obtain ⟨_, hz⟩ := hz
      obtain ⟨q1, q2, q3⟩ := send_119 e1 hs
      rw [c15] at g4
      have f4 := r44_at g4
      have e20 : z4.f 20 (z4.v 18).toNatClampNeg = s.k.v 1 := by rw [← g4]; exact ez20
      have a2 : r2 = z4.f 20 (z4.v 18).toNatClampNeg ∧ z' = z4 := by cases hz; exact ⟨rfl, rfl⟩
      have exv : x = s.k.v 1 := Int32.toInt_inj.mp (by omega)
      refine ⟨by rw [q1, a2.1, e20, exv], by rw [q2]; exact K, ?_, ?_, ?_⟩
      · rw [a2.2, ← g4]
        exact F.sf (by decide)
      · rw [q3, a2.2]
        exact SR.set3 (d := s.d.sf 4 p ((s.d.f 4 p) + 1)) hG hp6 rfl f4
      · rw [q2, q3]
        exact hF
    · have c' := ti_nle c
      rw [if_neg c, if_pos rfl] at hs
      rw [if_neg c] at hz
      replace hs := bindP_inv hs
      obtain ⟨t, ut, hs⟩ := hs
      replace hs := bindI_inv hs
      obtain ⟨b5, s4, u5, hs⟩ := hs
      replace hz := bindI_inv hz
      obtain ⟨y8, z7, w8, hz⟩ := hz
      have q1 := k_thing e2 ex (by omega) ut
      obtain ⟨ez, q2⟩ := r_thing h6z e2 ex (by omega) w8
      subst ez
      have et : t = y8 := Int32.toInt_inj.mp (q1.trans q2.symm)
      subst et
      have tl := tg_lt g j
      -- what bears
      obtain ⟨zi, zi', ri, Fi, Ii, hri, hi1, hi0⟩ := hbr j hj (by omega)
      rw [← eq_ofnat ex, ← eq_ofnat q1] at hri
      have hw0 := hrow j (by omega) (by omega)
      have hwG := hG.at (w := j) (by omega)
      have NRi : NRw s zi p j := by
        refine ⟨hS0.fr K Fi (by decide) (by decide), Ii, I, ?_, ?_, ?_⟩
        · rw [(Fi.2 44 (by decide)).1]; exact hD.2.1
        · rw [(Fi.2 44 (by decide)).1]; exact hD.1
        · rw [(Fi.2 44 (by decide)).1]
          obtain ⟨k1, k2, k3⟩ := hwG
          rw [hw0.1, hw0.2] at *
          exact ⟨k1, k2, k3⟩
      obtain ⟨er, kp⟩ := bear_same NRi e1 (by rw [K.1 2 (by decide)]; exact hp) ex (by omega) q1 tl u5 hri
      obtain ⟨y, fy, I4, _⟩ := ok_kX0_isBearing s x1 x t I (by omega) (by omega) (by omega) (by omega) (by omega) (by omega)
      rw [u5] at fy
      cases fy
      have d4 : s4.d = s.d := kp.1
      have K4 : FrK WSK s0.k s4.k := K.trans kp.2.1 (fun _ q => q)
      have G4 : SGo s4 z7 p := by unfold SGo; rw [d4]; exact hG
      have F4 : FO s4.k s4.d := by
        unfold FO
        rw [d4, kp.2.1.1 1 (by decide), (kp.2.1.2 3 (by decide)).1]
        exact hF
      unfold kX0_sendBy_113 at hs
      by_cases cb : x = xb
      · -- it sinks
        have jB : j = B := by
          have := ti_eq cb
          omega
        rw [if_pos cb] at hz
        rw [if_pos (er.trans (hi0 jB))] at hs
        obtain ⟨q3, q4, q5⟩ := send_119 e1 (send_end m (by decide) hs)
        replace hz := guard_inv hz
        obtain ⟨_, hz⟩ := hz
        replace hz := letS_inv hz
        obtain ⟨z21, g21, hz⟩ := hz
        rw [c15] at g21
        have f21 := r44_at g21
        have a2 : r2 = x ∧ z' = z21 := by cases hz; exact ⟨rfl, rfl⟩
        refine ⟨by rw [q3, a2.1], by rw [q4]; exact K4, ?_, ?_, ?_⟩
        · rw [a2.2, ← g21]
          exact F.sf (by decide)
        · rw [q5, a2.2]
          exact SR.set3 (d := s4.d.sf 4 p ((s4.d.f 4 p) + 1)) G4 hp6 rfl f21
        · rw [q4, q5]
          exact F4
      · have jB : j < B := by
          rcases (show j < B ∨ j = B by omega) with q | q
          · exact q
          · exact absurd (Int32.toInt_inj.mp (by omega)) cb
        rw [if_neg cb] at hz
        rw [if_neg (by rw [er]; exact hi1 jB)] at hs
        replace hs := bindI_inv hs
        obtain ⟨b8, s7, u8, hs⟩ := hs
        replace hz := bindI_inv hz
        obtain ⟨y11, z10, w11, hz⟩ := hz
        obtain ⟨ez2, q11⟩ := r_thing h6z e3 ex (by omega) w11
        subst ez2
        rw [tg_dsum n (fun w hw => Dw_lt hI0 hB0 (by omega) (by omega)) j (by omega)] at q11
        -- what is there
        unfold kX0_thereNow at u8
        replace u8 := guard_inv u8
        obtain ⟨_, u8⟩ := u8
        replace u8 := bindI_inv u8
        obtain ⟨b3, k2, u3, u8⟩ := u8
        replace u8 := letS_inv u8
        obtain ⟨s8, c8, u8⟩ := u8
        have e8 : b8 = b3 ∧ s7 = s8 := by cases u8; exact ⟨rfl, rfl⟩
        obtain ⟨⟨y2, z2⟩, f2, _⟩ := ok_r_thereAt z0 x hI0 hB0 (by omega) (by omega) (by omega)
        have S4 : SO s4.k z0 := hS0.fr K4 (FrR.rfl (W := [])) (by decide) (by decide)
        rw [clamp_of_int ex, d4, hD.2.2.2] at u3
        obtain ⟨er2, ek2, _, v, hv6, ev, hov⟩ := there_same hB0 S4 hI0 I4 ex (by rw [K4.1 1 (by decide)]; omega) ((hR0.1 j (by omega)).2.2.2) (by rw [K4.1 4 (by decide)]; exact h45) u3 f2
        obtain ⟨_, eD, _⟩ := Dw_inv hI0 hB0 ex (by omega) (by omega) f2
        have e811 : b8 = y11 := Int32.toInt_inj.mp (by rw [e8.1, er2, eD, q11])
        have es7 : s7 = s4 := by rw [e8.2, ← c8, ek2]; rfl
        subst es7
        by_cases ct : t = y11
        · -- so it is
          rw [if_pos ct] at hz
          rw [if_pos (ct.trans e811.symm)] at hs
          replace hs := guard_inv hs
          obtain ⟨_, hs⟩ := hs
          replace hs := letS_inv hs
          obtain ⟨s11, c11, hs⟩ := hs
          replace hz := guard_inv hz
          obtain ⟨_, hz⟩ := hz
          replace hz := letS_inv hz
          obtain ⟨z14, g14, hz⟩ := hz
          have a5 : (5 + x).toInt = ((5 + j : Nat) : Int) := by
            rw [tn_add (by decide : (5 : Int32).toInt = 5) ex (by omega) (by omega)]
            omega
          rw [clamp_of_int a5] at g14
          rw [clamp_of_int ex] at c11
          have f14 := r44_at g14
          have d11 : s11.d = s7.d.sf 0 j t := by rw [← c11]; rfl
          have k11 : s11.k = s7.k := by rw [← c11]; rfl
          have a1 : (x + 1).toInt = ((j + 1 : Nat) : Int) := by
            rw [tn_add ex (by decide : (1 : Int32).toInt = 1) (by omega) (by omega)]
            omega
          refine ih m2 s11 z14 (x + 1) (j + 1) a1 (by omega) (by rw [k11]; exact K4) (by rw [k11]; exact I4) (by rw [← g14]; exact F.sf (by decide)) ?_ ?_ ?_ ?_ hs hz
          · unfold SGo
            rw [d11, sd_comm (by decide)]
            exact SR.set0 (d := s7.d.sf 4 p ((s7.d.f 4 p) + 1)) G4 (by omega) (Or.inr ⟨rfl, by omega, by omega⟩) f14
          · intro w v' hw hv'
            rw [k11] at hw ⊢
            rw [d11] at hv'
            have q : (s7.d.sf 0 j t).f 0 w = if w = j then t else s7.d.f 0 w := sdf_at
            rw [q] at hv'
            by_cases ew : w = j
            · rw [if_pos ew] at hv'
              have ev2 : t = Int32.ofNat v := by rw [ct, ← e811, e8.1, ev]
              have : v' = v := by
                rw [ev2, ofnat_int (by omega)] at hv'
                omega
              rw [this, ew]
              exact hov
            · rw [if_neg ew] at hv'
              exact F4 w v' hw hv'
          · rw [d11]
            refine ⟨?_, ?_, ?_, fun w => ?_⟩
            · show s7.d.f 4 p = _
              rw [d4]; exact hD.1
            · show s7.d.v 5 = _
              rw [d4]; exact hD.2.1
            · show s7.d.f 3 p = 0
              rw [d4]; exact hD.2.2.1
            · show s7.d.f 2 w = _
              rw [d4]; exact hD.2.2.2 w
          · intro i h1 h2
            rw [f14 i, if_neg (by omega), f14 (5 + i), if_neg (by omega)]
            exact hrow i (by omega) h2
        · -- it is let down
          rw [if_neg ct] at hz
          rw [if_neg (fun q => ct (q.trans e811))] at hs
          replace hs := guard_inv hs
          obtain ⟨_, hs⟩ := hs
          replace hs := guard_inv hs
          obtain ⟨_, hs⟩ := hs
          replace hs := letS_inv hs
          obtain ⟨s15, c15', hs⟩ := hs
          obtain ⟨q3, q4, q5⟩ := send_119 e1 (send_end m (by decide) hs)
          replace hz := guard_inv hz
          obtain ⟨_, hz⟩ := hz
          replace hz := guard_inv hz
          obtain ⟨_, hz⟩ := hz
          replace hz := letS_inv hz
          obtain ⟨z18, g18, hz⟩ := hz
          rw [clamp_of_int ex] at g18 c15'
          have f18 := r44_at g18
          have a2 : r2 = x ∧ z' = z18 := by cases hz; exact ⟨rfl, rfl⟩
          have k15 : s15.k = s7.k := by rw [← c15']; rfl
          have d15 : s15.d = s7.d.sf 1 j ((s7.d.f 1 j) ||| (1 <<< (t &&& 31))) := by rw [← c15']; rfl
          obtain ⟨_, hb2, hb3, hb4⟩ := G4.at (w := j) (by omega)
          have hb2 : s7.d.f 1 j = z10.f 44 j := hb2
          have sh := all_small (P := fun x => 0 ≤ ((1 : Int32) <<< (x &&& 31)).toInt ∧ ((1 : Int32) <<< (x &&& 31)).toInt ≤ 63) (N := 6) (by omega) shl_found (x := t) (by omega) (by omega)
          have orb := or_small hb3 hb4 sh.1 sh.2
          refine ⟨by rw [q3, a2.1], by rw [q4, k15]; exact K4, ?_, ?_, ?_⟩
          · rw [a2.2, ← g18]
            exact F.sf (by decide)
          · rw [q5, a2.2, d15, sd_comm (by decide : ¬ 1 = 4)]
            have S1 : SR ((s7.d.sf 4 p ((s7.d.f 4 p) + 1)).sf 1 j ((s7.d.f 1 j) ||| (1 <<< (t &&& 31)))) (z18.f 44) := SR.set1 G4 (by omega) (by rw [hb2]) orb.1 orb.2 f18
            have e3p : z18.f 44 (15 + p) = 0 := by
              have := (S1.2.1 p hp6).1
              rw [← this]
              show s7.d.f 3 p = 0
              rw [d4]
              exact hD.2.2.1
            exact SR.set3 (p := p) (x := 0) (y := 0) S1 hp6 rfl (fun i => by
              by_cases ei : i = 15 + p
              · rw [if_pos ei, ei, e3p]
              · rw [if_neg ei])
          · rw [q4, q5, k15, d15]
            exact F4
/-- a party goes by a guess, the standing beside the row -/
theorem send_same {s s' : JS} {z z1 z2 : RS} {x1 x2 xt r1 r2 : Int32} {p g : Nat} (hJ : JR s z) (hF : FO s.k s.d) (e1 : x1.toInt = (p : Int)) (hp : (p : Int) < (s.k.v 2).toInt) (e2 : x2.toInt = (g : Int)) (hg : g ≤ 194400) (hst : s.d.f 3 p = 0) (ht : r_thereNumber z = some (xt, z1)) (h1 : kX0_sendBy s x1 x2 = some (r1, s')) (h2 : r_goesBy z1 x1 x2 xt = some (r2, z2)) : r1 = r2 ∧ FrK WSK s.k s'.k ∧ FrR (144 :: WSZ) z z2 ∧ SR s'.d (z2.f 44) ∧ FO s'.k s'.d := by
  obtain ⟨hS, hR, hB, hI, hK, h45⟩ := id hJ
  have bw : 0 ≤ (s.k.v 1).toInt ∧ (s.k.v 1).toInt ≤ 5 := hK.1 1
  have bp : 0 ≤ (s.k.v 2).toInt ∧ (s.k.v 2).toInt ≤ 6 := hK.1 2
  obtain ⟨n, hn⟩ : ∃ n : Nat, (s.k.v 1).toInt = (n : Int) := ⟨(s.k.v 1).toInt.toNat, by omega⟩
  have hwv : wv z = (n : Int) := by
    unfold wv
    rw [← hS.1.1]
    exact hn
  obtain ⟨ez, e3⟩ := r_number hI hB hS.2.1 hwv (by omega) ht
  subst ez
  unfold kX0_sendBy at h1
  replace h1 := bindI_inv h1
  obtain ⟨f2, s1, p2, h1⟩ := h1
  replace h1 := letS_inv h1
  obtain ⟨s3, c3, h1⟩ := h1
  unfold r_goesBy at h2
  replace h2 := bindI_inv h2
  obtain ⟨rb, zb, w2, h2⟩ := h2
  replace h2 := bindI_inv h2
  obtain ⟨f4, zf, w4, h2⟩ := h2
  replace h2 := letS_inv h2
  obtain ⟨z5, g5, h2⟩ := h2
  replace h2 := guard_inv h2
  obtain ⟨_, h2⟩ := h2
  replace h2 := guard_inv h2
  obtain ⟨_, h2⟩ := h2
  replace h2 := letS_inv h2
  obtain ⟨z9, g9, h2⟩ := h2
  unfold r_bearsBy at w2
  obtain ⟨B, b1, _, b3, b4, b5, b6⟩ := bears_inv (z0 := z1) (n := n) (by omega) (by omega) e2 (by omega) hS.2.1 hwv hB fu z1 0 0 FrR.rfl hI (by decide) (by omega) w2
  have Jb : JR s zb := KeptJ.jr ⟨rfl, FrK.rfl, b4⟩ hJ hK b5
  obtain ⟨ef, kp⟩ := fare_same Jb e1 hp p2 w4
  subst ef
  obtain ⟨y, fy, I1, _⟩ := ok_kX0_fareOf s x1 hK (by omega) (by omega)
  rw [p2] at fy
  cases fy
  have a21 : (21 + x1).toInt = ((21 + p : Nat) : Int) := by
    rw [tn_add (by decide : (21 : Int32).toInt = 21) e1 (by omega) (by omega)]
    omega
  rw [clamp_of_int a21] at g9
  have q5 := r44_at g5
  have q9 := r44_at g9
  have zf44 : zf.f 44 = z1.f 44 := by rw [(kp.2.2.2 44 (by decide)).1, (b4.2 44 (by decide)).1]
  have zb44 : zb.f 44 = z1.f 44 := (b4.2 44 (by decide)).1
  have d3 : s3.d = s.d.sv 6 ((s.d.v 6) + f2) := by rw [← c3]; show s1.d.sv 6 _ = _; rw [kp.1]
  have k3 : s3.k = s1.k := by rw [← c3]; rfl
  have K3 : FrK WSK s.k s3.k := by rw [k3]; exact kp.2.1
  have F9 : FrR (144 :: WSZ) z1 z9 := by
    rw [← g9, ← g5]
    exact ((((FrR.rfl.trans b4 (by decide)).trans kp.2.2 (by decide)).sf (k := 44) (by decide)).sf (k := 44) (by decide))
  have S5 : SR s3.d (z5.f 44) := by
    rw [d3]
    refine SR.setv6 (y := (zb.f 44 28) + f2) hR (by rw [zb44, hR.2.2.2]) (fun i => ?_)
    rw [q5 i, zf44]
  have g21 : z5.f 44 (21 + p) = s3.d.f 4 p := ((S5.2.1 p (by omega)).2).symm
  have G9 : SGo s3 z9 p := by
    unfold SGo
    exact SR.set4 S5 (by omega) (by rw [g21]) q9
  have hF3 : FO s3.k s3.d := by
    unfold FO
    rw [k3, d3, kp.2.1.1 1 (by decide), (kp.2.1.2 3 (by decide)).1]
    exact hF
  refine send_row (s0 := s) (z0 := z1) (n := n) (B := B) e1 (by omega) e2 e3 b1 b3 (by omega) hS hR hI hB hK hn hp (by rw [hS.1.2.2.1, h45]) hst (fun i h1 h2 => b6 i (by omega) h1 h2) fu fu s3 z9 0 0 (by decide) (by omega) K3 (by rw [k3]; exact I1) F9 G9 hF3 ?_ (fun i h1 h2 => ?_) h1 h2
  · rw [d3]
    exact ⟨(hR.2.1 p (by omega)).2, hR.2.2.1, hst, fun w => rfl⟩
  · rw [q9 i, if_neg (by omega), q5 i, if_neg (by omega), q9 (5 + i), if_neg (by omega), q5 (5 + i), if_neg (by omega), zf44]
    exact ⟨rfl, rfl⟩
