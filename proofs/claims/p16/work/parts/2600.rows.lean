/-! ===== from the constructor's cells to the state machine's world; calls beside other cells; hold's answers ===== -/
theorem arrV_cg {cI : ClassId} {N : Nat} {f g : Nat → Value} (h : ∀ j, j < N → f j = g j) : arrV cI N f = arrV cI N g := by
  have e : (fun j : Fin N => f j.val) = (fun j : Fin N => g j.val) := funext (fun j => h j.val j.isLt)
  unfold arrV
  rw [e]
theorem at_q {D : va_G} {cl : List vw_C} {a n : Nat} {cA : ClassId} {f g : Nat → Option Nat} {H : Heap} (h : ∀ k, k < n → f k = g k) (x : va_at D cl (a, .inl (cA, n, .inr (.inr (.inr (.inr f))))) H) : va_at D cl (a, .inl (cA, n, .inr (.inr (.inr (.inr g))))) H := by
  have x : H[a]? = some (vp_cell cA (n, .inr (.inr (.inr (.inr f))))) := x
  show H[a]? = some (vp_cell cA (n, .inr (.inr (.inr (.inr g)))))
  rw [x, vp_cell_q, vp_cell_q, arrV_cg (fun j hj => by rw [h j hj])]
theorem P_setq {D : va_G} {cl : List vw_C} {w : va_W} {i : Nat} {q q' : Nat × va_E} {H : Heap} (h : va_P D cl w H) (hi : w[i]? = some q) (hq : va_at D cl q H → va_at D cl q' H) : va_P D cl (w.set i q') H := by
  intro k x hk
  rw [List.getElem?_set] at hk
  split at hk
  · split at hk
    · cases hk; exact hq (h i q hi)
    · cases hk
  · exact h k x hk
theorem P_left {D : va_G} {cl : List vw_C} {X Y : va_W} {H : Heap} (h : va_P D cl (X ++ Y) H) : va_P D cl X H := fun k q hk => h k q (by rw [List.getElem?_append_left (List.getElem?_eq_some_iff.mp hk).1]; exact hk)
theorem D_left {A : Nat → Prop} {X Y : va_W} (h : va_D A (X ++ Y)) : va_D A X := ⟨fun i j p q hi hj e => h.1 i j p q (by rw [List.getElem?_append_left (List.getElem?_eq_some_iff.mp hi).1]; exact hi) (by rw [List.getElem?_append_left (List.getElem?_eq_some_iff.mp hj).1]; exact hj) e, fun k q hk => h.2 k q (by rw [List.getElem?_append_left (List.getElem?_eq_some_iff.mp hk).1]; exact hk)⟩
theorem sw2P {D : va_G} {cl : List vw_C} {X Y : va_W} {H : Heap} (h : va_P D cl (X ++ Y) H) : va_P D cl (Y ++ X) H := (show va_P D cl (([] ++ X) ++ Y) H from h).swap
theorem sw2D {A : Nat → Prop} {X Y : va_W} (h : va_D A (X ++ Y)) : va_D A (Y ++ X) := (show va_D A (([] ++ X) ++ Y) from h).swap
theorem sw1P {D : va_G} {cl : List vw_C} {R X Y : va_W} {H : Heap} (h : va_P D cl (R ++ (X ++ Y)) H) : va_P D cl (X ++ (Y ++ R)) H := by rw [← List.append_assoc]; exact sw2P h
theorem sw1D {A : Nat → Prop} {R X Y : va_W} (h : va_D A (R ++ (X ++ Y))) : va_D A (X ++ (Y ++ R)) := by rw [← List.append_assoc]; exact sw2D h
theorem sw3P {D : va_G} {cl : List vw_C} {R X Y : va_W} {H : Heap} (h : va_P D cl (X ++ (Y ++ R)) H) : va_P D cl (R ++ (X ++ Y)) H := by rw [← List.append_assoc] at h; exact sw2P h
theorem sw3D {A : Nat → Prop} {R X Y : va_W} (h : va_D A (X ++ (Y ++ R))) : va_D A (R ++ (X ++ Y)) := by rw [← List.append_assoc] at h; exact sw2D h
theorem range_all (X : va_W) : (List.range X.length).map (fun i => X[i]?) = X.map some := by
  apply List.ext_getElem?
  intro i
  rw [List.getElem?_map, List.getElem?_map]
  by_cases h : i < X.length
  · rw [List.getElem?_range h, List.getElem?_eq_getElem h]
    show some X[i]? = some (some X[i])
    rw [List.getElem?_eq_getElem h]
  · rw [List.getElem?_eq_none (by rw [List.length_range]; omega), List.getElem?_eq_none (by omega)]
    rfl
section QW
variable {p : Program} {l : Launch} {e : Env} {R : Room} {s : State} {m : MethodId} {args : Array Value} {below : List Frame} {meth : Method} {c : Code} {H H0 : Heap} {locs : List Loc} {cells slots : Nat} {Q : State → Prop} {cc : ByteArray} {pc nL : Nat} {ls : Array Slot} {rest : List Value} {D : va_G} {tys : List (ClassId × FieldType)} {A : Nat → Prop}
theorem q_goiW {post : Int32 → va_W → Prop} {a : Array Value} {mc ms : Nat} {st : List Value} {X pl : va_W} (hr : va_Run p l e R s m args below meth c H locs cells slots mc ms (F0 m pc ls st) rest (va_Qi post (at_W D tys (va_A X H.size)) (va_A X H.size) a) (va_A X H.size)) (hP : va_P D vwCl (X ++ pl) H) (hD : va_D A (X ++ pl)) (hS : va_S A H0 H locs) (hA : ∀ q, H0.size ≤ q → A q)
    (kk : ∀ (r : Int32) (w1 : va_W) (H1 : Heap) (locs1 : List Loc), post r w1 → va_P D vwCl (w1 ++ pl) H1 → va_D A (w1 ++ pl) → va_S A H0 H1 locs1 → W p l e R s m args below meth c H1 locs1 (cells + mc) (slots + ms) Q (F0 m (pc + 3) ls (.int r :: rest))) : W p l e R s m args below meth c H locs cells slots Q (F0 m pc ls st) :=
  q_goiT (wr := []) hr hP hD hS hA (List.range X.length) [] (range_all X) rfl rfl (fun i hi => by simp at hi) (fun r w1 H1 locs1 h1 hP1 hD1 hS1 => kk r w1 H1 locs1 h1 hP1 hD1 hS1)
end QW
theorem k_hold_ans {s s' : YS} {x r : Int32} (h : kX10_hold s x = some (r, s')) : (r = 1 ∧ 0 ≤ x.toInt ∧ x.toInt < 3) ∨ (r = 0 ∧ (x.toInt < 0 ∨ 3 ≤ x.toInt)) := by
  unfold kX10_hold at h
  obtain ⟨r2, s1, h1, h⟩ := bindI_inv h
  obtain ⟨s3, _, h⟩ := letS_inv h
  obtain ⟨_, h⟩ := guard_inv h
  have e : r2 = r := by cases h; rfl
  rw [← e]
  clear h e
  unfold kX3_keepIn at h1
  by_cases c1 : x < 0
  · have h1 := if_p h1 c1
    have c1 := tn_lt (b := 0) rfl (by decide) c1
    cases h1
    exact Or.inr ⟨rfl, Or.inl c1⟩
  · have h1 := if_n h1 c1
    have c1 := tn_nlt (b := 0) rfl (by decide) c1
    by_cases c2 : x < 3
    · have h1 := if_p h1 c2
      have c2 := tn_lt (b := 3) rfl (by decide) c2
      obtain ⟨_, h1⟩ := guard_inv h1
      obtain ⟨s4, _, h1⟩ := bindP_inv h1
      obtain ⟨s5, _, h1⟩ := letS_inv h1
      obtain ⟨_, h1⟩ := guard_inv h1
      obtain ⟨s8, _, h1⟩ := letS_inv h1
      cases h1
      exact Or.inl ⟨rfl, c1, c2⟩
    · have h1 := if_n h1 c2
      have c2 := tn_nlt (b := 3) rfl (by decide) c2
      cases h1
      exact Or.inr ⟨rfl, Or.inr c2⟩
theorem r_hold20_ans {x1 : Int32} : ∀ (n : Nat) (s : RS) (x2 r : Int32) (s' : RS), r_hold_20L n s x1 x2 = some (r, s') → r = 1 := by
  intro n
  induction n with
  | zero => intro s x2 r s' h; cases h
  | succ n ih =>
    intro s x2 r s' h
    have h : r_hold_20 (r_hold_20L n) s x1 x2 = some (r, s') := h
    unfold r_hold_20 at h
    by_cases c : 29 ≤ x2
    · have h := if_p h c
      cases h
      rfl
    · have h := if_n h c
      obtain ⟨_, h⟩ := guard_inv h
      obtain ⟨_, h⟩ := guard_inv h
      obtain ⟨s4, _, h⟩ := letS_inv h
      exact ih _ _ _ _ h
theorem r_hold_ans {s s' : RS} {x r : Int32} (h : r_hold s x = some (r, s')) : (r = 1 ∧ 0 ≤ x.toInt ∧ x.toInt < 3) ∨ (r = 0 ∧ (x.toInt < 0 ∨ 3 ≤ x.toInt)) := by
  unfold r_hold at h
  obtain ⟨r1, h1, h⟩ := bindP_inv h
  unfold r_in at h1
  have z1 : ¬ (1 : Int32) = 0 := by decide
  by_cases c1 : x < 0
  · have h1 := if_p h1 c1
    have c1 := tn_lt (b := 0) rfl (by decide) c1
    cases h1
    have h := if_p h rfl
    cases h
    exact Or.inr ⟨rfl, Or.inl c1⟩
  · have h1 := if_n h1 c1
    have c1 := tn_nlt (b := 0) rfl (by decide) c1
    by_cases c2 : 2 < x
    · have h1 := if_p h1 c2
      have c2 := tn_lt (a := 2) (by decide) rfl c2
      cases h1
      have h := if_p h rfl
      cases h
      exact Or.inr ⟨rfl, Or.inr (by omega)⟩
    · have h1 := if_n h1 c2
      have c2 := tn_nlt (a := 2) (by decide) rfl c2
      cases h1
      have h := if_n h z1
      obtain ⟨_, h⟩ := guard_inv h
      obtain ⟨s4, _, h⟩ := letS_inv h
      exact Or.inl ⟨r_hold20_ans _ _ _ _ _ h, c1, by omega⟩
theorem hold_same {s s' : YS} {z z' : RS} {x r1 r2 : Int32} (h1 : kX10_hold s x = some (r1, s')) (h2 : r_hold z x = some (r2, z')) : r1 = r2 := by
  rcases k_hold_ans h1 with ⟨e1, g1⟩ | ⟨e1, g1⟩ <;> rcases r_hold_ans h2 with ⟨e2, g2⟩ | ⟨e2, g2⟩
  · rw [e1, e2]
  · omega
  · omega
  · rw [e1, e2]
noncomputable def ks0 : KS := (fun _ => 0, fun _ _ => 0, fun _ _ => 0, fun _ => 0)
theorem inv_ks0 : InvK ks0 := by
  refine ⟨fun k => ?_, fun k j => ?_⟩
  · show loVK k ≤ 0 ∧ 0 ≤ hiVK k
    unfold loVK hiVK
    repeat' split
    all_goals omega
  · show loFK k ≤ 0 ∧ 0 ≤ hiFK k
    unfold loFK hiFK
    repeat' split
    all_goals omega
noncomputable def gs0 : GS := (fun _ => 0, fun _ _ => 0)
theorem inv_gs0 : InvG gs0 := by
  refine ⟨fun k => ?_, fun k j => ?_⟩
  · show loVG k ≤ 0 ∧ 0 ≤ hiVG k
    unfold loVG hiVG
    repeat' split
    all_goals omega
  · show loFG k ≤ 0 ∧ 0 ≤ hiFG k
    unfold loFG hiFG
    omega
theorem read_zero {y y' : XS} {r : Int32} (hK : InvK y.k) (h : kX10_read y = some (r, y')) : y'.k.v 0 = 0 := by
  unfold kX10_read at h
  obtain ⟨r2, s1, h1, h⟩ := bindI_inv h
  obtain ⟨s3, e3, h⟩ := letS_inv h
  obtain ⟨s5, e5, h⟩ := letS_inv h
  obtain ⟨⟨q1, w1⟩, e1, p1⟩ := ok_kX4_readTape y.k hK
  rw [h1] at e1
  cases e1
  have I1 : InvK s1 := p1.1
  have v5 : s5.k.v 0 = 0 := by rw [← e5]; rfl
  have I5 : InvK s5.k := by
    rw [← e5, ← e3]
    exact I1.sv (k := 0) (show (0 : Int) ≤ (0 : Int32).toInt by decide) (show (0 : Int32).toInt ≤ (2000 : Int) by decide)
  by_cases c : r2 = 0
  · have h := if_p h c
    obtain ⟨s8, h8, h⟩ := bindP_inv h
    obtain ⟨w8, e8, p8⟩ := ok_kX5_copyFrom s5.k I5
    rw [h8] at e8
    cases e8
    have v8 : s8.v 0 = 0 := (p8.2.1 0 (by decide)).trans v5
    obtain ⟨s9, e9, h⟩ := letS_inv h
    obtain ⟨s11, h11, h⟩ := bindP_inv h
    obtain ⟨s12, e12, h⟩ := letS_inv h
    obtain ⟨s14, h14, h⟩ := bindP_inv h
    obtain ⟨s15, e15, h⟩ := letS_inv h
    obtain ⟨s17, e17, h⟩ := letS_inv h
    have e : s17 = y' := by cases h; rfl
    rw [← e, ← e17, ← e15, ← e12, ← e9]
    exact v8
  · have h := if_n h c
    have e : s5 = y' := by cases h; rfl
    rw [← e]
    exact v5
theorem copy_v1 {s s' : KS} (hI : InvK s) (h : kX5_copyFrom s = some s') : s'.v 1 = s.v 8 ∧ ∀ j : Nat, j < 30 → s'.f 3 j = s.f 16 j := by
  unfold kX5_copyFrom at h
  obtain ⟨a1, d1, h⟩ := letS_inv h
  obtain ⟨a3, d3, h⟩ := letS_inv h
  obtain ⟨a5, d5, h⟩ := letS_inv h
  obtain ⟨a7, d7, h⟩ := letS_inv h
  obtain ⟨a9, d9, h⟩ := letS_inv h
  obtain ⟨a11, h11, h⟩ := bindP_inv h
  obtain ⟨a12, d12, h⟩ := letS_inv h
  obtain ⟨a14, d14, h⟩ := letS_inv h
  obtain ⟨a16, d16, h⟩ := letS_inv h
  obtain ⟨a18, d18, h⟩ := letS_inv h
  have e8 : a11.v 8 = a9.v 8 ∧ a11.f 3 = a9.f 3 := by
    unfold kX1_copyFrom at h11
    obtain ⟨b1, f1, h11⟩ := letS_inv h11
    obtain ⟨b3, f3, h11⟩ := letS_inv h11
    obtain ⟨b5, f5, h11⟩ := letS_inv h11
    obtain ⟨b7, f7, h11⟩ := letS_inv h11
    obtain ⟨b9, f9, h11⟩ := letS_inv h11
    cases h11
    rw [← f9, ← f7, ← f5, ← f3, ← f1]
    exact ⟨rfl, rfl⟩
  have e9 : a9.v 8 = s.v 8 ∧ a9.f 3 = va_cpy (s.f 16) (s.f 3) 0 0 30 := by rw [← d9, ← d7, ← d5, ← d3, ← d1]; exact ⟨rfl, rfl⟩
  cases h
  rw [← d18, ← d16, ← d14, ← d12]
  refine ⟨?_, fun j hj => ?_⟩
  · show a11.v 8 = _
    rw [e8.1, e9.1]
  · show a11.f 3 j = _
    rw [e8.2, e9.2]
    unfold va_cpy
    rw [if_pos ⟨Nat.zero_le _, by omega⟩]
    rw [Nat.zero_add, Nat.sub_zero]
theorem read_same {y y' : XS} {z z' : RS} {r1 r2 : Int32} (hK : InvK y.k) (hR : InvR z) (h : TPk y.k z) (hz2 : z'.v 2 = 0) (h1 : kX10_read y = some (r1, y')) (h2 : r_read z = some (r2, z')) : r1 = r2 ∧ TPk y'.k z' := by
  have hv0 := read_zero hK h1
  unfold kX10_read at h1
  obtain ⟨q2, s1, f1, h1⟩ := bindI_inv h1
  obtain ⟨s3, d3, h1⟩ := letS_inv h1
  obtain ⟨s5, d5, h1⟩ := letS_inv h1
  obtain ⟨⟨u1, w1⟩, e1, p1⟩ := ok_kX4_readTape y.k hK
  rw [f1] at e1
  cases e1
  have I1 : InvK s1 := p1.1
  have F1 : FrK [8, 9, 10, 11, 12, 13, 15, 16, 17, 18, 19, 20, 116, 117, 118, 119, 120, 122, 123, 124, 125, 129, 132, 133, 134] y.k s1 := p1.2.1
  obtain ⟨er, ep, eg, hr⟩ := read_tape hK hR h.1.1 h.1.2.2 h.2.1 f1 h2
  have z0 : (0 : Int32).toInt = 0 := by decide
  have fin : ∀ k' : KS, k'.v 0 = 0 → k'.v 17 = s1.v 17 → k'.g 31 = s1.g 31 → k'.v 1 = z'.f 20 (z'.v 18).toNatClampNeg → k'.v 21 = z'.v 51 → OD7 k' z' → TPk k' z' := by
    intro k' a1 a2 a3 a4 a5 a6
    refine ⟨⟨by rw [a1, hz2], by rw [a1]; decide, fun i hi => ?_⟩, ?_, by rw [a2, ep], a4, a5, a6⟩
    · rw [a1, z0] at hi
      omega
    · unfold KWR
      rw [a3, (F1.2 31 (by decide)).2, eg]
      exact h.2.1
  have k5 : s5.k = s1.sv 0 0 := by rw [← d5, ← d3]; rfl
  have I5 : InvK s5.k := by
    rw [k5]
    exact I1.sv (k := 0) (show (0 : Int) ≤ (0 : Int32).toInt by decide) (show (0 : Int32).toInt ≤ (2000 : Int) by decide)
  by_cases c : q2 = 0
  · rw [if_pos c] at h1
    obtain ⟨s8, h8, h1⟩ := bindP_inv h1
    obtain ⟨w8, e8, p8⟩ := ok_kX5_copyFrom s5.k I5
    rw [h8] at e8
    cases e8
    have c1 := copy_v1 I5 h8
    obtain ⟨s9, e9, h1⟩ := letS_inv h1
    obtain ⟨s11, h11, h1⟩ := bindP_inv h1
    obtain ⟨s12, e12, h1⟩ := letS_inv h1
    obtain ⟨s14, h14, h1⟩ := bindP_inv h1
    obtain ⟨s15, e15, h1⟩ := letS_inv h1
    obtain ⟨s17, e17, h1⟩ := letS_inv h1
    have kk : s17.k = s8.sv 21 0 := by rw [← e17, ← e15, ← e12, ← e9]; rfl
    have ey : r1 = q2 ∧ y' = s17 := by cases h1; exact ⟨rfl, rfl⟩
    rw [ey.2] at hv0
    rw [ey.1, ey.2]
    rcases hr with ⟨_, g8, g51, _, _, gCT, _⟩ | ⟨n0, _⟩
    · refine ⟨er, fin _ hv0 ?_ ?_ ?_ ?_ ?_⟩
      · rw [kk]
        show s8.v 17 = _
        rw [p8.2.1 17 (by decide), k5]
        rfl
      · rw [kk]
        show s8.g 31 = _
        rw [(p8.2.2 31 (by decide)).2, k5]
        rfl
      · rw [kk]
        show s8.v 1 = _
        rw [c1.1, k5]
        exact g8
      · rw [kk, g51]
        rfl
      · intro j hj
        have i1 : 0 ≤ (s1.v 8).toInt ∧ (s1.v 8).toInt ≤ 5 := I1.1 8
        have v1 : s17.k.v 1 = s1.v 8 := by
          rw [kk]
          show s8.v 1 = _
          rw [c1.1, k5]
          rfl
        rw [v1] at hj
        rw [kk]
        show s8.f 3 j = _
        rw [c1.2 j (by omega), k5]
        exact gCT.1 j hj
    · exact absurd c n0
  · rw [if_neg c] at h1
    have ey : r1 = q2 ∧ y' = s5 := by cases h1; exact ⟨rfl, rfl⟩
    rw [ey.2] at hv0
    rw [ey.1, ey.2]
    rcases hr with ⟨n0, _⟩ | ⟨_, g18, g20, g51, _, g21, _⟩
    · exact absurd n0 c
    · refine ⟨er, fin _ hv0 ?_ ?_ ?_ ?_ ?_⟩
      · rw [k5]; rfl
      · rw [k5]; rfl
      · rw [k5, g18, g20]
        show s1.v 1 = _
        rw [F1.1 1 (by decide)]
        exact h.2.2.2.1
      · rw [k5, g51]
        show s1.v 21 = _
        rw [F1.1 21 (by decide)]
        exact h.2.2.2.2.1
      · intro j hj
        have i1 : 0 ≤ (s1.v 1).toInt ∧ (s1.v 1).toInt ≤ 5 := I1.1 1
        rw [k5] at hj
        have hj : (j : Int) < 6 * (s1.v 1).toInt := hj
        rw [k5, g18, g21 j (by omega)]
        show s1.f 3 j = _
        rw [F1.1 1 (by decide)] at hj
        rw [(F1.2 3 (by decide)).1]
        exact h.2.2.2.2.2 j hj
theorem tp_start {y : YS} {z : RS} {φ : Nat → Int64} (h : y.x.k.v 0 = 0 ∧ y.x.k.v 17 = -1 ∧ y.x.k.g 31 = φ ∧ y.x.k.v 1 = 0 ∧ y.x.k.v 21 = 0) (hφ : φ = wdF) (hz : RI z) : TPk y.x.k z := by
  have z0 : (0 : Int32).toInt = 0 := by decide
  refine ⟨⟨by rw [h.1, hz.1], by rw [h.1]; decide, fun i hi => ?_⟩, ?_, by rw [h.2.1, hz.2.1], ?_, by rw [h.2.2.2.2, hz.2.2.2.2.2], ?_⟩
  · rw [h.1, z0] at hi
    omega
  · unfold KWR
    rw [h.2.2.1, hφ, hz.2.2.1]
    refine ⟨fun k hk => ?_, fun k k' hk hk' e => words_ne k hk k' hk' e⟩
    have w := words_ok k hk
    exact ⟨wlst.getD k [], w.1, w.2.1, w.2.2.1, w.2.2.2⟩
  · rw [h.2.2.2.1, hz.2.2.2.1, show (0 : Int32).toNatClampNeg = 0 from by decide, hz.2.2.2.2.1]
  · intro j hj
    rw [h.2.2.2.1, z0] at hj
    omega
theorem forget_tel {y y' : XS} {z' : RS} {r1 : Int32} (h1 : kX10_forget y = some (r1, y')) : TEL y'.k z' := by
  unfold kX10_forget at h1
  obtain ⟨s1, e1, h1⟩ := letS_inv h1
  have e : y' = s1 := by cases h1; rfl
  refine TEL.none ?_
  rw [e, ← e1]
  show (0 : Int32).toInt = 0
  decide
/-- what the law's loop keeps -/
noncomputable def TP (y : YS) (z : RS) : Prop := TPk y.x.k z ∧ REL y z
/-! ===== how both begin ===== -/
/-- what the class's constructor leaves -/
noncomputable def KST (y : YS) : Prop := (y.x.k.v 1 = 0 ∧ y.x.k.v 2 = 0 ∧ y.x.k.v 3 = 1 ∧ y.x.k.v 4 = 0 ∧ y.x.k.v 21 = 0) ∧ (∀ cl, cl < 4 → y.x.k.f 12 cl = 1 ∧ Sg (y.x.k.f 9) (y.x.k.f 11 cl) (y.x.k.f 10 (13 * cl)) [dfl cl] ∧ (y.x.k.f 10 (13 * cl)).toInt ≤ 404) ∧ OVR y.x.n ∧ (y.x.g.v 4 = 0 ∧ y.x.g.v 3 = 0 ∧ ∀ i, i < 3 → y.x.g.f 4 i = 0)
theorem rel_start {y : YS} {z : RS} (hK : InvK y.x.k) (h : KST y) (hz : RIB z) (h18 : z.v 18 = 0) (h20 : z.f 20 0 = 0) : REL y z := by
  obtain ⟨⟨k1, k2, k3, k4, k21⟩, hl, hn, g4, g3, gf⟩ := h
  obtain ⟨⟨z23, z26⟩, z27, z43, z46, z48, z56⟩ := hz
  have z0 : (0 : Int32).toInt = 0 := by decide
  have c0 : (0 : Int32).toNatClampNeg = 0 := by decide
  have e18 : (z.v 18).toNatClampNeg = 0 := by rw [h18]; exact c0
  refine ⟨⟨⟨?_, ?_, ?_, ?_⟩, z46, fun j hj => ?_, fun p hp => ?_, fun w hw => ?_, fun cl hcl => ?_⟩, ⟨hn.sr z43, hn.fo hK⟩, ⟨by rw [g4, z48], ?_, fun i hi => ?_⟩, fun s hs => ⟨by rw [gf s hs, z56 s hs], fun n0 => absurd (z56 s hs) n0⟩, TEL.none (by rw [k21]; exact z0)⟩
  · rw [e18, k1, h20]
  · rw [e18, k2, z23]
  · rw [e18, k4, z26]
  · rw [k3, k1, c0]
    rfl
  · rw [k1, z0] at hj
    omega
  · rw [k2, z0] at hp
    omega
  · rw [k1, z0] at hw
    omega
  · rw [e18]
    obtain ⟨l1, l2, l3⟩ := hl cl hcl
    exact Or.inl ⟨by rw [show 4 * 0 + cl = cl by omega]; exact z27 cl hcl, l1, l2, l3⟩
  · rw [g3]
    decide
  · rw [z48, z0] at hi
    omega
