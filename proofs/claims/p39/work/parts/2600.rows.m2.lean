section
/-! ===== from the constructor's cells to the state machine's world; calls beside other cells; hold's answers ===== -/
theorem arrV_cg {cI : ClassId} {N : Nat} {f g : Nat → Value} (h : ∀ j, j < N → f j = g j) : arrV cI N f = arrV cI N g := by
  have e : (fun j : Fin N => f j.val) = (fun j : Fin N => g j.val) := funext (fun j => h j.val j.isLt)
  unfold arrV
  rw [e]
theorem at_q {D : va_G} {cl : List vw_C} {a n : Nat} {cA : ClassId} {f g : Nat → Option Nat} {H : Heap} (h : ∀ k, k < n → f k = g k) (x : va_at D cl (a, .inl (cA, n, .inr (.inr (.inr (.inr f))))) H) : va_at D cl (a, .inl (cA, n, .inr (.inr (.inr (.inr g))))) H := by
  have x : H[a]? = some (vp_cell cA (n, .inr (.inr (.inr (.inr f))))) := x
  show H[a]? = some (vp_cell cA (n, .inr (.inr (.inr (.inr g)))))
  rw [x, vp_cell_q, vp_cell_q, arrV_cg (fun j hj => by rw [h j hj])]
theorem P_setq {D : va_G} {cl : List vw_C} {w : va_W} {i : Nat} {q q' : Nat × va_E} {H : Heap} (h : va_P D cl w H) (hi : w[i]? = some q) (hq : va_at D cl q H → va_at D cl q' H) : va_P D cl (w.set i q') H := by
  intro k x hk
  rw [List.getElem?_set] at hk
  split at hk
  · split at hk
    · cases hk; exact hq (h i q hi)
    · cases hk
  · exact h k x hk
theorem P_left {D : va_G} {cl : List vw_C} {X Y : va_W} {H : Heap} (h : va_P D cl (X ++ Y) H) : va_P D cl X H := fun k q hk => h k q (by rw [List.getElem?_append_left (List.getElem?_eq_some_iff.mp hk).1]; exact hk)
theorem D_left {A : Nat → Prop} {X Y : va_W} (h : va_D A (X ++ Y)) : va_D A X := ⟨fun i j p q hi hj e => h.1 i j p q (by rw [List.getElem?_append_left (List.getElem?_eq_some_iff.mp hi).1]; exact hi) (by rw [List.getElem?_append_left (List.getElem?_eq_some_iff.mp hj).1]; exact hj) e, fun k q hk => h.2 k q (by rw [List.getElem?_append_left (List.getElem?_eq_some_iff.mp hk).1]; exact hk)⟩
theorem sw2P {D : va_G} {cl : List vw_C} {X Y : va_W} {H : Heap} (h : va_P D cl (X ++ Y) H) : va_P D cl (Y ++ X) H := (show va_P D cl (([] ++ X) ++ Y) H from h).swap
theorem sw2D {A : Nat → Prop} {X Y : va_W} (h : va_D A (X ++ Y)) : va_D A (Y ++ X) := (show va_D A (([] ++ X) ++ Y) from h).swap
theorem sw1P {D : va_G} {cl : List vw_C} {R X Y : va_W} {H : Heap} (h : va_P D cl (R ++ (X ++ Y)) H) : va_P D cl (X ++ (Y ++ R)) H := by rw [← List.append_assoc]; exact sw2P h
theorem sw1D {A : Nat → Prop} {R X Y : va_W} (h : va_D A (R ++ (X ++ Y))) : va_D A (X ++ (Y ++ R)) := by rw [← List.append_assoc]; exact sw2D h
theorem sw3P {D : va_G} {cl : List vw_C} {R X Y : va_W} {H : Heap} (h : va_P D cl (X ++ (Y ++ R)) H) : va_P D cl (R ++ (X ++ Y)) H := by rw [← List.append_assoc] at h; exact sw2P h
theorem sw3D {A : Nat → Prop} {R X Y : va_W} (h : va_D A (X ++ (Y ++ R))) : va_D A (R ++ (X ++ Y)) := by rw [← List.append_assoc] at h; exact sw2D h
theorem range_all (X : va_W) : (List.range X.length).map (fun i => X[i]?) = X.map some := by
  apply List.ext_getElem?
  intro i
  rw [List.getElem?_map, List.getElem?_map]
  by_cases h : i < X.length
  · rw [List.getElem?_range h, List.getElem?_eq_getElem h]
    show some X[i]? = some (some X[i])
    rw [List.getElem?_eq_getElem h]
  · rw [List.getElem?_eq_none (by rw [List.length_range]; omega), List.getElem?_eq_none (by omega)]
    rfl
section QW
variable {p : Program} {l : Launch} {e : Env} {R : Room} {s : State} {m : MethodId} {args : Array Value} {below : List Frame} {meth : Method} {c : Code} {H H0 : Heap} {locs : List Loc} {cells slots : Nat} {Q : State → Prop} {cc : ByteArray} {pc nL : Nat} {ls : Array Slot} {rest : List Value} {D : va_G} {tys : List (ClassId × FieldType)} {A : Nat → Prop}
theorem q_goiW {post : Int32 → va_W → Prop} {a : Array Value} {mc ms : Nat} {st : List Value} {X pl : va_W} (hr : va_Run p l e R s m args below meth c H locs cells slots mc ms (F0 m pc ls st) rest (va_Qi post (at_W D tys (va_A X H.size)) (va_A X H.size) a) (va_A X H.size)) (hP : va_P D vwCl (X ++ pl) H) (hD : va_D A (X ++ pl)) (hS : va_S A H0 H locs) (hA : ∀ q, H0.size ≤ q → A q)
    (kk : ∀ (r : Int32) (w1 : va_W) (H1 : Heap) (locs1 : List Loc), post r w1 → va_P D vwCl (w1 ++ pl) H1 → va_D A (w1 ++ pl) → va_S A H0 H1 locs1 → W p l e R s m args below meth c H1 locs1 (cells + mc) (slots + ms) Q (F0 m (pc + 3) ls (.int r :: rest))) : W p l e R s m args below meth c H locs cells slots Q (F0 m pc ls st) :=
  q_goiT (wr := []) hr hP hD hS hA (List.range X.length) [] (range_all X) rfl rfl (fun i hi => by simp at hi) (fun r w1 H1 locs1 h1 hP1 hD1 hS1 => kk r w1 H1 locs1 h1 hP1 hD1 hS1)
end QW
theorem k_hold_ans {s s' : YS} {x r : Int32} (h : kX10_hold s x = some (r, s')) : (r = 1 ∧ 0 ≤ x.toInt ∧ x.toInt < 3) ∨ (r = 0 ∧ (x.toInt < 0 ∨ 3 ≤ x.toInt)) := by
  unfold kX10_hold at h
  obtain ⟨r2, s1, h1, h⟩ := bindI_inv h
  obtain ⟨s3, _, h⟩ := letS_inv h
  obtain ⟨_, h⟩ := guard_inv h
  have e : r2 = r := by cases h; rfl
  rw [← e]
  clear h e
  unfold kX3_keepIn at h1
  by_cases c1 : x < 0
  · have h1 := if_p h1 c1
    have c1 := tn_lt (b := 0) rfl (by decide) c1
    cases h1
    exact Or.inr ⟨rfl, Or.inl c1⟩
  · have h1 := if_n h1 c1
    have c1 := tn_nlt (b := 0) rfl (by decide) c1
    by_cases c2 : x < 3
    · have h1 := if_p h1 c2
      have c2 := tn_lt (b := 3) rfl (by decide) c2
      obtain ⟨_, h1⟩ := guard_inv h1
      obtain ⟨s4, _, h1⟩ := bindP_inv h1
      obtain ⟨s5, _, h1⟩ := letS_inv h1
      obtain ⟨_, h1⟩ := guard_inv h1
      obtain ⟨s8, _, h1⟩ := letS_inv h1
      cases h1
      exact Or.inl ⟨rfl, c1, c2⟩
    · have h1 := if_n h1 c2
      have c2 := tn_nlt (b := 3) rfl (by decide) c2
      cases h1
      exact Or.inr ⟨rfl, Or.inr c2⟩
theorem r_hold20_ans {x1 : Int32} : ∀ (n : Nat) (s : RS) (x2 r : Int32) (s' : RS), r_hold_20L n s x1 x2 = some (r, s') → r = 1 := by
  intro n
  induction n with
  | zero => intro s x2 r s' h; cases h
  | succ n ih =>
    intro s x2 r s' h
    have h : r_hold_20 (r_hold_20L n) s x1 x2 = some (r, s') := h
    unfold r_hold_20 at h
    by_cases c : 29 ≤ x2
    · have h := if_p h c
      cases h
      rfl
    · have h := if_n h c
      obtain ⟨_, h⟩ := guard_inv h
      obtain ⟨_, h⟩ := guard_inv h
      obtain ⟨s4, _, h⟩ := letS_inv h
      exact ih _ _ _ _ h
theorem r_hold_ans {s s' : RS} {x r : Int32} (h : r_hold s x = some (r, s')) : (r = 1 ∧ 0 ≤ x.toInt ∧ x.toInt < 3) ∨ (r = 0 ∧ (x.toInt < 0 ∨ 3 ≤ x.toInt)) := by
  unfold r_hold at h
  obtain ⟨r1, h1, h⟩ := bindP_inv h
  unfold r_in at h1
  have z1 : ¬ (1 : Int32) = 0 := by decide
  by_cases c1 : x < 0
  · have h1 := if_p h1 c1
    have c1 := tn_lt (b := 0) rfl (by decide) c1
    cases h1
    have h := if_p h rfl
    cases h
    exact Or.inr ⟨rfl, Or.inl c1⟩
  · have h1 := if_n h1 c1
    have c1 := tn_nlt (b := 0) rfl (by decide) c1
    by_cases c2 : 2 < x
    · have h1 := if_p h1 c2
      have c2 := tn_lt (a := 2) (by decide) rfl c2
      cases h1
      have h := if_p h rfl
      cases h
      exact Or.inr ⟨rfl, Or.inr (by omega)⟩
    · have h1 := if_n h1 c2
      have c2 := tn_nlt (a := 2) (by decide) rfl c2
      cases h1
      have h := if_n h z1
      obtain ⟨_, h⟩ := guard_inv h
      obtain ⟨s4, _, h⟩ := letS_inv h
      exact Or.inl ⟨r_hold20_ans _ _ _ _ _ h, c1, by omega⟩
theorem hold_same {s s' : YS} {z z' : RS} {x r1 r2 : Int32} (h1 : kX10_hold s x = some (r1, s')) (h2 : r_hold z x = some (r2, z')) : r1 = r2 := by
  rcases k_hold_ans h1 with ⟨e1, g1⟩ | ⟨e1, g1⟩ <;> rcases r_hold_ans h2 with ⟨e2, g2⟩ | ⟨e2, g2⟩
  · rw [e1, e2]
  · omega
  · omega
  · rw [e1, e2]
noncomputable def ks0 : KS := (fun _ => 0, fun _ _ => 0, fun _ _ => 0, fun _ => 0)
theorem inv_ks0 : InvK ks0 := by
  refine ⟨fun k => ?_, fun k j => ?_⟩
  · show loVK k ≤ 0 ∧ 0 ≤ hiVK k
    unfold loVK hiVK
    repeat' split
    all_goals omega
  · show loFK k ≤ 0 ∧ 0 ≤ hiFK k
    unfold loFK hiFK
    repeat' split
    all_goals omega
noncomputable def gs0 : GS := (fun _ => 0, fun _ _ => 0)
theorem inv_gs0 : InvG gs0 := by
  refine ⟨fun k => ?_, fun k j => ?_⟩
  · show loVG k ≤ 0 ∧ 0 ≤ hiVG k
    unfold loVG hiVG
    repeat' split
    all_goals omega
  · show loFG k ≤ 0 ∧ 0 ≤ hiFG k
    unfold loFG hiFG
    omega
theorem read_zero {y y' : XS} {r : Int32} (hK : InvK y.k) (h : kX10_read y = some (r, y')) : y'.k.v 0 = 0 := by
  unfold kX10_read at h
  obtain ⟨r2, s1, h1, h⟩ := bindI_inv h
  obtain ⟨s3, e3, h⟩ := letS_inv h
  obtain ⟨s5, e5, h⟩ := letS_inv h
  obtain ⟨⟨q1, w1⟩, e1, p1⟩ := ok_kX4_readTape y.k hK
  rw [h1] at e1
  cases e1
  have I1 : InvK s1 := p1.1
  have v5 : s5.k.v 0 = 0 := by rw [← e5]; rfl
  have I5 : InvK s5.k := by
    rw [← e5, ← e3]
    exact I1.sv (k := 0) (show (0 : Int) ≤ (0 : Int32).toInt by decide) (show (0 : Int32).toInt ≤ (2000 : Int) by decide)
  by_cases c : r2 = 0
  · have h := if_p h c
    obtain ⟨s8, h8, h⟩ := bindP_inv h
    obtain ⟨w8, e8, p8⟩ := ok_kX5_copyFrom s5.k I5
    rw [h8] at e8
    cases e8
    have v8 : s8.v 0 = 0 := (p8.2.1 0 (by decide)).trans v5
    obtain ⟨s9, e9, h⟩ := letS_inv h
    obtain ⟨s11, h11, h⟩ := bindP_inv h
    obtain ⟨s12, e12, h⟩ := letS_inv h
    obtain ⟨s14, h14, h⟩ := bindP_inv h
    obtain ⟨s15, e15, h⟩ := letS_inv h
    obtain ⟨s17, e17, h⟩ := letS_inv h
    have e : s17 = y' := by cases h; rfl
    rw [← e, ← e17, ← e15, ← e12, ← e9]
    exact v8
  · have h := if_n h c
    have e : s5 = y' := by cases h; rfl
    rw [← e]
    exact v5
theorem copy_v1 {s s' : KS} (hI : InvK s) (h : kX5_copyFrom s = some s') : s'.v 1 = s.v 8 ∧ ∀ j : Nat, j < 30 → s'.f 3 j = s.f 16 j := by
  unfold kX5_copyFrom at h
  obtain ⟨a1, d1, h⟩ := letS_inv h
  obtain ⟨a3, d3, h⟩ := letS_inv h
  obtain ⟨a5, d5, h⟩ := letS_inv h
  obtain ⟨a7, d7, h⟩ := letS_inv h
  obtain ⟨a9, d9, h⟩ := letS_inv h
  obtain ⟨a11, h11, h⟩ := bindP_inv h
  obtain ⟨a12, d12, h⟩ := letS_inv h
  obtain ⟨a14, d14, h⟩ := letS_inv h
  obtain ⟨a16, d16, h⟩ := letS_inv h
  obtain ⟨a18, d18, h⟩ := letS_inv h
  have e8 : a11.v 8 = a9.v 8 ∧ a11.f 3 = a9.f 3 := by
    unfold kX1_copyFrom at h11
    obtain ⟨b1, f1, h11⟩ := letS_inv h11
    obtain ⟨b3, f3, h11⟩ := letS_inv h11
    obtain ⟨b5, f5, h11⟩ := letS_inv h11
    obtain ⟨b7, f7, h11⟩ := letS_inv h11
    obtain ⟨b9, f9, h11⟩ := letS_inv h11
    cases h11
    rw [← f9, ← f7, ← f5, ← f3, ← f1]
    exact ⟨rfl, rfl⟩
  have e9 : a9.v 8 = s.v 8 ∧ a9.f 3 = va_cpy (s.f 16) (s.f 3) 0 0 30 := by rw [← d9, ← d7, ← d5, ← d3, ← d1]; exact ⟨rfl, rfl⟩
  cases h
  rw [← d18, ← d16, ← d14, ← d12]
  refine ⟨?_, fun j hj => ?_⟩
  · show a11.v 8 = _
    rw [e8.1, e9.1]
  · show a11.f 3 j = _
    rw [e8.2, e9.2]
    unfold va_cpy
    rw [if_pos ⟨Nat.zero_le _, by omega⟩]
    rw [Nat.zero_add, Nat.sub_zero]
theorem read_same {y y' : XS} {z z' : RS} {r1 r2 : Int32} (hK : InvK y.k) (hR : InvR z) (h : TPk y.k z) (hz2 : z'.v 2 = 0) (h1 : kX10_read y = some (r1, y')) (h2 : r_read z = some (r2, z')) : r1 = r2 ∧ TPk y'.k z' := by
  have hv0 := read_zero hK h1
  unfold kX10_read at h1
  obtain ⟨q2, s1, f1, h1⟩ := bindI_inv h1
  obtain ⟨s3, d3, h1⟩ := letS_inv h1
  obtain ⟨s5, d5, h1⟩ := letS_inv h1
  obtain ⟨⟨u1, w1⟩, e1, p1⟩ := ok_kX4_readTape y.k hK
  rw [f1] at e1
  cases e1
  have I1 : InvK s1 := p1.1
  have F1 : FrK [8, 9, 10, 11, 12, 13, 15, 16, 17, 18, 19, 20, 116, 117, 118, 119, 120, 122, 123, 124, 125, 129, 132, 133, 134] y.k s1 := p1.2.1
  obtain ⟨er, ep, eg, hr⟩ := read_tape hK hR h.1.1 h.1.2.2 h.2.1 f1 h2
  have z0 : (0 : Int32).toInt = 0 := by decide
  have fin : ∀ k' : KS, k'.v 0 = 0 → k'.v 17 = s1.v 17 → k'.g 31 = s1.g 31 → k'.v 1 = z'.f 20 (z'.v 18).toNatClampNeg → k'.v 21 = z'.v 51 → OD7 k' z' → TPk k' z' := by
    intro k' a1 a2 a3 a4 a5 a6
    refine ⟨⟨by rw [a1, hz2], by rw [a1]; decide, fun i hi => ?_⟩, ?_, by rw [a2, ep], a4, a5, a6⟩
    · rw [a1, z0] at hi
      omega
    · unfold KWR
      rw [a3, (F1.2 31 (by decide)).2, eg]
      exact h.2.1
  have k5 : s5.k = s1.sv 0 0 := by rw [← d5, ← d3]; rfl
  have I5 : InvK s5.k := by
    rw [k5]
    exact I1.sv (k := 0) (show (0 : Int) ≤ (0 : Int32).toInt by decide) (show (0 : Int32).toInt ≤ (2000 : Int) by decide)
  by_cases c : q2 = 0
  · rw [if_pos c] at h1
    obtain ⟨s8, h8, h1⟩ := bindP_inv h1
    obtain ⟨w8, e8, p8⟩ := ok_kX5_copyFrom s5.k I5
    rw [h8] at e8
    cases e8
    have c1 := copy_v1 I5 h8
    obtain ⟨s9, e9, h1⟩ := letS_inv h1
    obtain ⟨s11, h11, h1⟩ := bindP_inv h1
    obtain ⟨s12, e12, h1⟩ := letS_inv h1
    obtain ⟨s14, h14, h1⟩ := bindP_inv h1
    obtain ⟨s15, e15, h1⟩ := letS_inv h1
    obtain ⟨s17, e17, h1⟩ := letS_inv h1
    have kk : s17.k = s8.sv 21 0 := by rw [← e17, ← e15, ← e12, ← e9]; rfl
    have ey : r1 = q2 ∧ y' = s17 := by cases h1; exact ⟨rfl, rfl⟩
    rw [ey.2] at hv0
    rw [ey.1, ey.2]
    rcases hr with ⟨_, g8, g51, _, _, gCT, _⟩ | ⟨n0, _⟩
    · refine ⟨er, fin _ hv0 ?_ ?_ ?_ ?_ ?_⟩
      · rw [kk]
        show s8.v 17 = _
        rw [p8.2.1 17 (by decide), k5]
        rfl
      · rw [kk]
        show s8.g 31 = _
        rw [(p8.2.2 31 (by decide)).2, k5]
        rfl
      · rw [kk]
        show s8.v 1 = _
        rw [c1.1, k5]
        exact g8
      · rw [kk, g51]
        rfl
      · intro j hj
        have i1 : 0 ≤ (s1.v 8).toInt ∧ (s1.v 8).toInt ≤ 5 := I1.1 8
        have v1 : s17.k.v 1 = s1.v 8 := by
          rw [kk]
          show s8.v 1 = _
          rw [c1.1, k5]
          rfl
        rw [v1] at hj
        rw [kk]
        show s8.f 3 j = _
        rw [c1.2 j (by omega), k5]
        exact gCT.1 j hj
    · exact absurd c n0
  · rw [if_neg c] at h1
    have ey : r1 = q2 ∧ y' = s5 := by cases h1; exact ⟨rfl, rfl⟩
    rw [ey.2] at hv0
    rw [ey.1, ey.2]
    rcases hr with ⟨n0, _⟩ | ⟨_, g18, g20, g51, _, g21, _⟩
    · exact absurd n0 c
    · refine ⟨er, fin _ hv0 ?_ ?_ ?_ ?_ ?_⟩
      · rw [k5]; rfl
      · rw [k5]; rfl
      · rw [k5, g18, g20]
        show s1.v 1 = _
        rw [F1.1 1 (by decide)]
        exact h.2.2.2.1
      · rw [k5, g51]
        show s1.v 21 = _
        rw [F1.1 21 (by decide)]
        exact h.2.2.2.2.1
      · intro j hj
        have i1 : 0 ≤ (s1.v 1).toInt ∧ (s1.v 1).toInt ≤ 5 := I1.1 1
        rw [k5] at hj
        have hj : (j : Int) < 6 * (s1.v 1).toInt := hj
        rw [k5, g18, g21 j (by omega)]
        show s1.f 3 j = _
        rw [F1.1 1 (by decide)] at hj
        rw [(F1.2 3 (by decide)).1]
        exact h.2.2.2.2.2 j hj
theorem tp_start {y : YS} {z : RS} {φ : Nat → Int64} (h : y.x.k.v 0 = 0 ∧ y.x.k.v 17 = -1 ∧ y.x.k.g 31 = φ ∧ y.x.k.v 1 = 0 ∧ y.x.k.v 21 = 0) (hφ : φ = wdF) (hz : RI z) : TPk y.x.k z := by
  have z0 : (0 : Int32).toInt = 0 := by decide
  refine ⟨⟨by rw [h.1, hz.1], by rw [h.1]; decide, fun i hi => ?_⟩, ?_, by rw [h.2.1, hz.2.1], ?_, by rw [h.2.2.2.2, hz.2.2.2.2.2], ?_⟩
  · rw [h.1, z0] at hi
    omega
  · unfold KWR
    rw [h.2.2.1, hφ, hz.2.2.1]
    refine ⟨fun k hk => ?_, fun k k' hk hk' e => words_ne k hk k' hk' e⟩
    have w := words_ok k hk
    exact ⟨wlst.getD k [], w.1, w.2.1, w.2.2.1, w.2.2.2⟩
  · rw [h.2.2.2.1, hz.2.2.2.1, show (0 : Int32).toNatClampNeg = 0 from by decide, hz.2.2.2.2.1]
  · intro j hj
    rw [h.2.2.2.1, z0] at hj
    omega
theorem forget_tel {y y' : XS} {z' : RS} {r1 : Int32} (h1 : kX10_forget y = some (r1, y')) : TEL y'.k z' := by
  unfold kX10_forget at h1
  obtain ⟨s1, e1, h1⟩ := letS_inv h1
  have e : y' = s1 := by cases h1; rfl
  refine TEL.none ?_
  rw [e, ← e1]
  show (0 : Int32).toInt = 0
  decide
/-- what the law's loop keeps -/
noncomputable def TP (y : YS) (z : RS) : Prop := TPk y.x.k z ∧ REL y z
/-! ===== how both begin ===== -/
/-- what the class's constructor leaves -/
noncomputable def KST (y : YS) : Prop := (y.x.k.v 1 = 0 ∧ y.x.k.v 2 = 0 ∧ y.x.k.v 3 = 1 ∧ y.x.k.v 4 = 0 ∧ y.x.k.v 21 = 0) ∧ (∀ cl, cl < 4 → y.x.k.f 12 cl = 1 ∧ Sg (y.x.k.f 9) (y.x.k.f 11 cl) (y.x.k.f 10 (13 * cl)) [dfl cl] ∧ (y.x.k.f 10 (13 * cl)).toInt ≤ 404) ∧ OVR y.x.n ∧ (y.x.g.v 4 = 0 ∧ y.x.g.v 3 = 0 ∧ ∀ i, i < 3 → y.x.g.f 4 i = 0)
theorem rel_start {y : YS} {z : RS} (hK : InvK y.x.k) (h : KST y) (hz : RIB z) (h18 : z.v 18 = 0) (h20 : z.f 20 0 = 0) : REL y z := by
  obtain ⟨⟨k1, k2, k3, k4, k21⟩, hl, hn, g4, g3, gf⟩ := h
  obtain ⟨⟨z23, z26⟩, z27, z43, z46, z48, z56⟩ := hz
  have z0 : (0 : Int32).toInt = 0 := by decide
  have c0 : (0 : Int32).toNatClampNeg = 0 := by decide
  have e18 : (z.v 18).toNatClampNeg = 0 := by rw [h18]; exact c0
  refine ⟨⟨⟨?_, ?_, ?_, ?_⟩, z46, fun j hj => ?_, fun p hp => ?_, fun w hw => ?_, fun cl hcl => ?_⟩, ⟨hn.sr z43, hn.fo hK⟩, ⟨by rw [g4, z48], ?_, fun i hi => ?_⟩, fun s hs => ⟨by rw [gf s hs, z56 s hs], fun n0 => absurd (z56 s hs) n0⟩, TEL.none (by rw [k21]; exact z0)⟩
  · rw [e18, k1, h20]
  · rw [e18, k2, z23]
  · rw [e18, k4, z26]
  · rw [k3, k1, c0]
    rfl
  · rw [k1, z0] at hj
    omega
  · rw [k2, z0] at hp
    omega
  · rw [k1, z0] at hw
    omega
  · rw [e18]
    obtain ⟨l1, l2, l3⟩ := hl cl hcl
    exact Or.inl ⟨by rw [show 4 * 0 + cl = cl by omega]; exact z27 cl hcl, l1, l2, l3⟩
  · rw [g3]
    decide
  · rw [z48, z0] at hi
    omega
end
section
noncomputable abbrev kf9 : Nat → Int32 := (upd (upd (upd (upd (fun _ => 0) 0 (-3)) 1 1) 2 1) 3 0)
noncomputable abbrev kf10 : Nat → Int32 := (upd (upd (upd (upd (fun _ => 0) 0 1) 13 2) 26 3) 39 4)
noncomputable abbrev kf11 : Nat → Int32 := (upd (upd (upd (upd (fun _ => 0) 0 0) 1 1) 2 2) 3 3)
noncomputable abbrev kf12 : Nat → Int32 := (upd (upd (upd (upd (upd (upd (upd (upd (fun _ => 0) 0 0) 0 1) 1 0) 1 1) 2 0) 2 1) 3 0) 3 1)
noncomputable abbrev kf22 : Nat → Int32 := (upd (upd (upd (upd (fun _ => 0) 0 (-3)) 1 1) 2 1) 3 0)
noncomputable abbrev kf23 : Nat → Int32 := (upd (upd (upd (upd (fun _ => 0) 0 1) 13 2) 26 3) 39 4)
noncomputable abbrev kf24 : Nat → Int32 := (upd (upd (upd (upd (fun _ => 0) 0 0) 1 1) 2 2) 3 3)
noncomputable abbrev kf25 : Nat → Int32 := (upd (upd (upd (upd (upd (upd (upd (upd (fun _ => 0) 0 0) 0 1) 1 0) 1 1) 2 0) 2 1) 3 0) 3 1)
noncomputable abbrev kvE : Nat → Int32 := fun k => if k = 3 then 1 else if k = 5 then 4 else if k = 6 then 3 else if k = 10 then 1 else if k = 12 then 4 else if k = 13 then 3 else if k = 17 then (-1) else 0
noncomputable abbrev kfE : Nat → Nat → Int32 := fun k => if k = 9 then kf9 else if k = 10 then kf10 else if k = 11 then kf11 else if k = 12 then kf12 else if k = 22 then kf22 else if k = 23 then kf23 else if k = 24 then kf24 else if k = 25 then kf25 else (fun _ => 0)
theorem rng_upd {f : Nat → Int32} {i : Nat} {x : Int32} {lo hi : Int} (hf : ∀ j, lo ≤ (f j).toInt ∧ (f j).toInt ≤ hi) (h1 : lo ≤ x.toInt) (h2 : x.toInt ≤ hi) : ∀ j, lo ≤ (upd f i x j).toInt ∧ (upd f i x j).toInt ≤ hi := by
  intro j
  unfold upd
  by_cases e : j = i
  · rw [if_pos e]; exact ⟨h1, h2⟩
  · rw [if_neg e]; exact hf j
theorem rng_kf10 : ∀ j, ((0 : Int)) ≤ (kf10 j).toInt ∧ (kf10 j).toInt ≤ (404 : Int) := (rng_upd (rng_upd (rng_upd (rng_upd (fun _ => ⟨by decide, by decide⟩) (by decide) (by decide)) (by decide) (by decide)) (by decide) (by decide)) (by decide) (by decide))
theorem rng_kf11 : ∀ j, ((0 : Int)) ≤ (kf11 j).toInt ∧ (kf11 j).toInt ≤ (404 : Int) := (rng_upd (rng_upd (rng_upd (rng_upd (fun _ => ⟨by decide, by decide⟩) (by decide) (by decide)) (by decide) (by decide)) (by decide) (by decide)) (by decide) (by decide))
theorem rng_kf12 : ∀ j, ((0 : Int)) ≤ (kf12 j).toInt ∧ (kf12 j).toInt ≤ (13 : Int) := (rng_upd (rng_upd (rng_upd (rng_upd (rng_upd (rng_upd (rng_upd (rng_upd (fun _ => ⟨by decide, by decide⟩) (by decide) (by decide)) (by decide) (by decide)) (by decide) (by decide)) (by decide) (by decide)) (by decide) (by decide)) (by decide) (by decide)) (by decide) (by decide)) (by decide) (by decide))
theorem rng_kf23 : ∀ j, ((0 : Int)) ≤ (kf23 j).toInt ∧ (kf23 j).toInt ≤ (404 : Int) := (rng_upd (rng_upd (rng_upd (rng_upd (fun _ => ⟨by decide, by decide⟩) (by decide) (by decide)) (by decide) (by decide)) (by decide) (by decide)) (by decide) (by decide))
theorem rng_kf24 : ∀ j, ((0 : Int)) ≤ (kf24 j).toInt ∧ (kf24 j).toInt ≤ (404 : Int) := (rng_upd (rng_upd (rng_upd (rng_upd (fun _ => ⟨by decide, by decide⟩) (by decide) (by decide)) (by decide) (by decide)) (by decide) (by decide)) (by decide) (by decide))
theorem rng_kf25 : ∀ j, ((0 : Int)) ≤ (kf25 j).toInt ∧ (kf25 j).toInt ≤ (13 : Int) := (rng_upd (rng_upd (rng_upd (rng_upd (rng_upd (rng_upd (rng_upd (rng_upd (fun _ => ⟨by decide, by decide⟩) (by decide) (by decide)) (by decide) (by decide)) (by decide) (by decide)) (by decide) (by decide)) (by decide) (by decide)) (by decide) (by decide)) (by decide) (by decide)) (by decide) (by decide))
theorem lov0 (k : Nat) : loVK k ≤ 0 ∧ 0 ≤ hiVK k := by
  unfold loVK hiVK
  repeat' split
  all_goals omega
theorem lof0 (k : Nat) : loFK k ≤ 0 ∧ 0 ≤ hiFK k := by
  unfold loFK hiFK
  repeat' split
  all_goals omega
theorem inv_kv (k : Nat) : loVK k ≤ (kvE k).toInt ∧ (kvE k).toInt ≤ hiVK k := by
  by_cases e3 : k = 3
  · subst e3; decide
  by_cases e5 : k = 5
  · subst e5; decide
  by_cases e6 : k = 6
  · subst e6; decide
  by_cases e10 : k = 10
  · subst e10; decide
  by_cases e12 : k = 12
  · subst e12; decide
  by_cases e13 : k = 13
  · subst e13; decide
  by_cases e17 : k = 17
  · subst e17; decide
  have e : kvE k = 0 := by show (if k = 3 then 1 else if k = 5 then 4 else if k = 6 then 3 else if k = 10 then 1 else if k = 12 then 4 else if k = 13 then 3 else if k = 17 then (-1) else 0 : Int32) = 0; rw [if_neg e3, if_neg e5, if_neg e6, if_neg e10, if_neg e12, if_neg e13, if_neg e17]
  rw [e]
  exact lov0 k
theorem inv_kf (k j : Nat) : loFK k ≤ (kfE k j).toInt ∧ (kfE k j).toInt ≤ hiFK k := by
  by_cases e9 : k = 9
  · subst e9; exact ti_rng (kf9 j)
  by_cases e10 : k = 10
  · subst e10; exact rng_kf10 j
  by_cases e11 : k = 11
  · subst e11; exact rng_kf11 j
  by_cases e12 : k = 12
  · subst e12; exact rng_kf12 j
  by_cases e22 : k = 22
  · subst e22; exact ti_rng (kf22 j)
  by_cases e23 : k = 23
  · subst e23; exact rng_kf23 j
  by_cases e24 : k = 24
  · subst e24; exact rng_kf24 j
  by_cases e25 : k = 25
  · subst e25; exact rng_kf25 j
  have e : kfE k = (fun _ => 0) := by show (if k = 9 then kf9 else if k = 10 then kf10 else if k = 11 then kf11 else if k = 12 then kf12 else if k = 22 then kf22 else if k = 23 then kf23 else if k = 24 then kf24 else if k = 25 then kf25 else (fun _ => 0) : Nat → Int32) = (fun _ => 0); rw [if_neg e9, if_neg e10, if_neg e11, if_neg e12, if_neg e22, if_neg e23, if_neg e24, if_neg e25]
  rw [e]
  exact lof0 k
theorem kf_law : ∀ cl, cl < 4 → kf12 cl = 1 ∧ Sg kf9 (kf11 cl) (kf10 (13 * cl)) [dfl cl] ∧ (kf10 (13 * cl)).toInt ≤ 404 := by
  intro cl hcl
  rcases (show cl = 0 ∨ cl = 1 ∨ cl = 2 ∨ cl = 3 by omega) with e | e | e | e
  · subst e; exact ⟨by decide, ⟨by decide, by decide, by decide⟩, by decide⟩
  · subst e; exact ⟨by decide, ⟨by decide, by decide, by decide⟩, by decide⟩
  · subst e; exact ⟨by decide, ⟨by decide, by decide, by decide⟩, by decide⟩
  · subst e; exact ⟨by decide, ⟨by decide, by decide, by decide⟩, by decide⟩
set_option maxHeartbeats 4000000 in
set_option maxRecDepth 100000 in
theorem bridge {D : va_G} {A : Nat → Prop} {H : Heap} (cB cI cJ cZ cS : ClassId) (q_G : Nat) (q_tape : Nat) (q_tape_bytes : Nat) (q_sound : Nat) (q_sound_odds : Nat) (q_sound_oddsSums : Nat) (q_sound_likely : Nat) (q_sound_heavy : Nat) (q_sound_nerve : Nat) (q_sound_laws : Nat) (q_sound_laws_steps : Nat) (q_sound_laws_partEnds : Nat) (q_sound_laws_lawStarts : Nat) (q_sound_laws_partCounts : Nat) (q_sound_laws_vars : Nat) (q_sound_laws_stack : Nat) (q_reader : Nat) (q_draft : Nat) (q_draft_odds : Nat) (q_draft_oddsSums : Nat) (q_draft_likely : Nat) (q_draft_heavy : Nat) (q_draft_nerve : Nat) (q_draft_laws : Nat) (q_draft_laws_steps : Nat) (q_draft_laws_partEnds : Nat) (q_draft_laws_lawStarts : Nat) (q_draft_laws_partCounts : Nat) (q_draft_laws_vars : Nat) (q_draft_laws_stack : Nat) (q_names : Nat) (q_tokens : Nat) (q_words : Nat) (q_kinds : Nat) (q_starts : Nat) (q_values : Nat) (q_now : Nat) (q_now_found : Nat) (q_now_buoys : Nat) (q_now_shifted : Nat) (q_now_status : Nat) (q_now_goes : Nat) (q_trial : Nat) (q_trial_found : Nat) (q_trial_buoys : Nat) (q_trial_shifted : Nat) (q_trial_status : Nat) (q_trial_goes : Nat) (q_past : Nat) (q_ring : Nat) (q_slots : Nat) (q_isHeld : Nat) (q_crossing : Nat) (q_outlook : Nat) (q_near : Nat) (q_far : Nat) (q_topGuesses : Nat) (q_topOdds : Nat) (q_tellers : Nat) (q_toldWaves : Nat) (q_toldThings : Nat) (q_t_odds : Nat) (q_belied : Nat) (q_byLies : Nat) (φf1 : Nat → Int64) (φf7 : Nat → Int32) (φf9 : Nat → Int32) (φf11 : Nat → Int32) (φf13 : Nat → Int32) (φf15 : Nat → Int32) (φf3 : Nat → Option Nat) (φf5 : Nat → Option Nat) (bb : Nat → Nat → Nat) (h3 : ∀ k, k < 40 → φf3 k = some (bb k 0)) (h5 : ∀ k, k < 3 → φf5 k = some (bb (40 + k) 0)) (hn0 : ∀ j, j < 5 → φf7 j = (-1)) (hn1 : ∀ j, j < 5 → φf9 j = 0) (hn2 : ∀ j, j < 5 → φf11 j = 0) (hn3 : ∀ j, j < 6 → φf13 j = 0) (hn4 : ∀ j, j < 6 → φf15 j = 0) (hP : va_P D vwCl (([(q_G, .inr (10, [.ref q_tape, .ref q_sound, .ref q_reader, .ref q_now, .ref q_trial, .ref q_past, .ref q_crossing, .ref q_outlook, .ref q_tellers])), (q_tape, .inr (7, [.ref q_tape_bytes, .int 0])), (q_tape_bytes, .inl (cB, 2000, .inl (fun _ => 0))), (q_sound, .inr (5, [.ref q_sound_odds, .ref q_sound_oddsSums, .ref q_sound_likely, .ref q_sound_heavy, .ref q_sound_nerve, .ref q_sound_laws, .int 0, .int 0, .int 1, .int 0])), (q_sound_odds, .inl (cI, 30, .inl (fun _ => 0))), (q_sound_oddsSums, .inl (cI, 5, .inl (fun _ => 0))), (q_sound_likely, .inl (cI, 5, .inl (fun _ => 0))), (q_sound_heavy, .inl (cI, 6, .inl (fun _ => 0))), (q_sound_nerve, .inl (cI, 6, .inl (fun _ => 0))), (q_sound_laws, .inr (1, [.ref q_sound_laws_steps, .ref q_sound_laws_partEnds, .ref q_sound_laws_lawStarts, .ref q_sound_laws_partCounts, .ref q_sound_laws_vars, .ref q_sound_laws_stack, .int 4, .int 3, .int 0])), (q_sound_laws_steps, .inl (cI, 404, .inl (upd (upd (upd (upd (fun _ => 0) 0 (-3)) 1 1) 2 1) 3 0))), (q_sound_laws_partEnds, .inl (cI, 52, .inl (upd (upd (upd (upd (fun _ => 0) 0 1) 13 2) 26 3) 39 4))), (q_sound_laws_lawStarts, .inl (cI, 4, .inl (upd (upd (upd (upd (fun _ => 0) 0 0) 1 1) 2 2) 3 3))), (q_sound_laws_partCounts, .inl (cI, 4, .inl (upd (upd (upd (upd (upd (upd (upd (upd (fun _ => 0) 0 0) 0 1) 1 0) 1 1) 2 0) 2 1) 3 0) 3 1))), (q_sound_laws_vars, .inl (cI, 9, .inl (fun _ => 0))), (q_sound_laws_stack, .inl (cI, 16, .inl (fun _ => 0))), (q_reader, .inr (4, [.ref q_tokens, .ref q_draft, .ref q_names, .int 0, .int 0, .int (-1), .int 0, .int 0])), (q_draft, .inr (5, [.ref q_draft_odds, .ref q_draft_oddsSums, .ref q_draft_likely, .ref q_draft_heavy, .ref q_draft_nerve, .ref q_draft_laws, .int 0, .int 0, .int 1, .int 0])), (q_draft_odds, .inl (cI, 30, .inl (fun _ => 0))), (q_draft_oddsSums, .inl (cI, 5, .inl (fun _ => 0))), (q_draft_likely, .inl (cI, 5, .inl (fun _ => 0))), (q_draft_heavy, .inl (cI, 6, .inl (fun _ => 0))), (q_draft_nerve, .inl (cI, 6, .inl (fun _ => 0))), (q_draft_laws, .inr (1, [.ref q_draft_laws_steps, .ref q_draft_laws_partEnds, .ref q_draft_laws_lawStarts, .ref q_draft_laws_partCounts, .ref q_draft_laws_vars, .ref q_draft_laws_stack, .int 4, .int 3, .int 0])), (q_draft_laws_steps, .inl (cI, 404, .inl (upd (upd (upd (upd (fun _ => 0) 0 (-3)) 1 1) 2 1) 3 0))), (q_draft_laws_partEnds, .inl (cI, 52, .inl (upd (upd (upd (upd (fun _ => 0) 0 1) 13 2) 26 3) 39 4))), (q_draft_laws_lawStarts, .inl (cI, 4, .inl (upd (upd (upd (upd (fun _ => 0) 0 0) 1 1) 2 2) 3 3))), (q_draft_laws_partCounts, .inl (cI, 4, .inl (upd (upd (upd (upd (upd (upd (upd (upd (fun _ => 0) 0 0) 0 1) 1 0) 1 1) 2 0) 2 1) 3 0) 3 1))), (q_draft_laws_vars, .inl (cI, 9, .inl (fun _ => 0))), (q_draft_laws_stack, .inl (cI, 16, .inl (fun _ => 0))), (q_names, .inl (cJ, 6, .inr (.inl (fun _ => 0)))), (q_tokens, .inr (9, [.ref q_tape, .ref q_words, .ref q_kinds, .ref q_starts, .ref q_values, .int 0, .long 0])), (q_words, .inl (cJ, 19, .inr (.inl φf1))), (q_kinds, .inl (cI, 401, .inl (fun _ => 0))), (q_starts, .inl (cI, 401, .inl (fun _ => 0))), (q_values, .inl (cJ, 401, .inr (.inl (fun _ => 0)))), (q_now, .inr (6, [.ref q_now_found, .ref q_now_buoys, .ref q_now_shifted, .ref q_now_status, .ref q_now_goes, .int 0, .int 0])), (q_now_found, .inl (cI, 5, .inl φf7)), (q_now_buoys, .inl (cI, 5, .inl φf9)), (q_now_shifted, .inl (cI, 5, .inl φf11)), (q_now_status, .inl (cI, 6, .inl φf13)), (q_now_goes, .inl (cI, 6, .inl φf15)), (q_trial, .inr (6, [.ref q_trial_found, .ref q_trial_buoys, .ref q_trial_shifted, .ref q_trial_status, .ref q_trial_goes, .int 0, .int 0])), (q_trial_found, .inl (cI, 5, .inl (fun _ => 0))), (q_trial_buoys, .inl (cI, 5, .inl (fun _ => 0))), (q_trial_shifted, .inl (cI, 5, .inl (fun _ => 0))), (q_trial_status, .inl (cI, 6, .inl (fun _ => 0))), (q_trial_goes, .inl (cI, 6, .inl (fun _ => 0))), (q_past, .inr (3, [.ref q_ring, .ref q_slots, .ref q_isHeld, .int 0, .int 0])), (q_ring, .inl (cS, 40, .inr (.inr (.inr (.inr φf3))))), (q_slots, .inl (cS, 3, .inr (.inr (.inr (.inr φf5))))), (q_isHeld, .inl (cZ, 3, .inl (fun _ => 0))), (q_crossing, .inr (0, [.ref q_sound, .ref q_sound_laws_vars])), (q_outlook, .inr (2, [.ref q_sound, .ref q_crossing, .ref q_near, .ref q_far, .ref q_topGuesses, .ref q_topOdds])), (q_near, .inl (cI, 216, .inl (fun _ => 0))), (q_far, .inl (cI, 36, .inl (fun _ => 0))), (q_topGuesses, .inl (cI, 20, .inl (fun _ => 0))), (q_topOdds, .inl (cI, 20, .inl (fun _ => 0))), (q_tellers, .inr (8, [.ref q_sound, .ref q_crossing, .ref q_toldWaves, .ref q_toldThings, .ref q_t_odds, .ref q_belied, .ref q_byLies, .int 0])), (q_toldWaves, .inl (cI, 20, .inl (fun _ => 0))), (q_toldThings, .inl (cI, 20, .inl (fun _ => 0))), (q_t_odds, .inl (cI, 30, .inl (fun _ => 0))), (q_belied, .inl (cI, 30, .inl (fun _ => 0))), (q_byLies, .inl (cI, 4, .inl (fun _ => 0)))] : va_W) ++ wPool cI bb (fun _ => sd0) 43) H) (hD : va_D A (([(q_G, .inr (10, [.ref q_tape, .ref q_sound, .ref q_reader, .ref q_now, .ref q_trial, .ref q_past, .ref q_crossing, .ref q_outlook, .ref q_tellers])), (q_tape, .inr (7, [.ref q_tape_bytes, .int 0])), (q_tape_bytes, .inl (cB, 2000, .inl (fun _ => 0))), (q_sound, .inr (5, [.ref q_sound_odds, .ref q_sound_oddsSums, .ref q_sound_likely, .ref q_sound_heavy, .ref q_sound_nerve, .ref q_sound_laws, .int 0, .int 0, .int 1, .int 0])), (q_sound_odds, .inl (cI, 30, .inl (fun _ => 0))), (q_sound_oddsSums, .inl (cI, 5, .inl (fun _ => 0))), (q_sound_likely, .inl (cI, 5, .inl (fun _ => 0))), (q_sound_heavy, .inl (cI, 6, .inl (fun _ => 0))), (q_sound_nerve, .inl (cI, 6, .inl (fun _ => 0))), (q_sound_laws, .inr (1, [.ref q_sound_laws_steps, .ref q_sound_laws_partEnds, .ref q_sound_laws_lawStarts, .ref q_sound_laws_partCounts, .ref q_sound_laws_vars, .ref q_sound_laws_stack, .int 4, .int 3, .int 0])), (q_sound_laws_steps, .inl (cI, 404, .inl (upd (upd (upd (upd (fun _ => 0) 0 (-3)) 1 1) 2 1) 3 0))), (q_sound_laws_partEnds, .inl (cI, 52, .inl (upd (upd (upd (upd (fun _ => 0) 0 1) 13 2) 26 3) 39 4))), (q_sound_laws_lawStarts, .inl (cI, 4, .inl (upd (upd (upd (upd (fun _ => 0) 0 0) 1 1) 2 2) 3 3))), (q_sound_laws_partCounts, .inl (cI, 4, .inl (upd (upd (upd (upd (upd (upd (upd (upd (fun _ => 0) 0 0) 0 1) 1 0) 1 1) 2 0) 2 1) 3 0) 3 1))), (q_sound_laws_vars, .inl (cI, 9, .inl (fun _ => 0))), (q_sound_laws_stack, .inl (cI, 16, .inl (fun _ => 0))), (q_reader, .inr (4, [.ref q_tokens, .ref q_draft, .ref q_names, .int 0, .int 0, .int (-1), .int 0, .int 0])), (q_draft, .inr (5, [.ref q_draft_odds, .ref q_draft_oddsSums, .ref q_draft_likely, .ref q_draft_heavy, .ref q_draft_nerve, .ref q_draft_laws, .int 0, .int 0, .int 1, .int 0])), (q_draft_odds, .inl (cI, 30, .inl (fun _ => 0))), (q_draft_oddsSums, .inl (cI, 5, .inl (fun _ => 0))), (q_draft_likely, .inl (cI, 5, .inl (fun _ => 0))), (q_draft_heavy, .inl (cI, 6, .inl (fun _ => 0))), (q_draft_nerve, .inl (cI, 6, .inl (fun _ => 0))), (q_draft_laws, .inr (1, [.ref q_draft_laws_steps, .ref q_draft_laws_partEnds, .ref q_draft_laws_lawStarts, .ref q_draft_laws_partCounts, .ref q_draft_laws_vars, .ref q_draft_laws_stack, .int 4, .int 3, .int 0])), (q_draft_laws_steps, .inl (cI, 404, .inl (upd (upd (upd (upd (fun _ => 0) 0 (-3)) 1 1) 2 1) 3 0))), (q_draft_laws_partEnds, .inl (cI, 52, .inl (upd (upd (upd (upd (fun _ => 0) 0 1) 13 2) 26 3) 39 4))), (q_draft_laws_lawStarts, .inl (cI, 4, .inl (upd (upd (upd (upd (fun _ => 0) 0 0) 1 1) 2 2) 3 3))), (q_draft_laws_partCounts, .inl (cI, 4, .inl (upd (upd (upd (upd (upd (upd (upd (upd (fun _ => 0) 0 0) 0 1) 1 0) 1 1) 2 0) 2 1) 3 0) 3 1))), (q_draft_laws_vars, .inl (cI, 9, .inl (fun _ => 0))), (q_draft_laws_stack, .inl (cI, 16, .inl (fun _ => 0))), (q_names, .inl (cJ, 6, .inr (.inl (fun _ => 0)))), (q_tokens, .inr (9, [.ref q_tape, .ref q_words, .ref q_kinds, .ref q_starts, .ref q_values, .int 0, .long 0])), (q_words, .inl (cJ, 19, .inr (.inl φf1))), (q_kinds, .inl (cI, 401, .inl (fun _ => 0))), (q_starts, .inl (cI, 401, .inl (fun _ => 0))), (q_values, .inl (cJ, 401, .inr (.inl (fun _ => 0)))), (q_now, .inr (6, [.ref q_now_found, .ref q_now_buoys, .ref q_now_shifted, .ref q_now_status, .ref q_now_goes, .int 0, .int 0])), (q_now_found, .inl (cI, 5, .inl φf7)), (q_now_buoys, .inl (cI, 5, .inl φf9)), (q_now_shifted, .inl (cI, 5, .inl φf11)), (q_now_status, .inl (cI, 6, .inl φf13)), (q_now_goes, .inl (cI, 6, .inl φf15)), (q_trial, .inr (6, [.ref q_trial_found, .ref q_trial_buoys, .ref q_trial_shifted, .ref q_trial_status, .ref q_trial_goes, .int 0, .int 0])), (q_trial_found, .inl (cI, 5, .inl (fun _ => 0))), (q_trial_buoys, .inl (cI, 5, .inl (fun _ => 0))), (q_trial_shifted, .inl (cI, 5, .inl (fun _ => 0))), (q_trial_status, .inl (cI, 6, .inl (fun _ => 0))), (q_trial_goes, .inl (cI, 6, .inl (fun _ => 0))), (q_past, .inr (3, [.ref q_ring, .ref q_slots, .ref q_isHeld, .int 0, .int 0])), (q_ring, .inl (cS, 40, .inr (.inr (.inr (.inr φf3))))), (q_slots, .inl (cS, 3, .inr (.inr (.inr (.inr φf5))))), (q_isHeld, .inl (cZ, 3, .inl (fun _ => 0))), (q_crossing, .inr (0, [.ref q_sound, .ref q_sound_laws_vars])), (q_outlook, .inr (2, [.ref q_sound, .ref q_crossing, .ref q_near, .ref q_far, .ref q_topGuesses, .ref q_topOdds])), (q_near, .inl (cI, 216, .inl (fun _ => 0))), (q_far, .inl (cI, 36, .inl (fun _ => 0))), (q_topGuesses, .inl (cI, 20, .inl (fun _ => 0))), (q_topOdds, .inl (cI, 20, .inl (fun _ => 0))), (q_tellers, .inr (8, [.ref q_sound, .ref q_crossing, .ref q_toldWaves, .ref q_toldThings, .ref q_t_odds, .ref q_belied, .ref q_byLies, .int 0])), (q_toldWaves, .inl (cI, 20, .inl (fun _ => 0))), (q_toldThings, .inl (cI, 20, .inl (fun _ => 0))), (q_t_odds, .inl (cI, 30, .inl (fun _ => 0))), (q_belied, .inl (cI, 30, .inl (fun _ => 0))), (q_byLies, .inl (cI, 4, .inl (fun _ => 0)))] : va_W) ++ wPool cI bb (fun _ => sd0) 43)) :
    ∃ (a b b2 c0 : Nat → Nat) (s : YS), c0 0 = q_G ∧ KST s ∧ (s.x.k.v 0 = 0 ∧ s.x.k.v 17 = -1 ∧ s.x.k.g 31 = φf1 ∧ s.x.k.v 1 = 0 ∧ s.x.k.v 21 = 0) ∧ InvK s.x.k ∧ InvG s.x.g ∧ va_P D vwCl (wY cB cI cJ cZ cS a b b2 c0 bb s) H ∧ va_D A (wY cB cI cJ cZ cS a b b2 c0 bb s) := by
  have hP1 : va_P D vwCl (([(q_G, .inr (10, [.ref q_tape, .ref q_sound, .ref q_reader, .ref q_now, .ref q_trial, .ref q_past, .ref q_crossing, .ref q_outlook, .ref q_tellers])), (q_tape, .inr (7, [.ref q_tape_bytes, .int 0])), (q_tape_bytes, .inl (cB, 2000, .inl (fun _ => 0))), (q_sound, .inr (5, [.ref q_sound_odds, .ref q_sound_oddsSums, .ref q_sound_likely, .ref q_sound_heavy, .ref q_sound_nerve, .ref q_sound_laws, .int 0, .int 0, .int 1, .int 0])), (q_sound_odds, .inl (cI, 30, .inl (fun _ => 0))), (q_sound_oddsSums, .inl (cI, 5, .inl (fun _ => 0))), (q_sound_likely, .inl (cI, 5, .inl (fun _ => 0))), (q_sound_heavy, .inl (cI, 6, .inl (fun _ => 0))), (q_sound_nerve, .inl (cI, 6, .inl (fun _ => 0))), (q_sound_laws, .inr (1, [.ref q_sound_laws_steps, .ref q_sound_laws_partEnds, .ref q_sound_laws_lawStarts, .ref q_sound_laws_partCounts, .ref q_sound_laws_vars, .ref q_sound_laws_stack, .int 4, .int 3, .int 0])), (q_sound_laws_steps, .inl (cI, 404, .inl (upd (upd (upd (upd (fun _ => 0) 0 (-3)) 1 1) 2 1) 3 0))), (q_sound_laws_partEnds, .inl (cI, 52, .inl (upd (upd (upd (upd (fun _ => 0) 0 1) 13 2) 26 3) 39 4))), (q_sound_laws_lawStarts, .inl (cI, 4, .inl (upd (upd (upd (upd (fun _ => 0) 0 0) 1 1) 2 2) 3 3))), (q_sound_laws_partCounts, .inl (cI, 4, .inl (upd (upd (upd (upd (upd (upd (upd (upd (fun _ => 0) 0 0) 0 1) 1 0) 1 1) 2 0) 2 1) 3 0) 3 1))), (q_sound_laws_vars, .inl (cI, 9, .inl (fun _ => 0))), (q_sound_laws_stack, .inl (cI, 16, .inl (fun _ => 0))), (q_reader, .inr (4, [.ref q_tokens, .ref q_draft, .ref q_names, .int 0, .int 0, .int (-1), .int 0, .int 0])), (q_draft, .inr (5, [.ref q_draft_odds, .ref q_draft_oddsSums, .ref q_draft_likely, .ref q_draft_heavy, .ref q_draft_nerve, .ref q_draft_laws, .int 0, .int 0, .int 1, .int 0])), (q_draft_odds, .inl (cI, 30, .inl (fun _ => 0))), (q_draft_oddsSums, .inl (cI, 5, .inl (fun _ => 0))), (q_draft_likely, .inl (cI, 5, .inl (fun _ => 0))), (q_draft_heavy, .inl (cI, 6, .inl (fun _ => 0))), (q_draft_nerve, .inl (cI, 6, .inl (fun _ => 0))), (q_draft_laws, .inr (1, [.ref q_draft_laws_steps, .ref q_draft_laws_partEnds, .ref q_draft_laws_lawStarts, .ref q_draft_laws_partCounts, .ref q_draft_laws_vars, .ref q_draft_laws_stack, .int 4, .int 3, .int 0])), (q_draft_laws_steps, .inl (cI, 404, .inl (upd (upd (upd (upd (fun _ => 0) 0 (-3)) 1 1) 2 1) 3 0))), (q_draft_laws_partEnds, .inl (cI, 52, .inl (upd (upd (upd (upd (fun _ => 0) 0 1) 13 2) 26 3) 39 4))), (q_draft_laws_lawStarts, .inl (cI, 4, .inl (upd (upd (upd (upd (fun _ => 0) 0 0) 1 1) 2 2) 3 3))), (q_draft_laws_partCounts, .inl (cI, 4, .inl (upd (upd (upd (upd (upd (upd (upd (upd (fun _ => 0) 0 0) 0 1) 1 0) 1 1) 2 0) 2 1) 3 0) 3 1))), (q_draft_laws_vars, .inl (cI, 9, .inl (fun _ => 0))), (q_draft_laws_stack, .inl (cI, 16, .inl (fun _ => 0))), (q_names, .inl (cJ, 6, .inr (.inl (fun _ => 0)))), (q_tokens, .inr (9, [.ref q_tape, .ref q_words, .ref q_kinds, .ref q_starts, .ref q_values, .int 0, .long 0])), (q_words, .inl (cJ, 19, .inr (.inl φf1))), (q_kinds, .inl (cI, 401, .inl (fun _ => 0))), (q_starts, .inl (cI, 401, .inl (fun _ => 0))), (q_values, .inl (cJ, 401, .inr (.inl (fun _ => 0)))), (q_now, .inr (6, [.ref q_now_found, .ref q_now_buoys, .ref q_now_shifted, .ref q_now_status, .ref q_now_goes, .int 0, .int 0])), (q_now_found, .inl (cI, 5, .inl φf7)), (q_now_buoys, .inl (cI, 5, .inl φf9)), (q_now_shifted, .inl (cI, 5, .inl φf11)), (q_now_status, .inl (cI, 6, .inl φf13)), (q_now_goes, .inl (cI, 6, .inl φf15)), (q_trial, .inr (6, [.ref q_trial_found, .ref q_trial_buoys, .ref q_trial_shifted, .ref q_trial_status, .ref q_trial_goes, .int 0, .int 0])), (q_trial_found, .inl (cI, 5, .inl (fun _ => 0))), (q_trial_buoys, .inl (cI, 5, .inl (fun _ => 0))), (q_trial_shifted, .inl (cI, 5, .inl (fun _ => 0))), (q_trial_status, .inl (cI, 6, .inl (fun _ => 0))), (q_trial_goes, .inl (cI, 6, .inl (fun _ => 0))), (q_past, .inr (3, [.ref q_ring, .ref q_slots, .ref q_isHeld, .int 0, .int 0])), (q_ring, .inl (cS, 40, .inr (.inr (.inr (.inr (rgP bb)))))), (q_slots, .inl (cS, 3, .inr (.inr (.inr (.inr φf5))))), (q_isHeld, .inl (cZ, 3, .inl (fun _ => 0))), (q_crossing, .inr (0, [.ref q_sound, .ref q_sound_laws_vars])), (q_outlook, .inr (2, [.ref q_sound, .ref q_crossing, .ref q_near, .ref q_far, .ref q_topGuesses, .ref q_topOdds])), (q_near, .inl (cI, 216, .inl (fun _ => 0))), (q_far, .inl (cI, 36, .inl (fun _ => 0))), (q_topGuesses, .inl (cI, 20, .inl (fun _ => 0))), (q_topOdds, .inl (cI, 20, .inl (fun _ => 0))), (q_tellers, .inr (8, [.ref q_sound, .ref q_crossing, .ref q_toldWaves, .ref q_toldThings, .ref q_t_odds, .ref q_belied, .ref q_byLies, .int 0])), (q_toldWaves, .inl (cI, 20, .inl (fun _ => 0))), (q_toldThings, .inl (cI, 20, .inl (fun _ => 0))), (q_t_odds, .inl (cI, 30, .inl (fun _ => 0))), (q_belied, .inl (cI, 30, .inl (fun _ => 0))), (q_byLies, .inl (cI, 4, .inl (fun _ => 0)))] : va_W) ++ wPool cI bb (fun _ => sd0) 43) H := P_setq (i := 49) (q' := (q_ring, .inl (cS, 40, .inr (.inr (.inr (.inr (rgP bb))))))) hP rfl (fun h => at_q h3 h)
  have hD1 : va_D A (([(q_G, .inr (10, [.ref q_tape, .ref q_sound, .ref q_reader, .ref q_now, .ref q_trial, .ref q_past, .ref q_crossing, .ref q_outlook, .ref q_tellers])), (q_tape, .inr (7, [.ref q_tape_bytes, .int 0])), (q_tape_bytes, .inl (cB, 2000, .inl (fun _ => 0))), (q_sound, .inr (5, [.ref q_sound_odds, .ref q_sound_oddsSums, .ref q_sound_likely, .ref q_sound_heavy, .ref q_sound_nerve, .ref q_sound_laws, .int 0, .int 0, .int 1, .int 0])), (q_sound_odds, .inl (cI, 30, .inl (fun _ => 0))), (q_sound_oddsSums, .inl (cI, 5, .inl (fun _ => 0))), (q_sound_likely, .inl (cI, 5, .inl (fun _ => 0))), (q_sound_heavy, .inl (cI, 6, .inl (fun _ => 0))), (q_sound_nerve, .inl (cI, 6, .inl (fun _ => 0))), (q_sound_laws, .inr (1, [.ref q_sound_laws_steps, .ref q_sound_laws_partEnds, .ref q_sound_laws_lawStarts, .ref q_sound_laws_partCounts, .ref q_sound_laws_vars, .ref q_sound_laws_stack, .int 4, .int 3, .int 0])), (q_sound_laws_steps, .inl (cI, 404, .inl (upd (upd (upd (upd (fun _ => 0) 0 (-3)) 1 1) 2 1) 3 0))), (q_sound_laws_partEnds, .inl (cI, 52, .inl (upd (upd (upd (upd (fun _ => 0) 0 1) 13 2) 26 3) 39 4))), (q_sound_laws_lawStarts, .inl (cI, 4, .inl (upd (upd (upd (upd (fun _ => 0) 0 0) 1 1) 2 2) 3 3))), (q_sound_laws_partCounts, .inl (cI, 4, .inl (upd (upd (upd (upd (upd (upd (upd (upd (fun _ => 0) 0 0) 0 1) 1 0) 1 1) 2 0) 2 1) 3 0) 3 1))), (q_sound_laws_vars, .inl (cI, 9, .inl (fun _ => 0))), (q_sound_laws_stack, .inl (cI, 16, .inl (fun _ => 0))), (q_reader, .inr (4, [.ref q_tokens, .ref q_draft, .ref q_names, .int 0, .int 0, .int (-1), .int 0, .int 0])), (q_draft, .inr (5, [.ref q_draft_odds, .ref q_draft_oddsSums, .ref q_draft_likely, .ref q_draft_heavy, .ref q_draft_nerve, .ref q_draft_laws, .int 0, .int 0, .int 1, .int 0])), (q_draft_odds, .inl (cI, 30, .inl (fun _ => 0))), (q_draft_oddsSums, .inl (cI, 5, .inl (fun _ => 0))), (q_draft_likely, .inl (cI, 5, .inl (fun _ => 0))), (q_draft_heavy, .inl (cI, 6, .inl (fun _ => 0))), (q_draft_nerve, .inl (cI, 6, .inl (fun _ => 0))), (q_draft_laws, .inr (1, [.ref q_draft_laws_steps, .ref q_draft_laws_partEnds, .ref q_draft_laws_lawStarts, .ref q_draft_laws_partCounts, .ref q_draft_laws_vars, .ref q_draft_laws_stack, .int 4, .int 3, .int 0])), (q_draft_laws_steps, .inl (cI, 404, .inl (upd (upd (upd (upd (fun _ => 0) 0 (-3)) 1 1) 2 1) 3 0))), (q_draft_laws_partEnds, .inl (cI, 52, .inl (upd (upd (upd (upd (fun _ => 0) 0 1) 13 2) 26 3) 39 4))), (q_draft_laws_lawStarts, .inl (cI, 4, .inl (upd (upd (upd (upd (fun _ => 0) 0 0) 1 1) 2 2) 3 3))), (q_draft_laws_partCounts, .inl (cI, 4, .inl (upd (upd (upd (upd (upd (upd (upd (upd (fun _ => 0) 0 0) 0 1) 1 0) 1 1) 2 0) 2 1) 3 0) 3 1))), (q_draft_laws_vars, .inl (cI, 9, .inl (fun _ => 0))), (q_draft_laws_stack, .inl (cI, 16, .inl (fun _ => 0))), (q_names, .inl (cJ, 6, .inr (.inl (fun _ => 0)))), (q_tokens, .inr (9, [.ref q_tape, .ref q_words, .ref q_kinds, .ref q_starts, .ref q_values, .int 0, .long 0])), (q_words, .inl (cJ, 19, .inr (.inl φf1))), (q_kinds, .inl (cI, 401, .inl (fun _ => 0))), (q_starts, .inl (cI, 401, .inl (fun _ => 0))), (q_values, .inl (cJ, 401, .inr (.inl (fun _ => 0)))), (q_now, .inr (6, [.ref q_now_found, .ref q_now_buoys, .ref q_now_shifted, .ref q_now_status, .ref q_now_goes, .int 0, .int 0])), (q_now_found, .inl (cI, 5, .inl φf7)), (q_now_buoys, .inl (cI, 5, .inl φf9)), (q_now_shifted, .inl (cI, 5, .inl φf11)), (q_now_status, .inl (cI, 6, .inl φf13)), (q_now_goes, .inl (cI, 6, .inl φf15)), (q_trial, .inr (6, [.ref q_trial_found, .ref q_trial_buoys, .ref q_trial_shifted, .ref q_trial_status, .ref q_trial_goes, .int 0, .int 0])), (q_trial_found, .inl (cI, 5, .inl (fun _ => 0))), (q_trial_buoys, .inl (cI, 5, .inl (fun _ => 0))), (q_trial_shifted, .inl (cI, 5, .inl (fun _ => 0))), (q_trial_status, .inl (cI, 6, .inl (fun _ => 0))), (q_trial_goes, .inl (cI, 6, .inl (fun _ => 0))), (q_past, .inr (3, [.ref q_ring, .ref q_slots, .ref q_isHeld, .int 0, .int 0])), (q_ring, .inl (cS, 40, .inr (.inr (.inr (.inr (rgP bb)))))), (q_slots, .inl (cS, 3, .inr (.inr (.inr (.inr φf5))))), (q_isHeld, .inl (cZ, 3, .inl (fun _ => 0))), (q_crossing, .inr (0, [.ref q_sound, .ref q_sound_laws_vars])), (q_outlook, .inr (2, [.ref q_sound, .ref q_crossing, .ref q_near, .ref q_far, .ref q_topGuesses, .ref q_topOdds])), (q_near, .inl (cI, 216, .inl (fun _ => 0))), (q_far, .inl (cI, 36, .inl (fun _ => 0))), (q_topGuesses, .inl (cI, 20, .inl (fun _ => 0))), (q_topOdds, .inl (cI, 20, .inl (fun _ => 0))), (q_tellers, .inr (8, [.ref q_sound, .ref q_crossing, .ref q_toldWaves, .ref q_toldThings, .ref q_t_odds, .ref q_belied, .ref q_byLies, .int 0])), (q_toldWaves, .inl (cI, 20, .inl (fun _ => 0))), (q_toldThings, .inl (cI, 20, .inl (fun _ => 0))), (q_t_odds, .inl (cI, 30, .inl (fun _ => 0))), (q_belied, .inl (cI, 30, .inl (fun _ => 0))), (q_byLies, .inl (cI, 4, .inl (fun _ => 0)))] : va_W) ++ wPool cI bb (fun _ => sd0) 43) := va_D.set (p := 49) (a := q_ring) (e := .inl (cS, 40, .inr (.inr (.inr (.inr (rgP bb)))))) hD rfl
  have hP2 : va_P D vwCl (([(q_G, .inr (10, [.ref q_tape, .ref q_sound, .ref q_reader, .ref q_now, .ref q_trial, .ref q_past, .ref q_crossing, .ref q_outlook, .ref q_tellers])), (q_tape, .inr (7, [.ref q_tape_bytes, .int 0])), (q_tape_bytes, .inl (cB, 2000, .inl (fun _ => 0))), (q_sound, .inr (5, [.ref q_sound_odds, .ref q_sound_oddsSums, .ref q_sound_likely, .ref q_sound_heavy, .ref q_sound_nerve, .ref q_sound_laws, .int 0, .int 0, .int 1, .int 0])), (q_sound_odds, .inl (cI, 30, .inl (fun _ => 0))), (q_sound_oddsSums, .inl (cI, 5, .inl (fun _ => 0))), (q_sound_likely, .inl (cI, 5, .inl (fun _ => 0))), (q_sound_heavy, .inl (cI, 6, .inl (fun _ => 0))), (q_sound_nerve, .inl (cI, 6, .inl (fun _ => 0))), (q_sound_laws, .inr (1, [.ref q_sound_laws_steps, .ref q_sound_laws_partEnds, .ref q_sound_laws_lawStarts, .ref q_sound_laws_partCounts, .ref q_sound_laws_vars, .ref q_sound_laws_stack, .int 4, .int 3, .int 0])), (q_sound_laws_steps, .inl (cI, 404, .inl (upd (upd (upd (upd (fun _ => 0) 0 (-3)) 1 1) 2 1) 3 0))), (q_sound_laws_partEnds, .inl (cI, 52, .inl (upd (upd (upd (upd (fun _ => 0) 0 1) 13 2) 26 3) 39 4))), (q_sound_laws_lawStarts, .inl (cI, 4, .inl (upd (upd (upd (upd (fun _ => 0) 0 0) 1 1) 2 2) 3 3))), (q_sound_laws_partCounts, .inl (cI, 4, .inl (upd (upd (upd (upd (upd (upd (upd (upd (fun _ => 0) 0 0) 0 1) 1 0) 1 1) 2 0) 2 1) 3 0) 3 1))), (q_sound_laws_vars, .inl (cI, 9, .inl (fun _ => 0))), (q_sound_laws_stack, .inl (cI, 16, .inl (fun _ => 0))), (q_reader, .inr (4, [.ref q_tokens, .ref q_draft, .ref q_names, .int 0, .int 0, .int (-1), .int 0, .int 0])), (q_draft, .inr (5, [.ref q_draft_odds, .ref q_draft_oddsSums, .ref q_draft_likely, .ref q_draft_heavy, .ref q_draft_nerve, .ref q_draft_laws, .int 0, .int 0, .int 1, .int 0])), (q_draft_odds, .inl (cI, 30, .inl (fun _ => 0))), (q_draft_oddsSums, .inl (cI, 5, .inl (fun _ => 0))), (q_draft_likely, .inl (cI, 5, .inl (fun _ => 0))), (q_draft_heavy, .inl (cI, 6, .inl (fun _ => 0))), (q_draft_nerve, .inl (cI, 6, .inl (fun _ => 0))), (q_draft_laws, .inr (1, [.ref q_draft_laws_steps, .ref q_draft_laws_partEnds, .ref q_draft_laws_lawStarts, .ref q_draft_laws_partCounts, .ref q_draft_laws_vars, .ref q_draft_laws_stack, .int 4, .int 3, .int 0])), (q_draft_laws_steps, .inl (cI, 404, .inl (upd (upd (upd (upd (fun _ => 0) 0 (-3)) 1 1) 2 1) 3 0))), (q_draft_laws_partEnds, .inl (cI, 52, .inl (upd (upd (upd (upd (fun _ => 0) 0 1) 13 2) 26 3) 39 4))), (q_draft_laws_lawStarts, .inl (cI, 4, .inl (upd (upd (upd (upd (fun _ => 0) 0 0) 1 1) 2 2) 3 3))), (q_draft_laws_partCounts, .inl (cI, 4, .inl (upd (upd (upd (upd (upd (upd (upd (upd (fun _ => 0) 0 0) 0 1) 1 0) 1 1) 2 0) 2 1) 3 0) 3 1))), (q_draft_laws_vars, .inl (cI, 9, .inl (fun _ => 0))), (q_draft_laws_stack, .inl (cI, 16, .inl (fun _ => 0))), (q_names, .inl (cJ, 6, .inr (.inl (fun _ => 0)))), (q_tokens, .inr (9, [.ref q_tape, .ref q_words, .ref q_kinds, .ref q_starts, .ref q_values, .int 0, .long 0])), (q_words, .inl (cJ, 19, .inr (.inl φf1))), (q_kinds, .inl (cI, 401, .inl (fun _ => 0))), (q_starts, .inl (cI, 401, .inl (fun _ => 0))), (q_values, .inl (cJ, 401, .inr (.inl (fun _ => 0)))), (q_now, .inr (6, [.ref q_now_found, .ref q_now_buoys, .ref q_now_shifted, .ref q_now_status, .ref q_now_goes, .int 0, .int 0])), (q_now_found, .inl (cI, 5, .inl φf7)), (q_now_buoys, .inl (cI, 5, .inl φf9)), (q_now_shifted, .inl (cI, 5, .inl φf11)), (q_now_status, .inl (cI, 6, .inl φf13)), (q_now_goes, .inl (cI, 6, .inl φf15)), (q_trial, .inr (6, [.ref q_trial_found, .ref q_trial_buoys, .ref q_trial_shifted, .ref q_trial_status, .ref q_trial_goes, .int 0, .int 0])), (q_trial_found, .inl (cI, 5, .inl (fun _ => 0))), (q_trial_buoys, .inl (cI, 5, .inl (fun _ => 0))), (q_trial_shifted, .inl (cI, 5, .inl (fun _ => 0))), (q_trial_status, .inl (cI, 6, .inl (fun _ => 0))), (q_trial_goes, .inl (cI, 6, .inl (fun _ => 0))), (q_past, .inr (3, [.ref q_ring, .ref q_slots, .ref q_isHeld, .int 0, .int 0])), (q_ring, .inl (cS, 40, .inr (.inr (.inr (.inr (rgP bb)))))), (q_slots, .inl (cS, 3, .inr (.inr (.inr (.inr (slP bb)))))), (q_isHeld, .inl (cZ, 3, .inl (fun _ => 0))), (q_crossing, .inr (0, [.ref q_sound, .ref q_sound_laws_vars])), (q_outlook, .inr (2, [.ref q_sound, .ref q_crossing, .ref q_near, .ref q_far, .ref q_topGuesses, .ref q_topOdds])), (q_near, .inl (cI, 216, .inl (fun _ => 0))), (q_far, .inl (cI, 36, .inl (fun _ => 0))), (q_topGuesses, .inl (cI, 20, .inl (fun _ => 0))), (q_topOdds, .inl (cI, 20, .inl (fun _ => 0))), (q_tellers, .inr (8, [.ref q_sound, .ref q_crossing, .ref q_toldWaves, .ref q_toldThings, .ref q_t_odds, .ref q_belied, .ref q_byLies, .int 0])), (q_toldWaves, .inl (cI, 20, .inl (fun _ => 0))), (q_toldThings, .inl (cI, 20, .inl (fun _ => 0))), (q_t_odds, .inl (cI, 30, .inl (fun _ => 0))), (q_belied, .inl (cI, 30, .inl (fun _ => 0))), (q_byLies, .inl (cI, 4, .inl (fun _ => 0)))] : va_W) ++ wPool cI bb (fun _ => sd0) 43) H := P_setq (i := 50) (q' := (q_slots, .inl (cS, 3, .inr (.inr (.inr (.inr (slP bb))))))) hP1 rfl (fun h => at_q h5 h)
  have hD2 : va_D A (([(q_G, .inr (10, [.ref q_tape, .ref q_sound, .ref q_reader, .ref q_now, .ref q_trial, .ref q_past, .ref q_crossing, .ref q_outlook, .ref q_tellers])), (q_tape, .inr (7, [.ref q_tape_bytes, .int 0])), (q_tape_bytes, .inl (cB, 2000, .inl (fun _ => 0))), (q_sound, .inr (5, [.ref q_sound_odds, .ref q_sound_oddsSums, .ref q_sound_likely, .ref q_sound_heavy, .ref q_sound_nerve, .ref q_sound_laws, .int 0, .int 0, .int 1, .int 0])), (q_sound_odds, .inl (cI, 30, .inl (fun _ => 0))), (q_sound_oddsSums, .inl (cI, 5, .inl (fun _ => 0))), (q_sound_likely, .inl (cI, 5, .inl (fun _ => 0))), (q_sound_heavy, .inl (cI, 6, .inl (fun _ => 0))), (q_sound_nerve, .inl (cI, 6, .inl (fun _ => 0))), (q_sound_laws, .inr (1, [.ref q_sound_laws_steps, .ref q_sound_laws_partEnds, .ref q_sound_laws_lawStarts, .ref q_sound_laws_partCounts, .ref q_sound_laws_vars, .ref q_sound_laws_stack, .int 4, .int 3, .int 0])), (q_sound_laws_steps, .inl (cI, 404, .inl (upd (upd (upd (upd (fun _ => 0) 0 (-3)) 1 1) 2 1) 3 0))), (q_sound_laws_partEnds, .inl (cI, 52, .inl (upd (upd (upd (upd (fun _ => 0) 0 1) 13 2) 26 3) 39 4))), (q_sound_laws_lawStarts, .inl (cI, 4, .inl (upd (upd (upd (upd (fun _ => 0) 0 0) 1 1) 2 2) 3 3))), (q_sound_laws_partCounts, .inl (cI, 4, .inl (upd (upd (upd (upd (upd (upd (upd (upd (fun _ => 0) 0 0) 0 1) 1 0) 1 1) 2 0) 2 1) 3 0) 3 1))), (q_sound_laws_vars, .inl (cI, 9, .inl (fun _ => 0))), (q_sound_laws_stack, .inl (cI, 16, .inl (fun _ => 0))), (q_reader, .inr (4, [.ref q_tokens, .ref q_draft, .ref q_names, .int 0, .int 0, .int (-1), .int 0, .int 0])), (q_draft, .inr (5, [.ref q_draft_odds, .ref q_draft_oddsSums, .ref q_draft_likely, .ref q_draft_heavy, .ref q_draft_nerve, .ref q_draft_laws, .int 0, .int 0, .int 1, .int 0])), (q_draft_odds, .inl (cI, 30, .inl (fun _ => 0))), (q_draft_oddsSums, .inl (cI, 5, .inl (fun _ => 0))), (q_draft_likely, .inl (cI, 5, .inl (fun _ => 0))), (q_draft_heavy, .inl (cI, 6, .inl (fun _ => 0))), (q_draft_nerve, .inl (cI, 6, .inl (fun _ => 0))), (q_draft_laws, .inr (1, [.ref q_draft_laws_steps, .ref q_draft_laws_partEnds, .ref q_draft_laws_lawStarts, .ref q_draft_laws_partCounts, .ref q_draft_laws_vars, .ref q_draft_laws_stack, .int 4, .int 3, .int 0])), (q_draft_laws_steps, .inl (cI, 404, .inl (upd (upd (upd (upd (fun _ => 0) 0 (-3)) 1 1) 2 1) 3 0))), (q_draft_laws_partEnds, .inl (cI, 52, .inl (upd (upd (upd (upd (fun _ => 0) 0 1) 13 2) 26 3) 39 4))), (q_draft_laws_lawStarts, .inl (cI, 4, .inl (upd (upd (upd (upd (fun _ => 0) 0 0) 1 1) 2 2) 3 3))), (q_draft_laws_partCounts, .inl (cI, 4, .inl (upd (upd (upd (upd (upd (upd (upd (upd (fun _ => 0) 0 0) 0 1) 1 0) 1 1) 2 0) 2 1) 3 0) 3 1))), (q_draft_laws_vars, .inl (cI, 9, .inl (fun _ => 0))), (q_draft_laws_stack, .inl (cI, 16, .inl (fun _ => 0))), (q_names, .inl (cJ, 6, .inr (.inl (fun _ => 0)))), (q_tokens, .inr (9, [.ref q_tape, .ref q_words, .ref q_kinds, .ref q_starts, .ref q_values, .int 0, .long 0])), (q_words, .inl (cJ, 19, .inr (.inl φf1))), (q_kinds, .inl (cI, 401, .inl (fun _ => 0))), (q_starts, .inl (cI, 401, .inl (fun _ => 0))), (q_values, .inl (cJ, 401, .inr (.inl (fun _ => 0)))), (q_now, .inr (6, [.ref q_now_found, .ref q_now_buoys, .ref q_now_shifted, .ref q_now_status, .ref q_now_goes, .int 0, .int 0])), (q_now_found, .inl (cI, 5, .inl φf7)), (q_now_buoys, .inl (cI, 5, .inl φf9)), (q_now_shifted, .inl (cI, 5, .inl φf11)), (q_now_status, .inl (cI, 6, .inl φf13)), (q_now_goes, .inl (cI, 6, .inl φf15)), (q_trial, .inr (6, [.ref q_trial_found, .ref q_trial_buoys, .ref q_trial_shifted, .ref q_trial_status, .ref q_trial_goes, .int 0, .int 0])), (q_trial_found, .inl (cI, 5, .inl (fun _ => 0))), (q_trial_buoys, .inl (cI, 5, .inl (fun _ => 0))), (q_trial_shifted, .inl (cI, 5, .inl (fun _ => 0))), (q_trial_status, .inl (cI, 6, .inl (fun _ => 0))), (q_trial_goes, .inl (cI, 6, .inl (fun _ => 0))), (q_past, .inr (3, [.ref q_ring, .ref q_slots, .ref q_isHeld, .int 0, .int 0])), (q_ring, .inl (cS, 40, .inr (.inr (.inr (.inr (rgP bb)))))), (q_slots, .inl (cS, 3, .inr (.inr (.inr (.inr (slP bb)))))), (q_isHeld, .inl (cZ, 3, .inl (fun _ => 0))), (q_crossing, .inr (0, [.ref q_sound, .ref q_sound_laws_vars])), (q_outlook, .inr (2, [.ref q_sound, .ref q_crossing, .ref q_near, .ref q_far, .ref q_topGuesses, .ref q_topOdds])), (q_near, .inl (cI, 216, .inl (fun _ => 0))), (q_far, .inl (cI, 36, .inl (fun _ => 0))), (q_topGuesses, .inl (cI, 20, .inl (fun _ => 0))), (q_topOdds, .inl (cI, 20, .inl (fun _ => 0))), (q_tellers, .inr (8, [.ref q_sound, .ref q_crossing, .ref q_toldWaves, .ref q_toldThings, .ref q_t_odds, .ref q_belied, .ref q_byLies, .int 0])), (q_toldWaves, .inl (cI, 20, .inl (fun _ => 0))), (q_toldThings, .inl (cI, 20, .inl (fun _ => 0))), (q_t_odds, .inl (cI, 30, .inl (fun _ => 0))), (q_belied, .inl (cI, 30, .inl (fun _ => 0))), (q_byLies, .inl (cI, 4, .inl (fun _ => 0)))] : va_W) ++ wPool cI bb (fun _ => sd0) 43) := va_D.set (p := 50) (a := q_slots) (e := .inl (cS, 3, .inr (.inr (.inr (.inr (slP bb)))))) hD1 rfl
  exact ⟨(fun k => [q_tape, q_tape_bytes, q_sound, q_sound_odds, q_sound_oddsSums, q_sound_likely, q_sound_heavy, q_sound_nerve, q_sound_laws, q_sound_laws_steps, q_sound_laws_partEnds, q_sound_laws_lawStarts, q_sound_laws_partCounts, q_sound_laws_vars, q_sound_laws_stack, q_draft, q_draft_odds, q_draft_oddsSums, q_draft_likely, q_draft_heavy, q_draft_nerve, q_draft_laws, q_draft_laws_steps, q_draft_laws_partEnds, q_draft_laws_lawStarts, q_draft_laws_partCounts, q_draft_laws_vars, q_draft_laws_stack, q_reader, q_names, q_tokens, q_words, q_kinds, q_starts, q_values, q_crossing, q_outlook, q_near, q_far, q_topGuesses, q_topOdds, q_tellers, q_toldWaves, q_toldThings, q_t_odds, q_belied, q_byLies].getD k 0), (fun k => [q_now, q_now_found, q_now_buoys, q_now_shifted, q_now_status, q_now_goes].getD k 0), (fun k => [q_trial, q_trial_found, q_trial_buoys, q_trial_shifted, q_trial_status, q_trial_goes].getD k 0), (fun k => [q_G, q_past, q_ring, q_slots, q_isHeld].getD k 0), YS.mk (XS.mk gs0 sd0 ((fun _ => 0, fun k => [φf7, φf9, φf11, φf13, φf15].getD k (fun _ => 0)) : SD) ((kvE, kfE, va_up (fun _ _ => 0) 31 φf1, fun _ => 0) : KS)) (fun _ => sd0), rfl, ⟨⟨rfl, rfl, rfl, rfl, rfl⟩, kf_law, ⟨fun w hw => ⟨hn0 w hw, hn1 w hw, hn2 w hw⟩, fun p hp => ⟨hn3 p hp, hn4 p hp⟩, rfl, rfl⟩, ⟨rfl, rfl, fun _ _ => rfl⟩⟩, ⟨rfl, rfl, rfl, rfl, rfl⟩, ⟨fun k => inv_kv k, fun k j => inv_kf k j⟩, inv_gs0, hP2.part [0, 48, 49, 50, 51, 42, 43, 44, 45, 46, 47, 36, 37, 38, 39, 40, 41, 1, 2, 3, 4, 5, 6, 7, 8, 9, 10, 11, 12, 13, 14, 15, 17, 18, 19, 20, 21, 22, 23, 24, 25, 26, 27, 28, 29, 16, 30, 31, 32, 33, 34, 35, 52, 53, 54, 55, 56, 57, 58, 59, 60, 61, 62, 63] rfl, hD2.part [0, 48, 49, 50, 51, 42, 43, 44, 45, 46, 47, 36, 37, 38, 39, 40, 41, 1, 2, 3, 4, 5, 6, 7, 8, 9, 10, 11, 12, 13, 14, 15, 17, 18, 19, 20, 21, 22, 23, 24, 25, 26, 27, 28, 29, 16, 30, 31, 32, 33, 34, 35, 52, 53, 54, 55, 56, 57, 58, 59, 60, 61, 62, 63] (by decide +kernel) rfl⟩
end
