/-! ===== from the constructor's cells to the state machine's world; calls beside other cells; hold's answers ===== -/
theorem arrV_cg {cI : ClassId} {N : Nat} {f g : Nat → Value} (h : ∀ j, j < N → f j = g j) : arrV cI N f = arrV cI N g := by
  have e : (fun j : Fin N => f j.val) = (fun j : Fin N => g j.val) := funext (fun j => h j.val j.isLt)
  unfold arrV
  rw [e]
theorem at_q {D : va_G} {cl : List vw_C} {a n : Nat} {cA : ClassId} {f g : Nat → Option Nat} {H : Heap} (h : ∀ k, k < n → f k = g k) (x : va_at D cl (a, .inl (cA, n, .inr (.inr (.inr (.inr f))))) H) : va_at D cl (a, .inl (cA, n, .inr (.inr (.inr (.inr g))))) H := by
  have x : H[a]? = some (vp_cell cA (n, .inr (.inr (.inr (.inr f))))) := x
  show H[a]? = some (vp_cell cA (n, .inr (.inr (.inr (.inr g)))))
  rw [x, vp_cell_q, vp_cell_q, arrV_cg (fun j hj => by rw [h j hj])]
theorem P_setq {D : va_G} {cl : List vw_C} {w : va_W} {i : Nat} {q q' : Nat × va_E} {H : Heap} (h : va_P D cl w H) (hi : w[i]? = some q) (hq : va_at D cl q H → va_at D cl q' H) : va_P D cl (w.set i q') H := by
  intro k x hk
  rw [List.getElem?_set] at hk
  split at hk
  · split at hk
    · cases hk; exact hq (h i q hi)
    · cases hk
  · exact h k x hk
theorem P_left {D : va_G} {cl : List vw_C} {X Y : va_W} {H : Heap} (h : va_P D cl (X ++ Y) H) : va_P D cl X H := fun k q hk => h k q (by rw [List.getElem?_append_left (List.getElem?_eq_some_iff.mp hk).1]; exact hk)
theorem D_left {A : Nat → Prop} {X Y : va_W} (h : va_D A (X ++ Y)) : va_D A X := ⟨fun i j p q hi hj e => h.1 i j p q (by rw [List.getElem?_append_left (List.getElem?_eq_some_iff.mp hi).1]; exact hi) (by rw [List.getElem?_append_left (List.getElem?_eq_some_iff.mp hj).1]; exact hj) e, fun k q hk => h.2 k q (by rw [List.getElem?_append_left (List.getElem?_eq_some_iff.mp hk).1]; exact hk)⟩
theorem sw2P {D : va_G} {cl : List vw_C} {X Y : va_W} {H : Heap} (h : va_P D cl (X ++ Y) H) : va_P D cl (Y ++ X) H := (show va_P D cl (([] ++ X) ++ Y) H from h).swap
theorem sw2D {A : Nat → Prop} {X Y : va_W} (h : va_D A (X ++ Y)) : va_D A (Y ++ X) := (show va_D A (([] ++ X) ++ Y) from h).swap
theorem sw1P {D : va_G} {cl : List vw_C} {R X Y : va_W} {H : Heap} (h : va_P D cl (R ++ (X ++ Y)) H) : va_P D cl (X ++ (Y ++ R)) H := by rw [← List.append_assoc]; exact sw2P h
theorem sw1D {A : Nat → Prop} {R X Y : va_W} (h : va_D A (R ++ (X ++ Y))) : va_D A (X ++ (Y ++ R)) := by rw [← List.append_assoc]; exact sw2D h
theorem sw3P {D : va_G} {cl : List vw_C} {R X Y : va_W} {H : Heap} (h : va_P D cl (X ++ (Y ++ R)) H) : va_P D cl (R ++ (X ++ Y)) H := by rw [← List.append_assoc] at h; exact sw2P h
theorem sw3D {A : Nat → Prop} {R X Y : va_W} (h : va_D A (X ++ (Y ++ R))) : va_D A (R ++ (X ++ Y)) := by rw [← List.append_assoc] at h; exact sw2D h
theorem range_all (X : va_W) : (List.range X.length).map (fun i => X[i]?) = X.map some := by
  apply List.ext_getElem?
  intro i
  rw [List.getElem?_map, List.getElem?_map]
  by_cases h : i < X.length
  · rw [List.getElem?_range h, List.getElem?_eq_getElem h]
    show some X[i]? = some (some X[i])
    rw [List.getElem?_eq_getElem h]
  · rw [List.getElem?_eq_none (by rw [List.length_range]; omega), List.getElem?_eq_none (by omega)]
    rfl
section QW
variable {p : Program} {l : Launch} {e : Env} {R : Room} {s : State} {m : MethodId} {args : Array Value} {below : List Frame} {meth : Method} {c : Code} {H H0 : Heap} {locs : List Loc} {cells slots : Nat} {Q : State → Prop} {cc : ByteArray} {pc nL : Nat} {ls : Array Slot} {rest : List Value} {D : va_G} {tys : List (ClassId × FieldType)} {A : Nat → Prop}
theorem q_goiW {post : Int32 → va_W → Prop} {a : Array Value} {mc ms : Nat} {st : List Value} {X pl : va_W} (hr : va_Run p l e R s m args below meth c H locs cells slots mc ms (F0 m pc ls st) rest (va_Qi post (at_W D tys (va_A X H.size)) (va_A X H.size) a) (va_A X H.size)) (hP : va_P D vwCl (X ++ pl) H) (hD : va_D A (X ++ pl)) (hS : va_S A H0 H locs) (hA : ∀ q, H0.size ≤ q → A q)
    (kk : ∀ (r : Int32) (w1 : va_W) (H1 : Heap) (locs1 : List Loc), post r w1 → va_P D vwCl (w1 ++ pl) H1 → va_D A (w1 ++ pl) → va_S A H0 H1 locs1 → W p l e R s m args below meth c H1 locs1 (cells + mc) (slots + ms) Q (F0 m (pc + 3) ls (.int r :: rest))) : W p l e R s m args below meth c H locs cells slots Q (F0 m pc ls st) :=
  q_goiT (wr := []) hr hP hD hS hA (List.range X.length) [] (range_all X) rfl rfl (fun i hi => by simp at hi) (fun r w1 H1 locs1 h1 hP1 hD1 hS1 => kk r w1 H1 locs1 h1 hP1 hD1 hS1)
end QW
theorem k_hold_ans {s s' : YS} {x r : Int32} (h : kX10_hold s x = some (r, s')) : (r = 1 ∧ 0 ≤ x.toInt ∧ x.toInt < 3) ∨ (r = 0 ∧ (x.toInt < 0 ∨ 3 ≤ x.toInt)) := by
  unfold kX10_hold at h
  obtain ⟨r2, s1, h1, h⟩ := bindI_inv h
  obtain ⟨s3, _, h⟩ := letS_inv h
  obtain ⟨_, h⟩ := guard_inv h
  have e : r2 = r := by cases h; rfl
  rw [← e]
  clear h e
  unfold kX3_keepIn at h1
  by_cases c1 : x < 0
  · have h1 := if_p h1 c1
    have c1 := tn_lt (b := 0) rfl (by decide) c1
    cases h1
    exact Or.inr ⟨rfl, Or.inl c1⟩
  · have h1 := if_n h1 c1
    have c1 := tn_nlt (b := 0) rfl (by decide) c1
    by_cases c2 : x < 3
    · have h1 := if_p h1 c2
      have c2 := tn_lt (b := 3) rfl (by decide) c2
      obtain ⟨_, h1⟩ := guard_inv h1
      obtain ⟨s4, _, h1⟩ := bindP_inv h1
      obtain ⟨s5, _, h1⟩ := letS_inv h1
      obtain ⟨_, h1⟩ := guard_inv h1
      obtain ⟨s8, _, h1⟩ := letS_inv h1
      cases h1
      exact Or.inl ⟨rfl, c1, c2⟩
    · have h1 := if_n h1 c2
      have c2 := tn_nlt (b := 3) rfl (by decide) c2
      cases h1
      exact Or.inr ⟨rfl, Or.inr c2⟩
theorem r_hold20_ans {x1 : Int32} : ∀ (n : Nat) (s : RS) (x2 r : Int32) (s' : RS), r_hold_20L n s x1 x2 = some (r, s') → r = 1 := by
  intro n
  induction n with
  | zero => intro s x2 r s' h; cases h
  | succ n ih =>
    intro s x2 r s' h
    have h : r_hold_20 (r_hold_20L n) s x1 x2 = some (r, s') := h
    unfold r_hold_20 at h
    by_cases c : 29 ≤ x2
    · have h := if_p h c
      cases h
      rfl
    · have h := if_n h c
      obtain ⟨_, h⟩ := guard_inv h
      obtain ⟨_, h⟩ := guard_inv h
      obtain ⟨s4, _, h⟩ := letS_inv h
      exact ih _ _ _ _ h
theorem r_hold_ans {s s' : RS} {x r : Int32} (h : r_hold s x = some (r, s')) : (r = 1 ∧ 0 ≤ x.toInt ∧ x.toInt < 3) ∨ (r = 0 ∧ (x.toInt < 0 ∨ 3 ≤ x.toInt)) := by
  unfold r_hold at h
  obtain ⟨r1, h1, h⟩ := bindP_inv h
  unfold r_in at h1
  have z1 : ¬ (1 : Int32) = 0 := by decide
  by_cases c1 : x < 0
  · have h1 := if_p h1 c1
    have c1 := tn_lt (b := 0) rfl (by decide) c1
    cases h1
    have h := if_p h rfl
    cases h
    exact Or.inr ⟨rfl, Or.inl c1⟩
  · have h1 := if_n h1 c1
    have c1 := tn_nlt (b := 0) rfl (by decide) c1
    by_cases c2 : 2 < x
    · have h1 := if_p h1 c2
      have c2 := tn_lt (a := 2) (by decide) rfl c2
      cases h1
      have h := if_p h rfl
      cases h
      exact Or.inr ⟨rfl, Or.inr (by omega)⟩
    · have h1 := if_n h1 c2
      have c2 := tn_nlt (a := 2) (by decide) rfl c2
      cases h1
      have h := if_n h z1
      obtain ⟨_, h⟩ := guard_inv h
      obtain ⟨s4, _, h⟩ := letS_inv h
      exact Or.inl ⟨r_hold20_ans _ _ _ _ _ h, c1, by omega⟩
theorem hold_same {s s' : YS} {z z' : RS} {x r1 r2 : Int32} (h1 : kX10_hold s x = some (r1, s')) (h2 : r_hold z x = some (r2, z')) : r1 = r2 := by
  rcases k_hold_ans h1 with ⟨e1, g1⟩ | ⟨e1, g1⟩ <;> rcases r_hold_ans h2 with ⟨e2, g2⟩ | ⟨e2, g2⟩
  · rw [e1, e2]
  · omega
  · omega
  · rw [e1, e2]
def ks0 : KS := (fun _ => 0, fun _ _ => 0, fun _ _ => 0, fun _ => 0)
theorem inv_ks0 : InvK ks0 := by
  refine ⟨fun k => ?_, fun k j => ?_⟩
  · show loVK k ≤ 0 ∧ 0 ≤ hiVK k
    unfold loVK hiVK
    repeat' split
    all_goals omega
  · show loFK k ≤ 0 ∧ 0 ≤ hiFK k
    unfold loFK hiFK
    repeat' split
    all_goals omega
def gs0 : GS := (fun _ => 0, fun _ _ => 0)
theorem inv_gs0 : InvG gs0 := by
  refine ⟨fun k => ?_, fun k j => ?_⟩
  · show loVG k ≤ 0 ∧ 0 ≤ hiVG k
    unfold loVG hiVG
    repeat' split
    all_goals omega
  · show loFG k ≤ 0 ∧ 0 ≤ hiFG k
    unfold loFG hiFG
    omega
/-! ===== the tape: feed, back and read on both sides ===== -/
theorem Ok.both {α : Type} {o : Option α} {P Q : α → Prop} (h1 : Ok o P) (h2 : Ok o Q) : Ok o (fun y => P y ∧ Q y) := by
  obtain ⟨y, e1, p⟩ := h1
  obtain ⟨y', e2, q⟩ := h2
  rw [e1] at e2
  cases e2
  exact ⟨y, e1, p, q⟩
theorem say_add_L (x1 : Int32) : ∀ (m n : Nat) (s : KS) (x2 : Int32), n < m → n ≤ 4 → x2.toInt = 8 * (n : Int) - 8 → InvK s → (s.v 0).toInt + (n : Int) ≤ 2000 → Ok (kX7_addFour_3L m s x1 x2) (fun y => InvK y ∧ (y.v 0).toInt = (s.v 0).toInt + (n : Int)) := by
  intro m
  induction m with
  | zero => intro n s x2 h; omega
  | succ m ih =>
    intro n s x2 hm hn hx hI hv
    have h0 : 0 ≤ (s.v 0).toInt ∧ (s.v 0).toInt ≤ 2000 := hI.1 0
    show Ok (kX7_addFour_3 (kX7_addFour_3L m) s x1 x2) _
    unfold kX7_addFour_3
    refine ok_ite (fun c => ?_) (fun c => ?_)
    · have c := tn_lt (b := 0) rfl (by decide) c
      exact ok_some ⟨hI, by omega⟩
    · have c := tn_nlt (b := 0) rfl (by decide) c
      refine ok_ite (fun c2 => ?_) (fun c2 => ?_)
      · have c2 := tn_le (a := 2000) (by decide) rfl c2
        omega
      · refine ok_grd (vpb_ok (by omega) (by omega)) ?_
        refine ok_let (fun s4 hs4 => ?_)
        have I4 : InvK s4 := by rw [← hs4]; exact hI.sfF (k := 1) rfl rfl
        have e4 : s4.v 0 = s.v 0 := by rw [← hs4]; rfl
        refine ok_let (fun s6 hs6 => ?_)
        have a : ((s.v 0) + 1).toInt = (s.v 0).toInt + 1 := tn_add rfl (by decide) (by omega) (by omega)
        have I6 : InvK s6 := by rw [← hs6, e4]; exact I4.sv (k := 0) (show (0 : Int) ≤ ((s.v 0) + 1).toInt by omega) (show ((s.v 0) + 1).toInt ≤ (2000 : Int) by omega)
        have e6 : s6.v 0 = (s.v 0) + 1 := by rw [← hs6, ← e4]; rfl
        unfold kX7_addFour_42
        have b : (x2 + (-8)).toInt = x2.toInt + (-8) := tn_add rfl (by decide) (by omega) (by omega)
        generalize x2 + (-8) = q at b ⊢
        obtain ⟨n', rfl⟩ : ∃ n', n = n' + 1 := ⟨n - 1, by omega⟩
        refine ok_weak (ih n' s6 q (by omega) (by omega) (by omega) I6 (by rw [e6, a]; omega)) (fun y hy => ⟨hy.1, ?_⟩)
        rw [hy.2, e6, a]
        omega
theorem say_add (s : KS) (x : Int32) (hI : InvK s) (h : (s.v 0).toInt ≤ 1996) : Ok (kX7_addFour s x) (fun y => InvK y ∧ (y.v 0).toInt = (s.v 0).toInt + 4) := by
  unfold kX7_addFour
  exact say_add_L x fu 4 s 24 (by unfold fu; omega) (by omega) (by decide) hI (by omega)
theorem say_feed (s : XS) (x1 x2 x3 x4 x5 : Int32) (hI : InvK s.k) : Ok (kX10_feed s x1 x2 x3 x4 x5) (fun y => ((s.k.v 0).toInt ≤ 1980 ∧ (y.2.k.v 0).toInt = (s.k.v 0).toInt + 20 ∧ y.1.toInt = (s.k.v 0).toInt + 20) ∨ (1980 < (s.k.v 0).toInt ∧ (y.2.k.v 0).toInt = (s.k.v 0).toInt ∧ y.1.toInt = -1)) := by
  have h0 : 0 ≤ (s.k.v 0).toInt ∧ (s.k.v 0).toInt ≤ 2000 := hI.1 0
  have a : (2000 - (s.k.v 0)).toInt = 2000 - (s.k.v 0).toInt := tn_sub (by decide) rfl (by omega) (by omega)
  unfold kX10_feed
  refine ok_bindI (P := fun y => y.2 = s.k ∧ ((y.1 = 0 ∧ 1980 < (s.k.v 0).toInt) ∨ (y.1 = 1 ∧ (s.k.v 0).toInt ≤ 1980))) ?_ (fun r2 s1 h => ?_)
  · unfold kX7_hasRoomFor
    refine ok_ite (fun c => ok_some ⟨rfl, Or.inl ⟨rfl, ?_⟩⟩) (fun c => ok_some ⟨rfl, Or.inr ⟨rfl, ?_⟩⟩)
    · have c := tn_lt (b := 20) rfl (by decide) c
      omega
    · have c := tn_nlt (b := 20) rfl (by decide) c
      omega
  · obtain ⟨e1, hh⟩ := h
    have e1 : s1 = s.k := e1
    refine ok_let (fun s3 hs3 => ?_)
    have e3 : s3.k = s.k := by rw [← hs3, ← e1]; rfl
    rcases hh with ⟨e, c⟩ | ⟨e, c⟩
    · have e : r2 = 0 := e
      rw [e, if_pos rfl]
      exact ok_some (Or.inr ⟨c, by rw [← e3], by show (-1 : Int32).toInt = -1; decide⟩)
    · have e : r2 = 1 := e
      rw [e, if_neg z_one]
      have I3 : InvK s3.k := by rw [e3]; exact hI
      have v3 : (s3.k.v 0).toInt = (s.k.v 0).toInt := by rw [e3]
      refine ok_bindP (say_add s3.k x1 I3 (by omega)) (fun s6 h6 => ?_)
      refine ok_let (fun s7 hs7 => ?_)
      have e7 : s7.k = s6 := by rw [← hs7]; rfl
      refine ok_bindP (say_add s7.k x2 (by rw [e7]; exact h6.1) (by rw [e7]; omega)) (fun s9 h9 => ?_)
      refine ok_let (fun s10 hs10 => ?_)
      have e10 : s10.k = s9 := by rw [← hs10]; rfl
      have w9 := h9.2
      rw [e7] at w9
      refine ok_bindP (say_add s10.k x3 (by rw [e10]; exact h9.1) (by rw [e10]; omega)) (fun s12 h12 => ?_)
      refine ok_let (fun s13 hs13 => ?_)
      have e13 : s13.k = s12 := by rw [← hs13]; rfl
      have w12 := h12.2
      rw [e10] at w12
      refine ok_bindP (say_add s13.k x4 (by rw [e13]; exact h12.1) (by rw [e13]; omega)) (fun s15 h15 => ?_)
      refine ok_let (fun s16 hs16 => ?_)
      have e16 : s16.k = s15 := by rw [← hs16]; rfl
      have w15 := h15.2
      rw [e13] at w15
      refine ok_bindP (say_add s16.k x5 (by rw [e16]; exact h15.1) (by rw [e16]; omega)) (fun s18 h18 => ?_)
      refine ok_let (fun s19 hs19 => ?_)
      have e19 : s19.k = s18 := by rw [← hs19]; rfl
      have w18 := h18.2
      rw [e16] at w18
      have w6 := h6.2
      have fin : (s19.k.v 0).toInt = (s.k.v 0).toInt + 20 := by rw [e19]; omega
      exact ok_some (Or.inl ⟨c, fin, fin⟩)
theorem say_back (s : XS) (x : Int32) (hI : InvK s.k) : Ok (kX10_back s x) (fun y => ((x.toInt < 0 ∨ (s.k.v 0).toInt < x.toInt) ∧ y.1.toInt = -1 ∧ (y.2.k.v 0).toInt = (s.k.v 0).toInt) ∨ (0 ≤ x.toInt ∧ x.toInt ≤ (s.k.v 0).toInt ∧ y.1.toInt = (s.k.v 0).toInt - x.toInt ∧ (y.2.k.v 0).toInt = (s.k.v 0).toInt - x.toInt)) := by
  have h0 : 0 ≤ (s.k.v 0).toInt ∧ (s.k.v 0).toInt ≤ 2000 := hI.1 0
  have m1 : (-1 : Int32).toInt = -1 := by decide
  unfold kX10_back
  refine ok_ite (fun c => ?_) (fun c => ?_)
  · have c := tn_lt (b := 0) rfl (by decide) c
    exact ok_some (Or.inl ⟨Or.inl c, m1, rfl⟩)
  · have c := tn_nlt (b := 0) rfl (by decide) c
    refine ok_ite (fun c2 => ?_) (fun c2 => ?_)
    · have c2 := ti_le c2
      refine ok_let (fun s3 hs3 => ?_)
      have a : ((s.k.v 0) - x).toInt = (s.k.v 0).toInt - x.toInt := ti_sub (by omega) (by omega)
      have e : s3.k.v 0 = (s.k.v 0) - x := by rw [← hs3]; rfl
      have e' : (s3.k.v 0).toInt = (s.k.v 0).toInt - x.toInt := by rw [e]; exact a
      exact ok_some (Or.inr ⟨c, c2, e', e'⟩)
    · have c2 := ti_nle c2
      exact ok_some (Or.inl ⟨Or.inr c2, m1, rfl⟩)
theorem say_rback (s : RS) (x : Int32) (hI : InvR s) : Ok (r_back s x) (fun y => ((x.toInt < 0 ∨ (s.v 2).toInt < x.toInt) ∧ y.1.toInt = -1 ∧ (y.2.v 2).toInt = (s.v 2).toInt) ∨ (0 ≤ x.toInt ∧ x.toInt ≤ (s.v 2).toInt ∧ y.1.toInt = (s.v 2).toInt - x.toInt ∧ (y.2.v 2).toInt = (s.v 2).toInt - x.toInt)) := by
  have h0 : 0 ≤ (s.v 2).toInt ∧ (s.v 2).toInt ≤ 2000 := hI.1 2
  have m1 : (-1 : Int32).toInt = -1 := by decide
  unfold r_back
  refine ok_ite (fun c => ?_) (fun c => ?_)
  · have c := tn_lt (b := 0) rfl (by decide) c
    exact ok_some (Or.inl ⟨Or.inl c, m1, rfl⟩)
  · have c := tn_nlt (b := 0) rfl (by decide) c
    refine ok_ite (fun c2 => ?_) (fun c2 => ?_)
    · have c2 := ti_le c2
      refine ok_let (fun s3 hs3 => ?_)
      have a : ((s.v 2) - x).toInt = (s.v 2).toInt - x.toInt := ti_sub (by omega) (by omega)
      have e : s3.v 2 = (s.v 2) - x := by rw [← hs3]; rfl
      have e' : (s3.v 2).toInt = (s.v 2).toInt - x.toInt := by rw [e]; exact a
      exact ok_some (Or.inr ⟨c, c2, e', e'⟩)
    · have c2 := ti_nle c2
      exact ok_some (Or.inl ⟨Or.inr c2, m1, rfl⟩)
/-- the two tapes are as long as each other -/
def TP (y : YS) (z : RS) : Prop := (y.x.k.v 0).toInt = (z.v 2).toInt
theorem feed_same {y y' : XS} {z z' : RS} {x1 x2 x3 x4 x5 r1 r2 : Int32} (hK : InvK y.k) (hR : InvR z) (h : (y.k.v 0).toInt = (z.v 2).toInt) (h1 : kX10_feed y x1 x2 x3 x4 x5 = some (r1, y')) (h2 : r_feed z x1 x2 x3 x4 x5 = some (r2, z')) : r1 = r2 ∧ (y'.k.v 0).toInt = (z'.v 2).toInt := by
  obtain ⟨⟨q1, w1⟩, e1, p1⟩ := say_feed y x1 x2 x3 x4 x5 hK
  obtain ⟨⟨q2, w2⟩, e2, p2⟩ := feed_says z x1 x2 x3 x4 x5 hR
  rw [h1] at e1
  rw [h2] at e2
  cases e1
  cases e2
  have p2 := p2.2.2
  have p1 : ((y.k.v 0).toInt ≤ 1980 ∧ (y'.k.v 0).toInt = (y.k.v 0).toInt + 20 ∧ r1.toInt = (y.k.v 0).toInt + 20) ∨ (1980 < (y.k.v 0).toInt ∧ (y'.k.v 0).toInt = (y.k.v 0).toInt ∧ r1.toInt = -1) := p1
  have p2 : ((z.v 2).toInt ≤ 1980 ∧ (z'.v 2).toInt = (z.v 2).toInt + 20 ∧ r2.toInt = (z.v 2).toInt + 20) ∨ (1980 < (z.v 2).toInt ∧ (z'.v 2).toInt = (z.v 2).toInt ∧ r2.toInt = -1) := p2
  refine ⟨Int32.toInt_inj.mp ?_, ?_⟩
  · rcases p1 with p1 | p1 <;> rcases p2 with p2 | p2 <;> omega
  · rcases p1 with p1 | p1 <;> rcases p2 with p2 | p2 <;> omega
theorem back_same {y y' : XS} {z z' : RS} {x r1 r2 : Int32} (hK : InvK y.k) (hR : InvR z) (h : (y.k.v 0).toInt = (z.v 2).toInt) (h1 : kX10_back y x = some (r1, y')) (h2 : r_back z x = some (r2, z')) : r1 = r2 ∧ (y'.k.v 0).toInt = (z'.v 2).toInt := by
  obtain ⟨⟨q1, w1⟩, e1, p1⟩ := say_back y x hK
  obtain ⟨⟨q2, w2⟩, e2, p2⟩ := say_rback z x hR
  rw [h1] at e1
  rw [h2] at e2
  cases e1
  cases e2
  have p1 : ((x.toInt < 0 ∨ (y.k.v 0).toInt < x.toInt) ∧ r1.toInt = -1 ∧ (y'.k.v 0).toInt = (y.k.v 0).toInt) ∨ (0 ≤ x.toInt ∧ x.toInt ≤ (y.k.v 0).toInt ∧ r1.toInt = (y.k.v 0).toInt - x.toInt ∧ (y'.k.v 0).toInt = (y.k.v 0).toInt - x.toInt) := p1
  have p2 : ((x.toInt < 0 ∨ (z.v 2).toInt < x.toInt) ∧ r2.toInt = -1 ∧ (z'.v 2).toInt = (z.v 2).toInt) ∨ (0 ≤ x.toInt ∧ x.toInt ≤ (z.v 2).toInt ∧ r2.toInt = (z.v 2).toInt - x.toInt ∧ (z'.v 2).toInt = (z.v 2).toInt - x.toInt) := p2
  refine ⟨Int32.toInt_inj.mp ?_, ?_⟩
  · rcases p1 with p1 | p1 <;> rcases p2 with p2 | p2 <;> omega
  · rcases p1 with p1 | p1 <;> rcases p2 with p2 | p2 <;> omega
theorem read_zero {y y' : XS} {r : Int32} (hK : InvK y.k) (h : kX10_read y = some (r, y')) : y'.k.v 0 = 0 := by
  unfold kX10_read at h
  obtain ⟨r2, s1, h1, h⟩ := bindI_inv h
  obtain ⟨s3, e3, h⟩ := letS_inv h
  obtain ⟨s5, e5, h⟩ := letS_inv h
  obtain ⟨⟨q1, w1⟩, e1, p1⟩ := ok_kX4_readTape y.k hK
  rw [h1] at e1
  cases e1
  have I1 : InvK s1 := p1.1
  have v5 : s5.k.v 0 = 0 := by rw [← e5]; rfl
  have I5 : InvK s5.k := by
    rw [← e5, ← e3]
    exact I1.sv (k := 0) (show (0 : Int) ≤ (0 : Int32).toInt by decide) (show (0 : Int32).toInt ≤ (2000 : Int) by decide)
  by_cases c : r2 = 0
  · have h := if_p h c
    obtain ⟨s8, h8, h⟩ := bindP_inv h
    obtain ⟨w8, e8, p8⟩ := ok_kX5_copyFrom s5.k I5
    rw [h8] at e8
    cases e8
    have v8 : s8.v 0 = 0 := (p8.2.1 0 (by decide)).trans v5
    obtain ⟨s9, e9, h⟩ := letS_inv h
    obtain ⟨s11, h11, h⟩ := bindP_inv h
    obtain ⟨s12, e12, h⟩ := letS_inv h
    obtain ⟨s14, h14, h⟩ := bindP_inv h
    obtain ⟨s15, e15, h⟩ := letS_inv h
    obtain ⟨s17, e17, h⟩ := letS_inv h
    have e : s17 = y' := by cases h; rfl
    rw [← e, ← e17, ← e15, ← e12, ← e9]
    exact v8
  · have h := if_n h c
    have e : s5 = y' := by cases h; rfl
    rw [← e]
    exact v5
theorem tp_keep {a b c d : Int32} (h1 : a = b) (h2 : c = d) (h : b.toInt = d.toInt) : a.toInt = c.toInt := by rw [h1, h2]; exact h
theorem tp_zero {a b : Int32} (h1 : a = 0) (h2 : b = 0) : a.toInt = b.toInt := by rw [h1, h2]
