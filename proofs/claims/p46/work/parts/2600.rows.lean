/-! ===== from the constructor's cells to the state machine's world; calls beside other cells; hold's answers ===== -/
theorem arrV_cg {cI : ClassId} {N : Nat} {f g : Nat → Value} (h : ∀ j, j < N → f j = g j) : arrV cI N f = arrV cI N g := by
  have e : (fun j : Fin N => f j.val) = (fun j : Fin N => g j.val) := funext (fun j => h j.val j.isLt)
  unfold arrV
  rw [e]
theorem at_q {D : va_G} {cl : List vw_C} {a n : Nat} {cA : ClassId} {f g : Nat → Option Nat} {H : Heap} (h : ∀ k, k < n → f k = g k) (x : va_at D cl (a, .inl (cA, n, .inr (.inr (.inr (.inr f))))) H) : va_at D cl (a, .inl (cA, n, .inr (.inr (.inr (.inr g))))) H := by
  have x : H[a]? = some (vp_cell cA (n, .inr (.inr (.inr (.inr f))))) := x
  show H[a]? = some (vp_cell cA (n, .inr (.inr (.inr (.inr g)))))
  rw [x, vp_cell_q, vp_cell_q, arrV_cg (fun j hj => by rw [h j hj])]
theorem P_setq {D : va_G} {cl : List vw_C} {w : va_W} {i : Nat} {q q' : Nat × va_E} {H : Heap} (h : va_P D cl w H) (hi : w[i]? = some q) (hq : va_at D cl q H → va_at D cl q' H) : va_P D cl (w.set i q') H := by
  intro k x hk
  rw [List.getElem?_set] at hk
  split at hk
  · split at hk
    · cases hk; exact hq (h i q hi)
    · cases hk
  · exact h k x hk
theorem P_left {D : va_G} {cl : List vw_C} {X Y : va_W} {H : Heap} (h : va_P D cl (X ++ Y) H) : va_P D cl X H := fun k q hk => h k q (by rw [List.getElem?_append_left (List.getElem?_eq_some_iff.mp hk).1]; exact hk)
theorem D_left {A : Nat → Prop} {X Y : va_W} (h : va_D A (X ++ Y)) : va_D A X := ⟨fun i j p q hi hj e => h.1 i j p q (by rw [List.getElem?_append_left (List.getElem?_eq_some_iff.mp hi).1]; exact hi) (by rw [List.getElem?_append_left (List.getElem?_eq_some_iff.mp hj).1]; exact hj) e, fun k q hk => h.2 k q (by rw [List.getElem?_append_left (List.getElem?_eq_some_iff.mp hk).1]; exact hk)⟩
theorem sw2P {D : va_G} {cl : List vw_C} {X Y : va_W} {H : Heap} (h : va_P D cl (X ++ Y) H) : va_P D cl (Y ++ X) H := (show va_P D cl (([] ++ X) ++ Y) H from h).swap
theorem sw2D {A : Nat → Prop} {X Y : va_W} (h : va_D A (X ++ Y)) : va_D A (Y ++ X) := (show va_D A (([] ++ X) ++ Y) from h).swap
theorem sw1P {D : va_G} {cl : List vw_C} {R X Y : va_W} {H : Heap} (h : va_P D cl (R ++ (X ++ Y)) H) : va_P D cl (X ++ (Y ++ R)) H := by rw [← List.append_assoc]; exact sw2P h
theorem sw1D {A : Nat → Prop} {R X Y : va_W} (h : va_D A (R ++ (X ++ Y))) : va_D A (X ++ (Y ++ R)) := by rw [← List.append_assoc]; exact sw2D h
theorem sw3P {D : va_G} {cl : List vw_C} {R X Y : va_W} {H : Heap} (h : va_P D cl (X ++ (Y ++ R)) H) : va_P D cl (R ++ (X ++ Y)) H := by rw [← List.append_assoc] at h; exact sw2P h
theorem sw3D {A : Nat → Prop} {R X Y : va_W} (h : va_D A (X ++ (Y ++ R))) : va_D A (R ++ (X ++ Y)) := by rw [← List.append_assoc] at h; exact sw2D h
theorem range_all (X : va_W) : (List.range X.length).map (fun i => X[i]?) = X.map some := by
  apply List.ext_getElem?
  intro i
  rw [List.getElem?_map, List.getElem?_map]
  by_cases h : i < X.length
  · rw [List.getElem?_range h, List.getElem?_eq_getElem h]
    show some X[i]? = some (some X[i])
    rw [List.getElem?_eq_getElem h]
  · rw [List.getElem?_eq_none (by rw [List.length_range]; omega), List.getElem?_eq_none (by omega)]
    rfl
section QW
variable {p : Program} {l : Launch} {e : Env} {R : Room} {s : State} {m : MethodId} {args : Array Value} {below : List Frame} {meth : Method} {c : Code} {H H0 : Heap} {locs : List Loc} {cells slots : Nat} {Q : State → Prop} {cc : ByteArray} {pc nL : Nat} {ls : Array Slot} {rest : List Value} {D : va_G} {tys : List (ClassId × FieldType)} {A : Nat → Prop}
theorem q_goiW {post : Int32 → va_W → Prop} {a : Array Value} {mc ms : Nat} {st : List Value} {X pl : va_W} (hr : va_Run p l e R s m args below meth c H locs cells slots mc ms (F0 m pc ls st) rest (va_Qi post (at_W D tys (va_A X H.size)) (va_A X H.size) a) (va_A X H.size)) (hP : va_P D vwCl (X ++ pl) H) (hD : va_D A (X ++ pl)) (hS : va_S A H0 H locs) (hA : ∀ q, H0.size ≤ q → A q)
    (kk : ∀ (r : Int32) (w1 : va_W) (H1 : Heap) (locs1 : List Loc), post r w1 → va_P D vwCl (w1 ++ pl) H1 → va_D A (w1 ++ pl) → va_S A H0 H1 locs1 → W p l e R s m args below meth c H1 locs1 (cells + mc) (slots + ms) Q (F0 m (pc + 3) ls (.int r :: rest))) : W p l e R s m args below meth c H locs cells slots Q (F0 m pc ls st) :=
  q_goiT (wr := []) hr hP hD hS hA (List.range X.length) [] (range_all X) rfl rfl (fun i hi => by simp at hi) (fun r w1 H1 locs1 h1 hP1 hD1 hS1 => kk r w1 H1 locs1 h1 hP1 hD1 hS1)
end QW
theorem k_hold_ans {s s' : YS} {x r : Int32} (h : kX10_hold s x = some (r, s')) : (r = 1 ∧ 0 ≤ x.toInt ∧ x.toInt < 3) ∨ (r = 0 ∧ (x.toInt < 0 ∨ 3 ≤ x.toInt)) := by
  unfold kX10_hold at h
  obtain ⟨r2, s1, h1, h⟩ := bindI_inv h
  obtain ⟨s3, _, h⟩ := letS_inv h
  obtain ⟨_, h⟩ := guard_inv h
  have e : r2 = r := by cases h; rfl
  rw [← e]
  clear h e
  unfold kX3_keepIn at h1
  by_cases c1 : x < 0
  · have h1 := if_p h1 c1
    have c1 := tn_lt (b := 0) rfl (by decide) c1
    cases h1
    exact Or.inr ⟨rfl, Or.inl c1⟩
  · have h1 := if_n h1 c1
    have c1 := tn_nlt (b := 0) rfl (by decide) c1
    by_cases c2 : x < 3
    · have h1 := if_p h1 c2
      have c2 := tn_lt (b := 3) rfl (by decide) c2
      obtain ⟨_, h1⟩ := guard_inv h1
      obtain ⟨s4, _, h1⟩ := bindP_inv h1
      obtain ⟨s5, _, h1⟩ := letS_inv h1
      obtain ⟨_, h1⟩ := guard_inv h1
      obtain ⟨s8, _, h1⟩ := letS_inv h1
      cases h1
      exact Or.inl ⟨rfl, c1, c2⟩
    · have h1 := if_n h1 c2
      have c2 := tn_nlt (b := 3) rfl (by decide) c2
      cases h1
      exact Or.inr ⟨rfl, Or.inr c2⟩
theorem r_hold20_ans {x1 : Int32} : ∀ (n : Nat) (s : RS) (x2 r : Int32) (s' : RS), r_hold_20L n s x1 x2 = some (r, s') → r = 1 := by
  intro n
  induction n with
  | zero => intro s x2 r s' h; cases h
  | succ n ih =>
    intro s x2 r s' h
    have h : r_hold_20 (r_hold_20L n) s x1 x2 = some (r, s') := h
    unfold r_hold_20 at h
    by_cases c : 29 ≤ x2
    · have h := if_p h c
      cases h
      rfl
    · have h := if_n h c
      obtain ⟨_, h⟩ := guard_inv h
      obtain ⟨_, h⟩ := guard_inv h
      obtain ⟨s4, _, h⟩ := letS_inv h
      exact ih _ _ _ _ h
theorem r_hold_ans {s s' : RS} {x r : Int32} (h : r_hold s x = some (r, s')) : (r = 1 ∧ 0 ≤ x.toInt ∧ x.toInt < 3) ∨ (r = 0 ∧ (x.toInt < 0 ∨ 3 ≤ x.toInt)) := by
  unfold r_hold at h
  obtain ⟨r1, h1, h⟩ := bindP_inv h
  unfold r_in at h1
  have z1 : ¬ (1 : Int32) = 0 := by decide
  by_cases c1 : x < 0
  · have h1 := if_p h1 c1
    have c1 := tn_lt (b := 0) rfl (by decide) c1
    cases h1
    have h := if_p h rfl
    cases h
    exact Or.inr ⟨rfl, Or.inl c1⟩
  · have h1 := if_n h1 c1
    have c1 := tn_nlt (b := 0) rfl (by decide) c1
    by_cases c2 : 2 < x
    · have h1 := if_p h1 c2
      have c2 := tn_lt (a := 2) (by decide) rfl c2
      cases h1
      have h := if_p h rfl
      cases h
      exact Or.inr ⟨rfl, Or.inr (by omega)⟩
    · have h1 := if_n h1 c2
      have c2 := tn_nlt (a := 2) (by decide) rfl c2
      cases h1
      have h := if_n h z1
      obtain ⟨_, h⟩ := guard_inv h
      obtain ⟨s4, _, h⟩ := letS_inv h
      exact Or.inl ⟨r_hold20_ans _ _ _ _ _ h, c1, by omega⟩
theorem hold_same {s s' : YS} {z z' : RS} {x r1 r2 : Int32} (h1 : kX10_hold s x = some (r1, s')) (h2 : r_hold z x = some (r2, z')) : r1 = r2 := by
  rcases k_hold_ans h1 with ⟨e1, g1⟩ | ⟨e1, g1⟩ <;> rcases r_hold_ans h2 with ⟨e2, g2⟩ | ⟨e2, g2⟩
  · rw [e1, e2]
  · omega
  · omega
  · rw [e1, e2]
def ks0 : KS := (fun _ => 0, fun _ _ => 0, fun _ _ => 0, fun _ => 0)
theorem inv_ks0 : InvK ks0 := by
  refine ⟨fun k => ?_, fun k j => ?_⟩
  · show loVK k ≤ 0 ∧ 0 ≤ hiVK k
    unfold loVK hiVK
    repeat' split
    all_goals omega
  · show loFK k ≤ 0 ∧ 0 ≤ hiFK k
    unfold loFK hiFK
    repeat' split
    all_goals omega
def gs0 : GS := (fun _ => 0, fun _ _ => 0)
theorem inv_gs0 : InvG gs0 := by
  refine ⟨fun k => ?_, fun k j => ?_⟩
  · show loVG k ≤ 0 ∧ 0 ≤ hiVG k
    unfold loVG hiVG
    repeat' split
    all_goals omega
  · show loFG k ≤ 0 ∧ 0 ≤ hiFG k
    unfold loFG hiFG
    omega
