/-! ===== functional programs: what a method does, as a function that may fail; the rows tie the machine to it ===== -/
noncomputable abbrev RS : Type := (Nat → Int32) × (Nat → Nat → Int32) × (Nat → Nat → Int64)
noncomputable def RS.v (s : RS) : Nat → Int32 := s.1
noncomputable def RS.f (s : RS) : Nat → Nat → Int32 := s.2.1
noncomputable def RS.g (s : RS) : Nat → Nat → Int64 := s.2.2
noncomputable def RS.sv (s : RS) (k : Nat) (x : Int32) : RS := (va_up s.v k x, s.f, s.g)
noncomputable def RS.sf (s : RS) (k i : Nat) (x : Int32) : RS := (s.v, va_up s.f k (upd (s.f k) i x), s.g)
noncomputable def RS.sg (s : RS) (k i : Nat) (x : Int64) : RS := (s.v, s.f, va_up s.g k (vp_updL (s.g k) i x))
/-- an index is one of a row of n -/
noncomputable def vpb (i : Int32) (n : Nat) : Bool := decide (¬ (i < 0 ∨ n ≤ i.toNatClampNeg))
theorem vpb_in {i : Int32} {n : Nat} (h : vpb i n = true) : vp_in i n := of_decide_eq_true (p := ¬ (i < 0 ∨ n ≤ i.toNatClampNeg)) h
noncomputable abbrev ushr (x y : Int32) : Int32 := (x.toUInt32 >>> (y.toUInt32 &&& Int32.toUInt32 31)).toInt32
noncomputable def fu : Nat := 20000
noncomputable def letS {σ α : Type} (S : σ) (k : σ → Option α) : Option α := k S
noncomputable def bindI {σ α : Type} (o : Option (Int32 × σ)) (k : Int32 → σ → Option α) : Option α := match o with
  | none => none
  | some (r, s) => k r s
noncomputable def bindL {σ α : Type} (o : Option (Int64 × σ)) (k : Int64 → σ → Option α) : Option α := match o with
  | none => none
  | some (r, s) => k r s
noncomputable def bindP {τ α : Type} (o : Option τ) (k : τ → Option α) : Option α := match o with
  | none => none
  | some r => k r
theorem letS_inv {σ α : Type} {S : σ} {k : σ → Option α} {y : α} (h : letS S k = some y) : ∃ s, S = s ∧ k s = some y := ⟨S, rfl, h⟩
theorem bindI_inv {σ α : Type} {o : Option (Int32 × σ)} {k : Int32 → σ → Option α} {y : α} (h : bindI o k = some y) : ∃ r s, o = some (r, s) ∧ k r s = some y := by
  cases o with
  | none => cases h
  | some q => exact ⟨q.1, q.2, rfl, h⟩
theorem bindL_inv {σ α : Type} {o : Option (Int64 × σ)} {k : Int64 → σ → Option α} {y : α} (h : bindL o k = some y) : ∃ r s, o = some (r, s) ∧ k r s = some y := by
  cases o with
  | none => cases h
  | some q => exact ⟨q.1, q.2, rfl, h⟩
theorem bindP_inv {τ α : Type} {o : Option τ} {k : τ → Option α} {y : α} (h : bindP o k = some y) : ∃ r, o = some r ∧ k r = some y := by
  cases o with
  | none => cases h
  | some q => exact ⟨q, rfl, h⟩
theorem if_p {c : Prop} [Decidable c] {α : Type} {A B : Option α} {y : α} (h : (if c then A else B) = some y) (hc : c) : A = some y := by rw [if_pos hc] at h; exact h
theorem if_n {c : Prop} [Decidable c] {α : Type} {A B : Option α} {y : α} (h : (if c then A else B) = some y) (hc : ¬ c) : B = some y := by rw [if_neg hc] at h; exact h
theorem guard_inv {c : Prop} [Decidable c] {α : Type} {A : Option α} {y : α} (h : (if c then A else none) = some y) : c ∧ A = some y := by
  by_cases hc : c
  · exact ⟨hc, if_p h hc⟩
  · rw [if_neg hc] at h; cases h
theorem none_ne {α : Type} {y : α} {P : Prop} (h : (none : Option α) = some y) : P := by cases h
theorem ne_toInt {x c : Int32} {k : Int} (hk : c.toInt = k) (h : ¬ x = c) : x.toInt ≠ k := fun e => h (Int32.toInt_inj.mp (e.trans hk.symm))
/-- what stands in a method's middle -/
noncomputable abbrev EntB (p : Program) (s : State) (m : MethodId) (meth : Method) (c : Code) (cc : ByteArray) (maxL : Nat) (ret : Option FieldType) (ws : List Cond) (y : MethodName) (D : va_G) (tys : List (ClassId × FieldType)) (as : List Value) (A : Nat → Prop) : Prop :=
  CallFix p m c cc maxL s as.toArray ws y.cls ∧ meth.sig.returnType = ret ∧ meth.locks = false ∧ (∀ q, s.heap.size ≤ q → A q) ∧ va_K D vwCl tys s ∧ nw_ok s
/-- from the middle of a method: it comes to its end, with 'post' -/
noncomputable def BlkI (l : Launch) (y : MethodName) (ws : List Cond) (rm : Room) (cc : ByteArray) (maxL : Nat) (ret : Option FieldType) (D : va_G) (tys : List (ClassId × FieldType)) (as : List Value) (pc : Nat) (w : va_W) (lv : List (Nat × Value)) (st : List Value) (post : Int32 → va_W → Prop) : Prop :=
  ∀ (p : Program) (e : Env) (s : State) (m : MethodId) (below : List Frame) (meth : Method) (c : Code) (A : Nat → Prop), EntB p s m meth c cc maxL ret ws y D tys as A → ∀ (H : Heap) (locs : List Loc) (ls : Array Slot), va_P D vwCl w H → va_D A w → va_S A s.heap H locs → lv_has ls maxL lv →
    W p l e rm s m as.toArray below meth c H locs 0 0 (MQ below (va_Qi post (at_W D tys A) A) as.toArray s rm.cells rm.slots A) (F0 m pc ls st)
theorem CI_of {l : Launch} {y : MethodName} {ws ws' : List Cond} {rm : Room} {D : va_G} {tys : List (ClassId × FieldType)} {w : va_W} {as : List Value} {post : Int32 → va_W → Prop} {cc : ByteArray} {maxL : Nat} {ret : Option FieldType}
    (hy : plainName y.cls = true) (hw : ws = Cond.code y cc maxL ret :: ws') (hn : (lg_sl as).length ≤ maxL) (h : BlkI l y ws rm cc maxL ret D tys as 0 w (lv_args 0 as) [] post) : CI l y ws rm D tys w as post := by
  refine open_I hy hw hn ?_
  intro p e s m below meth c A ls E
  obtain ⟨C, hr, hlocks, hnm, hA, hP, hK, hD, hN, hl⟩ := E
  exact h p e s m below meth c A ⟨C, hr, hlocks, hA, hK, hN⟩ s.heap [] ls hP hD va_S.rf hl
/-- from the middle of a method: it comes to its end, with 'post' -/
noncomputable def BlkL (l : Launch) (y : MethodName) (ws : List Cond) (rm : Room) (cc : ByteArray) (maxL : Nat) (ret : Option FieldType) (D : va_G) (tys : List (ClassId × FieldType)) (as : List Value) (pc : Nat) (w : va_W) (lv : List (Nat × Value)) (st : List Value) (post : Int64 → va_W → Prop) : Prop :=
  ∀ (p : Program) (e : Env) (s : State) (m : MethodId) (below : List Frame) (meth : Method) (c : Code) (A : Nat → Prop), EntB p s m meth c cc maxL ret ws y D tys as A → ∀ (H : Heap) (locs : List Loc) (ls : Array Slot), va_P D vwCl w H → va_D A w → va_S A s.heap H locs → lv_has ls maxL lv →
    W p l e rm s m as.toArray below meth c H locs 0 0 (MQ below (va_Ql post (at_W D tys A) A) as.toArray s rm.cells rm.slots A) (F0 m pc ls st)
theorem CL_of {l : Launch} {y : MethodName} {ws ws' : List Cond} {rm : Room} {D : va_G} {tys : List (ClassId × FieldType)} {w : va_W} {as : List Value} {post : Int64 → va_W → Prop} {cc : ByteArray} {maxL : Nat} {ret : Option FieldType}
    (hy : plainName y.cls = true) (hw : ws = Cond.code y cc maxL ret :: ws') (hn : (lg_sl as).length ≤ maxL) (h : BlkL l y ws rm cc maxL ret D tys as 0 w (lv_args 0 as) [] post) : CL l y ws rm D tys w as post := by
  refine open_L hy hw hn ?_
  intro p e s m below meth c A ls E
  obtain ⟨C, hr, hlocks, hnm, hA, hP, hK, hD, hN, hl⟩ := E
  exact h p e s m below meth c A ⟨C, hr, hlocks, hA, hK, hN⟩ s.heap [] ls hP hD va_S.rf hl
/-- from the middle of a method: it comes to its end, with 'post' -/
noncomputable def BlkV (l : Launch) (y : MethodName) (ws : List Cond) (rm : Room) (cc : ByteArray) (maxL : Nat) (ret : Option FieldType) (D : va_G) (tys : List (ClassId × FieldType)) (as : List Value) (pc : Nat) (w : va_W) (lv : List (Nat × Value)) (st : List Value) (post : va_W → Prop) : Prop :=
  ∀ (p : Program) (e : Env) (s : State) (m : MethodId) (below : List Frame) (meth : Method) (c : Code) (A : Nat → Prop), EntB p s m meth c cc maxL ret ws y D tys as A → ∀ (H : Heap) (locs : List Loc) (ls : Array Slot), va_P D vwCl w H → va_D A w → va_S A s.heap H locs → lv_has ls maxL lv →
    W p l e rm s m as.toArray below meth c H locs 0 0 (MQ below (va_Qv post (at_W D tys A) A) as.toArray s rm.cells rm.slots A) (F0 m pc ls st)
theorem CV_of {l : Launch} {y : MethodName} {ws ws' : List Cond} {rm : Room} {D : va_G} {tys : List (ClassId × FieldType)} {w : va_W} {as : List Value} {post : va_W → Prop} {cc : ByteArray} {maxL : Nat} {ret : Option FieldType}
    (hy : plainName y.cls = true) (hw : ws = Cond.code y cc maxL ret :: ws') (hn : (lg_sl as).length ≤ maxL) (h : BlkV l y ws rm cc maxL ret D tys as 0 w (lv_args 0 as) [] post) : CV l y ws rm D tys w as post := by
  refine open_V hy hw hn ?_
  intro p e s m below meth c A ls E
  obtain ⟨C, hr, hlocks, hnm, hA, hP, hK, hD, hN, hl⟩ := E
  exact h p e s m below meth c A ⟨C, hr, hlocks, hA, hK, hN⟩ s.heap [] ls hP hD va_S.rf hl
/-- the reference's world by its state -/
noncomputable abbrev mwS (cB cI cJ cZ : ClassId) (h : Nat) (a : Nat → Nat) (s : RS) : va_W := mw cB cI cJ cZ h a s.v s.f s.g
theorem mwS_v0 {cB cI cJ cZ : ClassId} {h : Nat} {a : Nat → Nat} {s t : RS} {x : Int32} (hs : s.sv 0 x = t) : (mwS cB cI cJ cZ h a s).set 0 (h, .inr (11, (moF a s.v).set 0 (.int x))) = mwS cB cI cJ cZ h a t := by subst hs; rfl
theorem mwS_f1 {cB cI cJ cZ : ClassId} {h : Nat} {a : Nat → Nat} {s t : RS} {x : Int32} {j : Nat} (hs : s.sf 1 j x = t) : (mwS cB cI cJ cZ h a s).set 1 (a 1, .inl (cB, 2000, .inl (upd (s.f 1) j x))) = mwS cB cI cJ cZ h a t := by subst hs; rfl
theorem mwS_v2 {cB cI cJ cZ : ClassId} {h : Nat} {a : Nat → Nat} {s t : RS} {x : Int32} (hs : s.sv 2 x = t) : (mwS cB cI cJ cZ h a s).set 0 (h, .inr (11, (moF a s.v).set 2 (.int x))) = mwS cB cI cJ cZ h a t := by subst hs; rfl
theorem mwS_f3 {cB cI cJ cZ : ClassId} {h : Nat} {a : Nat → Nat} {s t : RS} {x : Int32} {j : Nat} (hs : s.sf 3 j x = t) : (mwS cB cI cJ cZ h a s).set 2 (a 3, .inl (cB, 2000, .inl (upd (s.f 3) j x))) = mwS cB cI cJ cZ h a t := by subst hs; rfl
theorem mwS_v4 {cB cI cJ cZ : ClassId} {h : Nat} {a : Nat → Nat} {s t : RS} {x : Int32} (hs : s.sv 4 x = t) : (mwS cB cI cJ cZ h a s).set 0 (h, .inr (11, (moF a s.v).set 4 (.int x))) = mwS cB cI cJ cZ h a t := by subst hs; rfl
theorem mwS_f5 {cB cI cJ cZ : ClassId} {h : Nat} {a : Nat → Nat} {s t : RS} {x : Int32} {j : Nat} (hs : s.sf 5 j x = t) : (mwS cB cI cJ cZ h a s).set 3 (a 5, .inl (cI, 403, .inl (upd (s.f 5) j x))) = mwS cB cI cJ cZ h a t := by subst hs; rfl
theorem mwS_f6 {cB cI cJ cZ : ClassId} {h : Nat} {a : Nat → Nat} {s t : RS} {x : Int32} {j : Nat} (hs : s.sf 6 j x = t) : (mwS cB cI cJ cZ h a s).set 4 (a 6, .inl (cI, 403, .inl (upd (s.f 6) j x))) = mwS cB cI cJ cZ h a t := by subst hs; rfl
theorem mwS_f7 {cB cI cJ cZ : ClassId} {h : Nat} {a : Nat → Nat} {s t : RS} {x : Int32} {j : Nat} (hs : s.sf 7 j x = t) : (mwS cB cI cJ cZ h a s).set 5 (a 7, .inl (cI, 403, .inl (upd (s.f 7) j x))) = mwS cB cI cJ cZ h a t := by subst hs; rfl
theorem mwS_f8 {cB cI cJ cZ : ClassId} {h : Nat} {a : Nat → Nat} {s t : RS} {x : Int64} {j : Nat} (hs : s.sg 8 j x = t) : (mwS cB cI cJ cZ h a s).set 6 (a 8, .inl (cJ, 403, .inr (.inl (vp_updL (s.g 8) j x)))) = mwS cB cI cJ cZ h a t := by subst hs; rfl
theorem mwS_f9 {cB cI cJ cZ : ClassId} {h : Nat} {a : Nat → Nat} {s t : RS} {x : Int64} {j : Nat} (hs : s.sg 9 j x = t) : (mwS cB cI cJ cZ h a s).set 7 (a 9, .inl (cJ, 19, .inr (.inl (vp_updL (s.g 9) j x)))) = mwS cB cI cJ cZ h a t := by subst hs; rfl
theorem mwS_v10 {cB cI cJ cZ : ClassId} {h : Nat} {a : Nat → Nat} {s t : RS} {x : Int32} (hs : s.sv 10 x = t) : (mwS cB cI cJ cZ h a s).set 0 (h, .inr (11, (moF a s.v).set 10 (.int x))) = mwS cB cI cJ cZ h a t := by subst hs; rfl
theorem mwS_v11 {cB cI cJ cZ : ClassId} {h : Nat} {a : Nat → Nat} {s t : RS} {x : Int32} (hs : s.sv 11 x = t) : (mwS cB cI cJ cZ h a s).set 0 (h, .inr (11, (moF a s.v).set 11 (.int x))) = mwS cB cI cJ cZ h a t := by subst hs; rfl
theorem mwS_v12 {cB cI cJ cZ : ClassId} {h : Nat} {a : Nat → Nat} {s t : RS} {x : Int32} (hs : s.sv 12 x = t) : (mwS cB cI cJ cZ h a s).set 0 (h, .inr (11, (moF a s.v).set 12 (.int x))) = mwS cB cI cJ cZ h a t := by subst hs; rfl
theorem mwS_v13 {cB cI cJ cZ : ClassId} {h : Nat} {a : Nat → Nat} {s t : RS} {x : Int32} (hs : s.sv 13 x = t) : (mwS cB cI cJ cZ h a s).set 0 (h, .inr (11, (moF a s.v).set 13 (.int x))) = mwS cB cI cJ cZ h a t := by subst hs; rfl
theorem mwS_v14 {cB cI cJ cZ : ClassId} {h : Nat} {a : Nat → Nat} {s t : RS} {x : Int32} (hs : s.sv 14 x = t) : (mwS cB cI cJ cZ h a s).set 0 (h, .inr (11, (moF a s.v).set 14 (.int x))) = mwS cB cI cJ cZ h a t := by subst hs; rfl
theorem mwS_v15 {cB cI cJ cZ : ClassId} {h : Nat} {a : Nat → Nat} {s t : RS} {x : Int32} (hs : s.sv 15 x = t) : (mwS cB cI cJ cZ h a s).set 0 (h, .inr (11, (moF a s.v).set 15 (.int x))) = mwS cB cI cJ cZ h a t := by subst hs; rfl
theorem mwS_v16 {cB cI cJ cZ : ClassId} {h : Nat} {a : Nat → Nat} {s t : RS} {x : Int32} (hs : s.sv 16 x = t) : (mwS cB cI cJ cZ h a s).set 0 (h, .inr (11, (moF a s.v).set 16 (.int x))) = mwS cB cI cJ cZ h a t := by subst hs; rfl
theorem mwS_v17 {cB cI cJ cZ : ClassId} {h : Nat} {a : Nat → Nat} {s t : RS} {x : Int32} (hs : s.sv 17 x = t) : (mwS cB cI cJ cZ h a s).set 0 (h, .inr (11, (moF a s.v).set 17 (.int x))) = mwS cB cI cJ cZ h a t := by subst hs; rfl
theorem mwS_v18 {cB cI cJ cZ : ClassId} {h : Nat} {a : Nat → Nat} {s t : RS} {x : Int32} (hs : s.sv 18 x = t) : (mwS cB cI cJ cZ h a s).set 0 (h, .inr (11, (moF a s.v).set 18 (.int x))) = mwS cB cI cJ cZ h a t := by subst hs; rfl
theorem mwS_v19 {cB cI cJ cZ : ClassId} {h : Nat} {a : Nat → Nat} {s t : RS} {x : Int32} (hs : s.sv 19 x = t) : (mwS cB cI cJ cZ h a s).set 0 (h, .inr (11, (moF a s.v).set 19 (.int x))) = mwS cB cI cJ cZ h a t := by subst hs; rfl
theorem mwS_f20 {cB cI cJ cZ : ClassId} {h : Nat} {a : Nat → Nat} {s t : RS} {x : Int32} {j : Nat} (hs : s.sf 20 j x = t) : (mwS cB cI cJ cZ h a s).set 8 (a 20, .inl (cI, 2, .inl (upd (s.f 20) j x))) = mwS cB cI cJ cZ h a t := by subst hs; rfl
theorem mwS_f21 {cB cI cJ cZ : ClassId} {h : Nat} {a : Nat → Nat} {s t : RS} {x : Int32} {j : Nat} (hs : s.sf 21 j x = t) : (mwS cB cI cJ cZ h a s).set 9 (a 21, .inl (cI, 60, .inl (upd (s.f 21) j x))) = mwS cB cI cJ cZ h a t := by subst hs; rfl
theorem mwS_f22 {cB cI cJ cZ : ClassId} {h : Nat} {a : Nat → Nat} {s t : RS} {x : Int64} {j : Nat} (hs : s.sg 22 j x = t) : (mwS cB cI cJ cZ h a s).set 10 (a 22, .inl (cJ, 6, .inr (.inl (vp_updL (s.g 22) j x)))) = mwS cB cI cJ cZ h a t := by subst hs; rfl
theorem mwS_f23 {cB cI cJ cZ : ClassId} {h : Nat} {a : Nat → Nat} {s t : RS} {x : Int32} {j : Nat} (hs : s.sf 23 j x = t) : (mwS cB cI cJ cZ h a s).set 11 (a 23, .inl (cI, 2, .inl (upd (s.f 23) j x))) = mwS cB cI cJ cZ h a t := by subst hs; rfl
theorem mwS_f24 {cB cI cJ cZ : ClassId} {h : Nat} {a : Nat → Nat} {s t : RS} {x : Int32} {j : Nat} (hs : s.sf 24 j x = t) : (mwS cB cI cJ cZ h a s).set 12 (a 24, .inl (cI, 12, .inl (upd (s.f 24) j x))) = mwS cB cI cJ cZ h a t := by subst hs; rfl
theorem mwS_f25 {cB cI cJ cZ : ClassId} {h : Nat} {a : Nat → Nat} {s t : RS} {x : Int32} {j : Nat} (hs : s.sf 25 j x = t) : (mwS cB cI cJ cZ h a s).set 13 (a 25, .inl (cI, 12, .inl (upd (s.f 25) j x))) = mwS cB cI cJ cZ h a t := by subst hs; rfl
theorem mwS_f26 {cB cI cJ cZ : ClassId} {h : Nat} {a : Nat → Nat} {s t : RS} {x : Int32} {j : Nat} (hs : s.sf 26 j x = t) : (mwS cB cI cJ cZ h a s).set 14 (a 26, .inl (cI, 2, .inl (upd (s.f 26) j x))) = mwS cB cI cJ cZ h a t := by subst hs; rfl
theorem mwS_f27 {cB cI cJ cZ : ClassId} {h : Nat} {a : Nat → Nat} {s t : RS} {x : Int32} {j : Nat} (hs : s.sf 27 j x = t) : (mwS cB cI cJ cZ h a s).set 15 (a 27, .inl (cI, 8, .inl (upd (s.f 27) j x))) = mwS cB cI cJ cZ h a t := by subst hs; rfl
theorem mwS_f28 {cB cI cJ cZ : ClassId} {h : Nat} {a : Nat → Nat} {s t : RS} {x : Int32} {j : Nat} (hs : s.sf 28 j x = t) : (mwS cB cI cJ cZ h a s).set 16 (a 28, .inl (cI, 8, .inl (upd (s.f 28) j x))) = mwS cB cI cJ cZ h a t := by subst hs; rfl
theorem mwS_v29 {cB cI cJ cZ : ClassId} {h : Nat} {a : Nat → Nat} {s t : RS} {x : Int32} (hs : s.sv 29 x = t) : (mwS cB cI cJ cZ h a s).set 0 (h, .inr (11, (moF a s.v).set 29 (.int x))) = mwS cB cI cJ cZ h a t := by subst hs; rfl
theorem mwS_f30 {cB cI cJ cZ : ClassId} {h : Nat} {a : Nat → Nat} {s t : RS} {x : Int32} {j : Nat} (hs : s.sf 30 j x = t) : (mwS cB cI cJ cZ h a s).set 17 (a 30, .inl (cZ, 260, .inl (upd (s.f 30) j x))) = mwS cB cI cJ cZ h a t := by subst hs; rfl
theorem mwS_f31 {cB cI cJ cZ : ClassId} {h : Nat} {a : Nat → Nat} {s t : RS} {x : Int32} {j : Nat} (hs : s.sf 31 j x = t) : (mwS cB cI cJ cZ h a s).set 18 (a 31, .inl (cI, 260, .inl (upd (s.f 31) j x))) = mwS cB cI cJ cZ h a t := by subst hs; rfl
theorem mwS_f32 {cB cI cJ cZ : ClassId} {h : Nat} {a : Nat → Nat} {s t : RS} {x : Int32} {j : Nat} (hs : s.sf 32 j x = t) : (mwS cB cI cJ cZ h a s).set 19 (a 32, .inl (cI, 260, .inl (upd (s.f 32) j x))) = mwS cB cI cJ cZ h a t := by subst hs; rfl
theorem mwS_f33 {cB cI cJ cZ : ClassId} {h : Nat} {a : Nat → Nat} {s t : RS} {x : Int32} {j : Nat} (hs : s.sf 33 j x = t) : (mwS cB cI cJ cZ h a s).set 20 (a 33, .inl (cI, 260, .inl (upd (s.f 33) j x))) = mwS cB cI cJ cZ h a t := by subst hs; rfl
theorem mwS_f34 {cB cI cJ cZ : ClassId} {h : Nat} {a : Nat → Nat} {s t : RS} {x : Int32} {j : Nat} (hs : s.sf 34 j x = t) : (mwS cB cI cJ cZ h a s).set 21 (a 34, .inl (cI, 260, .inl (upd (s.f 34) j x))) = mwS cB cI cJ cZ h a t := by subst hs; rfl
theorem mwS_v35 {cB cI cJ cZ : ClassId} {h : Nat} {a : Nat → Nat} {s t : RS} {x : Int32} (hs : s.sv 35 x = t) : (mwS cB cI cJ cZ h a s).set 0 (h, .inr (11, (moF a s.v).set 35 (.int x))) = mwS cB cI cJ cZ h a t := by subst hs; rfl
theorem mwS_f36 {cB cI cJ cZ : ClassId} {h : Nat} {a : Nat → Nat} {s t : RS} {x : Int32} {j : Nat} (hs : s.sf 36 j x = t) : (mwS cB cI cJ cZ h a s).set 22 (a 36, .inl (cI, 840, .inl (upd (s.f 36) j x))) = mwS cB cI cJ cZ h a t := by subst hs; rfl
theorem mwS_f37 {cB cI cJ cZ : ClassId} {h : Nat} {a : Nat → Nat} {s t : RS} {x : Int32} {j : Nat} (hs : s.sf 37 j x = t) : (mwS cB cI cJ cZ h a s).set 23 (a 37, .inl (cI, 840, .inl (upd (s.f 37) j x))) = mwS cB cI cJ cZ h a t := by subst hs; rfl
theorem mwS_f38 {cB cI cJ cZ : ClassId} {h : Nat} {a : Nat → Nat} {s t : RS} {x : Int32} {j : Nat} (hs : s.sf 38 j x = t) : (mwS cB cI cJ cZ h a s).set 24 (a 38, .inl (cI, 64, .inl (upd (s.f 38) j x))) = mwS cB cI cJ cZ h a t := by subst hs; rfl
theorem mwS_v39 {cB cI cJ cZ : ClassId} {h : Nat} {a : Nat → Nat} {s t : RS} {x : Int32} (hs : s.sv 39 x = t) : (mwS cB cI cJ cZ h a s).set 0 (h, .inr (11, (moF a s.v).set 39 (.int x))) = mwS cB cI cJ cZ h a t := by subst hs; rfl
theorem mwS_f40 {cB cI cJ cZ : ClassId} {h : Nat} {a : Nat → Nat} {s t : RS} {x : Int32} {j : Nat} (hs : s.sf 40 j x = t) : (mwS cB cI cJ cZ h a s).set 25 (a 40, .inl (cI, 9, .inl (upd (s.f 40) j x))) = mwS cB cI cJ cZ h a t := by subst hs; rfl
theorem mwS_f41 {cB cI cJ cZ : ClassId} {h : Nat} {a : Nat → Nat} {s t : RS} {x : Int32} {j : Nat} (hs : s.sf 41 j x = t) : (mwS cB cI cJ cZ h a s).set 26 (a 41, .inl (cI, 400, .inl (upd (s.f 41) j x))) = mwS cB cI cJ cZ h a t := by subst hs; rfl
theorem mwS_v42 {cB cI cJ cZ : ClassId} {h : Nat} {a : Nat → Nat} {s t : RS} {x : Int32} (hs : s.sv 42 x = t) : (mwS cB cI cJ cZ h a s).set 0 (h, .inr (11, (moF a s.v).set 42 (.int x))) = mwS cB cI cJ cZ h a t := by subst hs; rfl
theorem mwS_f43 {cB cI cJ cZ : ClassId} {h : Nat} {a : Nat → Nat} {s t : RS} {x : Int32} {j : Nat} (hs : s.sf 43 j x = t) : (mwS cB cI cJ cZ h a s).set 27 (a 43, .inl (cI, 29, .inl (upd (s.f 43) j x))) = mwS cB cI cJ cZ h a t := by subst hs; rfl
theorem mwS_f44 {cB cI cJ cZ : ClassId} {h : Nat} {a : Nat → Nat} {s t : RS} {x : Int32} {j : Nat} (hs : s.sf 44 j x = t) : (mwS cB cI cJ cZ h a s).set 28 (a 44, .inl (cI, 29, .inl (upd (s.f 44) j x))) = mwS cB cI cJ cZ h a t := by subst hs; rfl
theorem mwS_v45 {cB cI cJ cZ : ClassId} {h : Nat} {a : Nat → Nat} {s t : RS} {x : Int32} (hs : s.sv 45 x = t) : (mwS cB cI cJ cZ h a s).set 0 (h, .inr (11, (moF a s.v).set 45 (.int x))) = mwS cB cI cJ cZ h a t := by subst hs; rfl
theorem mwS_f46 {cB cI cJ cZ : ClassId} {h : Nat} {a : Nat → Nat} {s t : RS} {x : Int32} {j : Nat} (hs : s.sf 46 j x = t) : (mwS cB cI cJ cZ h a s).set 29 (a 46, .inl (cI, 6, .inl (upd (s.f 46) j x))) = mwS cB cI cJ cZ h a t := by subst hs; rfl
theorem mwS_f47 {cB cI cJ cZ : ClassId} {h : Nat} {a : Nat → Nat} {s t : RS} {x : Int32} {j : Nat} (hs : s.sf 47 j x = t) : (mwS cB cI cJ cZ h a s).set 30 (a 47, .inl (cZ, 5, .inl (upd (s.f 47) j x))) = mwS cB cI cJ cZ h a t := by subst hs; rfl
theorem mwS_v48 {cB cI cJ cZ : ClassId} {h : Nat} {a : Nat → Nat} {s t : RS} {x : Int32} (hs : s.sv 48 x = t) : (mwS cB cI cJ cZ h a s).set 0 (h, .inr (11, (moF a s.v).set 48 (.int x))) = mwS cB cI cJ cZ h a t := by subst hs; rfl
theorem mwS_f49 {cB cI cJ cZ : ClassId} {h : Nat} {a : Nat → Nat} {s t : RS} {x : Int32} {j : Nat} (hs : s.sf 49 j x = t) : (mwS cB cI cJ cZ h a s).set 31 (a 49, .inl (cI, 1160, .inl (upd (s.f 49) j x))) = mwS cB cI cJ cZ h a t := by subst hs; rfl
theorem mwS_f50 {cB cI cJ cZ : ClassId} {h : Nat} {a : Nat → Nat} {s t : RS} {x : Int32} {j : Nat} (hs : s.sf 50 j x = t) : (mwS cB cI cJ cZ h a s).set 32 (a 50, .inl (cI, 7776, .inl (upd (s.f 50) j x))) = mwS cB cI cJ cZ h a t := by subst hs; rfl
theorem mwS_v51 {cB cI cJ cZ : ClassId} {h : Nat} {a : Nat → Nat} {s t : RS} {x : Int32} (hs : s.sv 51 x = t) : (mwS cB cI cJ cZ h a s).set 0 (h, .inr (11, (moF a s.v).set 51 (.int x))) = mwS cB cI cJ cZ h a t := by subst hs; rfl
theorem mwS_f52 {cB cI cJ cZ : ClassId} {h : Nat} {a : Nat → Nat} {s t : RS} {x : Int32} {j : Nat} (hs : s.sf 52 j x = t) : (mwS cB cI cJ cZ h a s).set 33 (a 52, .inl (cI, 20, .inl (upd (s.f 52) j x))) = mwS cB cI cJ cZ h a t := by subst hs; rfl
theorem mwS_f53 {cB cI cJ cZ : ClassId} {h : Nat} {a : Nat → Nat} {s t : RS} {x : Int32} {j : Nat} (hs : s.sf 53 j x = t) : (mwS cB cI cJ cZ h a s).set 34 (a 53, .inl (cI, 20, .inl (upd (s.f 53) j x))) = mwS cB cI cJ cZ h a t := by subst hs; rfl
theorem mwS_f54 {cB cI cJ cZ : ClassId} {h : Nat} {a : Nat → Nat} {s t : RS} {x : Int32} {j : Nat} (hs : s.sf 54 j x = t) : (mwS cB cI cJ cZ h a s).set 35 (a 54, .inl (cZ, 20, .inl (upd (s.f 54) j x))) = mwS cB cI cJ cZ h a t := by subst hs; rfl
theorem mwS_f55 {cB cI cJ cZ : ClassId} {h : Nat} {a : Nat → Nat} {s t : RS} {x : Int32} {j : Nat} (hs : s.sf 55 j x = t) : (mwS cB cI cJ cZ h a s).set 36 (a 55, .inl (cI, 30, .inl (upd (s.f 55) j x))) = mwS cB cI cJ cZ h a t := by subst hs; rfl
theorem mwS_f56 {cB cI cJ cZ : ClassId} {h : Nat} {a : Nat → Nat} {s t : RS} {x : Int32} {j : Nat} (hs : s.sf 56 j x = t) : (mwS cB cI cJ cZ h a s).set 37 (a 56, .inl (cZ, 3, .inl (upd (s.f 56) j x))) = mwS cB cI cJ cZ h a t := by subst hs; rfl
theorem mwS_f57 {cB cI cJ cZ : ClassId} {h : Nat} {a : Nat → Nat} {s t : RS} {x : Int32} {j : Nat} (hs : s.sf 57 j x = t) : (mwS cB cI cJ cZ h a s).set 38 (a 57, .inl (cI, 87, .inl (upd (s.f 57) j x))) = mwS cB cI cJ cZ h a t := by subst hs; rfl
noncomputable def r_put_3 (k3 : RS → Int32 → Int32 → Option RS) (s : RS) (x1 : Int32) (x2 : Int32) : Option RS := (if x2 < 0 then (some s) else (if vpb (s.v 2) 2000 then (letS (s.sf 1 (Int32.toNatClampNeg (s.v 2)) (vp_nar .byte (Int8.toInt32 (Int32.toInt8 (x1 >>> (x2 &&& 31)))))) fun s3 => (letS (s3.sv 2 ((s3.v 2) + 1)) fun s5 => k3 s5 x1 (x2 + (-8)))) else none))
noncomputable def r_put_3L : Nat → RS → Int32 → Int32 → Option RS
  | 0, _, _, _ => none
  | n + 1, s, x1, x2 => r_put_3 (r_put_3L n) s x1 x2
noncomputable def r_put (s : RS) (x1 : Int32) : Option RS := r_put_3L fu s x1 24
noncomputable def r_feed (s : RS) (x1 : Int32) (x2 : Int32) (x3 : Int32) (x4 : Int32) (x5 : Int32) : Option (Int32 × RS) := (if ((s.v 2) + 20) ≤ 2000 then (bindP (r_put s x1) fun s2 => (bindP (r_put s2 x2) fun s3 => (bindP (r_put s3 x3) fun s4 => (bindP (r_put s4 x4) fun s5 => (bindP (r_put s5 x5) fun s6 => (some ((s6.v 2), s6))))))) else (some ((-1), s)))
noncomputable def r_back (s : RS) (x1 : Int32) : Option (Int32 × RS) := (if x1 < 0 then (some ((-1), s)) else (if x1 ≤ (s.v 2) then (letS (s.sv 2 ((s.v 2) - x1)) fun s3 => (some ((s3.v 2), s3))) else (some ((-1), s))))
noncomputable def r_byteAt (s : RS) (x1 : Int32) : Option (Int32 × RS) := (if (s.v 4) ≤ x1 then (some (0, s)) else (if vpb x1 2000 then (some (((s.f 3 (Int32.toNatClampNeg x1)) &&& 255), s)) else none))
noncomputable def r_isDigit (x0 : Int32) : Option Int32 := (if x0 < 48 then (some 0) else (if 57 < x0 then (some 0) else (some 1)))
noncomputable def r_isLetter (x0 : Int32) : Option Int32 := (if x0 < 97 then (some 0) else (if 122 < x0 then (some 0) else (some 1)))
noncomputable def r_appends (x0 : Int64) (x2 : Int32) : Option Int64 := (if x2 = 0 then (some x0) else (some ((27 * x0) + (Int32.toInt64 ((x2 - 97) + 1)))))
noncomputable def r_word (x0 : Int32) (x1 : Int32) (x2 : Int32) (x3 : Int32) (x4 : Int32) (x5 : Int32) (x6 : Int32) : Option Int64 := (bindP (r_appends 0 x0) fun r1 => (bindP (r_appends r1 x1) fun r2 => (bindP (r_appends r2 x2) fun r3 => (bindP (r_appends r3 x3) fun r4 => (bindP (r_appends r4 x4) fun r5 => (bindP (r_appends r5 x5) fun r6 => (bindP (r_appends r6 x6) fun r7 => (some r7))))))))
noncomputable def r_token (s : RS) (x1 : Int32) (x2 : Int32) (x3 : Int32) (x4 : Int64) : Option RS := (if vpb (s.v 10) 403 then (letS (s.sf 5 (Int32.toNatClampNeg (s.v 10)) x1) fun s2 => (if vpb (s2.v 10) 403 then (letS (s2.sf 6 (Int32.toNatClampNeg (s2.v 10)) x2) fun s5 => (if vpb (s5.v 10) 403 then (letS (s5.sf 7 (Int32.toNatClampNeg (s5.v 10)) x3) fun s8 => (if vpb (s8.v 10) 403 then (letS (s8.sg 8 (Int32.toNatClampNeg (s8.v 10)) x4) fun s11 => (letS (s11.sv 10 ((s11.v 10) + 1)) fun s13 => (some s13))) else none)) else none)) else none)) else none)
noncomputable def r_sign_95 (s : RS) (x1 : Int32) (x4 : Int32) : Option (Int32 × RS) := (bindP (r_token s x4 x1 0 0) fun s1 => (some (1, s1)))
noncomputable def r_sign_85 (s : RS) (x1 : Int32) (x2 : Int32) (x4 : Int32) : Option (Int32 × RS) := (if x2 = 60 then r_sign_95 s x1 13 else r_sign_95 s x1 x4)
noncomputable def r_sign_75 (s : RS) (x1 : Int32) (x2 : Int32) (x4 : Int32) : Option (Int32 × RS) := (if x2 = 47 then r_sign_85 s x1 x2 15 else r_sign_85 s x1 x2 x4)
noncomputable def r_sign_65 (s : RS) (x1 : Int32) (x2 : Int32) (x4 : Int32) : Option (Int32 × RS) := (if x2 = 42 then r_sign_75 s x1 x2 10 else r_sign_75 s x1 x2 x4)
noncomputable def r_sign_55 (s : RS) (x1 : Int32) (x2 : Int32) (x4 : Int32) : Option (Int32 × RS) := (if x2 = 45 then r_sign_65 s x1 x2 9 else r_sign_65 s x1 x2 x4)
noncomputable def r_sign_43 (s : RS) (x1 : Int32) (x2 : Int32) (t0 : Int32) : Option (Int32 × RS) := (if x2 = 43 then r_sign_55 s x1 x2 8 else r_sign_55 s x1 x2 t0)
noncomputable def r_sign (s : RS) (x1 : Int32) (x2 : Int32) (x3 : Int32) : Option (Int32 × RS) := (if x2 = 59 then r_sign_43 s x1 x2 4 else (if x2 = 61 then r_sign_43 s x1 x2 5 else (if x2 = 40 then r_sign_43 s x1 x2 6 else (if x2 = 41 then r_sign_43 s x1 x2 7 else r_sign_43 s x1 x2 3))))
noncomputable def r_cut_291 (k7 : RS → Int32 → Option RS) (s : RS) (x1 : Int32) : Option RS := k7 s x1
noncomputable def r_cut_67 (k7 : RS → Int32 → Option RS) (s : RS) (x1 : Int32) : Option RS := r_cut_291 k7 s (x1 + 1)
noncomputable def r_cut_261 (k7 : RS → Int32 → Option RS) (s : RS) (x1 : Int32) (x3 : Int32) (x4 : Int32) (t0 : Int32) : Option RS := (bindP (r_token s t0 x1 x4 0) fun s1 => r_cut_291 k7 s1 (x1 + x3))
noncomputable def r_cut_244 (k7 : RS → Int32 → Option RS) (k208 : RS → Int32 → Int32 → Int32 → Option RS) (s : RS) (x1 : Int32) (x3 : Int32) (x4 : Int32) : Option RS := k208 s x1 (x3 + 1) x4
noncomputable def r_cut_208 (k7 : RS → Int32 → Option RS) (k208 : RS → Int32 → Int32 → Int32 → Option RS) (s : RS) (x1 : Int32) (x3 : Int32) (x4 : Int32) : Option RS := (bindI (r_byteAt s (x1 + x3)) fun r2 s1 => (bindP (r_isDigit r2) fun r3 => (if r3 = 0 then (if x3 ≤ 4 then r_cut_261 k7 s1 x1 x3 x4 2 else r_cut_261 k7 s1 x1 x3 x4 3) else (if 4 ≤ x3 then r_cut_244 k7 k208 s1 x1 x3 x4 else (bindI (r_byteAt s1 (x1 + x3)) fun r8 s7 => r_cut_244 k7 k208 s7 x1 x3 (((10 * x4) + r8) - 48))))))
noncomputable def r_cut_208L (k7 : RS → Int32 → Option RS) : Nat → RS → Int32 → Int32 → Int32 → Option RS
  | 0, _, _, _, _ => none
  | n + 1, s, x1, x3, x4 => r_cut_208 k7 (r_cut_208L k7 n) s x1 x3 x4
noncomputable def r_cut_179 (k7 : RS → Int32 → Option RS) (s : RS) (x1 : Int32) (x3 : Int32) (x4 : Int64) (x6 : Int32) : Option RS := (bindP (r_token s x6 x1 0 x4) fun s1 => r_cut_291 k7 s1 (x1 + x3))
noncomputable def r_cut_173 (k7 : RS → Int32 → Option RS) (k146 : RS → Int32 → Int32 → Int64 → Int32 → Int32 → Option RS) (s : RS) (x1 : Int32) (x3 : Int32) (x4 : Int64) (x6 : Int32) (x7 : Int32) : Option RS := k146 s x1 x3 x4 x6 (x7 + 1)
noncomputable def r_cut_146 (k7 : RS → Int32 → Option RS) (k146 : RS → Int32 → Int32 → Int64 → Int32 → Int32 → Option RS) (s : RS) (x1 : Int32) (x3 : Int32) (x4 : Int64) (x6 : Int32) (x7 : Int32) : Option RS := (if 19 ≤ x7 then r_cut_179 k7 s x1 x3 x4 x6 else (if vpb x7 19 then (if (lg_cmp (s.g 9 (Int32.toNatClampNeg x7)) x4) = 0 then r_cut_173 k7 k146 s x1 x3 x4 (20 + x7) x7 else r_cut_173 k7 k146 s x1 x3 x4 x6 x7) else none))
noncomputable def r_cut_146L (k7 : RS → Int32 → Option RS) : Nat → RS → Int32 → Int32 → Int64 → Int32 → Int32 → Option RS
  | 0, _, _, _, _, _, _ => none
  | n + 1, s, x1, x3, x4, x6, x7 => r_cut_146 k7 (r_cut_146L k7 n) s x1 x3 x4 x6 x7
noncomputable def r_cut_135 (k7 : RS → Int32 → Option RS) (s : RS) (x1 : Int32) (x3 : Int32) (x4 : Int64) (t0 : Int32) : Option RS := (if 8 < x3 then r_cut_179 k7 s x1 x3 x4 t0 else r_cut_146L k7 fu s x1 x3 x4 t0 0)
noncomputable def r_cut_118 (k7 : RS → Int32 → Option RS) (k85 : RS → Int32 → Int32 → Int64 → Option RS) (s : RS) (x1 : Int32) (x3 : Int32) (x4 : Int64) : Option RS := k85 s x1 (x3 + 1) x4
noncomputable def r_cut_85 (k7 : RS → Int32 → Option RS) (k85 : RS → Int32 → Int32 → Int64 → Option RS) (s : RS) (x1 : Int32) (x3 : Int32) (x4 : Int64) : Option RS := (bindI (r_byteAt s (x1 + x3)) fun r2 s1 => (bindP (r_isLetter r2) fun r3 => (if r3 = 0 then (if x3 ≤ 8 then r_cut_135 k7 s1 x1 x3 x4 1 else r_cut_135 k7 s1 x1 x3 x4 3) else (if 8 ≤ x3 then r_cut_118 k7 k85 s1 x1 x3 x4 else (bindI (r_byteAt s1 (x1 + x3)) fun r8 s7 => (bindP (r_appends x4 r8) fun r9 => r_cut_118 k7 k85 s7 x1 x3 r9))))))
noncomputable def r_cut_85L (k7 : RS → Int32 → Option RS) : Nat → RS → Int32 → Int32 → Int64 → Option RS
  | 0, _, _, _, _ => none
  | n + 1, s, x1, x3, x4 => r_cut_85 k7 (r_cut_85L k7 n) s x1 x3 x4
noncomputable def r_cut_7 (k7 : RS → Int32 → Option RS) (s : RS) (x1 : Int32) : Option RS := (if 400 < (s.v 10) then (some s) else (bindI (r_byteAt s x1) fun r3 s2 => (if x1 < (s2.v 4) then (if r3 = 9 then r_cut_67 k7 s2 x1 else (if r3 = 10 then r_cut_67 k7 s2 x1 else (if r3 = 13 then r_cut_67 k7 s2 x1 else (if r3 = 32 then r_cut_67 k7 s2 x1 else (bindP (r_isLetter r3) fun r9 => (if r9 = 0 then (bindP (r_isDigit r3) fun r11 => (if r11 = 0 then (bindI (r_byteAt s2 (x1 + 1)) fun r14 s13 => (bindI (r_sign s13 x1 r3 r14) fun r16 s15 => r_cut_291 k7 s15 (x1 + r16))) else r_cut_208L k7 fu s2 x1 0 0)) else r_cut_85L k7 fu s2 x1 0 0)))))) else (bindP (r_token s2 0 (s2.v 4) 0 0) fun s17 => (some s17)))))
noncomputable def r_cut_7L : Nat → RS → Int32 → Option RS
  | 0, _, _ => none
  | n + 1, s, x1 => r_cut_7 (r_cut_7L n) s x1
noncomputable def r_cut (s : RS) : Option RS := (letS (s.sv 10 0) fun s1 => r_cut_7L fu s1 0)
noncomputable def r_is (s : RS) (x1 : Int32) : Option (Int32 × RS) := (if (s.v 13) = 0 then (if vpb (s.v 11) 403 then (if (s.f 5 (Int32.toNatClampNeg (s.v 11))) = x1 then (some (1, s)) else (some (0, s))) else none) else (some (0, s)))
noncomputable def r_fail (s : RS) (x1 : Int32) : Option RS := (if (s.v 13) ≤ 0 then (letS (s.sv 13 x1) fun s2 => (if vpb (s2.v 11) 403 then (letS (s2.sv 14 (s2.f 6 (Int32.toNatClampNeg (s2.v 11)))) fun s5 => (some s5)) else none)) else (some s))
noncomputable def r_wrong_46 (s : RS) (x1 : Int32) (x3 : Int32) : Option RS := (letS (s.sv 15 x1) fun s1 => (letS (s1.sv 16 x3) fun s3 => (some s3)))
noncomputable def r_wrong (s : RS) (x1 : Int32) (x2 : Int32) : Option RS := (if vpb x2 403 then (if 0 < (s.v 13) then (some s) else (if (s.v 15) = 0 then r_wrong_46 s x1 (s.f 6 (Int32.toNatClampNeg x2)) else (if (s.v 16) < (s.f 6 (Int32.toNatClampNeg x2)) then (some s) else (if (s.f 6 (Int32.toNatClampNeg x2)) = (s.v 16) then (if x1 < (s.v 15) then r_wrong_46 s x1 (s.f 6 (Int32.toNatClampNeg x2)) else (some s)) else r_wrong_46 s x1 (s.f 6 (Int32.toNatClampNeg x2)))))) else none)
noncomputable def r_goesOn (s : RS) : Option RS := (if (s.v 11) = 400 then (bindP (r_fail s 2) fun s4 => (some s4)) else (letS (s.sv 11 ((s.v 11) + 1)) fun s2 => (some s2)))
noncomputable def r_must (s : RS) (x1 : Int32) : Option RS := (bindI (r_is s x1) fun r2 s1 => (if r2 = 0 then (bindP (r_fail s1 1) fun s4 => (some s4)) else (bindP (r_goesOn s1) fun s5 => (some s5))))
noncomputable def r_plain_23 (k23 : RS → Int32 → Int32 → Option RS) (s : RS) (x1 : Int32) (x2 : Int32) : Option RS := (if 4 ≤ x2 then (some s) else (if vpb ((4 * x1) + x2) 8 then (letS (s.sf 27 (Int32.toNatClampNeg ((4 * x1) + x2)) 0) fun s3 => (if vpb ((4 * x1) + x2) 8 then (letS (s3.sf 28 (Int32.toNatClampNeg ((4 * x1) + x2)) 0) fun s6 => k23 s6 x1 (x2 + 1)) else none)) else none))
noncomputable def r_plain_23L : Nat → RS → Int32 → Int32 → Option RS
  | 0, _, _, _ => none
  | n + 1, s, x1, x2 => r_plain_23 (r_plain_23L n) s x1 x2
noncomputable def r_plain (s : RS) (x1 : Int32) : Option RS := (if vpb x1 2 then (letS (s.sf 20 (Int32.toNatClampNeg x1) 0) fun s2 => (if vpb x1 2 then (letS (s2.sf 23 (Int32.toNatClampNeg x1) 0) fun s5 => (if vpb x1 2 then (letS (s5.sf 26 (Int32.toNatClampNeg x1) 0) fun s8 => r_plain_23L fu s8 x1 0) else none)) else none)) else none)
noncomputable def r_roomFor_10 (s : RS) : Option RS := (if (s.v 13) = 0 then (bindP (r_goesOn s) fun s2 => (some s2)) else (some s))
noncomputable def r_roomFor (s : RS) (x1 : Int32) (x2 : Int32) : Option RS := (if x1 = x2 then (bindP (r_fail s 2) fun s2 => r_roomFor_10 s2) else r_roomFor_10 s)
noncomputable def r_bounded_15 (s : RS) : Option (Int32 × RS) := (bindP (r_fail s 1) fun s1 => (some (0, s1)))
noncomputable def r_bounded_46 (s : RS) (x2 : Int32) : Option (Int32 × RS) := (bindP (r_goesOn s) fun s1 => (some (x2, s1)))
noncomputable def r_bounded (s : RS) (x1 : Int32) : Option (Int32 × RS) := (if 0 < (s.v 13) then r_bounded_15 s else (bindI (r_is s 2) fun r3 s2 => (if r3 = 0 then r_bounded_15 s2 else (if vpb (s2.v 11) 403 then (if (s2.f 7 (Int32.toNatClampNeg (s2.v 11))) ≤ x1 then r_bounded_46 s2 (s2.f 7 (Int32.toNatClampNeg (s2.v 11))) else (bindP (r_wrong s2 5 (s2.v 11)) fun s7 => r_bounded_46 s7 (s2.f 7 (Int32.toNatClampNeg (s2.v 11))))) else none))))
noncomputable def r_tellWave_93 (s : RS) : Option RS := (bindP (r_must s 4) fun s1 => (if vpb (s1.v 19) 2 then (if vpb (s1.v 19) 2 then (letS (s1.sf 20 (Int32.toNatClampNeg (s1.v 19)) ((s1.f 20 (Int32.toNatClampNeg (s1.v 19))) + 1)) fun s4 => (some s4)) else none) else none))
noncomputable def r_tellWave_31 (k31 : RS → Int32 → Int32 → Int32 → Int32 → Option RS) (s : RS) (x1 : Int32) (x2 : Int32) (x3 : Int32) (x4 : Int32) : Option RS := (if 6 ≤ x4 then (if (s.v 13) = 0 then (if x2 = 0 then (bindP (r_wrong s 5 x3) fun s4 => r_tellWave_93 s4) else r_tellWave_93 s) else r_tellWave_93 s) else (bindI (r_bounded s 9) fun r6 s5 => (if vpb (x1 + x4) 60 then (letS (s5.sf 21 (Int32.toNatClampNeg (x1 + x4)) r6) fun s8 => (if vpb (x1 + x4) 60 then k31 s8 x1 (x2 + (s8.f 21 (Int32.toNatClampNeg (x1 + x4)))) (s.v 11) (x4 + 1) else none)) else none)))
noncomputable def r_tellWave_31L : Nat → RS → Int32 → Int32 → Int32 → Int32 → Option RS
  | 0, _, _, _, _, _ => none
  | n + 1, s, x1, x2, x3, x4 => r_tellWave_31 (r_tellWave_31L n) s x1 x2 x3 x4
noncomputable def r_tellWave (s : RS) : Option RS := (if vpb (s.v 19) 2 then r_tellWave_31L fu s ((30 * (s.v 19)) + (6 * (s.f 20 (Int32.toNatClampNeg (s.v 19))))) 0 (s.v 11) 0 else none)
noncomputable def r_tellParty_78 (s : RS) (x1 : Int32) (x2 : Int32) : Option RS := (bindI (r_bounded s 9) fun r2 s1 => (if vpb x1 12 then (letS (s1.sf 24 (Int32.toNatClampNeg x1) r2) fun s4 => (bindI (r_bounded s4 9) fun r7 s6 => (if vpb x1 12 then (letS (s6.sf 25 (Int32.toNatClampNeg x1) r7) fun s9 => (bindP (r_must s9 4) fun s11 => (if (s11.v 13) ≤ 0 then (if vpb (s11.v 19) 2 then (if vpb x2 403 then (if vpb (s11.f 23 (Int32.toNatClampNeg (s11.v 19))) 6 then (letS (s11.sg 22 (Int32.toNatClampNeg (s11.f 23 (Int32.toNatClampNeg (s11.v 19)))) (s11.g 8 (Int32.toNatClampNeg x2))) fun s16 => (if vpb (s16.v 19) 2 then (if vpb (s16.v 19) 2 then (letS (s16.sf 23 (Int32.toNatClampNeg (s16.v 19)) ((s16.f 23 (Int32.toNatClampNeg (s16.v 19))) + 1)) fun s20 => (some s20)) else none) else none)) else none) else none) else none) else (some s11)))) else none))) else none))
noncomputable def r_tellParty_72 (k30 : RS → Int32 → Int32 → Int32 → Option RS) (s : RS) (x1 : Int32) (x2 : Int32) (x3 : Int32) : Option RS := k30 s x1 x2 (x3 + 1)
noncomputable def r_tellParty_30 (k30 : RS → Int32 → Int32 → Int32 → Option RS) (s : RS) (x1 : Int32) (x2 : Int32) (x3 : Int32) : Option RS := (if vpb (s.v 19) 2 then (if (s.f 23 (Int32.toNatClampNeg (s.v 19))) ≤ x3 then r_tellParty_78 s x1 x2 else (if (s.v 13) = 0 then (if vpb x3 6 then (if vpb x2 403 then (if (lg_cmp (s.g 22 (Int32.toNatClampNeg x3)) (s.g 8 (Int32.toNatClampNeg x2))) = 0 then (bindP (r_wrong s 3 x2) fun s7 => r_tellParty_72 k30 s7 x1 x2 x3) else r_tellParty_72 k30 s x1 x2 x3) else none) else none) else r_tellParty_78 s x1 x2)) else none)
noncomputable def r_tellParty_30L : Nat → RS → Int32 → Int32 → Int32 → Option RS
  | 0, _, _, _, _ => none
  | n + 1, s, x1, x2, x3 => r_tellParty_30 (r_tellParty_30L n) s x1 x2 x3
noncomputable def r_tellParty (s : RS) : Option RS := (if vpb (s.v 19) 2 then (bindP (r_must s 1) fun s2 => r_tellParty_30L fu s2 ((6 * (s.v 19)) + (s.f 23 (Int32.toNatClampNeg (s.v 19)))) (s.v 11) 0) else none)
noncomputable def r_emit (s : RS) (x1 : Int32) (x2 : Int32) : Option RS := (if vpb (s.v 35) 840 then (letS (s.sf 36 (Int32.toNatClampNeg (s.v 35)) x1) fun s2 => (if vpb (s2.v 35) 840 then (letS (s2.sf 37 (Int32.toNatClampNeg (s2.v 35)) x2) fun s5 => (letS (s5.sv 35 ((s5.v 35) + 1)) fun s7 => (some s7))) else none)) else none)
noncomputable def r_unit_88 (s : RS) : Option RS := (bindP (r_fail s 1) fun s1 => (some s1))
noncomputable def r_unit (s : RS) : Option RS := (bindI (r_is s 2) fun r2 s1 => (if r2 = 0 then (if (s1.v 13) = 0 then (if vpb (s1.v 11) 403 then (if (s1.f 5 (Int32.toNatClampNeg (s1.v 11))) < 30 then r_unit_88 s1 else (if vpb (s1.v 11) 403 then (if 38 < (s1.f 5 (Int32.toNatClampNeg (s1.v 11))) then r_unit_88 s1 else (if vpb (s1.v 11) 403 then (bindP (r_emit s1 1 ((s1.f 5 (Int32.toNatClampNeg (s1.v 11))) - 30)) fun s10 => (bindP (r_goesOn s10) fun s11 => (some s11))) else none)) else none)) else none) else r_unit_88 s1) else (if vpb (s1.v 11) 403 then (bindP (r_emit s1 0 (s1.f 7 (Int32.toNatClampNeg (s1.v 11)))) fun s13 => (bindP (r_goesOn s13) fun s14 => (some s14))) else none)))
noncomputable def r_comesOut_84 (k0 : RS → Int32 → Option RS) (s : RS) (x1 : Int32) (t0 : Int32) : Option RS := (bindP (r_emit s t0 0) fun s1 => k0 s1 x1)
noncomputable def r_comesOut_42 (k0 : RS → Int32 → Option RS) (s : RS) (x1 : Int32) (x2 : Int32) : Option RS := (letS (s.sv 39 ((s.v 39) - 1)) fun s1 => (if x2 = 8 then r_comesOut_84 k0 s1 x1 2 else (if x2 = 9 then r_comesOut_84 k0 s1 x1 3 else (if x2 = 10 then r_comesOut_84 k0 s1 x1 4 else r_comesOut_84 k0 s1 x1 5))))
noncomputable def r_comesOut_0 (k0 : RS → Int32 → Option RS) (s : RS) (x1 : Int32) : Option RS := (if (s.v 39) ≤ 0 then (some s) else (if vpb ((s.v 39) - 1) 64 then (if (s.f 38 (Int32.toNatClampNeg ((s.v 39) - 1))) = 6 then (some s) else (if x1 = 0 then r_comesOut_42 k0 s x1 (s.f 38 (Int32.toNatClampNeg ((s.v 39) - 1))) else (if (s.f 38 (Int32.toNatClampNeg ((s.v 39) - 1))) = 8 then (some s) else (if (s.f 38 (Int32.toNatClampNeg ((s.v 39) - 1))) = 9 then (some s) else r_comesOut_42 k0 s x1 (s.f 38 (Int32.toNatClampNeg ((s.v 39) - 1))))))) else none))
noncomputable def r_comesOut_0L : Nat → RS → Int32 → Option RS
  | 0, _, _ => none
  | n + 1, s, x1 => r_comesOut_0 (r_comesOut_0L n) s x1
noncomputable def r_comesOut (s : RS) (x1 : Int32) : Option RS := r_comesOut_0L fu s x1
noncomputable def r_expression_234 (k12 : RS → Int32 → Int32 → Option RS) (s : RS) (x1 : Int32) (x2 : Int32) (t0 : Int32) : Option RS := (bindP (r_comesOut s t0) fun s1 => (if vpb (s1.v 11) 403 then (if vpb (s1.v 39) 64 then (letS (s1.sf 38 (Int32.toNatClampNeg (s1.v 39)) (s1.f 5 (Int32.toNatClampNeg (s1.v 11)))) fun s4 => (letS (s4.sv 39 ((s4.v 39) + 1)) fun s6 => (bindP (r_goesOn s6) fun s8 => k12 s8 x1 x2))) else none) else none))
noncomputable def r_expression_229 (k12 : RS → Int32 → Int32 → Option RS) (s : RS) (x1 : Int32) (x2 : Int32) : Option RS := r_expression_234 k12 s x1 x2 1
noncomputable def r_expression_204 (s : RS) : Option RS := (bindP (r_comesOut s 0) fun s1 => (some s1))
noncomputable def r_expression_186 (k12 : RS → Int32 → Int32 → Option RS) (s : RS) (x1 : Int32) (t0 : Int32) : Option RS := (if t0 = 0 then (if (s.v 12) ≤ x1 then r_expression_204 s else (bindP (r_fail s 1) fun s9 => r_expression_204 s9)) else (bindI (r_is s 10) fun r3 s2 => (if r3 = 0 then (bindI (r_is s2 15) fun r6 s5 => (if r6 = 0 then r_expression_234 k12 s5 x1 t0 0 else r_expression_229 k12 s5 x1 t0)) else r_expression_229 k12 s2 x1 t0)))
noncomputable def r_expression_181 (k12 : RS → Int32 → Int32 → Option RS) (s : RS) (x1 : Int32) : Option RS := r_expression_186 k12 s x1 1
noncomputable def r_expression_145 (k12 : RS → Int32 → Int32 → Option RS) (s : RS) (x1 : Int32) : Option RS := (bindI (r_is s 8) fun r2 s1 => (if r2 = 0 then (bindI (r_is s1 9) fun r5 s4 => (if r5 = 0 then (bindI (r_is s4 10) fun r8 s7 => (if r8 = 0 then (bindI (r_is s7 15) fun r11 s10 => (if r11 = 0 then r_expression_186 k12 s10 x1 0 else r_expression_181 k12 s10 x1)) else r_expression_181 k12 s7 x1)) else r_expression_181 k12 s4 x1)) else r_expression_181 k12 s1 x1))
noncomputable def r_expression_96 (k12 : RS → Int32 → Int32 → Option RS) (k96 : RS → Int32 → Option RS) (s : RS) (x1 : Int32) : Option RS := (bindI (r_is s 7) fun r2 s1 => (if r2 = 0 then r_expression_145 k12 s1 x1 else (if (s1.v 12) ≤ x1 then r_expression_145 k12 s1 x1 else (bindP (r_comesOut s1 0) fun s5 => (letS (s5.sv 39 ((s5.v 39) - 1)) fun s6 => (letS (s6.sv 12 ((s6.v 12) - 1)) fun s8 => (bindP (r_goesOn s8) fun s10 => k96 s10 x1)))))))
noncomputable def r_expression_96L (k12 : RS → Int32 → Int32 → Option RS) : Nat → RS → Int32 → Option RS
  | 0, _, _ => none
  | n + 1, s, x1 => r_expression_96 k12 (r_expression_96L k12 n) s x1
noncomputable def r_expression_46 (k12 : RS → Int32 → Int32 → Option RS) (k23 : RS → Int32 → Option RS) (s : RS) (x1 : Int32) : Option RS := (letS (s.sv 12 ((s.v 12) + 1)) fun s1 => (bindP (r_goesOn s1) fun s3 => (if vpb (s3.v 39) 64 then (letS (s3.sf 38 (Int32.toNatClampNeg (s3.v 39)) 6) fun s5 => (letS (s5.sv 39 ((s5.v 39) + 1)) fun s7 => k23 s7 x1)) else none)))
noncomputable def r_expression_23 (k12 : RS → Int32 → Int32 → Option RS) (k23 : RS → Int32 → Option RS) (s : RS) (x1 : Int32) : Option RS := (bindI (r_is s 6) fun r2 s1 => (if r2 = 0 then (bindP (r_unit s1) fun s4 => (if (s4.v 13) ≤ 0 then r_expression_96L k12 fu s4 x1 else (some s4))) else (if (s1.v 12) = 6 then (bindP (r_fail s1 2) fun s7 => r_expression_46 k12 k23 s7 x1) else r_expression_46 k12 k23 s1 x1)))
noncomputable def r_expression_23L (k12 : RS → Int32 → Int32 → Option RS) : Nat → RS → Int32 → Option RS
  | 0, _, _ => none
  | n + 1, s, x1 => r_expression_23 k12 (r_expression_23L k12 n) s x1
noncomputable def r_expression_12 (k12 : RS → Int32 → Int32 → Option RS) (s : RS) (x1 : Int32) (x2 : Int32) : Option RS := (if x2 = 0 then (some s) else (if (s.v 13) = 0 then r_expression_23L k12 fu s x1 else (some s)))
noncomputable def r_expression_12L : Nat → RS → Int32 → Int32 → Option RS
  | 0, _, _, _ => none
  | n + 1, s, x1, x2 => r_expression_12 (r_expression_12L n) s x1 x2
noncomputable def r_expression (s : RS) : Option RS := (letS (s.sv 39 0) fun s1 => r_expression_12L fu s1 (s1.v 12) 1)
noncomputable def r_term_24 (s : RS) : Option RS := (if vpb (s.v 29) 260 then (letS (s.sf 34 (Int32.toNatClampNeg (s.v 29)) (s.v 35)) fun s2 => (letS (s2.sv 29 ((s2.v 29) + 1)) fun s4 => (some s4))) else none)
noncomputable def r_term (s : RS) : Option RS := (if vpb (s.v 29) 260 then (letS (s.sf 33 (Int32.toNatClampNeg (s.v 29)) (s.v 35)) fun s2 => (if (s2.v 13) = 0 then (bindP (r_expression s2) fun s5 => r_term_24 s5) else r_term_24 s2)) else none)
noncomputable def r_tellLaw_129 (s : RS) (x1 : Int32) (x2 : Int32) : Option RS := (if vpb (s.v 29) 260 then (letS (s.sf 30 (Int32.toNatClampNeg (s.v 29)) (vp_nar .boolean 0)) fun s2 => (bindP (r_term s2) fun s4 => (bindP (r_must s4 4) fun s5 => (if (s5.v 13) ≤ 0 then (if vpb ((4 * (s5.v 19)) + x1) 8 then (letS (s5.sf 27 (Int32.toNatClampNeg ((4 * (s5.v 19)) + x1)) x2) fun s8 => (if vpb ((4 * (s8.v 19)) + x1) 8 then (letS (s8.sf 28 (Int32.toNatClampNeg ((4 * (s8.v 19)) + x1)) (s8.v 29)) fun s11 => (some s11)) else none)) else none) else (some s5))))) else none)
noncomputable def r_tellLaw_110 (k12 : RS → Int32 → Int32 → Int32 → Option RS) (s : RS) (x1 : Int32) (x2 : Int32) (x3 : Int32) : Option RS := (bindP (r_must s 28) fun s1 => (bindP (r_term s1) fun s2 => (bindP (r_must s2 29) fun s3 => k12 s3 x1 x2 x3)))
noncomputable def r_tellLaw_38 (k12 : RS → Int32 → Int32 → Int32 → Option RS) (s : RS) (x1 : Int32) (x2 : Int32) (x3 : Int32) : Option RS := (if (s.v 13) ≤ 0 then (bindP (r_goesOn s) fun s2 => (if vpb (s2.v 29) 260 then (letS (s2.sf 30 (Int32.toNatClampNeg (s2.v 29)) (vp_nar .boolean 1)) fun s4 => (if vpb (s4.v 29) 260 then (letS (s4.sf 31 (Int32.toNatClampNeg (s4.v 29)) (s4.v 35)) fun s7 => (bindP (r_expression s7) fun s9 => (bindP (r_must s9 13) fun s10 => (if vpb (s10.v 29) 260 then (letS (s10.sf 32 (Int32.toNatClampNeg (s10.v 29)) (s10.v 35)) fun s12 => (if (s12.v 13) = 0 then (bindP (r_expression s12) fun s15 => r_tellLaw_110 k12 s15 x1 x2 (x3 + 1)) else r_tellLaw_110 k12 s12 x1 x2 (x3 + 1))) else none)))) else none)) else none)) else (some s))
noncomputable def r_tellLaw_12 (k12 : RS → Int32 → Int32 → Int32 → Option RS) (s : RS) (x1 : Int32) (x2 : Int32) (x3 : Int32) : Option RS := (if (s.v 13) = 0 then (bindI (r_is s 27) fun r3 s2 => (if r3 = 0 then r_tellLaw_129 s2 x1 x2 else (if x3 = 4 then (bindP (r_fail s2 2) fun s6 => r_tellLaw_38 k12 s6 x1 x2 x3) else r_tellLaw_38 k12 s2 x1 x2 x3))) else r_tellLaw_129 s x1 x2)
noncomputable def r_tellLaw_12L : Nat → RS → Int32 → Int32 → Int32 → Option RS
  | 0, _, _, _, _ => none
  | n + 1, s, x1, x2, x3 => r_tellLaw_12 (r_tellLaw_12L n) s x1 x2 x3
noncomputable def r_tellLaw (s : RS) (x1 : Int32) : Option RS := (bindP (r_must s 5) fun s1 => r_tellLaw_12L fu s1 x1 (s1.v 29) 0)
noncomputable def r_tellOne_165 (s : RS) (x1 : Int32) : Option RS := (if (s.v 13) ≤ 0 then (bindP (r_goesOn s) fun s2 => (bindP (r_tellLaw s2 x1) fun s3 => (some s3))) else (some s))
noncomputable def r_tellOne_160 (s : RS) (x1 : Int32) : Option RS := (bindP (r_fail s 1) fun s1 => r_tellOne_165 s1 x1)
noncomputable def r_tellOne (s : RS) : Option RS := (if vpb (s.v 11) 403 then (if (s.f 5 (Int32.toNatClampNeg (s.v 11))) = 20 then (if vpb (s.v 19) 2 then (bindP (r_roomFor s (s.f 20 (Int32.toNatClampNeg (s.v 19))) 5) fun s4 => (if (s4.v 13) = 0 then (bindP (r_tellWave s4) fun s6 => (some s6)) else (some s4))) else none) else (if (s.f 5 (Int32.toNatClampNeg (s.v 11))) = 21 then (if vpb (s.v 19) 2 then (bindP (r_roomFor s (s.f 23 (Int32.toNatClampNeg (s.v 19))) 6) fun s9 => (if (s9.v 13) = 0 then (bindP (r_tellParty s9) fun s11 => (some s11)) else (some s9))) else none) else (if (s.f 5 (Int32.toNatClampNeg (s.v 11))) = 26 then (bindP (r_goesOn s) fun s13 => (bindI (r_bounded s13 9999) fun r15 s14 => (if vpb (s13.v 19) 2 then (letS (s14.sf 26 (Int32.toNatClampNeg (s13.v 19)) r15) fun s17 => (bindP (r_must s17 4) fun s19 => (some s19))) else none))) else (if vpb (s.v 11) 403 then (if ((s.f 5 (Int32.toNatClampNeg (s.v 11))) - 22) < 0 then r_tellOne_160 s ((s.f 5 (Int32.toNatClampNeg (s.v 11))) - 22) else (if vpb (s.v 11) 403 then (if (s.f 5 (Int32.toNatClampNeg (s.v 11))) ≤ 25 then r_tellOne_165 s ((s.f 5 (Int32.toNatClampNeg (s.v 11))) - 22) else r_tellOne_160 s ((s.f 5 (Int32.toNatClampNeg (s.v 11))) - 22)) else none)) else none)))) else none)
noncomputable def r_begins_46 (k46 : RS → Int32 → Option RS) (s : RS) (x1 : Int32) : Option RS := (if 6 ≤ x1 then (if vpb (s.v 18) 2 then (letS (s.sv 45 (s.f 26 (Int32.toNatClampNeg (s.v 18)))) fun s3 => (some s3)) else none) else (if vpb (x1 - 1) 6 then (if vpb x1 6 then (letS (s.sf 46 (Int32.toNatClampNeg x1) (6 * (s.f 46 (Int32.toNatClampNeg (x1 - 1))))) fun s7 => k46 s7 (x1 + 1)) else none) else none))
noncomputable def r_begins_46L : Nat → RS → Int32 → Option RS
  | 0, _, _ => none
  | n + 1, s, x1 => r_begins_46 (r_begins_46L n) s x1
noncomputable def r_begins_30 (k2 : RS → Int32 → Option RS) (s : RS) (x1 : Int32) (t0 : Int32) (t1 : Int32) : Option RS := (if vpb t1 29 then (letS (s.sf 44 (Int32.toNatClampNeg t1) t0) fun s2 => k2 s2 (x1 + 1)) else none)
noncomputable def r_begins_29 (k2 : RS → Int32 → Option RS) (s : RS) (x1 : Int32) (t0 : Int32) : Option RS := r_begins_30 k2 s x1 0 t0
noncomputable def r_begins_2 (k2 : RS → Int32 → Option RS) (s : RS) (x1 : Int32) : Option RS := (if 29 ≤ x1 then (letS (s.sf 46 0 1) fun s2 => r_begins_46L fu s2 1) else (if x1 < 5 then r_begins_29 k2 s x1 x1 else (if 10 ≤ x1 then r_begins_29 k2 s x1 x1 else r_begins_30 k2 s x1 (-2) x1)))
noncomputable def r_begins_2L : Nat → RS → Int32 → Option RS
  | 0, _, _ => none
  | n + 1, s, x1 => r_begins_2 (r_begins_2L n) s x1
noncomputable def r_begins (s : RS) : Option RS := r_begins_2L fu s 0
noncomputable def r_keepsRow_2 (k2 : RS → Int32 → Option RS) (s : RS) (x1 : Int32) : Option RS := (if 29 ≤ x1 then (some s) else (if vpb x1 29 then (if vpb x1 29 then (letS (s.sf 43 (Int32.toNatClampNeg x1) (s.f 44 (Int32.toNatClampNeg x1))) fun s4 => k2 s4 (x1 + 1)) else none) else none))
noncomputable def r_keepsRow_2L : Nat → RS → Int32 → Option RS
  | 0, _, _ => none
  | n + 1, s, x1 => r_keepsRow_2 (r_keepsRow_2L n) s x1
noncomputable def r_keepsRow (s : RS) : Option RS := r_keepsRow_2L fu s 0
noncomputable def r_read_214 (k214 : RS → Int32 → Option (Int32 × RS)) (s : RS) (x1 : Int32) : Option (Int32 × RS) := (if 3 ≤ x1 then (some (0, s)) else (if vpb x1 3 then (letS (s.sf 56 (Int32.toNatClampNeg x1) (vp_nar .boolean 0)) fun s3 => k214 s3 (x1 + 1)) else none))
noncomputable def r_read_214L : Nat → RS → Int32 → Option (Int32 × RS)
  | 0, _, _ => none
  | n + 1, s, x1 => r_read_214 (r_read_214L n) s x1
noncomputable def r_read_159 (s : RS) (t0 : Int32) : Option (Int32 × RS) := (letS (s.sv 17 t0) fun s1 => (if (s1.v 13) ≤ 0 then (if (s1.v 15) ≤ 0 then (letS (s1.sv 18 (s1.v 19)) fun s5 => (bindP (r_begins s5) fun s7 => (bindP (r_keepsRow s7) fun s8 => (letS (s8.sv 48 0) fun s9 => (letS (s9.sv 51 0) fun s11 => r_read_214L fu s11 0))))) else (some ((s1.v 15), s1))) else (some ((s1.v 13), s1))))
noncomputable def r_read_129 (s : RS) : Option (Int32 × RS) := (if (s.v 13) ≤ 0 then (if (s.v 15) ≤ 0 then r_read_159 s (-1) else r_read_159 s (s.v 16)) else r_read_159 s (s.v 14))
noncomputable def r_read_107 (k107 : RS → Option (Int32 × RS)) (s : RS) : Option (Int32 × RS) := (if (s.v 13) = 0 then (bindI (r_is s 0) fun r3 s2 => (if r3 = 0 then (bindP (r_tellOne s2) fun s5 => k107 s5) else r_read_129 s2)) else r_read_129 s)
noncomputable def r_read_107L : Nat → RS → Option (Int32 × RS)
  | 0, _ => none
  | n + 1, s => r_read_107 (r_read_107L n) s
noncomputable def r_read_10 (k10 : RS → Int32 → Option (Int32 × RS)) (s : RS) (x1 : Int32) : Option (Int32 × RS) := (if (s.v 4) ≤ x1 then (letS (s.sv 2 0) fun s2 => (bindP (r_cut s2) fun s4 => (letS (s4.sv 11 0) fun s5 => (letS (s5.sv 12 0) fun s7 => (letS (s7.sv 13 0) fun s9 => (letS (s9.sv 15 0) fun s11 => (letS (s11.sv 19 (1 - (s11.v 18))) fun s13 => (bindP (r_plain s13 (s13.v 19)) fun s15 => (letS (s15.sv 29 (130 * (s15.v 19))) fun s16 => (letS (s16.sv 35 (420 * (s16.v 19))) fun s18 => r_read_107L fu s18)))))))))) else (if vpb x1 2000 then (if vpb x1 2000 then (letS (s.sf 3 (Int32.toNatClampNeg x1) (vp_nar .byte (s.f 1 (Int32.toNatClampNeg x1)))) fun s22 => k10 s22 (x1 + 1)) else none) else none))
noncomputable def r_read_10L : Nat → RS → Int32 → Option (Int32 × RS)
  | 0, _, _ => none
  | n + 1, s, x1 => r_read_10 (r_read_10L n) s x1
noncomputable def r_read (s : RS) : Option (Int32 × RS) := (letS (s.sv 4 (s.v 2)) fun s1 => r_read_10L fu s1 0)
noncomputable def r_place (s : RS) : Option (Int32 × RS) := (some ((s.v 17), s))
noncomputable def r_termOf_159 (k5 : RS → Int32 → Int32 → Int32 → Option (Int32 × RS)) (s : RS) (x2 : Int32) (x3 : Int32) (x4 : Int32) : Option (Int32 × RS) := k5 s x2 x3 (x4 + 1)
noncomputable def r_termOf_158 (k5 : RS → Int32 → Int32 → Int32 → Option (Int32 × RS)) (s : RS) (x2 : Int32) (x3 : Int32) (x4 : Int32) (t0 : Int32) (t1 : Int32) : Option (Int32 × RS) := (if vpb t1 400 then (letS (s.sf 41 (Int32.toNatClampNeg t1) t0) fun s2 => r_termOf_159 k5 s2 x2 x3 x4) else none)
noncomputable def r_termOf_104 (k5 : RS → Int32 → Int32 → Int32 → Option (Int32 × RS)) (s : RS) (x2 : Int32) (x3 : Int32) (x4 : Int32) (x5 : Int32) (x6 : Int32) (x7 : Int32) : Option (Int32 × RS) := (if x5 = 2 then r_termOf_158 k5 s x2 x3 x4 (x6 + x7) (x3 - 1) else (if x5 = 3 then r_termOf_158 k5 s x2 x3 x4 (x6 - x7) (x3 - 1) else (if x5 = 4 then r_termOf_158 k5 s x2 x3 x4 (x6 * x7) (x3 - 1) else (if ¬ x7 = 0 then r_termOf_158 k5 s x2 x3 x4 (x6 / x7) (x3 - 1) else none))))
noncomputable def r_termOf_58 (k5 : RS → Int32 → Int32 → Int32 → Option (Int32 × RS)) (s : RS) (x2 : Int32) (x3 : Int32) (x4 : Int32) (t0 : Int32) (t1 : Int32) : Option (Int32 × RS) := (if vpb t1 400 then (letS (s.sf 41 (Int32.toNatClampNeg t1) t0) fun s2 => r_termOf_159 k5 s2 x2 (x3 + 1) x4) else none)
noncomputable def r_termOf_5 (k5 : RS → Int32 → Int32 → Int32 → Option (Int32 × RS)) (s : RS) (x2 : Int32) (x3 : Int32) (x4 : Int32) : Option (Int32 × RS) := (if x2 ≤ x4 then (some ((s.f 41 0), s)) else (if vpb x4 840 then (if 2 ≤ (s.f 36 (Int32.toNatClampNeg x4)) then (if vpb ((x3 + (-1)) - 1) 400 then (if vpb (x3 + (-1)) 400 then (if (s.f 36 (Int32.toNatClampNeg x4)) = 5 then (if (s.f 41 (Int32.toNatClampNeg (x3 + (-1)))) = 0 then (letS (s.sv 42 1) fun s8 => (some (0, s8))) else r_termOf_104 k5 s x2 (x3 + (-1)) x4 (s.f 36 (Int32.toNatClampNeg x4)) (s.f 41 (Int32.toNatClampNeg ((x3 + (-1)) - 1))) (s.f 41 (Int32.toNatClampNeg (x3 + (-1))))) else r_termOf_104 k5 s x2 (x3 + (-1)) x4 (s.f 36 (Int32.toNatClampNeg x4)) (s.f 41 (Int32.toNatClampNeg ((x3 + (-1)) - 1))) (s.f 41 (Int32.toNatClampNeg (x3 + (-1))))) else none) else none) else (if (s.f 36 (Int32.toNatClampNeg x4)) = 0 then (if vpb x4 840 then r_termOf_58 k5 s x2 x3 x4 (s.f 37 (Int32.toNatClampNeg x4)) x3 else none) else (if vpb x4 840 then (if vpb (s.f 37 (Int32.toNatClampNeg x4)) 9 then r_termOf_58 k5 s x2 x3 x4 (s.f 40 (Int32.toNatClampNeg (s.f 37 (Int32.toNatClampNeg x4)))) x3 else none) else none))) else none))
noncomputable def r_termOf_5L : Nat → RS → Int32 → Int32 → Int32 → Option (Int32 × RS)
  | 0, _, _, _, _ => none
  | n + 1, s, x2, x3, x4 => r_termOf_5 (r_termOf_5L n) s x2 x3 x4
noncomputable def r_termOf (s : RS) (x1 : Int32) (x2 : Int32) : Option (Int32 × RS) := r_termOf_5L fu s x2 0 x1
noncomputable def r_in (x0 : Int32) (x1 : Int32) (x2 : Int32) : Option Int32 := (if x0 < x1 then (some 0) else (if x2 < x0 then (some 0) else (some 1)))
noncomputable def r_within (x0 : Int32) (x1 : Int32) (x2 : Int32) : Option Int32 := (if x1 ≤ x0 then (if x0 ≤ x2 then (some x0) else (some x2)) else (some x1))
noncomputable def r_bits_4 (k4 : Int32 → Int32 → Int32 → Option Int32) (x0 : Int32) (x1 : Int32) (x2 : Int32) : Option Int32 := (if 6 ≤ x2 then (some x1) else k4 x0 (x1 + ((x0 >>> (x2 &&& 31)) &&& 1)) (x2 + 1))
noncomputable def r_bits_4L : Nat → Int32 → Int32 → Int32 → Option Int32
  | 0, _, _, _ => none
  | n + 1, x0, x1, x2 => r_bits_4 (r_bits_4L n) x0 x1 x2
noncomputable def r_bits (x0 : Int32) : Option Int32 := r_bits_4L fu x0 0 0
noncomputable def r_isWave (s : RS) (x1 : Int32) : Option (Int32 × RS) := (if vpb (s.v 18) 2 then (bindP (r_in x1 0 ((s.f 20 (Int32.toNatClampNeg (s.v 18))) - 1)) fun r2 => (if r2 = 0 ∨ r2 = 1 then some (r2, s) else none)) else none)
noncomputable def r_isParty (s : RS) (x1 : Int32) : Option (Int32 × RS) := (if vpb (s.v 18) 2 then (bindP (r_in x1 0 ((s.f 23 (Int32.toNatClampNeg (s.v 18))) - 1)) fun r2 => (if r2 = 0 ∨ r2 = 1 then some (r2, s) else none)) else none)
noncomputable def r_guesses (s : RS) : Option (Int32 × RS) := (if vpb (s.v 18) 2 then (if vpb (s.f 20 (Int32.toNatClampNeg (s.v 18))) 6 then (some ((s.f 46 (Int32.toNatClampNeg (s.f 20 (Int32.toNatClampNeg (s.v 18))))), s)) else none) else none)
noncomputable def r_isGuess (s : RS) (x1 : Int32) : Option (Int32 × RS) := (bindI (r_guesses s) fun r2 s1 => (bindP (r_in x1 0 (r2 - 1)) fun r3 => (if r3 = 0 ∨ r3 = 1 then some (r3, s1) else none)))
noncomputable def r_isThing (x0 : Int32) : Option Int32 := (bindP (r_in x0 0 5) fun r1 => (if r1 = 0 ∨ r1 = 1 then some r1 else none))
noncomputable def r_thingAt (s : RS) (x1 : Int32) (x2 : Int32) : Option (Int32 × RS) := (if vpb x2 6 then (if ¬ (s.f 46 (Int32.toNatClampNeg x2)) = 0 then (some (((x1 / (s.f 46 (Int32.toNatClampNeg x2))) - (x1 / (s.f 46 (Int32.toNatClampNeg x2))) / 6 * 6), s)) else none) else none)
noncomputable def r_copies_2 (k2 : RS → Int32 → Option RS) (s : RS) (x1 : Int32) : Option RS := (if 29 ≤ x1 then (if vpb (s.v 18) 2 then (letS (s.sv 45 (s.f 26 (Int32.toNatClampNeg (s.v 18)))) fun s3 => (some s3)) else none) else (if vpb x1 29 then (if vpb x1 29 then (letS (s.sf 44 (Int32.toNatClampNeg x1) (s.f 43 (Int32.toNatClampNeg x1))) fun s7 => k2 s7 (x1 + 1)) else none) else none))
noncomputable def r_copies_2L : Nat → RS → Int32 → Option RS
  | 0, _, _ => none
  | n + 1, s, x1 => r_copies_2 (r_copies_2L n) s x1
noncomputable def r_copies (s : RS) : Option RS := r_copies_2L fu s 0
noncomputable def r_mixed (x0 : Int32) (x1 : Int32) : Option Int32 := (some ((((x0 ^^^ x1) * 1103515245) + 12345) ^^^ (ushr (((x0 ^^^ x1) * 1103515245) + 12345) 15)))
noncomputable def r_lotOf (s : RS) (x1 : Int32) (x2 : Int32) : Option (Int32 × RS) := (bindP (r_mixed (s.v 45) 173) fun r1 => (bindP (r_mixed r1 x1) fun r2 => (if ¬ x2 = 0 then (some (((ushr r2 1) - (ushr r2 1) / x2 * x2), s)) else none)))
noncomputable def r_oddsAt (s : RS) (x1 : Int32) (x2 : Int32) : Option (Int32 × RS) := (if vpb (((30 * (s.v 18)) + (6 * x1)) + x2) 60 then (some ((s.f 21 (Int32.toNatClampNeg (((30 * (s.v 18)) + (6 * x1)) + x2))), s)) else none)
noncomputable def r_thereAt_55 (k55 : RS → Int32 → Int32 → Int32 → Int32 → Option (Int32 × RS)) (s : RS) (x1 : Int32) (x2 : Int32) (x3 : Int32) (x4 : Int32) : Option (Int32 × RS) := (if x3 < x2 then (some (x4, s)) else (bindI (r_oddsAt s x1 (x4 + 1)) fun r3 s2 => k55 s2 x1 (x2 + r3) x3 (x4 + 1)))
noncomputable def r_thereAt_55L : Nat → RS → Int32 → Int32 → Int32 → Int32 → Option (Int32 × RS)
  | 0, _, _, _, _, _ => none
  | n + 1, s, x1, x2, x3, x4 => r_thereAt_55 (r_thereAt_55L n) s x1 x2 x3 x4
noncomputable def r_thereAt_4 (k4 : RS → Int32 → Int32 → Int32 → Option (Int32 × RS)) (s : RS) (x1 : Int32) (x2 : Int32) (x3 : Int32) : Option (Int32 × RS) := (if 6 ≤ x3 then (if vpb (10 + x1) 29 then (bindI (r_lotOf s ((8 * (s.f 44 (Int32.toNatClampNeg (10 + x1)))) + x1) x2) fun r4 s3 => (bindI (r_oddsAt s3 x1 0) fun r6 s5 => r_thereAt_55L fu s5 x1 r6 r4 0)) else none) else (bindI (r_oddsAt s x1 x3) fun r8 s7 => k4 s7 x1 (x2 + r8) (x3 + 1)))
noncomputable def r_thereAt_4L : Nat → RS → Int32 → Int32 → Int32 → Option (Int32 × RS)
  | 0, _, _, _, _ => none
  | n + 1, s, x1, x2, x3 => r_thereAt_4 (r_thereAt_4L n) s x1 x2 x3
noncomputable def r_thereAt (s : RS) (x1 : Int32) : Option (Int32 × RS) := r_thereAt_4L fu s x1 0 0
noncomputable def r_thereNumber_4 (k4 : RS → Int32 → Int32 → Option (Int32 × RS)) (s : RS) (x1 : Int32) (x2 : Int32) : Option (Int32 × RS) := (if vpb (s.v 18) 2 then (if (s.f 20 (Int32.toNatClampNeg (s.v 18))) ≤ x2 then (some (x1, s)) else (if vpb x2 6 then (bindI (r_thereAt s x2) fun r5 s4 => k4 s4 (x1 + ((s.f 46 (Int32.toNatClampNeg x2)) * r5)) (x2 + 1)) else none)) else none)
noncomputable def r_thereNumber_4L : Nat → RS → Int32 → Int32 → Option (Int32 × RS)
  | 0, _, _, _ => none
  | n + 1, s, x1, x2 => r_thereNumber_4 (r_thereNumber_4L n) s x1 x2
noncomputable def r_thereNumber (s : RS) : Option (Int32 × RS) := r_thereNumber_4L fu s 0 0
noncomputable def r_mayAt_60 (k26 : RS → Int32 → Int32 → Int32 → Option (Int32 × RS)) (s : RS) (x1 : Int32) (x2 : Int32) (x3 : Int32) : Option (Int32 × RS) := k26 s x1 x2 (x3 + 1)
noncomputable def r_mayAt_26 (k26 : RS → Int32 → Int32 → Int32 → Option (Int32 × RS)) (s : RS) (x1 : Int32) (x2 : Int32) (x3 : Int32) : Option (Int32 × RS) := (if 6 ≤ x3 then (some (x2, s)) else (bindI (r_oddsAt s x1 x3) fun r3 s2 => (if r3 ≤ 0 then r_mayAt_60 k26 s2 x1 x2 x3 else (if vpb x1 29 then (if (((s2.f 44 (Int32.toNatClampNeg x1)) >>> (x3 &&& 31)) &&& 1) = 0 then r_mayAt_60 k26 s2 x1 (x2 ||| (1 <<< (x3 &&& 31))) x3 else r_mayAt_60 k26 s2 x1 x2 x3) else none))))
noncomputable def r_mayAt_26L : Nat → RS → Int32 → Int32 → Int32 → Option (Int32 × RS)
  | 0, _, _, _, _ => none
  | n + 1, s, x1, x2, x3 => r_mayAt_26 (r_mayAt_26L n) s x1 x2 x3
noncomputable def r_mayAt (s : RS) (x1 : Int32) : Option (Int32 × RS) := (if vpb (5 + x1) 29 then (if (s.f 44 (Int32.toNatClampNeg (5 + x1))) < 0 then r_mayAt_26L fu s x1 0 0 else (if vpb (5 + x1) 29 then (some ((1 <<< ((s.f 44 (Int32.toNatClampNeg (5 + x1))) &&& 31)), s)) else none)) else none)
noncomputable def r_lawTells_119 (s : RS) (x4 : Int32) : Option (Int32 × RS) := (if vpb x4 260 then (if vpb x4 260 then (bindI (r_termOf s (s.f 33 (Int32.toNatClampNeg x4)) (s.f 34 (Int32.toNatClampNeg x4))) fun r4 s3 => (if (s3.v 42) = 0 then (some (r4, s3)) else (some (0, s3)))) else none) else none)
noncomputable def r_lawTells_39 (k39 : RS → Int32 → Int32 → Option (Int32 × RS)) (s : RS) (x3 : Int32) (x4 : Int32) : Option (Int32 × RS) := (if vpb x3 8 then (if (s.f 28 (Int32.toNatClampNeg x3)) ≤ x4 then (some (0, s)) else (if vpb x4 260 then (if (s.f 30 (Int32.toNatClampNeg x4)) = 0 then r_lawTells_119 s x4 else (if vpb x4 260 then (if vpb x4 260 then (bindI (r_termOf s (s.f 31 (Int32.toNatClampNeg x4)) (s.f 32 (Int32.toNatClampNeg x4))) fun r8 s7 => (if vpb x4 260 then (if vpb x4 260 then (bindI (r_termOf s7 (s7.f 32 (Int32.toNatClampNeg x4)) (s7.f 33 (Int32.toNatClampNeg x4))) fun r12 s11 => (if (s11.v 42) = 0 then (if r8 < r12 then r_lawTells_119 s11 x4 else k39 s11 x3 (x4 + 1)) else (some (0, s11)))) else none) else none)) else none) else none)) else none)) else none)
noncomputable def r_lawTells_39L : Nat → RS → Int32 → Int32 → Option (Int32 × RS)
  | 0, _, _, _ => none
  | n + 1, s, x3, x4 => r_lawTells_39 (r_lawTells_39L n) s x3 x4
noncomputable def r_lawTells (s : RS) (x1 : Int32) (x2 : Int32) : Option (Int32 × RS) := (if vpb ((4 * (s.v 18)) + x1) 8 then (if vpb ((4 * (s.v 18)) + x1) 8 then (if (s.f 27 (Int32.toNatClampNeg ((4 * (s.v 18)) + x1))) = (s.f 28 (Int32.toNatClampNeg ((4 * (s.v 18)) + x1))) then (some (x2, s)) else (letS (s.sv 42 0) fun s4 => (if vpb ((4 * (s.v 18)) + x1) 8 then r_lawTells_39L fu s4 ((4 * (s.v 18)) + x1) (s4.f 27 (Int32.toNatClampNeg ((4 * (s.v 18)) + x1))) else none))) else none) else none)
noncomputable def r_looks_2 (k2 : RS → Int32 → Int32 → Option RS) (s : RS) (x1 : Int32) (x2 : Int32) : Option RS := (if 9 ≤ x2 then (letS (s.sf 40 5 (s.f 44 27)) fun s2 => (if 0 ≤ x1 then (if vpb ((6 * (s2.v 18)) + x1) 12 then (letS (s2.sf 40 2 (s2.f 24 (Int32.toNatClampNeg ((6 * (s2.v 18)) + x1)))) fun s6 => (if vpb ((6 * (s6.v 18)) + x1) 12 then (letS (s6.sf 40 3 (s6.f 25 (Int32.toNatClampNeg ((6 * (s6.v 18)) + x1)))) fun s9 => (letS (s9.sf 40 6 x1) fun s11 => (if vpb (21 + x1) 29 then (letS (s11.sf 40 8 (s11.f 44 (Int32.toNatClampNeg (21 + x1)))) fun s14 => (some s14)) else none))) else none)) else none) else (some s2))) else (if vpb x2 9 then (letS (s.sf 40 (Int32.toNatClampNeg x2) 0) fun s17 => k2 s17 x1 (x2 + 1)) else none))
noncomputable def r_looks_2L : Nat → RS → Int32 → Int32 → Option RS
  | 0, _, _, _ => none
  | n + 1, s, x1, x2 => r_looks_2 (r_looks_2L n) s x1 x2
noncomputable def r_looks (s : RS) (x1 : Int32) : Option RS := r_looks_2L fu s x1 0
noncomputable def r_looksOver (s : RS) (x1 : Int32) : Option RS := (letS (s.sf 40 0 x1) fun s1 => (bindI (r_mayAt s1 x1) fun r4 s3 => (bindP (r_bits r4) fun r5 => (letS (s3.sf 40 4 r5) fun s6 => (if vpb x1 29 then (bindP (r_bits (s6.f 44 (Int32.toNatClampNeg x1))) fun r9 => (letS (s6.sf 40 7 r9) fun s10 => (some s10))) else none)))))
noncomputable def r_needsOf (s : RS) (x1 : Int32) (x2 : Int32) (x3 : Int32) : Option (Int32 × RS) := (bindP (r_looks s x1) fun s1 => (bindP (r_looksOver s1 x2) fun s2 => (bindI (r_oddsAt s2 x2 x3) fun r4 s3 => (letS (s3.sf 40 1 r4) fun s5 => (bindI (r_lawTells s5 0 (s5.f 40 2)) fun r8 s7 => (bindP (r_within r8 0 9) fun r9 => (some (r9, s7))))))))
noncomputable def r_faresOf (s : RS) (x1 : Int32) : Option (Int32 × RS) := (bindP (r_looks s x1) fun s1 => (bindI (r_lawTells s1 1 1) fun r3 s2 => (bindP (r_within r3 0 99) fun r4 => (some (r4, s2)))))
noncomputable def r_doesDare (s : RS) (x1 : Int32) : Option (Int32 × RS) := (bindP (r_looks s x1) fun s1 => (bindI (r_lawTells s1 2 1) fun r3 s2 => (if r3 ≤ 0 then (some (0, s2)) else (some (1, s2)))))
noncomputable def r_shiftsOf (s : RS) (x1 : Int32) : Option (Int32 × RS) := (bindP (r_looks s (-1)) fun s1 => (bindP (r_looksOver s1 x1) fun s2 => (bindI (r_lawTells s2 3 0) fun r4 s3 => (bindP (r_within r4 0 100) fun r5 => (some (r5, s3))))))
noncomputable def r_doesBear (s : RS) (x1 : Int32) (x2 : Int32) (x3 : Int32) : Option (Int32 × RS) := (bindI (r_oddsAt s x2 x3) fun r2 s1 => (bindI (r_needsOf s1 x1 x2 x3) fun r4 s3 => (if r2 < r4 then (some (0, s3)) else (some (1, s3)))))
noncomputable def r_bearsBy_2 (k2 : RS → Int32 → Int32 → Int32 → Option (Int32 × RS)) (s : RS) (x1 : Int32) (x2 : Int32) (x3 : Int32) : Option (Int32 × RS) := (if vpb (s.v 18) 2 then (if (s.f 20 (Int32.toNatClampNeg (s.v 18))) ≤ x3 then (some (x3, s)) else (bindI (r_thingAt s x2 x3) fun r4 s3 => (bindI (r_doesBear s3 x1 x3 r4) fun r6 s5 => (if r6 = 0 then (some (x3, s5)) else k2 s5 x1 x2 (x3 + 1))))) else none)
noncomputable def r_bearsBy_2L : Nat → RS → Int32 → Int32 → Int32 → Option (Int32 × RS)
  | 0, _, _, _, _ => none
  | n + 1, s, x1, x2, x3 => r_bearsBy_2 (r_bearsBy_2L n) s x1 x2 x3
noncomputable def r_bearsBy (s : RS) (x1 : Int32) (x2 : Int32) : Option (Int32 × RS) := r_bearsBy_2L fu s x1 x2 0
noncomputable def r_goesBy_39 (k39 : RS → Int32 → Int32 → Int32 → Int32 → Int32 → Option (Int32 × RS)) (s : RS) (x1 : Int32) (x2 : Int32) (x3 : Int32) (x4 : Int32) (x5 : Int32) : Option (Int32 × RS) := (if vpb (s.v 18) 2 then (if (s.f 20 (Int32.toNatClampNeg (s.v 18))) ≤ x5 then (if vpb (15 + x1) 29 then (letS (s.sf 44 (Int32.toNatClampNeg (15 + x1)) 2) fun s4 => (if vpb (s4.v 18) 2 then (some ((s4.f 20 (Int32.toNatClampNeg (s4.v 18))), s4)) else none)) else none) else (bindI (r_thingAt s x2 x5) fun r8 s7 => (if x5 = x4 then (if vpb (15 + x1) 29 then (letS (s7.sf 44 (Int32.toNatClampNeg (15 + x1)) 1) fun s21 => (some (x5, s21))) else none) else (bindI (r_thingAt s7 x3 x5) fun r11 s10 => (if r8 = r11 then (if vpb (5 + x5) 29 then (letS (s10.sf 44 (Int32.toNatClampNeg (5 + x5)) r8) fun s14 => k39 s14 x1 x2 x3 x4 (x5 + 1)) else none) else (if vpb x5 29 then (if vpb x5 29 then (letS (s10.sf 44 (Int32.toNatClampNeg x5) ((s10.f 44 (Int32.toNatClampNeg x5)) ||| (1 <<< (r8 &&& 31)))) fun s18 => (some (x5, s18))) else none) else none)))))) else none)
noncomputable def r_goesBy_39L : Nat → RS → Int32 → Int32 → Int32 → Int32 → Int32 → Option (Int32 × RS)
  | 0, _, _, _, _, _, _ => none
  | n + 1, s, x1, x2, x3, x4, x5 => r_goesBy_39 (r_goesBy_39L n) s x1 x2 x3 x4 x5
noncomputable def r_goesBy (s : RS) (x1 : Int32) (x2 : Int32) (x3 : Int32) : Option (Int32 × RS) := (bindI (r_bearsBy s x1 x2) fun r2 s1 => (bindI (r_faresOf s1 x1) fun r4 s3 => (letS (s3.sf 44 28 ((s1.f 44 28) + r4)) fun s5 => (if vpb (21 + x1) 29 then (if vpb (21 + x1) 29 then (letS (s5.sf 44 (Int32.toNatClampNeg (21 + x1)) ((s5.f 44 (Int32.toNatClampNeg (21 + x1))) + 1)) fun s9 => r_goesBy_39L fu s9 x1 x2 x3 r2 0) else none) else none))))
noncomputable def r_yearGoes_119 (k64 : RS → Int32 → Option RS) (s : RS) (x1 : Int32) : Option RS := k64 s (x1 + 1)
noncomputable def r_yearGoes_64 (k64 : RS → Int32 → Option RS) (s : RS) (x1 : Int32) : Option RS := (if vpb (s.v 18) 2 then (if (s.f 20 (Int32.toNatClampNeg (s.v 18))) ≤ x1 then (letS (s.sf 44 27 ((s.f 44 27) + 1)) fun s3 => (some s3)) else (if vpb x1 5 then (if (s.f 47 (Int32.toNatClampNeg x1)) = 0 then r_yearGoes_119 k64 s x1 else (if vpb x1 29 then (letS (s.sf 44 (Int32.toNatClampNeg x1) 0) fun s8 => (if vpb (5 + x1) 29 then (letS (s8.sf 44 (Int32.toNatClampNeg (5 + x1)) (-2)) fun s11 => (if vpb (10 + x1) 29 then (if vpb (10 + x1) 29 then (letS (s11.sf 44 (Int32.toNatClampNeg (10 + x1)) ((s11.f 44 (Int32.toNatClampNeg (10 + x1))) + 1)) fun s15 => r_yearGoes_119 k64 s15 x1) else none) else none)) else none)) else none)) else none)) else none)
noncomputable def r_yearGoes_64L : Nat → RS → Int32 → Option RS
  | 0, _, _ => none
  | n + 1, s, x1 => r_yearGoes_64 (r_yearGoes_64L n) s x1
noncomputable def r_yearGoes_55 (k2 : RS → Int32 → Option RS) (s : RS) (x1 : Int32) (t0 : Int32) (t1 : Int32) : Option RS := (if vpb t1 5 then (letS (s.sf 47 (Int32.toNatClampNeg t1) (vp_nar .boolean t0)) fun s2 => k2 s2 (x1 + 1)) else none)
noncomputable def r_yearGoes_2 (k2 : RS → Int32 → Option RS) (s : RS) (x1 : Int32) : Option RS := (if vpb (s.v 18) 2 then (if (s.f 20 (Int32.toNatClampNeg (s.v 18))) ≤ x1 then r_yearGoes_64L fu s 0 else (bindI (r_lotOf s (((8 * (s.f 44 27)) + 1000000) + x1) 100) fun r4 s3 => (bindI (r_shiftsOf s3 x1) fun r6 s5 => (if r6 ≤ r4 then r_yearGoes_55 k2 s5 x1 0 x1 else r_yearGoes_55 k2 s5 x1 1 x1)))) else none)
noncomputable def r_yearGoes_2L : Nat → RS → Int32 → Option RS
  | 0, _, _ => none
  | n + 1, s, x1 => r_yearGoes_2 (r_yearGoes_2L n) s x1
noncomputable def r_yearGoes (s : RS) : Option RS := r_yearGoes_2L fu s 0
noncomputable def r_yearsGo_2 (k2 : RS → Int32 → Int32 → Option RS) (s : RS) (x1 : Int32) (x2 : Int32) : Option RS := (if x1 ≤ x2 then (some s) else (bindP (r_yearGoes s) fun s2 => k2 s2 x1 (x2 + 1)))
noncomputable def r_yearsGo_2L : Nat → RS → Int32 → Int32 → Option RS
  | 0, _, _, _ => none
  | n + 1, s, x1, x2 => r_yearsGo_2 (r_yearsGo_2L n) s x1 x2
noncomputable def r_yearsGo (s : RS) (x1 : Int32) : Option RS := r_yearsGo_2L fu s x1 0
noncomputable def r_wave (s : RS) (x1 : Int32) (x2 : Int32) : Option (Int32 × RS) := (bindI (r_isWave s x1) fun r2 s1 => (if r2 = 0 then (some ((-1), s1)) else (bindP (r_copies s1) fun s4 => (if x2 = 0 then (bindI (r_mayAt s4 x1) fun r7 s6 => (some (r7, s6))) else (if x2 = 1 then (if vpb (5 + x1) 29 then (some ((s4.f 44 (Int32.toNatClampNeg (5 + x1))), s4)) else none) else (if x2 = 2 then (if vpb x1 29 then (some ((s4.f 44 (Int32.toNatClampNeg x1)), s4)) else none) else (if x2 = 3 then (if vpb (10 + x1) 29 then (some ((s4.f 44 (Int32.toNatClampNeg (10 + x1))), s4)) else none) else (if x2 = 4 then (bindI (r_thereAt s4 x1) fun r16 s15 => (some (r16, s15))) else (if x2 = 5 then (bindI (r_shiftsOf s4 x1) fun r19 s18 => (some (r19, s18))) else (some ((-1), s4)))))))))))
noncomputable def r_odds (s : RS) (x1 : Int32) (x2 : Int32) : Option (Int32 × RS) := (bindI (r_isWave s x1) fun r2 s1 => (if r2 = 0 then (some ((-1), s1)) else (bindP (r_isThing x2) fun r4 => (if r4 = 0 then (some ((-1), s1)) else (bindI (r_oddsAt s1 x1 x2) fun r7 s6 => (some (r7, s6)))))))
noncomputable def r_party (s : RS) (x1 : Int32) (x2 : Int32) : Option (Int32 × RS) := (bindI (r_isParty s x1) fun r2 s1 => (if r2 = 0 then (some ((-1), s1)) else (bindP (r_copies s1) fun s4 => (if x2 = 0 then (if vpb ((6 * (s4.v 18)) + x1) 12 then (some ((s4.f 24 (Int32.toNatClampNeg ((6 * (s4.v 18)) + x1))), s4)) else none) else (if x2 = 1 then (if vpb ((6 * (s4.v 18)) + x1) 12 then (some ((s4.f 25 (Int32.toNatClampNeg ((6 * (s4.v 18)) + x1))), s4)) else none) else (if x2 = 2 then (if vpb (15 + x1) 29 then (some ((s4.f 44 (Int32.toNatClampNeg (15 + x1))), s4)) else none) else (if x2 = 3 then (if vpb (21 + x1) 29 then (some ((s4.f 44 (Int32.toNatClampNeg (21 + x1))), s4)) else none) else (if x2 = 4 then (bindI (r_faresOf s4 x1) fun r15 s14 => (some (r15, s14))) else (if x2 = 5 then (bindI (r_doesDare s4 x1) fun r18 s17 => (if r18 = 0 then (some (0, s17)) else (some (1, s17)))) else (some ((-1), s4)))))))))))
noncomputable def r_needs (s : RS) (x1 : Int32) (x2 : Int32) (x3 : Int32) : Option (Int32 × RS) := (bindI (r_isParty s x1) fun r2 s1 => (if r2 = 0 then (some ((-1), s1)) else (bindI (r_isWave s1 x2) fun r5 s4 => (if r5 = 0 then (some ((-1), s4)) else (bindP (r_isThing x3) fun r7 => (if r7 = 0 then (some ((-1), s4)) else (bindP (r_copies s4) fun s9 => (bindI (r_needsOf s9 x1 x2 x3) fun r11 s10 => (some (r11, s10))))))))))
noncomputable def r_records_51 (k51 : RS → Int32 → Option RS) (s : RS) (x1 : Int32) : Option RS := (if 29 ≤ x1 then (letS (s.sv 48 ((s.v 48) + 1)) fun s2 => (bindP (r_keepsRow s2) fun s4 => (some s4))) else (if vpb x1 29 then (if vpb ((29 * (s.v 48)) + x1) 1160 then (letS (s.sf 49 (Int32.toNatClampNeg ((29 * (s.v 48)) + x1)) (s.f 43 (Int32.toNatClampNeg x1))) fun s7 => k51 s7 (x1 + 1)) else none) else none))
noncomputable def r_records_51L : Nat → RS → Int32 → Option RS
  | 0, _, _ => none
  | n + 1, s, x1 => r_records_51 (r_records_51L n) s x1
noncomputable def r_records_49 (s : RS) : Option RS := r_records_51L fu s 0
noncomputable def r_records_11 (k11 : RS → Int32 → Option RS) (s : RS) (x1 : Int32) : Option RS := (if 1131 ≤ x1 then (letS (s.sv 48 ((s.v 48) - 1)) fun s2 => r_records_49 s2) else (if vpb (x1 + 29) 1160 then (if vpb x1 1160 then (letS (s.sf 49 (Int32.toNatClampNeg x1) (s.f 49 (Int32.toNatClampNeg (x1 + 29)))) fun s6 => k11 s6 (x1 + 1)) else none) else none))
noncomputable def r_records_11L : Nat → RS → Int32 → Option RS
  | 0, _, _ => none
  | n + 1, s, x1 => r_records_11 (r_records_11L n) s x1
noncomputable def r_records (s : RS) : Option RS := (if (s.v 48) = 40 then r_records_11L fu s 0 else r_records_49 s)
noncomputable def r_isHere (s : RS) (x1 : Int32) : Option (Int32 × RS) := (bindI (r_isParty s x1) fun r2 s1 => (if r2 = 0 then (some (0, s1)) else (if vpb (15 + x1) 29 then (if (s1.f 43 (Int32.toNatClampNeg (15 + x1))) = 0 then (some (1, s1)) else (some (0, s1))) else none)))
noncomputable def r_go (s : RS) (x1 : Int32) (x2 : Int32) : Option (Int32 × RS) := (bindI (r_isHere s x1) fun r2 s1 => (if r2 = 0 then (some ((-1), s1)) else (if vpb (s1.v 18) 2 then (if (s1.f 20 (Int32.toNatClampNeg (s1.v 18))) = 0 then (some ((-1), s1)) else (bindI (r_isGuess s1 x2) fun r7 s6 => (if r7 = 0 then (some ((-1), s6)) else (bindP (r_copies s6) fun s9 => (bindI (r_thereNumber s9) fun r11 s10 => (bindI (r_goesBy s10 x1 x2 r11) fun r13 s12 => (bindP (r_records s12) fun s14 => (some (r13, s14))))))))) else none)))
noncomputable def r_buoy_34 (s : RS) (x1 : Int32) (x2 : Int32) (x3 : Int32) (t0 : Int32) : Option (Int32 × RS) := (if t0 = x3 then (some (0, s)) else (bindP (r_copies s) fun s2 => (if vpb x1 29 then (if vpb x1 29 then (letS (s2.sf 44 (Int32.toNatClampNeg x1) ((s2.f 44 (Int32.toNatClampNeg x1)) ^^^ (1 <<< (x2 &&& 31)))) fun s5 => (bindP (r_records s5) fun s7 => (some (1, s7)))) else none) else none)))
noncomputable def r_buoy (s : RS) (x1 : Int32) (x2 : Int32) (x3 : Int32) : Option (Int32 × RS) := (bindI (r_isWave s x1) fun r2 s1 => (if r2 = 0 then (some (0, s1)) else (bindP (r_isThing x2) fun r4 => (if r4 = 0 then (some (0, s1)) else (if vpb x1 29 then (if (((s1.f 43 (Int32.toNatClampNeg x1)) >>> (x2 &&& 31)) &&& 1) = 1 then r_buoy_34 s1 x1 x2 x3 1 else r_buoy_34 s1 x1 x2 x3 0) else none)))))
noncomputable def r_fetch (s : RS) (x1 : Int32) : Option (Int32 × RS) := (bindI (r_isParty s x1) fun r2 s1 => (if r2 = 0 then (some (0, s1)) else (if vpb (15 + x1) 29 then (if (s1.f 43 (Int32.toNatClampNeg (15 + x1))) = 0 then (some (0, s1)) else (bindP (r_copies s1) fun s6 => (if vpb (15 + x1) 29 then (letS (s6.sf 44 (Int32.toNatClampNeg (15 + x1)) 0) fun s8 => (bindP (r_records s8) fun s10 => (some (1, s10)))) else none))) else none)))
noncomputable def r_isLong (x0 : Int32) : Option Int32 := (bindP (r_in x0 0 40) fun r1 => (if r1 = 0 ∨ r1 = 1 then some r1 else none))
noncomputable def r_years (s : RS) (x1 : Int32) : Option (Int32 × RS) := (bindP (r_isLong x1) fun r1 => (if r1 = 0 then (some ((-1), s)) else (if x1 = 0 then (some ((s.f 43 27), s)) else (bindP (r_copies s) fun s4 => (bindP (r_yearsGo s4 x1) fun s5 => (bindP (r_records s5) fun s6 => (some ((s6.f 43 27), s6))))))))
noncomputable def r_undo_21 (k21 : RS → Int32 → Option (Int32 × RS)) (s : RS) (x1 : Int32) : Option (Int32 × RS) := (if 29 ≤ x1 then (some (1, s)) else (if vpb ((29 * (s.v 48)) + x1) 1160 then (if vpb x1 29 then (letS (s.sf 43 (Int32.toNatClampNeg x1) (s.f 49 (Int32.toNatClampNeg ((29 * (s.v 48)) + x1)))) fun s4 => k21 s4 (x1 + 1)) else none) else none))
noncomputable def r_undo_21L : Nat → RS → Int32 → Option (Int32 × RS)
  | 0, _, _ => none
  | n + 1, s, x1 => r_undo_21 (r_undo_21L n) s x1
noncomputable def r_undo (s : RS) : Option (Int32 × RS) := (if (s.v 48) = 0 then (some (0, s)) else (letS (s.sv 48 ((s.v 48) - 1)) fun s2 => r_undo_21L fu s2 0))
noncomputable def r_casesNow_4 (k4 : RS → Int32 → Int32 → Option (Int32 × RS)) (s : RS) (x1 : Int32) (x2 : Int32) : Option (Int32 × RS) := (if vpb (s.v 18) 2 then (if (s.f 20 (Int32.toNatClampNeg (s.v 18))) ≤ x2 then (some (x1, s)) else (bindI (r_mayAt s x2) fun r4 s3 => (bindP (r_bits r4) fun r5 => k4 s3 (x1 * r5) (x2 + 1)))) else none)
noncomputable def r_casesNow_4L : Nat → RS → Int32 → Int32 → Option (Int32 × RS)
  | 0, _, _, _ => none
  | n + 1, s, x1, x2 => r_casesNow_4 (r_casesNow_4L n) s x1 x2
noncomputable def r_casesNow (s : RS) : Option (Int32 × RS) := r_casesNow_4L fu s 1 0
noncomputable def r_cases (s : RS) : Option (Int32 × RS) := (bindP (r_copies s) fun s1 => (bindI (r_casesNow s1) fun r3 s2 => (some (r3, s2))))
noncomputable def r_mayBe (s : RS) (x1 : Int32) (x2 : Int32) : Option (Int32 × RS) := (bindI (r_mayAt s x1) fun r2 s1 => (if ((r2 >>> (x2 &&& 31)) &&& 1) = 1 then (some (1, s1)) else (some (0, s1))))
noncomputable def r_chanceOf_47 (k4 : RS → Int32 → Int32 → Int32 → Option (Int32 × RS)) (s : RS) (x1 : Int32) (x3 : Int32) (t0 : Int32) (t1 : Int32) : Option (Int32 × RS) := k4 s x1 (t1 * t0) (x3 + 1)
noncomputable def r_chanceOf_4 (k4 : RS → Int32 → Int32 → Int32 → Option (Int32 × RS)) (s : RS) (x1 : Int32) (x2 : Int32) (x3 : Int32) : Option (Int32 × RS) := (if vpb (s.v 18) 2 then (if (s.f 20 (Int32.toNatClampNeg (s.v 18))) ≤ x3 then (some (x2, s)) else (bindI (r_thingAt s x1 x3) fun r4 s3 => (bindI (r_mayBe s3 x3 r4) fun r6 s5 => (if r6 = 0 then r_chanceOf_47 k4 s5 x1 x3 0 x2 else (bindI (r_oddsAt s5 x3 r4) fun r9 s8 => r_chanceOf_47 k4 s8 x1 x3 r9 x2))))) else none)
noncomputable def r_chanceOf_4L : Nat → RS → Int32 → Int32 → Int32 → Option (Int32 × RS)
  | 0, _, _, _, _ => none
  | n + 1, s, x1, x2, x3 => r_chanceOf_4 (r_chanceOf_4L n) s x1 x2 x3
noncomputable def r_chanceOf (s : RS) (x1 : Int32) : Option (Int32 × RS) := r_chanceOf_4L fu s x1 1 0
noncomputable def r_isCase_2 (k2 : RS → Int32 → Int32 → Option (Int32 × RS)) (s : RS) (x1 : Int32) (x2 : Int32) : Option (Int32 × RS) := (if vpb (s.v 18) 2 then (if (s.f 20 (Int32.toNatClampNeg (s.v 18))) ≤ x2 then (some (1, s)) else (bindI (r_thingAt s x1 x2) fun r4 s3 => (bindI (r_mayBe s3 x2 r4) fun r6 s5 => (if r6 = 0 then (some (0, s5)) else k2 s5 x1 (x2 + 1))))) else none)
noncomputable def r_isCase_2L : Nat → RS → Int32 → Int32 → Option (Int32 × RS)
  | 0, _, _, _ => none
  | n + 1, s, x1, x2 => r_isCase_2 (r_isCase_2L n) s x1 x2
noncomputable def r_isCase (s : RS) (x1 : Int32) : Option (Int32 × RS) := r_isCase_2L fu s x1 0
noncomputable def r_chance (s : RS) (x1 : Int32) : Option (Int32 × RS) := (bindI (r_isGuess s x1) fun r2 s1 => (if r2 = 0 then (some ((-1), s1)) else (bindP (r_copies s1) fun s4 => (bindI (r_chanceOf s4 x1) fun r6 s5 => (some (r6, s5))))))
noncomputable def r_sumAt_28 (k4 : RS → Int32 → Int32 → Int32 → Option (Int32 × RS)) (s : RS) (x1 : Int32) (x2 : Int32) (x3 : Int32) : Option (Int32 × RS) := k4 s x1 x2 (x3 + 1)
noncomputable def r_sumAt_4 (k4 : RS → Int32 → Int32 → Int32 → Option (Int32 × RS)) (s : RS) (x1 : Int32) (x2 : Int32) (x3 : Int32) : Option (Int32 × RS) := (if 6 ≤ x3 then (some (x2, s)) else (bindI (r_mayBe s x1 x3) fun r3 s2 => (if r3 = 0 then r_sumAt_28 k4 s2 x1 x2 x3 else (bindI (r_oddsAt s2 x1 x3) fun r6 s5 => r_sumAt_28 k4 s5 x1 (x2 + r6) x3))))
noncomputable def r_sumAt_4L : Nat → RS → Int32 → Int32 → Int32 → Option (Int32 × RS)
  | 0, _, _, _, _ => none
  | n + 1, s, x1, x2, x3 => r_sumAt_4 (r_sumAt_4L n) s x1 x2 x3
noncomputable def r_sumAt (s : RS) (x1 : Int32) : Option (Int32 × RS) := r_sumAt_4L fu s x1 0 0
noncomputable def r_all_8 (k8 : RS → Int32 → Int32 → Option (Int32 × RS)) (s : RS) (x1 : Int32) (x2 : Int32) : Option (Int32 × RS) := (if vpb (s.v 18) 2 then (if (s.f 20 (Int32.toNatClampNeg (s.v 18))) ≤ x2 then (some (x1, s)) else (bindI (r_sumAt s x2) fun r4 s3 => k8 s3 (x1 * r4) (x2 + 1))) else none)
noncomputable def r_all_8L : Nat → RS → Int32 → Int32 → Option (Int32 × RS)
  | 0, _, _, _ => none
  | n + 1, s, x1, x2 => r_all_8 (r_all_8L n) s x1 x2
noncomputable def r_all (s : RS) : Option (Int32 × RS) := (bindP (r_copies s) fun s1 => r_all_8L fu s1 1 0)
noncomputable def r_bestFor_83 (k4 : RS → Int32 → Int32 → Int32 → Option (Int32 × RS)) (k24 : RS → Int32 → Int32 → Int32 → Int32 → Int32 → Option (Int32 × RS)) (s : RS) (x1 : Int32) (x2 : Int32) (x3 : Int32) (x4 : Int32) (x5 : Int32) : Option (Int32 × RS) := k24 s x1 x2 x3 x4 (x5 + 1)
noncomputable def r_bestFor_79 (k4 : RS → Int32 → Int32 → Int32 → Option (Int32 × RS)) (k24 : RS → Int32 → Int32 → Int32 → Int32 → Int32 → Option (Int32 × RS)) (s : RS) (x1 : Int32) (x2 : Int32) (x3 : Int32) (x5 : Int32) : Option (Int32 × RS) := r_bestFor_83 k4 k24 s x1 x2 x3 x5 x5
noncomputable def r_bestFor_57 (k4 : RS → Int32 → Int32 → Int32 → Option (Int32 × RS)) (k24 : RS → Int32 → Int32 → Int32 → Int32 → Int32 → Option (Int32 × RS)) (s : RS) (x1 : Int32) (x2 : Int32) (x3 : Int32) (x4 : Int32) (x5 : Int32) : Option (Int32 × RS) := (if x4 < 0 then r_bestFor_79 k4 k24 s x1 x2 x3 x5 else (bindI (r_oddsAt s x3 x5) fun r3 s2 => (bindI (r_oddsAt s2 x3 x4) fun r5 s4 => (if r3 ≤ r5 then r_bestFor_83 k4 k24 s4 x1 x2 x3 x4 x5 else r_bestFor_79 k4 k24 s4 x1 x2 x3 x5))))
noncomputable def r_bestFor_24 (k4 : RS → Int32 → Int32 → Int32 → Option (Int32 × RS)) (k24 : RS → Int32 → Int32 → Int32 → Int32 → Int32 → Option (Int32 × RS)) (s : RS) (x1 : Int32) (x2 : Int32) (x3 : Int32) (x4 : Int32) (x5 : Int32) : Option (Int32 × RS) := (if 6 ≤ x5 then (if 0 ≤ x4 then (if vpb x3 6 then k4 s x1 (x2 + ((s.f 46 (Int32.toNatClampNeg x3)) * x4)) (x3 + 1) else none) else (some ((-2), s))) else (bindI (r_mayBe s x3 x5) fun r5 s4 => (if r5 = 0 then r_bestFor_83 k4 k24 s4 x1 x2 x3 x4 x5 else (if x1 = (-1) then r_bestFor_57 k4 k24 s4 x1 x2 x3 x4 x5 else (bindI (r_doesBear s4 x1 x3 x5) fun r9 s8 => (if r9 = 0 then r_bestFor_83 k4 k24 s8 x1 x2 x3 x4 x5 else r_bestFor_57 k4 k24 s8 x1 x2 x3 x4 x5))))))
noncomputable def r_bestFor_24L (k4 : RS → Int32 → Int32 → Int32 → Option (Int32 × RS)) : Nat → RS → Int32 → Int32 → Int32 → Int32 → Int32 → Option (Int32 × RS)
  | 0, _, _, _, _, _, _ => none
  | n + 1, s, x1, x2, x3, x4, x5 => r_bestFor_24 k4 (r_bestFor_24L k4 n) s x1 x2 x3 x4 x5
noncomputable def r_bestFor_4 (k4 : RS → Int32 → Int32 → Int32 → Option (Int32 × RS)) (s : RS) (x1 : Int32) (x2 : Int32) (x3 : Int32) : Option (Int32 × RS) := (if vpb (s.v 18) 2 then (if (s.f 20 (Int32.toNatClampNeg (s.v 18))) ≤ x3 then (some (x2, s)) else r_bestFor_24L k4 fu s x1 x2 x3 (-2) 0) else none)
noncomputable def r_bestFor_4L : Nat → RS → Int32 → Int32 → Int32 → Option (Int32 × RS)
  | 0, _, _, _, _ => none
  | n + 1, s, x1, x2, x3 => r_bestFor_4 (r_bestFor_4L n) s x1 x2 x3
noncomputable def r_bestFor (s : RS) (x1 : Int32) : Option (Int32 × RS) := r_bestFor_4L fu s x1 0 0
noncomputable def r_likeliest (s : RS) : Option (Int32 × RS) := (bindP (r_copies s) fun s1 => (bindI (r_bestFor s1 (-1)) fun r3 s2 => (some (r3, s2))))
noncomputable def r_bears (s : RS) (x1 : Int32) (x2 : Int32) : Option (Int32 × RS) := (bindI (r_isParty s x1) fun r2 s1 => (if r2 = 0 then (some ((-1), s1)) else (bindI (r_isGuess s1 x2) fun r5 s4 => (if r5 = 0 then (some ((-1), s4)) else (bindP (r_copies s4) fun s7 => (bindI (r_bearsBy s7 x1 x2) fun r9 s8 => (some (r9, s8))))))))
noncomputable def r_safest (s : RS) (x1 : Int32) : Option (Int32 × RS) := (bindI (r_isParty s x1) fun r2 s1 => (if r2 = 0 then (some ((-1), s1)) else (bindP (r_copies s1) fun s4 => (bindI (r_bestFor s4 x1) fun r6 s5 => (some (r6, s5))))))
noncomputable def r_enough_18 (k18 : RS → Int32 → Int32 → Option (Int32 × RS)) (s : RS) (x1 : Int32) (x2 : Int32) : Option (Int32 × RS) := (if vpb (s.v 18) 2 then (if (s.f 20 (Int32.toNatClampNeg (s.v 18))) ≤ x2 then (some (x1, s)) else (bindI (r_mayAt s x2) fun r4 s3 => (bindP (r_bits r4) fun r5 => k18 s3 (x1 + (r5 - 1)) (x2 + 1)))) else none)
noncomputable def r_enough_18L : Nat → RS → Int32 → Int32 → Option (Int32 × RS)
  | 0, _, _, _ => none
  | n + 1, s, x1, x2 => r_enough_18 (r_enough_18L n) s x1 x2
noncomputable def r_enough (s : RS) : Option (Int32 × RS) := (bindP (r_copies s) fun s1 => (bindI (r_casesNow s1) fun r3 s2 => (if r3 = 0 then (some ((-2), s2)) else r_enough_18L fu s2 1 0)))
noncomputable def r_leftOf_72 (k10 : RS → Int32 → Int32 → Int32 → Int32 → Option (Int32 × RS)) (s : RS) (x1 : Int32) (x2 : Int32) (x3 : Int32) (x4 : Int32) (x5 : Int32) (x6 : Int32) : Option (Int32 × RS) := (bindP (r_bits x5) fun r1 => (if x6 = r1 then (some (x2, s)) else k10 s x1 x2 x3 (x4 + 1)))
noncomputable def r_leftOf_10 (k10 : RS → Int32 → Int32 → Int32 → Int32 → Option (Int32 × RS)) (s : RS) (x1 : Int32) (x2 : Int32) (x3 : Int32) (x4 : Int32) : Option (Int32 × RS) := (if vpb (s.v 18) 2 then (if (s.f 20 (Int32.toNatClampNeg (s.v 18))) ≤ x4 then (if x2 ≤ 1 then (some (1, s)) else (some (x2, s))) else (bindI (r_mayAt s x4) fun r5 s4 => (bindP (r_bits r5) fun r6 => (if ¬ r6 = 0 then (bindI (r_thingAt s4 x1 x4) fun r9 s8 => (bindP (r_bits (r5 &&& ((1 <<< (r9 &&& 31)) ^^^ (-1)))) fun r10 => (if (r10 * (x3 / r6)) ≤ x2 then r_leftOf_72 k10 s8 x1 x2 (x3 / r6) x4 r5 r10 else r_leftOf_72 k10 s8 x1 (r10 * (x3 / r6)) (x3 / r6) x4 r5 r10))) else none)))) else none)
noncomputable def r_leftOf_10L : Nat → RS → Int32 → Int32 → Int32 → Int32 → Option (Int32 × RS)
  | 0, _, _, _, _, _ => none
  | n + 1, s, x1, x2, x3, x4 => r_leftOf_10 (r_leftOf_10L n) s x1 x2 x3 x4
noncomputable def r_leftOf (s : RS) (x1 : Int32) : Option (Int32 × RS) := (bindI (r_casesNow s) fun r2 s1 => r_leftOf_10L fu s1 x1 0 r2 0)
noncomputable def r_left (s : RS) (x1 : Int32) : Option (Int32 × RS) := (bindI (r_isGuess s x1) fun r2 s1 => (if r2 = 0 then (some ((-1), s1)) else (bindP (r_copies s1) fun s4 => (bindI (r_casesNow s4) fun r6 s5 => (if r6 = 0 then (some ((-2), s5)) else (bindI (r_leftOf s5 x1) fun r9 s8 => (some (r9, s8))))))))
noncomputable def r_wisest_68 (k36 : RS → Int32 → Int32 → Int32 → Int32 → Option (Int32 × RS)) (s : RS) (x1 : Int32) (x2 : Int32) (x3 : Int32) (x4 : Int32) : Option (Int32 × RS) := k36 s x1 x2 x3 (x4 + 1)
noncomputable def r_wisest_36 (k36 : RS → Int32 → Int32 → Int32 → Int32 → Option (Int32 × RS)) (s : RS) (x1 : Int32) (x2 : Int32) (x3 : Int32) (x4 : Int32) : Option (Int32 × RS) := (bindI (r_guesses s) fun r2 s1 => (if r2 ≤ x4 then (if x1 = 0 then (some (x2, s1)) else (some (x3, s1))) else (bindI (r_leftOf s1 x4) fun r6 s5 => (if r6 < x3 then r_wisest_68 k36 s5 x1 x4 r6 x4 else r_wisest_68 k36 s5 x1 x2 x3 x4))))
noncomputable def r_wisest_36L : Nat → RS → Int32 → Int32 → Int32 → Int32 → Option (Int32 × RS)
  | 0, _, _, _, _, _ => none
  | n + 1, s, x1, x2, x3, x4 => r_wisest_36 (r_wisest_36L n) s x1 x2 x3 x4
noncomputable def r_wisest (s : RS) (x1 : Int32) : Option (Int32 × RS) := (bindP (r_in x1 0 1) fun r1 => (if r1 = 0 then (some ((-1), s)) else (bindP (r_copies s) fun s3 => (bindI (r_casesNow s3) fun r5 s4 => (if r5 = 0 then (some ((-2), s4)) else (bindI (r_leftOf s4 0) fun r8 s7 => r_wisest_36L fu s7 x1 0 r8 1))))))
noncomputable def r_fillsChances_6 (k6 : RS → Int32 → Option RS) (s : RS) (x1 : Int32) : Option RS := (bindI (r_guesses s) fun r2 s1 => (if r2 ≤ x1 then (some s1) else (bindI (r_chanceOf s1 x1) fun r5 s4 => (if vpb x1 7776 then (letS (s4.sf 50 (Int32.toNatClampNeg x1) r5) fun s7 => k6 s7 (x1 + 1)) else none))))
noncomputable def r_fillsChances_6L : Nat → RS → Int32 → Option RS
  | 0, _, _ => none
  | n + 1, s, x1 => r_fillsChances_6 (r_fillsChances_6L n) s x1
noncomputable def r_fillsChances (s : RS) : Option RS := (bindP (r_copies s) fun s1 => r_fillsChances_6L fu s1 0)
noncomputable def r_isAhead (s : RS) (x1 : Int32) (x2 : Int32) : Option (Int32 × RS) := (if vpb x1 7776 then (if vpb x2 7776 then (if (s.f 50 (Int32.toNatClampNeg x2)) < (s.f 50 (Int32.toNatClampNeg x1)) then (some (1, s)) else (if vpb x1 7776 then (if vpb x2 7776 then (if (s.f 50 (Int32.toNatClampNeg x1)) = (s.f 50 (Int32.toNatClampNeg x2)) then (if x2 ≤ x1 then (some (0, s)) else (some (1, s))) else (some (0, s))) else none) else none)) else none) else none)
noncomputable def r_rank_49 (k29 : RS → Int32 → Int32 → Int32 → Option (Int32 × RS)) (s : RS) (x1 : Int32) (x2 : Int32) (x3 : Int32) : Option (Int32 × RS) := k29 s x1 x2 (x3 + 1)
noncomputable def r_rank_29 (k29 : RS → Int32 → Int32 → Int32 → Option (Int32 × RS)) (s : RS) (x1 : Int32) (x2 : Int32) (x3 : Int32) : Option (Int32 × RS) := (bindI (r_guesses s) fun r2 s1 => (if r2 ≤ x3 then (some (x2, s1)) else (bindI (r_isAhead s1 x3 x1) fun r5 s4 => (if r5 = 0 then r_rank_49 k29 s4 x1 x2 x3 else r_rank_49 k29 s4 x1 (x2 + 1) x3))))
noncomputable def r_rank_29L : Nat → RS → Int32 → Int32 → Int32 → Option (Int32 × RS)
  | 0, _, _, _, _ => none
  | n + 1, s, x1, x2, x3 => r_rank_29 (r_rank_29L n) s x1 x2 x3
noncomputable def r_rank (s : RS) (x1 : Int32) : Option (Int32 × RS) := (bindI (r_isGuess s x1) fun r2 s1 => (if r2 = 0 then (some ((-1), s1)) else (bindP (r_fillsChances s1) fun s4 => (bindI (r_isCase s4 x1) fun r6 s5 => (if r6 = 0 then (some ((-2), s5)) else r_rank_29L fu s5 x1 0 0)))))
noncomputable def r_ranked_84 (k20 : RS → Int32 → Int32 → Int32 → Option (Int32 × RS)) (k31 : RS → Int32 → Int32 → Int32 → Int32 → Int32 → Option (Int32 × RS)) (s : RS) (x1 : Int32) (x2 : Int32) (x3 : Int32) (x4 : Int32) (x5 : Int32) : Option (Int32 × RS) := k31 s x1 x2 x3 x4 (x5 + 1)
noncomputable def r_ranked_80 (k20 : RS → Int32 → Int32 → Int32 → Option (Int32 × RS)) (k31 : RS → Int32 → Int32 → Int32 → Int32 → Int32 → Option (Int32 × RS)) (s : RS) (x1 : Int32) (x2 : Int32) (x3 : Int32) (x5 : Int32) : Option (Int32 × RS) := r_ranked_84 k20 k31 s x1 x2 x3 x5 x5
noncomputable def r_ranked_64 (k20 : RS → Int32 → Int32 → Int32 → Option (Int32 × RS)) (k31 : RS → Int32 → Int32 → Int32 → Int32 → Int32 → Option (Int32 × RS)) (s : RS) (x1 : Int32) (x2 : Int32) (x3 : Int32) (x4 : Int32) (x5 : Int32) : Option (Int32 × RS) := (if x4 < 0 then r_ranked_80 k20 k31 s x1 x2 x3 x5 else (bindI (r_isAhead s x5 x4) fun r3 s2 => (if r3 = 0 then r_ranked_84 k20 k31 s2 x1 x2 x3 x4 x5 else r_ranked_80 k20 k31 s2 x1 x2 x3 x5)))
noncomputable def r_ranked_31 (k20 : RS → Int32 → Int32 → Int32 → Option (Int32 × RS)) (k31 : RS → Int32 → Int32 → Int32 → Int32 → Int32 → Option (Int32 × RS)) (s : RS) (x1 : Int32) (x2 : Int32) (x3 : Int32) (x4 : Int32) (x5 : Int32) : Option (Int32 × RS) := (bindI (r_guesses s) fun r2 s1 => (if r2 ≤ x5 then (if 0 ≤ x4 then k20 s1 x1 x4 (x3 + 1) else (some ((-1), s1))) else (if vpb x5 7776 then (if (s1.f 50 (Int32.toNatClampNeg x5)) ≤ 0 then r_ranked_84 k20 k31 s1 x1 x2 x3 x4 x5 else (if x2 < 0 then r_ranked_64 k20 k31 s1 x1 x2 x3 x4 x5 else (bindI (r_isAhead s1 x2 x5) fun r9 s8 => (if r9 = 0 then r_ranked_84 k20 k31 s8 x1 x2 x3 x4 x5 else r_ranked_64 k20 k31 s8 x1 x2 x3 x4 x5)))) else none)))
noncomputable def r_ranked_31L (k20 : RS → Int32 → Int32 → Int32 → Option (Int32 × RS)) : Nat → RS → Int32 → Int32 → Int32 → Int32 → Int32 → Option (Int32 × RS)
  | 0, _, _, _, _, _, _ => none
  | n + 1, s, x1, x2, x3, x4, x5 => r_ranked_31 k20 (r_ranked_31L k20 n) s x1 x2 x3 x4 x5
noncomputable def r_ranked_20 (k20 : RS → Int32 → Int32 → Int32 → Option (Int32 × RS)) (s : RS) (x1 : Int32) (x2 : Int32) (x3 : Int32) : Option (Int32 × RS) := (if x1 < x3 then (some (x2, s)) else r_ranked_31L k20 fu s x1 x2 x3 (-1) 0)
noncomputable def r_ranked_20L : Nat → RS → Int32 → Int32 → Int32 → Option (Int32 × RS)
  | 0, _, _, _, _ => none
  | n + 1, s, x1, x2, x3 => r_ranked_20 (r_ranked_20L n) s x1 x2 x3
noncomputable def r_ranked (s : RS) (x1 : Int32) : Option (Int32 × RS) := (bindP (r_in x1 0 19) fun r1 => (if r1 = 0 then (some ((-1), s)) else (bindP (r_fillsChances s) fun s3 => r_ranked_20L fu s3 x1 (-1) 0)))
noncomputable def r_share_73 (k44 : RS → Int32 → Int32 → Int32 → Option (Int32 × RS)) (s : RS) (x1 : Int32) (x3 : Int32) (x4 : Int32) : Option (Int32 × RS) := k44 s x1 x3 (x4 + 1)
noncomputable def r_share_44 (k44 : RS → Int32 → Int32 → Int32 → Option (Int32 × RS)) (s : RS) (x1 : Int32) (x3 : Int32) (x4 : Int32) : Option (Int32 × RS) := (if vpb (s.v 18) 2 then (if (s.f 20 (Int32.toNatClampNeg (s.v 18))) ≤ x4 then (some (x3, s)) else (if x4 = x1 then r_share_73 k44 s x1 x3 x4 else (bindI (r_sumAt s x4) fun r5 s4 => r_share_73 k44 s4 x1 (x3 * r5) x4))) else none)
noncomputable def r_share_44L : Nat → RS → Int32 → Int32 → Int32 → Option (Int32 × RS)
  | 0, _, _, _, _ => none
  | n + 1, s, x1, x3, x4 => r_share_44 (r_share_44L n) s x1 x3 x4
noncomputable def r_share_40 (s : RS) (x1 : Int32) (t0 : Int32) : Option (Int32 × RS) := r_share_44L fu s x1 t0 0
noncomputable def r_share (s : RS) (x1 : Int32) (x2 : Int32) : Option (Int32 × RS) := (bindI (r_isWave s x1) fun r2 s1 => (if r2 = 0 then (some ((-1), s1)) else (bindP (r_isThing x2) fun r4 => (if r4 = 0 then (some ((-1), s1)) else (bindP (r_copies s1) fun s6 => (bindI (r_mayBe s6 x1 x2) fun r8 s7 => (if r8 = 0 then r_share_40 s7 x1 0 else (bindI (r_oddsAt s7 x1 x2) fun r11 s10 => r_share_40 s10 x1 r11))))))))
noncomputable def r_comesOver_7 (k7 : RS → Int32 → Int32 → Int32 → Int32 → Option (Int32 × RS)) (s : RS) (x1 : Int32) (x2 : Int32) (x3 : Int32) (x4 : Int32) : Option (Int32 × RS) := (if x3 ≤ x4 then (some (0, s)) else (bindI (r_bestFor s x1) fun r3 s2 => (if 0 ≤ r3 then (bindI (r_goesBy s2 x1 r3 x2) fun r6 s5 => (if vpb (15 + x1) 29 then (if (s5.f 44 (Int32.toNatClampNeg (15 + x1))) = 2 then (some (1, s5)) else k7 s5 x1 x2 x3 (x4 + 1)) else none)) else (some (0, s2)))))
noncomputable def r_comesOver_7L : Nat → RS → Int32 → Int32 → Int32 → Int32 → Option (Int32 × RS)
  | 0, _, _, _, _, _ => none
  | n + 1, s, x1, x2, x3, x4 => r_comesOver_7 (r_comesOver_7L n) s x1 x2 x3 x4
noncomputable def r_comesOver (s : RS) (x1 : Int32) (x2 : Int32) (x3 : Int32) : Option (Int32 × RS) := (bindP (r_copies s) fun s1 => r_comesOver_7L fu s1 x1 x2 x3 0)
noncomputable def r_sure_81 (k41 : RS → Int32 → Int32 → Int32 → Int32 → Option (Int32 × RS)) (s : RS) (x1 : Int32) (x2 : Int32) (x3 : Int32) (x4 : Int32) : Option (Int32 × RS) := k41 s x1 x2 x3 (x4 + 1)
noncomputable def r_sure_41 (k41 : RS → Int32 → Int32 → Int32 → Int32 → Option (Int32 × RS)) (s : RS) (x1 : Int32) (x2 : Int32) (x3 : Int32) (x4 : Int32) : Option (Int32 × RS) := (bindI (r_guesses s) fun r2 s1 => (if r2 ≤ x4 then (some (x3, s1)) else (if vpb x4 7776 then (if (s1.f 50 (Int32.toNatClampNeg x4)) ≤ 0 then r_sure_81 k41 s1 x1 x2 x3 x4 else (bindI (r_comesOver s1 x1 x4 x2) fun r7 s6 => (if r7 = 0 then r_sure_81 k41 s6 x1 x2 x3 x4 else (if vpb x4 7776 then r_sure_81 k41 s6 x1 x2 (x3 + (s6.f 50 (Int32.toNatClampNeg x4))) x4 else none)))) else none)))
noncomputable def r_sure_41L : Nat → RS → Int32 → Int32 → Int32 → Int32 → Option (Int32 × RS)
  | 0, _, _, _, _, _ => none
  | n + 1, s, x1, x2, x3, x4 => r_sure_41 (r_sure_41L n) s x1 x2 x3 x4
noncomputable def r_sure (s : RS) (x1 : Int32) (x2 : Int32) : Option (Int32 × RS) := (bindI (r_isHere s x1) fun r2 s1 => (if r2 = 0 then (some ((-1), s1)) else (if vpb (s1.v 18) 2 then (if (s1.f 20 (Int32.toNatClampNeg (s1.v 18))) = 0 then (some ((-1), s1)) else (bindP (r_in x2 1 8) fun r6 => (if r6 = 0 then (some ((-1), s1)) else (bindP (r_fillsChances s1) fun s8 => r_sure_41L fu s8 x1 x2 0 0)))) else none)))
noncomputable def r_alike_20 (k20 : RS → Int32 → Int32 → Int32 → Option (Int32 × RS)) (s : RS) (x1 : Int32) (x2 : Int32) (x3 : Int32) : Option (Int32 × RS) := (if vpb (s.v 18) 2 then (if (s.f 20 (Int32.toNatClampNeg (s.v 18))) ≤ x3 then (some (x3, s)) else (bindI (r_thingAt s x1 x3) fun r4 s3 => (bindI (r_thingAt s3 x2 x3) fun r6 s5 => (if r4 = r6 then k20 s5 x1 x2 (x3 + 1) else (some (x3, s5)))))) else none)
noncomputable def r_alike_20L : Nat → RS → Int32 → Int32 → Int32 → Option (Int32 × RS)
  | 0, _, _, _, _ => none
  | n + 1, s, x1, x2, x3 => r_alike_20 (r_alike_20L n) s x1 x2 x3
noncomputable def r_alike (s : RS) (x1 : Int32) (x2 : Int32) : Option (Int32 × RS) := (bindI (r_isGuess s x1) fun r2 s1 => (if r2 = 0 then (some ((-1), s1)) else (bindI (r_isGuess s1 x2) fun r5 s4 => (if r5 = 0 then (some ((-1), s4)) else r_alike_20L fu s4 x1 x2 0))))
noncomputable def r_sunk_63 (k18 : RS → Int32 → Int32 → Int32 → Option (Int32 × RS)) (s : RS) (x1 : Int32) (x2 : Int32) (x3 : Int32) : Option (Int32 × RS) := k18 s x1 x2 (x3 + 1)
noncomputable def r_sunk_18 (k18 : RS → Int32 → Int32 → Int32 → Option (Int32 × RS)) (s : RS) (x1 : Int32) (x2 : Int32) (x3 : Int32) : Option (Int32 × RS) := (if vpb (s.v 18) 2 then (if (s.f 23 (Int32.toNatClampNeg (s.v 18))) ≤ x3 then (some (x2, s)) else (bindI (r_isHere s x3) fun r4 s3 => (if r4 = 0 then r_sunk_63 k18 s3 x1 x2 x3 else (bindI (r_bearsBy s3 x3 x1) fun r7 s6 => (if vpb (s6.v 18) 2 then (if (s6.f 20 (Int32.toNatClampNeg (s6.v 18))) ≤ r7 then r_sunk_63 k18 s6 x1 x2 x3 else r_sunk_63 k18 s6 x1 (x2 ||| (1 <<< (x3 &&& 31))) x3) else none))))) else none)
noncomputable def r_sunk_18L : Nat → RS → Int32 → Int32 → Int32 → Option (Int32 × RS)
  | 0, _, _, _, _ => none
  | n + 1, s, x1, x2, x3 => r_sunk_18 (r_sunk_18L n) s x1 x2 x3
noncomputable def r_sunk (s : RS) (x1 : Int32) : Option (Int32 × RS) := (bindI (r_isGuess s x1) fun r2 s1 => (if r2 = 0 then (some ((-1), s1)) else (bindP (r_copies s1) fun s4 => r_sunk_18L fu s4 x1 0 0)))
noncomputable def r_stuck_43 (k8 : RS → Int32 → Int32 → Option (Int32 × RS)) (s : RS) (x1 : Int32) (x2 : Int32) : Option (Int32 × RS) := k8 s x1 (x2 + 1)
noncomputable def r_stuck_8 (k8 : RS → Int32 → Int32 → Option (Int32 × RS)) (s : RS) (x1 : Int32) (x2 : Int32) : Option (Int32 × RS) := (if vpb (s.v 18) 2 then (if (s.f 23 (Int32.toNatClampNeg (s.v 18))) ≤ x2 then (some (x1, s)) else (bindI (r_isHere s x2) fun r4 s3 => (if r4 = 0 then r_stuck_43 k8 s3 x1 x2 else (bindI (r_bestFor s3 x2) fun r7 s6 => (if 0 ≤ r7 then r_stuck_43 k8 s6 x1 x2 else r_stuck_43 k8 s6 (x1 ||| (1 <<< (x2 &&& 31))) x2))))) else none)
noncomputable def r_stuck_8L : Nat → RS → Int32 → Int32 → Option (Int32 × RS)
  | 0, _, _, _ => none
  | n + 1, s, x1, x2 => r_stuck_8 (r_stuck_8L n) s x1 x2
noncomputable def r_stuck (s : RS) : Option (Int32 × RS) := (bindP (r_copies s) fun s1 => r_stuck_8L fu s1 0 0)
noncomputable def r_spread_80 (k22 : RS → Int32 → Int32 → Int32 → Int32 → Option (Int32 × RS)) (s : RS) (x1 : Int32) (x2 : Int32) (x3 : Int32) (x4 : Int32) : Option (Int32 × RS) := k22 s x1 x2 x3 (x4 + 1)
noncomputable def r_spread_61 (k22 : RS → Int32 → Int32 → Int32 → Int32 → Option (Int32 × RS)) (s : RS) (x1 : Int32) (x2 : Int32) (x3 : Int32) (x4 : Int32) : Option (Int32 × RS) := (bindI (r_oddsAt s x1 x4) fun r2 s1 => (if x3 ≤ r2 then r_spread_80 k22 s1 x1 x2 x3 x4 else (bindI (r_oddsAt s1 x1 x4) fun r5 s4 => r_spread_80 k22 s4 x1 x2 r5 x4)))
noncomputable def r_spread_22 (k22 : RS → Int32 → Int32 → Int32 → Int32 → Option (Int32 × RS)) (s : RS) (x1 : Int32) (x2 : Int32) (x3 : Int32) (x4 : Int32) : Option (Int32 × RS) := (if 6 ≤ x4 then (if x3 ≤ x2 then (some ((x2 - x3), s)) else (some (0, s))) else (bindI (r_mayBe s x1 x4) fun r4 s3 => (if r4 = 0 then r_spread_80 k22 s3 x1 x2 x3 x4 else (bindI (r_oddsAt s3 x1 x4) fun r7 s6 => (if r7 ≤ x2 then r_spread_61 k22 s6 x1 x2 x3 x4 else (bindI (r_oddsAt s6 x1 x4) fun r10 s9 => r_spread_61 k22 s9 x1 r10 x3 x4))))))
noncomputable def r_spread_22L : Nat → RS → Int32 → Int32 → Int32 → Int32 → Option (Int32 × RS)
  | 0, _, _, _, _, _ => none
  | n + 1, s, x1, x2, x3, x4 => r_spread_22 (r_spread_22L n) s x1 x2 x3 x4
noncomputable def r_spread (s : RS) (x1 : Int32) : Option (Int32 × RS) := (bindI (r_isWave s x1) fun r2 s1 => (if r2 = 0 then (some ((-1), s1)) else (bindP (r_copies s1) fun s4 => r_spread_22L fu s4 x1 0 10 0)))
noncomputable def r_dearest_52 (k20 : RS → Int32 → Int32 → Int32 → Option (Int32 × RS)) (s : RS) (x1 : Int32) (x2 : Int32) (x3 : Int32) : Option (Int32 × RS) := k20 s x1 x2 (x3 + 1)
noncomputable def r_dearest_50 (k20 : RS → Int32 → Int32 → Int32 → Option (Int32 × RS)) (s : RS) (x1 : Int32) (x3 : Int32) : Option (Int32 × RS) := r_dearest_52 k20 s x1 x3 x3
noncomputable def r_dearest_20 (k20 : RS → Int32 → Int32 → Int32 → Option (Int32 × RS)) (s : RS) (x1 : Int32) (x2 : Int32) (x3 : Int32) : Option (Int32 × RS) := (if vpb (s.v 18) 2 then (if (s.f 23 (Int32.toNatClampNeg (s.v 18))) ≤ x3 then (if x2 < 0 then (some (x2, s)) else (if x1 = 0 then (some (x2, s)) else (bindI (r_faresOf s x2) fun r6 s5 => (some (r6, s5))))) else (if x2 < 0 then r_dearest_50 k20 s x1 x3 else (bindI (r_faresOf s x3) fun r9 s8 => (bindI (r_faresOf s8 x2) fun r11 s10 => (if r9 ≤ r11 then r_dearest_52 k20 s10 x1 x2 x3 else r_dearest_50 k20 s10 x1 x3))))) else none)
noncomputable def r_dearest_20L : Nat → RS → Int32 → Int32 → Int32 → Option (Int32 × RS)
  | 0, _, _, _, _ => none
  | n + 1, s, x1, x2, x3 => r_dearest_20 (r_dearest_20L n) s x1 x2 x3
noncomputable def r_dearest (s : RS) (x1 : Int32) : Option (Int32 × RS) := (bindP (r_in x1 0 1) fun r1 => (if r1 = 0 then (some ((-1), s)) else (bindP (r_copies s) fun s3 => r_dearest_20L fu s3 x1 (-2) 0)))
noncomputable def r_chosen_75 (k11 : RS → Int32 → Int32 → Int32 → Option (Int32 × RS)) (s : RS) (x1 : Int32) (x2 : Int32) (x3 : Int32) : Option (Int32 × RS) := k11 s x1 x2 (x3 + 1)
noncomputable def r_chosen_66 (k11 : RS → Int32 → Int32 → Int32 → Option (Int32 × RS)) (s : RS) (x3 : Int32) (x4 : Int32) : Option (Int32 × RS) := (bindI (r_chanceOf s x4) fun r2 s1 => r_chosen_75 k11 s1 x3 r2 x3)
noncomputable def r_chosen_42 (k11 : RS → Int32 → Int32 → Int32 → Option (Int32 × RS)) (s : RS) (x1 : Int32) (x2 : Int32) (x3 : Int32) (t0 : Int32) : Option (Int32 × RS) := (if t0 < 0 then r_chosen_75 k11 s x1 x2 x3 else (if x1 < 0 then r_chosen_66 k11 s x3 t0 else (bindI (r_chanceOf s t0) fun r4 s3 => (if x2 < r4 then r_chosen_66 k11 s3 x3 t0 else r_chosen_75 k11 s3 x1 x2 x3))))
noncomputable def r_chosen_11 (k11 : RS → Int32 → Int32 → Int32 → Option (Int32 × RS)) (s : RS) (x1 : Int32) (x2 : Int32) (x3 : Int32) : Option (Int32 × RS) := (if vpb (s.v 18) 2 then (if (s.f 23 (Int32.toNatClampNeg (s.v 18))) ≤ x3 then (some (x1, s)) else (bindI (r_isHere s x3) fun r4 s3 => (if r4 = 0 then r_chosen_42 k11 s3 x1 x2 x3 (-2) else (bindI (r_bestFor s3 x3) fun r7 s6 => r_chosen_42 k11 s6 x1 x2 x3 r7)))) else none)
noncomputable def r_chosen_11L : Nat → RS → Int32 → Int32 → Int32 → Option (Int32 × RS)
  | 0, _, _, _, _ => none
  | n + 1, s, x1, x2, x3 => r_chosen_11 (r_chosen_11L n) s x1 x2 x3
noncomputable def r_chosen (s : RS) : Option (Int32 × RS) := (bindP (r_copies s) fun s1 => r_chosen_11L fu s1 (-2) 0 0)
noncomputable def r_manyIn_33 (k4 : RS → Int32 → Int32 → Int32 → Option (Int32 × RS)) (s : RS) (x1 : Int32) (x2 : Int32) (x3 : Int32) : Option (Int32 × RS) := k4 s x1 x2 (x3 + 1)
noncomputable def r_manyIn_4 (k4 : RS → Int32 → Int32 → Int32 → Option (Int32 × RS)) (s : RS) (x1 : Int32) (x2 : Int32) (x3 : Int32) : Option (Int32 × RS) := (if vpb (s.v 18) 2 then (if (s.f 23 (Int32.toNatClampNeg (s.v 18))) ≤ x3 then (some (x2, s)) else (if vpb (15 + x3) 29 then (if (s.f 44 (Int32.toNatClampNeg (15 + x3))) = x1 then r_manyIn_33 k4 s x1 (x2 + 1) x3 else r_manyIn_33 k4 s x1 x2 x3) else none)) else none)
noncomputable def r_manyIn_4L : Nat → RS → Int32 → Int32 → Int32 → Option (Int32 × RS)
  | 0, _, _, _, _ => none
  | n + 1, s, x1, x2, x3 => r_manyIn_4 (r_manyIn_4L n) s x1 x2 x3
noncomputable def r_manyIn (s : RS) (x1 : Int32) : Option (Int32 × RS) := r_manyIn_4L fu s x1 0 0
noncomputable def r_allGo_89 (k22 : RS → Int32 → Int32 → Int32 → Option (Int32 × RS)) (s : RS) (x1 : Int32) (x2 : Int32) (x3 : Int32) : Option (Int32 × RS) := k22 s x1 x2 (x3 + 1)
noncomputable def r_allGo_73 (k22 : RS → Int32 → Int32 → Int32 → Option (Int32 × RS)) (s : RS) (x1 : Int32) (x2 : Int32) (x3 : Int32) (t0 : Int32) : Option (Int32 × RS) := (if t0 < 0 then r_allGo_89 k22 s x1 x2 x3 else (bindI (r_goesBy s x3 t0 x2) fun r3 s2 => r_allGo_89 k22 s2 x1 x2 x3))
noncomputable def r_allGo_71 (k22 : RS → Int32 → Int32 → Int32 → Option (Int32 × RS)) (s : RS) (x1 : Int32) (x2 : Int32) (x3 : Int32) : Option (Int32 × RS) := r_allGo_73 k22 s x1 x2 x3 (-2)
noncomputable def r_allGo_22 (k22 : RS → Int32 → Int32 → Int32 → Option (Int32 × RS)) (s : RS) (x1 : Int32) (x2 : Int32) (x3 : Int32) : Option (Int32 × RS) := (if vpb (s.v 18) 2 then (if (s.f 23 (Int32.toNatClampNeg (s.v 18))) ≤ x3 then (if x1 = 0 then (bindI (r_manyIn s 2) fun r8 s7 => (some (r8, s7))) else (if x1 = 1 then (bindI (r_manyIn s 1) fun r6 s5 => (some (r6, s5))) else (some (((s.f 44 28) - (s.f 43 28)), s)))) else (bindI (r_isHere s x3) fun r10 s9 => (if r10 = 0 then r_allGo_71 k22 s9 x1 x2 x3 else (bindI (r_doesDare s9 x3) fun r13 s12 => (if r13 = 0 then r_allGo_71 k22 s12 x1 x2 x3 else (if vpb (s12.v 18) 2 then (if (s12.f 20 (Int32.toNatClampNeg (s12.v 18))) ≤ 0 then r_allGo_71 k22 s12 x1 x2 x3 else (bindI (r_bestFor s12 x3) fun r18 s17 => r_allGo_73 k22 s17 x1 x2 x3 r18)) else none)))))) else none)
noncomputable def r_allGo_22L : Nat → RS → Int32 → Int32 → Int32 → Option (Int32 × RS)
  | 0, _, _, _, _ => none
  | n + 1, s, x1, x2, x3 => r_allGo_22 (r_allGo_22L n) s x1 x2 x3
noncomputable def r_allGo (s : RS) (x1 : Int32) : Option (Int32 × RS) := (bindP (r_in x1 0 2) fun r1 => (if r1 = 0 then (some ((-1), s)) else (bindP (r_copies s) fun s3 => (bindI (r_thereNumber s3) fun r5 s4 => r_allGo_22L fu s4 x1 r5 0))))
noncomputable def r_darers_43 (k8 : RS → Int32 → Int32 → Option (Int32 × RS)) (s : RS) (x1 : Int32) (x2 : Int32) : Option (Int32 × RS) := k8 s x1 (x2 + 1)
noncomputable def r_darers_8 (k8 : RS → Int32 → Int32 → Option (Int32 × RS)) (s : RS) (x1 : Int32) (x2 : Int32) : Option (Int32 × RS) := (if vpb (s.v 18) 2 then (if (s.f 23 (Int32.toNatClampNeg (s.v 18))) ≤ x2 then (some (x1, s)) else (bindI (r_isHere s x2) fun r4 s3 => (if r4 = 0 then r_darers_43 k8 s3 x1 x2 else (bindI (r_doesDare s3 x2) fun r7 s6 => (if r7 = 0 then r_darers_43 k8 s6 x1 x2 else r_darers_43 k8 s6 (x1 ||| (1 <<< (x2 &&& 31))) x2))))) else none)
noncomputable def r_darers_8L : Nat → RS → Int32 → Int32 → Option (Int32 × RS)
  | 0, _, _, _ => none
  | n + 1, s, x1, x2 => r_darers_8 (r_darers_8L n) s x1 x2
noncomputable def r_darers (s : RS) : Option (Int32 × RS) := (bindP (r_copies s) fun s1 => r_darers_8L fu s1 0 0)
noncomputable def r_open_39 (k8 : RS → Int32 → Int32 → Option (Int32 × RS)) (s : RS) (x1 : Int32) (x2 : Int32) : Option (Int32 × RS) := k8 s x1 (x2 + 1)
noncomputable def r_open_8 (k8 : RS → Int32 → Int32 → Option (Int32 × RS)) (s : RS) (x1 : Int32) (x2 : Int32) : Option (Int32 × RS) := (if vpb (s.v 18) 2 then (if (s.f 20 (Int32.toNatClampNeg (s.v 18))) ≤ x2 then (some (x1, s)) else (bindI (r_mayAt s x2) fun r4 s3 => (bindP (r_bits r4) fun r5 => (if r5 ≤ 1 then r_open_39 k8 s3 x1 x2 else r_open_39 k8 s3 (x1 ||| (1 <<< (x2 &&& 31))) x2)))) else none)
noncomputable def r_open_8L : Nat → RS → Int32 → Int32 → Option (Int32 × RS)
  | 0, _, _, _ => none
  | n + 1, s, x1, x2 => r_open_8 (r_open_8L n) s x1 x2
noncomputable def r_open (s : RS) : Option (Int32 × RS) := (bindP (r_copies s) fun s1 => r_open_8L fu s1 0 0)
noncomputable def r_then (s : RS) (x1 : Int32) (x2 : Int32) (x3 : Int32) : Option (Int32 × RS) := (bindI (r_isWave s x1) fun r2 s1 => (if r2 = 0 then (some ((-1), s1)) else (bindP (r_isLong x2) fun r4 => (if r4 = 0 then (some ((-1), s1)) else (bindP (r_in x3 0 2) fun r6 => (if r6 = 0 then (some ((-1), s1)) else (bindP (r_copies s1) fun s8 => (bindP (r_yearsGo s8 x2) fun s9 => (if x3 = 0 then (bindI (r_mayAt s9 x1) fun r16 s15 => (some (r16, s15))) else (if x3 = 1 then (if vpb (10 + x1) 29 then (some ((s9.f 44 (Int32.toNatClampNeg (10 + x1))), s9)) else none) else (bindI (r_thereAt s9 x1) fun r13 s12 => (some (r13, s12)))))))))))))
noncomputable def r_next_16 (k16 : RS → Int32 → Int32 → Option (Int32 × RS)) (s : RS) (x1 : Int32) (x2 : Int32) : Option (Int32 × RS) := (if 40 < x2 then (some ((-2), s)) else (bindP (r_yearGoes s) fun s2 => (if vpb (10 + x1) 29 then (if vpb (10 + x1) 29 then (if (s2.f 44 (Int32.toNatClampNeg (10 + x1))) ≤ (s2.f 43 (Int32.toNatClampNeg (10 + x1))) then k16 s2 x1 (x2 + 1) else (some (x2, s2))) else none) else none)))
noncomputable def r_next_16L : Nat → RS → Int32 → Int32 → Option (Int32 × RS)
  | 0, _, _, _ => none
  | n + 1, s, x1, x2 => r_next_16 (r_next_16L n) s x1 x2
noncomputable def r_next (s : RS) (x1 : Int32) : Option (Int32 × RS) := (bindI (r_isWave s x1) fun r2 s1 => (if r2 = 0 then (some ((-1), s1)) else (bindP (r_copies s1) fun s4 => r_next_16L fu s4 x1 1)))
noncomputable def r_year_46 (k29 : RS → Int32 → Int32 → Int32 → Int32 → Option (Int32 × RS)) (s : RS) (x1 : Int32) (x2 : Int32) (x3 : Int32) (x4 : Int32) : Option (Int32 × RS) := (letS (s.sv 45 ((s.v 45) + 1)) fun s1 => k29 s1 x1 x2 x3 (x4 + 1))
noncomputable def r_year_29 (k29 : RS → Int32 → Int32 → Int32 → Int32 → Option (Int32 × RS)) (s : RS) (x1 : Int32) (x2 : Int32) (x3 : Int32) (x4 : Int32) : Option (Int32 × RS) := (if x2 ≤ x4 then (some (x3, s)) else (bindI (r_thereNumber s) fun r3 s2 => (if r3 = x1 then r_year_46 k29 s2 x1 x2 (x3 + 1) x4 else r_year_46 k29 s2 x1 x2 x3 x4)))
noncomputable def r_year_29L : Nat → RS → Int32 → Int32 → Int32 → Int32 → Option (Int32 × RS)
  | 0, _, _, _, _, _ => none
  | n + 1, s, x1, x2, x3, x4 => r_year_29 (r_year_29L n) s x1 x2 x3 x4
noncomputable def r_year (s : RS) (x1 : Int32) (x2 : Int32) : Option (Int32 × RS) := (bindI (r_isGuess s x1) fun r2 s1 => (if r2 = 0 then (some ((-1), s1)) else (bindP (r_in x2 1 20) fun r4 => (if r4 = 0 then (some ((-1), s1)) else (bindP (r_copies s1) fun s6 => r_year_29L fu s6 x1 x2 0 0)))))
noncomputable def r_drawn_29 (k29 : RS → Int32 → Int32 → Int32 → Int32 → Option (Int32 × RS)) (s : RS) (x1 : Int32) (x2 : Int32) (x3 : Int32) (x4 : Int32) : Option (Int32 × RS) := (if x2 ≤ x4 then (bindP (r_bits x3) fun r2 => (some (r2, s))) else (bindI (r_thereAt s x1) fun r4 s3 => (letS (s3.sv 45 ((s3.v 45) + 1)) fun s5 => k29 s5 x1 x2 (x3 ||| (1 <<< (r4 &&& 31))) (x4 + 1))))
noncomputable def r_drawn_29L : Nat → RS → Int32 → Int32 → Int32 → Int32 → Option (Int32 × RS)
  | 0, _, _, _, _, _ => none
  | n + 1, s, x1, x2, x3, x4 => r_drawn_29 (r_drawn_29L n) s x1 x2 x3 x4
noncomputable def r_drawn (s : RS) (x1 : Int32) (x2 : Int32) : Option (Int32 × RS) := (bindI (r_isWave s x1) fun r2 s1 => (if r2 = 0 then (some ((-1), s1)) else (bindP (r_in x2 1 20) fun r4 => (if r4 = 0 then (some ((-1), s1)) else (bindP (r_copies s1) fun s6 => r_drawn_29L fu s6 x1 x2 0 0)))))
noncomputable def r_tell (s : RS) (x1 : Int32) (x2 : Int32) (x3 : Int32) : Option (Int32 × RS) := (if (s.v 51) = 20 then (some ((-1), s)) else (bindI (r_isWave s x1) fun r3 s2 => (if r3 = 0 then (some ((-1), s2)) else (bindP (r_in x2 1 63) fun r5 => (if r5 = 0 then (some ((-1), s2)) else (if vpb (s2.v 51) 20 then (letS (s2.sf 52 (Int32.toNatClampNeg (s2.v 51)) x1) fun s8 => (if vpb (s8.v 51) 20 then (letS (s8.sf 53 (Int32.toNatClampNeg (s8.v 51)) x2) fun s11 => (if vpb (s11.v 51) 20 then (letS (s11.sf 54 (Int32.toNatClampNeg (s11.v 51)) (vp_nar .boolean x3)) fun s14 => (letS (s14.sv 51 ((s14.v 51) + 1)) fun s16 => (some (((s16.v 51) - 1), s16)))) else none)) else none)) else none))))))
noncomputable def r_forget (s : RS) : Option (Int32 × RS) := (letS (s.sv 51 0) fun s1 => (some ((s.v 51), s1)))
noncomputable def r_isSo_29 (s : RS) (x2 : Int32) (t0 : Int32) : Option (Int32 × RS) := (if vpb x2 20 then (if t0 = (s.f 54 (Int32.toNatClampNeg x2)) then (some (1, s)) else (some (0, s))) else none)
noncomputable def r_isSo (s : RS) (x1 : Int32) (x2 : Int32) : Option (Int32 × RS) := (if vpb x2 20 then (if vpb x2 20 then (bindI (r_thingAt s x1 (s.f 52 (Int32.toNatClampNeg x2))) fun r4 s3 => (if (((s.f 53 (Int32.toNatClampNeg x2)) >>> (r4 &&& 31)) &&& 1) = 1 then r_isSo_29 s3 x2 1 else r_isSo_29 s3 x2 0)) else none) else none)
noncomputable def r_doesFit_36 (k17 : RS → Int32 → Int32 → Int32 → Int32 → Int32 → Option (Int32 × RS)) (s : RS) (x1 : Int32) (x2 : Int32) (x3 : Int32) (x4 : Int32) (x5 : Int32) : Option (Int32 × RS) := k17 s x1 x2 x3 x4 (x5 + 1)
noncomputable def r_doesFit_17 (k17 : RS → Int32 → Int32 → Int32 → Int32 → Int32 → Option (Int32 × RS)) (s : RS) (x1 : Int32) (x2 : Int32) (x3 : Int32) (x4 : Int32) (x5 : Int32) : Option (Int32 × RS) := (if x2 ≤ x5 then (if x3 < x4 then (some (0, s)) else (some (1, s))) else (bindI (r_isSo s x1 x5) fun r4 s3 => (if r4 = 0 then r_doesFit_36 k17 s3 x1 x2 x3 (x4 + 1) x5 else r_doesFit_36 k17 s3 x1 x2 x3 x4 x5)))
noncomputable def r_doesFit_17L : Nat → RS → Int32 → Int32 → Int32 → Int32 → Int32 → Option (Int32 × RS)
  | 0, _, _, _, _, _, _ => none
  | n + 1, s, x1, x2, x3, x4, x5 => r_doesFit_17 (r_doesFit_17L n) s x1 x2 x3 x4 x5
noncomputable def r_doesFit (s : RS) (x1 : Int32) (x2 : Int32) (x3 : Int32) : Option (Int32 × RS) := (if vpb x1 7776 then (if (s.f 50 (Int32.toNatClampNeg x1)) = 0 then (some (0, s)) else r_doesFit_17L fu s x1 x2 x3 0 0) else none)
noncomputable def r_isAsked (s : RS) (x1 : Int32) (x2 : Int32) : Option (Int32 × RS) := (bindP (r_in x1 0 (s.v 51)) fun r1 => (if r1 = 0 then (some (0, s)) else (bindP (r_in x2 0 3) fun r3 => (if r3 = 0 then (some (0, s)) else (some (1, s))))))
noncomputable def r_fit_70 (k30 : RS → Int32 → Int32 → Int32 → Int32 → Int32 → Option (Int32 × RS)) (s : RS) (x1 : Int32) (x2 : Int32) (x3 : Int32) (x4 : Int32) (x5 : Int32) : Option (Int32 × RS) := k30 s x1 x2 x3 x4 (x5 + 1)
noncomputable def r_fit_67 (k30 : RS → Int32 → Int32 → Int32 → Int32 → Int32 → Option (Int32 × RS)) (s : RS) (x1 : Int32) (x2 : Int32) (x3 : Int32) (x5 : Int32) (t0 : Int32) (t1 : Int32) : Option (Int32 × RS) := r_fit_70 k30 s x1 x2 x3 (t1 + t0) x5
noncomputable def r_fit_30 (k30 : RS → Int32 → Int32 → Int32 → Int32 → Int32 → Option (Int32 × RS)) (s : RS) (x1 : Int32) (x2 : Int32) (x3 : Int32) (x4 : Int32) (x5 : Int32) : Option (Int32 × RS) := (bindI (r_guesses s) fun r2 s1 => (if r2 ≤ x5 then (some (x4, s1)) else (bindI (r_doesFit s1 x5 x1 x2) fun r5 s4 => (if r5 = 0 then r_fit_70 k30 s4 x1 x2 x3 x4 x5 else (if x3 = 0 then r_fit_67 k30 s4 x1 x2 x3 x5 1 x4 else (if vpb x5 7776 then r_fit_67 k30 s4 x1 x2 x3 x5 (s4.f 50 (Int32.toNatClampNeg x5)) x4 else none))))))
noncomputable def r_fit_30L : Nat → RS → Int32 → Int32 → Int32 → Int32 → Int32 → Option (Int32 × RS)
  | 0, _, _, _, _, _, _ => none
  | n + 1, s, x1, x2, x3, x4, x5 => r_fit_30 (r_fit_30L n) s x1 x2 x3 x4 x5
noncomputable def r_fit (s : RS) (x1 : Int32) (x2 : Int32) (x3 : Int32) : Option (Int32 × RS) := (bindI (r_isAsked s x1 x2) fun r2 s1 => (if r2 = 0 then (some ((-1), s1)) else (bindP (r_in x3 0 1) fun r4 => (if r4 = 0 then (some ((-1), s1)) else (bindP (r_fillsChances s1) fun s6 => r_fit_30L fu s6 x1 x2 x3 0 0)))))
noncomputable def r_lie_82 (k24 : RS → Int32 → Int32 → Int32 → Int32 → Option (Int32 × RS)) (s : RS) (x1 : Int32) (x2 : Int32) (x3 : Int32) (x4 : Int32) : Option (Int32 × RS) := k24 s x1 x2 x3 (x4 + 1)
noncomputable def r_lie_76 (k24 : RS → Int32 → Int32 → Int32 → Int32 → Option (Int32 × RS)) (k50 : RS → Int32 → Int32 → Int32 → Int32 → Int32 → Option (Int32 × RS)) (s : RS) (x1 : Int32) (x2 : Int32) (x3 : Int32) (x4 : Int32) (x5 : Int32) : Option (Int32 × RS) := k50 s x1 x2 x3 x4 (x5 + 1)
noncomputable def r_lie_50 (k24 : RS → Int32 → Int32 → Int32 → Int32 → Option (Int32 × RS)) (k50 : RS → Int32 → Int32 → Int32 → Int32 → Int32 → Option (Int32 × RS)) (s : RS) (x1 : Int32) (x2 : Int32) (x3 : Int32) (x4 : Int32) (x5 : Int32) : Option (Int32 × RS) := (if x1 ≤ x5 then r_lie_82 k24 s x1 x2 x3 x4 else (bindI (r_isSo s x4 x5) fun r3 s2 => (if r3 = 0 then r_lie_76 k24 k50 s2 x1 x2 x3 x4 x5 else r_lie_76 k24 k50 s2 x1 x2 (x3 &&& ((1 <<< (x5 &&& 31)) ^^^ (-1))) x4 x5)))
noncomputable def r_lie_50L (k24 : RS → Int32 → Int32 → Int32 → Int32 → Option (Int32 × RS)) : Nat → RS → Int32 → Int32 → Int32 → Int32 → Int32 → Option (Int32 × RS)
  | 0, _, _, _, _, _, _ => none
  | n + 1, s, x1, x2, x3, x4, x5 => r_lie_50 k24 (r_lie_50L k24 n) s x1 x2 x3 x4 x5
noncomputable def r_lie_24 (k24 : RS → Int32 → Int32 → Int32 → Int32 → Option (Int32 × RS)) (s : RS) (x1 : Int32) (x2 : Int32) (x3 : Int32) (x4 : Int32) : Option (Int32 × RS) := (bindI (r_guesses s) fun r2 s1 => (if r2 ≤ x4 then (some (x3, s1)) else (bindI (r_doesFit s1 x4 x1 x2) fun r5 s4 => (if r5 = 0 then r_lie_82 k24 s4 x1 x2 x3 x4 else r_lie_50L k24 fu s4 x1 x2 x3 x4 0))))
noncomputable def r_lie_24L : Nat → RS → Int32 → Int32 → Int32 → Int32 → Option (Int32 × RS)
  | 0, _, _, _, _, _ => none
  | n + 1, s, x1, x2, x3, x4 => r_lie_24 (r_lie_24L n) s x1 x2 x3 x4
noncomputable def r_lie (s : RS) (x1 : Int32) (x2 : Int32) : Option (Int32 × RS) := (bindI (r_isAsked s x1 x2) fun r2 s1 => (if r2 = 0 then (some ((-1), s1)) else (bindP (r_fillsChances s1) fun s4 => r_lie_24L fu s4 x1 x2 ((1 <<< (x1 &&& 31)) - 1) 0)))
noncomputable def r_worstAt_37 (k4 : RS → Int32 → Int32 → Int32 → Option (Int32 × RS)) (s : RS) (x1 : Int32) (x2 : Int32) (x3 : Int32) : Option (Int32 × RS) := k4 s x1 x2 (x3 + 1)
noncomputable def r_worstAt_4 (k4 : RS → Int32 → Int32 → Int32 → Option (Int32 × RS)) (s : RS) (x1 : Int32) (x2 : Int32) (x3 : Int32) : Option (Int32 × RS) := (if 6 ≤ x3 then (some (x2, s)) else (if vpb ((6 * x1) + x3) 30 then (if (s.f 55 (Int32.toNatClampNeg ((6 * x1) + x3))) ≤ x2 then r_worstAt_37 k4 s x1 x2 x3 else (if vpb ((6 * x1) + x3) 30 then r_worstAt_37 k4 s x1 (s.f 55 (Int32.toNatClampNeg ((6 * x1) + x3))) x3 else none)) else none))
noncomputable def r_worstAt_4L : Nat → RS → Int32 → Int32 → Int32 → Option (Int32 × RS)
  | 0, _, _, _, _ => none
  | n + 1, s, x1, x2, x3 => r_worstAt_4 (r_worstAt_4L n) s x1 x2 x3
noncomputable def r_worstAt (s : RS) (x1 : Int32) : Option (Int32 × RS) := r_worstAt_4L fu s x1 0 0
noncomputable def r_ask_168 (k126 : RS → Int32 → Int32 → Int32 → Option (Int32 × RS)) (s : RS) (x3 : Int32) (x4 : Int32) (x5 : Int32) : Option (Int32 × RS) := k126 s x3 x4 (x5 + 1)
noncomputable def r_ask_164 (k126 : RS → Int32 → Int32 → Int32 → Option (Int32 × RS)) (s : RS) (x3 : Int32) (x5 : Int32) : Option (Int32 × RS) := r_ask_168 k126 s x3 x5 x5
noncomputable def r_ask_126 (k126 : RS → Int32 → Int32 → Int32 → Option (Int32 × RS)) (s : RS) (x3 : Int32) (x4 : Int32) (x5 : Int32) : Option (Int32 × RS) := (if vpb (s.v 18) 2 then (if (s.f 20 (Int32.toNatClampNeg (s.v 18))) ≤ x5 then (some (x4, s)) else (if x3 ≤ 0 then (some (x4, s)) else (if x4 < 0 then r_ask_164 k126 s x3 x5 else (bindI (r_worstAt s x5) fun r6 s5 => (bindI (r_worstAt s5 x4) fun r8 s7 => (if r8 ≤ r6 then r_ask_168 k126 s7 x3 x4 x5 else r_ask_164 k126 s7 x3 x5)))))) else none)
noncomputable def r_ask_126L : Nat → RS → Int32 → Int32 → Int32 → Option (Int32 × RS)
  | 0, _, _, _, _ => none
  | n + 1, s, x3, x4, x5 => r_ask_126 (r_ask_126L n) s x3 x4 x5
noncomputable def r_ask_113 (k41 : RS → Int32 → Int32 → Int32 → Int32 → Option (Int32 × RS)) (s : RS) (x1 : Int32) (x2 : Int32) (x3 : Int32) (x4 : Int32) : Option (Int32 × RS) := k41 s x1 x2 x3 (x4 + 1)
noncomputable def r_ask_70 (k41 : RS → Int32 → Int32 → Int32 → Int32 → Option (Int32 × RS)) (k70 : RS → Int32 → Int32 → Int32 → Int32 → Int32 → Option (Int32 × RS)) (s : RS) (x1 : Int32) (x2 : Int32) (x3 : Int32) (x4 : Int32) (x5 : Int32) : Option (Int32 × RS) := (if vpb (s.v 18) 2 then (if (s.f 20 (Int32.toNatClampNeg (s.v 18))) ≤ x5 then r_ask_113 k41 s x1 x2 x3 x4 else (bindI (r_thingAt s x4 x5) fun r4 s3 => (if vpb ((6 * x5) + r4) 30 then (if vpb ((6 * x5) + r4) 30 then (letS (s3.sf 55 (Int32.toNatClampNeg ((6 * x5) + r4)) ((s3.f 55 (Int32.toNatClampNeg ((6 * x5) + r4))) + 1)) fun s7 => k70 s7 x1 x2 x3 x4 (x5 + 1)) else none) else none))) else none)
noncomputable def r_ask_70L (k41 : RS → Int32 → Int32 → Int32 → Int32 → Option (Int32 × RS)) : Nat → RS → Int32 → Int32 → Int32 → Int32 → Int32 → Option (Int32 × RS)
  | 0, _, _, _, _, _, _ => none
  | n + 1, s, x1, x2, x3, x4, x5 => r_ask_70 k41 (r_ask_70L k41 n) s x1 x2 x3 x4 x5
noncomputable def r_ask_41 (k41 : RS → Int32 → Int32 → Int32 → Int32 → Option (Int32 × RS)) (s : RS) (x1 : Int32) (x2 : Int32) (x3 : Int32) (x4 : Int32) : Option (Int32 × RS) := (bindI (r_guesses s) fun r2 s1 => (if r2 ≤ x4 then r_ask_126L fu s1 x3 (-2) 0 else (bindI (r_doesFit s1 x4 x1 x2) fun r5 s4 => (if r5 = 0 then r_ask_113 k41 s4 x1 x2 x3 x4 else r_ask_70L k41 fu s4 x1 x2 (x3 + 1) x4 0))))
noncomputable def r_ask_41L : Nat → RS → Int32 → Int32 → Int32 → Int32 → Option (Int32 × RS)
  | 0, _, _, _, _, _ => none
  | n + 1, s, x1, x2, x3, x4 => r_ask_41 (r_ask_41L n) s x1 x2 x3 x4
noncomputable def r_ask_17 (k17 : RS → Int32 → Int32 → Int32 → Option (Int32 × RS)) (s : RS) (x1 : Int32) (x2 : Int32) (x3 : Int32) : Option (Int32 × RS) := (if 30 ≤ x3 then r_ask_41L fu s x1 x2 0 0 else (if vpb x3 30 then (letS (s.sf 55 (Int32.toNatClampNeg x3) 0) fun s3 => k17 s3 x1 x2 (x3 + 1)) else none))
noncomputable def r_ask_17L : Nat → RS → Int32 → Int32 → Int32 → Option (Int32 × RS)
  | 0, _, _, _, _ => none
  | n + 1, s, x1, x2, x3 => r_ask_17 (r_ask_17L n) s x1 x2 x3
noncomputable def r_ask (s : RS) (x1 : Int32) (x2 : Int32) : Option (Int32 × RS) := (bindI (r_isAsked s x1 x2) fun r2 s1 => (if r2 = 0 then (some ((-1), s1)) else (bindP (r_fillsChances s1) fun s4 => r_ask_17L fu s4 x1 x2 0)))
noncomputable def r_hold_20 (k20 : RS → Int32 → Int32 → Option (Int32 × RS)) (s : RS) (x1 : Int32) (x2 : Int32) : Option (Int32 × RS) := (if 29 ≤ x2 then (some (1, s)) else (if vpb x2 29 then (if vpb ((29 * x1) + x2) 87 then (letS (s.sf 57 (Int32.toNatClampNeg ((29 * x1) + x2)) (s.f 43 (Int32.toNatClampNeg x2))) fun s4 => k20 s4 x1 (x2 + 1)) else none) else none))
noncomputable def r_hold_20L : Nat → RS → Int32 → Int32 → Option (Int32 × RS)
  | 0, _, _, _ => none
  | n + 1, s, x1, x2 => r_hold_20 (r_hold_20L n) s x1 x2
noncomputable def r_hold (s : RS) (x1 : Int32) : Option (Int32 × RS) := (bindP (r_in x1 0 2) fun r1 => (if r1 = 0 then (some (0, s)) else (if vpb x1 3 then (letS (s.sf 56 (Int32.toNatClampNeg x1) (vp_nar .boolean 1)) fun s4 => r_hold_20L fu s4 x1 0) else none)))
noncomputable def r_restore_22 (k22 : RS → Int32 → Int32 → Option (Int32 × RS)) (s : RS) (x1 : Int32) (x2 : Int32) : Option (Int32 × RS) := (if 29 ≤ x2 then (letS (s.sv 48 0) fun s2 => (some (1, s2))) else (if vpb ((29 * x1) + x2) 87 then (if vpb x2 29 then (letS (s.sf 43 (Int32.toNatClampNeg x2) (s.f 57 (Int32.toNatClampNeg ((29 * x1) + x2)))) fun s6 => k22 s6 x1 (x2 + 1)) else none) else none))
noncomputable def r_restore_22L : Nat → RS → Int32 → Int32 → Option (Int32 × RS)
  | 0, _, _, _ => none
  | n + 1, s, x1, x2 => r_restore_22 (r_restore_22L n) s x1 x2
noncomputable def r_restore (s : RS) (x1 : Int32) : Option (Int32 × RS) := (bindP (r_in x1 0 2) fun r1 => (if r1 = 0 then (some (0, s)) else (if vpb x1 3 then (if (s.f 56 (Int32.toNatClampNeg x1)) = 0 then (some (0, s)) else r_restore_22L fu s x1 0) else none)))
noncomputable def r_partiesIn_36 (k4 : RS → Int32 → Int32 → Int32 → Option (Int32 × RS)) (s : RS) (x1 : Int32) (x2 : Int32) (x3 : Int32) : Option (Int32 × RS) := k4 s x1 x2 (x3 + 1)
noncomputable def r_partiesIn_4 (k4 : RS → Int32 → Int32 → Int32 → Option (Int32 × RS)) (s : RS) (x1 : Int32) (x2 : Int32) (x3 : Int32) : Option (Int32 × RS) := (if vpb (s.v 18) 2 then (if (s.f 23 (Int32.toNatClampNeg (s.v 18))) ≤ x3 then (some (x2, s)) else (if vpb (15 + x3) 29 then (if (s.f 44 (Int32.toNatClampNeg (15 + x3))) = x1 then r_partiesIn_36 k4 s x1 (x2 ||| (1 <<< (x3 &&& 31))) x3 else r_partiesIn_36 k4 s x1 x2 x3) else none)) else none)
noncomputable def r_partiesIn_4L : Nat → RS → Int32 → Int32 → Int32 → Option (Int32 × RS)
  | 0, _, _, _, _ => none
  | n + 1, s, x1, x2, x3 => r_partiesIn_4 (r_partiesIn_4L n) s x1 x2 x3
noncomputable def r_partiesIn (s : RS) (x1 : Int32) : Option (Int32 × RS) := r_partiesIn_4L fu s x1 0 0
noncomputable def r_sumNow_5 (k5 : RS → Int32 → Int32 → Int32 → Int32 → Option (Int32 × RS)) (s : RS) (x1 : Int32) (x2 : Int32) (x3 : Int32) (x4 : Int32) : Option (Int32 × RS) := (if (x1 + x2) ≤ x4 then (some (x3, s)) else (if vpb x4 29 then k5 s x1 x2 (x3 + (s.f 43 (Int32.toNatClampNeg x4))) (x4 + 1) else none))
noncomputable def r_sumNow_5L : Nat → RS → Int32 → Int32 → Int32 → Int32 → Option (Int32 × RS)
  | 0, _, _, _, _, _ => none
  | n + 1, s, x1, x2, x3, x4 => r_sumNow_5 (r_sumNow_5L n) s x1 x2 x3 x4
noncomputable def r_sumNow (s : RS) (x1 : Int32) (x2 : Int32) : Option (Int32 × RS) := r_sumNow_5L fu s x1 x2 0 x1
noncomputable def r_count_202 (s : RS) (t0 : Int32) (t1 : Int32) : Option (Int32 × RS) := (if (s.f 56 2) = 0 then (some (((t1 + t0) + 0), s)) else (some (((t1 + t0) + 1), s)))
noncomputable def r_count_188 (s : RS) (t0 : Int32) : Option (Int32 × RS) := (if (s.f 56 1) = 0 then r_count_202 s 0 t0 else r_count_202 s 1 t0)
noncomputable def r_count_301 (k271 : RS → Int32 → Int32 → Option (Int32 × RS)) (s : RS) (x2 : Int32) (x3 : Int32) : Option (Int32 × RS) := k271 s x2 (x3 + 1)
noncomputable def r_count_271 (k271 : RS → Int32 → Int32 → Option (Int32 × RS)) (s : RS) (x2 : Int32) (x3 : Int32) : Option (Int32 × RS) := (if vpb (s.v 18) 2 then (if (s.f 20 (Int32.toNatClampNeg (s.v 18))) ≤ x3 then (some (x2, s)) else (if vpb (5 + x3) 29 then (if (s.f 44 (Int32.toNatClampNeg (5 + x3))) < 0 then r_count_301 k271 s x2 x3 else r_count_301 k271 s (x2 ||| (1 <<< (x3 &&& 31))) x3) else none)) else none)
noncomputable def r_count_271L : Nat → RS → Int32 → Int32 → Option (Int32 × RS)
  | 0, _, _, _ => none
  | n + 1, s, x2, x3 => r_count_271 (r_count_271L n) s x2 x3
noncomputable def r_count_356 (k329 : RS → Int32 → Int32 → Option (Int32 × RS)) (s : RS) (x2 : Int32) (x3 : Int32) : Option (Int32 × RS) := k329 s x2 (x3 + 1)
noncomputable def r_count_329 (k329 : RS → Int32 → Int32 → Option (Int32 × RS)) (s : RS) (x2 : Int32) (x3 : Int32) : Option (Int32 × RS) := (if vpb (s.v 18) 2 then (if (s.f 20 (Int32.toNatClampNeg (s.v 18))) ≤ x3 then (some (x2, s)) else (bindI (r_mayAt s x3) fun r4 s3 => (if r4 = 0 then r_count_356 k329 s3 (x2 ||| (1 <<< (x3 &&& 31))) x3 else r_count_356 k329 s3 x2 x3))) else none)
noncomputable def r_count_329L : Nat → RS → Int32 → Int32 → Option (Int32 × RS)
  | 0, _, _, _ => none
  | n + 1, s, x2, x3 => r_count_329 (r_count_329L n) s x2 x3
noncomputable def r_count_395 (k366 : RS → Int32 → Int32 → Option (Int32 × RS)) (s : RS) (x2 : Int32) (x3 : Int32) : Option (Int32 × RS) := k366 s x2 (x3 + 1)
noncomputable def r_count_366 (k366 : RS → Int32 → Int32 → Option (Int32 × RS)) (s : RS) (x2 : Int32) (x3 : Int32) : Option (Int32 × RS) := (if vpb (s.v 18) 2 then (if (s.f 23 (Int32.toNatClampNeg (s.v 18))) ≤ x3 then (some (x2, s)) else (bindI (r_isHere s x3) fun r4 s3 => (if r4 = 0 then r_count_395 k366 s3 x2 x3 else (bindI (r_faresOf s3 x3) fun r7 s6 => r_count_395 k366 s6 (x2 + r7) x3)))) else none)
noncomputable def r_count_366L : Nat → RS → Int32 → Int32 → Option (Int32 × RS)
  | 0, _, _, _ => none
  | n + 1, s, x2, x3 => r_count_366 (r_count_366L n) s x2 x3
noncomputable def r_count (s : RS) (x1 : Int32) : Option (Int32 × RS) := (bindP (r_copies s) fun s1 => (if x1 = 0 then (if vpb (s1.v 18) 2 then (some ((s1.f 20 (Int32.toNatClampNeg (s1.v 18))), s1)) else none) else (if x1 = 1 then (if vpb (s1.v 18) 2 then (some ((s1.f 23 (Int32.toNatClampNeg (s1.v 18))), s1)) else none) else (if x1 = 2 then (some ((s1.f 44 27), s1)) else (if x1 = 3 then (some ((s1.f 44 28), s1)) else (if x1 = 4 then (bindI (r_partiesIn s1 0) fun r10 s9 => (some (r10, s9))) else (if x1 = 5 then (bindI (r_partiesIn s1 1) fun r13 s12 => (some (r13, s12))) else (if x1 = 6 then (bindI (r_partiesIn s1 2) fun r16 s15 => (some (r16, s15))) else (if x1 = 7 then (bindI (r_sumNow s1 21 6) fun r19 s18 => (some (r19, s18))) else (if x1 = 8 then (some ((s1.v 2), s1)) else (if x1 = 9 then (some ((s1.v 48), s1)) else (if x1 = 10 then (some ((s1.v 51), s1)) else (if x1 = 11 then (if (s1.f 56 0) = 0 then r_count_188 s1 0 else r_count_188 s1 1) else (if x1 = 12 then (bindP (r_bits (s1.f 44 0)) fun r26 => (bindP (r_bits (s1.f 44 1)) fun r27 => (bindP (r_bits (s1.f 44 2)) fun r28 => (bindP (r_bits (s1.f 44 3)) fun r29 => (bindP (r_bits (s1.f 44 4)) fun r30 => (some (((((r26 + r27) + r28) + r29) + r30), s1))))))) else (if x1 = 13 then r_count_271L fu s1 0 0 else (if x1 = 14 then (bindI (r_guesses s1) fun r34 s33 => (some (r34, s33))) else (if x1 = 15 then (bindI (r_thereNumber s1) fun r37 s36 => (some (r37, s36))) else (if x1 = 16 then (bindI (r_sumNow s1 10 5) fun r40 s39 => (some (r40, s39))) else (if x1 = 17 then r_count_329L fu s1 0 0 else (if x1 = 18 then r_count_366L fu s1 0 0 else (some ((-1), s1))))))))))))))))))))))
