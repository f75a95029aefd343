section
/-! ===== the uniform contract: a world of cells at given addresses, before and behind ===== -/
/-- a link to a nest mate's field or method -/
noncomputable def isNest (w : Cond) : Bool := match w with
  | .fieldLinkNest _ _ _ _ _ _ => true
  | .methodLinkNest _ _ _ _ => true
  | _ => false
/-- the nest mates' links of the tables -/
noncomputable def nw_ok (U : State) : Prop := ∀ w ∈ tables_1, isNest w = true → va_Nw w U
theorem nw_same {u U : State} (h : u.vm = U.vm) (hn : nw_ok u) : nw_ok U := by
  intro w hw hi
  have h1 := hn w hw hi
  cases w <;> first | (exact va_Nw.same rfl h h1) | (simp [isNest] at hi)
theorem nw_warm {s U : State} (hW : s.WarmedH U.vm) (hn : nw_ok s) : nw_ok U := by
  intro w hw hi
  have h1 := hn w hw hi
  cases w <;> first | (exact va_Nw.warmF hW h1) | (exact va_Nw.warmM hW h1) | (simp [isNest] at hi)
/-- the array classes -/
noncomputable abbrev tysA (cB cI cJ cZ cS : ClassId) : List (ClassId × FieldType) := [(cB, .byte), (cI, .int), (cJ, .long), (cZ, .boolean), (cS, .object "GuessFerry$Standing")]
noncomputable abbrev pre_W (D : va_G) (tys : List (ClassId × FieldType)) (sz : Nat) (w : va_W) : State → Prop := fun U => U.heap.size = sz ∧ va_P D vwCl w U.heap ∧ va_K D vwCl tys U ∧ va_D (fun _ => True) w ∧ nw_ok U
noncomputable abbrev at_W (D : va_G) (tys : List (ClassId × FieldType)) (A : Nat → Prop) (u : va_W) (t : State) : Prop := va_P D vwCl u t.heap ∧ va_K D vwCl tys t ∧ va_D A u
theorem blind_W {D : va_G} {tys : List (ClassId × FieldType)} {sz : Nat} {w : va_W} {as : List Value} : FrameBlind (va_Pc as (pre_W D tys sz w)) := fun a U g mk q => by
  obtain ⟨q0, q1, qP, qK, qD, qN⟩ := q
  exact ⟨q0, q1, qP, va_K.moved (u := U) (U := U.calling g mk a) (Vm.Alike.refl U.vm) qK, qD, nw_same (u := U) (U := U.calling g mk a) rfl qN⟩
/-- a contract that answers an int (a boolean) -/
noncomputable def CI (l : Launch) (y : MethodName) (ws : List Cond) (rm : Room) (D : va_G) (tys : List (ClassId × FieldType)) (w : va_W) (as : List Value) (post : Int32 → va_W → Prop) : Prop :=
  ∀ sz : Nat, Met l y ws rm (va_Pc as (pre_W D tys sz w)) (va_Qi post (at_W D tys (va_A w sz)) (va_A w sz)) rm.cells rm.slots (va_A w sz)
/-- a contract that answers a long -/
noncomputable def CL (l : Launch) (y : MethodName) (ws : List Cond) (rm : Room) (D : va_G) (tys : List (ClassId × FieldType)) (w : va_W) (as : List Value) (post : Int64 → va_W → Prop) : Prop :=
  ∀ sz : Nat, Met l y ws rm (va_Pc as (pre_W D tys sz w)) (va_Ql post (at_W D tys (va_A w sz)) (va_A w sz)) rm.cells rm.slots (va_A w sz)
/-- a contract that answers nothing -/
noncomputable def CV (l : Launch) (y : MethodName) (ws : List Cond) (rm : Room) (D : va_G) (tys : List (ClassId × FieldType)) (w : va_W) (as : List Value) (post : va_W → Prop) : Prop :=
  ∀ sz : Nat, Met l y ws rm (va_Pc as (pre_W D tys sz w)) (va_Qv post (at_W D tys (va_A w sz)) (va_A w sz)) rm.cells rm.slots (va_A w sz)
/-- what stands at a method's entry -/
noncomputable abbrev Ent (p : Program) (s : State) (m : MethodId) (meth : Method) (c : Code) (cc : ByteArray) (maxL : Nat) (ret : Option FieldType) (ws : List Cond) (y : MethodName) (D : va_G) (tys : List (ClassId × FieldType)) (w : va_W) (as : List Value) (A : Nat → Prop) (ls : Array Slot) : Prop :=
  CallFix p m c cc maxL s as.toArray ws y.cls ∧ meth.sig.returnType = ret ∧ meth.locks = false ∧ meth.name = y.name ∧ (∀ q, s.heap.size ≤ q → A q) ∧ va_P D vwCl w s.heap ∧ va_K D vwCl tys s ∧ va_D A w ∧ nw_ok s ∧ lv_has ls maxL (lv_args 0 as)
theorem open_I {l : Launch} {y : MethodName} {ws ws' : List Cond} {rm : Room} {D : va_G} {tys : List (ClassId × FieldType)} {w : va_W} {as : List Value} {post : Int32 → va_W → Prop} {cc : ByteArray} {maxL : Nat} {ret : Option FieldType}
    (hy : plainName y.cls = true) (hw : ws = Cond.code y cc maxL ret :: ws') (hn : (lg_sl as).length ≤ maxL)
    (body : ∀ (p : Program) (e : Env) (s : State) (m : MethodId) (below : List Frame) (meth : Method) (c : Code) (A : Nat → Prop) (ls : Array Slot), Ent p s m meth c cc maxL ret ws y D tys w as A ls →
      W p l e rm s m as.toArray below meth c s.heap [] 0 0 (MQ below (va_Qi post (at_W D tys A) A) as.toArray s rm.cells rm.slots A) (F0 m 0 ls [])) : CI l y ws rm D tys w as post := by
  intro sz
  refine Met.ofW (cc := cc) (maxL := maxL) (ret := ret) hy hw ?_
  intro p e s m args below meth c s₁ B hml hv
  obtain ⟨rfl, hsz, hP, hK, hD0, hN⟩ := hv
  subst hsz
  have hl := lv_entry as (n := maxL) hn
  rw [lg_entry_eq]
  generalize (lg_sl as ++ List.replicate (maxL - (lg_sl as).length) Slot.unset).toArray = ls at hl ⊢
  exact body p e s m below meth c _ ls ⟨⟨B.exec, B.bytes, hml, findClass_of_methodNamed B.named, atoms_spec (ws := ws) B.pre⟩, B.returns, B.notSynchronized, (name_of_methodNamed B.named B.method).1, fun q h => Or.inr h, hP, hK, hD0.self (sz := s.heap.size), hN, hl⟩
theorem open_L {l : Launch} {y : MethodName} {ws ws' : List Cond} {rm : Room} {D : va_G} {tys : List (ClassId × FieldType)} {w : va_W} {as : List Value} {post : Int64 → va_W → Prop} {cc : ByteArray} {maxL : Nat} {ret : Option FieldType}
    (hy : plainName y.cls = true) (hw : ws = Cond.code y cc maxL ret :: ws') (hn : (lg_sl as).length ≤ maxL)
    (body : ∀ (p : Program) (e : Env) (s : State) (m : MethodId) (below : List Frame) (meth : Method) (c : Code) (A : Nat → Prop) (ls : Array Slot), Ent p s m meth c cc maxL ret ws y D tys w as A ls →
      W p l e rm s m as.toArray below meth c s.heap [] 0 0 (MQ below (va_Ql post (at_W D tys A) A) as.toArray s rm.cells rm.slots A) (F0 m 0 ls [])) : CL l y ws rm D tys w as post := by
  intro sz
  refine Met.ofW (cc := cc) (maxL := maxL) (ret := ret) hy hw ?_
  intro p e s m args below meth c s₁ B hml hv
  obtain ⟨rfl, hsz, hP, hK, hD0, hN⟩ := hv
  subst hsz
  have hl := lv_entry as (n := maxL) hn
  rw [lg_entry_eq]
  generalize (lg_sl as ++ List.replicate (maxL - (lg_sl as).length) Slot.unset).toArray = ls at hl ⊢
  exact body p e s m below meth c _ ls ⟨⟨B.exec, B.bytes, hml, findClass_of_methodNamed B.named, atoms_spec (ws := ws) B.pre⟩, B.returns, B.notSynchronized, (name_of_methodNamed B.named B.method).1, fun q h => Or.inr h, hP, hK, hD0.self (sz := s.heap.size), hN, hl⟩
theorem open_V {l : Launch} {y : MethodName} {ws ws' : List Cond} {rm : Room} {D : va_G} {tys : List (ClassId × FieldType)} {w : va_W} {as : List Value} {post : va_W → Prop} {cc : ByteArray} {maxL : Nat} {ret : Option FieldType}
    (hy : plainName y.cls = true) (hw : ws = Cond.code y cc maxL ret :: ws') (hn : (lg_sl as).length ≤ maxL)
    (body : ∀ (p : Program) (e : Env) (s : State) (m : MethodId) (below : List Frame) (meth : Method) (c : Code) (A : Nat → Prop) (ls : Array Slot), Ent p s m meth c cc maxL ret ws y D tys w as A ls →
      W p l e rm s m as.toArray below meth c s.heap [] 0 0 (MQ below (va_Qv post (at_W D tys A) A) as.toArray s rm.cells rm.slots A) (F0 m 0 ls [])) : CV l y ws rm D tys w as post := by
  intro sz
  refine Met.ofW (cc := cc) (maxL := maxL) (ret := ret) hy hw ?_
  intro p e s m args below meth c s₁ B hml hv
  obtain ⟨rfl, hsz, hP, hK, hD0, hN⟩ := hv
  subst hsz
  have hl := lv_entry as (n := maxL) hn
  rw [lg_entry_eq]
  generalize (lg_sl as ++ List.replicate (maxL - (lg_sl as).length) Slot.unset).toArray = ls at hl ⊢
  exact body p e s m below meth c _ ls ⟨⟨B.exec, B.bytes, hml, findClass_of_methodNamed B.named, atoms_spec (ws := ws) B.pre⟩, B.returns, B.notSynchronized, (name_of_methodNamed B.named B.method).1, fun q h => Or.inr h, hP, hK, hD0.self (sz := s.heap.size), hN, hl⟩
theorem list_set_self {α : Type} {l : List α} {k : Nat} {x : α} (h : l[k]? = some x) : l.set k x = l := by
  apply List.ext_getElem?
  intro i
  rw [List.getElem?_set]
  split
  · rename_i h1; subst h1; split
    · exact h.symm
    · rename_i h2; rw [List.getElem?_eq_none (by omega)] at h; cases h
  · rfl
section QR
variable {p : Program} {l : Launch} {e : Env} {R : Room} {s : State} {m : MethodId} {args : Array Value} {below : List Frame} {meth : Method} {c : Code} {H H0 : Heap} {locs : List Loc} {cells slots : Nat} {Q : State → Prop} {cc : ByteArray} {pc nL : Nat} {ls : Array Slot} {rest : List Value} {Ts : List Cond} {own : String} {D : va_G} {tys : List (ClassId × FieldType)} {w : va_W} {A : Nat → Prop}
theorem q_top {x y : Int32} (h : x = y) (k : W p l e R s m args below meth c H locs cells slots Q (F0 m pc ls (.int y :: rest))) : W p l e R s m args below meth c H locs cells slots Q (F0 m pc ls (.int x :: rest)) := by
  subst h; exact k
theorem q_topl {x y : Int64} (h : x = y) (k : W p l e R s m args below meth c H locs cells slots Q (F0 m pc ls (.long y :: rest))) : W p l e R s m args below meth c H locs cells slots Q (F0 m pc ls (.long x :: rest)) := by
  subst h; exact k
/-- the ends -/
theorem q_iret {post : Int32 → va_W → Prop} {v : Int32} {mc ms : Nat} (C : CallFix p m c cc nL s args Ts own) (hr : meth.sig.returnType = some .int) (hlocks : meth.locks = false) (hK : va_K D vwCl tys s) (hP : va_P D vwCl w H) (hD : va_D A w) (hS : va_S A s.heap H locs) (h1 : cells ≤ mc) (h2 : slots ≤ ms) (hdg : decode cc pc = .ok (.ireturn, 1)) (hpost : post v w) :
    W p l e R s m args below meth c H locs cells slots (MQ below (va_Qi post (at_W D tys A) A) args s mc ms A) (F0 m pc ls [.int v]) :=
  W.widen h1 h2 (W.iret C.1 C.2.1 hr (fun t ht hW => ⟨⟨v, w, rfl, hpost, by rw [ht]; exact hP, va_K.moved hW.alike hK, hD⟩, hS.F ht⟩) hS.2.2 hdg hlocks)
theorem q_zret {post : Int32 → va_W → Prop} {v : Int32} {mc ms : Nat} (C : CallFix p m c cc nL s args Ts own) (hr : meth.sig.returnType = some .boolean) (hlocks : meth.locks = false) (hn : v = 0 ∨ v = 1) (hK : va_K D vwCl tys s) (hP : va_P D vwCl w H) (hD : va_D A w) (hS : va_S A s.heap H locs) (h1 : cells ≤ mc) (h2 : slots ≤ ms) (hdg : decode cc pc = .ok (.ireturn, 1)) (hpost : post v w) :
    W p l e R s m args below meth c H locs cells slots (MQ below (va_Qi post (at_W D tys A) A) args s mc ms A) (F0 m pc ls [.int v]) :=
  W.widen h1 h2 (W.zret C.1 C.2.1 hr (by rcases hn with h | h <;> subst h <;> decide +kernel) (fun t ht hW => ⟨⟨v, w, rfl, hpost, by rw [ht]; exact hP, va_K.moved hW.alike hK, hD⟩, hS.F ht⟩) hS.2.2 hdg hlocks)
theorem q_lret {post : Int64 → va_W → Prop} {v : Int64} {mc ms : Nat} (C : CallFix p m c cc nL s args Ts own) (hr : meth.sig.returnType = some .long) (hlocks : meth.locks = false) (hK : va_K D vwCl tys s) (hP : va_P D vwCl w H) (hD : va_D A w) (hS : va_S A s.heap H locs) (h1 : cells ≤ mc) (h2 : slots ≤ ms) (hdg : decode cc pc = .ok (.lreturn, 1)) (hpost : post v w) :
    W p l e R s m args below meth c H locs cells slots (MQ below (va_Ql post (at_W D tys A) A) args s mc ms A) (F0 m pc ls [.long v]) :=
  W.widen h1 h2 (W.lret C.1 C.2.1 hr (fun t ht hW => ⟨⟨v, w, rfl, hpost, by rw [ht]; exact hP, va_K.moved hW.alike hK, hD⟩, hS.F ht⟩) hS.2.2 hdg hlocks)
theorem q_vret {post : va_W → Prop} {mc ms : Nat} (C : CallFix p m c cc nL s args Ts own) (hr : meth.sig.returnType = none) (hlocks : meth.locks = false) (hK : va_K D vwCl tys s) (hP : va_P D vwCl w H) (hD : va_D A w) (hS : va_S A s.heap H locs) (h1 : cells ≤ mc) (h2 : slots ≤ ms) (hdg : decode cc pc = .ok (.return_, 1)) (hpost : post w) :
    W p l e R s m args below meth c H locs cells slots (MQ below (va_Qv post (at_W D tys A) A) args s mc ms A) (F0 m pc ls []) :=
  W.widen h1 h2 (W.vret C.1 C.2.1 hr (fun t ht hW => ⟨⟨w, rfl, hpost, by rw [ht]; exact hP, va_K.moved hW.alike hK, hD⟩, hS.F ht⟩) hS.2.2 hdg hlocks)
/-- fields -/
theorem q_get {Cn : String} {T : u_T} {N ci index a : Nat} {fs : List Value} {v : Value} (C : CallFix p m c cc nL s args Ts own) (hin : ∀ w ∈ u_ws Cn T N, w ∈ Ts) (hK : va_K D vwCl tys s) (hP : va_P D vwCl w H) (q0 : Nat) (he : w[q0]? = some (a, .inr (ci, fs))) (hc : vwCl[ci]? = some (Cn, T, N)) (k : Nat) (hk : k < N) (h1 : (T k).1 = Cn) (hlink : Cond.fieldLink own index Cn (T k).2.1 (T k).2.2.1 ∈ Ts) (hv : fs[k]? = some v) (hdg : decode cc pc = .ok (.getfield index, 3))
    (kk : W p l e R s m args below meth c H locs cells slots Q (F0 m (pc + 3) ls (v :: rest))) : W p l e R s m args below meth c H locs cells slots Q (F0 m pc ls (.ref a :: rest)) :=
  va_get (D := D) (ci := ci) (v := v) (C := Cn) (T := T) (N := N) C.1 C.2.1 C.2.2.2.2 hin C.2.2.2.1 hK hP q0 he hc k hk (C.2.2.2.2 _ hlink) (fun x h => h1 ▸ h) hv hdg kk
theorem q_getN {Cn host : String} {T : u_T} {N ci index a : Nat} {fs : List Value} {v : Value} (C : CallFix p m c cc nL s args Ts own) (hN : nw_ok s) (hin : ∀ w ∈ u_ws Cn T N, w ∈ Ts) (hK : va_K D vwCl tys s) (hP : va_P D vwCl w H) (q0 : Nat) (he : w[q0]? = some (a, .inr (ci, fs))) (hc : vwCl[ci]? = some (Cn, T, N)) (k : Nat) (hk : k < N) (h1 : (T k).1 = Cn) (hlink : Cond.fieldLinkNest own index Cn (T k).2.1 (T k).2.2.1 host ∈ tables_1) (hv : fs[k]? = some v) (hdg : decode cc pc = .ok (.getfield index, 3))
    (kk : W p l e R s m args below meth c H locs cells slots Q (F0 m (pc + 3) ls (v :: rest))) : W p l e R s m args below meth c H locs cells slots Q (F0 m pc ls (.ref a :: rest)) :=
  va_getN (D := D) (ci := ci) (v := v) (C := Cn) (T := T) (N := N) C.1 C.2.1 C.2.2.2.2 hin C.2.2.2.1 hK hP q0 he hc k hk (va_Nw.use rfl (hN _ hlink rfl)) (fun x h => h1 ▸ h) hv hdg kk
theorem q_put {Cn : String} {T : u_T} {N ci index a : Nat} {fs : List Value} {v : Value} {ty : FieldType} (ty0 : Nat → FieldType) (hty : ∀ k, k < N → parseFieldDescriptor (T k).2.2.1 = some (ty0 k)) (hnm : ∀ a, a < N → ∀ b, b < N → a ≠ b → (T a).2.1 ≠ (T b).2.1) (C : CallFix p m c cc nL s args Ts own) (hin : ∀ w ∈ u_ws Cn T N, w ∈ Ts) (hK : va_K D vwCl tys s) (hP : va_P D vwCl w H) (hD : va_D A w) (hS : va_S A H0 H locs) (q0 : Nat) (he : w[q0]? = some (a, .inr (ci, fs))) (hc : vwCl[ci]? = some (Cn, T, N)) (k : Nat) (hk : k < N) (h1 : (T k).1 = Cn) (hlink : Cond.fieldLink own index Cn (T k).2.1 (T k).2.2.1 ∈ Ts) (hfin : (T k).2.2.2 = false) (hd : parseFieldDescriptor (T k).2.2.1 = some ty) (hn : narrow ty v = v) (hfit : fits ty v = true) (hl : k < fs.length) (hdg : decode cc pc = .ok (.putfield index, 3))
    {w2 : va_W} (hw2 : w.set q0 (a, .inr (ci, fs.set k v)) = w2)
    (kk : ∀ (H1 : Heap) (locs1 : List Loc), va_P D vwCl w2 H1 → va_D A w2 → va_S A H0 H1 locs1 → W p l e R s m args below meth c H1 locs1 cells slots Q (F0 m (pc + 3) ls rest)) : W p l e R s m args below meth c H locs cells slots Q (F0 m pc ls (v :: .ref a :: rest)) := by
  subst hw2
  exact va_put (D := D) (ci := ci) (v := v) (ty := ty) (C := Cn) (T := T) (N := N) C.1 C.2.1 C.2.2.2.2 hin ty0 hty hnm C.2.2.2.1 hK hP hD hS q0 he hc k hk (C.2.2.2.2 _ hlink) (fun x h => h1 ▸ h) hfin hd hn hfit hl hdg kk
theorem q_putN {Cn host : String} {T : u_T} {N ci index a : Nat} {fs : List Value} {v : Value} {ty : FieldType} (ty0 : Nat → FieldType) (hty : ∀ k, k < N → parseFieldDescriptor (T k).2.2.1 = some (ty0 k)) (hnm : ∀ a, a < N → ∀ b, b < N → a ≠ b → (T a).2.1 ≠ (T b).2.1) (C : CallFix p m c cc nL s args Ts own) (hN : nw_ok s) (hin : ∀ w ∈ u_ws Cn T N, w ∈ Ts) (hK : va_K D vwCl tys s) (hP : va_P D vwCl w H) (hD : va_D A w) (hS : va_S A H0 H locs) (q0 : Nat) (he : w[q0]? = some (a, .inr (ci, fs))) (hc : vwCl[ci]? = some (Cn, T, N)) (k : Nat) (hk : k < N) (h1 : (T k).1 = Cn) (hlink : Cond.fieldLinkNest own index Cn (T k).2.1 (T k).2.2.1 host ∈ tables_1) (hfin : (T k).2.2.2 = false) (hd : parseFieldDescriptor (T k).2.2.1 = some ty) (hn : narrow ty v = v) (hfit : fits ty v = true) (hl : k < fs.length) (hdg : decode cc pc = .ok (.putfield index, 3))
    {w2 : va_W} (hw2 : w.set q0 (a, .inr (ci, fs.set k v)) = w2)
    (kk : ∀ (H1 : Heap) (locs1 : List Loc), va_P D vwCl w2 H1 → va_D A w2 → va_S A H0 H1 locs1 → W p l e R s m args below meth c H1 locs1 cells slots Q (F0 m (pc + 3) ls rest)) : W p l e R s m args below meth c H locs cells slots Q (F0 m pc ls (v :: .ref a :: rest)) := by
  subst hw2
  exact va_putN (D := D) (ci := ci) (v := v) (ty := ty) (C := Cn) (T := T) (N := N) C.1 C.2.1 C.2.2.2.2 hin ty0 hty hnm C.2.2.2.1 hK hP hD hS q0 he hc k hk (va_Nw.use rfl (hN _ hlink rfl)) (fun x h => h1 ▸ h) hfin hd hn hfit hl hdg kk
theorem q_putF {Cn : String} {T : u_T} {N ci index a : Nat} {fs : List Value} {v : Value} {ty : FieldType} (ty0 : Nat → FieldType) (hty : ∀ k, k < N → parseFieldDescriptor (T k).2.2.1 = some (ty0 k)) (hnm : ∀ a, a < N → ∀ b, b < N → a ≠ b → (T a).2.1 ≠ (T b).2.1) (C : CallFix p m c cc nL s args Ts own) (hin : ∀ w ∈ u_ws Cn T N, w ∈ Ts) (hK : va_K D vwCl tys s) (hP : va_P D vwCl w H) (hD : va_D A w) (hS : va_S A H0 H locs) (q0 : Nat) (he : w[q0]? = some (a, .inr (ci, fs))) (hc : vwCl[ci]? = some (Cn, T, N)) (k : Nat) (hk : k < N) (h1 : (T k).1 = Cn) (h3 : Cn = own) (hin2 : meth.name = "<init>") (hlink : Cond.fieldLink own index Cn (T k).2.1 (T k).2.2.1 ∈ Ts) (hfin : (T k).2.2.2 = true) (hd : parseFieldDescriptor (T k).2.2.1 = some ty) (hn : narrow ty v = v) (hfit : fits ty v = true) (hl : k < fs.length) (hdg : decode cc pc = .ok (.putfield index, 3))
    {w2 : va_W} (hw2 : w.set q0 (a, .inr (ci, fs.set k v)) = w2)
    (kk : ∀ (H1 : Heap) (locs1 : List Loc), va_P D vwCl w2 H1 → va_D A w2 → va_S A H0 H1 locs1 → W p l e R s m args below meth c H1 locs1 cells slots Q (F0 m (pc + 3) ls rest)) : W p l e R s m args below meth c H locs cells slots Q (F0 m pc ls (v :: .ref a :: rest)) := by
  subst hw2
  exact va_putF (D := D) (ci := ci) (v := v) (ty := ty) (C := Cn) (T := T) (N := N) C.1 C.2.1 C.2.2.2.2 hin ty0 hty hnm C.2.2.2.1 hK hP hD hS q0 he hc k hk (C.2.2.2.2 _ hlink) (fun x h => h1 ▸ h) hfin hin2 (h1.trans h3) hd hn hfit hl hdg kk
theorem q_putS {Cn : String} {T : u_T} {N ci index a : Nat} {fs : List Value} {v : Value} {ty : FieldType} (ty0 : Nat → FieldType) (hty : ∀ k, k < N → parseFieldDescriptor (T k).2.2.1 = some (ty0 k)) (hnm : ∀ a, a < N → ∀ b, b < N → a ≠ b → (T a).2.1 ≠ (T b).2.1) (C : CallFix p m c cc nL s args Ts own) (hin : ∀ w ∈ u_ws Cn T N, w ∈ Ts) (hK : va_K D vwCl tys s) (hP : va_P D vwCl w H) (hD : va_D A w) (hS : va_S A H0 H locs) (q0 : Nat) (he : w[q0]? = some (a, .inr (ci, fs))) (hc : vwCl[ci]? = some (Cn, T, N)) (k : Nat) (hk : k < N) (h1 : (T k).1 = Cn) (hlink : Cond.fieldLink own index Cn (T k).2.1 (T k).2.2.1 ∈ Ts) (hfin : (T k).2.2.2 = false) (hd : parseFieldDescriptor (T k).2.2.1 = some ty) (hn : narrow ty v = v) (hfit : fits ty v = true) (hl : k < fs.length) (hdg : decode cc pc = .ok (.putfield index, 3))
    (hsame : fs[k]? = some v)
    (kk : ∀ (H1 : Heap) (locs1 : List Loc), va_P D vwCl w H1 → va_D A w → va_S A H0 H1 locs1 → W p l e R s m args below meth c H1 locs1 cells slots Q (F0 m (pc + 3) ls rest)) : W p l e R s m args below meth c H locs cells slots Q (F0 m pc ls (v :: .ref a :: rest)) :=
  q_put ty0 hty hnm C hin hK hP hD hS q0 he hc k hk h1 hlink hfin hd hn hfit hl hdg (by rw [list_set_self hsame]; exact list_set_self he) kk
end QR
section QA
variable {p : Program} {l : Launch} {e : Env} {R : Room} {s : State} {m : MethodId} {args : Array Value} {below : List Frame} {meth : Method} {c : Code} {H H0 : Heap} {locs : List Loc} {cells slots : Nat} {Q : State → Prop} {cc : ByteArray} {pc nL : Nat} {ls : Array Slot} {rest : List Value} {Ts : List Cond} {own : String} {D : va_G} {tys : List (ClassId × FieldType)} {w : va_W} {A : Nat → Prop}
theorem vp_lit {i : Int32} {n : Nat} (h : (!decide (i < 0) && decide (i.toNatClampNeg < n)) = true) : vp_in i n := by
  simp at h
  intro q
  rcases q with q | q
  · exact absurd q (Int32.not_lt.mpr h.1)
  · omega
theorem q_iald {a : Nat} {cA : ClassId} {n : Nat} {f : Nat → Int32} {i x : Int32} (C : CallFix p m c cc nL s args Ts own) (hK : va_K D vwCl tys s) (hP : va_P D vwCl w H) (q0 t0 : Nat) (ha : w[q0]? = some (a, .inl (cA, n, .inl f))) (ht : tys[t0]? = some (cA, .int)) (hin : vp_in i n) (hdg : decode cc pc = .ok (.iaload, 1)) (hv : f i.toNatClampNeg = x) (kk : W p l e R s m args below meth c H locs cells slots Q (F0 m (pc + 1) ls (.int x :: rest))) : W p l e R s m args below meth c H locs cells slots Q (F0 m pc ls (.int i :: .ref a :: rest)) :=
  va_iald C.1 C.2.1 hK hP q0 t0 ha ht hin hdg (by rw [hv]; exact kk)
theorem q_bald {a : Nat} {cA : ClassId} {n : Nat} {f : Nat → Int32} {i x : Int32} (C : CallFix p m c cc nL s args Ts own) (hK : va_K D vwCl tys s) (hP : va_P D vwCl w H) (q0 t0 : Nat) (ha : w[q0]? = some (a, .inl (cA, n, .inl f))) (ht : tys[t0]? = some (cA, .byte)) (hin : vp_in i n) (hdg : decode cc pc = .ok (.baload, 1)) (hv : f i.toNatClampNeg = x) (kk : W p l e R s m args below meth c H locs cells slots Q (F0 m (pc + 1) ls (.int x :: rest))) : W p l e R s m args below meth c H locs cells slots Q (F0 m pc ls (.int i :: .ref a :: rest)) :=
  va_bald C.1 C.2.1 hK hP q0 t0 ha ht hin hdg (by rw [hv]; exact kk)
theorem q_zald {a : Nat} {cA : ClassId} {n : Nat} {f : Nat → Int32} {i x : Int32} (C : CallFix p m c cc nL s args Ts own) (hK : va_K D vwCl tys s) (hP : va_P D vwCl w H) (q0 t0 : Nat) (ha : w[q0]? = some (a, .inl (cA, n, .inl f))) (ht : tys[t0]? = some (cA, .boolean)) (hin : vp_in i n) (hdg : decode cc pc = .ok (.baload, 1)) (hv : f i.toNatClampNeg = x) (kk : W p l e R s m args below meth c H locs cells slots Q (F0 m (pc + 1) ls (.int x :: rest))) : W p l e R s m args below meth c H locs cells slots Q (F0 m pc ls (.int i :: .ref a :: rest)) :=
  va_zald C.1 C.2.1 hK hP q0 t0 ha ht hin hdg (by rw [hv]; exact kk)
theorem q_lald {a : Nat} {cA : ClassId} {n : Nat} {f : Nat → Int64} {i : Int32} {x : Int64} (C : CallFix p m c cc nL s args Ts own) (hK : va_K D vwCl tys s) (hP : va_P D vwCl w H) (q0 t0 : Nat) (ha : w[q0]? = some (a, .inl (cA, n, .inr (.inl f)))) (ht : tys[t0]? = some (cA, .long)) (hin : vp_in i n) (hdg : decode cc pc = .ok (.laload, 1)) (hv : f i.toNatClampNeg = x) (kk : W p l e R s m args below meth c H locs cells slots Q (F0 m (pc + 1) ls (.long x :: rest))) : W p l e R s m args below meth c H locs cells slots Q (F0 m pc ls (.int i :: .ref a :: rest)) :=
  va_lald C.1 C.2.1 hK hP q0 t0 ha ht hin hdg (by rw [hv]; exact kk)
theorem q_iast {a : Nat} {cA : ClassId} {n : Nat} {f : Nat → Int32} {i x : Int32} (C : CallFix p m c cc nL s args Ts own) (hK : va_K D vwCl tys s) (hP : va_P D vwCl w H) (hD : va_D A w) (hS : va_S A H0 H locs) (q0 t0 : Nat) (ha : w[q0]? = some (a, .inl (cA, n, .inl f))) (ht : tys[t0]? = some (cA, .int)) (hin : vp_in i n) (hdg : decode cc pc = .ok (.iastore, 1)) {f2 : Nat → Int32} (hf2 : upd f i.toNatClampNeg x = f2) {w2 : va_W} (hw2 : w.set q0 (a, .inl (cA, n, .inl f2)) = w2)
    (kk : ∀ (H1 : Heap) (locs1 : List Loc), va_P D vwCl w2 H1 → va_D A w2 → va_S A H0 H1 locs1 → W p l e R s m args below meth c H1 locs1 cells slots Q (F0 m (pc + 1) ls rest)) : W p l e R s m args below meth c H locs cells slots Q (F0 m pc ls (.int x :: .int i :: .ref a :: rest)) := by
  subst hf2; subst hw2
  exact va_iast C.1 C.2.1 hK hP hD hS q0 t0 ha ht hin hdg kk
theorem q_iastS {a : Nat} {cA : ClassId} {n : Nat} {f : Nat → Int32} {i x : Int32} (C : CallFix p m c cc nL s args Ts own) (hK : va_K D vwCl tys s) (hP : va_P D vwCl w H) (hD : va_D A w) (hS : va_S A H0 H locs) (q0 t0 : Nat) (ha : w[q0]? = some (a, .inl (cA, n, .inl f))) (ht : tys[t0]? = some (cA, .int)) (hin : vp_in i n) (hdg : decode cc pc = .ok (.iastore, 1)) (hsame : f i.toNatClampNeg = x)
    (kk : ∀ (H1 : Heap) (locs1 : List Loc), va_P D vwCl w H1 → va_D A w → va_S A H0 H1 locs1 → W p l e R s m args below meth c H1 locs1 cells slots Q (F0 m (pc + 1) ls rest)) : W p l e R s m args below meth c H locs cells slots Q (F0 m pc ls (.int x :: .int i :: .ref a :: rest)) :=
  q_iast C hK hP hD hS q0 t0 ha ht hin hdg (f2 := f) (by rw [← hsame]; funext j; unfold upd; split
                                                         · rename_i h; rw [h]
                                                         · rfl) (list_set_self ha) kk
theorem q_bast {a : Nat} {cA : ClassId} {n : Nat} {f : Nat → Int32} {i x : Int32} (C : CallFix p m c cc nL s args Ts own) (hK : va_K D vwCl tys s) (hP : va_P D vwCl w H) (hD : va_D A w) (hS : va_S A H0 H locs) (q0 t0 : Nat) (ha : w[q0]? = some (a, .inl (cA, n, .inl f))) (ht : tys[t0]? = some (cA, .byte)) (hin : vp_in i n) (hdg : decode cc pc = .ok (.bastore, 1)) {f2 : Nat → Int32} (hf2 : upd f i.toNatClampNeg (vp_nar .byte x) = f2) {w2 : va_W} (hw2 : w.set q0 (a, .inl (cA, n, .inl f2)) = w2)
    (kk : ∀ (H1 : Heap) (locs1 : List Loc), va_P D vwCl w2 H1 → va_D A w2 → va_S A H0 H1 locs1 → W p l e R s m args below meth c H1 locs1 cells slots Q (F0 m (pc + 1) ls rest)) : W p l e R s m args below meth c H locs cells slots Q (F0 m pc ls (.int x :: .int i :: .ref a :: rest)) := by
  subst hf2; subst hw2
  exact va_bast C.1 C.2.1 hK hP hD hS q0 t0 ha ht hin hdg kk
theorem q_bastS {a : Nat} {cA : ClassId} {n : Nat} {f : Nat → Int32} {i x : Int32} (C : CallFix p m c cc nL s args Ts own) (hK : va_K D vwCl tys s) (hP : va_P D vwCl w H) (hD : va_D A w) (hS : va_S A H0 H locs) (q0 t0 : Nat) (ha : w[q0]? = some (a, .inl (cA, n, .inl f))) (ht : tys[t0]? = some (cA, .byte)) (hin : vp_in i n) (hdg : decode cc pc = .ok (.bastore, 1)) (hsame : f i.toNatClampNeg = (vp_nar .byte x))
    (kk : ∀ (H1 : Heap) (locs1 : List Loc), va_P D vwCl w H1 → va_D A w → va_S A H0 H1 locs1 → W p l e R s m args below meth c H1 locs1 cells slots Q (F0 m (pc + 1) ls rest)) : W p l e R s m args below meth c H locs cells slots Q (F0 m pc ls (.int x :: .int i :: .ref a :: rest)) :=
  q_bast C hK hP hD hS q0 t0 ha ht hin hdg (f2 := f) (by rw [← hsame]; funext j; unfold upd; split
                                                         · rename_i h; rw [h]
                                                         · rfl) (list_set_self ha) kk
theorem q_zast {a : Nat} {cA : ClassId} {n : Nat} {f : Nat → Int32} {i x : Int32} (C : CallFix p m c cc nL s args Ts own) (hK : va_K D vwCl tys s) (hP : va_P D vwCl w H) (hD : va_D A w) (hS : va_S A H0 H locs) (q0 t0 : Nat) (ha : w[q0]? = some (a, .inl (cA, n, .inl f))) (ht : tys[t0]? = some (cA, .boolean)) (hin : vp_in i n) (hdg : decode cc pc = .ok (.bastore, 1)) {f2 : Nat → Int32} (hf2 : upd f i.toNatClampNeg (vp_nar .boolean x) = f2) {w2 : va_W} (hw2 : w.set q0 (a, .inl (cA, n, .inl f2)) = w2)
    (kk : ∀ (H1 : Heap) (locs1 : List Loc), va_P D vwCl w2 H1 → va_D A w2 → va_S A H0 H1 locs1 → W p l e R s m args below meth c H1 locs1 cells slots Q (F0 m (pc + 1) ls rest)) : W p l e R s m args below meth c H locs cells slots Q (F0 m pc ls (.int x :: .int i :: .ref a :: rest)) := by
  subst hf2; subst hw2
  exact va_zast C.1 C.2.1 hK hP hD hS q0 t0 ha ht hin hdg kk
theorem q_zastS {a : Nat} {cA : ClassId} {n : Nat} {f : Nat → Int32} {i x : Int32} (C : CallFix p m c cc nL s args Ts own) (hK : va_K D vwCl tys s) (hP : va_P D vwCl w H) (hD : va_D A w) (hS : va_S A H0 H locs) (q0 t0 : Nat) (ha : w[q0]? = some (a, .inl (cA, n, .inl f))) (ht : tys[t0]? = some (cA, .boolean)) (hin : vp_in i n) (hdg : decode cc pc = .ok (.bastore, 1)) (hsame : f i.toNatClampNeg = (vp_nar .boolean x))
    (kk : ∀ (H1 : Heap) (locs1 : List Loc), va_P D vwCl w H1 → va_D A w → va_S A H0 H1 locs1 → W p l e R s m args below meth c H1 locs1 cells slots Q (F0 m (pc + 1) ls rest)) : W p l e R s m args below meth c H locs cells slots Q (F0 m pc ls (.int x :: .int i :: .ref a :: rest)) :=
  q_zast C hK hP hD hS q0 t0 ha ht hin hdg (f2 := f) (by rw [← hsame]; funext j; unfold upd; split
                                                         · rename_i h; rw [h]
                                                         · rfl) (list_set_self ha) kk
theorem q_last {a : Nat} {cA : ClassId} {n : Nat} {f : Nat → Int64} {i : Int32} {x : Int64} (C : CallFix p m c cc nL s args Ts own) (hK : va_K D vwCl tys s) (hP : va_P D vwCl w H) (hD : va_D A w) (hS : va_S A H0 H locs) (q0 t0 : Nat) (ha : w[q0]? = some (a, .inl (cA, n, .inr (.inl f)))) (ht : tys[t0]? = some (cA, .long)) (hin : vp_in i n) (hdg : decode cc pc = .ok (.lastore, 1)) {f2 : Nat → Int64} (hf2 : vp_updL f i.toNatClampNeg x = f2) {w2 : va_W} (hw2 : w.set q0 (a, .inl (cA, n, .inr (.inl f2))) = w2)
    (kk : ∀ (H1 : Heap) (locs1 : List Loc), va_P D vwCl w2 H1 → va_D A w2 → va_S A H0 H1 locs1 → W p l e R s m args below meth c H1 locs1 cells slots Q (F0 m (pc + 1) ls rest)) : W p l e R s m args below meth c H locs cells slots Q (F0 m pc ls (.long x :: .int i :: .ref a :: rest)) := by
  subst hf2; subst hw2
  exact va_last C.1 C.2.1 hK hP hD hS q0 t0 ha ht hin hdg kk
theorem q_alen {a : Nat} {cA : ClassId} {x : vp_A} {ty : FieldType} {v : Int32} (C : CallFix p m c cc nL s args Ts own) (hK : va_K D vwCl tys s) (hP : va_P D vwCl w H) (q0 t0 : Nat) (ha : w[q0]? = some (a, .inl (cA, x))) (ht : tys[t0]? = some (cA, ty)) (hdg : decode cc pc = .ok (.arraylength, 1)) (hv : Int32.ofNat x.1 = v) (kk : W p l e R s m args below meth c H locs cells slots Q (F0 m (pc + 1) ls (.int v :: rest))) : W p l e R s m args below meth c H locs cells slots Q (F0 m pc ls (.ref a :: rest)) :=
  va_alen C.1 C.2.1 hK hP q0 t0 ha ht hv hdg kk
theorem fm_of_map {α : Type} {g : Nat → Option α} : ∀ {is : List Nat} {w : List α}, is.map g = w.map some → is.filterMap g = w := by
  intro is
  induction is with
  | nil =>
    intro w h
    cases w with
    | nil => rfl
    | cons b w => simp at h
  | cons i is ih =>
    intro w h
    cases w with
    | nil => simp at h
    | cons b w =>
      simp only [List.map_cons, List.cons.injEq] at h
      simp [List.filterMap_cons, h.1, ih h.2]
theorem q_lt (hP : va_P D vwCl w H) {k : Nat} {q : Nat × va_E} (hk : w[k]? = some q) : q.1 < H.size := by
  have h := hP k q hk
  unfold va_at at h
  split at h
  · exact (Array.getElem?_eq_some_iff.mp h).1
  · obtain ⟨r, -, cell, h1, -⟩ := h
    exact (Array.getElem?_eq_some_iff.mp h1).1
theorem q_freeF (hD : va_D A w) (hS : va_S A H0 H locs) (hA : ∀ q, H0.size ≤ q → A q) : ∀ q, va_A w H.size q → A q := by
  intro q h
  rcases h with ⟨k, e, h⟩ | h
  · exact hD.2 k (q, e) h
  · exact hA q (Nat.le_trans hS.1 h)
theorem q_preF {as : List Value} (hN : nw_ok s) (hK : va_K D vwCl tys s) (hP : va_P D vwCl w H) (hD : va_D A w) : PreS s H (va_Pc as (pre_W D tys H.size w)) as :=
  ⟨blind_W, fun U hU hW => ⟨rfl, by rw [hU], by rw [hU]; exact hP, va_K.moved hW.alike hK, hD.weaken (fun _ _ _ _ => trivial), nw_warm hW hN⟩⟩
theorem q_pre {as : List Value} {wc : va_W} (hN : nw_ok s) (hK : va_K D vwCl tys s) (hP : va_P D vwCl w H) (hD : va_D A w) (isC : List Nat) (hC : isC.map (fun i => w[i]?) = wc.map some) (hn : va_nd isC = true) : PreS s H (va_Pc as (pre_W D tys H.size wc)) as :=
  ⟨blind_W, fun U hU hW => ⟨rfl, by rw [hU], by rw [hU]; exact hP.sub isC (fm_of_map hC), va_K.moved hW.alike hK, (hD.sub isC hn hC).weaken (fun _ _ _ _ => trivial), nw_warm hW hN⟩⟩
theorem q_pre0 {as : List Value} (hN : nw_ok s) (hK : va_K D vwCl tys s) : PreS s H (va_Pc as (pre_W D tys H.size [])) as :=
  ⟨blind_W, fun U hU hW => ⟨rfl, by rw [hU], fun k q h => by simp at h, va_K.moved hW.alike hK, ⟨fun i j p q h => by simp at h, fun k q h => by simp at h⟩, nw_warm hW hN⟩⟩
theorem q_preV {Pc : Array Value → State → Prop} {Cn : String} {b : Nat} {As : List Value} {ci q0 : Nat} {q : vw_C} {fs : List Value} (hK : va_K D vwCl tys s) (hP : va_P D vwCl w H) (hc : vwCl[ci]? = some q) (he : w[q0]? = some (b, .inr (ci, fs))) (hq : q.1 = Cn) (h : PreS s H Pc (.ref b :: As)) : PreV s H Cn b Pc As :=
  ⟨h.1, by rw [← hq]; exact va_recv hK hP hc he, h.2⟩
theorem q_goiF {post : Int32 → va_W → Prop} {a : Array Value} {mc ms : Nat} {st : List Value} (hr : va_Run p l e R s m args below meth c H locs cells slots mc ms (F0 m pc ls st) rest (va_Qi post (at_W D tys (va_A w H.size)) (va_A w H.size) a) (va_A w H.size)) (hD : va_D A w) (hS : va_S A H0 H locs) (hA : ∀ q, H0.size ≤ q → A q)
    (kk : ∀ (r : Int32) (w1 : va_W) (H1 : Heap) (locs1 : List Loc), post r w1 → va_P D vwCl w1 H1 → va_D A w1 → va_S A H0 H1 locs1 → W p l e R s m args below meth c H1 locs1 (cells + mc) (slots + ms) Q (F0 m (pc + 3) ls (.int r :: rest))) : W p l e R s m args below meth c H locs cells slots Q (F0 m pc ls st) := by
  have hF := q_freeF hD hS hA
  exact va_calli hr hS (fun q _ h => hF q h) hF (fun r u t H1 locs1 ht hvm hw hB hz1 hk1 hS1 => kk r u H1 locs1 hw (by rw [← ht]; exact hB.1) (hB.2.2.weaken (fun _ q _ h => hF q.1 h)) hS1)
theorem q_goi {post : Int32 → va_W → Prop} {a : Array Value} {mc ms : Nat} {st : List Value} {wc wr : va_W} (hr : va_Run p l e R s m args below meth c H locs cells slots mc ms (F0 m pc ls st) rest (va_Qi post (at_W D tys (va_A wc H.size)) (va_A wc H.size) a) (va_A wc H.size)) (hP : va_P D vwCl w H) (hD : va_D A w) (hS : va_S A H0 H locs) (hA : ∀ q, H0.size ≤ q → A q) (isC isR : List Nat) (hC : isC.map (fun i => w[i]?) = wc.map some) (hR : isR.map (fun i => w[i]?) = wr.map some) (hn : va_nd isR = true) (hdis : ∀ i ∈ isR, i ∉ isC)
    (kk : ∀ (r : Int32) (w1 : va_W) (H1 : Heap) (locs1 : List Loc), post r w1 → va_P D vwCl (wr ++ w1) H1 → va_D A (wr ++ w1) → va_S A H0 H1 locs1 → W p l e R s m args below meth c H1 locs1 (cells + mc) (slots + ms) Q (F0 m (pc + 3) ls (.int r :: rest))) : W p l e R s m args below meth c H locs cells slots Q (F0 m pc ls st) := by
  have hF := va_free (wc := wc) hD hS hA isC hC
  exact va_calli hr hS (fun q _ h => hF q h) hF (fun r u t H1 locs1 ht hvm hw hB hz1 hk1 hS1 => by
    obtain ⟨hP1, hD1⟩ := va_join (wr := wr) (w1 := u) hP hD isC isR hC hR hn hdis hk1 hF (by rw [← ht]; exact hB.1) hB.2.2
    exact kk r u H1 locs1 hw hP1 hD1 hS1)
theorem q_goi0 {post : Int32 → va_W → Prop} {a : Array Value} {mc ms : Nat} {st : List Value} (hr : va_Run p l e R s m args below meth c H locs cells slots mc ms (F0 m pc ls st) rest (va_Qi post (at_W D tys (va_A [] H.size)) (va_A [] H.size) a) (va_A [] H.size)) (hP : va_P D vwCl w H) (hD : va_D A w) (hS : va_S A H0 H locs) (hA : ∀ q, H0.size ≤ q → A q)
    (kk : ∀ (r : Int32) (w1 : va_W) (H1 : Heap) (locs1 : List Loc), post r w1 → va_P D vwCl w H1 → va_S A H0 H1 locs1 → W p l e R s m args below meth c H1 locs1 (cells + mc) (slots + ms) Q (F0 m (pc + 3) ls (.int r :: rest))) : W p l e R s m args below meth c H locs cells slots Q (F0 m pc ls st) := by
  have hF : ∀ q, va_A [] H.size q → A q := by
    intro q h
    rcases h with ⟨k, e, h⟩ | h
    · simp at h
    · exact hA q (Nat.le_trans hS.1 h)
  refine va_calli hr hS (fun q _ h => hF q h) hF (fun r u t H1 locs1 ht hvm hw hB hz1 hk1 hS1 => kk r u H1 locs1 hw (hP.kept fun k q hk => hk1 q.1 (q_lt hP hk) ?_) hS1)
  rintro (⟨k, e, h⟩ | h)
  · simp at h
  · exact absurd (q_lt hP hk) (Nat.not_lt.mpr h)
theorem q_golF {post : Int64 → va_W → Prop} {a : Array Value} {mc ms : Nat} {st : List Value} (hr : va_Run p l e R s m args below meth c H locs cells slots mc ms (F0 m pc ls st) rest (va_Ql post (at_W D tys (va_A w H.size)) (va_A w H.size) a) (va_A w H.size)) (hD : va_D A w) (hS : va_S A H0 H locs) (hA : ∀ q, H0.size ≤ q → A q)
    (kk : ∀ (r : Int64) (w1 : va_W) (H1 : Heap) (locs1 : List Loc), post r w1 → va_P D vwCl w1 H1 → va_D A w1 → va_S A H0 H1 locs1 → W p l e R s m args below meth c H1 locs1 (cells + mc) (slots + ms) Q (F0 m (pc + 3) ls (.long r :: rest))) : W p l e R s m args below meth c H locs cells slots Q (F0 m pc ls st) := by
  have hF := q_freeF hD hS hA
  exact va_calll hr hS (fun q _ h => hF q h) hF (fun r u t H1 locs1 ht hvm hw hB hz1 hk1 hS1 => kk r u H1 locs1 hw (by rw [← ht]; exact hB.1) (hB.2.2.weaken (fun _ q _ h => hF q.1 h)) hS1)
theorem q_gol {post : Int64 → va_W → Prop} {a : Array Value} {mc ms : Nat} {st : List Value} {wc wr : va_W} (hr : va_Run p l e R s m args below meth c H locs cells slots mc ms (F0 m pc ls st) rest (va_Ql post (at_W D tys (va_A wc H.size)) (va_A wc H.size) a) (va_A wc H.size)) (hP : va_P D vwCl w H) (hD : va_D A w) (hS : va_S A H0 H locs) (hA : ∀ q, H0.size ≤ q → A q) (isC isR : List Nat) (hC : isC.map (fun i => w[i]?) = wc.map some) (hR : isR.map (fun i => w[i]?) = wr.map some) (hn : va_nd isR = true) (hdis : ∀ i ∈ isR, i ∉ isC)
    (kk : ∀ (r : Int64) (w1 : va_W) (H1 : Heap) (locs1 : List Loc), post r w1 → va_P D vwCl (wr ++ w1) H1 → va_D A (wr ++ w1) → va_S A H0 H1 locs1 → W p l e R s m args below meth c H1 locs1 (cells + mc) (slots + ms) Q (F0 m (pc + 3) ls (.long r :: rest))) : W p l e R s m args below meth c H locs cells slots Q (F0 m pc ls st) := by
  have hF := va_free (wc := wc) hD hS hA isC hC
  exact va_calll hr hS (fun q _ h => hF q h) hF (fun r u t H1 locs1 ht hvm hw hB hz1 hk1 hS1 => by
    obtain ⟨hP1, hD1⟩ := va_join (wr := wr) (w1 := u) hP hD isC isR hC hR hn hdis hk1 hF (by rw [← ht]; exact hB.1) hB.2.2
    exact kk r u H1 locs1 hw hP1 hD1 hS1)
theorem q_gol0 {post : Int64 → va_W → Prop} {a : Array Value} {mc ms : Nat} {st : List Value} (hr : va_Run p l e R s m args below meth c H locs cells slots mc ms (F0 m pc ls st) rest (va_Ql post (at_W D tys (va_A [] H.size)) (va_A [] H.size) a) (va_A [] H.size)) (hP : va_P D vwCl w H) (hD : va_D A w) (hS : va_S A H0 H locs) (hA : ∀ q, H0.size ≤ q → A q)
    (kk : ∀ (r : Int64) (w1 : va_W) (H1 : Heap) (locs1 : List Loc), post r w1 → va_P D vwCl w H1 → va_S A H0 H1 locs1 → W p l e R s m args below meth c H1 locs1 (cells + mc) (slots + ms) Q (F0 m (pc + 3) ls (.long r :: rest))) : W p l e R s m args below meth c H locs cells slots Q (F0 m pc ls st) := by
  have hF : ∀ q, va_A [] H.size q → A q := by
    intro q h
    rcases h with ⟨k, e, h⟩ | h
    · simp at h
    · exact hA q (Nat.le_trans hS.1 h)
  refine va_calll hr hS (fun q _ h => hF q h) hF (fun r u t H1 locs1 ht hvm hw hB hz1 hk1 hS1 => kk r u H1 locs1 hw (hP.kept fun k q hk => hk1 q.1 (q_lt hP hk) ?_) hS1)
  rintro (⟨k, e, h⟩ | h)
  · simp at h
  · exact absurd (q_lt hP hk) (Nat.not_lt.mpr h)
theorem q_govF {post : va_W → Prop} {a : Array Value} {mc ms : Nat} {st : List Value} (hr : va_Run p l e R s m args below meth c H locs cells slots mc ms (F0 m pc ls st) rest (va_Qv post (at_W D tys (va_A w H.size)) (va_A w H.size) a) (va_A w H.size)) (hD : va_D A w) (hS : va_S A H0 H locs) (hA : ∀ q, H0.size ≤ q → A q)
    (kk : ∀ (w1 : va_W) (H1 : Heap) (locs1 : List Loc), post w1 → va_P D vwCl w1 H1 → va_D A w1 → va_S A H0 H1 locs1 → W p l e R s m args below meth c H1 locs1 (cells + mc) (slots + ms) Q (F0 m (pc + 3) ls (rest))) : W p l e R s m args below meth c H locs cells slots Q (F0 m pc ls st) := by
  have hF := q_freeF hD hS hA
  exact va_callv hr hS (fun q _ h => hF q h) hF (fun u t H1 locs1 ht hvm hw hB hz1 hk1 hS1 => kk u H1 locs1 hw (by rw [← ht]; exact hB.1) (hB.2.2.weaken (fun _ q _ h => hF q.1 h)) hS1)
theorem q_gov {post : va_W → Prop} {a : Array Value} {mc ms : Nat} {st : List Value} {wc wr : va_W} (hr : va_Run p l e R s m args below meth c H locs cells slots mc ms (F0 m pc ls st) rest (va_Qv post (at_W D tys (va_A wc H.size)) (va_A wc H.size) a) (va_A wc H.size)) (hP : va_P D vwCl w H) (hD : va_D A w) (hS : va_S A H0 H locs) (hA : ∀ q, H0.size ≤ q → A q) (isC isR : List Nat) (hC : isC.map (fun i => w[i]?) = wc.map some) (hR : isR.map (fun i => w[i]?) = wr.map some) (hn : va_nd isR = true) (hdis : ∀ i ∈ isR, i ∉ isC)
    (kk : ∀ (w1 : va_W) (H1 : Heap) (locs1 : List Loc), post w1 → va_P D vwCl (wr ++ w1) H1 → va_D A (wr ++ w1) → va_S A H0 H1 locs1 → W p l e R s m args below meth c H1 locs1 (cells + mc) (slots + ms) Q (F0 m (pc + 3) ls (rest))) : W p l e R s m args below meth c H locs cells slots Q (F0 m pc ls st) := by
  have hF := va_free (wc := wc) hD hS hA isC hC
  exact va_callv hr hS (fun q _ h => hF q h) hF (fun u t H1 locs1 ht hvm hw hB hz1 hk1 hS1 => by
    obtain ⟨hP1, hD1⟩ := va_join (wr := wr) (w1 := u) hP hD isC isR hC hR hn hdis hk1 hF (by rw [← ht]; exact hB.1) hB.2.2
    exact kk u H1 locs1 hw hP1 hD1 hS1)
theorem q_gov0 {post : va_W → Prop} {a : Array Value} {mc ms : Nat} {st : List Value} (hr : va_Run p l e R s m args below meth c H locs cells slots mc ms (F0 m pc ls st) rest (va_Qv post (at_W D tys (va_A [] H.size)) (va_A [] H.size) a) (va_A [] H.size)) (hP : va_P D vwCl w H) (hD : va_D A w) (hS : va_S A H0 H locs) (hA : ∀ q, H0.size ≤ q → A q)
    (kk : ∀ (w1 : va_W) (H1 : Heap) (locs1 : List Loc), post w1 → va_P D vwCl w H1 → va_S A H0 H1 locs1 → W p l e R s m args below meth c H1 locs1 (cells + mc) (slots + ms) Q (F0 m (pc + 3) ls (rest))) : W p l e R s m args below meth c H locs cells slots Q (F0 m pc ls st) := by
  have hF : ∀ q, va_A [] H.size q → A q := by
    intro q h
    rcases h with ⟨k, e, h⟩ | h
    · simp at h
    · exact hA q (Nat.le_trans hS.1 h)
  refine va_callv hr hS (fun q _ h => hF q h) hF (fun u t H1 locs1 ht hvm hw hB hz1 hk1 hS1 => kk u H1 locs1 hw (hP.kept fun k q hk => hk1 q.1 (q_lt hP hk) ?_) hS1)
  rintro (⟨k, e, h⟩ | h)
  · simp at h
  · exact absurd (q_lt hP hk) (Nat.not_lt.mpr h)
end QA
/-! ===== pure words ===== -/
noncomputable def sp_in (v lo hi : Int32) : Int32 := if lo ≤ v ∧ v ≤ hi then 1 else 0
theorem sp_in_01 (v lo hi : Int32) : sp_in v lo hi = 0 ∨ sp_in v lo hi = 1 := by
  unfold sp_in; split
  · exact Or.inr rfl
  · exact Or.inl rfl
theorem sp_in_neg (x : Int32) : sp_in x 0 (-1) = 0 := by
  unfold sp_in
  rw [if_neg]
  rintro ⟨h1, h2⟩
  exact absurd (Int32.le_trans h1 h2) (by decide +kernel)
theorem sp_in_00 {x : Int32} (h : ¬ sp_in x 0 0 = 0) : x = 0 := by
  unfold sp_in at h
  split at h
  · rename_i q; exact Int32.le_antisymm q.2 q.1
  · exact absurd rfl h
theorem sp_in_00n {x : Int32} (h : sp_in x 0 0 = 0) : ¬ x = 0 := by
  rintro rfl
  exact absurd h (by decide +kernel)
theorem nI_nge {i n : Nat} (h : i < n) (hn : n < 2 ^ 31) : ¬ Int32.ofNat n ≤ nI i := nI_ge h hn
theorem nI_ngt {i n : Nat} (h : i ≤ n) (hn : n < 2 ^ 31) : ¬ Int32.ofNat n < nI i := nI_nlt h hn
theorem sp_in_2c {x : Int32} (h : ¬ sp_in x 0 1 = 0) : x = 0 ∨ x = 1 := by
  unfold sp_in at h
  split at h
  · rename_i q
    have h1 := Int32.le_iff_toInt_le.mp q.1
    have h2 := Int32.le_iff_toInt_le.mp q.2
    have e1 : (1 : Int32).toInt = 1 := by decide +kernel
    have e0 : (0 : Int32).toInt = 0 := by decide +kernel
    rw [e0] at h1; rw [e1] at h2
    rcases (show x.toInt = 0 ∨ x.toInt = 1 by omega) with e | e
    · exact Or.inl (Int32.toInt_inj.mp (e.trans e0.symm))
    · exact Or.inr (Int32.toInt_inj.mp (e.trans e1.symm))
  · exact absurd rfl h
theorem sp_in_3c {x : Int32} (h : ¬ sp_in x 0 2 = 0) : x = 0 ∨ x = 1 ∨ x = 2 := by
  unfold sp_in at h
  split at h
  · rename_i q
    have h1 := Int32.le_iff_toInt_le.mp q.1
    have h2 := Int32.le_iff_toInt_le.mp q.2
    have e2 : (2 : Int32).toInt = 2 := by decide +kernel
    have e1 : (1 : Int32).toInt = 1 := by decide +kernel
    have e0 : (0 : Int32).toInt = 0 := by decide +kernel
    rw [e0] at h1; rw [e2] at h2
    rcases (show x.toInt = 0 ∨ x.toInt = 1 ∨ x.toInt = 2 by omega) with e | e | e
    · exact Or.inl (Int32.toInt_inj.mp (e.trans e0.symm))
    · exact Or.inr (Or.inl (Int32.toInt_inj.mp (e.trans e1.symm)))
    · exact Or.inr (Or.inr (Int32.toInt_inj.mp (e.trans e2.symm)))
  · exact absurd rfl h
/-- a known k and a number of lies l that may be asked about, with nothing told -/
noncomputable def sp_ask (k l : Int32) : Int32 := if sp_in k 0 0 = 0 then 0 else sp_in l 0 3
theorem sp_ask_01 (k l : Int32) : sp_ask k l = 0 ∨ sp_ask k l = 1 := by
  unfold sp_ask; split
  · exact Or.inl rfl
  · exact sp_in_01 _ _ _
theorem sp_ask_k {k l : Int32} (h : ¬ sp_ask k l = 0) : k = 0 := by
  unfold sp_ask at h
  split at h
  · exact absurd rfl h
  · rename_i q; exact sp_in_00 q
theorem sp_ask_l {k l : Int32} (h : ¬ sp_ask k l = 0) : ¬ l < 0 := by
  unfold sp_ask at h
  split at h
  · exact absurd rfl h
  · unfold sp_in at h
    split at h
    · rename_i q; exact Int32.not_lt.mpr q.1
    · exact absurd rfl h
theorem sp_in_19 {x : Int32} (h : ¬ sp_in x 0 19 = 0) : ∃ i : Nat, i < 20 ∧ x = nI i := by
  unfold sp_in at h
  split at h
  · rename_i q
    obtain ⟨j, hj, e⟩ := nI_of2 (M := 19) (n := 19) (by decide +kernel) (Int32.not_lt.mpr q.1) q.2
    exact ⟨j, by omega, e⟩
  · exact absurd rfl h
theorem sp_in_1_20 {x : Int32} (h : ¬ sp_in x 1 20 = 0) : ∃ i : Nat, 1 ≤ i ∧ i ≤ 20 ∧ x = nI i := by
  unfold sp_in at h
  split at h
  · rename_i q
    obtain ⟨j, hj, e⟩ := nI_of2 (M := 20) (n := 20) (by decide +kernel) (Int32.not_lt.mpr (Int32.le_trans (by decide +kernel) q.1)) q.2
    refine ⟨j, ?_, hj, e⟩
    rcases Nat.eq_zero_or_pos j with h0 | h0
    · subst h0; rw [e] at q; exact absurd q.1 (by decide +kernel)
    · exact h0
  · exact absurd rfl h
theorem sp_in_40 {x : Int32} (h : ¬ sp_in x 0 40 = 0) : ∃ i : Nat, i ≤ 40 ∧ x = nI i := by
  unfold sp_in at h
  split at h
  · rename_i q
    exact nI_of2 (M := 40) (n := 40) (by decide +kernel) (Int32.not_lt.mpr q.1) q.2
  · exact absurd rfl h
/-- the answers of a fresh object -/
noncomputable def fr_one (c x : Int32) : Int32 := if sp_in x 0 0 = 0 then -1 else c
noncomputable def fr_wis (x : Int32) : Int32 := if sp_in x 0 1 = 0 then -1 else x
noncomputable def fr_dear (x : Int32) : Int32 := if sp_in x 0 1 = 0 then -1 else -2
noncomputable def fr_all (x : Int32) : Int32 := if sp_in x 0 2 = 0 then -1 else 0
noncomputable def fr_alike (x y : Int32) : Int32 := if sp_in x 0 0 = 0 then -1 else if sp_in y 0 0 = 0 then -1 else 0
noncomputable def fr_ask (c k l : Int32) : Int32 := if sp_ask k l = 0 then -1 else c
noncomputable def fr_fit (k l w : Int32) : Int32 := if sp_ask k l = 0 then -1 else if sp_in w 0 1 = 0 then -1 else 1
noncomputable def fr_year (x s : Int32) : Int32 := if sp_in x 0 0 = 0 then -1 else if sp_in s 1 20 = 0 then -1 else s
noncomputable def fr_ranked (i : Int32) : Int32 := if sp_in i 0 19 = 0 then -1 else if i = 0 then 0 else -1
noncomputable def fr_years (n : Int32) : Int32 := if sp_in n 0 40 = 0 then -1 else n
noncomputable def fr_count (x : Int32) : Int32 := if x = 14 then 1 else if sp_in x 0 18 = 0 then -1 else 0
noncomputable def sp_app (n : Int64) (c : Int32) : Int64 := if c = 0 then n else 27 * n + (c - 97 + 1).toInt64
theorem out_19 {x : Int32} (h0 : ¬ x = 0) (h1 : ¬ x = 1) (h2 : ¬ x = 2) (h3 : ¬ x = 3) (h4 : ¬ x = 4) (h5 : ¬ x = 5) (h6 : ¬ x = 6) (h7 : ¬ x = 7) (h8 : ¬ x = 8) (h9 : ¬ x = 9) (h10 : ¬ x = 10) (h11 : ¬ x = 11) (h12 : ¬ x = 12) (h13 : ¬ x = 13) (h14 : ¬ x = 14) (h15 : ¬ x = 15) (h16 : ¬ x = 16) (h17 : ¬ x = 17) (h18 : ¬ x = 18) : x.toInt < 0 ∨ (18 : Int) < x.toInt := by
  by_cases q1 : x.toInt < 0
  · exact Or.inl q1
  · by_cases q2 : (18 : Int) < x.toInt
    · exact Or.inr q2
    · exfalso
      have key : ∀ (k : Int32), ¬ x = k → ¬ x.toInt = k.toInt := fun k h e => h (Int32.toInt_inj.mp e)
      have k0 := key 0 h0; have k1 := key 1 h1; have k2 := key 2 h2; have k3 := key 3 h3; have k4 := key 4 h4; have k5 := key 5 h5; have k6 := key 6 h6; have k7 := key 7 h7; have k8 := key 8 h8; have k9 := key 9 h9; have k10 := key 10 h10; have k11 := key 11 h11; have k12 := key 12 h12; have k13 := key 13 h13; have k14 := key 14 h14; have k15 := key 15 h15; have k16 := key 16 h16; have k17 := key 17 h17; have k18 := key 18 h18
      rw [show (0 : Int32).toInt = 0 from by decide +kernel] at k0
      rw [show (1 : Int32).toInt = 1 from by decide +kernel] at k1
      rw [show (2 : Int32).toInt = 2 from by decide +kernel] at k2
      rw [show (3 : Int32).toInt = 3 from by decide +kernel] at k3
      rw [show (4 : Int32).toInt = 4 from by decide +kernel] at k4
      rw [show (5 : Int32).toInt = 5 from by decide +kernel] at k5
      rw [show (6 : Int32).toInt = 6 from by decide +kernel] at k6
      rw [show (7 : Int32).toInt = 7 from by decide +kernel] at k7
      rw [show (8 : Int32).toInt = 8 from by decide +kernel] at k8
      rw [show (9 : Int32).toInt = 9 from by decide +kernel] at k9
      rw [show (10 : Int32).toInt = 10 from by decide +kernel] at k10
      rw [show (11 : Int32).toInt = 11 from by decide +kernel] at k11
      rw [show (12 : Int32).toInt = 12 from by decide +kernel] at k12
      rw [show (13 : Int32).toInt = 13 from by decide +kernel] at k13
      rw [show (14 : Int32).toInt = 14 from by decide +kernel] at k14
      rw [show (15 : Int32).toInt = 15 from by decide +kernel] at k15
      rw [show (16 : Int32).toInt = 16 from by decide +kernel] at k16
      rw [show (17 : Int32).toInt = 17 from by decide +kernel] at k17
      rw [show (18 : Int32).toInt = 18 from by decide +kernel] at k18
      omega
theorem fr_one_lt {x : Int32} (h : x < 0) : -1 = fr_one 0 x := by
  unfold fr_one sp_in
  rw [if_pos (if_neg (fun q => absurd q.1 (Int32.not_le.mpr h)))]
theorem fr_one_gt {x : Int32} (h : ¬ x ≤ 0) : -1 = fr_one 0 x := by
  unfold fr_one sp_in
  rw [if_pos (if_neg (fun q => absurd q.2 h))]
theorem sp_in_ge {x hi : Int32} (h : ¬ sp_in x 0 hi = 0) : ¬ x < 0 := by
  unfold sp_in at h
  split at h
  · rename_i q; exact Int32.not_lt.mpr q.1
  · exact absurd rfl h
theorem fr_count_out {x : Int32} (h : x.toInt < 0 ∨ (18 : Int) < x.toInt) : -1 = fr_count x := by
  unfold fr_count
  rw [if_neg, if_pos]
  · unfold sp_in
    rw [if_neg]
    rintro ⟨h1, h2⟩
    have h1 := Int32.le_iff_toInt_le.mp h1
    have h2 := Int32.le_iff_toInt_le.mp h2
    rw [show (0 : Int32).toInt = 0 from by decide +kernel] at h1
    rw [show (18 : Int32).toInt = 18 from by decide +kernel] at h2
    omega
  · rintro rfl
    exact absurd h (by decide +kernel)
theorem i32_lt1 {x : Int32} (h0 : ¬ x < 0) (h : x < 1) : x = 0 := by
  have h1 := Int32.le_iff_toInt_le.mp (Int32.not_lt.mp h0)
  have h2 := Int32.lt_iff_toInt_lt.mp h
  rw [show (0 : Int32).toInt = 0 from by decide +kernel] at h1
  rw [show (1 : Int32).toInt = 1 from by decide +kernel] at h2
  exact Int32.toInt_inj.mp ((show x.toInt = 0 by omega).trans (by decide +kernel))
theorem fr_ranked_0 {x : Int32} (h : ¬ sp_in x 0 19 = 0) (h1 : x < 1) : 0 = fr_ranked x := by
  obtain rfl := i32_lt1 (sp_in_ge h) h1
  decide +kernel
theorem fr_ranked_1 {x : Int32} (h : ¬ sp_in x 0 19 = 0) (h1 : ¬ x < 1) : -1 = fr_ranked x := by
  unfold fr_ranked
  rw [if_neg h, if_neg]
  rintro rfl
  exact h1 (by decide +kernel)
theorem sp_in_a {v lo hi : Int32} (h : v < lo) : 0 = sp_in v lo hi := by
  unfold sp_in
  rw [if_neg (fun q => absurd q.1 (Int32.not_le.mpr h))]
theorem sp_in_b {v lo hi : Int32} (h : hi < v) : 0 = sp_in v lo hi := by
  unfold sp_in
  rw [if_neg (fun q => absurd q.2 (Int32.not_le.mpr h))]
theorem sp_in_c {v lo hi : Int32} (h1 : ¬ v < lo) (h2 : ¬ hi < v) : 1 = sp_in v lo hi := by
  unfold sp_in
  rw [if_pos ⟨Int32.not_lt.mp h1, Int32.not_lt.mp h2⟩]
/-- the fields of the reference: its ints v, its rows at a -/
noncomputable abbrev moF (a : Nat → Nat) (v : Nat → Int32) : List Value := [.int (v 0), .ref (a 1), .int (v 2), .ref (a 3), .int (v 4), .ref (a 5), .ref (a 6), .ref (a 7), .ref (a 8), .ref (a 9), .int (v 10), .int (v 11), .int (v 12), .int (v 13), .int (v 14), .int (v 15), .int (v 16), .int (v 17), .int (v 18), .int (v 19), .ref (a 20), .ref (a 21), .ref (a 22), .ref (a 23), .ref (a 24), .ref (a 25), .ref (a 26), .ref (a 27), .ref (a 28), .int (v 29), .ref (a 30), .ref (a 31), .ref (a 32), .ref (a 33), .ref (a 34), .int (v 35), .ref (a 36), .ref (a 37), .ref (a 38), .int (v 39), .ref (a 40), .ref (a 41), .int (v 42), .ref (a 43), .ref (a 44), .int (v 45), .ref (a 46), .ref (a 47), .int (v 48), .ref (a 49), .ref (a 50), .int (v 51), .ref (a 52), .ref (a 53), .ref (a 54), .ref (a 55), .ref (a 56), .ref (a 57)]
/-- the world of the reference: the object at h, its rows at a, what they hold: f, g -/
noncomputable abbrev mw (cB cI cJ cZ : ClassId) (h : Nat) (a : Nat → Nat) (v : Nat → Int32) (f : Nat → Nat → Int32) (g : Nat → Nat → Int64) : va_W := [(h, .inr (11, moF a v)), (a 1, .inl (cB, 2000, .inl (f 1))), (a 3, .inl (cB, 2000, .inl (f 3))), (a 5, .inl (cI, 403, .inl (f 5))), (a 6, .inl (cI, 403, .inl (f 6))), (a 7, .inl (cI, 403, .inl (f 7))), (a 8, .inl (cJ, 403, .inr (.inl (g 8)))), (a 9, .inl (cJ, 19, .inr (.inl (g 9)))), (a 20, .inl (cI, 2, .inl (f 20))), (a 21, .inl (cI, 60, .inl (f 21))), (a 22, .inl (cJ, 6, .inr (.inl (g 22)))), (a 23, .inl (cI, 2, .inl (f 23))), (a 24, .inl (cI, 12, .inl (f 24))), (a 25, .inl (cI, 12, .inl (f 25))), (a 26, .inl (cI, 2, .inl (f 26))), (a 27, .inl (cI, 8, .inl (f 27))), (a 28, .inl (cI, 8, .inl (f 28))), (a 30, .inl (cZ, 260, .inl (f 30))), (a 31, .inl (cI, 260, .inl (f 31))), (a 32, .inl (cI, 260, .inl (f 32))), (a 33, .inl (cI, 260, .inl (f 33))), (a 34, .inl (cI, 260, .inl (f 34))), (a 36, .inl (cI, 840, .inl (f 36))), (a 37, .inl (cI, 840, .inl (f 37))), (a 38, .inl (cI, 64, .inl (f 38))), (a 40, .inl (cI, 9, .inl (f 40))), (a 41, .inl (cI, 400, .inl (f 41))), (a 43, .inl (cI, 29, .inl (f 43))), (a 44, .inl (cI, 29, .inl (f 44))), (a 46, .inl (cI, 6, .inl (f 46))), (a 47, .inl (cZ, 5, .inl (f 47))), (a 49, .inl (cI, 1160, .inl (f 49))), (a 50, .inl (cI, 7776, .inl (f 50))), (a 52, .inl (cI, 20, .inl (f 52))), (a 53, .inl (cI, 20, .inl (f 53))), (a 54, .inl (cZ, 20, .inl (f 54))), (a 55, .inl (cI, 30, .inl (f 55))), (a 56, .inl (cZ, 3, .inl (f 56))), (a 57, .inl (cI, 87, .inl (f 57)))]
theorem mw_v0 {cB cI cJ cZ : ClassId} {h : Nat} {a : Nat → Nat} {v : Nat → Int32} {f : Nat → Nat → Int32} {g : Nat → Nat → Int64} (x : Int32) : (mw cB cI cJ cZ h a v f g).set 0 (h, .inr (11, (moF a v).set 0 (.int x))) = mw cB cI cJ cZ h a (va_up v 0 x) f g := rfl
theorem mw_f1 {cB cI cJ cZ : ClassId} {h : Nat} {a : Nat → Nat} {v : Nat → Int32} {f : Nat → Nat → Int32} {g : Nat → Nat → Int64} (x : Nat → Int32) : (mw cB cI cJ cZ h a v f g).set 1 (a 1, .inl (cB, 2000, .inl x)) = mw cB cI cJ cZ h a v (va_up f 1 x) g := rfl
theorem mw_v2 {cB cI cJ cZ : ClassId} {h : Nat} {a : Nat → Nat} {v : Nat → Int32} {f : Nat → Nat → Int32} {g : Nat → Nat → Int64} (x : Int32) : (mw cB cI cJ cZ h a v f g).set 0 (h, .inr (11, (moF a v).set 2 (.int x))) = mw cB cI cJ cZ h a (va_up v 2 x) f g := rfl
theorem mw_f3 {cB cI cJ cZ : ClassId} {h : Nat} {a : Nat → Nat} {v : Nat → Int32} {f : Nat → Nat → Int32} {g : Nat → Nat → Int64} (x : Nat → Int32) : (mw cB cI cJ cZ h a v f g).set 2 (a 3, .inl (cB, 2000, .inl x)) = mw cB cI cJ cZ h a v (va_up f 3 x) g := rfl
theorem mw_v4 {cB cI cJ cZ : ClassId} {h : Nat} {a : Nat → Nat} {v : Nat → Int32} {f : Nat → Nat → Int32} {g : Nat → Nat → Int64} (x : Int32) : (mw cB cI cJ cZ h a v f g).set 0 (h, .inr (11, (moF a v).set 4 (.int x))) = mw cB cI cJ cZ h a (va_up v 4 x) f g := rfl
theorem mw_f5 {cB cI cJ cZ : ClassId} {h : Nat} {a : Nat → Nat} {v : Nat → Int32} {f : Nat → Nat → Int32} {g : Nat → Nat → Int64} (x : Nat → Int32) : (mw cB cI cJ cZ h a v f g).set 3 (a 5, .inl (cI, 403, .inl x)) = mw cB cI cJ cZ h a v (va_up f 5 x) g := rfl
theorem mw_f6 {cB cI cJ cZ : ClassId} {h : Nat} {a : Nat → Nat} {v : Nat → Int32} {f : Nat → Nat → Int32} {g : Nat → Nat → Int64} (x : Nat → Int32) : (mw cB cI cJ cZ h a v f g).set 4 (a 6, .inl (cI, 403, .inl x)) = mw cB cI cJ cZ h a v (va_up f 6 x) g := rfl
theorem mw_f7 {cB cI cJ cZ : ClassId} {h : Nat} {a : Nat → Nat} {v : Nat → Int32} {f : Nat → Nat → Int32} {g : Nat → Nat → Int64} (x : Nat → Int32) : (mw cB cI cJ cZ h a v f g).set 5 (a 7, .inl (cI, 403, .inl x)) = mw cB cI cJ cZ h a v (va_up f 7 x) g := rfl
theorem mw_f8 {cB cI cJ cZ : ClassId} {h : Nat} {a : Nat → Nat} {v : Nat → Int32} {f : Nat → Nat → Int32} {g : Nat → Nat → Int64} (x : Nat → Int64) : (mw cB cI cJ cZ h a v f g).set 6 (a 8, .inl (cJ, 403, .inr (.inl x))) = mw cB cI cJ cZ h a v f (va_up g 8 x) := rfl
theorem mw_f9 {cB cI cJ cZ : ClassId} {h : Nat} {a : Nat → Nat} {v : Nat → Int32} {f : Nat → Nat → Int32} {g : Nat → Nat → Int64} (x : Nat → Int64) : (mw cB cI cJ cZ h a v f g).set 7 (a 9, .inl (cJ, 19, .inr (.inl x))) = mw cB cI cJ cZ h a v f (va_up g 9 x) := rfl
theorem mw_v10 {cB cI cJ cZ : ClassId} {h : Nat} {a : Nat → Nat} {v : Nat → Int32} {f : Nat → Nat → Int32} {g : Nat → Nat → Int64} (x : Int32) : (mw cB cI cJ cZ h a v f g).set 0 (h, .inr (11, (moF a v).set 10 (.int x))) = mw cB cI cJ cZ h a (va_up v 10 x) f g := rfl
theorem mw_v11 {cB cI cJ cZ : ClassId} {h : Nat} {a : Nat → Nat} {v : Nat → Int32} {f : Nat → Nat → Int32} {g : Nat → Nat → Int64} (x : Int32) : (mw cB cI cJ cZ h a v f g).set 0 (h, .inr (11, (moF a v).set 11 (.int x))) = mw cB cI cJ cZ h a (va_up v 11 x) f g := rfl
theorem mw_v12 {cB cI cJ cZ : ClassId} {h : Nat} {a : Nat → Nat} {v : Nat → Int32} {f : Nat → Nat → Int32} {g : Nat → Nat → Int64} (x : Int32) : (mw cB cI cJ cZ h a v f g).set 0 (h, .inr (11, (moF a v).set 12 (.int x))) = mw cB cI cJ cZ h a (va_up v 12 x) f g := rfl
theorem mw_v13 {cB cI cJ cZ : ClassId} {h : Nat} {a : Nat → Nat} {v : Nat → Int32} {f : Nat → Nat → Int32} {g : Nat → Nat → Int64} (x : Int32) : (mw cB cI cJ cZ h a v f g).set 0 (h, .inr (11, (moF a v).set 13 (.int x))) = mw cB cI cJ cZ h a (va_up v 13 x) f g := rfl
theorem mw_v14 {cB cI cJ cZ : ClassId} {h : Nat} {a : Nat → Nat} {v : Nat → Int32} {f : Nat → Nat → Int32} {g : Nat → Nat → Int64} (x : Int32) : (mw cB cI cJ cZ h a v f g).set 0 (h, .inr (11, (moF a v).set 14 (.int x))) = mw cB cI cJ cZ h a (va_up v 14 x) f g := rfl
theorem mw_v15 {cB cI cJ cZ : ClassId} {h : Nat} {a : Nat → Nat} {v : Nat → Int32} {f : Nat → Nat → Int32} {g : Nat → Nat → Int64} (x : Int32) : (mw cB cI cJ cZ h a v f g).set 0 (h, .inr (11, (moF a v).set 15 (.int x))) = mw cB cI cJ cZ h a (va_up v 15 x) f g := rfl
theorem mw_v16 {cB cI cJ cZ : ClassId} {h : Nat} {a : Nat → Nat} {v : Nat → Int32} {f : Nat → Nat → Int32} {g : Nat → Nat → Int64} (x : Int32) : (mw cB cI cJ cZ h a v f g).set 0 (h, .inr (11, (moF a v).set 16 (.int x))) = mw cB cI cJ cZ h a (va_up v 16 x) f g := rfl
theorem mw_v17 {cB cI cJ cZ : ClassId} {h : Nat} {a : Nat → Nat} {v : Nat → Int32} {f : Nat → Nat → Int32} {g : Nat → Nat → Int64} (x : Int32) : (mw cB cI cJ cZ h a v f g).set 0 (h, .inr (11, (moF a v).set 17 (.int x))) = mw cB cI cJ cZ h a (va_up v 17 x) f g := rfl
theorem mw_v18 {cB cI cJ cZ : ClassId} {h : Nat} {a : Nat → Nat} {v : Nat → Int32} {f : Nat → Nat → Int32} {g : Nat → Nat → Int64} (x : Int32) : (mw cB cI cJ cZ h a v f g).set 0 (h, .inr (11, (moF a v).set 18 (.int x))) = mw cB cI cJ cZ h a (va_up v 18 x) f g := rfl
theorem mw_v19 {cB cI cJ cZ : ClassId} {h : Nat} {a : Nat → Nat} {v : Nat → Int32} {f : Nat → Nat → Int32} {g : Nat → Nat → Int64} (x : Int32) : (mw cB cI cJ cZ h a v f g).set 0 (h, .inr (11, (moF a v).set 19 (.int x))) = mw cB cI cJ cZ h a (va_up v 19 x) f g := rfl
theorem mw_f20 {cB cI cJ cZ : ClassId} {h : Nat} {a : Nat → Nat} {v : Nat → Int32} {f : Nat → Nat → Int32} {g : Nat → Nat → Int64} (x : Nat → Int32) : (mw cB cI cJ cZ h a v f g).set 8 (a 20, .inl (cI, 2, .inl x)) = mw cB cI cJ cZ h a v (va_up f 20 x) g := rfl
theorem mw_f21 {cB cI cJ cZ : ClassId} {h : Nat} {a : Nat → Nat} {v : Nat → Int32} {f : Nat → Nat → Int32} {g : Nat → Nat → Int64} (x : Nat → Int32) : (mw cB cI cJ cZ h a v f g).set 9 (a 21, .inl (cI, 60, .inl x)) = mw cB cI cJ cZ h a v (va_up f 21 x) g := rfl
theorem mw_f22 {cB cI cJ cZ : ClassId} {h : Nat} {a : Nat → Nat} {v : Nat → Int32} {f : Nat → Nat → Int32} {g : Nat → Nat → Int64} (x : Nat → Int64) : (mw cB cI cJ cZ h a v f g).set 10 (a 22, .inl (cJ, 6, .inr (.inl x))) = mw cB cI cJ cZ h a v f (va_up g 22 x) := rfl
theorem mw_f23 {cB cI cJ cZ : ClassId} {h : Nat} {a : Nat → Nat} {v : Nat → Int32} {f : Nat → Nat → Int32} {g : Nat → Nat → Int64} (x : Nat → Int32) : (mw cB cI cJ cZ h a v f g).set 11 (a 23, .inl (cI, 2, .inl x)) = mw cB cI cJ cZ h a v (va_up f 23 x) g := rfl
theorem mw_f24 {cB cI cJ cZ : ClassId} {h : Nat} {a : Nat → Nat} {v : Nat → Int32} {f : Nat → Nat → Int32} {g : Nat → Nat → Int64} (x : Nat → Int32) : (mw cB cI cJ cZ h a v f g).set 12 (a 24, .inl (cI, 12, .inl x)) = mw cB cI cJ cZ h a v (va_up f 24 x) g := rfl
theorem mw_f25 {cB cI cJ cZ : ClassId} {h : Nat} {a : Nat → Nat} {v : Nat → Int32} {f : Nat → Nat → Int32} {g : Nat → Nat → Int64} (x : Nat → Int32) : (mw cB cI cJ cZ h a v f g).set 13 (a 25, .inl (cI, 12, .inl x)) = mw cB cI cJ cZ h a v (va_up f 25 x) g := rfl
theorem mw_f26 {cB cI cJ cZ : ClassId} {h : Nat} {a : Nat → Nat} {v : Nat → Int32} {f : Nat → Nat → Int32} {g : Nat → Nat → Int64} (x : Nat → Int32) : (mw cB cI cJ cZ h a v f g).set 14 (a 26, .inl (cI, 2, .inl x)) = mw cB cI cJ cZ h a v (va_up f 26 x) g := rfl
theorem mw_f27 {cB cI cJ cZ : ClassId} {h : Nat} {a : Nat → Nat} {v : Nat → Int32} {f : Nat → Nat → Int32} {g : Nat → Nat → Int64} (x : Nat → Int32) : (mw cB cI cJ cZ h a v f g).set 15 (a 27, .inl (cI, 8, .inl x)) = mw cB cI cJ cZ h a v (va_up f 27 x) g := rfl
theorem mw_f28 {cB cI cJ cZ : ClassId} {h : Nat} {a : Nat → Nat} {v : Nat → Int32} {f : Nat → Nat → Int32} {g : Nat → Nat → Int64} (x : Nat → Int32) : (mw cB cI cJ cZ h a v f g).set 16 (a 28, .inl (cI, 8, .inl x)) = mw cB cI cJ cZ h a v (va_up f 28 x) g := rfl
theorem mw_v29 {cB cI cJ cZ : ClassId} {h : Nat} {a : Nat → Nat} {v : Nat → Int32} {f : Nat → Nat → Int32} {g : Nat → Nat → Int64} (x : Int32) : (mw cB cI cJ cZ h a v f g).set 0 (h, .inr (11, (moF a v).set 29 (.int x))) = mw cB cI cJ cZ h a (va_up v 29 x) f g := rfl
theorem mw_f30 {cB cI cJ cZ : ClassId} {h : Nat} {a : Nat → Nat} {v : Nat → Int32} {f : Nat → Nat → Int32} {g : Nat → Nat → Int64} (x : Nat → Int32) : (mw cB cI cJ cZ h a v f g).set 17 (a 30, .inl (cZ, 260, .inl x)) = mw cB cI cJ cZ h a v (va_up f 30 x) g := rfl
theorem mw_f31 {cB cI cJ cZ : ClassId} {h : Nat} {a : Nat → Nat} {v : Nat → Int32} {f : Nat → Nat → Int32} {g : Nat → Nat → Int64} (x : Nat → Int32) : (mw cB cI cJ cZ h a v f g).set 18 (a 31, .inl (cI, 260, .inl x)) = mw cB cI cJ cZ h a v (va_up f 31 x) g := rfl
theorem mw_f32 {cB cI cJ cZ : ClassId} {h : Nat} {a : Nat → Nat} {v : Nat → Int32} {f : Nat → Nat → Int32} {g : Nat → Nat → Int64} (x : Nat → Int32) : (mw cB cI cJ cZ h a v f g).set 19 (a 32, .inl (cI, 260, .inl x)) = mw cB cI cJ cZ h a v (va_up f 32 x) g := rfl
theorem mw_f33 {cB cI cJ cZ : ClassId} {h : Nat} {a : Nat → Nat} {v : Nat → Int32} {f : Nat → Nat → Int32} {g : Nat → Nat → Int64} (x : Nat → Int32) : (mw cB cI cJ cZ h a v f g).set 20 (a 33, .inl (cI, 260, .inl x)) = mw cB cI cJ cZ h a v (va_up f 33 x) g := rfl
theorem mw_f34 {cB cI cJ cZ : ClassId} {h : Nat} {a : Nat → Nat} {v : Nat → Int32} {f : Nat → Nat → Int32} {g : Nat → Nat → Int64} (x : Nat → Int32) : (mw cB cI cJ cZ h a v f g).set 21 (a 34, .inl (cI, 260, .inl x)) = mw cB cI cJ cZ h a v (va_up f 34 x) g := rfl
theorem mw_v35 {cB cI cJ cZ : ClassId} {h : Nat} {a : Nat → Nat} {v : Nat → Int32} {f : Nat → Nat → Int32} {g : Nat → Nat → Int64} (x : Int32) : (mw cB cI cJ cZ h a v f g).set 0 (h, .inr (11, (moF a v).set 35 (.int x))) = mw cB cI cJ cZ h a (va_up v 35 x) f g := rfl
theorem mw_f36 {cB cI cJ cZ : ClassId} {h : Nat} {a : Nat → Nat} {v : Nat → Int32} {f : Nat → Nat → Int32} {g : Nat → Nat → Int64} (x : Nat → Int32) : (mw cB cI cJ cZ h a v f g).set 22 (a 36, .inl (cI, 840, .inl x)) = mw cB cI cJ cZ h a v (va_up f 36 x) g := rfl
theorem mw_f37 {cB cI cJ cZ : ClassId} {h : Nat} {a : Nat → Nat} {v : Nat → Int32} {f : Nat → Nat → Int32} {g : Nat → Nat → Int64} (x : Nat → Int32) : (mw cB cI cJ cZ h a v f g).set 23 (a 37, .inl (cI, 840, .inl x)) = mw cB cI cJ cZ h a v (va_up f 37 x) g := rfl
theorem mw_f38 {cB cI cJ cZ : ClassId} {h : Nat} {a : Nat → Nat} {v : Nat → Int32} {f : Nat → Nat → Int32} {g : Nat → Nat → Int64} (x : Nat → Int32) : (mw cB cI cJ cZ h a v f g).set 24 (a 38, .inl (cI, 64, .inl x)) = mw cB cI cJ cZ h a v (va_up f 38 x) g := rfl
theorem mw_v39 {cB cI cJ cZ : ClassId} {h : Nat} {a : Nat → Nat} {v : Nat → Int32} {f : Nat → Nat → Int32} {g : Nat → Nat → Int64} (x : Int32) : (mw cB cI cJ cZ h a v f g).set 0 (h, .inr (11, (moF a v).set 39 (.int x))) = mw cB cI cJ cZ h a (va_up v 39 x) f g := rfl
theorem mw_f40 {cB cI cJ cZ : ClassId} {h : Nat} {a : Nat → Nat} {v : Nat → Int32} {f : Nat → Nat → Int32} {g : Nat → Nat → Int64} (x : Nat → Int32) : (mw cB cI cJ cZ h a v f g).set 25 (a 40, .inl (cI, 9, .inl x)) = mw cB cI cJ cZ h a v (va_up f 40 x) g := rfl
theorem mw_f41 {cB cI cJ cZ : ClassId} {h : Nat} {a : Nat → Nat} {v : Nat → Int32} {f : Nat → Nat → Int32} {g : Nat → Nat → Int64} (x : Nat → Int32) : (mw cB cI cJ cZ h a v f g).set 26 (a 41, .inl (cI, 400, .inl x)) = mw cB cI cJ cZ h a v (va_up f 41 x) g := rfl
theorem mw_v42 {cB cI cJ cZ : ClassId} {h : Nat} {a : Nat → Nat} {v : Nat → Int32} {f : Nat → Nat → Int32} {g : Nat → Nat → Int64} (x : Int32) : (mw cB cI cJ cZ h a v f g).set 0 (h, .inr (11, (moF a v).set 42 (.int x))) = mw cB cI cJ cZ h a (va_up v 42 x) f g := rfl
theorem mw_f43 {cB cI cJ cZ : ClassId} {h : Nat} {a : Nat → Nat} {v : Nat → Int32} {f : Nat → Nat → Int32} {g : Nat → Nat → Int64} (x : Nat → Int32) : (mw cB cI cJ cZ h a v f g).set 27 (a 43, .inl (cI, 29, .inl x)) = mw cB cI cJ cZ h a v (va_up f 43 x) g := rfl
theorem mw_f44 {cB cI cJ cZ : ClassId} {h : Nat} {a : Nat → Nat} {v : Nat → Int32} {f : Nat → Nat → Int32} {g : Nat → Nat → Int64} (x : Nat → Int32) : (mw cB cI cJ cZ h a v f g).set 28 (a 44, .inl (cI, 29, .inl x)) = mw cB cI cJ cZ h a v (va_up f 44 x) g := rfl
theorem mw_v45 {cB cI cJ cZ : ClassId} {h : Nat} {a : Nat → Nat} {v : Nat → Int32} {f : Nat → Nat → Int32} {g : Nat → Nat → Int64} (x : Int32) : (mw cB cI cJ cZ h a v f g).set 0 (h, .inr (11, (moF a v).set 45 (.int x))) = mw cB cI cJ cZ h a (va_up v 45 x) f g := rfl
theorem mw_f46 {cB cI cJ cZ : ClassId} {h : Nat} {a : Nat → Nat} {v : Nat → Int32} {f : Nat → Nat → Int32} {g : Nat → Nat → Int64} (x : Nat → Int32) : (mw cB cI cJ cZ h a v f g).set 29 (a 46, .inl (cI, 6, .inl x)) = mw cB cI cJ cZ h a v (va_up f 46 x) g := rfl
theorem mw_f47 {cB cI cJ cZ : ClassId} {h : Nat} {a : Nat → Nat} {v : Nat → Int32} {f : Nat → Nat → Int32} {g : Nat → Nat → Int64} (x : Nat → Int32) : (mw cB cI cJ cZ h a v f g).set 30 (a 47, .inl (cZ, 5, .inl x)) = mw cB cI cJ cZ h a v (va_up f 47 x) g := rfl
theorem mw_v48 {cB cI cJ cZ : ClassId} {h : Nat} {a : Nat → Nat} {v : Nat → Int32} {f : Nat → Nat → Int32} {g : Nat → Nat → Int64} (x : Int32) : (mw cB cI cJ cZ h a v f g).set 0 (h, .inr (11, (moF a v).set 48 (.int x))) = mw cB cI cJ cZ h a (va_up v 48 x) f g := rfl
theorem mw_f49 {cB cI cJ cZ : ClassId} {h : Nat} {a : Nat → Nat} {v : Nat → Int32} {f : Nat → Nat → Int32} {g : Nat → Nat → Int64} (x : Nat → Int32) : (mw cB cI cJ cZ h a v f g).set 31 (a 49, .inl (cI, 1160, .inl x)) = mw cB cI cJ cZ h a v (va_up f 49 x) g := rfl
theorem mw_f50 {cB cI cJ cZ : ClassId} {h : Nat} {a : Nat → Nat} {v : Nat → Int32} {f : Nat → Nat → Int32} {g : Nat → Nat → Int64} (x : Nat → Int32) : (mw cB cI cJ cZ h a v f g).set 32 (a 50, .inl (cI, 7776, .inl x)) = mw cB cI cJ cZ h a v (va_up f 50 x) g := rfl
theorem mw_v51 {cB cI cJ cZ : ClassId} {h : Nat} {a : Nat → Nat} {v : Nat → Int32} {f : Nat → Nat → Int32} {g : Nat → Nat → Int64} (x : Int32) : (mw cB cI cJ cZ h a v f g).set 0 (h, .inr (11, (moF a v).set 51 (.int x))) = mw cB cI cJ cZ h a (va_up v 51 x) f g := rfl
theorem mw_f52 {cB cI cJ cZ : ClassId} {h : Nat} {a : Nat → Nat} {v : Nat → Int32} {f : Nat → Nat → Int32} {g : Nat → Nat → Int64} (x : Nat → Int32) : (mw cB cI cJ cZ h a v f g).set 33 (a 52, .inl (cI, 20, .inl x)) = mw cB cI cJ cZ h a v (va_up f 52 x) g := rfl
theorem mw_f53 {cB cI cJ cZ : ClassId} {h : Nat} {a : Nat → Nat} {v : Nat → Int32} {f : Nat → Nat → Int32} {g : Nat → Nat → Int64} (x : Nat → Int32) : (mw cB cI cJ cZ h a v f g).set 34 (a 53, .inl (cI, 20, .inl x)) = mw cB cI cJ cZ h a v (va_up f 53 x) g := rfl
theorem mw_f54 {cB cI cJ cZ : ClassId} {h : Nat} {a : Nat → Nat} {v : Nat → Int32} {f : Nat → Nat → Int32} {g : Nat → Nat → Int64} (x : Nat → Int32) : (mw cB cI cJ cZ h a v f g).set 35 (a 54, .inl (cZ, 20, .inl x)) = mw cB cI cJ cZ h a v (va_up f 54 x) g := rfl
theorem mw_f55 {cB cI cJ cZ : ClassId} {h : Nat} {a : Nat → Nat} {v : Nat → Int32} {f : Nat → Nat → Int32} {g : Nat → Nat → Int64} (x : Nat → Int32) : (mw cB cI cJ cZ h a v f g).set 36 (a 55, .inl (cI, 30, .inl x)) = mw cB cI cJ cZ h a v (va_up f 55 x) g := rfl
theorem mw_f56 {cB cI cJ cZ : ClassId} {h : Nat} {a : Nat → Nat} {v : Nat → Int32} {f : Nat → Nat → Int32} {g : Nat → Nat → Int64} (x : Nat → Int32) : (mw cB cI cJ cZ h a v f g).set 37 (a 56, .inl (cZ, 3, .inl x)) = mw cB cI cJ cZ h a v (va_up f 56 x) g := rfl
theorem mw_f57 {cB cI cJ cZ : ClassId} {h : Nat} {a : Nat → Nat} {v : Nat → Int32} {f : Nat → Nat → Int32} {g : Nat → Nat → Int64} (x : Nat → Int32) : (mw cB cI cJ cZ h a v f g).set 38 (a 57, .inl (cI, 87, .inl x)) = mw cB cI cJ cZ h a v (va_up f 57 x) g := rfl
end
section
/-! ===== decode by a byte, with no way through the whole list of opcodes ===== -/
def dby (c : ByteArray) (p : Nat) : Nat := match c.data.toList[p]? with
  | some b => b.toNat
  | none => 256
theorem dby_u1 {c : ByteArray} {p b : Nat} (h : dby c p = b) (hb : ¬ b = 256) : (Jvm.ClassFile.Reader.u1 : Jvm.ClassFile.Decoder Nat) c p = .ok (b, p + 1) := by
  unfold dby at h
  by_cases hp : p < c.size
  · have e : c.data.toList[p]? = some c[p] := by
      have q : p < c.data.toList.length := by
        have z : c.data.toList.length = c.size := rfl
        rw [z]
        exact hp
      rw [List.getElem?_eq_getElem q]
      rfl
    rw [e] at h
    have h2 : (c[p]).toNat = b := h
    have u : (Jvm.ClassFile.Reader.u1 : Jvm.ClassFile.Decoder Nat) c p = (if g : p < c.size then .ok ((c[p]).toNat, p + 1) else .error (Jvm.ClassFile.HasTruncated.truncated p)) := by
      unfold Jvm.ClassFile.Reader.u1
      show (if g : p < c.size then (do set (p + 1); pure (c[p]).toNat : Jvm.ClassFile.Decoder Nat) else throw (Jvm.ClassFile.HasTruncated.truncated p)) c p = _
      rw [dif_pos hp, dif_pos hp]
      rfl
    rw [u, dif_pos hp, h2]
  · have e : c.data.toList[p]? = none := by
      have z : c.data.toList.length = c.size := rfl
      exact List.getElem?_eq_none (by omega)
    rw [e] at h
    have h2 : 256 = b := h
    exact absurd h2.symm hb
/-- decode, step by step -/
theorem dc_step {c : ByteArray} {pc op : Nat} {K : Nat → Jvm.ClassFile.Decoder Instr} {i : Instr} {q : Nat} (hi : Jvm.ClassFile.Decoder.instr pc = (Jvm.ClassFile.Reader.u1 >>= K)) (h : dby c pc = op) (ho : ¬ op = 256) (hk : K op c (pc + 1) = .ok (i, q)) : decode c pc = .ok (i, q - pc) := by
  have e : (Jvm.ClassFile.Decoder.instr pc) c pc = .ok (i, q) := by
    rw [hi]
    show Except.bind ((Jvm.ClassFile.Reader.u1 : Jvm.ClassFile.Decoder Nat) c pc) (fun x => K x.1 c x.2) = _
    rw [dby_u1 h ho]
    exact hk
  unfold decode
  show Except.bind ((Jvm.ClassFile.Decoder.instr pc) c pc) (fun x => Except.ok (x.1, x.2 - pc)) = _
  rw [e]
  rfl
theorem dc_len1 {pc : Nat} : pc + 1 - pc = 1 := by omega
theorem dc_len2 {pc : Nat} : pc + 1 + 1 - pc = 2 := by omega
theorem dc_len3 {pc : Nat} : pc + 1 + 1 + 1 - pc = 3 := by omega
theorem dc_1 {c : ByteArray} {pc op : Nat} {K : Nat → Jvm.ClassFile.Decoder Instr} {i : Instr} (hi : Jvm.ClassFile.Decoder.instr pc = (Jvm.ClassFile.Reader.u1 >>= K)) (h : Nat.beq (dby c pc) op = true) (ho : ¬ op = 256) (hk : K op = Pure.pure i) : decode c pc = .ok (i, 1) := by
  have e := dc_step hi (Nat.eq_of_beq_eq_true h) ho (by rw [hk]; rfl : K op c (pc + 1) = .ok (i, pc + 1))
  rw [dc_len1] at e
  exact e
/-- one byte behind it -/
def dk2 (c : ByteArray) (pc op n : Nat) : Bool := Nat.beq (dby c pc) op && (Nat.beq (dby c (pc + 1)) n && Nat.blt n 256)
theorem dk2_i {c : ByteArray} {pc op n : Nat} (h : dk2 c pc op n = true) : dby c pc = op ∧ dby c (pc + 1) = n ∧ ¬ n = 256 := by
  unfold dk2 at h
  rw [Bool.and_eq_true, Bool.and_eq_true] at h
  refine ⟨Nat.eq_of_beq_eq_true h.1, Nat.eq_of_beq_eq_true h.2.1, ?_⟩
  have l : n < 256 := Nat.blt_eq.mp h.2.2
  omega
theorem dc_2 {c : ByteArray} {pc op n : Nat} {K : Nat → Jvm.ClassFile.Decoder Instr} {F : Nat → Jvm.ClassFile.Decoder Instr} {i : Instr} (hi : Jvm.ClassFile.Decoder.instr pc = (Jvm.ClassFile.Reader.u1 >>= K)) (h : dk2 c pc op n = true) (ho : ¬ op = 256) (hk : K op = (Jvm.ClassFile.Reader.u1 >>= F)) (hf : F n = Pure.pure i) : decode c pc = .ok (i, 2) := by
  obtain ⟨a, b, d⟩ := dk2_i h
  have e := dc_step hi a ho (q := pc + 1 + 1) (i := i) (by
    rw [hk]
    show Except.bind ((Jvm.ClassFile.Reader.u1 : Jvm.ClassFile.Decoder Nat) c (pc + 1)) (fun x => F x.1 c x.2) = _
    rw [dby_u1 b d]
    show F n c (pc + 1 + 1) = _
    rw [hf]
    rfl)
  rw [dc_len2] at e
  exact e
/-- two bytes behind it, as a number -/
def dk3 (c : ByteArray) (pc op n : Nat) : Bool := Nat.beq (dby c pc) op && (Nat.beq (dby c (pc + 1) * 256 + dby c (pc + 2)) n && (Nat.blt (dby c (pc + 1)) 256 && Nat.blt (dby c (pc + 2)) 256))
theorem dk3_i {c : ByteArray} {pc op n : Nat} (h : dk3 c pc op n = true) : dby c pc = op ∧ (Jvm.ClassFile.Reader.u2 : Jvm.ClassFile.Decoder Nat) c (pc + 1) = .ok (n, pc + 1 + 1 + 1) := by
  unfold dk3 at h
  rw [Bool.and_eq_true, Bool.and_eq_true, Bool.and_eq_true] at h
  refine ⟨Nat.eq_of_beq_eq_true h.1, ?_⟩
  have e := Nat.eq_of_beq_eq_true h.2.1
  have l1 : dby c (pc + 1) < 256 := Nat.blt_eq.mp h.2.2.1
  have l2 : dby c (pc + 1 + 1) < 256 := Nat.blt_eq.mp h.2.2.2
  have e2 : dby c (pc + 1) * 256 + dby c (pc + 1 + 1) = n := e
  unfold Jvm.ClassFile.Reader.u2
  show Except.bind ((Jvm.ClassFile.Reader.u1 : Jvm.ClassFile.Decoder Nat) c (pc + 1)) (fun x => Except.bind ((Jvm.ClassFile.Reader.u1 : Jvm.ClassFile.Decoder Nat) c x.2) (fun y => Except.ok (x.1 * 256 + y.1, y.2))) = _
  rw [dby_u1 (rfl : dby c (pc + 1) = _) (by omega)]
  show Except.bind ((Jvm.ClassFile.Reader.u1 : Jvm.ClassFile.Decoder Nat) c (pc + 1 + 1)) (fun y => Except.ok (dby c (pc + 1) * 256 + y.1, y.2)) = _
  rw [dby_u1 (rfl : dby c (pc + 1 + 1) = _) (by omega)]
  show Except.ok (dby c (pc + 1) * 256 + dby c (pc + 1 + 1), pc + 1 + 1 + 1) = _
  rw [e2]
theorem dc_3 {c : ByteArray} {pc op n : Nat} {K : Nat → Jvm.ClassFile.Decoder Instr} {F : Nat → Jvm.ClassFile.Decoder Instr} {i : Instr} (hi : Jvm.ClassFile.Decoder.instr pc = (Jvm.ClassFile.Reader.u1 >>= K)) (h : dk3 c pc op n = true) (ho : ¬ op = 256) (hk : K op = (Jvm.ClassFile.Reader.u2 >>= F)) (hf : F n = Pure.pure i) : decode c pc = .ok (i, 3) := by
  obtain ⟨a, b⟩ := dk3_i h
  have e := dc_step hi a ho (q := pc + 1 + 1 + 1) (i := i) (by
    rw [hk]
    show Except.bind ((Jvm.ClassFile.Reader.u2 : Jvm.ClassFile.Decoder Nat) c (pc + 1)) (fun x => F x.1 c x.2) = _
    rw [b]
    show F n c (pc + 1 + 1 + 1) = _
    rw [hf]
    rfl)
  rw [dc_len3] at e
  exact e
/-- two bytes behind it, as a number with its sign -/
def sg2 (n : Nat) : Int := if n < 32768 then (n : Int) else (n : Int) - 65536
theorem sg2_eq (n : Nat) : Jvm.ClassFile.Reader.signed 16 n = sg2 n := rfl
def sg1 (n : Nat) : Int := if n < 128 then (n : Int) else (n : Int) - 256
theorem sg1_eq (n : Nat) : Jvm.ClassFile.Reader.signed 8 n = sg1 n := rfl
theorem dc_s2 {c : ByteArray} {pc op n : Nat} {K : Nat → Jvm.ClassFile.Decoder Instr} {F : Int → Instr} (hi : Jvm.ClassFile.Decoder.instr pc = (Jvm.ClassFile.Reader.u1 >>= K)) (h : dk3 c pc op n = true) (ho : ¬ op = 256) (hk : K op = (Jvm.ClassFile.Reader.s2 >>= fun k => Pure.pure (F k))) : decode c pc = .ok (F (sg2 n), 3) := by
  obtain ⟨a, b⟩ := dk3_i h
  have e := dc_step hi a ho (q := pc + 1 + 1 + 1) (i := F (sg2 n)) (by
    rw [hk]
    show Except.bind (Except.bind ((Jvm.ClassFile.Reader.u2 : Jvm.ClassFile.Decoder Nat) c (pc + 1)) (fun x => Except.ok (Jvm.ClassFile.Reader.signed 16 x.1, x.2))) (fun x => Except.ok (F x.1, x.2)) = _
    rw [b]
    rfl)
  rw [dc_len3] at e
  exact e
theorem dc_s1 {c : ByteArray} {pc op n : Nat} {K : Nat → Jvm.ClassFile.Decoder Instr} {F : Int → Instr} (hi : Jvm.ClassFile.Decoder.instr pc = (Jvm.ClassFile.Reader.u1 >>= K)) (h : dk2 c pc op n = true) (ho : ¬ op = 256) (hk : K op = (Jvm.ClassFile.Reader.s1 >>= fun k => Pure.pure (F k))) : decode c pc = .ok (F (sg1 n), 2) := by
  obtain ⟨a, b, d⟩ := dk2_i h
  have e := dc_step hi a ho (q := pc + 1 + 1) (i := F (sg1 n)) (by
    rw [hk]
    show Except.bind (Except.bind ((Jvm.ClassFile.Reader.u1 : Jvm.ClassFile.Decoder Nat) c (pc + 1)) (fun x => Except.ok (Jvm.ClassFile.Reader.signed 8 x.1, x.2))) (fun x => Except.ok (F x.1, x.2)) = _
    rw [dby_u1 b d]
    rfl)
  rw [dc_len2] at e
  exact e
/-- iinc: a byte, and one with its sign -/
def dki (c : ByteArray) (pc n m : Nat) : Bool := Nat.beq (dby c pc) 132 && ((Nat.beq (dby c (pc + 1)) n && Nat.blt n 256) && (Nat.beq (dby c (pc + 2)) m && Nat.blt m 256))
theorem dc_iinc {c : ByteArray} {pc n m : Nat} (h : dki c pc n m = true) : decode c pc = .ok (.iinc n (sg1 m), 3) := by
  unfold dki at h
  rw [Bool.and_eq_true, Bool.and_eq_true, Bool.and_eq_true, Bool.and_eq_true] at h
  have l1 : n < 256 := Nat.blt_eq.mp h.2.1.2
  have l2 : m < 256 := Nat.blt_eq.mp h.2.2.2
  have e1 := Nat.eq_of_beq_eq_true h.2.1.1
  have e2 : dby c (pc + 1 + 1) = m := Nat.eq_of_beq_eq_true h.2.2.1
  have e := dc_step (K := _) rfl (Nat.eq_of_beq_eq_true h.1) (by decide) (q := pc + 1 + 1 + 1) (i := .iinc n (sg1 m)) (by
    show Except.bind ((Jvm.ClassFile.Reader.u1 : Jvm.ClassFile.Decoder Nat) c (pc + 1)) (fun x => Except.bind (Except.bind ((Jvm.ClassFile.Reader.u1 : Jvm.ClassFile.Decoder Nat) c x.2) (fun y => Except.ok (Jvm.ClassFile.Reader.signed 8 y.1, y.2))) (fun y => Except.ok (Instr.iinc x.1 y.1, y.2))) = _
    rw [dby_u1 e1 (by omega)]
    show Except.bind (Except.bind ((Jvm.ClassFile.Reader.u1 : Jvm.ClassFile.Decoder Nat) c (pc + 1 + 1)) (fun y => Except.ok (Jvm.ClassFile.Reader.signed 8 y.1, y.2))) (fun y => Except.ok (Instr.iinc n y.1, y.2)) = _
    rw [dby_u1 e2 (by omega)]
    rfl)
  rw [dc_len3] at e
  exact e
theorem dc1_1 {c : ByteArray} {pc : Nat} (h : Nat.beq (dby c pc) 1 = true) : decode c pc = .ok (.aconst_null, 1) := dc_1 (K := _) rfl h (by decide) rfl
theorem dc1_46 {c : ByteArray} {pc : Nat} (h : Nat.beq (dby c pc) 46 = true) : decode c pc = .ok (.iaload, 1) := dc_1 (K := _) rfl h (by decide) rfl
theorem dc1_47 {c : ByteArray} {pc : Nat} (h : Nat.beq (dby c pc) 47 = true) : decode c pc = .ok (.laload, 1) := dc_1 (K := _) rfl h (by decide) rfl
theorem dc1_50 {c : ByteArray} {pc : Nat} (h : Nat.beq (dby c pc) 50 = true) : decode c pc = .ok (.aaload, 1) := dc_1 (K := _) rfl h (by decide) rfl
theorem dc1_51 {c : ByteArray} {pc : Nat} (h : Nat.beq (dby c pc) 51 = true) : decode c pc = .ok (.baload, 1) := dc_1 (K := _) rfl h (by decide) rfl
theorem dc1_79 {c : ByteArray} {pc : Nat} (h : Nat.beq (dby c pc) 79 = true) : decode c pc = .ok (.iastore, 1) := dc_1 (K := _) rfl h (by decide) rfl
theorem dc1_80 {c : ByteArray} {pc : Nat} (h : Nat.beq (dby c pc) 80 = true) : decode c pc = .ok (.lastore, 1) := dc_1 (K := _) rfl h (by decide) rfl
theorem dc1_83 {c : ByteArray} {pc : Nat} (h : Nat.beq (dby c pc) 83 = true) : decode c pc = .ok (.aastore, 1) := dc_1 (K := _) rfl h (by decide) rfl
theorem dc1_84 {c : ByteArray} {pc : Nat} (h : Nat.beq (dby c pc) 84 = true) : decode c pc = .ok (.bastore, 1) := dc_1 (K := _) rfl h (by decide) rfl
theorem dc1_87 {c : ByteArray} {pc : Nat} (h : Nat.beq (dby c pc) 87 = true) : decode c pc = .ok (.pop, 1) := dc_1 (K := _) rfl h (by decide) rfl
theorem dc1_89 {c : ByteArray} {pc : Nat} (h : Nat.beq (dby c pc) 89 = true) : decode c pc = .ok (.dup, 1) := dc_1 (K := _) rfl h (by decide) rfl
theorem dc1_92 {c : ByteArray} {pc : Nat} (h : Nat.beq (dby c pc) 92 = true) : decode c pc = .ok (.dup2, 1) := dc_1 (K := _) rfl h (by decide) rfl
theorem dc1_96 {c : ByteArray} {pc : Nat} (h : Nat.beq (dby c pc) 96 = true) : decode c pc = .ok (.iadd, 1) := dc_1 (K := _) rfl h (by decide) rfl
theorem dc1_97 {c : ByteArray} {pc : Nat} (h : Nat.beq (dby c pc) 97 = true) : decode c pc = .ok (.ladd, 1) := dc_1 (K := _) rfl h (by decide) rfl
theorem dc1_100 {c : ByteArray} {pc : Nat} (h : Nat.beq (dby c pc) 100 = true) : decode c pc = .ok (.isub, 1) := dc_1 (K := _) rfl h (by decide) rfl
theorem dc1_101 {c : ByteArray} {pc : Nat} (h : Nat.beq (dby c pc) 101 = true) : decode c pc = .ok (.lsub, 1) := dc_1 (K := _) rfl h (by decide) rfl
theorem dc1_104 {c : ByteArray} {pc : Nat} (h : Nat.beq (dby c pc) 104 = true) : decode c pc = .ok (.imul, 1) := dc_1 (K := _) rfl h (by decide) rfl
theorem dc1_105 {c : ByteArray} {pc : Nat} (h : Nat.beq (dby c pc) 105 = true) : decode c pc = .ok (.lmul, 1) := dc_1 (K := _) rfl h (by decide) rfl
theorem dc1_108 {c : ByteArray} {pc : Nat} (h : Nat.beq (dby c pc) 108 = true) : decode c pc = .ok (.idiv, 1) := dc_1 (K := _) rfl h (by decide) rfl
theorem dc1_112 {c : ByteArray} {pc : Nat} (h : Nat.beq (dby c pc) 112 = true) : decode c pc = .ok (.irem, 1) := dc_1 (K := _) rfl h (by decide) rfl
theorem dc1_116 {c : ByteArray} {pc : Nat} (h : Nat.beq (dby c pc) 116 = true) : decode c pc = .ok (.ineg, 1) := dc_1 (K := _) rfl h (by decide) rfl
theorem dc1_120 {c : ByteArray} {pc : Nat} (h : Nat.beq (dby c pc) 120 = true) : decode c pc = .ok (.ishl, 1) := dc_1 (K := _) rfl h (by decide) rfl
theorem dc1_121 {c : ByteArray} {pc : Nat} (h : Nat.beq (dby c pc) 121 = true) : decode c pc = .ok (.lshl, 1) := dc_1 (K := _) rfl h (by decide) rfl
theorem dc1_122 {c : ByteArray} {pc : Nat} (h : Nat.beq (dby c pc) 122 = true) : decode c pc = .ok (.ishr, 1) := dc_1 (K := _) rfl h (by decide) rfl
theorem dc1_124 {c : ByteArray} {pc : Nat} (h : Nat.beq (dby c pc) 124 = true) : decode c pc = .ok (.iushr, 1) := dc_1 (K := _) rfl h (by decide) rfl
theorem dc1_126 {c : ByteArray} {pc : Nat} (h : Nat.beq (dby c pc) 126 = true) : decode c pc = .ok (.iand, 1) := dc_1 (K := _) rfl h (by decide) rfl
theorem dc1_128 {c : ByteArray} {pc : Nat} (h : Nat.beq (dby c pc) 128 = true) : decode c pc = .ok (.ior, 1) := dc_1 (K := _) rfl h (by decide) rfl
theorem dc1_129 {c : ByteArray} {pc : Nat} (h : Nat.beq (dby c pc) 129 = true) : decode c pc = .ok (.lor, 1) := dc_1 (K := _) rfl h (by decide) rfl
theorem dc1_130 {c : ByteArray} {pc : Nat} (h : Nat.beq (dby c pc) 130 = true) : decode c pc = .ok (.ixor, 1) := dc_1 (K := _) rfl h (by decide) rfl
theorem dc1_133 {c : ByteArray} {pc : Nat} (h : Nat.beq (dby c pc) 133 = true) : decode c pc = .ok (.i2l, 1) := dc_1 (K := _) rfl h (by decide) rfl
theorem dc1_136 {c : ByteArray} {pc : Nat} (h : Nat.beq (dby c pc) 136 = true) : decode c pc = .ok (.l2i, 1) := dc_1 (K := _) rfl h (by decide) rfl
theorem dc1_145 {c : ByteArray} {pc : Nat} (h : Nat.beq (dby c pc) 145 = true) : decode c pc = .ok (.i2b, 1) := dc_1 (K := _) rfl h (by decide) rfl
theorem dc1_146 {c : ByteArray} {pc : Nat} (h : Nat.beq (dby c pc) 146 = true) : decode c pc = .ok (.i2c, 1) := dc_1 (K := _) rfl h (by decide) rfl
theorem dc1_148 {c : ByteArray} {pc : Nat} (h : Nat.beq (dby c pc) 148 = true) : decode c pc = .ok (.lcmp, 1) := dc_1 (K := _) rfl h (by decide) rfl
theorem dc1_172 {c : ByteArray} {pc : Nat} (h : Nat.beq (dby c pc) 172 = true) : decode c pc = .ok (.ireturn, 1) := dc_1 (K := _) rfl h (by decide) rfl
theorem dc1_173 {c : ByteArray} {pc : Nat} (h : Nat.beq (dby c pc) 173 = true) : decode c pc = .ok (.lreturn, 1) := dc_1 (K := _) rfl h (by decide) rfl
theorem dc1_176 {c : ByteArray} {pc : Nat} (h : Nat.beq (dby c pc) 176 = true) : decode c pc = .ok (.areturn, 1) := dc_1 (K := _) rfl h (by decide) rfl
theorem dc1_177 {c : ByteArray} {pc : Nat} (h : Nat.beq (dby c pc) 177 = true) : decode c pc = .ok (.return_, 1) := dc_1 (K := _) rfl h (by decide) rfl
theorem dc1_190 {c : ByteArray} {pc : Nat} (h : Nat.beq (dby c pc) 190 = true) : decode c pc = .ok (.arraylength, 1) := dc_1 (K := _) rfl h (by decide) rfl
theorem dc1_26 {c : ByteArray} {pc : Nat} (h : Nat.beq (dby c pc) 26 = true) : decode c pc = .ok (.iload_n 0, 1) := dc_1 (K := _) rfl h (by decide) rfl
theorem dc1_30 {c : ByteArray} {pc : Nat} (h : Nat.beq (dby c pc) 30 = true) : decode c pc = .ok (.lload_n 0, 1) := dc_1 (K := _) rfl h (by decide) rfl
theorem dc1_42 {c : ByteArray} {pc : Nat} (h : Nat.beq (dby c pc) 42 = true) : decode c pc = .ok (.aload_n 0, 1) := dc_1 (K := _) rfl h (by decide) rfl
theorem dc1_59 {c : ByteArray} {pc : Nat} (h : Nat.beq (dby c pc) 59 = true) : decode c pc = .ok (.istore_n 0, 1) := dc_1 (K := _) rfl h (by decide) rfl
theorem dc1_63 {c : ByteArray} {pc : Nat} (h : Nat.beq (dby c pc) 63 = true) : decode c pc = .ok (.lstore_n 0, 1) := dc_1 (K := _) rfl h (by decide) rfl
theorem dc1_75 {c : ByteArray} {pc : Nat} (h : Nat.beq (dby c pc) 75 = true) : decode c pc = .ok (.astore_n 0, 1) := dc_1 (K := _) rfl h (by decide) rfl
theorem dc1_27 {c : ByteArray} {pc : Nat} (h : Nat.beq (dby c pc) 27 = true) : decode c pc = .ok (.iload_n 1, 1) := dc_1 (K := _) rfl h (by decide) rfl
theorem dc1_31 {c : ByteArray} {pc : Nat} (h : Nat.beq (dby c pc) 31 = true) : decode c pc = .ok (.lload_n 1, 1) := dc_1 (K := _) rfl h (by decide) rfl
theorem dc1_43 {c : ByteArray} {pc : Nat} (h : Nat.beq (dby c pc) 43 = true) : decode c pc = .ok (.aload_n 1, 1) := dc_1 (K := _) rfl h (by decide) rfl
theorem dc1_60 {c : ByteArray} {pc : Nat} (h : Nat.beq (dby c pc) 60 = true) : decode c pc = .ok (.istore_n 1, 1) := dc_1 (K := _) rfl h (by decide) rfl
theorem dc1_64 {c : ByteArray} {pc : Nat} (h : Nat.beq (dby c pc) 64 = true) : decode c pc = .ok (.lstore_n 1, 1) := dc_1 (K := _) rfl h (by decide) rfl
theorem dc1_76 {c : ByteArray} {pc : Nat} (h : Nat.beq (dby c pc) 76 = true) : decode c pc = .ok (.astore_n 1, 1) := dc_1 (K := _) rfl h (by decide) rfl
theorem dc1_28 {c : ByteArray} {pc : Nat} (h : Nat.beq (dby c pc) 28 = true) : decode c pc = .ok (.iload_n 2, 1) := dc_1 (K := _) rfl h (by decide) rfl
theorem dc1_32 {c : ByteArray} {pc : Nat} (h : Nat.beq (dby c pc) 32 = true) : decode c pc = .ok (.lload_n 2, 1) := dc_1 (K := _) rfl h (by decide) rfl
theorem dc1_44 {c : ByteArray} {pc : Nat} (h : Nat.beq (dby c pc) 44 = true) : decode c pc = .ok (.aload_n 2, 1) := dc_1 (K := _) rfl h (by decide) rfl
theorem dc1_61 {c : ByteArray} {pc : Nat} (h : Nat.beq (dby c pc) 61 = true) : decode c pc = .ok (.istore_n 2, 1) := dc_1 (K := _) rfl h (by decide) rfl
theorem dc1_65 {c : ByteArray} {pc : Nat} (h : Nat.beq (dby c pc) 65 = true) : decode c pc = .ok (.lstore_n 2, 1) := dc_1 (K := _) rfl h (by decide) rfl
theorem dc1_77 {c : ByteArray} {pc : Nat} (h : Nat.beq (dby c pc) 77 = true) : decode c pc = .ok (.astore_n 2, 1) := dc_1 (K := _) rfl h (by decide) rfl
theorem dc1_29 {c : ByteArray} {pc : Nat} (h : Nat.beq (dby c pc) 29 = true) : decode c pc = .ok (.iload_n 3, 1) := dc_1 (K := _) rfl h (by decide) rfl
theorem dc1_33 {c : ByteArray} {pc : Nat} (h : Nat.beq (dby c pc) 33 = true) : decode c pc = .ok (.lload_n 3, 1) := dc_1 (K := _) rfl h (by decide) rfl
theorem dc1_45 {c : ByteArray} {pc : Nat} (h : Nat.beq (dby c pc) 45 = true) : decode c pc = .ok (.aload_n 3, 1) := dc_1 (K := _) rfl h (by decide) rfl
theorem dc1_62 {c : ByteArray} {pc : Nat} (h : Nat.beq (dby c pc) 62 = true) : decode c pc = .ok (.istore_n 3, 1) := dc_1 (K := _) rfl h (by decide) rfl
theorem dc1_66 {c : ByteArray} {pc : Nat} (h : Nat.beq (dby c pc) 66 = true) : decode c pc = .ok (.lstore_n 3, 1) := dc_1 (K := _) rfl h (by decide) rfl
theorem dc1_78 {c : ByteArray} {pc : Nat} (h : Nat.beq (dby c pc) 78 = true) : decode c pc = .ok (.astore_n 3, 1) := dc_1 (K := _) rfl h (by decide) rfl
theorem dc1_2 {c : ByteArray} {pc : Nat} (h : Nat.beq (dby c pc) 2 = true) : decode c pc = .ok (.iconst (-1), 1) := dc_1 (K := _) rfl h (by decide) rfl
theorem dc1_3 {c : ByteArray} {pc : Nat} (h : Nat.beq (dby c pc) 3 = true) : decode c pc = .ok (.iconst 0, 1) := dc_1 (K := _) rfl h (by decide) rfl
theorem dc1_4 {c : ByteArray} {pc : Nat} (h : Nat.beq (dby c pc) 4 = true) : decode c pc = .ok (.iconst 1, 1) := dc_1 (K := _) rfl h (by decide) rfl
theorem dc1_5 {c : ByteArray} {pc : Nat} (h : Nat.beq (dby c pc) 5 = true) : decode c pc = .ok (.iconst 2, 1) := dc_1 (K := _) rfl h (by decide) rfl
theorem dc1_6 {c : ByteArray} {pc : Nat} (h : Nat.beq (dby c pc) 6 = true) : decode c pc = .ok (.iconst 3, 1) := dc_1 (K := _) rfl h (by decide) rfl
theorem dc1_7 {c : ByteArray} {pc : Nat} (h : Nat.beq (dby c pc) 7 = true) : decode c pc = .ok (.iconst 4, 1) := dc_1 (K := _) rfl h (by decide) rfl
theorem dc1_8 {c : ByteArray} {pc : Nat} (h : Nat.beq (dby c pc) 8 = true) : decode c pc = .ok (.iconst 5, 1) := dc_1 (K := _) rfl h (by decide) rfl
theorem dc1_9 {c : ByteArray} {pc : Nat} (h : Nat.beq (dby c pc) 9 = true) : decode c pc = .ok (.lconst 0, 1) := dc_1 (K := _) rfl h (by decide) rfl
theorem dc1_10 {c : ByteArray} {pc : Nat} (h : Nat.beq (dby c pc) 10 = true) : decode c pc = .ok (.lconst 1, 1) := dc_1 (K := _) rfl h (by decide) rfl
theorem dcu_18 {c : ByteArray} {pc : Nat} {n : Nat} (h : dk2 c pc 18 n = true) : decode c pc = .ok (.ldc n, 2) := dc_2 (K := _) rfl h (by decide) (F := fun n => Pure.pure (.ldc n)) rfl rfl
theorem dcu_21 {c : ByteArray} {pc : Nat} {n : Nat} (h : dk2 c pc 21 n = true) : decode c pc = .ok (.iload n, 2) := dc_2 (K := _) rfl h (by decide) (F := fun n => Pure.pure (.iload n)) rfl rfl
theorem dcu_22 {c : ByteArray} {pc : Nat} {n : Nat} (h : dk2 c pc 22 n = true) : decode c pc = .ok (.lload n, 2) := dc_2 (K := _) rfl h (by decide) (F := fun n => Pure.pure (.lload n)) rfl rfl
theorem dcu_25 {c : ByteArray} {pc : Nat} {n : Nat} (h : dk2 c pc 25 n = true) : decode c pc = .ok (.aload n, 2) := dc_2 (K := _) rfl h (by decide) (F := fun n => Pure.pure (.aload n)) rfl rfl
theorem dcu_54 {c : ByteArray} {pc : Nat} {n : Nat} (h : dk2 c pc 54 n = true) : decode c pc = .ok (.istore n, 2) := dc_2 (K := _) rfl h (by decide) (F := fun n => Pure.pure (.istore n)) rfl rfl
theorem dcu_55 {c : ByteArray} {pc : Nat} {n : Nat} (h : dk2 c pc 55 n = true) : decode c pc = .ok (.lstore n, 2) := dc_2 (K := _) rfl h (by decide) (F := fun n => Pure.pure (.lstore n)) rfl rfl
theorem dcu_58 {c : ByteArray} {pc : Nat} {n : Nat} (h : dk2 c pc 58 n = true) : decode c pc = .ok (.astore n, 2) := dc_2 (K := _) rfl h (by decide) (F := fun n => Pure.pure (.astore n)) rfl rfl
theorem dcb_16 {c : ByteArray} {pc : Nat} {n : Nat} (h : dk2 c pc 16 n = true) : decode c pc = .ok (.bipush (sg1 n), 2) := dc_s1 (K := _) rfl h (by decide) (F := fun n => .bipush n) rfl
theorem dcw_19 {c : ByteArray} {pc : Nat} {n : Nat} (h : dk3 c pc 19 n = true) : decode c pc = .ok (.ldc_w n, 3) := dc_3 (K := _) rfl h (by decide) (F := fun n => Pure.pure (.ldc_w n)) rfl rfl
theorem dcw_20 {c : ByteArray} {pc : Nat} {n : Nat} (h : dk3 c pc 20 n = true) : decode c pc = .ok (.ldc2_w n, 3) := dc_3 (K := _) rfl h (by decide) (F := fun n => Pure.pure (.ldc2_w n)) rfl rfl
theorem dcw_178 {c : ByteArray} {pc : Nat} {n : Nat} (h : dk3 c pc 178 n = true) : decode c pc = .ok (.getstatic n, 3) := dc_3 (K := _) rfl h (by decide) (F := fun n => Pure.pure (.getstatic n)) rfl rfl
theorem dcw_180 {c : ByteArray} {pc : Nat} {n : Nat} (h : dk3 c pc 180 n = true) : decode c pc = .ok (.getfield n, 3) := dc_3 (K := _) rfl h (by decide) (F := fun n => Pure.pure (.getfield n)) rfl rfl
theorem dcw_181 {c : ByteArray} {pc : Nat} {n : Nat} (h : dk3 c pc 181 n = true) : decode c pc = .ok (.putfield n, 3) := dc_3 (K := _) rfl h (by decide) (F := fun n => Pure.pure (.putfield n)) rfl rfl
theorem dcw_182 {c : ByteArray} {pc : Nat} {n : Nat} (h : dk3 c pc 182 n = true) : decode c pc = .ok (.invokevirtual n, 3) := dc_3 (K := _) rfl h (by decide) (F := fun n => Pure.pure (.invokevirtual n)) rfl rfl
theorem dcw_183 {c : ByteArray} {pc : Nat} {n : Nat} (h : dk3 c pc 183 n = true) : decode c pc = .ok (.invokespecial n, 3) := dc_3 (K := _) rfl h (by decide) (F := fun n => Pure.pure (.invokespecial n)) rfl rfl
theorem dcw_184 {c : ByteArray} {pc : Nat} {n : Nat} (h : dk3 c pc 184 n = true) : decode c pc = .ok (.invokestatic n, 3) := dc_3 (K := _) rfl h (by decide) (F := fun n => Pure.pure (.invokestatic n)) rfl rfl
theorem dcw_187 {c : ByteArray} {pc : Nat} {n : Nat} (h : dk3 c pc 187 n = true) : decode c pc = .ok (.new n, 3) := dc_3 (K := _) rfl h (by decide) (F := fun n => Pure.pure (.new n)) rfl rfl
theorem dcw_189 {c : ByteArray} {pc : Nat} {n : Nat} (h : dk3 c pc 189 n = true) : decode c pc = .ok (.anewarray n, 3) := dc_3 (K := _) rfl h (by decide) (F := fun n => Pure.pure (.anewarray n)) rfl rfl
theorem dcs_17 {c : ByteArray} {pc : Nat} {n : Nat} (h : dk3 c pc 17 n = true) : decode c pc = .ok (.sipush (sg2 n), 3) := dc_s2 (K := _) rfl h (by decide) (F := fun n => .sipush n) rfl
theorem dcs_167 {c : ByteArray} {pc : Nat} {n : Nat} (h : dk3 c pc 167 n = true) : decode c pc = .ok (.goto (sg2 n), 3) := dc_s2 (K := _) rfl h (by decide) (F := fun n => .goto n) rfl
theorem dcs_153 {c : ByteArray} {pc : Nat} {n : Nat} (h : dk3 c pc 153 n = true) : decode c pc = .ok (.ifCond .eq (sg2 n), 3) := dc_s2 (K := _) rfl h (by decide) (F := fun n => .ifCond .eq n) rfl
theorem dcs_159 {c : ByteArray} {pc : Nat} {n : Nat} (h : dk3 c pc 159 n = true) : decode c pc = .ok (.if_icmp .eq (sg2 n), 3) := dc_s2 (K := _) rfl h (by decide) (F := fun n => .if_icmp .eq n) rfl
theorem dcs_154 {c : ByteArray} {pc : Nat} {n : Nat} (h : dk3 c pc 154 n = true) : decode c pc = .ok (.ifCond .ne (sg2 n), 3) := dc_s2 (K := _) rfl h (by decide) (F := fun n => .ifCond .ne n) rfl
theorem dcs_160 {c : ByteArray} {pc : Nat} {n : Nat} (h : dk3 c pc 160 n = true) : decode c pc = .ok (.if_icmp .ne (sg2 n), 3) := dc_s2 (K := _) rfl h (by decide) (F := fun n => .if_icmp .ne n) rfl
theorem dcs_155 {c : ByteArray} {pc : Nat} {n : Nat} (h : dk3 c pc 155 n = true) : decode c pc = .ok (.ifCond .lt (sg2 n), 3) := dc_s2 (K := _) rfl h (by decide) (F := fun n => .ifCond .lt n) rfl
theorem dcs_161 {c : ByteArray} {pc : Nat} {n : Nat} (h : dk3 c pc 161 n = true) : decode c pc = .ok (.if_icmp .lt (sg2 n), 3) := dc_s2 (K := _) rfl h (by decide) (F := fun n => .if_icmp .lt n) rfl
theorem dcs_156 {c : ByteArray} {pc : Nat} {n : Nat} (h : dk3 c pc 156 n = true) : decode c pc = .ok (.ifCond .ge (sg2 n), 3) := dc_s2 (K := _) rfl h (by decide) (F := fun n => .ifCond .ge n) rfl
theorem dcs_162 {c : ByteArray} {pc : Nat} {n : Nat} (h : dk3 c pc 162 n = true) : decode c pc = .ok (.if_icmp .ge (sg2 n), 3) := dc_s2 (K := _) rfl h (by decide) (F := fun n => .if_icmp .ge n) rfl
theorem dcs_157 {c : ByteArray} {pc : Nat} {n : Nat} (h : dk3 c pc 157 n = true) : decode c pc = .ok (.ifCond .gt (sg2 n), 3) := dc_s2 (K := _) rfl h (by decide) (F := fun n => .ifCond .gt n) rfl
theorem dcs_163 {c : ByteArray} {pc : Nat} {n : Nat} (h : dk3 c pc 163 n = true) : decode c pc = .ok (.if_icmp .gt (sg2 n), 3) := dc_s2 (K := _) rfl h (by decide) (F := fun n => .if_icmp .gt n) rfl
theorem dcs_158 {c : ByteArray} {pc : Nat} {n : Nat} (h : dk3 c pc 158 n = true) : decode c pc = .ok (.ifCond .le (sg2 n), 3) := dc_s2 (K := _) rfl h (by decide) (F := fun n => .ifCond .le n) rfl
theorem dcs_164 {c : ByteArray} {pc : Nat} {n : Nat} (h : dk3 c pc 164 n = true) : decode c pc = .ok (.if_icmp .le (sg2 n), 3) := dc_s2 (K := _) rfl h (by decide) (F := fun n => .if_icmp .le n) rfl
end
section
/-! ===== functional programs: what a method does, as a function that may fail; the rows tie the machine to it ===== -/
noncomputable abbrev RS : Type := (Nat → Int32) × (Nat → Nat → Int32) × (Nat → Nat → Int64)
noncomputable def RS.v (s : RS) : Nat → Int32 := s.1
noncomputable def RS.f (s : RS) : Nat → Nat → Int32 := s.2.1
noncomputable def RS.g (s : RS) : Nat → Nat → Int64 := s.2.2
noncomputable def RS.sv (s : RS) (k : Nat) (x : Int32) : RS := (va_up s.v k x, s.f, s.g)
noncomputable def RS.sf (s : RS) (k i : Nat) (x : Int32) : RS := (s.v, va_up s.f k (upd (s.f k) i x), s.g)
noncomputable def RS.sg (s : RS) (k i : Nat) (x : Int64) : RS := (s.v, s.f, va_up s.g k (vp_updL (s.g k) i x))
/-- an index is one of a row of n -/
noncomputable def vpb (i : Int32) (n : Nat) : Bool := decide (¬ (i < 0 ∨ n ≤ i.toNatClampNeg))
theorem vpb_in {i : Int32} {n : Nat} (h : vpb i n = true) : vp_in i n := of_decide_eq_true (p := ¬ (i < 0 ∨ n ≤ i.toNatClampNeg)) h
noncomputable abbrev ushr (x y : Int32) : Int32 := (x.toUInt32 >>> (y.toUInt32 &&& Int32.toUInt32 31)).toInt32
noncomputable def fu : Nat := 20000
noncomputable def letS {σ α : Type} (S : σ) (k : σ → Option α) : Option α := k S
noncomputable def bindI {σ α : Type} (o : Option (Int32 × σ)) (k : Int32 → σ → Option α) : Option α := match o with
  | none => none
  | some (r, s) => k r s
noncomputable def bindL {σ α : Type} (o : Option (Int64 × σ)) (k : Int64 → σ → Option α) : Option α := match o with
  | none => none
  | some (r, s) => k r s
noncomputable def bindP {τ α : Type} (o : Option τ) (k : τ → Option α) : Option α := match o with
  | none => none
  | some r => k r
theorem letS_inv {σ α : Type} {S : σ} {k : σ → Option α} {y : α} (h : letS S k = some y) : ∃ s, S = s ∧ k s = some y := ⟨S, rfl, h⟩
theorem bindI_inv {σ α : Type} {o : Option (Int32 × σ)} {k : Int32 → σ → Option α} {y : α} (h : bindI o k = some y) : ∃ r s, o = some (r, s) ∧ k r s = some y := by
  cases o with
  | none => cases h
  | some q => exact ⟨q.1, q.2, rfl, h⟩
theorem bindL_inv {σ α : Type} {o : Option (Int64 × σ)} {k : Int64 → σ → Option α} {y : α} (h : bindL o k = some y) : ∃ r s, o = some (r, s) ∧ k r s = some y := by
  cases o with
  | none => cases h
  | some q => exact ⟨q.1, q.2, rfl, h⟩
theorem bindP_inv {τ α : Type} {o : Option τ} {k : τ → Option α} {y : α} (h : bindP o k = some y) : ∃ r, o = some r ∧ k r = some y := by
  cases o with
  | none => cases h
  | some q => exact ⟨q, rfl, h⟩
theorem if_p {c : Prop} [Decidable c] {α : Type} {A B : Option α} {y : α} (h : (if c then A else B) = some y) (hc : c) : A = some y := by rw [if_pos hc] at h; exact h
theorem if_n {c : Prop} [Decidable c] {α : Type} {A B : Option α} {y : α} (h : (if c then A else B) = some y) (hc : ¬ c) : B = some y := by rw [if_neg hc] at h; exact h
theorem guard_inv {c : Prop} [Decidable c] {α : Type} {A : Option α} {y : α} (h : (if c then A else none) = some y) : c ∧ A = some y := by
  by_cases hc : c
  · exact ⟨hc, if_p h hc⟩
  · rw [if_neg hc] at h; cases h
theorem none_ne {α : Type} {y : α} {P : Prop} (h : (none : Option α) = some y) : P := by cases h
theorem ne_toInt {x c : Int32} {k : Int} (hk : c.toInt = k) (h : ¬ x = c) : x.toInt ≠ k := fun e => h (Int32.toInt_inj.mp (e.trans hk.symm))
/-- what stands in a method's middle -/
noncomputable abbrev EntB (p : Program) (s : State) (m : MethodId) (meth : Method) (c : Code) (cc : ByteArray) (maxL : Nat) (ret : Option FieldType) (ws : List Cond) (y : MethodName) (D : va_G) (tys : List (ClassId × FieldType)) (as : List Value) (A : Nat → Prop) : Prop :=
  CallFix p m c cc maxL s as.toArray ws y.cls ∧ meth.sig.returnType = ret ∧ meth.locks = false ∧ (∀ q, s.heap.size ≤ q → A q) ∧ va_K D vwCl tys s ∧ nw_ok s
/-- from the middle of a method: it comes to its end, with 'post' -/
noncomputable def BlkI (l : Launch) (y : MethodName) (ws : List Cond) (rm : Room) (cc : ByteArray) (maxL : Nat) (ret : Option FieldType) (D : va_G) (tys : List (ClassId × FieldType)) (as : List Value) (pc : Nat) (w : va_W) (lv : List (Nat × Value)) (st : List Value) (post : Int32 → va_W → Prop) : Prop :=
  ∀ (p : Program) (e : Env) (s : State) (m : MethodId) (below : List Frame) (meth : Method) (c : Code) (A : Nat → Prop), EntB p s m meth c cc maxL ret ws y D tys as A → ∀ (H : Heap) (locs : List Loc) (ls : Array Slot), va_P D vwCl w H → va_D A w → va_S A s.heap H locs → lv_has ls maxL lv →
    W p l e rm s m as.toArray below meth c H locs 0 0 (MQ below (va_Qi post (at_W D tys A) A) as.toArray s rm.cells rm.slots A) (F0 m pc ls st)
theorem CI_of {l : Launch} {y : MethodName} {ws ws' : List Cond} {rm : Room} {D : va_G} {tys : List (ClassId × FieldType)} {w : va_W} {as : List Value} {post : Int32 → va_W → Prop} {cc : ByteArray} {maxL : Nat} {ret : Option FieldType}
    (hy : plainName y.cls = true) (hw : ws = Cond.code y cc maxL ret :: ws') (hn : (lg_sl as).length ≤ maxL) (h : BlkI l y ws rm cc maxL ret D tys as 0 w (lv_args 0 as) [] post) : CI l y ws rm D tys w as post := by
  refine open_I hy hw hn ?_
  intro p e s m below meth c A ls E
  obtain ⟨C, hr, hlocks, hnm, hA, hP, hK, hD, hN, hl⟩ := E
  exact h p e s m below meth c A ⟨C, hr, hlocks, hA, hK, hN⟩ s.heap [] ls hP hD va_S.rf hl
/-- from the middle of a method: it comes to its end, with 'post' -/
noncomputable def BlkL (l : Launch) (y : MethodName) (ws : List Cond) (rm : Room) (cc : ByteArray) (maxL : Nat) (ret : Option FieldType) (D : va_G) (tys : List (ClassId × FieldType)) (as : List Value) (pc : Nat) (w : va_W) (lv : List (Nat × Value)) (st : List Value) (post : Int64 → va_W → Prop) : Prop :=
  ∀ (p : Program) (e : Env) (s : State) (m : MethodId) (below : List Frame) (meth : Method) (c : Code) (A : Nat → Prop), EntB p s m meth c cc maxL ret ws y D tys as A → ∀ (H : Heap) (locs : List Loc) (ls : Array Slot), va_P D vwCl w H → va_D A w → va_S A s.heap H locs → lv_has ls maxL lv →
    W p l e rm s m as.toArray below meth c H locs 0 0 (MQ below (va_Ql post (at_W D tys A) A) as.toArray s rm.cells rm.slots A) (F0 m pc ls st)
theorem CL_of {l : Launch} {y : MethodName} {ws ws' : List Cond} {rm : Room} {D : va_G} {tys : List (ClassId × FieldType)} {w : va_W} {as : List Value} {post : Int64 → va_W → Prop} {cc : ByteArray} {maxL : Nat} {ret : Option FieldType}
    (hy : plainName y.cls = true) (hw : ws = Cond.code y cc maxL ret :: ws') (hn : (lg_sl as).length ≤ maxL) (h : BlkL l y ws rm cc maxL ret D tys as 0 w (lv_args 0 as) [] post) : CL l y ws rm D tys w as post := by
  refine open_L hy hw hn ?_
  intro p e s m below meth c A ls E
  obtain ⟨C, hr, hlocks, hnm, hA, hP, hK, hD, hN, hl⟩ := E
  exact h p e s m below meth c A ⟨C, hr, hlocks, hA, hK, hN⟩ s.heap [] ls hP hD va_S.rf hl
/-- from the middle of a method: it comes to its end, with 'post' -/
noncomputable def BlkV (l : Launch) (y : MethodName) (ws : List Cond) (rm : Room) (cc : ByteArray) (maxL : Nat) (ret : Option FieldType) (D : va_G) (tys : List (ClassId × FieldType)) (as : List Value) (pc : Nat) (w : va_W) (lv : List (Nat × Value)) (st : List Value) (post : va_W → Prop) : Prop :=
  ∀ (p : Program) (e : Env) (s : State) (m : MethodId) (below : List Frame) (meth : Method) (c : Code) (A : Nat → Prop), EntB p s m meth c cc maxL ret ws y D tys as A → ∀ (H : Heap) (locs : List Loc) (ls : Array Slot), va_P D vwCl w H → va_D A w → va_S A s.heap H locs → lv_has ls maxL lv →
    W p l e rm s m as.toArray below meth c H locs 0 0 (MQ below (va_Qv post (at_W D tys A) A) as.toArray s rm.cells rm.slots A) (F0 m pc ls st)
theorem CV_of {l : Launch} {y : MethodName} {ws ws' : List Cond} {rm : Room} {D : va_G} {tys : List (ClassId × FieldType)} {w : va_W} {as : List Value} {post : va_W → Prop} {cc : ByteArray} {maxL : Nat} {ret : Option FieldType}
    (hy : plainName y.cls = true) (hw : ws = Cond.code y cc maxL ret :: ws') (hn : (lg_sl as).length ≤ maxL) (h : BlkV l y ws rm cc maxL ret D tys as 0 w (lv_args 0 as) [] post) : CV l y ws rm D tys w as post := by
  refine open_V hy hw hn ?_
  intro p e s m below meth c A ls E
  obtain ⟨C, hr, hlocks, hnm, hA, hP, hK, hD, hN, hl⟩ := E
  exact h p e s m below meth c A ⟨C, hr, hlocks, hA, hK, hN⟩ s.heap [] ls hP hD va_S.rf hl
/-- the reference's world by its state -/
noncomputable abbrev mwS (cB cI cJ cZ : ClassId) (h : Nat) (a : Nat → Nat) (s : RS) : va_W := mw cB cI cJ cZ h a s.v s.f s.g
theorem mwS_v0 {cB cI cJ cZ : ClassId} {h : Nat} {a : Nat → Nat} {s t : RS} {x : Int32} (hs : s.sv 0 x = t) : (mwS cB cI cJ cZ h a s).set 0 (h, .inr (11, (moF a s.v).set 0 (.int x))) = mwS cB cI cJ cZ h a t := by subst hs; rfl
theorem mwS_f1 {cB cI cJ cZ : ClassId} {h : Nat} {a : Nat → Nat} {s t : RS} {x : Int32} {j : Nat} (hs : s.sf 1 j x = t) : (mwS cB cI cJ cZ h a s).set 1 (a 1, .inl (cB, 2000, .inl (upd (s.f 1) j x))) = mwS cB cI cJ cZ h a t := by subst hs; rfl
theorem mwS_v2 {cB cI cJ cZ : ClassId} {h : Nat} {a : Nat → Nat} {s t : RS} {x : Int32} (hs : s.sv 2 x = t) : (mwS cB cI cJ cZ h a s).set 0 (h, .inr (11, (moF a s.v).set 2 (.int x))) = mwS cB cI cJ cZ h a t := by subst hs; rfl
theorem mwS_f3 {cB cI cJ cZ : ClassId} {h : Nat} {a : Nat → Nat} {s t : RS} {x : Int32} {j : Nat} (hs : s.sf 3 j x = t) : (mwS cB cI cJ cZ h a s).set 2 (a 3, .inl (cB, 2000, .inl (upd (s.f 3) j x))) = mwS cB cI cJ cZ h a t := by subst hs; rfl
theorem mwS_v4 {cB cI cJ cZ : ClassId} {h : Nat} {a : Nat → Nat} {s t : RS} {x : Int32} (hs : s.sv 4 x = t) : (mwS cB cI cJ cZ h a s).set 0 (h, .inr (11, (moF a s.v).set 4 (.int x))) = mwS cB cI cJ cZ h a t := by subst hs; rfl
theorem mwS_f5 {cB cI cJ cZ : ClassId} {h : Nat} {a : Nat → Nat} {s t : RS} {x : Int32} {j : Nat} (hs : s.sf 5 j x = t) : (mwS cB cI cJ cZ h a s).set 3 (a 5, .inl (cI, 403, .inl (upd (s.f 5) j x))) = mwS cB cI cJ cZ h a t := by subst hs; rfl
theorem mwS_f6 {cB cI cJ cZ : ClassId} {h : Nat} {a : Nat → Nat} {s t : RS} {x : Int32} {j : Nat} (hs : s.sf 6 j x = t) : (mwS cB cI cJ cZ h a s).set 4 (a 6, .inl (cI, 403, .inl (upd (s.f 6) j x))) = mwS cB cI cJ cZ h a t := by subst hs; rfl
theorem mwS_f7 {cB cI cJ cZ : ClassId} {h : Nat} {a : Nat → Nat} {s t : RS} {x : Int32} {j : Nat} (hs : s.sf 7 j x = t) : (mwS cB cI cJ cZ h a s).set 5 (a 7, .inl (cI, 403, .inl (upd (s.f 7) j x))) = mwS cB cI cJ cZ h a t := by subst hs; rfl
theorem mwS_f8 {cB cI cJ cZ : ClassId} {h : Nat} {a : Nat → Nat} {s t : RS} {x : Int64} {j : Nat} (hs : s.sg 8 j x = t) : (mwS cB cI cJ cZ h a s).set 6 (a 8, .inl (cJ, 403, .inr (.inl (vp_updL (s.g 8) j x)))) = mwS cB cI cJ cZ h a t := by subst hs; rfl
theorem mwS_f9 {cB cI cJ cZ : ClassId} {h : Nat} {a : Nat → Nat} {s t : RS} {x : Int64} {j : Nat} (hs : s.sg 9 j x = t) : (mwS cB cI cJ cZ h a s).set 7 (a 9, .inl (cJ, 19, .inr (.inl (vp_updL (s.g 9) j x)))) = mwS cB cI cJ cZ h a t := by subst hs; rfl
theorem mwS_v10 {cB cI cJ cZ : ClassId} {h : Nat} {a : Nat → Nat} {s t : RS} {x : Int32} (hs : s.sv 10 x = t) : (mwS cB cI cJ cZ h a s).set 0 (h, .inr (11, (moF a s.v).set 10 (.int x))) = mwS cB cI cJ cZ h a t := by subst hs; rfl
theorem mwS_v11 {cB cI cJ cZ : ClassId} {h : Nat} {a : Nat → Nat} {s t : RS} {x : Int32} (hs : s.sv 11 x = t) : (mwS cB cI cJ cZ h a s).set 0 (h, .inr (11, (moF a s.v).set 11 (.int x))) = mwS cB cI cJ cZ h a t := by subst hs; rfl
theorem mwS_v12 {cB cI cJ cZ : ClassId} {h : Nat} {a : Nat → Nat} {s t : RS} {x : Int32} (hs : s.sv 12 x = t) : (mwS cB cI cJ cZ h a s).set 0 (h, .inr (11, (moF a s.v).set 12 (.int x))) = mwS cB cI cJ cZ h a t := by subst hs; rfl
theorem mwS_v13 {cB cI cJ cZ : ClassId} {h : Nat} {a : Nat → Nat} {s t : RS} {x : Int32} (hs : s.sv 13 x = t) : (mwS cB cI cJ cZ h a s).set 0 (h, .inr (11, (moF a s.v).set 13 (.int x))) = mwS cB cI cJ cZ h a t := by subst hs; rfl
theorem mwS_v14 {cB cI cJ cZ : ClassId} {h : Nat} {a : Nat → Nat} {s t : RS} {x : Int32} (hs : s.sv 14 x = t) : (mwS cB cI cJ cZ h a s).set 0 (h, .inr (11, (moF a s.v).set 14 (.int x))) = mwS cB cI cJ cZ h a t := by subst hs; rfl
theorem mwS_v15 {cB cI cJ cZ : ClassId} {h : Nat} {a : Nat → Nat} {s t : RS} {x : Int32} (hs : s.sv 15 x = t) : (mwS cB cI cJ cZ h a s).set 0 (h, .inr (11, (moF a s.v).set 15 (.int x))) = mwS cB cI cJ cZ h a t := by subst hs; rfl
theorem mwS_v16 {cB cI cJ cZ : ClassId} {h : Nat} {a : Nat → Nat} {s t : RS} {x : Int32} (hs : s.sv 16 x = t) : (mwS cB cI cJ cZ h a s).set 0 (h, .inr (11, (moF a s.v).set 16 (.int x))) = mwS cB cI cJ cZ h a t := by subst hs; rfl
theorem mwS_v17 {cB cI cJ cZ : ClassId} {h : Nat} {a : Nat → Nat} {s t : RS} {x : Int32} (hs : s.sv 17 x = t) : (mwS cB cI cJ cZ h a s).set 0 (h, .inr (11, (moF a s.v).set 17 (.int x))) = mwS cB cI cJ cZ h a t := by subst hs; rfl
theorem mwS_v18 {cB cI cJ cZ : ClassId} {h : Nat} {a : Nat → Nat} {s t : RS} {x : Int32} (hs : s.sv 18 x = t) : (mwS cB cI cJ cZ h a s).set 0 (h, .inr (11, (moF a s.v).set 18 (.int x))) = mwS cB cI cJ cZ h a t := by subst hs; rfl
theorem mwS_v19 {cB cI cJ cZ : ClassId} {h : Nat} {a : Nat → Nat} {s t : RS} {x : Int32} (hs : s.sv 19 x = t) : (mwS cB cI cJ cZ h a s).set 0 (h, .inr (11, (moF a s.v).set 19 (.int x))) = mwS cB cI cJ cZ h a t := by subst hs; rfl
theorem mwS_f20 {cB cI cJ cZ : ClassId} {h : Nat} {a : Nat → Nat} {s t : RS} {x : Int32} {j : Nat} (hs : s.sf 20 j x = t) : (mwS cB cI cJ cZ h a s).set 8 (a 20, .inl (cI, 2, .inl (upd (s.f 20) j x))) = mwS cB cI cJ cZ h a t := by subst hs; rfl
theorem mwS_f21 {cB cI cJ cZ : ClassId} {h : Nat} {a : Nat → Nat} {s t : RS} {x : Int32} {j : Nat} (hs : s.sf 21 j x = t) : (mwS cB cI cJ cZ h a s).set 9 (a 21, .inl (cI, 60, .inl (upd (s.f 21) j x))) = mwS cB cI cJ cZ h a t := by subst hs; rfl
theorem mwS_f22 {cB cI cJ cZ : ClassId} {h : Nat} {a : Nat → Nat} {s t : RS} {x : Int64} {j : Nat} (hs : s.sg 22 j x = t) : (mwS cB cI cJ cZ h a s).set 10 (a 22, .inl (cJ, 6, .inr (.inl (vp_updL (s.g 22) j x)))) = mwS cB cI cJ cZ h a t := by subst hs; rfl
theorem mwS_f23 {cB cI cJ cZ : ClassId} {h : Nat} {a : Nat → Nat} {s t : RS} {x : Int32} {j : Nat} (hs : s.sf 23 j x = t) : (mwS cB cI cJ cZ h a s).set 11 (a 23, .inl (cI, 2, .inl (upd (s.f 23) j x))) = mwS cB cI cJ cZ h a t := by subst hs; rfl
theorem mwS_f24 {cB cI cJ cZ : ClassId} {h : Nat} {a : Nat → Nat} {s t : RS} {x : Int32} {j : Nat} (hs : s.sf 24 j x = t) : (mwS cB cI cJ cZ h a s).set 12 (a 24, .inl (cI, 12, .inl (upd (s.f 24) j x))) = mwS cB cI cJ cZ h a t := by subst hs; rfl
theorem mwS_f25 {cB cI cJ cZ : ClassId} {h : Nat} {a : Nat → Nat} {s t : RS} {x : Int32} {j : Nat} (hs : s.sf 25 j x = t) : (mwS cB cI cJ cZ h a s).set 13 (a 25, .inl (cI, 12, .inl (upd (s.f 25) j x))) = mwS cB cI cJ cZ h a t := by subst hs; rfl
theorem mwS_f26 {cB cI cJ cZ : ClassId} {h : Nat} {a : Nat → Nat} {s t : RS} {x : Int32} {j : Nat} (hs : s.sf 26 j x = t) : (mwS cB cI cJ cZ h a s).set 14 (a 26, .inl (cI, 2, .inl (upd (s.f 26) j x))) = mwS cB cI cJ cZ h a t := by subst hs; rfl
theorem mwS_f27 {cB cI cJ cZ : ClassId} {h : Nat} {a : Nat → Nat} {s t : RS} {x : Int32} {j : Nat} (hs : s.sf 27 j x = t) : (mwS cB cI cJ cZ h a s).set 15 (a 27, .inl (cI, 8, .inl (upd (s.f 27) j x))) = mwS cB cI cJ cZ h a t := by subst hs; rfl
theorem mwS_f28 {cB cI cJ cZ : ClassId} {h : Nat} {a : Nat → Nat} {s t : RS} {x : Int32} {j : Nat} (hs : s.sf 28 j x = t) : (mwS cB cI cJ cZ h a s).set 16 (a 28, .inl (cI, 8, .inl (upd (s.f 28) j x))) = mwS cB cI cJ cZ h a t := by subst hs; rfl
theorem mwS_v29 {cB cI cJ cZ : ClassId} {h : Nat} {a : Nat → Nat} {s t : RS} {x : Int32} (hs : s.sv 29 x = t) : (mwS cB cI cJ cZ h a s).set 0 (h, .inr (11, (moF a s.v).set 29 (.int x))) = mwS cB cI cJ cZ h a t := by subst hs; rfl
theorem mwS_f30 {cB cI cJ cZ : ClassId} {h : Nat} {a : Nat → Nat} {s t : RS} {x : Int32} {j : Nat} (hs : s.sf 30 j x = t) : (mwS cB cI cJ cZ h a s).set 17 (a 30, .inl (cZ, 260, .inl (upd (s.f 30) j x))) = mwS cB cI cJ cZ h a t := by subst hs; rfl
theorem mwS_f31 {cB cI cJ cZ : ClassId} {h : Nat} {a : Nat → Nat} {s t : RS} {x : Int32} {j : Nat} (hs : s.sf 31 j x = t) : (mwS cB cI cJ cZ h a s).set 18 (a 31, .inl (cI, 260, .inl (upd (s.f 31) j x))) = mwS cB cI cJ cZ h a t := by subst hs; rfl
theorem mwS_f32 {cB cI cJ cZ : ClassId} {h : Nat} {a : Nat → Nat} {s t : RS} {x : Int32} {j : Nat} (hs : s.sf 32 j x = t) : (mwS cB cI cJ cZ h a s).set 19 (a 32, .inl (cI, 260, .inl (upd (s.f 32) j x))) = mwS cB cI cJ cZ h a t := by subst hs; rfl
theorem mwS_f33 {cB cI cJ cZ : ClassId} {h : Nat} {a : Nat → Nat} {s t : RS} {x : Int32} {j : Nat} (hs : s.sf 33 j x = t) : (mwS cB cI cJ cZ h a s).set 20 (a 33, .inl (cI, 260, .inl (upd (s.f 33) j x))) = mwS cB cI cJ cZ h a t := by subst hs; rfl
theorem mwS_f34 {cB cI cJ cZ : ClassId} {h : Nat} {a : Nat → Nat} {s t : RS} {x : Int32} {j : Nat} (hs : s.sf 34 j x = t) : (mwS cB cI cJ cZ h a s).set 21 (a 34, .inl (cI, 260, .inl (upd (s.f 34) j x))) = mwS cB cI cJ cZ h a t := by subst hs; rfl
theorem mwS_v35 {cB cI cJ cZ : ClassId} {h : Nat} {a : Nat → Nat} {s t : RS} {x : Int32} (hs : s.sv 35 x = t) : (mwS cB cI cJ cZ h a s).set 0 (h, .inr (11, (moF a s.v).set 35 (.int x))) = mwS cB cI cJ cZ h a t := by subst hs; rfl
theorem mwS_f36 {cB cI cJ cZ : ClassId} {h : Nat} {a : Nat → Nat} {s t : RS} {x : Int32} {j : Nat} (hs : s.sf 36 j x = t) : (mwS cB cI cJ cZ h a s).set 22 (a 36, .inl (cI, 840, .inl (upd (s.f 36) j x))) = mwS cB cI cJ cZ h a t := by subst hs; rfl
theorem mwS_f37 {cB cI cJ cZ : ClassId} {h : Nat} {a : Nat → Nat} {s t : RS} {x : Int32} {j : Nat} (hs : s.sf 37 j x = t) : (mwS cB cI cJ cZ h a s).set 23 (a 37, .inl (cI, 840, .inl (upd (s.f 37) j x))) = mwS cB cI cJ cZ h a t := by subst hs; rfl
theorem mwS_f38 {cB cI cJ cZ : ClassId} {h : Nat} {a : Nat → Nat} {s t : RS} {x : Int32} {j : Nat} (hs : s.sf 38 j x = t) : (mwS cB cI cJ cZ h a s).set 24 (a 38, .inl (cI, 64, .inl (upd (s.f 38) j x))) = mwS cB cI cJ cZ h a t := by subst hs; rfl
theorem mwS_v39 {cB cI cJ cZ : ClassId} {h : Nat} {a : Nat → Nat} {s t : RS} {x : Int32} (hs : s.sv 39 x = t) : (mwS cB cI cJ cZ h a s).set 0 (h, .inr (11, (moF a s.v).set 39 (.int x))) = mwS cB cI cJ cZ h a t := by subst hs; rfl
theorem mwS_f40 {cB cI cJ cZ : ClassId} {h : Nat} {a : Nat → Nat} {s t : RS} {x : Int32} {j : Nat} (hs : s.sf 40 j x = t) : (mwS cB cI cJ cZ h a s).set 25 (a 40, .inl (cI, 9, .inl (upd (s.f 40) j x))) = mwS cB cI cJ cZ h a t := by subst hs; rfl
theorem mwS_f41 {cB cI cJ cZ : ClassId} {h : Nat} {a : Nat → Nat} {s t : RS} {x : Int32} {j : Nat} (hs : s.sf 41 j x = t) : (mwS cB cI cJ cZ h a s).set 26 (a 41, .inl (cI, 400, .inl (upd (s.f 41) j x))) = mwS cB cI cJ cZ h a t := by subst hs; rfl
theorem mwS_v42 {cB cI cJ cZ : ClassId} {h : Nat} {a : Nat → Nat} {s t : RS} {x : Int32} (hs : s.sv 42 x = t) : (mwS cB cI cJ cZ h a s).set 0 (h, .inr (11, (moF a s.v).set 42 (.int x))) = mwS cB cI cJ cZ h a t := by subst hs; rfl
theorem mwS_f43 {cB cI cJ cZ : ClassId} {h : Nat} {a : Nat → Nat} {s t : RS} {x : Int32} {j : Nat} (hs : s.sf 43 j x = t) : (mwS cB cI cJ cZ h a s).set 27 (a 43, .inl (cI, 29, .inl (upd (s.f 43) j x))) = mwS cB cI cJ cZ h a t := by subst hs; rfl
theorem mwS_f44 {cB cI cJ cZ : ClassId} {h : Nat} {a : Nat → Nat} {s t : RS} {x : Int32} {j : Nat} (hs : s.sf 44 j x = t) : (mwS cB cI cJ cZ h a s).set 28 (a 44, .inl (cI, 29, .inl (upd (s.f 44) j x))) = mwS cB cI cJ cZ h a t := by subst hs; rfl
theorem mwS_v45 {cB cI cJ cZ : ClassId} {h : Nat} {a : Nat → Nat} {s t : RS} {x : Int32} (hs : s.sv 45 x = t) : (mwS cB cI cJ cZ h a s).set 0 (h, .inr (11, (moF a s.v).set 45 (.int x))) = mwS cB cI cJ cZ h a t := by subst hs; rfl
theorem mwS_f46 {cB cI cJ cZ : ClassId} {h : Nat} {a : Nat → Nat} {s t : RS} {x : Int32} {j : Nat} (hs : s.sf 46 j x = t) : (mwS cB cI cJ cZ h a s).set 29 (a 46, .inl (cI, 6, .inl (upd (s.f 46) j x))) = mwS cB cI cJ cZ h a t := by subst hs; rfl
theorem mwS_f47 {cB cI cJ cZ : ClassId} {h : Nat} {a : Nat → Nat} {s t : RS} {x : Int32} {j : Nat} (hs : s.sf 47 j x = t) : (mwS cB cI cJ cZ h a s).set 30 (a 47, .inl (cZ, 5, .inl (upd (s.f 47) j x))) = mwS cB cI cJ cZ h a t := by subst hs; rfl
theorem mwS_v48 {cB cI cJ cZ : ClassId} {h : Nat} {a : Nat → Nat} {s t : RS} {x : Int32} (hs : s.sv 48 x = t) : (mwS cB cI cJ cZ h a s).set 0 (h, .inr (11, (moF a s.v).set 48 (.int x))) = mwS cB cI cJ cZ h a t := by subst hs; rfl
theorem mwS_f49 {cB cI cJ cZ : ClassId} {h : Nat} {a : Nat → Nat} {s t : RS} {x : Int32} {j : Nat} (hs : s.sf 49 j x = t) : (mwS cB cI cJ cZ h a s).set 31 (a 49, .inl (cI, 1160, .inl (upd (s.f 49) j x))) = mwS cB cI cJ cZ h a t := by subst hs; rfl
theorem mwS_f50 {cB cI cJ cZ : ClassId} {h : Nat} {a : Nat → Nat} {s t : RS} {x : Int32} {j : Nat} (hs : s.sf 50 j x = t) : (mwS cB cI cJ cZ h a s).set 32 (a 50, .inl (cI, 7776, .inl (upd (s.f 50) j x))) = mwS cB cI cJ cZ h a t := by subst hs; rfl
theorem mwS_v51 {cB cI cJ cZ : ClassId} {h : Nat} {a : Nat → Nat} {s t : RS} {x : Int32} (hs : s.sv 51 x = t) : (mwS cB cI cJ cZ h a s).set 0 (h, .inr (11, (moF a s.v).set 51 (.int x))) = mwS cB cI cJ cZ h a t := by subst hs; rfl
theorem mwS_f52 {cB cI cJ cZ : ClassId} {h : Nat} {a : Nat → Nat} {s t : RS} {x : Int32} {j : Nat} (hs : s.sf 52 j x = t) : (mwS cB cI cJ cZ h a s).set 33 (a 52, .inl (cI, 20, .inl (upd (s.f 52) j x))) = mwS cB cI cJ cZ h a t := by subst hs; rfl
theorem mwS_f53 {cB cI cJ cZ : ClassId} {h : Nat} {a : Nat → Nat} {s t : RS} {x : Int32} {j : Nat} (hs : s.sf 53 j x = t) : (mwS cB cI cJ cZ h a s).set 34 (a 53, .inl (cI, 20, .inl (upd (s.f 53) j x))) = mwS cB cI cJ cZ h a t := by subst hs; rfl
theorem mwS_f54 {cB cI cJ cZ : ClassId} {h : Nat} {a : Nat → Nat} {s t : RS} {x : Int32} {j : Nat} (hs : s.sf 54 j x = t) : (mwS cB cI cJ cZ h a s).set 35 (a 54, .inl (cZ, 20, .inl (upd (s.f 54) j x))) = mwS cB cI cJ cZ h a t := by subst hs; rfl
theorem mwS_f55 {cB cI cJ cZ : ClassId} {h : Nat} {a : Nat → Nat} {s t : RS} {x : Int32} {j : Nat} (hs : s.sf 55 j x = t) : (mwS cB cI cJ cZ h a s).set 36 (a 55, .inl (cI, 30, .inl (upd (s.f 55) j x))) = mwS cB cI cJ cZ h a t := by subst hs; rfl
theorem mwS_f56 {cB cI cJ cZ : ClassId} {h : Nat} {a : Nat → Nat} {s t : RS} {x : Int32} {j : Nat} (hs : s.sf 56 j x = t) : (mwS cB cI cJ cZ h a s).set 37 (a 56, .inl (cZ, 3, .inl (upd (s.f 56) j x))) = mwS cB cI cJ cZ h a t := by subst hs; rfl
theorem mwS_f57 {cB cI cJ cZ : ClassId} {h : Nat} {a : Nat → Nat} {s t : RS} {x : Int32} {j : Nat} (hs : s.sf 57 j x = t) : (mwS cB cI cJ cZ h a s).set 38 (a 57, .inl (cI, 87, .inl (upd (s.f 57) j x))) = mwS cB cI cJ cZ h a t := by subst hs; rfl
noncomputable def r_put_3 (k3 : RS → Int32 → Int32 → Option RS) (s : RS) (x1 : Int32) (x2 : Int32) : Option RS := (if x2 < 0 then (some s) else (if vpb (s.v 2) 2000 then (letS (s.sf 1 (Int32.toNatClampNeg (s.v 2)) (vp_nar .byte (Int8.toInt32 (Int32.toInt8 (x1 >>> (x2 &&& 31)))))) fun s3 => (letS (s3.sv 2 ((s3.v 2) + 1)) fun s5 => k3 s5 x1 (x2 + (-8)))) else none))
noncomputable def r_put_3L : Nat → RS → Int32 → Int32 → Option RS
  | 0, _, _, _ => none
  | n + 1, s, x1, x2 => r_put_3 (r_put_3L n) s x1 x2
noncomputable def r_put (s : RS) (x1 : Int32) : Option RS := r_put_3L fu s x1 24
noncomputable def r_feed (s : RS) (x1 : Int32) (x2 : Int32) (x3 : Int32) (x4 : Int32) (x5 : Int32) : Option (Int32 × RS) := (if ((s.v 2) + 20) ≤ 2000 then (bindP (r_put s x1) fun s2 => (bindP (r_put s2 x2) fun s3 => (bindP (r_put s3 x3) fun s4 => (bindP (r_put s4 x4) fun s5 => (bindP (r_put s5 x5) fun s6 => (some ((s6.v 2), s6))))))) else (some ((-1), s)))
noncomputable def r_back (s : RS) (x1 : Int32) : Option (Int32 × RS) := (if x1 < 0 then (some ((-1), s)) else (if x1 ≤ (s.v 2) then (letS (s.sv 2 ((s.v 2) - x1)) fun s3 => (some ((s3.v 2), s3))) else (some ((-1), s))))
noncomputable def r_byteAt (s : RS) (x1 : Int32) : Option (Int32 × RS) := (if (s.v 4) ≤ x1 then (some (0, s)) else (if vpb x1 2000 then (some (((s.f 3 (Int32.toNatClampNeg x1)) &&& 255), s)) else none))
noncomputable def r_isDigit (x0 : Int32) : Option Int32 := (if x0 < 48 then (some 0) else (if 57 < x0 then (some 0) else (some 1)))
noncomputable def r_isLetter (x0 : Int32) : Option Int32 := (if x0 < 97 then (some 0) else (if 122 < x0 then (some 0) else (some 1)))
noncomputable def r_appends (x0 : Int64) (x2 : Int32) : Option Int64 := (if x2 = 0 then (some x0) else (some ((27 * x0) + (Int32.toInt64 ((x2 - 97) + 1)))))
noncomputable def r_word (x0 : Int32) (x1 : Int32) (x2 : Int32) (x3 : Int32) (x4 : Int32) (x5 : Int32) (x6 : Int32) : Option Int64 := (bindP (r_appends 0 x0) fun r1 => (bindP (r_appends r1 x1) fun r2 => (bindP (r_appends r2 x2) fun r3 => (bindP (r_appends r3 x3) fun r4 => (bindP (r_appends r4 x4) fun r5 => (bindP (r_appends r5 x5) fun r6 => (bindP (r_appends r6 x6) fun r7 => (some r7))))))))
noncomputable def r_token (s : RS) (x1 : Int32) (x2 : Int32) (x3 : Int32) (x4 : Int64) : Option RS := (if vpb (s.v 10) 403 then (letS (s.sf 5 (Int32.toNatClampNeg (s.v 10)) x1) fun s2 => (if vpb (s2.v 10) 403 then (letS (s2.sf 6 (Int32.toNatClampNeg (s2.v 10)) x2) fun s5 => (if vpb (s5.v 10) 403 then (letS (s5.sf 7 (Int32.toNatClampNeg (s5.v 10)) x3) fun s8 => (if vpb (s8.v 10) 403 then (letS (s8.sg 8 (Int32.toNatClampNeg (s8.v 10)) x4) fun s11 => (letS (s11.sv 10 ((s11.v 10) + 1)) fun s13 => (some s13))) else none)) else none)) else none)) else none)
noncomputable def r_sign_95 (s : RS) (x1 : Int32) (x4 : Int32) : Option (Int32 × RS) := (bindP (r_token s x4 x1 0 0) fun s1 => (some (1, s1)))
noncomputable def r_sign_85 (s : RS) (x1 : Int32) (x2 : Int32) (x4 : Int32) : Option (Int32 × RS) := (if x2 = 60 then r_sign_95 s x1 13 else r_sign_95 s x1 x4)
noncomputable def r_sign_75 (s : RS) (x1 : Int32) (x2 : Int32) (x4 : Int32) : Option (Int32 × RS) := (if x2 = 47 then r_sign_85 s x1 x2 15 else r_sign_85 s x1 x2 x4)
noncomputable def r_sign_65 (s : RS) (x1 : Int32) (x2 : Int32) (x4 : Int32) : Option (Int32 × RS) := (if x2 = 42 then r_sign_75 s x1 x2 10 else r_sign_75 s x1 x2 x4)
noncomputable def r_sign_55 (s : RS) (x1 : Int32) (x2 : Int32) (x4 : Int32) : Option (Int32 × RS) := (if x2 = 45 then r_sign_65 s x1 x2 9 else r_sign_65 s x1 x2 x4)
noncomputable def r_sign_43 (s : RS) (x1 : Int32) (x2 : Int32) (t0 : Int32) : Option (Int32 × RS) := (if x2 = 43 then r_sign_55 s x1 x2 8 else r_sign_55 s x1 x2 t0)
noncomputable def r_sign (s : RS) (x1 : Int32) (x2 : Int32) (x3 : Int32) : Option (Int32 × RS) := (if x2 = 59 then r_sign_43 s x1 x2 4 else (if x2 = 61 then r_sign_43 s x1 x2 5 else (if x2 = 40 then r_sign_43 s x1 x2 6 else (if x2 = 41 then r_sign_43 s x1 x2 7 else r_sign_43 s x1 x2 3))))
noncomputable def r_cut_291 (k7 : RS → Int32 → Option RS) (s : RS) (x1 : Int32) : Option RS := k7 s x1
noncomputable def r_cut_67 (k7 : RS → Int32 → Option RS) (s : RS) (x1 : Int32) : Option RS := r_cut_291 k7 s (x1 + 1)
noncomputable def r_cut_261 (k7 : RS → Int32 → Option RS) (s : RS) (x1 : Int32) (x3 : Int32) (x4 : Int32) (t0 : Int32) : Option RS := (bindP (r_token s t0 x1 x4 0) fun s1 => r_cut_291 k7 s1 (x1 + x3))
noncomputable def r_cut_244 (k7 : RS → Int32 → Option RS) (k208 : RS → Int32 → Int32 → Int32 → Option RS) (s : RS) (x1 : Int32) (x3 : Int32) (x4 : Int32) : Option RS := k208 s x1 (x3 + 1) x4
noncomputable def r_cut_208 (k7 : RS → Int32 → Option RS) (k208 : RS → Int32 → Int32 → Int32 → Option RS) (s : RS) (x1 : Int32) (x3 : Int32) (x4 : Int32) : Option RS := (bindI (r_byteAt s (x1 + x3)) fun r2 s1 => (bindP (r_isDigit r2) fun r3 => (if r3 = 0 then (if x3 ≤ 4 then r_cut_261 k7 s1 x1 x3 x4 2 else r_cut_261 k7 s1 x1 x3 x4 3) else (if 4 ≤ x3 then r_cut_244 k7 k208 s1 x1 x3 x4 else (bindI (r_byteAt s1 (x1 + x3)) fun r8 s7 => r_cut_244 k7 k208 s7 x1 x3 (((10 * x4) + r8) - 48))))))
noncomputable def r_cut_208L (k7 : RS → Int32 → Option RS) : Nat → RS → Int32 → Int32 → Int32 → Option RS
  | 0, _, _, _, _ => none
  | n + 1, s, x1, x3, x4 => r_cut_208 k7 (r_cut_208L k7 n) s x1 x3 x4
noncomputable def r_cut_179 (k7 : RS → Int32 → Option RS) (s : RS) (x1 : Int32) (x3 : Int32) (x4 : Int64) (x6 : Int32) : Option RS := (bindP (r_token s x6 x1 0 x4) fun s1 => r_cut_291 k7 s1 (x1 + x3))
noncomputable def r_cut_173 (k7 : RS → Int32 → Option RS) (k146 : RS → Int32 → Int32 → Int64 → Int32 → Int32 → Option RS) (s : RS) (x1 : Int32) (x3 : Int32) (x4 : Int64) (x6 : Int32) (x7 : Int32) : Option RS := k146 s x1 x3 x4 x6 (x7 + 1)
noncomputable def r_cut_146 (k7 : RS → Int32 → Option RS) (k146 : RS → Int32 → Int32 → Int64 → Int32 → Int32 → Option RS) (s : RS) (x1 : Int32) (x3 : Int32) (x4 : Int64) (x6 : Int32) (x7 : Int32) : Option RS := (if 19 ≤ x7 then r_cut_179 k7 s x1 x3 x4 x6 else (if vpb x7 19 then (if (lg_cmp (s.g 9 (Int32.toNatClampNeg x7)) x4) = 0 then r_cut_173 k7 k146 s x1 x3 x4 (20 + x7) x7 else r_cut_173 k7 k146 s x1 x3 x4 x6 x7) else none))
noncomputable def r_cut_146L (k7 : RS → Int32 → Option RS) : Nat → RS → Int32 → Int32 → Int64 → Int32 → Int32 → Option RS
  | 0, _, _, _, _, _, _ => none
  | n + 1, s, x1, x3, x4, x6, x7 => r_cut_146 k7 (r_cut_146L k7 n) s x1 x3 x4 x6 x7
noncomputable def r_cut_135 (k7 : RS → Int32 → Option RS) (s : RS) (x1 : Int32) (x3 : Int32) (x4 : Int64) (t0 : Int32) : Option RS := (if 8 < x3 then r_cut_179 k7 s x1 x3 x4 t0 else r_cut_146L k7 fu s x1 x3 x4 t0 0)
noncomputable def r_cut_118 (k7 : RS → Int32 → Option RS) (k85 : RS → Int32 → Int32 → Int64 → Option RS) (s : RS) (x1 : Int32) (x3 : Int32) (x4 : Int64) : Option RS := k85 s x1 (x3 + 1) x4
noncomputable def r_cut_85 (k7 : RS → Int32 → Option RS) (k85 : RS → Int32 → Int32 → Int64 → Option RS) (s : RS) (x1 : Int32) (x3 : Int32) (x4 : Int64) : Option RS := (bindI (r_byteAt s (x1 + x3)) fun r2 s1 => (bindP (r_isLetter r2) fun r3 => (if r3 = 0 then (if x3 ≤ 8 then r_cut_135 k7 s1 x1 x3 x4 1 else r_cut_135 k7 s1 x1 x3 x4 3) else (if 8 ≤ x3 then r_cut_118 k7 k85 s1 x1 x3 x4 else (bindI (r_byteAt s1 (x1 + x3)) fun r8 s7 => (bindP (r_appends x4 r8) fun r9 => r_cut_118 k7 k85 s7 x1 x3 r9))))))
noncomputable def r_cut_85L (k7 : RS → Int32 → Option RS) : Nat → RS → Int32 → Int32 → Int64 → Option RS
  | 0, _, _, _, _ => none
  | n + 1, s, x1, x3, x4 => r_cut_85 k7 (r_cut_85L k7 n) s x1 x3 x4
noncomputable def r_cut_7 (k7 : RS → Int32 → Option RS) (s : RS) (x1 : Int32) : Option RS := (if 400 < (s.v 10) then (some s) else (bindI (r_byteAt s x1) fun r3 s2 => (if x1 < (s2.v 4) then (if r3 = 9 then r_cut_67 k7 s2 x1 else (if r3 = 10 then r_cut_67 k7 s2 x1 else (if r3 = 13 then r_cut_67 k7 s2 x1 else (if r3 = 32 then r_cut_67 k7 s2 x1 else (bindP (r_isLetter r3) fun r9 => (if r9 = 0 then (bindP (r_isDigit r3) fun r11 => (if r11 = 0 then (bindI (r_byteAt s2 (x1 + 1)) fun r14 s13 => (bindI (r_sign s13 x1 r3 r14) fun r16 s15 => r_cut_291 k7 s15 (x1 + r16))) else r_cut_208L k7 fu s2 x1 0 0)) else r_cut_85L k7 fu s2 x1 0 0)))))) else (bindP (r_token s2 0 (s2.v 4) 0 0) fun s17 => (some s17)))))
noncomputable def r_cut_7L : Nat → RS → Int32 → Option RS
  | 0, _, _ => none
  | n + 1, s, x1 => r_cut_7 (r_cut_7L n) s x1
noncomputable def r_cut (s : RS) : Option RS := (letS (s.sv 10 0) fun s1 => r_cut_7L fu s1 0)
noncomputable def r_is (s : RS) (x1 : Int32) : Option (Int32 × RS) := (if (s.v 13) = 0 then (if vpb (s.v 11) 403 then (if (s.f 5 (Int32.toNatClampNeg (s.v 11))) = x1 then (some (1, s)) else (some (0, s))) else none) else (some (0, s)))
noncomputable def r_fail (s : RS) (x1 : Int32) : Option RS := (if (s.v 13) ≤ 0 then (letS (s.sv 13 x1) fun s2 => (if vpb (s2.v 11) 403 then (letS (s2.sv 14 (s2.f 6 (Int32.toNatClampNeg (s2.v 11)))) fun s5 => (some s5)) else none)) else (some s))
noncomputable def r_wrong_46 (s : RS) (x1 : Int32) (x3 : Int32) : Option RS := (letS (s.sv 15 x1) fun s1 => (letS (s1.sv 16 x3) fun s3 => (some s3)))
noncomputable def r_wrong (s : RS) (x1 : Int32) (x2 : Int32) : Option RS := (if vpb x2 403 then (if 0 < (s.v 13) then (some s) else (if (s.v 15) = 0 then r_wrong_46 s x1 (s.f 6 (Int32.toNatClampNeg x2)) else (if (s.v 16) < (s.f 6 (Int32.toNatClampNeg x2)) then (some s) else (if (s.f 6 (Int32.toNatClampNeg x2)) = (s.v 16) then (if x1 < (s.v 15) then r_wrong_46 s x1 (s.f 6 (Int32.toNatClampNeg x2)) else (some s)) else r_wrong_46 s x1 (s.f 6 (Int32.toNatClampNeg x2)))))) else none)
noncomputable def r_goesOn (s : RS) : Option RS := (if (s.v 11) = 400 then (bindP (r_fail s 2) fun s4 => (some s4)) else (letS (s.sv 11 ((s.v 11) + 1)) fun s2 => (some s2)))
noncomputable def r_must (s : RS) (x1 : Int32) : Option RS := (bindI (r_is s x1) fun r2 s1 => (if r2 = 0 then (bindP (r_fail s1 1) fun s4 => (some s4)) else (bindP (r_goesOn s1) fun s5 => (some s5))))
noncomputable def r_plain_23 (k23 : RS → Int32 → Int32 → Option RS) (s : RS) (x1 : Int32) (x2 : Int32) : Option RS := (if 4 ≤ x2 then (some s) else (if vpb ((4 * x1) + x2) 8 then (letS (s.sf 27 (Int32.toNatClampNeg ((4 * x1) + x2)) 0) fun s3 => (if vpb ((4 * x1) + x2) 8 then (letS (s3.sf 28 (Int32.toNatClampNeg ((4 * x1) + x2)) 0) fun s6 => k23 s6 x1 (x2 + 1)) else none)) else none))
noncomputable def r_plain_23L : Nat → RS → Int32 → Int32 → Option RS
  | 0, _, _, _ => none
  | n + 1, s, x1, x2 => r_plain_23 (r_plain_23L n) s x1 x2
noncomputable def r_plain (s : RS) (x1 : Int32) : Option RS := (if vpb x1 2 then (letS (s.sf 20 (Int32.toNatClampNeg x1) 0) fun s2 => (if vpb x1 2 then (letS (s2.sf 23 (Int32.toNatClampNeg x1) 0) fun s5 => (if vpb x1 2 then (letS (s5.sf 26 (Int32.toNatClampNeg x1) 0) fun s8 => r_plain_23L fu s8 x1 0) else none)) else none)) else none)
noncomputable def r_roomFor_10 (s : RS) : Option RS := (if (s.v 13) = 0 then (bindP (r_goesOn s) fun s2 => (some s2)) else (some s))
noncomputable def r_roomFor (s : RS) (x1 : Int32) (x2 : Int32) : Option RS := (if x1 = x2 then (bindP (r_fail s 2) fun s2 => r_roomFor_10 s2) else r_roomFor_10 s)
noncomputable def r_bounded_15 (s : RS) : Option (Int32 × RS) := (bindP (r_fail s 1) fun s1 => (some (0, s1)))
noncomputable def r_bounded_46 (s : RS) (x2 : Int32) : Option (Int32 × RS) := (bindP (r_goesOn s) fun s1 => (some (x2, s1)))
noncomputable def r_bounded (s : RS) (x1 : Int32) : Option (Int32 × RS) := (if 0 < (s.v 13) then r_bounded_15 s else (bindI (r_is s 2) fun r3 s2 => (if r3 = 0 then r_bounded_15 s2 else (if vpb (s2.v 11) 403 then (if (s2.f 7 (Int32.toNatClampNeg (s2.v 11))) ≤ x1 then r_bounded_46 s2 (s2.f 7 (Int32.toNatClampNeg (s2.v 11))) else (bindP (r_wrong s2 5 (s2.v 11)) fun s7 => r_bounded_46 s7 (s2.f 7 (Int32.toNatClampNeg (s2.v 11))))) else none))))
noncomputable def r_tellWave_93 (s : RS) : Option RS := (bindP (r_must s 4) fun s1 => (if vpb (s1.v 19) 2 then (if vpb (s1.v 19) 2 then (letS (s1.sf 20 (Int32.toNatClampNeg (s1.v 19)) ((s1.f 20 (Int32.toNatClampNeg (s1.v 19))) + 1)) fun s4 => (some s4)) else none) else none))
noncomputable def r_tellWave_31 (k31 : RS → Int32 → Int32 → Int32 → Int32 → Option RS) (s : RS) (x1 : Int32) (x2 : Int32) (x3 : Int32) (x4 : Int32) : Option RS := (if 6 ≤ x4 then (if (s.v 13) = 0 then (if x2 = 0 then (bindP (r_wrong s 5 x3) fun s4 => r_tellWave_93 s4) else r_tellWave_93 s) else r_tellWave_93 s) else (bindI (r_bounded s 9) fun r6 s5 => (if vpb (x1 + x4) 60 then (letS (s5.sf 21 (Int32.toNatClampNeg (x1 + x4)) r6) fun s8 => (if vpb (x1 + x4) 60 then k31 s8 x1 (x2 + (s8.f 21 (Int32.toNatClampNeg (x1 + x4)))) (s.v 11) (x4 + 1) else none)) else none)))
noncomputable def r_tellWave_31L : Nat → RS → Int32 → Int32 → Int32 → Int32 → Option RS
  | 0, _, _, _, _, _ => none
  | n + 1, s, x1, x2, x3, x4 => r_tellWave_31 (r_tellWave_31L n) s x1 x2 x3 x4
noncomputable def r_tellWave (s : RS) : Option RS := (if vpb (s.v 19) 2 then r_tellWave_31L fu s ((30 * (s.v 19)) + (6 * (s.f 20 (Int32.toNatClampNeg (s.v 19))))) 0 (s.v 11) 0 else none)
noncomputable def r_tellParty_78 (s : RS) (x1 : Int32) (x2 : Int32) : Option RS := (bindI (r_bounded s 9) fun r2 s1 => (if vpb x1 12 then (letS (s1.sf 24 (Int32.toNatClampNeg x1) r2) fun s4 => (bindI (r_bounded s4 9) fun r7 s6 => (if vpb x1 12 then (letS (s6.sf 25 (Int32.toNatClampNeg x1) r7) fun s9 => (bindP (r_must s9 4) fun s11 => (if (s11.v 13) ≤ 0 then (if vpb (s11.v 19) 2 then (if vpb x2 403 then (if vpb (s11.f 23 (Int32.toNatClampNeg (s11.v 19))) 6 then (letS (s11.sg 22 (Int32.toNatClampNeg (s11.f 23 (Int32.toNatClampNeg (s11.v 19)))) (s11.g 8 (Int32.toNatClampNeg x2))) fun s16 => (if vpb (s16.v 19) 2 then (if vpb (s16.v 19) 2 then (letS (s16.sf 23 (Int32.toNatClampNeg (s16.v 19)) ((s16.f 23 (Int32.toNatClampNeg (s16.v 19))) + 1)) fun s20 => (some s20)) else none) else none)) else none) else none) else none) else (some s11)))) else none))) else none))
noncomputable def r_tellParty_72 (k30 : RS → Int32 → Int32 → Int32 → Option RS) (s : RS) (x1 : Int32) (x2 : Int32) (x3 : Int32) : Option RS := k30 s x1 x2 (x3 + 1)
noncomputable def r_tellParty_30 (k30 : RS → Int32 → Int32 → Int32 → Option RS) (s : RS) (x1 : Int32) (x2 : Int32) (x3 : Int32) : Option RS := (if vpb (s.v 19) 2 then (if (s.f 23 (Int32.toNatClampNeg (s.v 19))) ≤ x3 then r_tellParty_78 s x1 x2 else (if (s.v 13) = 0 then (if vpb x3 6 then (if vpb x2 403 then (if (lg_cmp (s.g 22 (Int32.toNatClampNeg x3)) (s.g 8 (Int32.toNatClampNeg x2))) = 0 then (bindP (r_wrong s 3 x2) fun s7 => r_tellParty_72 k30 s7 x1 x2 x3) else r_tellParty_72 k30 s x1 x2 x3) else none) else none) else r_tellParty_78 s x1 x2)) else none)
noncomputable def r_tellParty_30L : Nat → RS → Int32 → Int32 → Int32 → Option RS
  | 0, _, _, _, _ => none
  | n + 1, s, x1, x2, x3 => r_tellParty_30 (r_tellParty_30L n) s x1 x2 x3
noncomputable def r_tellParty (s : RS) : Option RS := (if vpb (s.v 19) 2 then (bindP (r_must s 1) fun s2 => r_tellParty_30L fu s2 ((6 * (s.v 19)) + (s.f 23 (Int32.toNatClampNeg (s.v 19)))) (s.v 11) 0) else none)
noncomputable def r_emit (s : RS) (x1 : Int32) (x2 : Int32) : Option RS := (if vpb (s.v 35) 840 then (letS (s.sf 36 (Int32.toNatClampNeg (s.v 35)) x1) fun s2 => (if vpb (s2.v 35) 840 then (letS (s2.sf 37 (Int32.toNatClampNeg (s2.v 35)) x2) fun s5 => (letS (s5.sv 35 ((s5.v 35) + 1)) fun s7 => (some s7))) else none)) else none)
noncomputable def r_unit_88 (s : RS) : Option RS := (bindP (r_fail s 1) fun s1 => (some s1))
noncomputable def r_unit (s : RS) : Option RS := (bindI (r_is s 2) fun r2 s1 => (if r2 = 0 then (if (s1.v 13) = 0 then (if vpb (s1.v 11) 403 then (if (s1.f 5 (Int32.toNatClampNeg (s1.v 11))) < 30 then r_unit_88 s1 else (if vpb (s1.v 11) 403 then (if 38 < (s1.f 5 (Int32.toNatClampNeg (s1.v 11))) then r_unit_88 s1 else (if vpb (s1.v 11) 403 then (bindP (r_emit s1 1 ((s1.f 5 (Int32.toNatClampNeg (s1.v 11))) - 30)) fun s10 => (bindP (r_goesOn s10) fun s11 => (some s11))) else none)) else none)) else none) else r_unit_88 s1) else (if vpb (s1.v 11) 403 then (bindP (r_emit s1 0 (s1.f 7 (Int32.toNatClampNeg (s1.v 11)))) fun s13 => (bindP (r_goesOn s13) fun s14 => (some s14))) else none)))
noncomputable def r_comesOut_84 (k0 : RS → Int32 → Option RS) (s : RS) (x1 : Int32) (t0 : Int32) : Option RS := (bindP (r_emit s t0 0) fun s1 => k0 s1 x1)
noncomputable def r_comesOut_42 (k0 : RS → Int32 → Option RS) (s : RS) (x1 : Int32) (x2 : Int32) : Option RS := (letS (s.sv 39 ((s.v 39) - 1)) fun s1 => (if x2 = 8 then r_comesOut_84 k0 s1 x1 2 else (if x2 = 9 then r_comesOut_84 k0 s1 x1 3 else (if x2 = 10 then r_comesOut_84 k0 s1 x1 4 else r_comesOut_84 k0 s1 x1 5))))
noncomputable def r_comesOut_0 (k0 : RS → Int32 → Option RS) (s : RS) (x1 : Int32) : Option RS := (if (s.v 39) ≤ 0 then (some s) else (if vpb ((s.v 39) - 1) 64 then (if (s.f 38 (Int32.toNatClampNeg ((s.v 39) - 1))) = 6 then (some s) else (if x1 = 0 then r_comesOut_42 k0 s x1 (s.f 38 (Int32.toNatClampNeg ((s.v 39) - 1))) else (if (s.f 38 (Int32.toNatClampNeg ((s.v 39) - 1))) = 8 then (some s) else (if (s.f 38 (Int32.toNatClampNeg ((s.v 39) - 1))) = 9 then (some s) else r_comesOut_42 k0 s x1 (s.f 38 (Int32.toNatClampNeg ((s.v 39) - 1))))))) else none))
noncomputable def r_comesOut_0L : Nat → RS → Int32 → Option RS
  | 0, _, _ => none
  | n + 1, s, x1 => r_comesOut_0 (r_comesOut_0L n) s x1
noncomputable def r_comesOut (s : RS) (x1 : Int32) : Option RS := r_comesOut_0L fu s x1
noncomputable def r_expression_234 (k12 : RS → Int32 → Int32 → Option RS) (s : RS) (x1 : Int32) (x2 : Int32) (t0 : Int32) : Option RS := (bindP (r_comesOut s t0) fun s1 => (if vpb (s1.v 11) 403 then (if vpb (s1.v 39) 64 then (letS (s1.sf 38 (Int32.toNatClampNeg (s1.v 39)) (s1.f 5 (Int32.toNatClampNeg (s1.v 11)))) fun s4 => (letS (s4.sv 39 ((s4.v 39) + 1)) fun s6 => (bindP (r_goesOn s6) fun s8 => k12 s8 x1 x2))) else none) else none))
noncomputable def r_expression_229 (k12 : RS → Int32 → Int32 → Option RS) (s : RS) (x1 : Int32) (x2 : Int32) : Option RS := r_expression_234 k12 s x1 x2 1
noncomputable def r_expression_204 (s : RS) : Option RS := (bindP (r_comesOut s 0) fun s1 => (some s1))
noncomputable def r_expression_186 (k12 : RS → Int32 → Int32 → Option RS) (s : RS) (x1 : Int32) (t0 : Int32) : Option RS := (if t0 = 0 then (if (s.v 12) ≤ x1 then r_expression_204 s else (bindP (r_fail s 1) fun s9 => r_expression_204 s9)) else (bindI (r_is s 10) fun r3 s2 => (if r3 = 0 then (bindI (r_is s2 15) fun r6 s5 => (if r6 = 0 then r_expression_234 k12 s5 x1 t0 0 else r_expression_229 k12 s5 x1 t0)) else r_expression_229 k12 s2 x1 t0)))
noncomputable def r_expression_181 (k12 : RS → Int32 → Int32 → Option RS) (s : RS) (x1 : Int32) : Option RS := r_expression_186 k12 s x1 1
noncomputable def r_expression_145 (k12 : RS → Int32 → Int32 → Option RS) (s : RS) (x1 : Int32) : Option RS := (bindI (r_is s 8) fun r2 s1 => (if r2 = 0 then (bindI (r_is s1 9) fun r5 s4 => (if r5 = 0 then (bindI (r_is s4 10) fun r8 s7 => (if r8 = 0 then (bindI (r_is s7 15) fun r11 s10 => (if r11 = 0 then r_expression_186 k12 s10 x1 0 else r_expression_181 k12 s10 x1)) else r_expression_181 k12 s7 x1)) else r_expression_181 k12 s4 x1)) else r_expression_181 k12 s1 x1))
noncomputable def r_expression_96 (k12 : RS → Int32 → Int32 → Option RS) (k96 : RS → Int32 → Option RS) (s : RS) (x1 : Int32) : Option RS := (bindI (r_is s 7) fun r2 s1 => (if r2 = 0 then r_expression_145 k12 s1 x1 else (if (s1.v 12) ≤ x1 then r_expression_145 k12 s1 x1 else (bindP (r_comesOut s1 0) fun s5 => (letS (s5.sv 39 ((s5.v 39) - 1)) fun s6 => (letS (s6.sv 12 ((s6.v 12) - 1)) fun s8 => (bindP (r_goesOn s8) fun s10 => k96 s10 x1)))))))
noncomputable def r_expression_96L (k12 : RS → Int32 → Int32 → Option RS) : Nat → RS → Int32 → Option RS
  | 0, _, _ => none
  | n + 1, s, x1 => r_expression_96 k12 (r_expression_96L k12 n) s x1
noncomputable def r_expression_46 (k12 : RS → Int32 → Int32 → Option RS) (k23 : RS → Int32 → Option RS) (s : RS) (x1 : Int32) : Option RS := (letS (s.sv 12 ((s.v 12) + 1)) fun s1 => (bindP (r_goesOn s1) fun s3 => (if vpb (s3.v 39) 64 then (letS (s3.sf 38 (Int32.toNatClampNeg (s3.v 39)) 6) fun s5 => (letS (s5.sv 39 ((s5.v 39) + 1)) fun s7 => k23 s7 x1)) else none)))
noncomputable def r_expression_23 (k12 : RS → Int32 → Int32 → Option RS) (k23 : RS → Int32 → Option RS) (s : RS) (x1 : Int32) : Option RS := (bindI (r_is s 6) fun r2 s1 => (if r2 = 0 then (bindP (r_unit s1) fun s4 => (if (s4.v 13) ≤ 0 then r_expression_96L k12 fu s4 x1 else (some s4))) else (if (s1.v 12) = 6 then (bindP (r_fail s1 2) fun s7 => r_expression_46 k12 k23 s7 x1) else r_expression_46 k12 k23 s1 x1)))
noncomputable def r_expression_23L (k12 : RS → Int32 → Int32 → Option RS) : Nat → RS → Int32 → Option RS
  | 0, _, _ => none
  | n + 1, s, x1 => r_expression_23 k12 (r_expression_23L k12 n) s x1
noncomputable def r_expression_12 (k12 : RS → Int32 → Int32 → Option RS) (s : RS) (x1 : Int32) (x2 : Int32) : Option RS := (if x2 = 0 then (some s) else (if (s.v 13) = 0 then r_expression_23L k12 fu s x1 else (some s)))
noncomputable def r_expression_12L : Nat → RS → Int32 → Int32 → Option RS
  | 0, _, _, _ => none
  | n + 1, s, x1, x2 => r_expression_12 (r_expression_12L n) s x1 x2
noncomputable def r_expression (s : RS) : Option RS := (letS (s.sv 39 0) fun s1 => r_expression_12L fu s1 (s1.v 12) 1)
noncomputable def r_term_24 (s : RS) : Option RS := (if vpb (s.v 29) 260 then (letS (s.sf 34 (Int32.toNatClampNeg (s.v 29)) (s.v 35)) fun s2 => (letS (s2.sv 29 ((s2.v 29) + 1)) fun s4 => (some s4))) else none)
noncomputable def r_term (s : RS) : Option RS := (if vpb (s.v 29) 260 then (letS (s.sf 33 (Int32.toNatClampNeg (s.v 29)) (s.v 35)) fun s2 => (if (s2.v 13) = 0 then (bindP (r_expression s2) fun s5 => r_term_24 s5) else r_term_24 s2)) else none)
noncomputable def r_tellLaw_129 (s : RS) (x1 : Int32) (x2 : Int32) : Option RS := (if vpb (s.v 29) 260 then (letS (s.sf 30 (Int32.toNatClampNeg (s.v 29)) (vp_nar .boolean 0)) fun s2 => (bindP (r_term s2) fun s4 => (bindP (r_must s4 4) fun s5 => (if (s5.v 13) ≤ 0 then (if vpb ((4 * (s5.v 19)) + x1) 8 then (letS (s5.sf 27 (Int32.toNatClampNeg ((4 * (s5.v 19)) + x1)) x2) fun s8 => (if vpb ((4 * (s8.v 19)) + x1) 8 then (letS (s8.sf 28 (Int32.toNatClampNeg ((4 * (s8.v 19)) + x1)) (s8.v 29)) fun s11 => (some s11)) else none)) else none) else (some s5))))) else none)
noncomputable def r_tellLaw_110 (k12 : RS → Int32 → Int32 → Int32 → Option RS) (s : RS) (x1 : Int32) (x2 : Int32) (x3 : Int32) : Option RS := (bindP (r_must s 28) fun s1 => (bindP (r_term s1) fun s2 => (bindP (r_must s2 29) fun s3 => k12 s3 x1 x2 x3)))
noncomputable def r_tellLaw_38 (k12 : RS → Int32 → Int32 → Int32 → Option RS) (s : RS) (x1 : Int32) (x2 : Int32) (x3 : Int32) : Option RS := (if (s.v 13) ≤ 0 then (bindP (r_goesOn s) fun s2 => (if vpb (s2.v 29) 260 then (letS (s2.sf 30 (Int32.toNatClampNeg (s2.v 29)) (vp_nar .boolean 1)) fun s4 => (if vpb (s4.v 29) 260 then (letS (s4.sf 31 (Int32.toNatClampNeg (s4.v 29)) (s4.v 35)) fun s7 => (bindP (r_expression s7) fun s9 => (bindP (r_must s9 13) fun s10 => (if vpb (s10.v 29) 260 then (letS (s10.sf 32 (Int32.toNatClampNeg (s10.v 29)) (s10.v 35)) fun s12 => (if (s12.v 13) = 0 then (bindP (r_expression s12) fun s15 => r_tellLaw_110 k12 s15 x1 x2 (x3 + 1)) else r_tellLaw_110 k12 s12 x1 x2 (x3 + 1))) else none)))) else none)) else none)) else (some s))
noncomputable def r_tellLaw_12 (k12 : RS → Int32 → Int32 → Int32 → Option RS) (s : RS) (x1 : Int32) (x2 : Int32) (x3 : Int32) : Option RS := (if (s.v 13) = 0 then (bindI (r_is s 27) fun r3 s2 => (if r3 = 0 then r_tellLaw_129 s2 x1 x2 else (if x3 = 4 then (bindP (r_fail s2 2) fun s6 => r_tellLaw_38 k12 s6 x1 x2 x3) else r_tellLaw_38 k12 s2 x1 x2 x3))) else r_tellLaw_129 s x1 x2)
noncomputable def r_tellLaw_12L : Nat → RS → Int32 → Int32 → Int32 → Option RS
  | 0, _, _, _, _ => none
  | n + 1, s, x1, x2, x3 => r_tellLaw_12 (r_tellLaw_12L n) s x1 x2 x3
noncomputable def r_tellLaw (s : RS) (x1 : Int32) : Option RS := (bindP (r_must s 5) fun s1 => r_tellLaw_12L fu s1 x1 (s1.v 29) 0)
noncomputable def r_tellOne_165 (s : RS) (x1 : Int32) : Option RS := (if (s.v 13) ≤ 0 then (bindP (r_goesOn s) fun s2 => (bindP (r_tellLaw s2 x1) fun s3 => (some s3))) else (some s))
noncomputable def r_tellOne_160 (s : RS) (x1 : Int32) : Option RS := (bindP (r_fail s 1) fun s1 => r_tellOne_165 s1 x1)
noncomputable def r_tellOne (s : RS) : Option RS := (if vpb (s.v 11) 403 then (if (s.f 5 (Int32.toNatClampNeg (s.v 11))) = 20 then (if vpb (s.v 19) 2 then (bindP (r_roomFor s (s.f 20 (Int32.toNatClampNeg (s.v 19))) 5) fun s4 => (if (s4.v 13) = 0 then (bindP (r_tellWave s4) fun s6 => (some s6)) else (some s4))) else none) else (if (s.f 5 (Int32.toNatClampNeg (s.v 11))) = 21 then (if vpb (s.v 19) 2 then (bindP (r_roomFor s (s.f 23 (Int32.toNatClampNeg (s.v 19))) 6) fun s9 => (if (s9.v 13) = 0 then (bindP (r_tellParty s9) fun s11 => (some s11)) else (some s9))) else none) else (if (s.f 5 (Int32.toNatClampNeg (s.v 11))) = 26 then (bindP (r_goesOn s) fun s13 => (bindI (r_bounded s13 9999) fun r15 s14 => (if vpb (s13.v 19) 2 then (letS (s14.sf 26 (Int32.toNatClampNeg (s13.v 19)) r15) fun s17 => (bindP (r_must s17 4) fun s19 => (some s19))) else none))) else (if vpb (s.v 11) 403 then (if ((s.f 5 (Int32.toNatClampNeg (s.v 11))) - 22) < 0 then r_tellOne_160 s ((s.f 5 (Int32.toNatClampNeg (s.v 11))) - 22) else (if vpb (s.v 11) 403 then (if (s.f 5 (Int32.toNatClampNeg (s.v 11))) ≤ 25 then r_tellOne_165 s ((s.f 5 (Int32.toNatClampNeg (s.v 11))) - 22) else r_tellOne_160 s ((s.f 5 (Int32.toNatClampNeg (s.v 11))) - 22)) else none)) else none)))) else none)
noncomputable def r_begins_46 (k46 : RS → Int32 → Option RS) (s : RS) (x1 : Int32) : Option RS := (if 6 ≤ x1 then (if vpb (s.v 18) 2 then (letS (s.sv 45 (s.f 26 (Int32.toNatClampNeg (s.v 18)))) fun s3 => (some s3)) else none) else (if vpb (x1 - 1) 6 then (if vpb x1 6 then (letS (s.sf 46 (Int32.toNatClampNeg x1) (6 * (s.f 46 (Int32.toNatClampNeg (x1 - 1))))) fun s7 => k46 s7 (x1 + 1)) else none) else none))
noncomputable def r_begins_46L : Nat → RS → Int32 → Option RS
  | 0, _, _ => none
  | n + 1, s, x1 => r_begins_46 (r_begins_46L n) s x1
noncomputable def r_begins_30 (k2 : RS → Int32 → Option RS) (s : RS) (x1 : Int32) (t0 : Int32) (t1 : Int32) : Option RS := (if vpb t1 29 then (letS (s.sf 44 (Int32.toNatClampNeg t1) t0) fun s2 => k2 s2 (x1 + 1)) else none)
noncomputable def r_begins_29 (k2 : RS → Int32 → Option RS) (s : RS) (x1 : Int32) (t0 : Int32) : Option RS := r_begins_30 k2 s x1 0 t0
noncomputable def r_begins_2 (k2 : RS → Int32 → Option RS) (s : RS) (x1 : Int32) : Option RS := (if 29 ≤ x1 then (letS (s.sf 46 0 1) fun s2 => r_begins_46L fu s2 1) else (if x1 < 5 then r_begins_29 k2 s x1 x1 else (if 10 ≤ x1 then r_begins_29 k2 s x1 x1 else r_begins_30 k2 s x1 (-2) x1)))
noncomputable def r_begins_2L : Nat → RS → Int32 → Option RS
  | 0, _, _ => none
  | n + 1, s, x1 => r_begins_2 (r_begins_2L n) s x1
noncomputable def r_begins (s : RS) : Option RS := r_begins_2L fu s 0
noncomputable def r_keepsRow_2 (k2 : RS → Int32 → Option RS) (s : RS) (x1 : Int32) : Option RS := (if 29 ≤ x1 then (some s) else (if vpb x1 29 then (if vpb x1 29 then (letS (s.sf 43 (Int32.toNatClampNeg x1) (s.f 44 (Int32.toNatClampNeg x1))) fun s4 => k2 s4 (x1 + 1)) else none) else none))
noncomputable def r_keepsRow_2L : Nat → RS → Int32 → Option RS
  | 0, _, _ => none
  | n + 1, s, x1 => r_keepsRow_2 (r_keepsRow_2L n) s x1
noncomputable def r_keepsRow (s : RS) : Option RS := r_keepsRow_2L fu s 0
noncomputable def r_read_214 (k214 : RS → Int32 → Option (Int32 × RS)) (s : RS) (x1 : Int32) : Option (Int32 × RS) := (if 3 ≤ x1 then (some (0, s)) else (if vpb x1 3 then (letS (s.sf 56 (Int32.toNatClampNeg x1) (vp_nar .boolean 0)) fun s3 => k214 s3 (x1 + 1)) else none))
noncomputable def r_read_214L : Nat → RS → Int32 → Option (Int32 × RS)
  | 0, _, _ => none
  | n + 1, s, x1 => r_read_214 (r_read_214L n) s x1
noncomputable def r_read_159 (s : RS) (t0 : Int32) : Option (Int32 × RS) := (letS (s.sv 17 t0) fun s1 => (if (s1.v 13) ≤ 0 then (if (s1.v 15) ≤ 0 then (letS (s1.sv 18 (s1.v 19)) fun s5 => (bindP (r_begins s5) fun s7 => (bindP (r_keepsRow s7) fun s8 => (letS (s8.sv 48 0) fun s9 => (letS (s9.sv 51 0) fun s11 => r_read_214L fu s11 0))))) else (some ((s1.v 15), s1))) else (some ((s1.v 13), s1))))
noncomputable def r_read_129 (s : RS) : Option (Int32 × RS) := (if (s.v 13) ≤ 0 then (if (s.v 15) ≤ 0 then r_read_159 s (-1) else r_read_159 s (s.v 16)) else r_read_159 s (s.v 14))
noncomputable def r_read_107 (k107 : RS → Option (Int32 × RS)) (s : RS) : Option (Int32 × RS) := (if (s.v 13) = 0 then (bindI (r_is s 0) fun r3 s2 => (if r3 = 0 then (bindP (r_tellOne s2) fun s5 => k107 s5) else r_read_129 s2)) else r_read_129 s)
noncomputable def r_read_107L : Nat → RS → Option (Int32 × RS)
  | 0, _ => none
  | n + 1, s => r_read_107 (r_read_107L n) s
noncomputable def r_read_10 (k10 : RS → Int32 → Option (Int32 × RS)) (s : RS) (x1 : Int32) : Option (Int32 × RS) := (if (s.v 4) ≤ x1 then (letS (s.sv 2 0) fun s2 => (bindP (r_cut s2) fun s4 => (letS (s4.sv 11 0) fun s5 => (letS (s5.sv 12 0) fun s7 => (letS (s7.sv 13 0) fun s9 => (letS (s9.sv 15 0) fun s11 => (letS (s11.sv 19 (1 - (s11.v 18))) fun s13 => (bindP (r_plain s13 (s13.v 19)) fun s15 => (letS (s15.sv 29 (130 * (s15.v 19))) fun s16 => (letS (s16.sv 35 (420 * (s16.v 19))) fun s18 => r_read_107L fu s18)))))))))) else (if vpb x1 2000 then (if vpb x1 2000 then (letS (s.sf 3 (Int32.toNatClampNeg x1) (vp_nar .byte (s.f 1 (Int32.toNatClampNeg x1)))) fun s22 => k10 s22 (x1 + 1)) else none) else none))
noncomputable def r_read_10L : Nat → RS → Int32 → Option (Int32 × RS)
  | 0, _, _ => none
  | n + 1, s, x1 => r_read_10 (r_read_10L n) s x1
noncomputable def r_read (s : RS) : Option (Int32 × RS) := (letS (s.sv 4 (s.v 2)) fun s1 => r_read_10L fu s1 0)
noncomputable def r_place (s : RS) : Option (Int32 × RS) := (some ((s.v 17), s))
noncomputable def r_termOf_159 (k5 : RS → Int32 → Int32 → Int32 → Option (Int32 × RS)) (s : RS) (x2 : Int32) (x3 : Int32) (x4 : Int32) : Option (Int32 × RS) := k5 s x2 x3 (x4 + 1)
noncomputable def r_termOf_158 (k5 : RS → Int32 → Int32 → Int32 → Option (Int32 × RS)) (s : RS) (x2 : Int32) (x3 : Int32) (x4 : Int32) (t0 : Int32) (t1 : Int32) : Option (Int32 × RS) := (if vpb t1 400 then (letS (s.sf 41 (Int32.toNatClampNeg t1) t0) fun s2 => r_termOf_159 k5 s2 x2 x3 x4) else none)
noncomputable def r_termOf_104 (k5 : RS → Int32 → Int32 → Int32 → Option (Int32 × RS)) (s : RS) (x2 : Int32) (x3 : Int32) (x4 : Int32) (x5 : Int32) (x6 : Int32) (x7 : Int32) : Option (Int32 × RS) := (if x5 = 2 then r_termOf_158 k5 s x2 x3 x4 (x6 + x7) (x3 - 1) else (if x5 = 3 then r_termOf_158 k5 s x2 x3 x4 (x6 - x7) (x3 - 1) else (if x5 = 4 then r_termOf_158 k5 s x2 x3 x4 (x6 * x7) (x3 - 1) else (if ¬ x7 = 0 then r_termOf_158 k5 s x2 x3 x4 (x6 / x7) (x3 - 1) else none))))
noncomputable def r_termOf_58 (k5 : RS → Int32 → Int32 → Int32 → Option (Int32 × RS)) (s : RS) (x2 : Int32) (x3 : Int32) (x4 : Int32) (t0 : Int32) (t1 : Int32) : Option (Int32 × RS) := (if vpb t1 400 then (letS (s.sf 41 (Int32.toNatClampNeg t1) t0) fun s2 => r_termOf_159 k5 s2 x2 (x3 + 1) x4) else none)
noncomputable def r_termOf_5 (k5 : RS → Int32 → Int32 → Int32 → Option (Int32 × RS)) (s : RS) (x2 : Int32) (x3 : Int32) (x4 : Int32) : Option (Int32 × RS) := (if x2 ≤ x4 then (some ((s.f 41 0), s)) else (if vpb x4 840 then (if 2 ≤ (s.f 36 (Int32.toNatClampNeg x4)) then (if vpb ((x3 + (-1)) - 1) 400 then (if vpb (x3 + (-1)) 400 then (if (s.f 36 (Int32.toNatClampNeg x4)) = 5 then (if (s.f 41 (Int32.toNatClampNeg (x3 + (-1)))) = 0 then (letS (s.sv 42 1) fun s8 => (some (0, s8))) else r_termOf_104 k5 s x2 (x3 + (-1)) x4 (s.f 36 (Int32.toNatClampNeg x4)) (s.f 41 (Int32.toNatClampNeg ((x3 + (-1)) - 1))) (s.f 41 (Int32.toNatClampNeg (x3 + (-1))))) else r_termOf_104 k5 s x2 (x3 + (-1)) x4 (s.f 36 (Int32.toNatClampNeg x4)) (s.f 41 (Int32.toNatClampNeg ((x3 + (-1)) - 1))) (s.f 41 (Int32.toNatClampNeg (x3 + (-1))))) else none) else none) else (if (s.f 36 (Int32.toNatClampNeg x4)) = 0 then (if vpb x4 840 then r_termOf_58 k5 s x2 x3 x4 (s.f 37 (Int32.toNatClampNeg x4)) x3 else none) else (if vpb x4 840 then (if vpb (s.f 37 (Int32.toNatClampNeg x4)) 9 then r_termOf_58 k5 s x2 x3 x4 (s.f 40 (Int32.toNatClampNeg (s.f 37 (Int32.toNatClampNeg x4)))) x3 else none) else none))) else none))
noncomputable def r_termOf_5L : Nat → RS → Int32 → Int32 → Int32 → Option (Int32 × RS)
  | 0, _, _, _, _ => none
  | n + 1, s, x2, x3, x4 => r_termOf_5 (r_termOf_5L n) s x2 x3 x4
noncomputable def r_termOf (s : RS) (x1 : Int32) (x2 : Int32) : Option (Int32 × RS) := r_termOf_5L fu s x2 0 x1
noncomputable def r_in (x0 : Int32) (x1 : Int32) (x2 : Int32) : Option Int32 := (if x0 < x1 then (some 0) else (if x2 < x0 then (some 0) else (some 1)))
noncomputable def r_within (x0 : Int32) (x1 : Int32) (x2 : Int32) : Option Int32 := (if x1 ≤ x0 then (if x0 ≤ x2 then (some x0) else (some x2)) else (some x1))
noncomputable def r_bits_4 (k4 : Int32 → Int32 → Int32 → Option Int32) (x0 : Int32) (x1 : Int32) (x2 : Int32) : Option Int32 := (if 6 ≤ x2 then (some x1) else k4 x0 (x1 + ((x0 >>> (x2 &&& 31)) &&& 1)) (x2 + 1))
noncomputable def r_bits_4L : Nat → Int32 → Int32 → Int32 → Option Int32
  | 0, _, _, _ => none
  | n + 1, x0, x1, x2 => r_bits_4 (r_bits_4L n) x0 x1 x2
noncomputable def r_bits (x0 : Int32) : Option Int32 := r_bits_4L fu x0 0 0
noncomputable def r_isWave (s : RS) (x1 : Int32) : Option (Int32 × RS) := (if vpb (s.v 18) 2 then (bindP (r_in x1 0 ((s.f 20 (Int32.toNatClampNeg (s.v 18))) - 1)) fun r2 => (if r2 = 0 ∨ r2 = 1 then some (r2, s) else none)) else none)
noncomputable def r_isParty (s : RS) (x1 : Int32) : Option (Int32 × RS) := (if vpb (s.v 18) 2 then (bindP (r_in x1 0 ((s.f 23 (Int32.toNatClampNeg (s.v 18))) - 1)) fun r2 => (if r2 = 0 ∨ r2 = 1 then some (r2, s) else none)) else none)
noncomputable def r_guesses (s : RS) : Option (Int32 × RS) := (if vpb (s.v 18) 2 then (if vpb (s.f 20 (Int32.toNatClampNeg (s.v 18))) 6 then (some ((s.f 46 (Int32.toNatClampNeg (s.f 20 (Int32.toNatClampNeg (s.v 18))))), s)) else none) else none)
noncomputable def r_isGuess (s : RS) (x1 : Int32) : Option (Int32 × RS) := (bindI (r_guesses s) fun r2 s1 => (bindP (r_in x1 0 (r2 - 1)) fun r3 => (if r3 = 0 ∨ r3 = 1 then some (r3, s1) else none)))
noncomputable def r_isThing (x0 : Int32) : Option Int32 := (bindP (r_in x0 0 5) fun r1 => (if r1 = 0 ∨ r1 = 1 then some r1 else none))
noncomputable def r_thingAt (s : RS) (x1 : Int32) (x2 : Int32) : Option (Int32 × RS) := (if vpb x2 6 then (if ¬ (s.f 46 (Int32.toNatClampNeg x2)) = 0 then (some (((x1 / (s.f 46 (Int32.toNatClampNeg x2))) - (x1 / (s.f 46 (Int32.toNatClampNeg x2))) / 6 * 6), s)) else none) else none)
noncomputable def r_copies_2 (k2 : RS → Int32 → Option RS) (s : RS) (x1 : Int32) : Option RS := (if 29 ≤ x1 then (if vpb (s.v 18) 2 then (letS (s.sv 45 (s.f 26 (Int32.toNatClampNeg (s.v 18)))) fun s3 => (some s3)) else none) else (if vpb x1 29 then (if vpb x1 29 then (letS (s.sf 44 (Int32.toNatClampNeg x1) (s.f 43 (Int32.toNatClampNeg x1))) fun s7 => k2 s7 (x1 + 1)) else none) else none))
noncomputable def r_copies_2L : Nat → RS → Int32 → Option RS
  | 0, _, _ => none
  | n + 1, s, x1 => r_copies_2 (r_copies_2L n) s x1
noncomputable def r_copies (s : RS) : Option RS := r_copies_2L fu s 0
noncomputable def r_mixed (x0 : Int32) (x1 : Int32) : Option Int32 := (some ((((x0 ^^^ x1) * 1103515245) + 12345) ^^^ (ushr (((x0 ^^^ x1) * 1103515245) + 12345) 15)))
noncomputable def r_lotOf (s : RS) (x1 : Int32) (x2 : Int32) : Option (Int32 × RS) := (bindP (r_mixed (s.v 45) 173) fun r1 => (bindP (r_mixed r1 x1) fun r2 => (if ¬ x2 = 0 then (some (((ushr r2 1) - (ushr r2 1) / x2 * x2), s)) else none)))
noncomputable def r_oddsAt (s : RS) (x1 : Int32) (x2 : Int32) : Option (Int32 × RS) := (if vpb (((30 * (s.v 18)) + (6 * x1)) + x2) 60 then (some ((s.f 21 (Int32.toNatClampNeg (((30 * (s.v 18)) + (6 * x1)) + x2))), s)) else none)
noncomputable def r_thereAt_55 (k55 : RS → Int32 → Int32 → Int32 → Int32 → Option (Int32 × RS)) (s : RS) (x1 : Int32) (x2 : Int32) (x3 : Int32) (x4 : Int32) : Option (Int32 × RS) := (if x3 < x2 then (some (x4, s)) else (bindI (r_oddsAt s x1 (x4 + 1)) fun r3 s2 => k55 s2 x1 (x2 + r3) x3 (x4 + 1)))
noncomputable def r_thereAt_55L : Nat → RS → Int32 → Int32 → Int32 → Int32 → Option (Int32 × RS)
  | 0, _, _, _, _, _ => none
  | n + 1, s, x1, x2, x3, x4 => r_thereAt_55 (r_thereAt_55L n) s x1 x2 x3 x4
noncomputable def r_thereAt_4 (k4 : RS → Int32 → Int32 → Int32 → Option (Int32 × RS)) (s : RS) (x1 : Int32) (x2 : Int32) (x3 : Int32) : Option (Int32 × RS) := (if 6 ≤ x3 then (if vpb (10 + x1) 29 then (bindI (r_lotOf s ((8 * (s.f 44 (Int32.toNatClampNeg (10 + x1)))) + x1) x2) fun r4 s3 => (bindI (r_oddsAt s3 x1 0) fun r6 s5 => r_thereAt_55L fu s5 x1 r6 r4 0)) else none) else (bindI (r_oddsAt s x1 x3) fun r8 s7 => k4 s7 x1 (x2 + r8) (x3 + 1)))
noncomputable def r_thereAt_4L : Nat → RS → Int32 → Int32 → Int32 → Option (Int32 × RS)
  | 0, _, _, _, _ => none
  | n + 1, s, x1, x2, x3 => r_thereAt_4 (r_thereAt_4L n) s x1 x2 x3
noncomputable def r_thereAt (s : RS) (x1 : Int32) : Option (Int32 × RS) := r_thereAt_4L fu s x1 0 0
noncomputable def r_thereNumber_4 (k4 : RS → Int32 → Int32 → Option (Int32 × RS)) (s : RS) (x1 : Int32) (x2 : Int32) : Option (Int32 × RS) := (if vpb (s.v 18) 2 then (if (s.f 20 (Int32.toNatClampNeg (s.v 18))) ≤ x2 then (some (x1, s)) else (if vpb x2 6 then (bindI (r_thereAt s x2) fun r5 s4 => k4 s4 (x1 + ((s.f 46 (Int32.toNatClampNeg x2)) * r5)) (x2 + 1)) else none)) else none)
noncomputable def r_thereNumber_4L : Nat → RS → Int32 → Int32 → Option (Int32 × RS)
  | 0, _, _, _ => none
  | n + 1, s, x1, x2 => r_thereNumber_4 (r_thereNumber_4L n) s x1 x2
noncomputable def r_thereNumber (s : RS) : Option (Int32 × RS) := r_thereNumber_4L fu s 0 0
noncomputable def r_mayAt_60 (k26 : RS → Int32 → Int32 → Int32 → Option (Int32 × RS)) (s : RS) (x1 : Int32) (x2 : Int32) (x3 : Int32) : Option (Int32 × RS) := k26 s x1 x2 (x3 + 1)
noncomputable def r_mayAt_26 (k26 : RS → Int32 → Int32 → Int32 → Option (Int32 × RS)) (s : RS) (x1 : Int32) (x2 : Int32) (x3 : Int32) : Option (Int32 × RS) := (if 6 ≤ x3 then (some (x2, s)) else (bindI (r_oddsAt s x1 x3) fun r3 s2 => (if r3 ≤ 0 then r_mayAt_60 k26 s2 x1 x2 x3 else (if vpb x1 29 then (if (((s2.f 44 (Int32.toNatClampNeg x1)) >>> (x3 &&& 31)) &&& 1) = 0 then r_mayAt_60 k26 s2 x1 (x2 ||| (1 <<< (x3 &&& 31))) x3 else r_mayAt_60 k26 s2 x1 x2 x3) else none))))
noncomputable def r_mayAt_26L : Nat → RS → Int32 → Int32 → Int32 → Option (Int32 × RS)
  | 0, _, _, _, _ => none
  | n + 1, s, x1, x2, x3 => r_mayAt_26 (r_mayAt_26L n) s x1 x2 x3
noncomputable def r_mayAt (s : RS) (x1 : Int32) : Option (Int32 × RS) := (if vpb (5 + x1) 29 then (if (s.f 44 (Int32.toNatClampNeg (5 + x1))) < 0 then r_mayAt_26L fu s x1 0 0 else (if vpb (5 + x1) 29 then (some ((1 <<< ((s.f 44 (Int32.toNatClampNeg (5 + x1))) &&& 31)), s)) else none)) else none)
noncomputable def r_lawTells_119 (s : RS) (x4 : Int32) : Option (Int32 × RS) := (if vpb x4 260 then (if vpb x4 260 then (bindI (r_termOf s (s.f 33 (Int32.toNatClampNeg x4)) (s.f 34 (Int32.toNatClampNeg x4))) fun r4 s3 => (if (s3.v 42) = 0 then (some (r4, s3)) else (some (0, s3)))) else none) else none)
noncomputable def r_lawTells_39 (k39 : RS → Int32 → Int32 → Option (Int32 × RS)) (s : RS) (x3 : Int32) (x4 : Int32) : Option (Int32 × RS) := (if vpb x3 8 then (if (s.f 28 (Int32.toNatClampNeg x3)) ≤ x4 then (some (0, s)) else (if vpb x4 260 then (if (s.f 30 (Int32.toNatClampNeg x4)) = 0 then r_lawTells_119 s x4 else (if vpb x4 260 then (if vpb x4 260 then (bindI (r_termOf s (s.f 31 (Int32.toNatClampNeg x4)) (s.f 32 (Int32.toNatClampNeg x4))) fun r8 s7 => (if vpb x4 260 then (if vpb x4 260 then (bindI (r_termOf s7 (s7.f 32 (Int32.toNatClampNeg x4)) (s7.f 33 (Int32.toNatClampNeg x4))) fun r12 s11 => (if (s11.v 42) = 0 then (if r8 < r12 then r_lawTells_119 s11 x4 else k39 s11 x3 (x4 + 1)) else (some (0, s11)))) else none) else none)) else none) else none)) else none)) else none)
noncomputable def r_lawTells_39L : Nat → RS → Int32 → Int32 → Option (Int32 × RS)
  | 0, _, _, _ => none
  | n + 1, s, x3, x4 => r_lawTells_39 (r_lawTells_39L n) s x3 x4
noncomputable def r_lawTells (s : RS) (x1 : Int32) (x2 : Int32) : Option (Int32 × RS) := (if vpb ((4 * (s.v 18)) + x1) 8 then (if vpb ((4 * (s.v 18)) + x1) 8 then (if (s.f 27 (Int32.toNatClampNeg ((4 * (s.v 18)) + x1))) = (s.f 28 (Int32.toNatClampNeg ((4 * (s.v 18)) + x1))) then (some (x2, s)) else (letS (s.sv 42 0) fun s4 => (if vpb ((4 * (s.v 18)) + x1) 8 then r_lawTells_39L fu s4 ((4 * (s.v 18)) + x1) (s4.f 27 (Int32.toNatClampNeg ((4 * (s.v 18)) + x1))) else none))) else none) else none)
noncomputable def r_looks_2 (k2 : RS → Int32 → Int32 → Option RS) (s : RS) (x1 : Int32) (x2 : Int32) : Option RS := (if 9 ≤ x2 then (letS (s.sf 40 5 (s.f 44 27)) fun s2 => (if 0 ≤ x1 then (if vpb ((6 * (s2.v 18)) + x1) 12 then (letS (s2.sf 40 2 (s2.f 24 (Int32.toNatClampNeg ((6 * (s2.v 18)) + x1)))) fun s6 => (if vpb ((6 * (s6.v 18)) + x1) 12 then (letS (s6.sf 40 3 (s6.f 25 (Int32.toNatClampNeg ((6 * (s6.v 18)) + x1)))) fun s9 => (letS (s9.sf 40 6 x1) fun s11 => (if vpb (21 + x1) 29 then (letS (s11.sf 40 8 (s11.f 44 (Int32.toNatClampNeg (21 + x1)))) fun s14 => (some s14)) else none))) else none)) else none) else (some s2))) else (if vpb x2 9 then (letS (s.sf 40 (Int32.toNatClampNeg x2) 0) fun s17 => k2 s17 x1 (x2 + 1)) else none))
noncomputable def r_looks_2L : Nat → RS → Int32 → Int32 → Option RS
  | 0, _, _, _ => none
  | n + 1, s, x1, x2 => r_looks_2 (r_looks_2L n) s x1 x2
noncomputable def r_looks (s : RS) (x1 : Int32) : Option RS := r_looks_2L fu s x1 0
noncomputable def r_looksOver (s : RS) (x1 : Int32) : Option RS := (letS (s.sf 40 0 x1) fun s1 => (bindI (r_mayAt s1 x1) fun r4 s3 => (bindP (r_bits r4) fun r5 => (letS (s3.sf 40 4 r5) fun s6 => (if vpb x1 29 then (bindP (r_bits (s6.f 44 (Int32.toNatClampNeg x1))) fun r9 => (letS (s6.sf 40 7 r9) fun s10 => (some s10))) else none)))))
noncomputable def r_needsOf (s : RS) (x1 : Int32) (x2 : Int32) (x3 : Int32) : Option (Int32 × RS) := (bindP (r_looks s x1) fun s1 => (bindP (r_looksOver s1 x2) fun s2 => (bindI (r_oddsAt s2 x2 x3) fun r4 s3 => (letS (s3.sf 40 1 r4) fun s5 => (bindI (r_lawTells s5 0 (s5.f 40 2)) fun r8 s7 => (bindP (r_within r8 0 9) fun r9 => (some (r9, s7))))))))
noncomputable def r_faresOf (s : RS) (x1 : Int32) : Option (Int32 × RS) := (bindP (r_looks s x1) fun s1 => (bindI (r_lawTells s1 1 1) fun r3 s2 => (bindP (r_within r3 0 99) fun r4 => (some (r4, s2)))))
noncomputable def r_doesDare (s : RS) (x1 : Int32) : Option (Int32 × RS) := (bindP (r_looks s x1) fun s1 => (bindI (r_lawTells s1 2 1) fun r3 s2 => (if r3 ≤ 0 then (some (0, s2)) else (some (1, s2)))))
noncomputable def r_shiftsOf (s : RS) (x1 : Int32) : Option (Int32 × RS) := (bindP (r_looks s (-1)) fun s1 => (bindP (r_looksOver s1 x1) fun s2 => (bindI (r_lawTells s2 3 0) fun r4 s3 => (bindP (r_within r4 0 100) fun r5 => (some (r5, s3))))))
noncomputable def r_doesBear (s : RS) (x1 : Int32) (x2 : Int32) (x3 : Int32) : Option (Int32 × RS) := (bindI (r_oddsAt s x2 x3) fun r2 s1 => (bindI (r_needsOf s1 x1 x2 x3) fun r4 s3 => (if r2 < r4 then (some (0, s3)) else (some (1, s3)))))
noncomputable def r_bearsBy_2 (k2 : RS → Int32 → Int32 → Int32 → Option (Int32 × RS)) (s : RS) (x1 : Int32) (x2 : Int32) (x3 : Int32) : Option (Int32 × RS) := (if vpb (s.v 18) 2 then (if (s.f 20 (Int32.toNatClampNeg (s.v 18))) ≤ x3 then (some (x3, s)) else (bindI (r_thingAt s x2 x3) fun r4 s3 => (bindI (r_doesBear s3 x1 x3 r4) fun r6 s5 => (if r6 = 0 then (some (x3, s5)) else k2 s5 x1 x2 (x3 + 1))))) else none)
noncomputable def r_bearsBy_2L : Nat → RS → Int32 → Int32 → Int32 → Option (Int32 × RS)
  | 0, _, _, _, _ => none
  | n + 1, s, x1, x2, x3 => r_bearsBy_2 (r_bearsBy_2L n) s x1 x2 x3
noncomputable def r_bearsBy (s : RS) (x1 : Int32) (x2 : Int32) : Option (Int32 × RS) := r_bearsBy_2L fu s x1 x2 0
noncomputable def r_goesBy_39 (k39 : RS → Int32 → Int32 → Int32 → Int32 → Int32 → Option (Int32 × RS)) (s : RS) (x1 : Int32) (x2 : Int32) (x3 : Int32) (x4 : Int32) (x5 : Int32) : Option (Int32 × RS) := (if vpb (s.v 18) 2 then (if (s.f 20 (Int32.toNatClampNeg (s.v 18))) ≤ x5 then (if vpb (15 + x1) 29 then (letS (s.sf 44 (Int32.toNatClampNeg (15 + x1)) 2) fun s4 => (if vpb (s4.v 18) 2 then (some ((s4.f 20 (Int32.toNatClampNeg (s4.v 18))), s4)) else none)) else none) else (bindI (r_thingAt s x2 x5) fun r8 s7 => (if x5 = x4 then (if vpb (15 + x1) 29 then (letS (s7.sf 44 (Int32.toNatClampNeg (15 + x1)) 1) fun s21 => (some (x5, s21))) else none) else (bindI (r_thingAt s7 x3 x5) fun r11 s10 => (if r8 = r11 then (if vpb (5 + x5) 29 then (letS (s10.sf 44 (Int32.toNatClampNeg (5 + x5)) r8) fun s14 => k39 s14 x1 x2 x3 x4 (x5 + 1)) else none) else (if vpb x5 29 then (if vpb x5 29 then (letS (s10.sf 44 (Int32.toNatClampNeg x5) ((s10.f 44 (Int32.toNatClampNeg x5)) ||| (1 <<< (r8 &&& 31)))) fun s18 => (some (x5, s18))) else none) else none)))))) else none)
noncomputable def r_goesBy_39L : Nat → RS → Int32 → Int32 → Int32 → Int32 → Int32 → Option (Int32 × RS)
  | 0, _, _, _, _, _, _ => none
  | n + 1, s, x1, x2, x3, x4, x5 => r_goesBy_39 (r_goesBy_39L n) s x1 x2 x3 x4 x5
noncomputable def r_goesBy (s : RS) (x1 : Int32) (x2 : Int32) (x3 : Int32) : Option (Int32 × RS) := (bindI (r_bearsBy s x1 x2) fun r2 s1 => (bindI (r_faresOf s1 x1) fun r4 s3 => (letS (s3.sf 44 28 ((s1.f 44 28) + r4)) fun s5 => (if vpb (21 + x1) 29 then (if vpb (21 + x1) 29 then (letS (s5.sf 44 (Int32.toNatClampNeg (21 + x1)) ((s5.f 44 (Int32.toNatClampNeg (21 + x1))) + 1)) fun s9 => r_goesBy_39L fu s9 x1 x2 x3 r2 0) else none) else none))))
noncomputable def r_yearGoes_119 (k64 : RS → Int32 → Option RS) (s : RS) (x1 : Int32) : Option RS := k64 s (x1 + 1)
noncomputable def r_yearGoes_64 (k64 : RS → Int32 → Option RS) (s : RS) (x1 : Int32) : Option RS := (if vpb (s.v 18) 2 then (if (s.f 20 (Int32.toNatClampNeg (s.v 18))) ≤ x1 then (letS (s.sf 44 27 ((s.f 44 27) + 1)) fun s3 => (some s3)) else (if vpb x1 5 then (if (s.f 47 (Int32.toNatClampNeg x1)) = 0 then r_yearGoes_119 k64 s x1 else (if vpb x1 29 then (letS (s.sf 44 (Int32.toNatClampNeg x1) 0) fun s8 => (if vpb (5 + x1) 29 then (letS (s8.sf 44 (Int32.toNatClampNeg (5 + x1)) (-2)) fun s11 => (if vpb (10 + x1) 29 then (if vpb (10 + x1) 29 then (letS (s11.sf 44 (Int32.toNatClampNeg (10 + x1)) ((s11.f 44 (Int32.toNatClampNeg (10 + x1))) + 1)) fun s15 => r_yearGoes_119 k64 s15 x1) else none) else none)) else none)) else none)) else none)) else none)
noncomputable def r_yearGoes_64L : Nat → RS → Int32 → Option RS
  | 0, _, _ => none
  | n + 1, s, x1 => r_yearGoes_64 (r_yearGoes_64L n) s x1
noncomputable def r_yearGoes_55 (k2 : RS → Int32 → Option RS) (s : RS) (x1 : Int32) (t0 : Int32) (t1 : Int32) : Option RS := (if vpb t1 5 then (letS (s.sf 47 (Int32.toNatClampNeg t1) (vp_nar .boolean t0)) fun s2 => k2 s2 (x1 + 1)) else none)
noncomputable def r_yearGoes_2 (k2 : RS → Int32 → Option RS) (s : RS) (x1 : Int32) : Option RS := (if vpb (s.v 18) 2 then (if (s.f 20 (Int32.toNatClampNeg (s.v 18))) ≤ x1 then r_yearGoes_64L fu s 0 else (bindI (r_lotOf s (((8 * (s.f 44 27)) + 1000000) + x1) 100) fun r4 s3 => (bindI (r_shiftsOf s3 x1) fun r6 s5 => (if r6 ≤ r4 then r_yearGoes_55 k2 s5 x1 0 x1 else r_yearGoes_55 k2 s5 x1 1 x1)))) else none)
noncomputable def r_yearGoes_2L : Nat → RS → Int32 → Option RS
  | 0, _, _ => none
  | n + 1, s, x1 => r_yearGoes_2 (r_yearGoes_2L n) s x1
noncomputable def r_yearGoes (s : RS) : Option RS := r_yearGoes_2L fu s 0
noncomputable def r_yearsGo_2 (k2 : RS → Int32 → Int32 → Option RS) (s : RS) (x1 : Int32) (x2 : Int32) : Option RS := (if x1 ≤ x2 then (some s) else (bindP (r_yearGoes s) fun s2 => k2 s2 x1 (x2 + 1)))
noncomputable def r_yearsGo_2L : Nat → RS → Int32 → Int32 → Option RS
  | 0, _, _, _ => none
  | n + 1, s, x1, x2 => r_yearsGo_2 (r_yearsGo_2L n) s x1 x2
noncomputable def r_yearsGo (s : RS) (x1 : Int32) : Option RS := r_yearsGo_2L fu s x1 0
noncomputable def r_wave (s : RS) (x1 : Int32) (x2 : Int32) : Option (Int32 × RS) := (bindI (r_isWave s x1) fun r2 s1 => (if r2 = 0 then (some ((-1), s1)) else (bindP (r_copies s1) fun s4 => (if x2 = 0 then (bindI (r_mayAt s4 x1) fun r7 s6 => (some (r7, s6))) else (if x2 = 1 then (if vpb (5 + x1) 29 then (some ((s4.f 44 (Int32.toNatClampNeg (5 + x1))), s4)) else none) else (if x2 = 2 then (if vpb x1 29 then (some ((s4.f 44 (Int32.toNatClampNeg x1)), s4)) else none) else (if x2 = 3 then (if vpb (10 + x1) 29 then (some ((s4.f 44 (Int32.toNatClampNeg (10 + x1))), s4)) else none) else (if x2 = 4 then (bindI (r_thereAt s4 x1) fun r16 s15 => (some (r16, s15))) else (if x2 = 5 then (bindI (r_shiftsOf s4 x1) fun r19 s18 => (some (r19, s18))) else (some ((-1), s4)))))))))))
noncomputable def r_odds (s : RS) (x1 : Int32) (x2 : Int32) : Option (Int32 × RS) := (bindI (r_isWave s x1) fun r2 s1 => (if r2 = 0 then (some ((-1), s1)) else (bindP (r_isThing x2) fun r4 => (if r4 = 0 then (some ((-1), s1)) else (bindI (r_oddsAt s1 x1 x2) fun r7 s6 => (some (r7, s6)))))))
noncomputable def r_party (s : RS) (x1 : Int32) (x2 : Int32) : Option (Int32 × RS) := (bindI (r_isParty s x1) fun r2 s1 => (if r2 = 0 then (some ((-1), s1)) else (bindP (r_copies s1) fun s4 => (if x2 = 0 then (if vpb ((6 * (s4.v 18)) + x1) 12 then (some ((s4.f 24 (Int32.toNatClampNeg ((6 * (s4.v 18)) + x1))), s4)) else none) else (if x2 = 1 then (if vpb ((6 * (s4.v 18)) + x1) 12 then (some ((s4.f 25 (Int32.toNatClampNeg ((6 * (s4.v 18)) + x1))), s4)) else none) else (if x2 = 2 then (if vpb (15 + x1) 29 then (some ((s4.f 44 (Int32.toNatClampNeg (15 + x1))), s4)) else none) else (if x2 = 3 then (if vpb (21 + x1) 29 then (some ((s4.f 44 (Int32.toNatClampNeg (21 + x1))), s4)) else none) else (if x2 = 4 then (bindI (r_faresOf s4 x1) fun r15 s14 => (some (r15, s14))) else (if x2 = 5 then (bindI (r_doesDare s4 x1) fun r18 s17 => (if r18 = 0 then (some (0, s17)) else (some (1, s17)))) else (some ((-1), s4)))))))))))
noncomputable def r_needs (s : RS) (x1 : Int32) (x2 : Int32) (x3 : Int32) : Option (Int32 × RS) := (bindI (r_isParty s x1) fun r2 s1 => (if r2 = 0 then (some ((-1), s1)) else (bindI (r_isWave s1 x2) fun r5 s4 => (if r5 = 0 then (some ((-1), s4)) else (bindP (r_isThing x3) fun r7 => (if r7 = 0 then (some ((-1), s4)) else (bindP (r_copies s4) fun s9 => (bindI (r_needsOf s9 x1 x2 x3) fun r11 s10 => (some (r11, s10))))))))))
noncomputable def r_records_51 (k51 : RS → Int32 → Option RS) (s : RS) (x1 : Int32) : Option RS := (if 29 ≤ x1 then (letS (s.sv 48 ((s.v 48) + 1)) fun s2 => (bindP (r_keepsRow s2) fun s4 => (some s4))) else (if vpb x1 29 then (if vpb ((29 * (s.v 48)) + x1) 1160 then (letS (s.sf 49 (Int32.toNatClampNeg ((29 * (s.v 48)) + x1)) (s.f 43 (Int32.toNatClampNeg x1))) fun s7 => k51 s7 (x1 + 1)) else none) else none))
noncomputable def r_records_51L : Nat → RS → Int32 → Option RS
  | 0, _, _ => none
  | n + 1, s, x1 => r_records_51 (r_records_51L n) s x1
noncomputable def r_records_49 (s : RS) : Option RS := r_records_51L fu s 0
noncomputable def r_records_11 (k11 : RS → Int32 → Option RS) (s : RS) (x1 : Int32) : Option RS := (if 1131 ≤ x1 then (letS (s.sv 48 ((s.v 48) - 1)) fun s2 => r_records_49 s2) else (if vpb (x1 + 29) 1160 then (if vpb x1 1160 then (letS (s.sf 49 (Int32.toNatClampNeg x1) (s.f 49 (Int32.toNatClampNeg (x1 + 29)))) fun s6 => k11 s6 (x1 + 1)) else none) else none))
noncomputable def r_records_11L : Nat → RS → Int32 → Option RS
  | 0, _, _ => none
  | n + 1, s, x1 => r_records_11 (r_records_11L n) s x1
noncomputable def r_records (s : RS) : Option RS := (if (s.v 48) = 40 then r_records_11L fu s 0 else r_records_49 s)
noncomputable def r_isHere (s : RS) (x1 : Int32) : Option (Int32 × RS) := (bindI (r_isParty s x1) fun r2 s1 => (if r2 = 0 then (some (0, s1)) else (if vpb (15 + x1) 29 then (if (s1.f 43 (Int32.toNatClampNeg (15 + x1))) = 0 then (some (1, s1)) else (some (0, s1))) else none)))
noncomputable def r_go (s : RS) (x1 : Int32) (x2 : Int32) : Option (Int32 × RS) := (bindI (r_isHere s x1) fun r2 s1 => (if r2 = 0 then (some ((-1), s1)) else (if vpb (s1.v 18) 2 then (if (s1.f 20 (Int32.toNatClampNeg (s1.v 18))) = 0 then (some ((-1), s1)) else (bindI (r_isGuess s1 x2) fun r7 s6 => (if r7 = 0 then (some ((-1), s6)) else (bindP (r_copies s6) fun s9 => (bindI (r_thereNumber s9) fun r11 s10 => (bindI (r_goesBy s10 x1 x2 r11) fun r13 s12 => (bindP (r_records s12) fun s14 => (some (r13, s14))))))))) else none)))
noncomputable def r_buoy_34 (s : RS) (x1 : Int32) (x2 : Int32) (x3 : Int32) (t0 : Int32) : Option (Int32 × RS) := (if t0 = x3 then (some (0, s)) else (bindP (r_copies s) fun s2 => (if vpb x1 29 then (if vpb x1 29 then (letS (s2.sf 44 (Int32.toNatClampNeg x1) ((s2.f 44 (Int32.toNatClampNeg x1)) ^^^ (1 <<< (x2 &&& 31)))) fun s5 => (bindP (r_records s5) fun s7 => (some (1, s7)))) else none) else none)))
noncomputable def r_buoy (s : RS) (x1 : Int32) (x2 : Int32) (x3 : Int32) : Option (Int32 × RS) := (bindI (r_isWave s x1) fun r2 s1 => (if r2 = 0 then (some (0, s1)) else (bindP (r_isThing x2) fun r4 => (if r4 = 0 then (some (0, s1)) else (if vpb x1 29 then (if (((s1.f 43 (Int32.toNatClampNeg x1)) >>> (x2 &&& 31)) &&& 1) = 1 then r_buoy_34 s1 x1 x2 x3 1 else r_buoy_34 s1 x1 x2 x3 0) else none)))))
noncomputable def r_fetch (s : RS) (x1 : Int32) : Option (Int32 × RS) := (bindI (r_isParty s x1) fun r2 s1 => (if r2 = 0 then (some (0, s1)) else (if vpb (15 + x1) 29 then (if (s1.f 43 (Int32.toNatClampNeg (15 + x1))) = 0 then (some (0, s1)) else (bindP (r_copies s1) fun s6 => (if vpb (15 + x1) 29 then (letS (s6.sf 44 (Int32.toNatClampNeg (15 + x1)) 0) fun s8 => (bindP (r_records s8) fun s10 => (some (1, s10)))) else none))) else none)))
noncomputable def r_isLong (x0 : Int32) : Option Int32 := (bindP (r_in x0 0 40) fun r1 => (if r1 = 0 ∨ r1 = 1 then some r1 else none))
noncomputable def r_years (s : RS) (x1 : Int32) : Option (Int32 × RS) := (bindP (r_isLong x1) fun r1 => (if r1 = 0 then (some ((-1), s)) else (if x1 = 0 then (some ((s.f 43 27), s)) else (bindP (r_copies s) fun s4 => (bindP (r_yearsGo s4 x1) fun s5 => (bindP (r_records s5) fun s6 => (some ((s6.f 43 27), s6))))))))
noncomputable def r_undo_21 (k21 : RS → Int32 → Option (Int32 × RS)) (s : RS) (x1 : Int32) : Option (Int32 × RS) := (if 29 ≤ x1 then (some (1, s)) else (if vpb ((29 * (s.v 48)) + x1) 1160 then (if vpb x1 29 then (letS (s.sf 43 (Int32.toNatClampNeg x1) (s.f 49 (Int32.toNatClampNeg ((29 * (s.v 48)) + x1)))) fun s4 => k21 s4 (x1 + 1)) else none) else none))
noncomputable def r_undo_21L : Nat → RS → Int32 → Option (Int32 × RS)
  | 0, _, _ => none
  | n + 1, s, x1 => r_undo_21 (r_undo_21L n) s x1
noncomputable def r_undo (s : RS) : Option (Int32 × RS) := (if (s.v 48) = 0 then (some (0, s)) else (letS (s.sv 48 ((s.v 48) - 1)) fun s2 => r_undo_21L fu s2 0))
noncomputable def r_casesNow_4 (k4 : RS → Int32 → Int32 → Option (Int32 × RS)) (s : RS) (x1 : Int32) (x2 : Int32) : Option (Int32 × RS) := (if vpb (s.v 18) 2 then (if (s.f 20 (Int32.toNatClampNeg (s.v 18))) ≤ x2 then (some (x1, s)) else (bindI (r_mayAt s x2) fun r4 s3 => (bindP (r_bits r4) fun r5 => k4 s3 (x1 * r5) (x2 + 1)))) else none)
noncomputable def r_casesNow_4L : Nat → RS → Int32 → Int32 → Option (Int32 × RS)
  | 0, _, _, _ => none
  | n + 1, s, x1, x2 => r_casesNow_4 (r_casesNow_4L n) s x1 x2
noncomputable def r_casesNow (s : RS) : Option (Int32 × RS) := r_casesNow_4L fu s 1 0
noncomputable def r_cases (s : RS) : Option (Int32 × RS) := (bindP (r_copies s) fun s1 => (bindI (r_casesNow s1) fun r3 s2 => (some (r3, s2))))
noncomputable def r_mayBe (s : RS) (x1 : Int32) (x2 : Int32) : Option (Int32 × RS) := (bindI (r_mayAt s x1) fun r2 s1 => (if ((r2 >>> (x2 &&& 31)) &&& 1) = 1 then (some (1, s1)) else (some (0, s1))))
noncomputable def r_chanceOf_47 (k4 : RS → Int32 → Int32 → Int32 → Option (Int32 × RS)) (s : RS) (x1 : Int32) (x3 : Int32) (t0 : Int32) (t1 : Int32) : Option (Int32 × RS) := k4 s x1 (t1 * t0) (x3 + 1)
noncomputable def r_chanceOf_4 (k4 : RS → Int32 → Int32 → Int32 → Option (Int32 × RS)) (s : RS) (x1 : Int32) (x2 : Int32) (x3 : Int32) : Option (Int32 × RS) := (if vpb (s.v 18) 2 then (if (s.f 20 (Int32.toNatClampNeg (s.v 18))) ≤ x3 then (some (x2, s)) else (bindI (r_thingAt s x1 x3) fun r4 s3 => (bindI (r_mayBe s3 x3 r4) fun r6 s5 => (if r6 = 0 then r_chanceOf_47 k4 s5 x1 x3 0 x2 else (bindI (r_oddsAt s5 x3 r4) fun r9 s8 => r_chanceOf_47 k4 s8 x1 x3 r9 x2))))) else none)
noncomputable def r_chanceOf_4L : Nat → RS → Int32 → Int32 → Int32 → Option (Int32 × RS)
  | 0, _, _, _, _ => none
  | n + 1, s, x1, x2, x3 => r_chanceOf_4 (r_chanceOf_4L n) s x1 x2 x3
noncomputable def r_chanceOf (s : RS) (x1 : Int32) : Option (Int32 × RS) := r_chanceOf_4L fu s x1 1 0
noncomputable def r_isCase_2 (k2 : RS → Int32 → Int32 → Option (Int32 × RS)) (s : RS) (x1 : Int32) (x2 : Int32) : Option (Int32 × RS) := (if vpb (s.v 18) 2 then (if (s.f 20 (Int32.toNatClampNeg (s.v 18))) ≤ x2 then (some (1, s)) else (bindI (r_thingAt s x1 x2) fun r4 s3 => (bindI (r_mayBe s3 x2 r4) fun r6 s5 => (if r6 = 0 then (some (0, s5)) else k2 s5 x1 (x2 + 1))))) else none)
noncomputable def r_isCase_2L : Nat → RS → Int32 → Int32 → Option (Int32 × RS)
  | 0, _, _, _ => none
  | n + 1, s, x1, x2 => r_isCase_2 (r_isCase_2L n) s x1 x2
noncomputable def r_isCase (s : RS) (x1 : Int32) : Option (Int32 × RS) := r_isCase_2L fu s x1 0
noncomputable def r_chance (s : RS) (x1 : Int32) : Option (Int32 × RS) := (bindI (r_isGuess s x1) fun r2 s1 => (if r2 = 0 then (some ((-1), s1)) else (bindP (r_copies s1) fun s4 => (bindI (r_chanceOf s4 x1) fun r6 s5 => (some (r6, s5))))))
noncomputable def r_sumAt_28 (k4 : RS → Int32 → Int32 → Int32 → Option (Int32 × RS)) (s : RS) (x1 : Int32) (x2 : Int32) (x3 : Int32) : Option (Int32 × RS) := k4 s x1 x2 (x3 + 1)
noncomputable def r_sumAt_4 (k4 : RS → Int32 → Int32 → Int32 → Option (Int32 × RS)) (s : RS) (x1 : Int32) (x2 : Int32) (x3 : Int32) : Option (Int32 × RS) := (if 6 ≤ x3 then (some (x2, s)) else (bindI (r_mayBe s x1 x3) fun r3 s2 => (if r3 = 0 then r_sumAt_28 k4 s2 x1 x2 x3 else (bindI (r_oddsAt s2 x1 x3) fun r6 s5 => r_sumAt_28 k4 s5 x1 (x2 + r6) x3))))
noncomputable def r_sumAt_4L : Nat → RS → Int32 → Int32 → Int32 → Option (Int32 × RS)
  | 0, _, _, _, _ => none
  | n + 1, s, x1, x2, x3 => r_sumAt_4 (r_sumAt_4L n) s x1 x2 x3
noncomputable def r_sumAt (s : RS) (x1 : Int32) : Option (Int32 × RS) := r_sumAt_4L fu s x1 0 0
noncomputable def r_all_8 (k8 : RS → Int32 → Int32 → Option (Int32 × RS)) (s : RS) (x1 : Int32) (x2 : Int32) : Option (Int32 × RS) := (if vpb (s.v 18) 2 then (if (s.f 20 (Int32.toNatClampNeg (s.v 18))) ≤ x2 then (some (x1, s)) else (bindI (r_sumAt s x2) fun r4 s3 => k8 s3 (x1 * r4) (x2 + 1))) else none)
noncomputable def r_all_8L : Nat → RS → Int32 → Int32 → Option (Int32 × RS)
  | 0, _, _, _ => none
  | n + 1, s, x1, x2 => r_all_8 (r_all_8L n) s x1 x2
noncomputable def r_all (s : RS) : Option (Int32 × RS) := (bindP (r_copies s) fun s1 => r_all_8L fu s1 1 0)
noncomputable def r_bestFor_83 (k4 : RS → Int32 → Int32 → Int32 → Option (Int32 × RS)) (k24 : RS → Int32 → Int32 → Int32 → Int32 → Int32 → Option (Int32 × RS)) (s : RS) (x1 : Int32) (x2 : Int32) (x3 : Int32) (x4 : Int32) (x5 : Int32) : Option (Int32 × RS) := k24 s x1 x2 x3 x4 (x5 + 1)
noncomputable def r_bestFor_79 (k4 : RS → Int32 → Int32 → Int32 → Option (Int32 × RS)) (k24 : RS → Int32 → Int32 → Int32 → Int32 → Int32 → Option (Int32 × RS)) (s : RS) (x1 : Int32) (x2 : Int32) (x3 : Int32) (x5 : Int32) : Option (Int32 × RS) := r_bestFor_83 k4 k24 s x1 x2 x3 x5 x5
noncomputable def r_bestFor_57 (k4 : RS → Int32 → Int32 → Int32 → Option (Int32 × RS)) (k24 : RS → Int32 → Int32 → Int32 → Int32 → Int32 → Option (Int32 × RS)) (s : RS) (x1 : Int32) (x2 : Int32) (x3 : Int32) (x4 : Int32) (x5 : Int32) : Option (Int32 × RS) := (if x4 < 0 then r_bestFor_79 k4 k24 s x1 x2 x3 x5 else (bindI (r_oddsAt s x3 x5) fun r3 s2 => (bindI (r_oddsAt s2 x3 x4) fun r5 s4 => (if r3 ≤ r5 then r_bestFor_83 k4 k24 s4 x1 x2 x3 x4 x5 else r_bestFor_79 k4 k24 s4 x1 x2 x3 x5))))
noncomputable def r_bestFor_24 (k4 : RS → Int32 → Int32 → Int32 → Option (Int32 × RS)) (k24 : RS → Int32 → Int32 → Int32 → Int32 → Int32 → Option (Int32 × RS)) (s : RS) (x1 : Int32) (x2 : Int32) (x3 : Int32) (x4 : Int32) (x5 : Int32) : Option (Int32 × RS) := (if 6 ≤ x5 then (if 0 ≤ x4 then (if vpb x3 6 then k4 s x1 (x2 + ((s.f 46 (Int32.toNatClampNeg x3)) * x4)) (x3 + 1) else none) else (some ((-2), s))) else (bindI (r_mayBe s x3 x5) fun r5 s4 => (if r5 = 0 then r_bestFor_83 k4 k24 s4 x1 x2 x3 x4 x5 else (if x1 = (-1) then r_bestFor_57 k4 k24 s4 x1 x2 x3 x4 x5 else (bindI (r_doesBear s4 x1 x3 x5) fun r9 s8 => (if r9 = 0 then r_bestFor_83 k4 k24 s8 x1 x2 x3 x4 x5 else r_bestFor_57 k4 k24 s8 x1 x2 x3 x4 x5))))))
noncomputable def r_bestFor_24L (k4 : RS → Int32 → Int32 → Int32 → Option (Int32 × RS)) : Nat → RS → Int32 → Int32 → Int32 → Int32 → Int32 → Option (Int32 × RS)
  | 0, _, _, _, _, _, _ => none
  | n + 1, s, x1, x2, x3, x4, x5 => r_bestFor_24 k4 (r_bestFor_24L k4 n) s x1 x2 x3 x4 x5
noncomputable def r_bestFor_4 (k4 : RS → Int32 → Int32 → Int32 → Option (Int32 × RS)) (s : RS) (x1 : Int32) (x2 : Int32) (x3 : Int32) : Option (Int32 × RS) := (if vpb (s.v 18) 2 then (if (s.f 20 (Int32.toNatClampNeg (s.v 18))) ≤ x3 then (some (x2, s)) else r_bestFor_24L k4 fu s x1 x2 x3 (-2) 0) else none)
noncomputable def r_bestFor_4L : Nat → RS → Int32 → Int32 → Int32 → Option (Int32 × RS)
  | 0, _, _, _, _ => none
  | n + 1, s, x1, x2, x3 => r_bestFor_4 (r_bestFor_4L n) s x1 x2 x3
noncomputable def r_bestFor (s : RS) (x1 : Int32) : Option (Int32 × RS) := r_bestFor_4L fu s x1 0 0
noncomputable def r_likeliest (s : RS) : Option (Int32 × RS) := (bindP (r_copies s) fun s1 => (bindI (r_bestFor s1 (-1)) fun r3 s2 => (some (r3, s2))))
noncomputable def r_bears (s : RS) (x1 : Int32) (x2 : Int32) : Option (Int32 × RS) := (bindI (r_isParty s x1) fun r2 s1 => (if r2 = 0 then (some ((-1), s1)) else (bindI (r_isGuess s1 x2) fun r5 s4 => (if r5 = 0 then (some ((-1), s4)) else (bindP (r_copies s4) fun s7 => (bindI (r_bearsBy s7 x1 x2) fun r9 s8 => (some (r9, s8))))))))
noncomputable def r_safest (s : RS) (x1 : Int32) : Option (Int32 × RS) := (bindI (r_isParty s x1) fun r2 s1 => (if r2 = 0 then (some ((-1), s1)) else (bindP (r_copies s1) fun s4 => (bindI (r_bestFor s4 x1) fun r6 s5 => (some (r6, s5))))))
noncomputable def r_enough_18 (k18 : RS → Int32 → Int32 → Option (Int32 × RS)) (s : RS) (x1 : Int32) (x2 : Int32) : Option (Int32 × RS) := (if vpb (s.v 18) 2 then (if (s.f 20 (Int32.toNatClampNeg (s.v 18))) ≤ x2 then (some (x1, s)) else (bindI (r_mayAt s x2) fun r4 s3 => (bindP (r_bits r4) fun r5 => k18 s3 (x1 + (r5 - 1)) (x2 + 1)))) else none)
noncomputable def r_enough_18L : Nat → RS → Int32 → Int32 → Option (Int32 × RS)
  | 0, _, _, _ => none
  | n + 1, s, x1, x2 => r_enough_18 (r_enough_18L n) s x1 x2
noncomputable def r_enough (s : RS) : Option (Int32 × RS) := (bindP (r_copies s) fun s1 => (bindI (r_casesNow s1) fun r3 s2 => (if r3 = 0 then (some ((-2), s2)) else r_enough_18L fu s2 1 0)))
noncomputable def r_leftOf_72 (k10 : RS → Int32 → Int32 → Int32 → Int32 → Option (Int32 × RS)) (s : RS) (x1 : Int32) (x2 : Int32) (x3 : Int32) (x4 : Int32) (x5 : Int32) (x6 : Int32) : Option (Int32 × RS) := (bindP (r_bits x5) fun r1 => (if x6 = r1 then (some (x2, s)) else k10 s x1 x2 x3 (x4 + 1)))
noncomputable def r_leftOf_10 (k10 : RS → Int32 → Int32 → Int32 → Int32 → Option (Int32 × RS)) (s : RS) (x1 : Int32) (x2 : Int32) (x3 : Int32) (x4 : Int32) : Option (Int32 × RS) := (if vpb (s.v 18) 2 then (if (s.f 20 (Int32.toNatClampNeg (s.v 18))) ≤ x4 then (if x2 ≤ 1 then (some (1, s)) else (some (x2, s))) else (bindI (r_mayAt s x4) fun r5 s4 => (bindP (r_bits r5) fun r6 => (if ¬ r6 = 0 then (bindI (r_thingAt s4 x1 x4) fun r9 s8 => (bindP (r_bits (r5 &&& ((1 <<< (r9 &&& 31)) ^^^ (-1)))) fun r10 => (if (r10 * (x3 / r6)) ≤ x2 then r_leftOf_72 k10 s8 x1 x2 (x3 / r6) x4 r5 r10 else r_leftOf_72 k10 s8 x1 (r10 * (x3 / r6)) (x3 / r6) x4 r5 r10))) else none)))) else none)
noncomputable def r_leftOf_10L : Nat → RS → Int32 → Int32 → Int32 → Int32 → Option (Int32 × RS)
  | 0, _, _, _, _, _ => none
  | n + 1, s, x1, x2, x3, x4 => r_leftOf_10 (r_leftOf_10L n) s x1 x2 x3 x4
noncomputable def r_leftOf (s : RS) (x1 : Int32) : Option (Int32 × RS) := (bindI (r_casesNow s) fun r2 s1 => r_leftOf_10L fu s1 x1 0 r2 0)
noncomputable def r_left (s : RS) (x1 : Int32) : Option (Int32 × RS) := (bindI (r_isGuess s x1) fun r2 s1 => (if r2 = 0 then (some ((-1), s1)) else (bindP (r_copies s1) fun s4 => (bindI (r_casesNow s4) fun r6 s5 => (if r6 = 0 then (some ((-2), s5)) else (bindI (r_leftOf s5 x1) fun r9 s8 => (some (r9, s8))))))))
noncomputable def r_wisest_68 (k36 : RS → Int32 → Int32 → Int32 → Int32 → Option (Int32 × RS)) (s : RS) (x1 : Int32) (x2 : Int32) (x3 : Int32) (x4 : Int32) : Option (Int32 × RS) := k36 s x1 x2 x3 (x4 + 1)
noncomputable def r_wisest_36 (k36 : RS → Int32 → Int32 → Int32 → Int32 → Option (Int32 × RS)) (s : RS) (x1 : Int32) (x2 : Int32) (x3 : Int32) (x4 : Int32) : Option (Int32 × RS) := (bindI (r_guesses s) fun r2 s1 => (if r2 ≤ x4 then (if x1 = 0 then (some (x2, s1)) else (some (x3, s1))) else (bindI (r_leftOf s1 x4) fun r6 s5 => (if r6 < x3 then r_wisest_68 k36 s5 x1 x4 r6 x4 else r_wisest_68 k36 s5 x1 x2 x3 x4))))
noncomputable def r_wisest_36L : Nat → RS → Int32 → Int32 → Int32 → Int32 → Option (Int32 × RS)
  | 0, _, _, _, _, _ => none
  | n + 1, s, x1, x2, x3, x4 => r_wisest_36 (r_wisest_36L n) s x1 x2 x3 x4
noncomputable def r_wisest (s : RS) (x1 : Int32) : Option (Int32 × RS) := (bindP (r_in x1 0 1) fun r1 => (if r1 = 0 then (some ((-1), s)) else (bindP (r_copies s) fun s3 => (bindI (r_casesNow s3) fun r5 s4 => (if r5 = 0 then (some ((-2), s4)) else (bindI (r_leftOf s4 0) fun r8 s7 => r_wisest_36L fu s7 x1 0 r8 1))))))
noncomputable def r_fillsChances_6 (k6 : RS → Int32 → Option RS) (s : RS) (x1 : Int32) : Option RS := (bindI (r_guesses s) fun r2 s1 => (if r2 ≤ x1 then (some s1) else (bindI (r_chanceOf s1 x1) fun r5 s4 => (if vpb x1 7776 then (letS (s4.sf 50 (Int32.toNatClampNeg x1) r5) fun s7 => k6 s7 (x1 + 1)) else none))))
noncomputable def r_fillsChances_6L : Nat → RS → Int32 → Option RS
  | 0, _, _ => none
  | n + 1, s, x1 => r_fillsChances_6 (r_fillsChances_6L n) s x1
noncomputable def r_fillsChances (s : RS) : Option RS := (bindP (r_copies s) fun s1 => r_fillsChances_6L fu s1 0)
noncomputable def r_isAhead (s : RS) (x1 : Int32) (x2 : Int32) : Option (Int32 × RS) := (if vpb x1 7776 then (if vpb x2 7776 then (if (s.f 50 (Int32.toNatClampNeg x2)) < (s.f 50 (Int32.toNatClampNeg x1)) then (some (1, s)) else (if vpb x1 7776 then (if vpb x2 7776 then (if (s.f 50 (Int32.toNatClampNeg x1)) = (s.f 50 (Int32.toNatClampNeg x2)) then (if x2 ≤ x1 then (some (0, s)) else (some (1, s))) else (some (0, s))) else none) else none)) else none) else none)
noncomputable def r_rank_49 (k29 : RS → Int32 → Int32 → Int32 → Option (Int32 × RS)) (s : RS) (x1 : Int32) (x2 : Int32) (x3 : Int32) : Option (Int32 × RS) := k29 s x1 x2 (x3 + 1)
noncomputable def r_rank_29 (k29 : RS → Int32 → Int32 → Int32 → Option (Int32 × RS)) (s : RS) (x1 : Int32) (x2 : Int32) (x3 : Int32) : Option (Int32 × RS) := (bindI (r_guesses s) fun r2 s1 => (if r2 ≤ x3 then (some (x2, s1)) else (bindI (r_isAhead s1 x3 x1) fun r5 s4 => (if r5 = 0 then r_rank_49 k29 s4 x1 x2 x3 else r_rank_49 k29 s4 x1 (x2 + 1) x3))))
noncomputable def r_rank_29L : Nat → RS → Int32 → Int32 → Int32 → Option (Int32 × RS)
  | 0, _, _, _, _ => none
  | n + 1, s, x1, x2, x3 => r_rank_29 (r_rank_29L n) s x1 x2 x3
noncomputable def r_rank (s : RS) (x1 : Int32) : Option (Int32 × RS) := (bindI (r_isGuess s x1) fun r2 s1 => (if r2 = 0 then (some ((-1), s1)) else (bindP (r_fillsChances s1) fun s4 => (bindI (r_isCase s4 x1) fun r6 s5 => (if r6 = 0 then (some ((-2), s5)) else r_rank_29L fu s5 x1 0 0)))))
noncomputable def r_ranked_84 (k20 : RS → Int32 → Int32 → Int32 → Option (Int32 × RS)) (k31 : RS → Int32 → Int32 → Int32 → Int32 → Int32 → Option (Int32 × RS)) (s : RS) (x1 : Int32) (x2 : Int32) (x3 : Int32) (x4 : Int32) (x5 : Int32) : Option (Int32 × RS) := k31 s x1 x2 x3 x4 (x5 + 1)
noncomputable def r_ranked_80 (k20 : RS → Int32 → Int32 → Int32 → Option (Int32 × RS)) (k31 : RS → Int32 → Int32 → Int32 → Int32 → Int32 → Option (Int32 × RS)) (s : RS) (x1 : Int32) (x2 : Int32) (x3 : Int32) (x5 : Int32) : Option (Int32 × RS) := r_ranked_84 k20 k31 s x1 x2 x3 x5 x5
noncomputable def r_ranked_64 (k20 : RS → Int32 → Int32 → Int32 → Option (Int32 × RS)) (k31 : RS → Int32 → Int32 → Int32 → Int32 → Int32 → Option (Int32 × RS)) (s : RS) (x1 : Int32) (x2 : Int32) (x3 : Int32) (x4 : Int32) (x5 : Int32) : Option (Int32 × RS) := (if x4 < 0 then r_ranked_80 k20 k31 s x1 x2 x3 x5 else (bindI (r_isAhead s x5 x4) fun r3 s2 => (if r3 = 0 then r_ranked_84 k20 k31 s2 x1 x2 x3 x4 x5 else r_ranked_80 k20 k31 s2 x1 x2 x3 x5)))
noncomputable def r_ranked_31 (k20 : RS → Int32 → Int32 → Int32 → Option (Int32 × RS)) (k31 : RS → Int32 → Int32 → Int32 → Int32 → Int32 → Option (Int32 × RS)) (s : RS) (x1 : Int32) (x2 : Int32) (x3 : Int32) (x4 : Int32) (x5 : Int32) : Option (Int32 × RS) := (bindI (r_guesses s) fun r2 s1 => (if r2 ≤ x5 then (if 0 ≤ x4 then k20 s1 x1 x4 (x3 + 1) else (some ((-1), s1))) else (if vpb x5 7776 then (if (s1.f 50 (Int32.toNatClampNeg x5)) ≤ 0 then r_ranked_84 k20 k31 s1 x1 x2 x3 x4 x5 else (if x2 < 0 then r_ranked_64 k20 k31 s1 x1 x2 x3 x4 x5 else (bindI (r_isAhead s1 x2 x5) fun r9 s8 => (if r9 = 0 then r_ranked_84 k20 k31 s8 x1 x2 x3 x4 x5 else r_ranked_64 k20 k31 s8 x1 x2 x3 x4 x5)))) else none)))
noncomputable def r_ranked_31L (k20 : RS → Int32 → Int32 → Int32 → Option (Int32 × RS)) : Nat → RS → Int32 → Int32 → Int32 → Int32 → Int32 → Option (Int32 × RS)
  | 0, _, _, _, _, _, _ => none
  | n + 1, s, x1, x2, x3, x4, x5 => r_ranked_31 k20 (r_ranked_31L k20 n) s x1 x2 x3 x4 x5
noncomputable def r_ranked_20 (k20 : RS → Int32 → Int32 → Int32 → Option (Int32 × RS)) (s : RS) (x1 : Int32) (x2 : Int32) (x3 : Int32) : Option (Int32 × RS) := (if x1 < x3 then (some (x2, s)) else r_ranked_31L k20 fu s x1 x2 x3 (-1) 0)
noncomputable def r_ranked_20L : Nat → RS → Int32 → Int32 → Int32 → Option (Int32 × RS)
  | 0, _, _, _, _ => none
  | n + 1, s, x1, x2, x3 => r_ranked_20 (r_ranked_20L n) s x1 x2 x3
noncomputable def r_ranked (s : RS) (x1 : Int32) : Option (Int32 × RS) := (bindP (r_in x1 0 19) fun r1 => (if r1 = 0 then (some ((-1), s)) else (bindP (r_fillsChances s) fun s3 => r_ranked_20L fu s3 x1 (-1) 0)))
noncomputable def r_share_73 (k44 : RS → Int32 → Int32 → Int32 → Option (Int32 × RS)) (s : RS) (x1 : Int32) (x3 : Int32) (x4 : Int32) : Option (Int32 × RS) := k44 s x1 x3 (x4 + 1)
noncomputable def r_share_44 (k44 : RS → Int32 → Int32 → Int32 → Option (Int32 × RS)) (s : RS) (x1 : Int32) (x3 : Int32) (x4 : Int32) : Option (Int32 × RS) := (if vpb (s.v 18) 2 then (if (s.f 20 (Int32.toNatClampNeg (s.v 18))) ≤ x4 then (some (x3, s)) else (if x4 = x1 then r_share_73 k44 s x1 x3 x4 else (bindI (r_sumAt s x4) fun r5 s4 => r_share_73 k44 s4 x1 (x3 * r5) x4))) else none)
noncomputable def r_share_44L : Nat → RS → Int32 → Int32 → Int32 → Option (Int32 × RS)
  | 0, _, _, _, _ => none
  | n + 1, s, x1, x3, x4 => r_share_44 (r_share_44L n) s x1 x3 x4
noncomputable def r_share_40 (s : RS) (x1 : Int32) (t0 : Int32) : Option (Int32 × RS) := r_share_44L fu s x1 t0 0
noncomputable def r_share (s : RS) (x1 : Int32) (x2 : Int32) : Option (Int32 × RS) := (bindI (r_isWave s x1) fun r2 s1 => (if r2 = 0 then (some ((-1), s1)) else (bindP (r_isThing x2) fun r4 => (if r4 = 0 then (some ((-1), s1)) else (bindP (r_copies s1) fun s6 => (bindI (r_mayBe s6 x1 x2) fun r8 s7 => (if r8 = 0 then r_share_40 s7 x1 0 else (bindI (r_oddsAt s7 x1 x2) fun r11 s10 => r_share_40 s10 x1 r11))))))))
noncomputable def r_comesOver_7 (k7 : RS → Int32 → Int32 → Int32 → Int32 → Option (Int32 × RS)) (s : RS) (x1 : Int32) (x2 : Int32) (x3 : Int32) (x4 : Int32) : Option (Int32 × RS) := (if x3 ≤ x4 then (some (0, s)) else (bindI (r_bestFor s x1) fun r3 s2 => (if 0 ≤ r3 then (bindI (r_goesBy s2 x1 r3 x2) fun r6 s5 => (if vpb (15 + x1) 29 then (if (s5.f 44 (Int32.toNatClampNeg (15 + x1))) = 2 then (some (1, s5)) else k7 s5 x1 x2 x3 (x4 + 1)) else none)) else (some (0, s2)))))
noncomputable def r_comesOver_7L : Nat → RS → Int32 → Int32 → Int32 → Int32 → Option (Int32 × RS)
  | 0, _, _, _, _, _ => none
  | n + 1, s, x1, x2, x3, x4 => r_comesOver_7 (r_comesOver_7L n) s x1 x2 x3 x4
noncomputable def r_comesOver (s : RS) (x1 : Int32) (x2 : Int32) (x3 : Int32) : Option (Int32 × RS) := (bindP (r_copies s) fun s1 => r_comesOver_7L fu s1 x1 x2 x3 0)
noncomputable def r_sure_81 (k41 : RS → Int32 → Int32 → Int32 → Int32 → Option (Int32 × RS)) (s : RS) (x1 : Int32) (x2 : Int32) (x3 : Int32) (x4 : Int32) : Option (Int32 × RS) := k41 s x1 x2 x3 (x4 + 1)
noncomputable def r_sure_41 (k41 : RS → Int32 → Int32 → Int32 → Int32 → Option (Int32 × RS)) (s : RS) (x1 : Int32) (x2 : Int32) (x3 : Int32) (x4 : Int32) : Option (Int32 × RS) := (bindI (r_guesses s) fun r2 s1 => (if r2 ≤ x4 then (some (x3, s1)) else (if vpb x4 7776 then (if (s1.f 50 (Int32.toNatClampNeg x4)) ≤ 0 then r_sure_81 k41 s1 x1 x2 x3 x4 else (bindI (r_comesOver s1 x1 x4 x2) fun r7 s6 => (if r7 = 0 then r_sure_81 k41 s6 x1 x2 x3 x4 else (if vpb x4 7776 then r_sure_81 k41 s6 x1 x2 (x3 + (s6.f 50 (Int32.toNatClampNeg x4))) x4 else none)))) else none)))
noncomputable def r_sure_41L : Nat → RS → Int32 → Int32 → Int32 → Int32 → Option (Int32 × RS)
  | 0, _, _, _, _, _ => none
  | n + 1, s, x1, x2, x3, x4 => r_sure_41 (r_sure_41L n) s x1 x2 x3 x4
noncomputable def r_sure (s : RS) (x1 : Int32) (x2 : Int32) : Option (Int32 × RS) := (bindI (r_isHere s x1) fun r2 s1 => (if r2 = 0 then (some ((-1), s1)) else (if vpb (s1.v 18) 2 then (if (s1.f 20 (Int32.toNatClampNeg (s1.v 18))) = 0 then (some ((-1), s1)) else (bindP (r_in x2 1 8) fun r6 => (if r6 = 0 then (some ((-1), s1)) else (bindP (r_fillsChances s1) fun s8 => r_sure_41L fu s8 x1 x2 0 0)))) else none)))
noncomputable def r_alike_20 (k20 : RS → Int32 → Int32 → Int32 → Option (Int32 × RS)) (s : RS) (x1 : Int32) (x2 : Int32) (x3 : Int32) : Option (Int32 × RS) := (if vpb (s.v 18) 2 then (if (s.f 20 (Int32.toNatClampNeg (s.v 18))) ≤ x3 then (some (x3, s)) else (bindI (r_thingAt s x1 x3) fun r4 s3 => (bindI (r_thingAt s3 x2 x3) fun r6 s5 => (if r4 = r6 then k20 s5 x1 x2 (x3 + 1) else (some (x3, s5)))))) else none)
noncomputable def r_alike_20L : Nat → RS → Int32 → Int32 → Int32 → Option (Int32 × RS)
  | 0, _, _, _, _ => none
  | n + 1, s, x1, x2, x3 => r_alike_20 (r_alike_20L n) s x1 x2 x3
noncomputable def r_alike (s : RS) (x1 : Int32) (x2 : Int32) : Option (Int32 × RS) := (bindI (r_isGuess s x1) fun r2 s1 => (if r2 = 0 then (some ((-1), s1)) else (bindI (r_isGuess s1 x2) fun r5 s4 => (if r5 = 0 then (some ((-1), s4)) else r_alike_20L fu s4 x1 x2 0))))
noncomputable def r_sunk_63 (k18 : RS → Int32 → Int32 → Int32 → Option (Int32 × RS)) (s : RS) (x1 : Int32) (x2 : Int32) (x3 : Int32) : Option (Int32 × RS) := k18 s x1 x2 (x3 + 1)
noncomputable def r_sunk_18 (k18 : RS → Int32 → Int32 → Int32 → Option (Int32 × RS)) (s : RS) (x1 : Int32) (x2 : Int32) (x3 : Int32) : Option (Int32 × RS) := (if vpb (s.v 18) 2 then (if (s.f 23 (Int32.toNatClampNeg (s.v 18))) ≤ x3 then (some (x2, s)) else (bindI (r_isHere s x3) fun r4 s3 => (if r4 = 0 then r_sunk_63 k18 s3 x1 x2 x3 else (bindI (r_bearsBy s3 x3 x1) fun r7 s6 => (if vpb (s6.v 18) 2 then (if (s6.f 20 (Int32.toNatClampNeg (s6.v 18))) ≤ r7 then r_sunk_63 k18 s6 x1 x2 x3 else r_sunk_63 k18 s6 x1 (x2 ||| (1 <<< (x3 &&& 31))) x3) else none))))) else none)
noncomputable def r_sunk_18L : Nat → RS → Int32 → Int32 → Int32 → Option (Int32 × RS)
  | 0, _, _, _, _ => none
  | n + 1, s, x1, x2, x3 => r_sunk_18 (r_sunk_18L n) s x1 x2 x3
noncomputable def r_sunk (s : RS) (x1 : Int32) : Option (Int32 × RS) := (bindI (r_isGuess s x1) fun r2 s1 => (if r2 = 0 then (some ((-1), s1)) else (bindP (r_copies s1) fun s4 => r_sunk_18L fu s4 x1 0 0)))
noncomputable def r_stuck_43 (k8 : RS → Int32 → Int32 → Option (Int32 × RS)) (s : RS) (x1 : Int32) (x2 : Int32) : Option (Int32 × RS) := k8 s x1 (x2 + 1)
noncomputable def r_stuck_8 (k8 : RS → Int32 → Int32 → Option (Int32 × RS)) (s : RS) (x1 : Int32) (x2 : Int32) : Option (Int32 × RS) := (if vpb (s.v 18) 2 then (if (s.f 23 (Int32.toNatClampNeg (s.v 18))) ≤ x2 then (some (x1, s)) else (bindI (r_isHere s x2) fun r4 s3 => (if r4 = 0 then r_stuck_43 k8 s3 x1 x2 else (bindI (r_bestFor s3 x2) fun r7 s6 => (if 0 ≤ r7 then r_stuck_43 k8 s6 x1 x2 else r_stuck_43 k8 s6 (x1 ||| (1 <<< (x2 &&& 31))) x2))))) else none)
noncomputable def r_stuck_8L : Nat → RS → Int32 → Int32 → Option (Int32 × RS)
  | 0, _, _, _ => none
  | n + 1, s, x1, x2 => r_stuck_8 (r_stuck_8L n) s x1 x2
noncomputable def r_stuck (s : RS) : Option (Int32 × RS) := (bindP (r_copies s) fun s1 => r_stuck_8L fu s1 0 0)
noncomputable def r_spread_80 (k22 : RS → Int32 → Int32 → Int32 → Int32 → Option (Int32 × RS)) (s : RS) (x1 : Int32) (x2 : Int32) (x3 : Int32) (x4 : Int32) : Option (Int32 × RS) := k22 s x1 x2 x3 (x4 + 1)
noncomputable def r_spread_61 (k22 : RS → Int32 → Int32 → Int32 → Int32 → Option (Int32 × RS)) (s : RS) (x1 : Int32) (x2 : Int32) (x3 : Int32) (x4 : Int32) : Option (Int32 × RS) := (bindI (r_oddsAt s x1 x4) fun r2 s1 => (if x3 ≤ r2 then r_spread_80 k22 s1 x1 x2 x3 x4 else (bindI (r_oddsAt s1 x1 x4) fun r5 s4 => r_spread_80 k22 s4 x1 x2 r5 x4)))
noncomputable def r_spread_22 (k22 : RS → Int32 → Int32 → Int32 → Int32 → Option (Int32 × RS)) (s : RS) (x1 : Int32) (x2 : Int32) (x3 : Int32) (x4 : Int32) : Option (Int32 × RS) := (if 6 ≤ x4 then (if x3 ≤ x2 then (some ((x2 - x3), s)) else (some (0, s))) else (bindI (r_mayBe s x1 x4) fun r4 s3 => (if r4 = 0 then r_spread_80 k22 s3 x1 x2 x3 x4 else (bindI (r_oddsAt s3 x1 x4) fun r7 s6 => (if r7 ≤ x2 then r_spread_61 k22 s6 x1 x2 x3 x4 else (bindI (r_oddsAt s6 x1 x4) fun r10 s9 => r_spread_61 k22 s9 x1 r10 x3 x4))))))
noncomputable def r_spread_22L : Nat → RS → Int32 → Int32 → Int32 → Int32 → Option (Int32 × RS)
  | 0, _, _, _, _, _ => none
  | n + 1, s, x1, x2, x3, x4 => r_spread_22 (r_spread_22L n) s x1 x2 x3 x4
noncomputable def r_spread (s : RS) (x1 : Int32) : Option (Int32 × RS) := (bindI (r_isWave s x1) fun r2 s1 => (if r2 = 0 then (some ((-1), s1)) else (bindP (r_copies s1) fun s4 => r_spread_22L fu s4 x1 0 10 0)))
noncomputable def r_dearest_52 (k20 : RS → Int32 → Int32 → Int32 → Option (Int32 × RS)) (s : RS) (x1 : Int32) (x2 : Int32) (x3 : Int32) : Option (Int32 × RS) := k20 s x1 x2 (x3 + 1)
noncomputable def r_dearest_50 (k20 : RS → Int32 → Int32 → Int32 → Option (Int32 × RS)) (s : RS) (x1 : Int32) (x3 : Int32) : Option (Int32 × RS) := r_dearest_52 k20 s x1 x3 x3
noncomputable def r_dearest_20 (k20 : RS → Int32 → Int32 → Int32 → Option (Int32 × RS)) (s : RS) (x1 : Int32) (x2 : Int32) (x3 : Int32) : Option (Int32 × RS) := (if vpb (s.v 18) 2 then (if (s.f 23 (Int32.toNatClampNeg (s.v 18))) ≤ x3 then (if x2 < 0 then (some (x2, s)) else (if x1 = 0 then (some (x2, s)) else (bindI (r_faresOf s x2) fun r6 s5 => (some (r6, s5))))) else (if x2 < 0 then r_dearest_50 k20 s x1 x3 else (bindI (r_faresOf s x3) fun r9 s8 => (bindI (r_faresOf s8 x2) fun r11 s10 => (if r9 ≤ r11 then r_dearest_52 k20 s10 x1 x2 x3 else r_dearest_50 k20 s10 x1 x3))))) else none)
noncomputable def r_dearest_20L : Nat → RS → Int32 → Int32 → Int32 → Option (Int32 × RS)
  | 0, _, _, _, _ => none
  | n + 1, s, x1, x2, x3 => r_dearest_20 (r_dearest_20L n) s x1 x2 x3
noncomputable def r_dearest (s : RS) (x1 : Int32) : Option (Int32 × RS) := (bindP (r_in x1 0 1) fun r1 => (if r1 = 0 then (some ((-1), s)) else (bindP (r_copies s) fun s3 => r_dearest_20L fu s3 x1 (-2) 0)))
noncomputable def r_chosen_75 (k11 : RS → Int32 → Int32 → Int32 → Option (Int32 × RS)) (s : RS) (x1 : Int32) (x2 : Int32) (x3 : Int32) : Option (Int32 × RS) := k11 s x1 x2 (x3 + 1)
noncomputable def r_chosen_66 (k11 : RS → Int32 → Int32 → Int32 → Option (Int32 × RS)) (s : RS) (x3 : Int32) (x4 : Int32) : Option (Int32 × RS) := (bindI (r_chanceOf s x4) fun r2 s1 => r_chosen_75 k11 s1 x3 r2 x3)
noncomputable def r_chosen_42 (k11 : RS → Int32 → Int32 → Int32 → Option (Int32 × RS)) (s : RS) (x1 : Int32) (x2 : Int32) (x3 : Int32) (t0 : Int32) : Option (Int32 × RS) := (if t0 < 0 then r_chosen_75 k11 s x1 x2 x3 else (if x1 < 0 then r_chosen_66 k11 s x3 t0 else (bindI (r_chanceOf s t0) fun r4 s3 => (if x2 < r4 then r_chosen_66 k11 s3 x3 t0 else r_chosen_75 k11 s3 x1 x2 x3))))
noncomputable def r_chosen_11 (k11 : RS → Int32 → Int32 → Int32 → Option (Int32 × RS)) (s : RS) (x1 : Int32) (x2 : Int32) (x3 : Int32) : Option (Int32 × RS) := (if vpb (s.v 18) 2 then (if (s.f 23 (Int32.toNatClampNeg (s.v 18))) ≤ x3 then (some (x1, s)) else (bindI (r_isHere s x3) fun r4 s3 => (if r4 = 0 then r_chosen_42 k11 s3 x1 x2 x3 (-2) else (bindI (r_bestFor s3 x3) fun r7 s6 => r_chosen_42 k11 s6 x1 x2 x3 r7)))) else none)
noncomputable def r_chosen_11L : Nat → RS → Int32 → Int32 → Int32 → Option (Int32 × RS)
  | 0, _, _, _, _ => none
  | n + 1, s, x1, x2, x3 => r_chosen_11 (r_chosen_11L n) s x1 x2 x3
noncomputable def r_chosen (s : RS) : Option (Int32 × RS) := (bindP (r_copies s) fun s1 => r_chosen_11L fu s1 (-2) 0 0)
noncomputable def r_manyIn_33 (k4 : RS → Int32 → Int32 → Int32 → Option (Int32 × RS)) (s : RS) (x1 : Int32) (x2 : Int32) (x3 : Int32) : Option (Int32 × RS) := k4 s x1 x2 (x3 + 1)
noncomputable def r_manyIn_4 (k4 : RS → Int32 → Int32 → Int32 → Option (Int32 × RS)) (s : RS) (x1 : Int32) (x2 : Int32) (x3 : Int32) : Option (Int32 × RS) := (if vpb (s.v 18) 2 then (if (s.f 23 (Int32.toNatClampNeg (s.v 18))) ≤ x3 then (some (x2, s)) else (if vpb (15 + x3) 29 then (if (s.f 44 (Int32.toNatClampNeg (15 + x3))) = x1 then r_manyIn_33 k4 s x1 (x2 + 1) x3 else r_manyIn_33 k4 s x1 x2 x3) else none)) else none)
noncomputable def r_manyIn_4L : Nat → RS → Int32 → Int32 → Int32 → Option (Int32 × RS)
  | 0, _, _, _, _ => none
  | n + 1, s, x1, x2, x3 => r_manyIn_4 (r_manyIn_4L n) s x1 x2 x3
noncomputable def r_manyIn (s : RS) (x1 : Int32) : Option (Int32 × RS) := r_manyIn_4L fu s x1 0 0
noncomputable def r_allGo_89 (k22 : RS → Int32 → Int32 → Int32 → Option (Int32 × RS)) (s : RS) (x1 : Int32) (x2 : Int32) (x3 : Int32) : Option (Int32 × RS) := k22 s x1 x2 (x3 + 1)
noncomputable def r_allGo_73 (k22 : RS → Int32 → Int32 → Int32 → Option (Int32 × RS)) (s : RS) (x1 : Int32) (x2 : Int32) (x3 : Int32) (t0 : Int32) : Option (Int32 × RS) := (if t0 < 0 then r_allGo_89 k22 s x1 x2 x3 else (bindI (r_goesBy s x3 t0 x2) fun r3 s2 => r_allGo_89 k22 s2 x1 x2 x3))
noncomputable def r_allGo_71 (k22 : RS → Int32 → Int32 → Int32 → Option (Int32 × RS)) (s : RS) (x1 : Int32) (x2 : Int32) (x3 : Int32) : Option (Int32 × RS) := r_allGo_73 k22 s x1 x2 x3 (-2)
noncomputable def r_allGo_22 (k22 : RS → Int32 → Int32 → Int32 → Option (Int32 × RS)) (s : RS) (x1 : Int32) (x2 : Int32) (x3 : Int32) : Option (Int32 × RS) := (if vpb (s.v 18) 2 then (if (s.f 23 (Int32.toNatClampNeg (s.v 18))) ≤ x3 then (if x1 = 0 then (bindI (r_manyIn s 2) fun r8 s7 => (some (r8, s7))) else (if x1 = 1 then (bindI (r_manyIn s 1) fun r6 s5 => (some (r6, s5))) else (some (((s.f 44 28) - (s.f 43 28)), s)))) else (bindI (r_isHere s x3) fun r10 s9 => (if r10 = 0 then r_allGo_71 k22 s9 x1 x2 x3 else (bindI (r_doesDare s9 x3) fun r13 s12 => (if r13 = 0 then r_allGo_71 k22 s12 x1 x2 x3 else (if vpb (s12.v 18) 2 then (if (s12.f 20 (Int32.toNatClampNeg (s12.v 18))) ≤ 0 then r_allGo_71 k22 s12 x1 x2 x3 else (bindI (r_bestFor s12 x3) fun r18 s17 => r_allGo_73 k22 s17 x1 x2 x3 r18)) else none)))))) else none)
noncomputable def r_allGo_22L : Nat → RS → Int32 → Int32 → Int32 → Option (Int32 × RS)
  | 0, _, _, _, _ => none
  | n + 1, s, x1, x2, x3 => r_allGo_22 (r_allGo_22L n) s x1 x2 x3
noncomputable def r_allGo (s : RS) (x1 : Int32) : Option (Int32 × RS) := (bindP (r_in x1 0 2) fun r1 => (if r1 = 0 then (some ((-1), s)) else (bindP (r_copies s) fun s3 => (bindI (r_thereNumber s3) fun r5 s4 => r_allGo_22L fu s4 x1 r5 0))))
noncomputable def r_darers_43 (k8 : RS → Int32 → Int32 → Option (Int32 × RS)) (s : RS) (x1 : Int32) (x2 : Int32) : Option (Int32 × RS) := k8 s x1 (x2 + 1)
noncomputable def r_darers_8 (k8 : RS → Int32 → Int32 → Option (Int32 × RS)) (s : RS) (x1 : Int32) (x2 : Int32) : Option (Int32 × RS) := (if vpb (s.v 18) 2 then (if (s.f 23 (Int32.toNatClampNeg (s.v 18))) ≤ x2 then (some (x1, s)) else (bindI (r_isHere s x2) fun r4 s3 => (if r4 = 0 then r_darers_43 k8 s3 x1 x2 else (bindI (r_doesDare s3 x2) fun r7 s6 => (if r7 = 0 then r_darers_43 k8 s6 x1 x2 else r_darers_43 k8 s6 (x1 ||| (1 <<< (x2 &&& 31))) x2))))) else none)
noncomputable def r_darers_8L : Nat → RS → Int32 → Int32 → Option (Int32 × RS)
  | 0, _, _, _ => none
  | n + 1, s, x1, x2 => r_darers_8 (r_darers_8L n) s x1 x2
noncomputable def r_darers (s : RS) : Option (Int32 × RS) := (bindP (r_copies s) fun s1 => r_darers_8L fu s1 0 0)
noncomputable def r_open_39 (k8 : RS → Int32 → Int32 → Option (Int32 × RS)) (s : RS) (x1 : Int32) (x2 : Int32) : Option (Int32 × RS) := k8 s x1 (x2 + 1)
noncomputable def r_open_8 (k8 : RS → Int32 → Int32 → Option (Int32 × RS)) (s : RS) (x1 : Int32) (x2 : Int32) : Option (Int32 × RS) := (if vpb (s.v 18) 2 then (if (s.f 20 (Int32.toNatClampNeg (s.v 18))) ≤ x2 then (some (x1, s)) else (bindI (r_mayAt s x2) fun r4 s3 => (bindP (r_bits r4) fun r5 => (if r5 ≤ 1 then r_open_39 k8 s3 x1 x2 else r_open_39 k8 s3 (x1 ||| (1 <<< (x2 &&& 31))) x2)))) else none)
noncomputable def r_open_8L : Nat → RS → Int32 → Int32 → Option (Int32 × RS)
  | 0, _, _, _ => none
  | n + 1, s, x1, x2 => r_open_8 (r_open_8L n) s x1 x2
noncomputable def r_open (s : RS) : Option (Int32 × RS) := (bindP (r_copies s) fun s1 => r_open_8L fu s1 0 0)
noncomputable def r_then (s : RS) (x1 : Int32) (x2 : Int32) (x3 : Int32) : Option (Int32 × RS) := (bindI (r_isWave s x1) fun r2 s1 => (if r2 = 0 then (some ((-1), s1)) else (bindP (r_isLong x2) fun r4 => (if r4 = 0 then (some ((-1), s1)) else (bindP (r_in x3 0 2) fun r6 => (if r6 = 0 then (some ((-1), s1)) else (bindP (r_copies s1) fun s8 => (bindP (r_yearsGo s8 x2) fun s9 => (if x3 = 0 then (bindI (r_mayAt s9 x1) fun r16 s15 => (some (r16, s15))) else (if x3 = 1 then (if vpb (10 + x1) 29 then (some ((s9.f 44 (Int32.toNatClampNeg (10 + x1))), s9)) else none) else (bindI (r_thereAt s9 x1) fun r13 s12 => (some (r13, s12)))))))))))))
noncomputable def r_next_16 (k16 : RS → Int32 → Int32 → Option (Int32 × RS)) (s : RS) (x1 : Int32) (x2 : Int32) : Option (Int32 × RS) := (if 40 < x2 then (some ((-2), s)) else (bindP (r_yearGoes s) fun s2 => (if vpb (10 + x1) 29 then (if vpb (10 + x1) 29 then (if (s2.f 44 (Int32.toNatClampNeg (10 + x1))) ≤ (s2.f 43 (Int32.toNatClampNeg (10 + x1))) then k16 s2 x1 (x2 + 1) else (some (x2, s2))) else none) else none)))
noncomputable def r_next_16L : Nat → RS → Int32 → Int32 → Option (Int32 × RS)
  | 0, _, _, _ => none
  | n + 1, s, x1, x2 => r_next_16 (r_next_16L n) s x1 x2
noncomputable def r_next (s : RS) (x1 : Int32) : Option (Int32 × RS) := (bindI (r_isWave s x1) fun r2 s1 => (if r2 = 0 then (some ((-1), s1)) else (bindP (r_copies s1) fun s4 => r_next_16L fu s4 x1 1)))
noncomputable def r_year_46 (k29 : RS → Int32 → Int32 → Int32 → Int32 → Option (Int32 × RS)) (s : RS) (x1 : Int32) (x2 : Int32) (x3 : Int32) (x4 : Int32) : Option (Int32 × RS) := (letS (s.sv 45 ((s.v 45) + 1)) fun s1 => k29 s1 x1 x2 x3 (x4 + 1))
noncomputable def r_year_29 (k29 : RS → Int32 → Int32 → Int32 → Int32 → Option (Int32 × RS)) (s : RS) (x1 : Int32) (x2 : Int32) (x3 : Int32) (x4 : Int32) : Option (Int32 × RS) := (if x2 ≤ x4 then (some (x3, s)) else (bindI (r_thereNumber s) fun r3 s2 => (if r3 = x1 then r_year_46 k29 s2 x1 x2 (x3 + 1) x4 else r_year_46 k29 s2 x1 x2 x3 x4)))
noncomputable def r_year_29L : Nat → RS → Int32 → Int32 → Int32 → Int32 → Option (Int32 × RS)
  | 0, _, _, _, _, _ => none
  | n + 1, s, x1, x2, x3, x4 => r_year_29 (r_year_29L n) s x1 x2 x3 x4
noncomputable def r_year (s : RS) (x1 : Int32) (x2 : Int32) : Option (Int32 × RS) := (bindI (r_isGuess s x1) fun r2 s1 => (if r2 = 0 then (some ((-1), s1)) else (bindP (r_in x2 1 20) fun r4 => (if r4 = 0 then (some ((-1), s1)) else (bindP (r_copies s1) fun s6 => r_year_29L fu s6 x1 x2 0 0)))))
noncomputable def r_drawn_29 (k29 : RS → Int32 → Int32 → Int32 → Int32 → Option (Int32 × RS)) (s : RS) (x1 : Int32) (x2 : Int32) (x3 : Int32) (x4 : Int32) : Option (Int32 × RS) := (if x2 ≤ x4 then (bindP (r_bits x3) fun r2 => (some (r2, s))) else (bindI (r_thereAt s x1) fun r4 s3 => (letS (s3.sv 45 ((s3.v 45) + 1)) fun s5 => k29 s5 x1 x2 (x3 ||| (1 <<< (r4 &&& 31))) (x4 + 1))))
noncomputable def r_drawn_29L : Nat → RS → Int32 → Int32 → Int32 → Int32 → Option (Int32 × RS)
  | 0, _, _, _, _, _ => none
  | n + 1, s, x1, x2, x3, x4 => r_drawn_29 (r_drawn_29L n) s x1 x2 x3 x4
noncomputable def r_drawn (s : RS) (x1 : Int32) (x2 : Int32) : Option (Int32 × RS) := (bindI (r_isWave s x1) fun r2 s1 => (if r2 = 0 then (some ((-1), s1)) else (bindP (r_in x2 1 20) fun r4 => (if r4 = 0 then (some ((-1), s1)) else (bindP (r_copies s1) fun s6 => r_drawn_29L fu s6 x1 x2 0 0)))))
noncomputable def r_tell (s : RS) (x1 : Int32) (x2 : Int32) (x3 : Int32) : Option (Int32 × RS) := (if (s.v 51) = 20 then (some ((-1), s)) else (bindI (r_isWave s x1) fun r3 s2 => (if r3 = 0 then (some ((-1), s2)) else (bindP (r_in x2 1 63) fun r5 => (if r5 = 0 then (some ((-1), s2)) else (if vpb (s2.v 51) 20 then (letS (s2.sf 52 (Int32.toNatClampNeg (s2.v 51)) x1) fun s8 => (if vpb (s8.v 51) 20 then (letS (s8.sf 53 (Int32.toNatClampNeg (s8.v 51)) x2) fun s11 => (if vpb (s11.v 51) 20 then (letS (s11.sf 54 (Int32.toNatClampNeg (s11.v 51)) (vp_nar .boolean x3)) fun s14 => (letS (s14.sv 51 ((s14.v 51) + 1)) fun s16 => (some (((s16.v 51) - 1), s16)))) else none)) else none)) else none))))))
noncomputable def r_forget (s : RS) : Option (Int32 × RS) := (letS (s.sv 51 0) fun s1 => (some ((s.v 51), s1)))
noncomputable def r_isSo_29 (s : RS) (x2 : Int32) (t0 : Int32) : Option (Int32 × RS) := (if vpb x2 20 then (if t0 = (s.f 54 (Int32.toNatClampNeg x2)) then (some (1, s)) else (some (0, s))) else none)
noncomputable def r_isSo (s : RS) (x1 : Int32) (x2 : Int32) : Option (Int32 × RS) := (if vpb x2 20 then (if vpb x2 20 then (bindI (r_thingAt s x1 (s.f 52 (Int32.toNatClampNeg x2))) fun r4 s3 => (if (((s.f 53 (Int32.toNatClampNeg x2)) >>> (r4 &&& 31)) &&& 1) = 1 then r_isSo_29 s3 x2 1 else r_isSo_29 s3 x2 0)) else none) else none)
noncomputable def r_doesFit_36 (k17 : RS → Int32 → Int32 → Int32 → Int32 → Int32 → Option (Int32 × RS)) (s : RS) (x1 : Int32) (x2 : Int32) (x3 : Int32) (x4 : Int32) (x5 : Int32) : Option (Int32 × RS) := k17 s x1 x2 x3 x4 (x5 + 1)
noncomputable def r_doesFit_17 (k17 : RS → Int32 → Int32 → Int32 → Int32 → Int32 → Option (Int32 × RS)) (s : RS) (x1 : Int32) (x2 : Int32) (x3 : Int32) (x4 : Int32) (x5 : Int32) : Option (Int32 × RS) := (if x2 ≤ x5 then (if x3 < x4 then (some (0, s)) else (some (1, s))) else (bindI (r_isSo s x1 x5) fun r4 s3 => (if r4 = 0 then r_doesFit_36 k17 s3 x1 x2 x3 (x4 + 1) x5 else r_doesFit_36 k17 s3 x1 x2 x3 x4 x5)))
noncomputable def r_doesFit_17L : Nat → RS → Int32 → Int32 → Int32 → Int32 → Int32 → Option (Int32 × RS)
  | 0, _, _, _, _, _, _ => none
  | n + 1, s, x1, x2, x3, x4, x5 => r_doesFit_17 (r_doesFit_17L n) s x1 x2 x3 x4 x5
noncomputable def r_doesFit (s : RS) (x1 : Int32) (x2 : Int32) (x3 : Int32) : Option (Int32 × RS) := (if vpb x1 7776 then (if (s.f 50 (Int32.toNatClampNeg x1)) = 0 then (some (0, s)) else r_doesFit_17L fu s x1 x2 x3 0 0) else none)
noncomputable def r_isAsked (s : RS) (x1 : Int32) (x2 : Int32) : Option (Int32 × RS) := (bindP (r_in x1 0 (s.v 51)) fun r1 => (if r1 = 0 then (some (0, s)) else (bindP (r_in x2 0 3) fun r3 => (if r3 = 0 then (some (0, s)) else (some (1, s))))))
noncomputable def r_fit_70 (k30 : RS → Int32 → Int32 → Int32 → Int32 → Int32 → Option (Int32 × RS)) (s : RS) (x1 : Int32) (x2 : Int32) (x3 : Int32) (x4 : Int32) (x5 : Int32) : Option (Int32 × RS) := k30 s x1 x2 x3 x4 (x5 + 1)
noncomputable def r_fit_67 (k30 : RS → Int32 → Int32 → Int32 → Int32 → Int32 → Option (Int32 × RS)) (s : RS) (x1 : Int32) (x2 : Int32) (x3 : Int32) (x5 : Int32) (t0 : Int32) (t1 : Int32) : Option (Int32 × RS) := r_fit_70 k30 s x1 x2 x3 (t1 + t0) x5
noncomputable def r_fit_30 (k30 : RS → Int32 → Int32 → Int32 → Int32 → Int32 → Option (Int32 × RS)) (s : RS) (x1 : Int32) (x2 : Int32) (x3 : Int32) (x4 : Int32) (x5 : Int32) : Option (Int32 × RS) := (bindI (r_guesses s) fun r2 s1 => (if r2 ≤ x5 then (some (x4, s1)) else (bindI (r_doesFit s1 x5 x1 x2) fun r5 s4 => (if r5 = 0 then r_fit_70 k30 s4 x1 x2 x3 x4 x5 else (if x3 = 0 then r_fit_67 k30 s4 x1 x2 x3 x5 1 x4 else (if vpb x5 7776 then r_fit_67 k30 s4 x1 x2 x3 x5 (s4.f 50 (Int32.toNatClampNeg x5)) x4 else none))))))
noncomputable def r_fit_30L : Nat → RS → Int32 → Int32 → Int32 → Int32 → Int32 → Option (Int32 × RS)
  | 0, _, _, _, _, _, _ => none
  | n + 1, s, x1, x2, x3, x4, x5 => r_fit_30 (r_fit_30L n) s x1 x2 x3 x4 x5
noncomputable def r_fit (s : RS) (x1 : Int32) (x2 : Int32) (x3 : Int32) : Option (Int32 × RS) := (bindI (r_isAsked s x1 x2) fun r2 s1 => (if r2 = 0 then (some ((-1), s1)) else (bindP (r_in x3 0 1) fun r4 => (if r4 = 0 then (some ((-1), s1)) else (bindP (r_fillsChances s1) fun s6 => r_fit_30L fu s6 x1 x2 x3 0 0)))))
noncomputable def r_lie_82 (k24 : RS → Int32 → Int32 → Int32 → Int32 → Option (Int32 × RS)) (s : RS) (x1 : Int32) (x2 : Int32) (x3 : Int32) (x4 : Int32) : Option (Int32 × RS) := k24 s x1 x2 x3 (x4 + 1)
noncomputable def r_lie_76 (k24 : RS → Int32 → Int32 → Int32 → Int32 → Option (Int32 × RS)) (k50 : RS → Int32 → Int32 → Int32 → Int32 → Int32 → Option (Int32 × RS)) (s : RS) (x1 : Int32) (x2 : Int32) (x3 : Int32) (x4 : Int32) (x5 : Int32) : Option (Int32 × RS) := k50 s x1 x2 x3 x4 (x5 + 1)
noncomputable def r_lie_50 (k24 : RS → Int32 → Int32 → Int32 → Int32 → Option (Int32 × RS)) (k50 : RS → Int32 → Int32 → Int32 → Int32 → Int32 → Option (Int32 × RS)) (s : RS) (x1 : Int32) (x2 : Int32) (x3 : Int32) (x4 : Int32) (x5 : Int32) : Option (Int32 × RS) := (if x1 ≤ x5 then r_lie_82 k24 s x1 x2 x3 x4 else (bindI (r_isSo s x4 x5) fun r3 s2 => (if r3 = 0 then r_lie_76 k24 k50 s2 x1 x2 x3 x4 x5 else r_lie_76 k24 k50 s2 x1 x2 (x3 &&& ((1 <<< (x5 &&& 31)) ^^^ (-1))) x4 x5)))
noncomputable def r_lie_50L (k24 : RS → Int32 → Int32 → Int32 → Int32 → Option (Int32 × RS)) : Nat → RS → Int32 → Int32 → Int32 → Int32 → Int32 → Option (Int32 × RS)
  | 0, _, _, _, _, _, _ => none
  | n + 1, s, x1, x2, x3, x4, x5 => r_lie_50 k24 (r_lie_50L k24 n) s x1 x2 x3 x4 x5
noncomputable def r_lie_24 (k24 : RS → Int32 → Int32 → Int32 → Int32 → Option (Int32 × RS)) (s : RS) (x1 : Int32) (x2 : Int32) (x3 : Int32) (x4 : Int32) : Option (Int32 × RS) := (bindI (r_guesses s) fun r2 s1 => (if r2 ≤ x4 then (some (x3, s1)) else (bindI (r_doesFit s1 x4 x1 x2) fun r5 s4 => (if r5 = 0 then r_lie_82 k24 s4 x1 x2 x3 x4 else r_lie_50L k24 fu s4 x1 x2 x3 x4 0))))
noncomputable def r_lie_24L : Nat → RS → Int32 → Int32 → Int32 → Int32 → Option (Int32 × RS)
  | 0, _, _, _, _, _ => none
  | n + 1, s, x1, x2, x3, x4 => r_lie_24 (r_lie_24L n) s x1 x2 x3 x4
noncomputable def r_lie (s : RS) (x1 : Int32) (x2 : Int32) : Option (Int32 × RS) := (bindI (r_isAsked s x1 x2) fun r2 s1 => (if r2 = 0 then (some ((-1), s1)) else (bindP (r_fillsChances s1) fun s4 => r_lie_24L fu s4 x1 x2 ((1 <<< (x1 &&& 31)) - 1) 0)))
noncomputable def r_worstAt_37 (k4 : RS → Int32 → Int32 → Int32 → Option (Int32 × RS)) (s : RS) (x1 : Int32) (x2 : Int32) (x3 : Int32) : Option (Int32 × RS) := k4 s x1 x2 (x3 + 1)
noncomputable def r_worstAt_4 (k4 : RS → Int32 → Int32 → Int32 → Option (Int32 × RS)) (s : RS) (x1 : Int32) (x2 : Int32) (x3 : Int32) : Option (Int32 × RS) := (if 6 ≤ x3 then (some (x2, s)) else (if vpb ((6 * x1) + x3) 30 then (if (s.f 55 (Int32.toNatClampNeg ((6 * x1) + x3))) ≤ x2 then r_worstAt_37 k4 s x1 x2 x3 else (if vpb ((6 * x1) + x3) 30 then r_worstAt_37 k4 s x1 (s.f 55 (Int32.toNatClampNeg ((6 * x1) + x3))) x3 else none)) else none))
noncomputable def r_worstAt_4L : Nat → RS → Int32 → Int32 → Int32 → Option (Int32 × RS)
  | 0, _, _, _, _ => none
  | n + 1, s, x1, x2, x3 => r_worstAt_4 (r_worstAt_4L n) s x1 x2 x3
noncomputable def r_worstAt (s : RS) (x1 : Int32) : Option (Int32 × RS) := r_worstAt_4L fu s x1 0 0
noncomputable def r_ask_168 (k126 : RS → Int32 → Int32 → Int32 → Option (Int32 × RS)) (s : RS) (x3 : Int32) (x4 : Int32) (x5 : Int32) : Option (Int32 × RS) := k126 s x3 x4 (x5 + 1)
noncomputable def r_ask_164 (k126 : RS → Int32 → Int32 → Int32 → Option (Int32 × RS)) (s : RS) (x3 : Int32) (x5 : Int32) : Option (Int32 × RS) := r_ask_168 k126 s x3 x5 x5
noncomputable def r_ask_126 (k126 : RS → Int32 → Int32 → Int32 → Option (Int32 × RS)) (s : RS) (x3 : Int32) (x4 : Int32) (x5 : Int32) : Option (Int32 × RS) := (if vpb (s.v 18) 2 then (if (s.f 20 (Int32.toNatClampNeg (s.v 18))) ≤ x5 then (some (x4, s)) else (if x3 ≤ 0 then (some (x4, s)) else (if x4 < 0 then r_ask_164 k126 s x3 x5 else (bindI (r_worstAt s x5) fun r6 s5 => (bindI (r_worstAt s5 x4) fun r8 s7 => (if r8 ≤ r6 then r_ask_168 k126 s7 x3 x4 x5 else r_ask_164 k126 s7 x3 x5)))))) else none)
noncomputable def r_ask_126L : Nat → RS → Int32 → Int32 → Int32 → Option (Int32 × RS)
  | 0, _, _, _, _ => none
  | n + 1, s, x3, x4, x5 => r_ask_126 (r_ask_126L n) s x3 x4 x5
noncomputable def r_ask_113 (k41 : RS → Int32 → Int32 → Int32 → Int32 → Option (Int32 × RS)) (s : RS) (x1 : Int32) (x2 : Int32) (x3 : Int32) (x4 : Int32) : Option (Int32 × RS) := k41 s x1 x2 x3 (x4 + 1)
noncomputable def r_ask_70 (k41 : RS → Int32 → Int32 → Int32 → Int32 → Option (Int32 × RS)) (k70 : RS → Int32 → Int32 → Int32 → Int32 → Int32 → Option (Int32 × RS)) (s : RS) (x1 : Int32) (x2 : Int32) (x3 : Int32) (x4 : Int32) (x5 : Int32) : Option (Int32 × RS) := (if vpb (s.v 18) 2 then (if (s.f 20 (Int32.toNatClampNeg (s.v 18))) ≤ x5 then r_ask_113 k41 s x1 x2 x3 x4 else (bindI (r_thingAt s x4 x5) fun r4 s3 => (if vpb ((6 * x5) + r4) 30 then (if vpb ((6 * x5) + r4) 30 then (letS (s3.sf 55 (Int32.toNatClampNeg ((6 * x5) + r4)) ((s3.f 55 (Int32.toNatClampNeg ((6 * x5) + r4))) + 1)) fun s7 => k70 s7 x1 x2 x3 x4 (x5 + 1)) else none) else none))) else none)
noncomputable def r_ask_70L (k41 : RS → Int32 → Int32 → Int32 → Int32 → Option (Int32 × RS)) : Nat → RS → Int32 → Int32 → Int32 → Int32 → Int32 → Option (Int32 × RS)
  | 0, _, _, _, _, _, _ => none
  | n + 1, s, x1, x2, x3, x4, x5 => r_ask_70 k41 (r_ask_70L k41 n) s x1 x2 x3 x4 x5
noncomputable def r_ask_41 (k41 : RS → Int32 → Int32 → Int32 → Int32 → Option (Int32 × RS)) (s : RS) (x1 : Int32) (x2 : Int32) (x3 : Int32) (x4 : Int32) : Option (Int32 × RS) := (bindI (r_guesses s) fun r2 s1 => (if r2 ≤ x4 then r_ask_126L fu s1 x3 (-2) 0 else (bindI (r_doesFit s1 x4 x1 x2) fun r5 s4 => (if r5 = 0 then r_ask_113 k41 s4 x1 x2 x3 x4 else r_ask_70L k41 fu s4 x1 x2 (x3 + 1) x4 0))))
noncomputable def r_ask_41L : Nat → RS → Int32 → Int32 → Int32 → Int32 → Option (Int32 × RS)
  | 0, _, _, _, _, _ => none
  | n + 1, s, x1, x2, x3, x4 => r_ask_41 (r_ask_41L n) s x1 x2 x3 x4
noncomputable def r_ask_17 (k17 : RS → Int32 → Int32 → Int32 → Option (Int32 × RS)) (s : RS) (x1 : Int32) (x2 : Int32) (x3 : Int32) : Option (Int32 × RS) := (if 30 ≤ x3 then r_ask_41L fu s x1 x2 0 0 else (if vpb x3 30 then (letS (s.sf 55 (Int32.toNatClampNeg x3) 0) fun s3 => k17 s3 x1 x2 (x3 + 1)) else none))
noncomputable def r_ask_17L : Nat → RS → Int32 → Int32 → Int32 → Option (Int32 × RS)
  | 0, _, _, _, _ => none
  | n + 1, s, x1, x2, x3 => r_ask_17 (r_ask_17L n) s x1 x2 x3
noncomputable def r_ask (s : RS) (x1 : Int32) (x2 : Int32) : Option (Int32 × RS) := (bindI (r_isAsked s x1 x2) fun r2 s1 => (if r2 = 0 then (some ((-1), s1)) else (bindP (r_fillsChances s1) fun s4 => r_ask_17L fu s4 x1 x2 0)))
noncomputable def r_hold_20 (k20 : RS → Int32 → Int32 → Option (Int32 × RS)) (s : RS) (x1 : Int32) (x2 : Int32) : Option (Int32 × RS) := (if 29 ≤ x2 then (some (1, s)) else (if vpb x2 29 then (if vpb ((29 * x1) + x2) 87 then (letS (s.sf 57 (Int32.toNatClampNeg ((29 * x1) + x2)) (s.f 43 (Int32.toNatClampNeg x2))) fun s4 => k20 s4 x1 (x2 + 1)) else none) else none))
noncomputable def r_hold_20L : Nat → RS → Int32 → Int32 → Option (Int32 × RS)
  | 0, _, _, _ => none
  | n + 1, s, x1, x2 => r_hold_20 (r_hold_20L n) s x1 x2
noncomputable def r_hold (s : RS) (x1 : Int32) : Option (Int32 × RS) := (bindP (r_in x1 0 2) fun r1 => (if r1 = 0 then (some (0, s)) else (if vpb x1 3 then (letS (s.sf 56 (Int32.toNatClampNeg x1) (vp_nar .boolean 1)) fun s4 => r_hold_20L fu s4 x1 0) else none)))
noncomputable def r_restore_22 (k22 : RS → Int32 → Int32 → Option (Int32 × RS)) (s : RS) (x1 : Int32) (x2 : Int32) : Option (Int32 × RS) := (if 29 ≤ x2 then (letS (s.sv 48 0) fun s2 => (some (1, s2))) else (if vpb ((29 * x1) + x2) 87 then (if vpb x2 29 then (letS (s.sf 43 (Int32.toNatClampNeg x2) (s.f 57 (Int32.toNatClampNeg ((29 * x1) + x2)))) fun s6 => k22 s6 x1 (x2 + 1)) else none) else none))
noncomputable def r_restore_22L : Nat → RS → Int32 → Int32 → Option (Int32 × RS)
  | 0, _, _, _ => none
  | n + 1, s, x1, x2 => r_restore_22 (r_restore_22L n) s x1 x2
noncomputable def r_restore (s : RS) (x1 : Int32) : Option (Int32 × RS) := (bindP (r_in x1 0 2) fun r1 => (if r1 = 0 then (some (0, s)) else (if vpb x1 3 then (if (s.f 56 (Int32.toNatClampNeg x1)) = 0 then (some (0, s)) else r_restore_22L fu s x1 0) else none)))
noncomputable def r_partiesIn_36 (k4 : RS → Int32 → Int32 → Int32 → Option (Int32 × RS)) (s : RS) (x1 : Int32) (x2 : Int32) (x3 : Int32) : Option (Int32 × RS) := k4 s x1 x2 (x3 + 1)
noncomputable def r_partiesIn_4 (k4 : RS → Int32 → Int32 → Int32 → Option (Int32 × RS)) (s : RS) (x1 : Int32) (x2 : Int32) (x3 : Int32) : Option (Int32 × RS) := (if vpb (s.v 18) 2 then (if (s.f 23 (Int32.toNatClampNeg (s.v 18))) ≤ x3 then (some (x2, s)) else (if vpb (15 + x3) 29 then (if (s.f 44 (Int32.toNatClampNeg (15 + x3))) = x1 then r_partiesIn_36 k4 s x1 (x2 ||| (1 <<< (x3 &&& 31))) x3 else r_partiesIn_36 k4 s x1 x2 x3) else none)) else none)
noncomputable def r_partiesIn_4L : Nat → RS → Int32 → Int32 → Int32 → Option (Int32 × RS)
  | 0, _, _, _, _ => none
  | n + 1, s, x1, x2, x3 => r_partiesIn_4 (r_partiesIn_4L n) s x1 x2 x3
noncomputable def r_partiesIn (s : RS) (x1 : Int32) : Option (Int32 × RS) := r_partiesIn_4L fu s x1 0 0
noncomputable def r_sumNow_5 (k5 : RS → Int32 → Int32 → Int32 → Int32 → Option (Int32 × RS)) (s : RS) (x1 : Int32) (x2 : Int32) (x3 : Int32) (x4 : Int32) : Option (Int32 × RS) := (if (x1 + x2) ≤ x4 then (some (x3, s)) else (if vpb x4 29 then k5 s x1 x2 (x3 + (s.f 43 (Int32.toNatClampNeg x4))) (x4 + 1) else none))
noncomputable def r_sumNow_5L : Nat → RS → Int32 → Int32 → Int32 → Int32 → Option (Int32 × RS)
  | 0, _, _, _, _, _ => none
  | n + 1, s, x1, x2, x3, x4 => r_sumNow_5 (r_sumNow_5L n) s x1 x2 x3 x4
noncomputable def r_sumNow (s : RS) (x1 : Int32) (x2 : Int32) : Option (Int32 × RS) := r_sumNow_5L fu s x1 x2 0 x1
noncomputable def r_count_202 (s : RS) (t0 : Int32) (t1 : Int32) : Option (Int32 × RS) := (if (s.f 56 2) = 0 then (some (((t1 + t0) + 0), s)) else (some (((t1 + t0) + 1), s)))
noncomputable def r_count_188 (s : RS) (t0 : Int32) : Option (Int32 × RS) := (if (s.f 56 1) = 0 then r_count_202 s 0 t0 else r_count_202 s 1 t0)
noncomputable def r_count_301 (k271 : RS → Int32 → Int32 → Option (Int32 × RS)) (s : RS) (x2 : Int32) (x3 : Int32) : Option (Int32 × RS) := k271 s x2 (x3 + 1)
noncomputable def r_count_271 (k271 : RS → Int32 → Int32 → Option (Int32 × RS)) (s : RS) (x2 : Int32) (x3 : Int32) : Option (Int32 × RS) := (if vpb (s.v 18) 2 then (if (s.f 20 (Int32.toNatClampNeg (s.v 18))) ≤ x3 then (some (x2, s)) else (if vpb (5 + x3) 29 then (if (s.f 44 (Int32.toNatClampNeg (5 + x3))) < 0 then r_count_301 k271 s x2 x3 else r_count_301 k271 s (x2 ||| (1 <<< (x3 &&& 31))) x3) else none)) else none)
noncomputable def r_count_271L : Nat → RS → Int32 → Int32 → Option (Int32 × RS)
  | 0, _, _, _ => none
  | n + 1, s, x2, x3 => r_count_271 (r_count_271L n) s x2 x3
noncomputable def r_count_356 (k329 : RS → Int32 → Int32 → Option (Int32 × RS)) (s : RS) (x2 : Int32) (x3 : Int32) : Option (Int32 × RS) := k329 s x2 (x3 + 1)
noncomputable def r_count_329 (k329 : RS → Int32 → Int32 → Option (Int32 × RS)) (s : RS) (x2 : Int32) (x3 : Int32) : Option (Int32 × RS) := (if vpb (s.v 18) 2 then (if (s.f 20 (Int32.toNatClampNeg (s.v 18))) ≤ x3 then (some (x2, s)) else (bindI (r_mayAt s x3) fun r4 s3 => (if r4 = 0 then r_count_356 k329 s3 (x2 ||| (1 <<< (x3 &&& 31))) x3 else r_count_356 k329 s3 x2 x3))) else none)
noncomputable def r_count_329L : Nat → RS → Int32 → Int32 → Option (Int32 × RS)
  | 0, _, _, _ => none
  | n + 1, s, x2, x3 => r_count_329 (r_count_329L n) s x2 x3
noncomputable def r_count_395 (k366 : RS → Int32 → Int32 → Option (Int32 × RS)) (s : RS) (x2 : Int32) (x3 : Int32) : Option (Int32 × RS) := k366 s x2 (x3 + 1)
noncomputable def r_count_366 (k366 : RS → Int32 → Int32 → Option (Int32 × RS)) (s : RS) (x2 : Int32) (x3 : Int32) : Option (Int32 × RS) := (if vpb (s.v 18) 2 then (if (s.f 23 (Int32.toNatClampNeg (s.v 18))) ≤ x3 then (some (x2, s)) else (bindI (r_isHere s x3) fun r4 s3 => (if r4 = 0 then r_count_395 k366 s3 x2 x3 else (bindI (r_faresOf s3 x3) fun r7 s6 => r_count_395 k366 s6 (x2 + r7) x3)))) else none)
noncomputable def r_count_366L : Nat → RS → Int32 → Int32 → Option (Int32 × RS)
  | 0, _, _, _ => none
  | n + 1, s, x2, x3 => r_count_366 (r_count_366L n) s x2 x3
noncomputable def r_count (s : RS) (x1 : Int32) : Option (Int32 × RS) := (bindP (r_copies s) fun s1 => (if x1 = 0 then (if vpb (s1.v 18) 2 then (some ((s1.f 20 (Int32.toNatClampNeg (s1.v 18))), s1)) else none) else (if x1 = 1 then (if vpb (s1.v 18) 2 then (some ((s1.f 23 (Int32.toNatClampNeg (s1.v 18))), s1)) else none) else (if x1 = 2 then (some ((s1.f 44 27), s1)) else (if x1 = 3 then (some ((s1.f 44 28), s1)) else (if x1 = 4 then (bindI (r_partiesIn s1 0) fun r10 s9 => (some (r10, s9))) else (if x1 = 5 then (bindI (r_partiesIn s1 1) fun r13 s12 => (some (r13, s12))) else (if x1 = 6 then (bindI (r_partiesIn s1 2) fun r16 s15 => (some (r16, s15))) else (if x1 = 7 then (bindI (r_sumNow s1 21 6) fun r19 s18 => (some (r19, s18))) else (if x1 = 8 then (some ((s1.v 2), s1)) else (if x1 = 9 then (some ((s1.v 48), s1)) else (if x1 = 10 then (some ((s1.v 51), s1)) else (if x1 = 11 then (if (s1.f 56 0) = 0 then r_count_188 s1 0 else r_count_188 s1 1) else (if x1 = 12 then (bindP (r_bits (s1.f 44 0)) fun r26 => (bindP (r_bits (s1.f 44 1)) fun r27 => (bindP (r_bits (s1.f 44 2)) fun r28 => (bindP (r_bits (s1.f 44 3)) fun r29 => (bindP (r_bits (s1.f 44 4)) fun r30 => (some (((((r26 + r27) + r28) + r29) + r30), s1))))))) else (if x1 = 13 then r_count_271L fu s1 0 0 else (if x1 = 14 then (bindI (r_guesses s1) fun r34 s33 => (some (r34, s33))) else (if x1 = 15 then (bindI (r_thereNumber s1) fun r37 s36 => (some (r37, s36))) else (if x1 = 16 then (bindI (r_sumNow s1 10 5) fun r40 s39 => (some (r40, s39))) else (if x1 = 17 then r_count_329L fu s1 0 0 else (if x1 = 18 then r_count_366L fu s1 0 0 else (some ((-1), s1))))))))))))))))))))))
end
